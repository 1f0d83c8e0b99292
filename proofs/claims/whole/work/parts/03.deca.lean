theorem dX0_codeOf_0 : decode cX0_codeOf 0 = .ok (.iload_n 0, 1) := by decide +kernel
theorem dX0_codeOf_1 : decode cX0_codeOf 1 = .ok (.iconst 3, 1) := by decide +kernel
theorem dX0_codeOf_2 : decode cX0_codeOf 2 = .ok (.iload_n 1, 1) := by decide +kernel
theorem dX0_codeOf_3 : decode cX0_codeOf 3 = .ok (.imul, 1) := by decide +kernel
theorem dX0_codeOf_4 : decode cX0_codeOf 4 = .ok (.ishr, 1) := by decide +kernel
theorem dX0_codeOf_5 : decode cX0_codeOf 5 = .ok (.bipush 7, 2) := by decide +kernel
theorem dX0_codeOf_7 : decode cX0_codeOf 7 = .ok (.iand, 1) := by decide +kernel
theorem dX0_codeOf_8 : decode cX0_codeOf 8 = .ok (.ireturn, 1) := by decide +kernel
theorem dX0_with_0 : decode cX0_with 0 = .ok (.iload_n 0, 1) := by decide +kernel
theorem dX0_with_1 : decode cX0_with 1 = .ok (.bipush 7, 2) := by decide +kernel
theorem dX0_with_3 : decode cX0_with 3 = .ok (.iconst 3, 1) := by decide +kernel
theorem dX0_with_4 : decode cX0_with 4 = .ok (.iload_n 1, 1) := by decide +kernel
theorem dX0_with_5 : decode cX0_with 5 = .ok (.imul, 1) := by decide +kernel
theorem dX0_with_6 : decode cX0_with 6 = .ok (.ishl, 1) := by decide +kernel
theorem dX0_with_7 : decode cX0_with 7 = .ok (.iconst (-1), 1) := by decide +kernel
theorem dX0_with_8 : decode cX0_with 8 = .ok (.ixor, 1) := by decide +kernel
theorem dX0_with_9 : decode cX0_with 9 = .ok (.iand, 1) := by decide +kernel
theorem dX0_with_10 : decode cX0_with 10 = .ok (.iload_n 2, 1) := by decide +kernel
theorem dX0_with_11 : decode cX0_with 11 = .ok (.iconst 3, 1) := by decide +kernel
theorem dX0_with_12 : decode cX0_with 12 = .ok (.iload_n 1, 1) := by decide +kernel
theorem dX0_with_13 : decode cX0_with 13 = .ok (.imul, 1) := by decide +kernel
theorem dX0_with_14 : decode cX0_with 14 = .ok (.ishl, 1) := by decide +kernel
theorem dX0_with_15 : decode cX0_with 15 = .ok (.ior, 1) := by decide +kernel
theorem dX0_with_16 : decode cX0_with 16 = .ok (.ireturn, 1) := by decide +kernel
theorem dX0_isBusy_0 : decode cX0_isBusy 0 = .ok (.iload_n 0, 1) := by decide +kernel
theorem dX0_isBusy_1 : decode cX0_isBusy 1 = .ok (.ifCond .le 13, 3) := by decide +kernel
theorem dX0_isBusy_4 : decode cX0_isBusy 4 = .ok (.iload_n 0, 1) := by decide +kernel
theorem dX0_isBusy_5 : decode cX0_isBusy 5 = .ok (.bipush 6, 2) := by decide +kernel
theorem dX0_isBusy_7 : decode cX0_isBusy 7 = .ok (.if_icmp .ge 7, 3) := by decide +kernel
theorem dX0_isBusy_10 : decode cX0_isBusy 10 = .ok (.iconst 1, 1) := by decide +kernel
theorem dX0_isBusy_11 : decode cX0_isBusy 11 = .ok (.goto 4, 3) := by decide +kernel
theorem dX0_isBusy_14 : decode cX0_isBusy 14 = .ok (.iconst 0, 1) := by decide +kernel
theorem dX0_isBusy_15 : decode cX0_isBusy 15 = .ok (.ireturn, 1) := by decide +kernel
theorem dX0_state_0 : decode cX0_state 0 = .ok (.iload_n 0, 1) := by decide +kernel
theorem dX0_state_1 : decode cX0_state 1 = .ok (.iload_n 1, 1) := by decide +kernel
theorem dX0_state_2 : decode cX0_state 2 = .ok (.invokestatic 11, 3) := by decide +kernel
theorem dX0_state_5 : decode cX0_state 5 = .ok (.istore_n 2, 1) := by decide +kernel
theorem dX0_state_6 : decode cX0_state 6 = .ok (.iload_n 2, 1) := by decide +kernel
theorem dX0_state_7 : decode cX0_state 7 = .ok (.invokestatic 15, 3) := by decide +kernel
theorem dX0_state_10 : decode cX0_state 10 = .ok (.ifCond .eq 5, 3) := by decide +kernel
theorem dX0_state_13 : decode cX0_state 13 = .ok (.iconst 1, 1) := by decide +kernel
theorem dX0_state_14 : decode cX0_state 14 = .ok (.ireturn, 1) := by decide +kernel
theorem dX0_state_15 : decode cX0_state 15 = .ok (.iload_n 2, 1) := by decide +kernel
theorem dX0_state_16 : decode cX0_state 16 = .ok (.ifCond .ne 7, 3) := by decide +kernel
theorem dX0_state_19 : decode cX0_state 19 = .ok (.iconst 0, 1) := by decide +kernel
theorem dX0_state_20 : decode cX0_state 20 = .ok (.goto 9, 3) := by decide +kernel
theorem dX0_state_23 : decode cX0_state 23 = .ok (.iload_n 2, 1) := by decide +kernel
theorem dX0_state_24 : decode cX0_state 24 = .ok (.bipush 6, 2) := by decide +kernel
theorem dX0_state_26 : decode cX0_state 26 = .ok (.isub, 1) := by decide +kernel
theorem dX0_state_27 : decode cX0_state 27 = .ok (.iconst 2, 1) := by decide +kernel
theorem dX0_state_28 : decode cX0_state 28 = .ok (.iadd, 1) := by decide +kernel
theorem dX0_state_29 : decode cX0_state 29 = .ok (.ireturn, 1) := by decide +kernel
theorem dX0_busyOne_0 : decode cX0_busyOne 0 = .ok (.iconst 0, 1) := by decide +kernel
theorem dX0_busyOne_1 : decode cX0_busyOne 1 = .ok (.istore_n 1, 1) := by decide +kernel
theorem dX0_busyOne_2 : decode cX0_busyOne 2 = .ok (.iload_n 1, 1) := by decide +kernel
theorem dX0_busyOne_3 : decode cX0_busyOne 3 = .ok (.iconst 4, 1) := by decide +kernel
theorem dX0_busyOne_4 : decode cX0_busyOne 4 = .ok (.if_icmp .ge 22, 3) := by decide +kernel
theorem dX0_busyOne_7 : decode cX0_busyOne 7 = .ok (.iload_n 0, 1) := by decide +kernel
theorem dX0_busyOne_8 : decode cX0_busyOne 8 = .ok (.iload_n 1, 1) := by decide +kernel
theorem dX0_busyOne_9 : decode cX0_busyOne 9 = .ok (.invokestatic 11, 3) := by decide +kernel
theorem dX0_busyOne_12 : decode cX0_busyOne 12 = .ok (.invokestatic 15, 3) := by decide +kernel
theorem dX0_busyOne_15 : decode cX0_busyOne 15 = .ok (.ifCond .eq 5, 3) := by decide +kernel
theorem dX0_busyOne_18 : decode cX0_busyOne 18 = .ok (.iload_n 1, 1) := by decide +kernel
theorem dX0_busyOne_19 : decode cX0_busyOne 19 = .ok (.ireturn, 1) := by decide +kernel
theorem dX0_busyOne_20 : decode cX0_busyOne 20 = .ok (.iinc 1 1, 3) := by decide +kernel
theorem dX0_busyOne_23 : decode cX0_busyOne 23 = .ok (.goto (-21), 3) := by decide +kernel
theorem dX0_busyOne_26 : decode cX0_busyOne 26 = .ok (.iconst (-1), 1) := by decide +kernel
theorem dX0_busyOne_27 : decode cX0_busyOne 27 = .ok (.ireturn, 1) := by decide +kernel
theorem dX0_done_0 : decode cX0_done 0 = .ok (.iconst 0, 1) := by decide +kernel
theorem dX0_done_1 : decode cX0_done 1 = .ok (.istore_n 1, 1) := by decide +kernel
theorem dX0_done_2 : decode cX0_done 2 = .ok (.iconst 0, 1) := by decide +kernel
theorem dX0_done_3 : decode cX0_done 3 = .ok (.istore_n 2, 1) := by decide +kernel
theorem dX0_done_4 : decode cX0_done 4 = .ok (.iload_n 2, 1) := by decide +kernel
theorem dX0_done_5 : decode cX0_done 5 = .ok (.iconst 4, 1) := by decide +kernel
theorem dX0_done_6 : decode cX0_done 6 = .ok (.if_icmp .ge 27, 3) := by decide +kernel
theorem dX0_done_9 : decode cX0_done 9 = .ok (.iload_n 1, 1) := by decide +kernel
theorem dX0_done_10 : decode cX0_done 10 = .ok (.iload_n 0, 1) := by decide +kernel
theorem dX0_done_11 : decode cX0_done 11 = .ok (.iload_n 2, 1) := by decide +kernel
theorem dX0_done_12 : decode cX0_done 12 = .ok (.invokestatic 11, 3) := by decide +kernel
theorem dX0_done_15 : decode cX0_done 15 = .ok (.bipush 6, 2) := by decide +kernel
theorem dX0_done_17 : decode cX0_done 17 = .ok (.if_icmp .ne 7, 3) := by decide +kernel
theorem dX0_done_20 : decode cX0_done 20 = .ok (.iconst 1, 1) := by decide +kernel
theorem dX0_done_21 : decode cX0_done 21 = .ok (.goto 4, 3) := by decide +kernel
theorem dX0_done_24 : decode cX0_done 24 = .ok (.iconst 0, 1) := by decide +kernel
theorem dX0_done_25 : decode cX0_done 25 = .ok (.iadd, 1) := by decide +kernel
theorem dX0_done_26 : decode cX0_done 26 = .ok (.istore_n 1, 1) := by decide +kernel
theorem dX0_done_27 : decode cX0_done 27 = .ok (.iinc 2 1, 3) := by decide +kernel
theorem dX0_done_30 : decode cX0_done 30 = .ok (.goto (-26), 3) := by decide +kernel
theorem dX0_done_33 : decode cX0_done 33 = .ok (.iload_n 1, 1) := by decide +kernel
theorem dX0_done_34 : decode cX0_done 34 = .ok (.ireturn, 1) := by decide +kernel
theorem dX0_afterWord_0 : decode cX0_afterWord 0 = .ok (.iload_n 0, 1) := by decide +kernel
theorem dX0_afterWord_1 : decode cX0_afterWord 1 = .ok (.invokestatic 19, 3) := by decide +kernel
theorem dX0_afterWord_4 : decode cX0_afterWord 4 = .ok (.istore_n 2, 1) := by decide +kernel
theorem dX0_afterWord_5 : decode cX0_afterWord 5 = .ok (.iload_n 2, 1) := by decide +kernel
theorem dX0_afterWord_6 : decode cX0_afterWord 6 = .ok (.ifCond .lt 13, 3) := by decide +kernel
theorem dX0_afterWord_9 : decode cX0_afterWord 9 = .ok (.iload_n 1, 1) := by decide +kernel
theorem dX0_afterWord_10 : decode cX0_afterWord 10 = .ok (.iconst 3, 1) := by decide +kernel
theorem dX0_afterWord_11 : decode cX0_afterWord 11 = .ok (.if_icmp .eq 8, 3) := by decide +kernel
theorem dX0_afterWord_14 : decode cX0_afterWord 14 = .ok (.iload_n 1, 1) := by decide +kernel
theorem dX0_afterWord_15 : decode cX0_afterWord 15 = .ok (.iconst 2, 1) := by decide +kernel
theorem dX0_afterWord_16 : decode cX0_afterWord 16 = .ok (.if_icmp .ne 5, 3) := by decide +kernel
theorem dX0_afterWord_19 : decode cX0_afterWord 19 = .ok (.iload_n 0, 1) := by decide +kernel
theorem dX0_afterWord_20 : decode cX0_afterWord 20 = .ok (.ireturn, 1) := by decide +kernel
theorem dX0_afterWord_21 : decode cX0_afterWord 21 = .ok (.iload_n 1, 1) := by decide +kernel
theorem dX0_afterWord_22 : decode cX0_afterWord 22 = .ok (.iconst 5, 1) := by decide +kernel
theorem dX0_afterWord_23 : decode cX0_afterWord 23 = .ok (.if_icmp .ne 11, 3) := by decide +kernel
theorem dX0_afterWord_26 : decode cX0_afterWord 26 = .ok (.iload_n 0, 1) := by decide +kernel
theorem dX0_afterWord_27 : decode cX0_afterWord 27 = .ok (.iload_n 2, 1) := by decide +kernel
theorem dX0_afterWord_28 : decode cX0_afterWord 28 = .ok (.bipush 7, 2) := by decide +kernel
theorem dX0_afterWord_30 : decode cX0_afterWord 30 = .ok (.invokestatic 23, 3) := by decide +kernel
theorem dX0_afterWord_33 : decode cX0_afterWord 33 = .ok (.ireturn, 1) := by decide +kernel
theorem dX0_afterWord_34 : decode cX0_afterWord 34 = .ok (.iload_n 0, 1) := by decide +kernel
theorem dX0_afterWord_35 : decode cX0_afterWord 35 = .ok (.iload_n 2, 1) := by decide +kernel
theorem dX0_afterWord_36 : decode cX0_afterWord 36 = .ok (.invokestatic 11, 3) := by decide +kernel
theorem dX0_afterWord_39 : decode cX0_afterWord 39 = .ok (.iconst 1, 1) := by decide +kernel
theorem dX0_afterWord_40 : decode cX0_afterWord 40 = .ok (.isub, 1) := by decide +kernel
theorem dX0_afterWord_41 : decode cX0_afterWord 41 = .ok (.istore_n 3, 1) := by decide +kernel
theorem dX0_afterWord_42 : decode cX0_afterWord 42 = .ok (.iload_n 0, 1) := by decide +kernel
theorem dX0_afterWord_43 : decode cX0_afterWord 43 = .ok (.iload_n 2, 1) := by decide +kernel
theorem dX0_afterWord_44 : decode cX0_afterWord 44 = .ok (.iload_n 3, 1) := by decide +kernel
theorem dX0_afterWord_45 : decode cX0_afterWord 45 = .ok (.ifCond .ne 8, 3) := by decide +kernel
theorem dX0_afterWord_48 : decode cX0_afterWord 48 = .ok (.bipush 6, 2) := by decide +kernel
theorem dX0_afterWord_50 : decode cX0_afterWord 50 = .ok (.goto 4, 3) := by decide +kernel
theorem dX0_afterWord_53 : decode cX0_afterWord 53 = .ok (.iload_n 3, 1) := by decide +kernel
theorem dX0_afterWord_54 : decode cX0_afterWord 54 = .ok (.invokestatic 23, 3) := by decide +kernel
theorem dX0_afterWord_57 : decode cX0_afterWord 57 = .ok (.ireturn, 1) := by decide +kernel
theorem dX0_index_0 : decode cX0_index 0 = .ok (.iconst 0, 1) := by decide +kernel
theorem dX0_index_1 : decode cX0_index 1 = .ok (.istore_n 1, 1) := by decide +kernel
theorem dX0_index_2 : decode cX0_index 2 = .ok (.iconst (-1), 1) := by decide +kernel
theorem dX0_index_3 : decode cX0_index 3 = .ok (.istore_n 2, 1) := by decide +kernel
theorem dX0_index_4 : decode cX0_index 4 = .ok (.iconst 0, 1) := by decide +kernel
theorem dX0_index_5 : decode cX0_index 5 = .ok (.istore_n 3, 1) := by decide +kernel
theorem dX0_index_6 : decode cX0_index 6 = .ok (.iconst 0, 1) := by decide +kernel
theorem dX0_index_7 : decode cX0_index 7 = .ok (.istore 4, 2) := by decide +kernel
theorem dX0_index_9 : decode cX0_index 9 = .ok (.iload 4, 2) := by decide +kernel
theorem dX0_index_11 : decode cX0_index 11 = .ok (.iconst 4, 1) := by decide +kernel
theorem dX0_index_12 : decode cX0_index 12 = .ok (.if_icmp .ge 55, 3) := by decide +kernel
theorem dX0_index_15 : decode cX0_index 15 = .ok (.iload_n 0, 1) := by decide +kernel
theorem dX0_index_16 : decode cX0_index 16 = .ok (.iload 4, 2) := by decide +kernel
theorem dX0_index_18 : decode cX0_index 18 = .ok (.invokestatic 11, 3) := by decide +kernel
theorem dX0_index_21 : decode cX0_index 21 = .ok (.istore 5, 2) := by decide +kernel
theorem dX0_index_23 : decode cX0_index 23 = .ok (.iload 5, 2) := by decide +kernel
theorem dX0_index_25 : decode cX0_index 25 = .ok (.invokestatic 15, 3) := by decide +kernel
theorem dX0_index_28 : decode cX0_index 28 = .ok (.ifCond .eq 12, 3) := by decide +kernel
theorem dX0_index_31 : decode cX0_index 31 = .ok (.iload 4, 2) := by decide +kernel
theorem dX0_index_33 : decode cX0_index 33 = .ok (.istore_n 2, 1) := by decide +kernel
theorem dX0_index_34 : decode cX0_index 34 = .ok (.iload 5, 2) := by decide +kernel
theorem dX0_index_36 : decode cX0_index 36 = .ok (.istore_n 3, 1) := by decide +kernel
theorem dX0_index_37 : decode cX0_index 37 = .ok (.goto 24, 3) := by decide +kernel
theorem dX0_index_40 : decode cX0_index 40 = .ok (.iload_n 1, 1) := by decide +kernel
theorem dX0_index_41 : decode cX0_index 41 = .ok (.iconst 3, 1) := by decide +kernel
theorem dX0_index_42 : decode cX0_index 42 = .ok (.imul, 1) := by decide +kernel
theorem dX0_index_43 : decode cX0_index 43 = .ok (.iload 5, 2) := by decide +kernel
theorem dX0_index_45 : decode cX0_index 45 = .ok (.ifCond .ne 7, 3) := by decide +kernel
theorem dX0_index_48 : decode cX0_index 48 = .ok (.iconst 0, 1) := by decide +kernel
theorem dX0_index_49 : decode cX0_index 49 = .ok (.goto 10, 3) := by decide +kernel
theorem dX0_index_52 : decode cX0_index 52 = .ok (.iload 5, 2) := by decide +kernel
theorem dX0_index_54 : decode cX0_index 54 = .ok (.bipush 6, 2) := by decide +kernel
theorem dX0_index_56 : decode cX0_index 56 = .ok (.isub, 1) := by decide +kernel
theorem dX0_index_57 : decode cX0_index 57 = .ok (.iconst 1, 1) := by decide +kernel
theorem dX0_index_58 : decode cX0_index 58 = .ok (.iadd, 1) := by decide +kernel
theorem dX0_index_59 : decode cX0_index 59 = .ok (.iadd, 1) := by decide +kernel
theorem dX0_index_60 : decode cX0_index 60 = .ok (.istore_n 1, 1) := by decide +kernel
theorem dX0_index_61 : decode cX0_index 61 = .ok (.iinc 4 1, 3) := by decide +kernel
theorem dX0_index_64 : decode cX0_index 64 = .ok (.goto (-55), 3) := by decide +kernel
theorem dX0_index_67 : decode cX0_index 67 = .ok (.iload_n 2, 1) := by decide +kernel
theorem dX0_index_68 : decode cX0_index 68 = .ok (.ifCond .ge 7, 3) := by decide +kernel
theorem dX0_index_71 : decode cX0_index 71 = .ok (.iload_n 1, 1) := by decide +kernel
theorem dX0_index_72 : decode cX0_index 72 = .ok (.goto 18, 3) := by decide +kernel
theorem dX0_index_75 : decode cX0_index 75 = .ok (.bipush 81, 2) := by decide +kernel
theorem dX0_index_77 : decode cX0_index 77 = .ok (.iload_n 2, 1) := by decide +kernel
theorem dX0_index_78 : decode cX0_index 78 = .ok (.iconst 5, 1) := by decide +kernel
theorem dX0_index_79 : decode cX0_index 79 = .ok (.imul, 1) := by decide +kernel
theorem dX0_index_80 : decode cX0_index 80 = .ok (.iload_n 3, 1) := by decide +kernel
theorem dX0_index_81 : decode cX0_index 81 = .ok (.iadd, 1) := by decide +kernel
theorem dX0_index_82 : decode cX0_index 82 = .ok (.iconst 1, 1) := by decide +kernel
theorem dX0_index_83 : decode cX0_index 83 = .ok (.isub, 1) := by decide +kernel
theorem dX0_index_84 : decode cX0_index 84 = .ok (.bipush 27, 2) := by decide +kernel
theorem dX0_index_86 : decode cX0_index 86 = .ok (.imul, 1) := by decide +kernel
theorem dX0_index_87 : decode cX0_index 87 = .ok (.iadd, 1) := by decide +kernel
theorem dX0_index_88 : decode cX0_index 88 = .ok (.iload_n 1, 1) := by decide +kernel
theorem dX0_index_89 : decode cX0_index 89 = .ok (.iadd, 1) := by decide +kernel
theorem dX0_index_90 : decode cX0_index 90 = .ok (.ireturn, 1) := by decide +kernel
theorem dX1_init_0 : decode cX1_init 0 = .ok (.aload_n 0, 1) := by decide +kernel
theorem dX1_init_1 : decode cX1_init 1 = .ok (.invokespecial 3, 3) := by decide +kernel
theorem dX1_init_4 : decode cX1_init 4 = .ok (.aload_n 0, 1) := by decide +kernel
theorem dX1_init_5 : decode cX1_init 5 = .ok (.bipush 8, 2) := by decide +kernel
theorem dX1_init_7 : decode cX1_init 7 = .ok (.newarray .int, 2) := by decide +kernel
theorem dX1_init_9 : decode cX1_init 9 = .ok (.putfield 9, 3) := by decide +kernel
theorem dX1_init_12 : decode cX1_init 12 = .ok (.aload_n 0, 1) := by decide +kernel
theorem dX1_init_13 : decode cX1_init 13 = .ok (.bipush 8, 2) := by decide +kernel
theorem dX1_init_15 : decode cX1_init 15 = .ok (.newarray .int, 2) := by decide +kernel
theorem dX1_init_17 : decode cX1_init 17 = .ok (.putfield 15, 3) := by decide +kernel
theorem dX1_init_20 : decode cX1_init 20 = .ok (.aload_n 0, 1) := by decide +kernel
theorem dX1_init_21 : decode cX1_init 21 = .ok (.bipush 8, 2) := by decide +kernel
theorem dX1_init_23 : decode cX1_init 23 = .ok (.newarray .int, 2) := by decide +kernel
theorem dX1_init_25 : decode cX1_init 25 = .ok (.putfield 18, 3) := by decide +kernel
theorem dX1_init_28 : decode cX1_init 28 = .ok (.aload_n 0, 1) := by decide +kernel
theorem dX1_init_29 : decode cX1_init 29 = .ok (.sipush 256, 3) := by decide +kernel
theorem dX1_init_32 : decode cX1_init 32 = .ok (.newarray .int, 2) := by decide +kernel
theorem dX1_init_34 : decode cX1_init 34 = .ok (.putfield 21, 3) := by decide +kernel
theorem dX1_init_37 : decode cX1_init 37 = .ok (.aload_n 0, 1) := by decide +kernel
theorem dX1_init_38 : decode cX1_init 38 = .ok (.aload_n 1, 1) := by decide +kernel
theorem dX1_init_39 : decode cX1_init 39 = .ok (.putfield 24, 3) := by decide +kernel
theorem dX1_init_42 : decode cX1_init 42 = .ok (.return_, 1) := by decide +kernel
theorem dX1_hear_0 : decode cX1_hear 0 = .ok (.aload_n 0, 1) := by decide +kernel
theorem dX1_hear_1 : decode cX1_hear 1 = .ok (.iload_n 2, 1) := by decide +kernel
theorem dX1_hear_2 : decode cX1_hear 2 = .ok (.iload_n 3, 1) := by decide +kernel
theorem dX1_hear_3 : decode cX1_hear 3 = .ok (.invokevirtual 28, 3) := by decide +kernel
theorem dX1_hear_6 : decode cX1_hear 6 = .ok (.aload_n 1, 1) := by decide +kernel
theorem dX1_hear_7 : decode cX1_hear 7 = .ok (.iconst 0, 1) := by decide +kernel
theorem dX1_hear_8 : decode cX1_hear 8 = .ok (.aload_n 0, 1) := by decide +kernel
theorem dX1_hear_9 : decode cX1_hear 9 = .ok (.getfield 15, 3) := by decide +kernel
theorem dX1_hear_12 : decode cX1_hear 12 = .ok (.iconst 0, 1) := by decide +kernel
theorem dX1_hear_13 : decode cX1_hear 13 = .ok (.aload_n 0, 1) := by decide +kernel
theorem dX1_hear_14 : decode cX1_hear 14 = .ok (.getfield 32, 3) := by decide +kernel
theorem dX1_hear_17 : decode cX1_hear 17 = .ok (.invokestatic 36, 3) := by decide +kernel
theorem dX1_hear_20 : decode cX1_hear 20 = .ok (.return_, 1) := by decide +kernel
theorem dX1_hearWords_0 : decode cX1_hearWords 0 = .ok (.aload_n 0, 1) := by decide +kernel
theorem dX1_hearWords_1 : decode cX1_hearWords 1 = .ok (.iload_n 2, 1) := by decide +kernel
theorem dX1_hearWords_2 : decode cX1_hearWords 2 = .ok (.bipush 8, 2) := by decide +kernel
theorem dX1_hearWords_4 : decode cX1_hearWords 4 = .ok (.invokevirtual 28, 3) := by decide +kernel
theorem dX1_hearWords_7 : decode cX1_hearWords 7 = .ok (.iconst 0, 1) := by decide +kernel
theorem dX1_hearWords_8 : decode cX1_hearWords 8 = .ok (.istore 4, 2) := by decide +kernel
theorem dX1_hearWords_10 : decode cX1_hearWords 10 = .ok (.iload 4, 2) := by decide +kernel
theorem dX1_hearWords_12 : decode cX1_hearWords 12 = .ok (.aload_n 0, 1) := by decide +kernel
theorem dX1_hearWords_13 : decode cX1_hearWords 13 = .ok (.getfield 32, 3) := by decide +kernel
theorem dX1_hearWords_16 : decode cX1_hearWords 16 = .ok (.if_icmp .ge 28, 3) := by decide +kernel
theorem dX1_hearWords_19 : decode cX1_hearWords 19 = .ok (.aload_n 0, 1) := by decide +kernel
theorem dX1_hearWords_20 : decode cX1_hearWords 20 = .ok (.getfield 15, 3) := by decide +kernel
theorem dX1_hearWords_23 : decode cX1_hearWords 23 = .ok (.iload 4, 2) := by decide +kernel
theorem dX1_hearWords_25 : decode cX1_hearWords 25 = .ok (.aload_n 0, 1) := by decide +kernel
theorem dX1_hearWords_26 : decode cX1_hearWords 26 = .ok (.getfield 24, 3) := by decide +kernel
theorem dX1_hearWords_29 : decode cX1_hearWords 29 = .ok (.getfield 42, 3) := by decide +kernel
theorem dX1_hearWords_32 : decode cX1_hearWords 32 = .ok (.aload_n 1, 1) := by decide +kernel
theorem dX1_hearWords_33 : decode cX1_hearWords 33 = .ok (.iload 4, 2) := by decide +kernel
theorem dX1_hearWords_35 : decode cX1_hearWords 35 = .ok (.iaload, 1) := by decide +kernel
theorem dX1_hearWords_36 : decode cX1_hearWords 36 = .ok (.iaload, 1) := by decide +kernel
theorem dX1_hearWords_37 : decode cX1_hearWords 37 = .ok (.iastore, 1) := by decide +kernel
theorem dX1_hearWords_38 : decode cX1_hearWords 38 = .ok (.iinc 4 1, 3) := by decide +kernel
theorem dX1_hearWords_41 : decode cX1_hearWords 41 = .ok (.goto (-31), 3) := by decide +kernel
theorem dX1_hearWords_44 : decode cX1_hearWords 44 = .ok (.aload_n 0, 1) := by decide +kernel
theorem dX1_hearWords_45 : decode cX1_hearWords 45 = .ok (.iload_n 3, 1) := by decide +kernel
theorem dX1_hearWords_46 : decode cX1_hearWords 46 = .ok (.putfield 47, 3) := by decide +kernel
theorem dX1_hearWords_49 : decode cX1_hearWords 49 = .ok (.return_, 1) := by decide +kernel
theorem dX1_restart_0 : decode cX1_restart 0 = .ok (.aload_n 0, 1) := by decide +kernel
theorem dX1_restart_1 : decode cX1_restart 1 = .ok (.iload_n 1, 1) := by decide +kernel
theorem dX1_restart_2 : decode cX1_restart 2 = .ok (.bipush 8, 2) := by decide +kernel
theorem dX1_restart_4 : decode cX1_restart 4 = .ok (.invokestatic 50, 3) := by decide +kernel
theorem dX1_restart_7 : decode cX1_restart 7 = .ok (.putfield 32, 3) := by decide +kernel
theorem dX1_restart_10 : decode cX1_restart 10 = .ok (.aload_n 0, 1) := by decide +kernel
theorem dX1_restart_11 : decode cX1_restart 11 = .ok (.iload_n 2, 1) := by decide +kernel
theorem dX1_restart_12 : decode cX1_restart 12 = .ok (.putfield 56, 3) := by decide +kernel
theorem dX1_restart_15 : decode cX1_restart 15 = .ok (.aload_n 0, 1) := by decide +kernel
theorem dX1_restart_16 : decode cX1_restart 16 = .ok (.iconst 0, 1) := by decide +kernel
theorem dX1_restart_17 : decode cX1_restart 17 = .ok (.putfield 59, 3) := by decide +kernel
theorem dX1_restart_20 : decode cX1_restart 20 = .ok (.aload_n 0, 1) := by decide +kernel
theorem dX1_restart_21 : decode cX1_restart 21 = .ok (.iconst 0, 1) := by decide +kernel
theorem dX1_restart_22 : decode cX1_restart 22 = .ok (.putfield 62, 3) := by decide +kernel
theorem dX1_restart_25 : decode cX1_restart 25 = .ok (.aload_n 0, 1) := by decide +kernel
theorem dX1_restart_26 : decode cX1_restart 26 = .ok (.iconst 0, 1) := by decide +kernel
theorem dX1_restart_27 : decode cX1_restart 27 = .ok (.putfield 65, 3) := by decide +kernel
theorem dX1_restart_30 : decode cX1_restart 30 = .ok (.aload_n 0, 1) := by decide +kernel
theorem dX1_restart_31 : decode cX1_restart 31 = .ok (.iconst (-1), 1) := by decide +kernel
theorem dX1_restart_32 : decode cX1_restart 32 = .ok (.putfield 47, 3) := by decide +kernel
theorem dX1_restart_35 : decode cX1_restart 35 = .ok (.return_, 1) := by decide +kernel
theorem dX1_listenFrom_0 : decode cX1_listenFrom 0 = .ok (.aload_n 0, 1) := by decide +kernel
theorem dX1_listenFrom_1 : decode cX1_listenFrom 1 = .ok (.iload_n 1, 1) := by decide +kernel
theorem dX1_listenFrom_2 : decode cX1_listenFrom 2 = .ok (.iconst 0, 1) := by decide +kernel
theorem dX1_listenFrom_3 : decode cX1_listenFrom 3 = .ok (.iconst 0, 1) := by decide +kernel
theorem dX1_listenFrom_4 : decode cX1_listenFrom 4 = .ok (.invokevirtual 68, 3) := by decide +kernel
theorem dX1_listenFrom_7 : decode cX1_listenFrom 7 = .ok (.return_, 1) := by decide +kernel
theorem dX1_listen_0 : decode cX1_listen 0 = .ok (.iload_n 2, 1) := by decide +kernel
theorem dX1_listen_1 : decode cX1_listen 1 = .ok (.aload_n 0, 1) := by decide +kernel
theorem dX1_listen_2 : decode cX1_listen 2 = .ok (.getfield 32, 3) := by decide +kernel
theorem dX1_listen_5 : decode cX1_listen 5 = .ok (.if_icmp .ge 45, 3) := by decide +kernel
theorem dX1_listen_8 : decode cX1_listen 8 = .ok (.iconst 0, 1) := by decide +kernel
theorem dX1_listen_9 : decode cX1_listen 9 = .ok (.istore 4, 2) := by decide +kernel
theorem dX1_listen_11 : decode cX1_listen 11 = .ok (.iload 4, 2) := by decide +kernel
theorem dX1_listen_13 : decode cX1_listen 13 = .ok (.aload_n 0, 1) := by decide +kernel
theorem dX1_listen_14 : decode cX1_listen 14 = .ok (.getfield 24, 3) := by decide +kernel
theorem dX1_listen_17 : decode cX1_listen 17 = .ok (.getfield 72, 3) := by decide +kernel
theorem dX1_listen_20 : decode cX1_listen 20 = .ok (.iload_n 1, 1) := by decide +kernel
theorem dX1_listen_21 : decode cX1_listen 21 = .ok (.iaload, 1) := by decide +kernel
theorem dX1_listen_22 : decode cX1_listen 22 = .ok (.if_icmp .ge 25, 3) := by decide +kernel
theorem dX1_listen_25 : decode cX1_listen 25 = .ok (.aload_n 0, 1) := by decide +kernel
theorem dX1_listen_26 : decode cX1_listen 26 = .ok (.aload_n 0, 1) := by decide +kernel
theorem dX1_listen_27 : decode cX1_listen 27 = .ok (.getfield 24, 3) := by decide +kernel
theorem dX1_listen_30 : decode cX1_listen 30 = .ok (.iload_n 1, 1) := by decide +kernel
theorem dX1_listen_31 : decode cX1_listen 31 = .ok (.iload 4, 2) := by decide +kernel
theorem dX1_listen_33 : decode cX1_listen 33 = .ok (.invokevirtual 75, 3) := by decide +kernel
theorem dX1_listen_36 : decode cX1_listen 36 = .ok (.iload_n 2, 1) := by decide +kernel
theorem dX1_listen_37 : decode cX1_listen 37 = .ok (.iload_n 3, 1) := by decide +kernel
theorem dX1_listen_38 : decode cX1_listen 38 = .ok (.invokevirtual 78, 3) := by decide +kernel
theorem dX1_listen_41 : decode cX1_listen 41 = .ok (.iinc 4 1, 3) := by decide +kernel
theorem dX1_listen_44 : decode cX1_listen 44 = .ok (.goto (-33), 3) := by decide +kernel
theorem dX1_listen_47 : decode cX1_listen 47 = .ok (.goto 28, 3) := by decide +kernel
theorem dX1_listen_50 : decode cX1_listen 50 = .ok (.aload_n 0, 1) := by decide +kernel
theorem dX1_listen_51 : decode cX1_listen 51 = .ok (.getfield 24, 3) := by decide +kernel
theorem dX1_listen_54 : decode cX1_listen 54 = .ok (.iload_n 1, 1) := by decide +kernel
theorem dX1_listen_55 : decode cX1_listen 55 = .ok (.invokevirtual 81, 3) := by decide +kernel
theorem dX1_listen_58 : decode cX1_listen 58 = .ok (.ifCond .eq 17, 3) := by decide +kernel
theorem dX1_listen_61 : decode cX1_listen 61 = .ok (.aload_n 0, 1) := by decide +kernel
theorem dX1_listen_62 : decode cX1_listen 62 = .ok (.aload_n 0, 1) := by decide +kernel
theorem dX1_listen_63 : decode cX1_listen 63 = .ok (.getfield 24, 3) := by decide +kernel
theorem dX1_listen_66 : decode cX1_listen 66 = .ok (.getfield 85, 3) := by decide +kernel
theorem dX1_listen_69 : decode cX1_listen 69 = .ok (.iload_n 1, 1) := by decide +kernel
theorem dX1_listen_70 : decode cX1_listen 70 = .ok (.iaload, 1) := by decide +kernel
theorem dX1_listen_71 : decode cX1_listen 71 = .ok (.iload_n 3, 1) := by decide +kernel
theorem dX1_listen_72 : decode cX1_listen 72 = .ok (.invokevirtual 88, 3) := by decide +kernel
theorem dX1_listen_75 : decode cX1_listen 75 = .ok (.return_, 1) := by decide +kernel
theorem dX1_follow_0 : decode cX1_follow 0 = .ok (.aload_n 0, 1) := by decide +kernel
theorem dX1_follow_1 : decode cX1_follow 1 = .ok (.getfield 15, 3) := by decide +kernel
theorem dX1_follow_4 : decode cX1_follow 4 = .ok (.iload_n 2, 1) := by decide +kernel
theorem dX1_follow_5 : decode cX1_follow 5 = .ok (.iaload, 1) := by decide +kernel
theorem dX1_follow_6 : decode cX1_follow 6 = .ok (.bipush (-9), 2) := by decide +kernel
theorem dX1_follow_8 : decode cX1_follow 8 = .ok (.if_icmp .eq 21, 3) := by decide +kernel
theorem dX1_follow_11 : decode cX1_follow 11 = .ok (.aload_n 0, 1) := by decide +kernel
theorem dX1_follow_12 : decode cX1_follow 12 = .ok (.getfield 15, 3) := by decide +kernel
theorem dX1_follow_15 : decode cX1_follow 15 = .ok (.iload_n 2, 1) := by decide +kernel
theorem dX1_follow_16 : decode cX1_follow 16 = .ok (.iaload, 1) := by decide +kernel
theorem dX1_follow_17 : decode cX1_follow 17 = .ok (.aload_n 0, 1) := by decide +kernel
theorem dX1_follow_18 : decode cX1_follow 18 = .ok (.getfield 24, 3) := by decide +kernel
theorem dX1_follow_21 : decode cX1_follow 21 = .ok (.getfield 42, 3) := by decide +kernel
theorem dX1_follow_24 : decode cX1_follow 24 = .ok (.iload_n 1, 1) := by decide +kernel
theorem dX1_follow_25 : decode cX1_follow 25 = .ok (.iaload, 1) := by decide +kernel
theorem dX1_follow_26 : decode cX1_follow 26 = .ok (.if_icmp .ne 7, 3) := by decide +kernel
theorem dX1_follow_29 : decode cX1_follow 29 = .ok (.iconst 1, 1) := by decide +kernel
theorem dX1_follow_30 : decode cX1_follow 30 = .ok (.goto 4, 3) := by decide +kernel
theorem dX1_follow_33 : decode cX1_follow 33 = .ok (.iconst 0, 1) := by decide +kernel
theorem dX1_follow_34 : decode cX1_follow 34 = .ok (.istore 4, 2) := by decide +kernel
theorem dX1_follow_36 : decode cX1_follow 36 = .ok (.iload 4, 2) := by decide +kernel
theorem dX1_follow_38 : decode cX1_follow 38 = .ok (.ifCond .eq 7, 3) := by decide +kernel
theorem dX1_follow_41 : decode cX1_follow 41 = .ok (.iload_n 3, 1) := by decide +kernel
theorem dX1_follow_42 : decode cX1_follow 42 = .ok (.goto 8, 3) := by decide +kernel
theorem dX1_follow_45 : decode cX1_follow 45 = .ok (.iload_n 3, 1) := by decide +kernel
theorem dX1_follow_46 : decode cX1_follow 46 = .ok (.iconst 1, 1) := by decide +kernel
theorem dX1_follow_47 : decode cX1_follow 47 = .ok (.iload_n 2, 1) := by decide +kernel
theorem dX1_follow_48 : decode cX1_follow 48 = .ok (.ishl, 1) := by decide +kernel
theorem dX1_follow_49 : decode cX1_follow 49 = .ok (.ior, 1) := by decide +kernel
theorem dX1_follow_50 : decode cX1_follow 50 = .ok (.istore 5, 2) := by decide +kernel
theorem dX1_follow_52 : decode cX1_follow 52 = .ok (.iload 5, 2) := by decide +kernel
theorem dX1_follow_54 : decode cX1_follow 54 = .ok (.invokestatic 91, 3) := by decide +kernel
theorem dX1_follow_57 : decode cX1_follow 57 = .ok (.aload_n 0, 1) := by decide +kernel
theorem dX1_follow_58 : decode cX1_follow 58 = .ok (.getfield 56, 3) := by decide +kernel
theorem dX1_follow_61 : decode cX1_follow 61 = .ok (.if_icmp .gt 28, 3) := by decide +kernel
theorem dX1_follow_64 : decode cX1_follow 64 = .ok (.aload_n 0, 1) := by decide +kernel
theorem dX1_follow_65 : decode cX1_follow 65 = .ok (.getfield 18, 3) := by decide +kernel
theorem dX1_follow_68 : decode cX1_follow 68 = .ok (.iload_n 2, 1) := by decide +kernel
theorem dX1_follow_69 : decode cX1_follow 69 = .ok (.iload_n 1, 1) := by decide +kernel
theorem dX1_follow_70 : decode cX1_follow 70 = .ok (.iastore, 1) := by decide +kernel
theorem dX1_follow_71 : decode cX1_follow 71 = .ok (.aload_n 0, 1) := by decide +kernel
theorem dX1_follow_72 : decode cX1_follow 72 = .ok (.aload_n 0, 1) := by decide +kernel
theorem dX1_follow_73 : decode cX1_follow 73 = .ok (.getfield 24, 3) := by decide +kernel
theorem dX1_follow_76 : decode cX1_follow 76 = .ok (.getfield 97, 3) := by decide +kernel
theorem dX1_follow_79 : decode cX1_follow 79 = .ok (.iload_n 1, 1) := by decide +kernel
theorem dX1_follow_80 : decode cX1_follow 80 = .ok (.iaload, 1) := by decide +kernel
theorem dX1_follow_81 : decode cX1_follow 81 = .ok (.iload_n 2, 1) := by decide +kernel
theorem dX1_follow_82 : decode cX1_follow 82 = .ok (.iconst 1, 1) := by decide +kernel
theorem dX1_follow_83 : decode cX1_follow 83 = .ok (.iadd, 1) := by decide +kernel
theorem dX1_follow_84 : decode cX1_follow 84 = .ok (.iload 5, 2) := by decide +kernel
theorem dX1_follow_86 : decode cX1_follow 86 = .ok (.invokevirtual 68, 3) := by decide +kernel
theorem dX1_follow_89 : decode cX1_follow 89 = .ok (.return_, 1) := by decide +kernel
theorem dX1_arrive_0 : decode cX1_arrive 0 = .ok (.aload_n 0, 1) := by decide +kernel
theorem dX1_arrive_1 : decode cX1_arrive 1 = .ok (.getfield 59, 3) := by decide +kernel
theorem dX1_arrive_4 : decode cX1_arrive 4 = .ok (.ifCond .ne 20, 3) := by decide +kernel
theorem dX1_arrive_7 : decode cX1_arrive 7 = .ok (.aload_n 0, 1) := by decide +kernel
theorem dX1_arrive_8 : decode cX1_arrive 8 = .ok (.getfield 18, 3) := by decide +kernel
theorem dX1_arrive_11 : decode cX1_arrive 11 = .ok (.iconst 0, 1) := by decide +kernel
theorem dX1_arrive_12 : decode cX1_arrive 12 = .ok (.aload_n 0, 1) := by decide +kernel
theorem dX1_arrive_13 : decode cX1_arrive 13 = .ok (.getfield 9, 3) := by decide +kernel
theorem dX1_arrive_16 : decode cX1_arrive 16 = .ok (.iconst 0, 1) := by decide +kernel
theorem dX1_arrive_17 : decode cX1_arrive 17 = .ok (.aload_n 0, 1) := by decide +kernel
theorem dX1_arrive_18 : decode cX1_arrive 18 = .ok (.getfield 32, 3) := by decide +kernel
theorem dX1_arrive_21 : decode cX1_arrive 21 = .ok (.invokestatic 36, 3) := by decide +kernel
theorem dX1_arrive_24 : decode cX1_arrive 24 = .ok (.aload_n 0, 1) := by decide +kernel
theorem dX1_arrive_25 : decode cX1_arrive 25 = .ok (.dup, 1) := by decide +kernel
theorem dX1_arrive_26 : decode cX1_arrive 26 = .ok (.getfield 59, 3) := by decide +kernel
theorem dX1_arrive_29 : decode cX1_arrive 29 = .ok (.iconst 1, 1) := by decide +kernel
theorem dX1_arrive_30 : decode cX1_arrive 30 = .ok (.iadd, 1) := by decide +kernel
theorem dX1_arrive_31 : decode cX1_arrive 31 = .ok (.putfield 59, 3) := by decide +kernel
theorem dX1_arrive_34 : decode cX1_arrive 34 = .ok (.aload_n 0, 1) := by decide +kernel
theorem dX1_arrive_35 : decode cX1_arrive 35 = .ok (.dup, 1) := by decide +kernel
theorem dX1_arrive_36 : decode cX1_arrive 36 = .ok (.getfield 62, 3) := by decide +kernel
theorem dX1_arrive_39 : decode cX1_arrive 39 = .ok (.iconst 1, 1) := by decide +kernel
theorem dX1_arrive_40 : decode cX1_arrive 40 = .ok (.iload_n 1, 1) := by decide +kernel
theorem dX1_arrive_41 : decode cX1_arrive 41 = .ok (.ishl, 1) := by decide +kernel
theorem dX1_arrive_42 : decode cX1_arrive 42 = .ok (.ior, 1) := by decide +kernel
theorem dX1_arrive_43 : decode cX1_arrive 43 = .ok (.putfield 62, 3) := by decide +kernel
theorem dX1_arrive_46 : decode cX1_arrive 46 = .ok (.iload_n 1, 1) := by decide +kernel
theorem dX1_arrive_47 : decode cX1_arrive 47 = .ok (.aload_n 0, 1) := by decide +kernel
theorem dX1_arrive_48 : decode cX1_arrive 48 = .ok (.getfield 47, 3) := by decide +kernel
theorem dX1_arrive_51 : decode cX1_arrive 51 = .ok (.if_icmp .eq 33, 3) := by decide +kernel
theorem dX1_arrive_54 : decode cX1_arrive 54 = .ok (.aload_n 0, 1) := by decide +kernel
theorem dX1_arrive_55 : decode cX1_arrive 55 = .ok (.getfield 65, 3) := by decide +kernel
theorem dX1_arrive_58 : decode cX1_arrive 58 = .ok (.sipush 256, 3) := by decide +kernel
theorem dX1_arrive_61 : decode cX1_arrive 61 = .ok (.if_icmp .ge 23, 3) := by decide +kernel
theorem dX1_arrive_64 : decode cX1_arrive 64 = .ok (.aload_n 0, 1) := by decide +kernel
theorem dX1_arrive_65 : decode cX1_arrive 65 = .ok (.getfield 21, 3) := by decide +kernel
theorem dX1_arrive_68 : decode cX1_arrive 68 = .ok (.aload_n 0, 1) := by decide +kernel
theorem dX1_arrive_69 : decode cX1_arrive 69 = .ok (.getfield 65, 3) := by decide +kernel
theorem dX1_arrive_72 : decode cX1_arrive 72 = .ok (.iload_n 2, 1) := by decide +kernel
theorem dX1_arrive_73 : decode cX1_arrive 73 = .ok (.iastore, 1) := by decide +kernel
theorem dX1_arrive_74 : decode cX1_arrive 74 = .ok (.aload_n 0, 1) := by decide +kernel
theorem dX1_arrive_75 : decode cX1_arrive 75 = .ok (.dup, 1) := by decide +kernel
theorem dX1_arrive_76 : decode cX1_arrive 76 = .ok (.getfield 65, 3) := by decide +kernel
theorem dX1_arrive_79 : decode cX1_arrive 79 = .ok (.iconst 1, 1) := by decide +kernel
theorem dX1_arrive_80 : decode cX1_arrive 80 = .ok (.iadd, 1) := by decide +kernel
theorem dX1_arrive_81 : decode cX1_arrive 81 = .ok (.putfield 65, 3) := by decide +kernel
theorem dX1_arrive_84 : decode cX1_arrive 84 = .ok (.return_, 1) := by decide +kernel
theorem dX1_fewestPlaces_0 : decode cX1_fewestPlaces 0 = .ok (.iconst 1, 1) := by decide +kernel
theorem dX1_fewestPlaces_1 : decode cX1_fewestPlaces 1 = .ok (.aload_n 0, 1) := by decide +kernel
theorem dX1_fewestPlaces_2 : decode cX1_fewestPlaces 2 = .ok (.getfield 32, 3) := by decide +kernel
theorem dX1_fewestPlaces_5 : decode cX1_fewestPlaces 5 = .ok (.ishl, 1) := by decide +kernel
theorem dX1_fewestPlaces_6 : decode cX1_fewestPlaces 6 = .ok (.iconst 1, 1) := by decide +kernel
theorem dX1_fewestPlaces_7 : decode cX1_fewestPlaces 7 = .ok (.isub, 1) := by decide +kernel
theorem dX1_fewestPlaces_8 : decode cX1_fewestPlaces 8 = .ok (.istore_n 1, 1) := by decide +kernel
theorem dX1_fewestPlaces_9 : decode cX1_fewestPlaces 9 = .ok (.iconst 0, 1) := by decide +kernel
theorem dX1_fewestPlaces_10 : decode cX1_fewestPlaces 10 = .ok (.istore_n 2, 1) := by decide +kernel
theorem dX1_fewestPlaces_11 : decode cX1_fewestPlaces 11 = .ok (.iload_n 2, 1) := by decide +kernel
theorem dX1_fewestPlaces_12 : decode cX1_fewestPlaces 12 = .ok (.iconst 1, 1) := by decide +kernel
theorem dX1_fewestPlaces_13 : decode cX1_fewestPlaces 13 = .ok (.aload_n 0, 1) := by decide +kernel
theorem dX1_fewestPlaces_14 : decode cX1_fewestPlaces 14 = .ok (.getfield 32, 3) := by decide +kernel
theorem dX1_fewestPlaces_17 : decode cX1_fewestPlaces 17 = .ok (.ishl, 1) := by decide +kernel
theorem dX1_fewestPlaces_18 : decode cX1_fewestPlaces 18 = .ok (.if_icmp .ge 30, 3) := by decide +kernel
theorem dX1_fewestPlaces_21 : decode cX1_fewestPlaces 21 = .ok (.iload_n 2, 1) := by decide +kernel
theorem dX1_fewestPlaces_22 : decode cX1_fewestPlaces 22 = .ok (.invokestatic 91, 3) := by decide +kernel
theorem dX1_fewestPlaces_25 : decode cX1_fewestPlaces 25 = .ok (.iload_n 1, 1) := by decide +kernel
theorem dX1_fewestPlaces_26 : decode cX1_fewestPlaces 26 = .ok (.invokestatic 91, 3) := by decide +kernel
theorem dX1_fewestPlaces_29 : decode cX1_fewestPlaces 29 = .ok (.if_icmp .ge 13, 3) := by decide +kernel
theorem dX1_fewestPlaces_32 : decode cX1_fewestPlaces 32 = .ok (.aload_n 0, 1) := by decide +kernel
theorem dX1_fewestPlaces_33 : decode cX1_fewestPlaces 33 = .ok (.iload_n 2, 1) := by decide +kernel
theorem dX1_fewestPlaces_34 : decode cX1_fewestPlaces 34 = .ok (.invokevirtual 100, 3) := by decide +kernel
theorem dX1_fewestPlaces_37 : decode cX1_fewestPlaces 37 = .ok (.ifCond .eq 5, 3) := by decide +kernel
theorem dX1_fewestPlaces_40 : decode cX1_fewestPlaces 40 = .ok (.iload_n 2, 1) := by decide +kernel
theorem dX1_fewestPlaces_41 : decode cX1_fewestPlaces 41 = .ok (.istore_n 1, 1) := by decide +kernel
theorem dX1_fewestPlaces_42 : decode cX1_fewestPlaces 42 = .ok (.iinc 2 1, 3) := by decide +kernel
theorem dX1_fewestPlaces_45 : decode cX1_fewestPlaces 45 = .ok (.goto (-34), 3) := by decide +kernel
theorem dX1_fewestPlaces_48 : decode cX1_fewestPlaces 48 = .ok (.iload_n 1, 1) := by decide +kernel
theorem dX1_fewestPlaces_49 : decode cX1_fewestPlaces 49 = .ok (.ireturn, 1) := by decide +kernel
theorem dX1_findsOutAll_0 : decode cX1_findsOutAll 0 = .ok (.iconst 0, 1) := by decide +kernel
theorem dX1_findsOutAll_1 : decode cX1_findsOutAll 1 = .ok (.istore_n 2, 1) := by decide +kernel
theorem dX1_findsOutAll_2 : decode cX1_findsOutAll 2 = .ok (.iload_n 2, 1) := by decide +kernel
theorem dX1_findsOutAll_3 : decode cX1_findsOutAll 3 = .ok (.aload_n 0, 1) := by decide +kernel
theorem dX1_findsOutAll_4 : decode cX1_findsOutAll 4 = .ok (.getfield 65, 3) := by decide +kernel
theorem dX1_findsOutAll_7 : decode cX1_findsOutAll 7 = .ok (.if_icmp .ge 22, 3) := by decide +kernel
theorem dX1_findsOutAll_10 : decode cX1_findsOutAll 10 = .ok (.aload_n 0, 1) := by decide +kernel
theorem dX1_findsOutAll_11 : decode cX1_findsOutAll 11 = .ok (.getfield 21, 3) := by decide +kernel
theorem dX1_findsOutAll_14 : decode cX1_findsOutAll 14 = .ok (.iload_n 2, 1) := by decide +kernel
theorem dX1_findsOutAll_15 : decode cX1_findsOutAll 15 = .ok (.iaload, 1) := by decide +kernel
theorem dX1_findsOutAll_16 : decode cX1_findsOutAll 16 = .ok (.iload_n 1, 1) := by decide +kernel
theorem dX1_findsOutAll_17 : decode cX1_findsOutAll 17 = .ok (.iand, 1) := by decide +kernel
theorem dX1_findsOutAll_18 : decode cX1_findsOutAll 18 = .ok (.ifCond .ne 5, 3) := by decide +kernel
theorem dX1_findsOutAll_21 : decode cX1_findsOutAll 21 = .ok (.iconst 0, 1) := by decide +kernel
theorem dX1_findsOutAll_22 : decode cX1_findsOutAll 22 = .ok (.ireturn, 1) := by decide +kernel
theorem dX1_findsOutAll_23 : decode cX1_findsOutAll 23 = .ok (.iinc 2 1, 3) := by decide +kernel
theorem dX1_findsOutAll_26 : decode cX1_findsOutAll 26 = .ok (.goto (-24), 3) := by decide +kernel
theorem dX1_findsOutAll_29 : decode cX1_findsOutAll 29 = .ok (.iconst 1, 1) := by decide +kernel
theorem dX1_findsOutAll_30 : decode cX1_findsOutAll 30 = .ok (.ireturn, 1) := by decide +kernel
theorem dX2_init_0 : decode cX2_init 0 = .ok (.aload_n 0, 1) := by decide +kernel
theorem dX2_init_1 : decode cX2_init 1 = .ok (.invokespecial 3, 3) := by decide +kernel
theorem dX2_init_4 : decode cX2_init 4 = .ok (.aload_n 0, 1) := by decide +kernel
theorem dX2_init_5 : decode cX2_init 5 = .ok (.bipush 9, 2) := by decide +kernel
theorem dX2_init_7 : decode cX2_init 7 = .ok (.newarray .int, 2) := by decide +kernel
theorem dX2_init_9 : decode cX2_init 9 = .ok (.putfield 9, 3) := by decide +kernel
theorem dX2_init_12 : decode cX2_init 12 = .ok (.aload_n 0, 1) := by decide +kernel
theorem dX2_init_13 : decode cX2_init 13 = .ok (.bipush 9, 2) := by decide +kernel
theorem dX2_init_15 : decode cX2_init 15 = .ok (.newarray .int, 2) := by decide +kernel
theorem dX2_init_17 : decode cX2_init 17 = .ok (.putfield 15, 3) := by decide +kernel
theorem dX2_init_20 : decode cX2_init 20 = .ok (.aload_n 0, 1) := by decide +kernel
theorem dX2_init_21 : decode cX2_init 21 = .ok (.bipush 9, 2) := by decide +kernel
theorem dX2_init_23 : decode cX2_init 23 = .ok (.newarray .int, 2) := by decide +kernel
theorem dX2_init_25 : decode cX2_init 25 = .ok (.putfield 18, 3) := by decide +kernel
theorem dX2_init_28 : decode cX2_init 28 = .ok (.aload_n 0, 1) := by decide +kernel
theorem dX2_init_29 : decode cX2_init 29 = .ok (.bipush 9, 2) := by decide +kernel
theorem dX2_init_31 : decode cX2_init 31 = .ok (.newarray .int, 2) := by decide +kernel
theorem dX2_init_33 : decode cX2_init 33 = .ok (.putfield 21, 3) := by decide +kernel
theorem dX2_init_36 : decode cX2_init 36 = .ok (.aload_n 0, 1) := by decide +kernel
theorem dX2_init_37 : decode cX2_init 37 = .ok (.bipush 9, 2) := by decide +kernel
theorem dX2_init_39 : decode cX2_init 39 = .ok (.newarray .int, 2) := by decide +kernel
theorem dX2_init_41 : decode cX2_init 41 = .ok (.putfield 24, 3) := by decide +kernel
theorem dX2_init_44 : decode cX2_init 44 = .ok (.aload_n 0, 1) := by decide +kernel
theorem dX2_init_45 : decode cX2_init 45 = .ok (.bipush 9, 2) := by decide +kernel
theorem dX2_init_47 : decode cX2_init 47 = .ok (.newarray .int, 2) := by decide +kernel
theorem dX2_init_49 : decode cX2_init 49 = .ok (.putfield 27, 3) := by decide +kernel
theorem dX2_init_52 : decode cX2_init 52 = .ok (.aload_n 0, 1) := by decide +kernel
theorem dX2_init_53 : decode cX2_init 53 = .ok (.bipush 9, 2) := by decide +kernel
theorem dX2_init_55 : decode cX2_init 55 = .ok (.bipush 9, 2) := by decide +kernel
theorem dX2_init_57 : decode cX2_init 57 = .ok (.multianewarray 30 2, 4) := by decide +kernel
theorem dX2_init_61 : decode cX2_init 61 = .ok (.putfield 32, 3) := by decide +kernel
theorem dX2_init_64 : decode cX2_init 64 = .ok (.aload_n 0, 1) := by decide +kernel
theorem dX2_init_65 : decode cX2_init 65 = .ok (.bipush 10, 2) := by decide +kernel
theorem dX2_init_67 : decode cX2_init 67 = .ok (.newarray .int, 2) := by decide +kernel
theorem dX2_init_69 : decode cX2_init 69 = .ok (.putfield 35, 3) := by decide +kernel
theorem dX2_init_72 : decode cX2_init 72 = .ok (.aload_n 0, 1) := by decide +kernel
theorem dX2_init_73 : decode cX2_init 73 = .ok (.bipush 9, 2) := by decide +kernel
theorem dX2_init_75 : decode cX2_init 75 = .ok (.newarray .int, 2) := by decide +kernel
theorem dX2_init_77 : decode cX2_init 77 = .ok (.putfield 38, 3) := by decide +kernel
theorem dX2_init_80 : decode cX2_init 80 = .ok (.aload_n 0, 1) := by decide +kernel
theorem dX2_init_81 : decode cX2_init 81 = .ok (.aload_n 1, 1) := by decide +kernel
theorem dX2_init_82 : decode cX2_init 82 = .ok (.putfield 41, 3) := by decide +kernel
theorem dX2_init_85 : decode cX2_init 85 = .ok (.return_, 1) := by decide +kernel
theorem dX2_study_0 : decode cX2_study 0 = .ok (.aload_n 0, 1) := by decide +kernel
theorem dX2_study_1 : decode cX2_study 1 = .ok (.getfield 35, 3) := by decide +kernel
theorem dX2_study_4 : decode cX2_study 4 = .ok (.iconst 1, 1) := by decide +kernel
theorem dX2_study_5 : decode cX2_study 5 = .ok (.invokestatic 45, 3) := by decide +kernel
theorem dX2_study_8 : decode cX2_study 8 = .ok (.aload_n 0, 1) := by decide +kernel
theorem dX2_study_9 : decode cX2_study 9 = .ok (.getfield 41, 3) := by decide +kernel
theorem dX2_study_12 : decode cX2_study 12 = .ok (.getfield 51, 3) := by decide +kernel
theorem dX2_study_15 : decode cX2_study 15 = .ok (.iconst 1, 1) := by decide +kernel
theorem dX2_study_16 : decode cX2_study 16 = .ok (.isub, 1) := by decide +kernel
theorem dX2_study_17 : decode cX2_study 17 = .ok (.istore_n 1, 1) := by decide +kernel
theorem dX2_study_18 : decode cX2_study 18 = .ok (.iload_n 1, 1) := by decide +kernel
theorem dX2_study_19 : decode cX2_study 19 = .ok (.ifCond .lt 87, 3) := by decide +kernel
theorem dX2_study_22 : decode cX2_study 22 = .ok (.aload_n 0, 1) := by decide +kernel
theorem dX2_study_23 : decode cX2_study 23 = .ok (.getfield 32, 3) := by decide +kernel
theorem dX2_study_26 : decode cX2_study 26 = .ok (.iload_n 1, 1) := by decide +kernel
theorem dX2_study_27 : decode cX2_study 27 = .ok (.aaload, 1) := by decide +kernel
theorem dX2_study_28 : decode cX2_study 28 = .ok (.iconst 0, 1) := by decide +kernel
theorem dX2_study_29 : decode cX2_study 29 = .ok (.invokestatic 45, 3) := by decide +kernel
theorem dX2_study_32 : decode cX2_study 32 = .ok (.aload_n 0, 1) := by decide +kernel
theorem dX2_study_33 : decode cX2_study 33 = .ok (.getfield 27, 3) := by decide +kernel
theorem dX2_study_36 : decode cX2_study 36 = .ok (.iload_n 1, 1) := by decide +kernel
theorem dX2_study_37 : decode cX2_study 37 = .ok (.iconst 0, 1) := by decide +kernel
theorem dX2_study_38 : decode cX2_study 38 = .ok (.iastore, 1) := by decide +kernel
theorem dX2_study_39 : decode cX2_study 39 = .ok (.aload_n 0, 1) := by decide +kernel
theorem dX2_study_40 : decode cX2_study 40 = .ok (.getfield 35, 3) := by decide +kernel
theorem dX2_study_43 : decode cX2_study 43 = .ok (.iload_n 1, 1) := by decide +kernel
theorem dX2_study_44 : decode cX2_study 44 = .ok (.aload_n 0, 1) := by decide +kernel
theorem dX2_study_45 : decode cX2_study 45 = .ok (.getfield 35, 3) := by decide +kernel
theorem dX2_study_48 : decode cX2_study 48 = .ok (.iload_n 1, 1) := by decide +kernel
theorem dX2_study_49 : decode cX2_study 49 = .ok (.iconst 1, 1) := by decide +kernel
theorem dX2_study_50 : decode cX2_study 50 = .ok (.iadd, 1) := by decide +kernel
theorem dX2_study_51 : decode cX2_study 51 = .ok (.iaload, 1) := by decide +kernel
theorem dX2_study_52 : decode cX2_study 52 = .ok (.iastore, 1) := by decide +kernel
theorem dX2_study_53 : decode cX2_study 53 = .ok (.aload_n 0, 1) := by decide +kernel
theorem dX2_study_54 : decode cX2_study 54 = .ok (.getfield 41, 3) := by decide +kernel
theorem dX2_study_57 : decode cX2_study 57 = .ok (.iload_n 1, 1) := by decide +kernel
theorem dX2_study_58 : decode cX2_study 58 = .ok (.invokevirtual 57, 3) := by decide +kernel
theorem dX2_study_61 : decode cX2_study 61 = .ok (.ifCond .eq 11, 3) := by decide +kernel
theorem dX2_study_64 : decode cX2_study 64 = .ok (.aload_n 0, 1) := by decide +kernel
theorem dX2_study_65 : decode cX2_study 65 = .ok (.iload_n 1, 1) := by decide +kernel
theorem dX2_study_66 : decode cX2_study 66 = .ok (.invokevirtual 61, 3) := by decide +kernel
theorem dX2_study_69 : decode cX2_study 69 = .ok (.goto 31, 3) := by decide +kernel
theorem dX2_study_72 : decode cX2_study 72 = .ok (.aload_n 0, 1) := by decide +kernel
theorem dX2_study_73 : decode cX2_study 73 = .ok (.getfield 35, 3) := by decide +kernel
theorem dX2_study_76 : decode cX2_study 76 = .ok (.iload_n 1, 1) := by decide +kernel
theorem dX2_study_77 : decode cX2_study 77 = .ok (.dup2, 1) := by decide +kernel
theorem dX2_study_78 : decode cX2_study 78 = .ok (.iaload, 1) := by decide +kernel
theorem dX2_study_79 : decode cX2_study 79 = .ok (.aload_n 0, 1) := by decide +kernel
theorem dX2_study_80 : decode cX2_study 80 = .ok (.getfield 41, 3) := by decide +kernel
theorem dX2_study_83 : decode cX2_study 83 = .ok (.getfield 65, 3) := by decide +kernel
theorem dX2_study_86 : decode cX2_study 86 = .ok (.iload_n 1, 1) := by decide +kernel
theorem dX2_study_87 : decode cX2_study 87 = .ok (.iaload, 1) := by decide +kernel
theorem dX2_study_88 : decode cX2_study 88 = .ok (.imul, 1) := by decide +kernel
theorem dX2_study_89 : decode cX2_study 89 = .ok (.iastore, 1) := by decide +kernel
theorem dX2_study_90 : decode cX2_study 90 = .ok (.aload_n 0, 1) := by decide +kernel
theorem dX2_study_91 : decode cX2_study 91 = .ok (.iload_n 1, 1) := by decide +kernel
theorem dX2_study_92 : decode cX2_study 92 = .ok (.invokevirtual 68, 3) := by decide +kernel
theorem dX2_study_95 : decode cX2_study 95 = .ok (.aload_n 0, 1) := by decide +kernel
theorem dX2_study_96 : decode cX2_study 96 = .ok (.iload_n 1, 1) := by decide +kernel
theorem dX2_study_97 : decode cX2_study 97 = .ok (.invokevirtual 71, 3) := by decide +kernel
theorem dX2_study_100 : decode cX2_study 100 = .ok (.iinc 1 (-1), 3) := by decide +kernel
theorem dX2_study_103 : decode cX2_study 103 = .ok (.goto (-85), 3) := by decide +kernel
theorem dX2_study_106 : decode cX2_study 106 = .ok (.return_, 1) := by decide +kernel
theorem dX2_close_0 : decode cX2_close 0 = .ok (.aload_n 0, 1) := by decide +kernel
theorem dX2_close_1 : decode cX2_close 1 = .ok (.getfield 41, 3) := by decide +kernel
theorem dX2_close_4 : decode cX2_close 4 = .ok (.iload_n 1, 1) := by decide +kernel
theorem dX2_close_5 : decode cX2_close 5 = .ok (.invokevirtual 74, 3) := by decide +kernel
theorem dX2_close_8 : decode cX2_close 8 = .ok (.istore_n 2, 1) := by decide +kernel
theorem dX2_close_9 : decode cX2_close 9 = .ok (.aload_n 0, 1) := by decide +kernel
theorem dX2_close_10 : decode cX2_close 10 = .ok (.getfield 9, 3) := by decide +kernel
theorem dX2_close_13 : decode cX2_close 13 = .ok (.iload_n 1, 1) := by decide +kernel
theorem dX2_close_14 : decode cX2_close 14 = .ok (.iload_n 2, 1) := by decide +kernel
theorem dX2_close_15 : decode cX2_close 15 = .ok (.ifCond .eq 7, 3) := by decide +kernel
theorem dX2_close_18 : decode cX2_close 18 = .ok (.iconst 1, 1) := by decide +kernel
theorem dX2_close_19 : decode cX2_close 19 = .ok (.goto 4, 3) := by decide +kernel
theorem dX2_close_22 : decode cX2_close 22 = .ok (.iconst 0, 1) := by decide +kernel
theorem dX2_close_23 : decode cX2_close 23 = .ok (.iastore, 1) := by decide +kernel
theorem dX2_close_24 : decode cX2_close 24 = .ok (.aload_n 0, 1) := by decide +kernel
theorem dX2_close_25 : decode cX2_close 25 = .ok (.getfield 15, 3) := by decide +kernel
theorem dX2_close_28 : decode cX2_close 28 = .ok (.iload_n 1, 1) := by decide +kernel
theorem dX2_close_29 : decode cX2_close 29 = .ok (.iload_n 2, 1) := by decide +kernel
theorem dX2_close_30 : decode cX2_close 30 = .ok (.ifCond .eq 17, 3) := by decide +kernel
theorem dX2_close_33 : decode cX2_close 33 = .ok (.iconst 1, 1) := by decide +kernel
theorem dX2_close_34 : decode cX2_close 34 = .ok (.aload_n 0, 1) := by decide +kernel
theorem dX2_close_35 : decode cX2_close 35 = .ok (.getfield 41, 3) := by decide +kernel
theorem dX2_close_38 : decode cX2_close 38 = .ok (.getfield 77, 3) := by decide +kernel
theorem dX2_close_41 : decode cX2_close 41 = .ok (.iload_n 1, 1) := by decide +kernel
theorem dX2_close_42 : decode cX2_close 42 = .ok (.iaload, 1) := by decide +kernel
theorem dX2_close_43 : decode cX2_close 43 = .ok (.ishl, 1) := by decide +kernel
theorem dX2_close_44 : decode cX2_close 44 = .ok (.goto 4, 3) := by decide +kernel
theorem dX2_close_47 : decode cX2_close 47 = .ok (.iconst 0, 1) := by decide +kernel
theorem dX2_close_48 : decode cX2_close 48 = .ok (.iastore, 1) := by decide +kernel
theorem dX2_close_49 : decode cX2_close 49 = .ok (.aload_n 0, 1) := by decide +kernel
theorem dX2_close_50 : decode cX2_close 50 = .ok (.getfield 18, 3) := by decide +kernel
theorem dX2_close_53 : decode cX2_close 53 = .ok (.iload_n 1, 1) := by decide +kernel
theorem dX2_close_54 : decode cX2_close 54 = .ok (.iload_n 2, 1) := by decide +kernel
theorem dX2_close_55 : decode cX2_close 55 = .ok (.ifCond .eq 12, 3) := by decide +kernel
theorem dX2_close_58 : decode cX2_close 58 = .ok (.aload_n 0, 1) := by decide +kernel
theorem dX2_close_59 : decode cX2_close 59 = .ok (.getfield 15, 3) := by decide +kernel
theorem dX2_close_62 : decode cX2_close 62 = .ok (.iload_n 1, 1) := by decide +kernel
theorem dX2_close_63 : decode cX2_close 63 = .ok (.iaload, 1) := by decide +kernel
theorem dX2_close_64 : decode cX2_close 64 = .ok (.goto 5, 3) := by decide +kernel
theorem dX2_close_67 : decode cX2_close 67 = .ok (.bipush 64, 2) := by decide +kernel
theorem dX2_close_69 : decode cX2_close 69 = .ok (.iastore, 1) := by decide +kernel
theorem dX2_close_70 : decode cX2_close 70 = .ok (.aload_n 0, 1) := by decide +kernel
theorem dX2_close_71 : decode cX2_close 71 = .ok (.getfield 32, 3) := by decide +kernel
theorem dX2_close_74 : decode cX2_close 74 = .ok (.iload_n 1, 1) := by decide +kernel
theorem dX2_close_75 : decode cX2_close 75 = .ok (.aaload, 1) := by decide +kernel
theorem dX2_close_76 : decode cX2_close 76 = .ok (.iconst 0, 1) := by decide +kernel
theorem dX2_close_77 : decode cX2_close 77 = .ok (.aload_n 0, 1) := by decide +kernel
theorem dX2_close_78 : decode cX2_close 78 = .ok (.getfield 9, 3) := by decide +kernel
theorem dX2_close_81 : decode cX2_close 81 = .ok (.iload_n 1, 1) := by decide +kernel
theorem dX2_close_82 : decode cX2_close 82 = .ok (.iaload, 1) := by decide +kernel
theorem dX2_close_83 : decode cX2_close 83 = .ok (.iastore, 1) := by decide +kernel
theorem dX2_close_84 : decode cX2_close 84 = .ok (.aload_n 0, 1) := by decide +kernel
theorem dX2_close_85 : decode cX2_close 85 = .ok (.getfield 21, 3) := by decide +kernel
theorem dX2_close_88 : decode cX2_close 88 = .ok (.iload_n 1, 1) := by decide +kernel
theorem dX2_close_89 : decode cX2_close 89 = .ok (.iconst 0, 1) := by decide +kernel
theorem dX2_close_90 : decode cX2_close 90 = .ok (.iastore, 1) := by decide +kernel
theorem dX2_close_91 : decode cX2_close 91 = .ok (.aload_n 0, 1) := by decide +kernel
theorem dX2_close_92 : decode cX2_close 92 = .ok (.getfield 24, 3) := by decide +kernel
theorem dX2_close_95 : decode cX2_close 95 = .ok (.iload_n 1, 1) := by decide +kernel
theorem dX2_close_96 : decode cX2_close 96 = .ok (.iconst 0, 1) := by decide +kernel
theorem dX2_close_97 : decode cX2_close 97 = .ok (.iastore, 1) := by decide +kernel
theorem dX2_close_98 : decode cX2_close 98 = .ok (.return_, 1) := by decide +kernel
theorem dX2_gather_0 : decode cX2_gather 0 = .ok (.aload_n 0, 1) := by decide +kernel
theorem dX2_gather_1 : decode cX2_gather 1 = .ok (.getfield 41, 3) := by decide +kernel
theorem dX2_gather_4 : decode cX2_gather 4 = .ok (.iload_n 1, 1) := by decide +kernel
theorem dX2_gather_5 : decode cX2_gather 5 = .ok (.invokevirtual 80, 3) := by decide +kernel
theorem dX2_gather_8 : decode cX2_gather 8 = .ok (.istore_n 2, 1) := by decide +kernel
theorem dX2_gather_9 : decode cX2_gather 9 = .ok (.aload_n 0, 1) := by decide +kernel
theorem dX2_gather_10 : decode cX2_gather 10 = .ok (.getfield 9, 3) := by decide +kernel
theorem dX2_gather_13 : decode cX2_gather 13 = .ok (.iload_n 1, 1) := by decide +kernel
theorem dX2_gather_14 : decode cX2_gather 14 = .ok (.iconst 0, 1) := by decide +kernel
theorem dX2_gather_15 : decode cX2_gather 15 = .ok (.iastore, 1) := by decide +kernel
theorem dX2_gather_16 : decode cX2_gather 16 = .ok (.aload_n 0, 1) := by decide +kernel
theorem dX2_gather_17 : decode cX2_gather 17 = .ok (.getfield 15, 3) := by decide +kernel
theorem dX2_gather_20 : decode cX2_gather 20 = .ok (.iload_n 1, 1) := by decide +kernel
theorem dX2_gather_21 : decode cX2_gather 21 = .ok (.iconst 0, 1) := by decide +kernel
theorem dX2_gather_22 : decode cX2_gather 22 = .ok (.iastore, 1) := by decide +kernel
theorem dX2_gather_23 : decode cX2_gather 23 = .ok (.aload_n 0, 1) := by decide +kernel
theorem dX2_gather_24 : decode cX2_gather 24 = .ok (.getfield 18, 3) := by decide +kernel
theorem dX2_gather_27 : decode cX2_gather 27 = .ok (.iload_n 1, 1) := by decide +kernel
theorem dX2_gather_28 : decode cX2_gather 28 = .ok (.iconst 0, 1) := by decide +kernel
theorem dX2_gather_29 : decode cX2_gather 29 = .ok (.iastore, 1) := by decide +kernel
theorem dX2_gather_30 : decode cX2_gather 30 = .ok (.aload_n 0, 1) := by decide +kernel
theorem dX2_gather_31 : decode cX2_gather 31 = .ok (.getfield 21, 3) := by decide +kernel
theorem dX2_gather_34 : decode cX2_gather 34 = .ok (.iload_n 1, 1) := by decide +kernel
theorem dX2_gather_35 : decode cX2_gather 35 = .ok (.bipush 9, 2) := by decide +kernel
theorem dX2_gather_37 : decode cX2_gather 37 = .ok (.iastore, 1) := by decide +kernel
theorem dX2_gather_38 : decode cX2_gather 38 = .ok (.aload_n 0, 1) := by decide +kernel
theorem dX2_gather_39 : decode cX2_gather 39 = .ok (.getfield 24, 3) := by decide +kernel
theorem dX2_gather_42 : decode cX2_gather 42 = .ok (.iload_n 1, 1) := by decide +kernel
theorem dX2_gather_43 : decode cX2_gather 43 = .ok (.iconst 0, 1) := by decide +kernel
theorem dX2_gather_44 : decode cX2_gather 44 = .ok (.iastore, 1) := by decide +kernel
theorem dX2_gather_45 : decode cX2_gather 45 = .ok (.iconst 0, 1) := by decide +kernel
theorem dX2_gather_46 : decode cX2_gather 46 = .ok (.istore_n 3, 1) := by decide +kernel
theorem dX2_gather_47 : decode cX2_gather 47 = .ok (.iload_n 3, 1) := by decide +kernel
theorem dX2_gather_48 : decode cX2_gather 48 = .ok (.aload_n 0, 1) := by decide +kernel
theorem dX2_gather_49 : decode cX2_gather 49 = .ok (.getfield 41, 3) := by decide +kernel
theorem dX2_gather_52 : decode cX2_gather 52 = .ok (.getfield 65, 3) := by decide +kernel
theorem dX2_gather_55 : decode cX2_gather 55 = .ok (.iload_n 1, 1) := by decide +kernel
theorem dX2_gather_56 : decode cX2_gather 56 = .ok (.iaload, 1) := by decide +kernel
theorem dX2_gather_57 : decode cX2_gather 57 = .ok (.if_icmp .ge 174, 3) := by decide +kernel
theorem dX2_gather_60 : decode cX2_gather 60 = .ok (.aload_n 0, 1) := by decide +kernel
theorem dX2_gather_61 : decode cX2_gather 61 = .ok (.getfield 41, 3) := by decide +kernel
theorem dX2_gather_64 : decode cX2_gather 64 = .ok (.getfield 84, 3) := by decide +kernel
theorem dX2_gather_67 : decode cX2_gather 67 = .ok (.aload_n 0, 1) := by decide +kernel
theorem dX2_gather_68 : decode cX2_gather 68 = .ok (.getfield 41, 3) := by decide +kernel
theorem dX2_gather_71 : decode cX2_gather 71 = .ok (.iload_n 1, 1) := by decide +kernel
theorem dX2_gather_72 : decode cX2_gather 72 = .ok (.iload_n 3, 1) := by decide +kernel
theorem dX2_gather_73 : decode cX2_gather 73 = .ok (.invokevirtual 87, 3) := by decide +kernel
theorem dX2_gather_76 : decode cX2_gather 76 = .ok (.iaload, 1) := by decide +kernel
theorem dX2_gather_77 : decode cX2_gather 77 = .ok (.istore 4, 2) := by decide +kernel
theorem dX2_gather_79 : decode cX2_gather 79 = .ok (.aload_n 0, 1) := by decide +kernel
theorem dX2_gather_80 : decode cX2_gather 80 = .ok (.getfield 9, 3) := by decide +kernel
theorem dX2_gather_83 : decode cX2_gather 83 = .ok (.iload_n 1, 1) := by decide +kernel
theorem dX2_gather_84 : decode cX2_gather 84 = .ok (.dup2, 1) := by decide +kernel
theorem dX2_gather_85 : decode cX2_gather 85 = .ok (.iaload, 1) := by decide +kernel
theorem dX2_gather_86 : decode cX2_gather 86 = .ok (.aload_n 0, 1) := by decide +kernel
theorem dX2_gather_87 : decode cX2_gather 87 = .ok (.getfield 9, 3) := by decide +kernel
theorem dX2_gather_90 : decode cX2_gather 90 = .ok (.iload 4, 2) := by decide +kernel
theorem dX2_gather_92 : decode cX2_gather 92 = .ok (.iaload, 1) := by decide +kernel
theorem dX2_gather_93 : decode cX2_gather 93 = .ok (.iadd, 1) := by decide +kernel
theorem dX2_gather_94 : decode cX2_gather 94 = .ok (.iastore, 1) := by decide +kernel
theorem dX2_gather_95 : decode cX2_gather 95 = .ok (.aload_n 0, 1) := by decide +kernel
theorem dX2_gather_96 : decode cX2_gather 96 = .ok (.getfield 15, 3) := by decide +kernel
theorem dX2_gather_99 : decode cX2_gather 99 = .ok (.iload_n 1, 1) := by decide +kernel
theorem dX2_gather_100 : decode cX2_gather 100 = .ok (.dup2, 1) := by decide +kernel
theorem dX2_gather_101 : decode cX2_gather 101 = .ok (.iaload, 1) := by decide +kernel
theorem dX2_gather_102 : decode cX2_gather 102 = .ok (.aload_n 0, 1) := by decide +kernel
theorem dX2_gather_103 : decode cX2_gather 103 = .ok (.getfield 15, 3) := by decide +kernel
theorem dX2_gather_106 : decode cX2_gather 106 = .ok (.iload 4, 2) := by decide +kernel
theorem dX2_gather_108 : decode cX2_gather 108 = .ok (.iaload, 1) := by decide +kernel
theorem dX2_gather_109 : decode cX2_gather 109 = .ok (.ior, 1) := by decide +kernel
theorem dX2_gather_110 : decode cX2_gather 110 = .ok (.iastore, 1) := by decide +kernel
theorem dX2_gather_111 : decode cX2_gather 111 = .ok (.aload_n 0, 1) := by decide +kernel
theorem dX2_gather_112 : decode cX2_gather 112 = .ok (.getfield 18, 3) := by decide +kernel
theorem dX2_gather_115 : decode cX2_gather 115 = .ok (.iload_n 1, 1) := by decide +kernel
theorem dX2_gather_116 : decode cX2_gather 116 = .ok (.dup2, 1) := by decide +kernel
theorem dX2_gather_117 : decode cX2_gather 117 = .ok (.iaload, 1) := by decide +kernel
theorem dX2_gather_118 : decode cX2_gather 118 = .ok (.aload_n 0, 1) := by decide +kernel
theorem dX2_gather_119 : decode cX2_gather 119 = .ok (.getfield 18, 3) := by decide +kernel
theorem dX2_gather_122 : decode cX2_gather 122 = .ok (.iload 4, 2) := by decide +kernel
theorem dX2_gather_124 : decode cX2_gather 124 = .ok (.iaload, 1) := by decide +kernel
theorem dX2_gather_125 : decode cX2_gather 125 = .ok (.ior, 1) := by decide +kernel
theorem dX2_gather_126 : decode cX2_gather 126 = .ok (.iastore, 1) := by decide +kernel
theorem dX2_gather_127 : decode cX2_gather 127 = .ok (.iload_n 2, 1) := by decide +kernel
theorem dX2_gather_128 : decode cX2_gather 128 = .ok (.istore 5, 2) := by decide +kernel
theorem dX2_gather_130 : decode cX2_gather 130 = .ok (.iload 5, 2) := by decide +kernel
theorem dX2_gather_132 : decode cX2_gather 132 = .ok (.bipush 8, 2) := by decide +kernel
theorem dX2_gather_134 : decode cX2_gather 134 = .ok (.if_icmp .gt 33, 3) := by decide +kernel
theorem dX2_gather_137 : decode cX2_gather 137 = .ok (.aload_n 0, 1) := by decide +kernel
theorem dX2_gather_138 : decode cX2_gather 138 = .ok (.getfield 32, 3) := by decide +kernel
theorem dX2_gather_141 : decode cX2_gather 141 = .ok (.iload_n 1, 1) := by decide +kernel
theorem dX2_gather_142 : decode cX2_gather 142 = .ok (.aaload, 1) := by decide +kernel
theorem dX2_gather_143 : decode cX2_gather 143 = .ok (.iload 5, 2) := by decide +kernel
theorem dX2_gather_145 : decode cX2_gather 145 = .ok (.dup2, 1) := by decide +kernel
theorem dX2_gather_146 : decode cX2_gather 146 = .ok (.iaload, 1) := by decide +kernel
theorem dX2_gather_147 : decode cX2_gather 147 = .ok (.aload_n 0, 1) := by decide +kernel
theorem dX2_gather_148 : decode cX2_gather 148 = .ok (.getfield 32, 3) := by decide +kernel
theorem dX2_gather_151 : decode cX2_gather 151 = .ok (.iload 4, 2) := by decide +kernel
theorem dX2_gather_153 : decode cX2_gather 153 = .ok (.aaload, 1) := by decide +kernel
theorem dX2_gather_154 : decode cX2_gather 154 = .ok (.iload 5, 2) := by decide +kernel
theorem dX2_gather_156 : decode cX2_gather 156 = .ok (.iload_n 2, 1) := by decide +kernel
theorem dX2_gather_157 : decode cX2_gather 157 = .ok (.isub, 1) := by decide +kernel
theorem dX2_gather_158 : decode cX2_gather 158 = .ok (.iaload, 1) := by decide +kernel
theorem dX2_gather_159 : decode cX2_gather 159 = .ok (.iadd, 1) := by decide +kernel
theorem dX2_gather_160 : decode cX2_gather 160 = .ok (.iastore, 1) := by decide +kernel
theorem dX2_gather_161 : decode cX2_gather 161 = .ok (.iinc 5 1, 3) := by decide +kernel
theorem dX2_gather_164 : decode cX2_gather 164 = .ok (.goto (-34), 3) := by decide +kernel
theorem dX2_gather_167 : decode cX2_gather 167 = .ok (.aload_n 0, 1) := by decide +kernel
theorem dX2_gather_168 : decode cX2_gather 168 = .ok (.getfield 9, 3) := by decide +kernel
theorem dX2_gather_171 : decode cX2_gather 171 = .ok (.iload 4, 2) := by decide +kernel
theorem dX2_gather_173 : decode cX2_gather 173 = .ok (.iaload, 1) := by decide +kernel
theorem dX2_gather_174 : decode cX2_gather 174 = .ok (.ifCond .le 51, 3) := by decide +kernel
theorem dX2_gather_177 : decode cX2_gather 177 = .ok (.aload_n 0, 1) := by decide +kernel
theorem dX2_gather_178 : decode cX2_gather 178 = .ok (.getfield 21, 3) := by decide +kernel
theorem dX2_gather_181 : decode cX2_gather 181 = .ok (.iload_n 1, 1) := by decide +kernel
theorem dX2_gather_182 : decode cX2_gather 182 = .ok (.aload_n 0, 1) := by decide +kernel
theorem dX2_gather_183 : decode cX2_gather 183 = .ok (.getfield 21, 3) := by decide +kernel
theorem dX2_gather_186 : decode cX2_gather 186 = .ok (.iload_n 1, 1) := by decide +kernel
theorem dX2_gather_187 : decode cX2_gather 187 = .ok (.iaload, 1) := by decide +kernel
theorem dX2_gather_188 : decode cX2_gather 188 = .ok (.aload_n 0, 1) := by decide +kernel
theorem dX2_gather_189 : decode cX2_gather 189 = .ok (.getfield 21, 3) := by decide +kernel
theorem dX2_gather_192 : decode cX2_gather 192 = .ok (.iload 4, 2) := by decide +kernel
theorem dX2_gather_194 : decode cX2_gather 194 = .ok (.iaload, 1) := by decide +kernel
theorem dX2_gather_195 : decode cX2_gather 195 = .ok (.iload_n 2, 1) := by decide +kernel
theorem dX2_gather_196 : decode cX2_gather 196 = .ok (.iadd, 1) := by decide +kernel
theorem dX2_gather_197 : decode cX2_gather 197 = .ok (.invokestatic 91, 3) := by decide +kernel
theorem dX2_gather_200 : decode cX2_gather 200 = .ok (.iastore, 1) := by decide +kernel
theorem dX2_gather_201 : decode cX2_gather 201 = .ok (.aload_n 0, 1) := by decide +kernel
theorem dX2_gather_202 : decode cX2_gather 202 = .ok (.getfield 24, 3) := by decide +kernel
theorem dX2_gather_205 : decode cX2_gather 205 = .ok (.iload_n 1, 1) := by decide +kernel
theorem dX2_gather_206 : decode cX2_gather 206 = .ok (.aload_n 0, 1) := by decide +kernel
theorem dX2_gather_207 : decode cX2_gather 207 = .ok (.getfield 24, 3) := by decide +kernel
theorem dX2_gather_210 : decode cX2_gather 210 = .ok (.iload_n 1, 1) := by decide +kernel
theorem dX2_gather_211 : decode cX2_gather 211 = .ok (.iaload, 1) := by decide +kernel
theorem dX2_gather_212 : decode cX2_gather 212 = .ok (.aload_n 0, 1) := by decide +kernel
theorem dX2_gather_213 : decode cX2_gather 213 = .ok (.getfield 24, 3) := by decide +kernel
theorem dX2_gather_216 : decode cX2_gather 216 = .ok (.iload 4, 2) := by decide +kernel
theorem dX2_gather_218 : decode cX2_gather 218 = .ok (.iaload, 1) := by decide +kernel
theorem dX2_gather_219 : decode cX2_gather 219 = .ok (.iload_n 2, 1) := by decide +kernel
theorem dX2_gather_220 : decode cX2_gather 220 = .ok (.iadd, 1) := by decide +kernel
theorem dX2_gather_221 : decode cX2_gather 221 = .ok (.invokestatic 96, 3) := by decide +kernel
theorem dX2_gather_224 : decode cX2_gather 224 = .ok (.iastore, 1) := by decide +kernel
theorem dX2_gather_225 : decode cX2_gather 225 = .ok (.iinc 3 1, 3) := by decide +kernel
theorem dX2_gather_228 : decode cX2_gather 228 = .ok (.goto (-181), 3) := by decide +kernel
theorem dX2_gather_231 : decode cX2_gather 231 = .ok (.return_, 1) := by decide +kernel
theorem dX2_settle_0 : decode cX2_settle 0 = .ok (.aload_n 0, 1) := by decide +kernel
theorem dX2_settle_1 : decode cX2_settle 1 = .ok (.getfield 18, 3) := by decide +kernel
theorem dX2_settle_4 : decode cX2_settle 4 = .ok (.iload_n 1, 1) := by decide +kernel
theorem dX2_settle_5 : decode cX2_settle 5 = .ok (.iaload, 1) := by decide +kernel
theorem dX2_settle_6 : decode cX2_settle 6 = .ok (.invokestatic 99, 3) := by decide +kernel
theorem dX2_settle_9 : decode cX2_settle 9 = .ok (.iconst 2, 1) := by decide +kernel
theorem dX2_settle_10 : decode cX2_settle 10 = .ok (.if_icmp .ge 4, 3) := by decide +kernel
theorem dX2_settle_13 : decode cX2_settle 13 = .ok (.return_, 1) := by decide +kernel
theorem dX2_settle_14 : decode cX2_settle 14 = .ok (.iconst 0, 1) := by decide +kernel
theorem dX2_settle_15 : decode cX2_settle 15 = .ok (.istore_n 2, 1) := by decide +kernel
theorem dX2_settle_16 : decode cX2_settle 16 = .ok (.iload_n 2, 1) := by decide +kernel
theorem dX2_settle_17 : decode cX2_settle 17 = .ok (.aload_n 0, 1) := by decide +kernel
theorem dX2_settle_18 : decode cX2_settle 18 = .ok (.getfield 41, 3) := by decide +kernel
theorem dX2_settle_21 : decode cX2_settle 21 = .ok (.getfield 65, 3) := by decide +kernel
theorem dX2_settle_24 : decode cX2_settle 24 = .ok (.iload_n 1, 1) := by decide +kernel
theorem dX2_settle_25 : decode cX2_settle 25 = .ok (.iaload, 1) := by decide +kernel
theorem dX2_settle_26 : decode cX2_settle 26 = .ok (.if_icmp .ge 57, 3) := by decide +kernel
theorem dX2_settle_29 : decode cX2_settle 29 = .ok (.aload_n 0, 1) := by decide +kernel
theorem dX2_settle_30 : decode cX2_settle 30 = .ok (.getfield 41, 3) := by decide +kernel
theorem dX2_settle_33 : decode cX2_settle 33 = .ok (.getfield 84, 3) := by decide +kernel
theorem dX2_settle_36 : decode cX2_settle 36 = .ok (.aload_n 0, 1) := by decide +kernel
theorem dX2_settle_37 : decode cX2_settle 37 = .ok (.getfield 41, 3) := by decide +kernel
theorem dX2_settle_40 : decode cX2_settle 40 = .ok (.iload_n 1, 1) := by decide +kernel
theorem dX2_settle_41 : decode cX2_settle 41 = .ok (.iload_n 2, 1) := by decide +kernel
theorem dX2_settle_42 : decode cX2_settle 42 = .ok (.invokevirtual 87, 3) := by decide +kernel
theorem dX2_settle_45 : decode cX2_settle 45 = .ok (.iaload, 1) := by decide +kernel
theorem dX2_settle_46 : decode cX2_settle 46 = .ok (.istore_n 3, 1) := by decide +kernel
theorem dX2_settle_47 : decode cX2_settle 47 = .ok (.aload_n 0, 1) := by decide +kernel
theorem dX2_settle_48 : decode cX2_settle 48 = .ok (.getfield 27, 3) := by decide +kernel
theorem dX2_settle_51 : decode cX2_settle 51 = .ok (.iload_n 1, 1) := by decide +kernel
theorem dX2_settle_52 : decode cX2_settle 52 = .ok (.aload_n 0, 1) := by decide +kernel
theorem dX2_settle_53 : decode cX2_settle 53 = .ok (.getfield 27, 3) := by decide +kernel
theorem dX2_settle_56 : decode cX2_settle 56 = .ok (.iload_n 1, 1) := by decide +kernel
theorem dX2_settle_57 : decode cX2_settle 57 = .ok (.iaload, 1) := by decide +kernel
theorem dX2_settle_58 : decode cX2_settle 58 = .ok (.aload_n 0, 1) := by decide +kernel
theorem dX2_settle_59 : decode cX2_settle 59 = .ok (.getfield 27, 3) := by decide +kernel
theorem dX2_settle_62 : decode cX2_settle 62 = .ok (.iload_n 3, 1) := by decide +kernel
theorem dX2_settle_63 : decode cX2_settle 63 = .ok (.iaload, 1) := by decide +kernel
theorem dX2_settle_64 : decode cX2_settle 64 = .ok (.aload_n 0, 1) := by decide +kernel
theorem dX2_settle_65 : decode cX2_settle 65 = .ok (.getfield 41, 3) := by decide +kernel
theorem dX2_settle_68 : decode cX2_settle 68 = .ok (.iload_n 1, 1) := by decide +kernel
theorem dX2_settle_69 : decode cX2_settle 69 = .ok (.invokevirtual 80, 3) := by decide +kernel
theorem dX2_settle_72 : decode cX2_settle 72 = .ok (.iadd, 1) := by decide +kernel
theorem dX2_settle_73 : decode cX2_settle 73 = .ok (.invokestatic 96, 3) := by decide +kernel
theorem dX2_settle_76 : decode cX2_settle 76 = .ok (.iastore, 1) := by decide +kernel
theorem dX2_settle_77 : decode cX2_settle 77 = .ok (.iinc 2 1, 3) := by decide +kernel
theorem dX2_settle_80 : decode cX2_settle 80 = .ok (.goto (-64), 3) := by decide +kernel
theorem dX2_settle_83 : decode cX2_settle 83 = .ok (.return_, 1) := by decide +kernel
theorem dX2_weight_0 : decode cX2_weight 0 = .ok (.aload_n 0, 1) := by decide +kernel
theorem dX2_weight_1 : decode cX2_weight 1 = .ok (.getfield 35, 3) := by decide +kernel
theorem dX2_weight_4 : decode cX2_weight 4 = .ok (.iload_n 2, 1) := by decide +kernel
theorem dX2_weight_5 : decode cX2_weight 5 = .ok (.iaload, 1) := by decide +kernel
theorem dX2_weight_6 : decode cX2_weight 6 = .ok (.istore_n 3, 1) := by decide +kernel
theorem dX2_weight_7 : decode cX2_weight 7 = .ok (.iload_n 3, 1) := by decide +kernel
theorem dX2_weight_8 : decode cX2_weight 8 = .ok (.ifCond .ne 7, 3) := by decide +kernel
theorem dX2_weight_11 : decode cX2_weight 11 = .ok (.iconst 0, 1) := by decide +kernel
theorem dX2_weight_12 : decode cX2_weight 12 = .ok (.goto 13, 3) := by decide +kernel
theorem dX2_weight_15 : decode cX2_weight 15 = .ok (.aload_n 0, 1) := by decide +kernel
theorem dX2_weight_16 : decode cX2_weight 16 = .ok (.getfield 35, 3) := by decide +kernel
theorem dX2_weight_19 : decode cX2_weight 19 = .ok (.iload_n 1, 1) := by decide +kernel
theorem dX2_weight_20 : decode cX2_weight 20 = .ok (.iconst 1, 1) := by decide +kernel
theorem dX2_weight_21 : decode cX2_weight 21 = .ok (.iadd, 1) := by decide +kernel
theorem dX2_weight_22 : decode cX2_weight 22 = .ok (.iaload, 1) := by decide +kernel
theorem dX2_weight_23 : decode cX2_weight 23 = .ok (.iload_n 3, 1) := by decide +kernel
theorem dX2_weight_24 : decode cX2_weight 24 = .ok (.idiv, 1) := by decide +kernel
theorem dX2_weight_25 : decode cX2_weight 25 = .ok (.ireturn, 1) := by decide +kernel
theorem dX2_chancesOf_0 : decode cX2_chancesOf 0 = .ok (.aload_n 0, 1) := by decide +kernel
theorem dX2_chancesOf_1 : decode cX2_chancesOf 1 = .ok (.getfield 41, 3) := by decide +kernel
theorem dX2_chancesOf_4 : decode cX2_chancesOf 4 = .ok (.getfield 51, 3) := by decide +kernel
theorem dX2_chancesOf_7 : decode cX2_chancesOf 7 = .ok (.iconst 1, 1) := by decide +kernel
theorem dX2_chancesOf_8 : decode cX2_chancesOf 8 = .ok (.isub, 1) := by decide +kernel
theorem dX2_chancesOf_9 : decode cX2_chancesOf 9 = .ok (.istore_n 3, 1) := by decide +kernel
theorem dX2_chancesOf_10 : decode cX2_chancesOf 10 = .ok (.iload_n 3, 1) := by decide +kernel
theorem dX2_chancesOf_11 : decode cX2_chancesOf 11 = .ok (.iload_n 2, 1) := by decide +kernel
theorem dX2_chancesOf_12 : decode cX2_chancesOf 12 = .ok (.if_icmp .lt 115, 3) := by decide +kernel
theorem dX2_chancesOf_15 : decode cX2_chancesOf 15 = .ok (.aload_n 0, 1) := by decide +kernel
theorem dX2_chancesOf_16 : decode cX2_chancesOf 16 = .ok (.getfield 38, 3) := by decide +kernel
theorem dX2_chancesOf_19 : decode cX2_chancesOf 19 = .ok (.iload_n 3, 1) := by decide +kernel
theorem dX2_chancesOf_20 : decode cX2_chancesOf 20 = .ok (.aload_n 0, 1) := by decide +kernel
theorem dX2_chancesOf_21 : decode cX2_chancesOf 21 = .ok (.getfield 15, 3) := by decide +kernel
theorem dX2_chancesOf_24 : decode cX2_chancesOf 24 = .ok (.iload_n 3, 1) := by decide +kernel
theorem dX2_chancesOf_25 : decode cX2_chancesOf 25 = .ok (.iaload, 1) := by decide +kernel
theorem dX2_chancesOf_26 : decode cX2_chancesOf 26 = .ok (.iconst 1, 1) := by decide +kernel
theorem dX2_chancesOf_27 : decode cX2_chancesOf 27 = .ok (.iload_n 1, 1) := by decide +kernel
theorem dX2_chancesOf_28 : decode cX2_chancesOf 28 = .ok (.ishl, 1) := by decide +kernel
theorem dX2_chancesOf_29 : decode cX2_chancesOf 29 = .ok (.if_icmp .ne 23, 3) := by decide +kernel
theorem dX2_chancesOf_32 : decode cX2_chancesOf 32 = .ok (.aload_n 0, 1) := by decide +kernel
theorem dX2_chancesOf_33 : decode cX2_chancesOf 33 = .ok (.getfield 41, 3) := by decide +kernel
theorem dX2_chancesOf_36 : decode cX2_chancesOf 36 = .ok (.iload_n 3, 1) := by decide +kernel
theorem dX2_chancesOf_37 : decode cX2_chancesOf 37 = .ok (.invokevirtual 74, 3) := by decide +kernel
theorem dX2_chancesOf_40 : decode cX2_chancesOf 40 = .ok (.ifCond .eq 12, 3) := by decide +kernel
theorem dX2_chancesOf_43 : decode cX2_chancesOf 43 = .ok (.aload_n 0, 1) := by decide +kernel
theorem dX2_chancesOf_44 : decode cX2_chancesOf 44 = .ok (.getfield 35, 3) := by decide +kernel
theorem dX2_chancesOf_47 : decode cX2_chancesOf 47 = .ok (.iload_n 3, 1) := by decide +kernel
theorem dX2_chancesOf_48 : decode cX2_chancesOf 48 = .ok (.iaload, 1) := by decide +kernel
theorem dX2_chancesOf_49 : decode cX2_chancesOf 49 = .ok (.goto 4, 3) := by decide +kernel
theorem dX2_chancesOf_52 : decode cX2_chancesOf 52 = .ok (.iconst 0, 1) := by decide +kernel
theorem dX2_chancesOf_53 : decode cX2_chancesOf 53 = .ok (.iastore, 1) := by decide +kernel
theorem dX2_chancesOf_54 : decode cX2_chancesOf 54 = .ok (.iconst 0, 1) := by decide +kernel
theorem dX2_chancesOf_55 : decode cX2_chancesOf 55 = .ok (.istore 4, 2) := by decide +kernel
theorem dX2_chancesOf_57 : decode cX2_chancesOf 57 = .ok (.iload 4, 2) := by decide +kernel
theorem dX2_chancesOf_59 : decode cX2_chancesOf 59 = .ok (.aload_n 0, 1) := by decide +kernel
theorem dX2_chancesOf_60 : decode cX2_chancesOf 60 = .ok (.getfield 41, 3) := by decide +kernel
theorem dX2_chancesOf_63 : decode cX2_chancesOf 63 = .ok (.getfield 65, 3) := by decide +kernel
theorem dX2_chancesOf_66 : decode cX2_chancesOf 66 = .ok (.iload_n 3, 1) := by decide +kernel
theorem dX2_chancesOf_67 : decode cX2_chancesOf 67 = .ok (.iaload, 1) := by decide +kernel
theorem dX2_chancesOf_68 : decode cX2_chancesOf 68 = .ok (.if_icmp .ge 53, 3) := by decide +kernel
theorem dX2_chancesOf_71 : decode cX2_chancesOf 71 = .ok (.aload_n 0, 1) := by decide +kernel
theorem dX2_chancesOf_72 : decode cX2_chancesOf 72 = .ok (.getfield 41, 3) := by decide +kernel
theorem dX2_chancesOf_75 : decode cX2_chancesOf 75 = .ok (.getfield 84, 3) := by decide +kernel
theorem dX2_chancesOf_78 : decode cX2_chancesOf 78 = .ok (.aload_n 0, 1) := by decide +kernel
theorem dX2_chancesOf_79 : decode cX2_chancesOf 79 = .ok (.getfield 41, 3) := by decide +kernel
theorem dX2_chancesOf_82 : decode cX2_chancesOf 82 = .ok (.iload_n 3, 1) := by decide +kernel
theorem dX2_chancesOf_83 : decode cX2_chancesOf 83 = .ok (.iload 4, 2) := by decide +kernel
theorem dX2_chancesOf_85 : decode cX2_chancesOf 85 = .ok (.invokevirtual 87, 3) := by decide +kernel
theorem dX2_chancesOf_88 : decode cX2_chancesOf 88 = .ok (.iaload, 1) := by decide +kernel
theorem dX2_chancesOf_89 : decode cX2_chancesOf 89 = .ok (.istore 5, 2) := by decide +kernel
theorem dX2_chancesOf_91 : decode cX2_chancesOf 91 = .ok (.aload_n 0, 1) := by decide +kernel
theorem dX2_chancesOf_92 : decode cX2_chancesOf 92 = .ok (.getfield 38, 3) := by decide +kernel
theorem dX2_chancesOf_95 : decode cX2_chancesOf 95 = .ok (.iload_n 3, 1) := by decide +kernel
theorem dX2_chancesOf_96 : decode cX2_chancesOf 96 = .ok (.dup2, 1) := by decide +kernel
theorem dX2_chancesOf_97 : decode cX2_chancesOf 97 = .ok (.iaload, 1) := by decide +kernel
theorem dX2_chancesOf_98 : decode cX2_chancesOf 98 = .ok (.aload_n 0, 1) := by decide +kernel
theorem dX2_chancesOf_99 : decode cX2_chancesOf 99 = .ok (.getfield 38, 3) := by decide +kernel
theorem dX2_chancesOf_102 : decode cX2_chancesOf 102 = .ok (.iload 5, 2) := by decide +kernel
theorem dX2_chancesOf_104 : decode cX2_chancesOf 104 = .ok (.iaload, 1) := by decide +kernel
theorem dX2_chancesOf_105 : decode cX2_chancesOf 105 = .ok (.aload_n 0, 1) := by decide +kernel
theorem dX2_chancesOf_106 : decode cX2_chancesOf 106 = .ok (.iload_n 3, 1) := by decide +kernel
theorem dX2_chancesOf_107 : decode cX2_chancesOf 107 = .ok (.iload 5, 2) := by decide +kernel
theorem dX2_chancesOf_109 : decode cX2_chancesOf 109 = .ok (.invokevirtual 104, 3) := by decide +kernel
theorem dX2_chancesOf_112 : decode cX2_chancesOf 112 = .ok (.imul, 1) := by decide +kernel
theorem dX2_chancesOf_113 : decode cX2_chancesOf 113 = .ok (.iadd, 1) := by decide +kernel
theorem dX2_chancesOf_114 : decode cX2_chancesOf 114 = .ok (.iastore, 1) := by decide +kernel
theorem dX2_chancesOf_115 : decode cX2_chancesOf 115 = .ok (.iinc 4 1, 3) := by decide +kernel
theorem dX2_chancesOf_118 : decode cX2_chancesOf 118 = .ok (.goto (-61), 3) := by decide +kernel
theorem dX2_chancesOf_121 : decode cX2_chancesOf 121 = .ok (.iinc 3 (-1), 3) := by decide +kernel
theorem dX2_chancesOf_124 : decode cX2_chancesOf 124 = .ok (.goto (-114), 3) := by decide +kernel
theorem dX2_chancesOf_127 : decode cX2_chancesOf 127 = .ok (.aload_n 0, 1) := by decide +kernel
theorem dX2_chancesOf_128 : decode cX2_chancesOf 128 = .ok (.getfield 38, 3) := by decide +kernel
theorem dX2_chancesOf_131 : decode cX2_chancesOf 131 = .ok (.iload_n 2, 1) := by decide +kernel
theorem dX2_chancesOf_132 : decode cX2_chancesOf 132 = .ok (.iaload, 1) := by decide +kernel
theorem dX2_chancesOf_133 : decode cX2_chancesOf 133 = .ok (.ireturn, 1) := by decide +kernel
theorem dX2_firstWordFor_0 : decode cX2_firstWordFor 0 = .ok (.iload_n 1, 1) := by decide +kernel
theorem dX2_firstWordFor_1 : decode cX2_firstWordFor 1 = .ok (.aload_n 0, 1) := by decide +kernel
theorem dX2_firstWordFor_2 : decode cX2_firstWordFor 2 = .ok (.getfield 41, 3) := by decide +kernel
theorem dX2_firstWordFor_5 : decode cX2_firstWordFor 5 = .ok (.iload_n 2, 1) := by decide +kernel
theorem dX2_firstWordFor_6 : decode cX2_firstWordFor 6 = .ok (.invokevirtual 80, 3) := by decide +kernel
theorem dX2_firstWordFor_9 : decode cX2_firstWordFor 9 = .ok (.isub, 1) := by decide +kernel
theorem dX2_firstWordFor_10 : decode cX2_firstWordFor 10 = .ok (.istore_n 3, 1) := by decide +kernel
theorem dX2_firstWordFor_11 : decode cX2_firstWordFor 11 = .ok (.iload_n 3, 1) := by decide +kernel
theorem dX2_firstWordFor_12 : decode cX2_firstWordFor 12 = .ok (.ifCond .ge 6, 3) := by decide +kernel
theorem dX2_firstWordFor_15 : decode cX2_firstWordFor 15 = .ok (.bipush (-9), 2) := by decide +kernel
theorem dX2_firstWordFor_17 : decode cX2_firstWordFor 17 = .ok (.ireturn, 1) := by decide +kernel
theorem dX2_firstWordFor_18 : decode cX2_firstWordFor 18 = .ok (.iconst 0, 1) := by decide +kernel
theorem dX2_firstWordFor_19 : decode cX2_firstWordFor 19 = .ok (.istore 4, 2) := by decide +kernel
theorem dX2_firstWordFor_21 : decode cX2_firstWordFor 21 = .ok (.iload 4, 2) := by decide +kernel
theorem dX2_firstWordFor_23 : decode cX2_firstWordFor 23 = .ok (.aload_n 0, 1) := by decide +kernel
theorem dX2_firstWordFor_24 : decode cX2_firstWordFor 24 = .ok (.getfield 41, 3) := by decide +kernel
theorem dX2_firstWordFor_27 : decode cX2_firstWordFor 27 = .ok (.getfield 65, 3) := by decide +kernel
theorem dX2_firstWordFor_30 : decode cX2_firstWordFor 30 = .ok (.iload_n 2, 1) := by decide +kernel
theorem dX2_firstWordFor_31 : decode cX2_firstWordFor 31 = .ok (.iaload, 1) := by decide +kernel
theorem dX2_firstWordFor_32 : decode cX2_firstWordFor 32 = .ok (.if_icmp .ge 44, 3) := by decide +kernel
theorem dX2_firstWordFor_35 : decode cX2_firstWordFor 35 = .ok (.aload_n 0, 1) := by decide +kernel
theorem dX2_firstWordFor_36 : decode cX2_firstWordFor 36 = .ok (.getfield 41, 3) := by decide +kernel
theorem dX2_firstWordFor_39 : decode cX2_firstWordFor 39 = .ok (.iload_n 2, 1) := by decide +kernel
theorem dX2_firstWordFor_40 : decode cX2_firstWordFor 40 = .ok (.iload 4, 2) := by decide +kernel
theorem dX2_firstWordFor_42 : decode cX2_firstWordFor 42 = .ok (.invokevirtual 87, 3) := by decide +kernel
theorem dX2_firstWordFor_45 : decode cX2_firstWordFor 45 = .ok (.istore 5, 2) := by decide +kernel
theorem dX2_firstWordFor_47 : decode cX2_firstWordFor 47 = .ok (.aload_n 0, 1) := by decide +kernel
theorem dX2_firstWordFor_48 : decode cX2_firstWordFor 48 = .ok (.getfield 32, 3) := by decide +kernel
theorem dX2_firstWordFor_51 : decode cX2_firstWordFor 51 = .ok (.aload_n 0, 1) := by decide +kernel
theorem dX2_firstWordFor_52 : decode cX2_firstWordFor 52 = .ok (.getfield 41, 3) := by decide +kernel
theorem dX2_firstWordFor_55 : decode cX2_firstWordFor 55 = .ok (.getfield 84, 3) := by decide +kernel
theorem dX2_firstWordFor_58 : decode cX2_firstWordFor 58 = .ok (.iload 5, 2) := by decide +kernel
theorem dX2_firstWordFor_60 : decode cX2_firstWordFor 60 = .ok (.iaload, 1) := by decide +kernel
theorem dX2_firstWordFor_61 : decode cX2_firstWordFor 61 = .ok (.aaload, 1) := by decide +kernel
theorem dX2_firstWordFor_62 : decode cX2_firstWordFor 62 = .ok (.iload_n 3, 1) := by decide +kernel
theorem dX2_firstWordFor_63 : decode cX2_firstWordFor 63 = .ok (.iaload, 1) := by decide +kernel
theorem dX2_firstWordFor_64 : decode cX2_firstWordFor 64 = .ok (.ifCond .le 6, 3) := by decide +kernel
theorem dX2_firstWordFor_67 : decode cX2_firstWordFor 67 = .ok (.iload 5, 2) := by decide +kernel
theorem dX2_firstWordFor_69 : decode cX2_firstWordFor 69 = .ok (.ireturn, 1) := by decide +kernel
theorem dX2_firstWordFor_70 : decode cX2_firstWordFor 70 = .ok (.iinc 4 1, 3) := by decide +kernel
theorem dX2_firstWordFor_73 : decode cX2_firstWordFor 73 = .ok (.goto (-52), 3) := by decide +kernel
theorem dX2_firstWordFor_76 : decode cX2_firstWordFor 76 = .ok (.bipush (-9), 2) := by decide +kernel
theorem dX2_firstWordFor_78 : decode cX2_firstWordFor 78 = .ok (.ireturn, 1) := by decide +kernel
theorem dX2_leftAtWorst_0 : decode cX2_leftAtWorst 0 = .ok (.aload_n 0, 1) := by decide +kernel
theorem dX2_leftAtWorst_1 : decode cX2_leftAtWorst 1 = .ok (.getfield 15, 3) := by decide +kernel
theorem dX2_leftAtWorst_4 : decode cX2_leftAtWorst 4 = .ok (.aload_n 0, 1) := by decide +kernel
theorem dX2_leftAtWorst_5 : decode cX2_leftAtWorst 5 = .ok (.getfield 41, 3) := by decide +kernel
theorem dX2_leftAtWorst_8 : decode cX2_leftAtWorst 8 = .ok (.getfield 84, 3) := by decide +kernel
theorem dX2_leftAtWorst_11 : decode cX2_leftAtWorst 11 = .ok (.aload_n 0, 1) := by decide +kernel
theorem dX2_leftAtWorst_12 : decode cX2_leftAtWorst 12 = .ok (.getfield 41, 3) := by decide +kernel
theorem dX2_leftAtWorst_15 : decode cX2_leftAtWorst 15 = .ok (.iload_n 1, 1) := by decide +kernel
theorem dX2_leftAtWorst_16 : decode cX2_leftAtWorst 16 = .ok (.iload_n 2, 1) := by decide +kernel
theorem dX2_leftAtWorst_17 : decode cX2_leftAtWorst 17 = .ok (.invokevirtual 87, 3) := by decide +kernel
theorem dX2_leftAtWorst_20 : decode cX2_leftAtWorst 20 = .ok (.iaload, 1) := by decide +kernel
theorem dX2_leftAtWorst_21 : decode cX2_leftAtWorst 21 = .ok (.iaload, 1) := by decide +kernel
theorem dX2_leftAtWorst_22 : decode cX2_leftAtWorst 22 = .ok (.istore_n 3, 1) := by decide +kernel
theorem dX2_leftAtWorst_23 : decode cX2_leftAtWorst 23 = .ok (.iconst 0, 1) := by decide +kernel
theorem dX2_leftAtWorst_24 : decode cX2_leftAtWorst 24 = .ok (.istore 4, 2) := by decide +kernel
theorem dX2_leftAtWorst_26 : decode cX2_leftAtWorst 26 = .ok (.iconst 0, 1) := by decide +kernel
theorem dX2_leftAtWorst_27 : decode cX2_leftAtWorst 27 = .ok (.istore 5, 2) := by decide +kernel
theorem dX2_leftAtWorst_29 : decode cX2_leftAtWorst 29 = .ok (.iload 5, 2) := by decide +kernel
theorem dX2_leftAtWorst_31 : decode cX2_leftAtWorst 31 = .ok (.aload_n 0, 1) := by decide +kernel
theorem dX2_leftAtWorst_32 : decode cX2_leftAtWorst 32 = .ok (.getfield 41, 3) := by decide +kernel
theorem dX2_leftAtWorst_35 : decode cX2_leftAtWorst 35 = .ok (.getfield 65, 3) := by decide +kernel
theorem dX2_leftAtWorst_38 : decode cX2_leftAtWorst 38 = .ok (.iload_n 1, 1) := by decide +kernel
theorem dX2_leftAtWorst_39 : decode cX2_leftAtWorst 39 = .ok (.iaload, 1) := by decide +kernel
theorem dX2_leftAtWorst_40 : decode cX2_leftAtWorst 40 = .ok (.if_icmp .ge 43, 3) := by decide +kernel
theorem dX2_leftAtWorst_43 : decode cX2_leftAtWorst 43 = .ok (.iload 5, 2) := by decide +kernel
theorem dX2_leftAtWorst_45 : decode cX2_leftAtWorst 45 = .ok (.iload_n 2, 1) := by decide +kernel
theorem dX2_leftAtWorst_46 : decode cX2_leftAtWorst 46 = .ok (.if_icmp .eq 31, 3) := by decide +kernel
theorem dX2_leftAtWorst_49 : decode cX2_leftAtWorst 49 = .ok (.iload 4, 2) := by decide +kernel
theorem dX2_leftAtWorst_51 : decode cX2_leftAtWorst 51 = .ok (.aload_n 0, 1) := by decide +kernel
theorem dX2_leftAtWorst_52 : decode cX2_leftAtWorst 52 = .ok (.getfield 15, 3) := by decide +kernel
theorem dX2_leftAtWorst_55 : decode cX2_leftAtWorst 55 = .ok (.aload_n 0, 1) := by decide +kernel
theorem dX2_leftAtWorst_56 : decode cX2_leftAtWorst 56 = .ok (.getfield 41, 3) := by decide +kernel
theorem dX2_leftAtWorst_59 : decode cX2_leftAtWorst 59 = .ok (.getfield 84, 3) := by decide +kernel
theorem dX2_leftAtWorst_62 : decode cX2_leftAtWorst 62 = .ok (.aload_n 0, 1) := by decide +kernel
theorem dX2_leftAtWorst_63 : decode cX2_leftAtWorst 63 = .ok (.getfield 41, 3) := by decide +kernel
theorem dX2_leftAtWorst_66 : decode cX2_leftAtWorst 66 = .ok (.iload_n 1, 1) := by decide +kernel
theorem dX2_leftAtWorst_67 : decode cX2_leftAtWorst 67 = .ok (.iload 5, 2) := by decide +kernel
theorem dX2_leftAtWorst_69 : decode cX2_leftAtWorst 69 = .ok (.invokevirtual 87, 3) := by decide +kernel
theorem dX2_leftAtWorst_72 : decode cX2_leftAtWorst 72 = .ok (.iaload, 1) := by decide +kernel
theorem dX2_leftAtWorst_73 : decode cX2_leftAtWorst 73 = .ok (.iaload, 1) := by decide +kernel
theorem dX2_leftAtWorst_74 : decode cX2_leftAtWorst 74 = .ok (.ior, 1) := by decide +kernel
theorem dX2_leftAtWorst_75 : decode cX2_leftAtWorst 75 = .ok (.istore 4, 2) := by decide +kernel
theorem dX2_leftAtWorst_77 : decode cX2_leftAtWorst 77 = .ok (.iinc 5 1, 3) := by decide +kernel
theorem dX2_leftAtWorst_80 : decode cX2_leftAtWorst 80 = .ok (.goto (-51), 3) := by decide +kernel
theorem dX2_leftAtWorst_83 : decode cX2_leftAtWorst 83 = .ok (.iload_n 3, 1) := by decide +kernel
theorem dX2_leftAtWorst_84 : decode cX2_leftAtWorst 84 = .ok (.invokestatic 99, 3) := by decide +kernel
theorem dX2_leftAtWorst_87 : decode cX2_leftAtWorst 87 = .ok (.iload 4, 2) := by decide +kernel
theorem dX2_leftAtWorst_89 : decode cX2_leftAtWorst 89 = .ok (.invokestatic 99, 3) := by decide +kernel
theorem dX2_leftAtWorst_92 : decode cX2_leftAtWorst 92 = .ok (.invokestatic 96, 3) := by decide +kernel
theorem dX2_leftAtWorst_95 : decode cX2_leftAtWorst 95 = .ok (.ireturn, 1) := by decide +kernel
theorem dX3_init_0 : decode cX3_init 0 = .ok (.aload_n 0, 1) := by decide +kernel
theorem dX3_init_1 : decode cX3_init 1 = .ok (.invokespecial 3, 3) := by decide +kernel
theorem dX3_init_4 : decode cX3_init 4 = .ok (.aload_n 0, 1) := by decide +kernel
theorem dX3_init_5 : decode cX3_init 5 = .ok (.sipush 5589, 3) := by decide +kernel
theorem dX3_init_8 : decode cX3_init 8 = .ok (.newarray .int, 2) := by decide +kernel
theorem dX3_init_10 : decode cX3_init 10 = .ok (.putfield 11, 3) := by decide +kernel
theorem dX3_init_13 : decode cX3_init 13 = .ok (.aload_n 0, 1) := by decide +kernel
theorem dX3_init_14 : decode cX3_init 14 = .ok (.bipush 9, 2) := by decide +kernel
theorem dX3_init_16 : decode cX3_init 16 = .ok (.newarray .int, 2) := by decide +kernel
theorem dX3_init_18 : decode cX3_init 18 = .ok (.putfield 17, 3) := by decide +kernel
theorem dX3_init_21 : decode cX3_init 21 = .ok (.aload_n 0, 1) := by decide +kernel
theorem dX3_init_22 : decode cX3_init 22 = .ok (.iconst (-1), 1) := by decide +kernel
theorem dX3_init_23 : decode cX3_init 23 = .ok (.putfield 20, 3) := by decide +kernel
theorem dX3_init_26 : decode cX3_init 26 = .ok (.aload_n 0, 1) := by decide +kernel
theorem dX3_init_27 : decode cX3_init 27 = .ok (.aload_n 1, 1) := by decide +kernel
theorem dX3_init_28 : decode cX3_init 28 = .ok (.putfield 24, 3) := by decide +kernel
theorem dX3_init_31 : decode cX3_init 31 = .ok (.aload_n 0, 1) := by decide +kernel
theorem dX3_init_32 : decode cX3_init 32 = .ok (.aload_n 2, 1) := by decide +kernel
theorem dX3_init_33 : decode cX3_init 33 = .ok (.putfield 28, 3) := by decide +kernel
theorem dX3_init_36 : decode cX3_init 36 = .ok (.return_, 1) := by decide +kernel
theorem dX3_forget_0 : decode cX3_forget 0 = .ok (.aload_n 0, 1) := by decide +kernel
theorem dX3_forget_1 : decode cX3_forget 1 = .ok (.iconst (-1), 1) := by decide +kernel
theorem dX3_forget_2 : decode cX3_forget 2 = .ok (.putfield 20, 3) := by decide +kernel
theorem dX3_forget_5 : decode cX3_forget 5 = .ok (.return_, 1) := by decide +kernel
theorem dX3_ready_0 : decode cX3_ready 0 = .ok (.aload_n 0, 1) := by decide +kernel
theorem dX3_ready_1 : decode cX3_ready 1 = .ok (.getfield 20, 3) := by decide +kernel
theorem dX3_ready_4 : decode cX3_ready 4 = .ok (.iload_n 1, 1) := by decide +kernel
theorem dX3_ready_5 : decode cX3_ready 5 = .ok (.if_icmp .eq 17, 3) := by decide +kernel
theorem dX3_ready_8 : decode cX3_ready 8 = .ok (.aload_n 0, 1) := by decide +kernel
theorem dX3_ready_9 : decode cX3_ready 9 = .ok (.getfield 11, 3) := by decide +kernel
theorem dX3_ready_12 : decode cX3_ready 12 = .ok (.ldc 32, 2) := by decide +kernel
theorem dX3_ready_14 : decode cX3_ready 14 = .ok (.invokestatic 33, 3) := by decide +kernel
theorem dX3_ready_17 : decode cX3_ready 17 = .ok (.aload_n 0, 1) := by decide +kernel
theorem dX3_ready_18 : decode cX3_ready 18 = .ok (.iload_n 1, 1) := by decide +kernel
theorem dX3_ready_19 : decode cX3_ready 19 = .ok (.putfield 20, 3) := by decide +kernel
theorem dX3_ready_22 : decode cX3_ready 22 = .ok (.return_, 1) := by decide +kernel
theorem dX3_foresee_0 : decode cX3_foresee 0 = .ok (.aload_n 0, 1) := by decide +kernel
theorem dX3_foresee_1 : decode cX3_foresee 1 = .ok (.getfield 17, 3) := by decide +kernel
theorem dX3_foresee_4 : decode cX3_foresee 4 = .ok (.aload_n 0, 1) := by decide +kernel
theorem dX3_foresee_5 : decode cX3_foresee 5 = .ok (.getfield 24, 3) := by decide +kernel
theorem dX3_foresee_8 : decode cX3_foresee 8 = .ok (.getfield 39, 3) := by decide +kernel
theorem dX3_foresee_11 : decode cX3_foresee 11 = .ok (.iload_n 1, 1) := by decide +kernel
theorem dX3_foresee_12 : decode cX3_foresee 12 = .ok (.iaload, 1) := by decide +kernel
theorem dX3_foresee_13 : decode cX3_foresee 13 = .ok (.aload_n 0, 1) := by decide +kernel
theorem dX3_foresee_14 : decode cX3_foresee 14 = .ok (.getfield 24, 3) := by decide +kernel
theorem dX3_foresee_17 : decode cX3_foresee 17 = .ok (.getfield 44, 3) := by decide +kernel
theorem dX3_foresee_20 : decode cX3_foresee 20 = .ok (.iload_n 1, 1) := by decide +kernel
theorem dX3_foresee_21 : decode cX3_foresee 21 = .ok (.iaload, 1) := by decide +kernel
theorem dX3_foresee_22 : decode cX3_foresee 22 = .ok (.iastore, 1) := by decide +kernel
theorem dX3_foresee_23 : decode cX3_foresee 23 = .ok (.return_, 1) := by decide +kernel
theorem dX3_most_0 : decode cX3_most 0 = .ok (.aload_n 0, 1) := by decide +kernel
theorem dX3_most_1 : decode cX3_most 1 = .ok (.iload_n 1, 1) := by decide +kernel
theorem dX3_most_2 : decode cX3_most 2 = .ok (.iload_n 2, 1) := by decide +kernel
theorem dX3_most_3 : decode cX3_most 3 = .ok (.iconst 0, 1) := by decide +kernel
theorem dX3_most_4 : decode cX3_most 4 = .ok (.invokevirtual 47, 3) := by decide +kernel
theorem dX3_most_7 : decode cX3_most 7 = .ok (.ireturn, 1) := by decide +kernel
theorem dX3_value_0 : decode cX3_value 0 = .ok (.aload_n 0, 1) := by decide +kernel
theorem dX3_value_1 : decode cX3_value 1 = .ok (.getfield 24, 3) := by decide +kernel
theorem dX3_value_4 : decode cX3_value 4 = .ok (.iload_n 1, 1) := by decide +kernel
theorem dX3_value_5 : decode cX3_value 5 = .ok (.invokevirtual 51, 3) := by decide +kernel
theorem dX3_value_8 : decode cX3_value 8 = .ok (.ifCond .ne 9, 3) := by decide +kernel
theorem dX3_value_11 : decode cX3_value 11 = .ok (.iload_n 3, 1) := by decide +kernel
theorem dX3_value_12 : decode cX3_value 12 = .ok (.bipush 8, 2) := by decide +kernel
theorem dX3_value_14 : decode cX3_value 14 = .ok (.if_icmp .le 35, 3) := by decide +kernel
theorem dX3_value_17 : decode cX3_value 17 = .ok (.aload_n 0, 1) := by decide +kernel
theorem dX3_value_18 : decode cX3_value 18 = .ok (.getfield 24, 3) := by decide +kernel
theorem dX3_value_21 : decode cX3_value 21 = .ok (.iload_n 1, 1) := by decide +kernel
theorem dX3_value_22 : decode cX3_value 22 = .ok (.iload_n 2, 1) := by decide +kernel
theorem dX3_value_23 : decode cX3_value 23 = .ok (.invokevirtual 55, 3) := by decide +kernel
theorem dX3_value_26 : decode cX3_value 26 = .ok (.aload_n 0, 1) := by decide +kernel
theorem dX3_value_27 : decode cX3_value 27 = .ok (.getfield 20, 3) := by decide +kernel
theorem dX3_value_30 : decode cX3_value 30 = .ok (.iconst 1, 1) := by decide +kernel
theorem dX3_value_31 : decode cX3_value 31 = .ok (.if_icmp .ne 15, 3) := by decide +kernel
theorem dX3_value_34 : decode cX3_value 34 = .ok (.aload_n 0, 1) := by decide +kernel
theorem dX3_value_35 : decode cX3_value 35 = .ok (.getfield 28, 3) := by decide +kernel
theorem dX3_value_38 : decode cX3_value 38 = .ok (.getfield 59, 3) := by decide +kernel
theorem dX3_value_41 : decode cX3_value 41 = .ok (.iload_n 1, 1) := by decide +kernel
theorem dX3_value_42 : decode cX3_value 42 = .ok (.iaload, 1) := by decide +kernel
theorem dX3_value_43 : decode cX3_value 43 = .ok (.goto 4, 3) := by decide +kernel
theorem dX3_value_46 : decode cX3_value 46 = .ok (.iconst 1, 1) := by decide +kernel
theorem dX3_value_47 : decode cX3_value 47 = .ok (.imul, 1) := by decide +kernel
theorem dX3_value_48 : decode cX3_value 48 = .ok (.ireturn, 1) := by decide +kernel
theorem dX3_value_49 : decode cX3_value 49 = .ok (.iload_n 1, 1) := by decide +kernel
theorem dX3_value_50 : decode cX3_value 50 = .ok (.sipush 621, 3) := by decide +kernel
theorem dX3_value_53 : decode cX3_value 53 = .ok (.imul, 1) := by decide +kernel
theorem dX3_value_54 : decode cX3_value 54 = .ok (.iload_n 2, 1) := by decide +kernel
theorem dX3_value_55 : decode cX3_value 55 = .ok (.invokestatic 64, 3) := by decide +kernel
theorem dX3_value_58 : decode cX3_value 58 = .ok (.iadd, 1) := by decide +kernel
theorem dX3_value_59 : decode cX3_value 59 = .ok (.istore 4, 2) := by decide +kernel
theorem dX3_value_61 : decode cX3_value 61 = .ok (.aload_n 0, 1) := by decide +kernel
theorem dX3_value_62 : decode cX3_value 62 = .ok (.getfield 11, 3) := by decide +kernel
theorem dX3_value_65 : decode cX3_value 65 = .ok (.iload 4, 2) := by decide +kernel
theorem dX3_value_67 : decode cX3_value 67 = .ok (.iaload, 1) := by decide +kernel
theorem dX3_value_68 : decode cX3_value 68 = .ok (.ldc 32, 2) := by decide +kernel
theorem dX3_value_70 : decode cX3_value 70 = .ok (.if_icmp .eq 11, 3) := by decide +kernel
theorem dX3_value_73 : decode cX3_value 73 = .ok (.aload_n 0, 1) := by decide +kernel
theorem dX3_value_74 : decode cX3_value 74 = .ok (.getfield 11, 3) := by decide +kernel
theorem dX3_value_77 : decode cX3_value 77 = .ok (.iload 4, 2) := by decide +kernel
theorem dX3_value_79 : decode cX3_value 79 = .ok (.iaload, 1) := by decide +kernel
theorem dX3_value_80 : decode cX3_value 80 = .ok (.ireturn, 1) := by decide +kernel
theorem dX3_value_81 : decode cX3_value 81 = .ok (.aload_n 0, 1) := by decide +kernel
theorem dX3_value_82 : decode cX3_value 82 = .ok (.iload_n 1, 1) := by decide +kernel
theorem dX3_value_83 : decode cX3_value 83 = .ok (.iload_n 2, 1) := by decide +kernel
theorem dX3_value_84 : decode cX3_value 84 = .ok (.iload_n 3, 1) := by decide +kernel
theorem dX3_value_85 : decode cX3_value 85 = .ok (.invokevirtual 68, 3) := by decide +kernel
theorem dX3_value_88 : decode cX3_value 88 = .ok (.istore 5, 2) := by decide +kernel
theorem dX3_value_90 : decode cX3_value 90 = .ok (.iconst 0, 1) := by decide +kernel
theorem dX3_value_91 : decode cX3_value 91 = .ok (.istore 6, 2) := by decide +kernel
theorem dX3_value_93 : decode cX3_value 93 = .ok (.iload 6, 2) := by decide +kernel
theorem dX3_value_95 : decode cX3_value 95 = .ok (.aload_n 0, 1) := by decide +kernel
theorem dX3_value_96 : decode cX3_value 96 = .ok (.getfield 24, 3) := by decide +kernel
theorem dX3_value_99 : decode cX3_value 99 = .ok (.getfield 71, 3) := by decide +kernel
theorem dX3_value_102 : decode cX3_value 102 = .ok (.if_icmp .ge 39, 3) := by decide +kernel
theorem dX3_value_105 : decode cX3_value 105 = .ok (.aload_n 0, 1) := by decide +kernel
theorem dX3_value_106 : decode cX3_value 106 = .ok (.iload_n 2, 1) := by decide +kernel
theorem dX3_value_107 : decode cX3_value 107 = .ok (.iload 6, 2) := by decide +kernel
theorem dX3_value_109 : decode cX3_value 109 = .ok (.invokevirtual 74, 3) := by decide +kernel
theorem dX3_value_112 : decode cX3_value 112 = .ok (.ifCond .eq 23, 3) := by decide +kernel
theorem dX3_value_115 : decode cX3_value 115 = .ok (.iload 5, 2) := by decide +kernel
theorem dX3_value_117 : decode cX3_value 117 = .ok (.aload_n 0, 1) := by decide +kernel
theorem dX3_value_118 : decode cX3_value 118 = .ok (.iload_n 1, 1) := by decide +kernel
theorem dX3_value_119 : decode cX3_value 119 = .ok (.aload_n 0, 1) := by decide +kernel
theorem dX3_value_120 : decode cX3_value 120 = .ok (.iload_n 2, 1) := by decide +kernel
theorem dX3_value_121 : decode cX3_value 121 = .ok (.iload 6, 2) := by decide +kernel
theorem dX3_value_123 : decode cX3_value 123 = .ok (.invokevirtual 78, 3) := by decide +kernel
theorem dX3_value_126 : decode cX3_value 126 = .ok (.iload_n 3, 1) := by decide +kernel
theorem dX3_value_127 : decode cX3_value 127 = .ok (.invokevirtual 68, 3) := by decide +kernel
theorem dX3_value_130 : decode cX3_value 130 = .ok (.invokestatic 81, 3) := by decide +kernel
theorem dX3_value_133 : decode cX3_value 133 = .ok (.istore 5, 2) := by decide +kernel
theorem dX3_value_135 : decode cX3_value 135 = .ok (.iinc 6 1, 3) := by decide +kernel
theorem dX3_value_138 : decode cX3_value 138 = .ok (.goto (-45), 3) := by decide +kernel
theorem dX3_value_141 : decode cX3_value 141 = .ok (.aload_n 0, 1) := by decide +kernel
theorem dX3_value_142 : decode cX3_value 142 = .ok (.getfield 11, 3) := by decide +kernel
theorem dX3_value_145 : decode cX3_value 145 = .ok (.iload 4, 2) := by decide +kernel
theorem dX3_value_147 : decode cX3_value 147 = .ok (.iload 5, 2) := by decide +kernel
theorem dX3_value_149 : decode cX3_value 149 = .ok (.iastore, 1) := by decide +kernel
theorem dX3_value_150 : decode cX3_value 150 = .ok (.iload 5, 2) := by decide +kernel
theorem dX3_value_152 : decode cX3_value 152 = .ok (.ireturn, 1) := by decide +kernel
theorem dX3_choice_0 : decode cX3_choice 0 = .ok (.aload_n 0, 1) := by decide +kernel
theorem dX3_choice_1 : decode cX3_choice 1 = .ok (.getfield 24, 3) := by decide +kernel
theorem dX3_choice_4 : decode cX3_choice 4 = .ok (.iload_n 1, 1) := by decide +kernel
theorem dX3_choice_5 : decode cX3_choice 5 = .ok (.invokevirtual 51, 3) := by decide +kernel
theorem dX3_choice_8 : decode cX3_choice 8 = .ok (.ifCond .eq 6, 3) := by decide +kernel
theorem dX3_choice_11 : decode cX3_choice 11 = .ok (.bipush (-9), 2) := by decide +kernel
theorem dX3_choice_13 : decode cX3_choice 13 = .ok (.ireturn, 1) := by decide +kernel
theorem dX3_choice_14 : decode cX3_choice 14 = .ok (.aload_n 0, 1) := by decide +kernel
theorem dX3_choice_15 : decode cX3_choice 15 = .ok (.iload_n 1, 1) := by decide +kernel
theorem dX3_choice_16 : decode cX3_choice 16 = .ok (.iload_n 2, 1) := by decide +kernel
theorem dX3_choice_17 : decode cX3_choice 17 = .ok (.iconst 0, 1) := by decide +kernel
theorem dX3_choice_18 : decode cX3_choice 18 = .ok (.invokevirtual 47, 3) := by decide +kernel
theorem dX3_choice_21 : decode cX3_choice 21 = .ok (.istore_n 3, 1) := by decide +kernel
theorem dX3_choice_22 : decode cX3_choice 22 = .ok (.iconst 0, 1) := by decide +kernel
theorem dX3_choice_23 : decode cX3_choice 23 = .ok (.istore 4, 2) := by decide +kernel
theorem dX3_choice_25 : decode cX3_choice 25 = .ok (.iload 4, 2) := by decide +kernel
theorem dX3_choice_27 : decode cX3_choice 27 = .ok (.aload_n 0, 1) := by decide +kernel
theorem dX3_choice_28 : decode cX3_choice 28 = .ok (.getfield 24, 3) := by decide +kernel
theorem dX3_choice_31 : decode cX3_choice 31 = .ok (.getfield 71, 3) := by decide +kernel
theorem dX3_choice_34 : decode cX3_choice 34 = .ok (.if_icmp .ge 39, 3) := by decide +kernel
theorem dX3_choice_37 : decode cX3_choice 37 = .ok (.aload_n 0, 1) := by decide +kernel
theorem dX3_choice_38 : decode cX3_choice 38 = .ok (.iload_n 2, 1) := by decide +kernel
theorem dX3_choice_39 : decode cX3_choice 39 = .ok (.iload 4, 2) := by decide +kernel
theorem dX3_choice_41 : decode cX3_choice 41 = .ok (.invokevirtual 74, 3) := by decide +kernel
theorem dX3_choice_44 : decode cX3_choice 44 = .ok (.ifCond .eq 23, 3) := by decide +kernel
theorem dX3_choice_47 : decode cX3_choice 47 = .ok (.aload_n 0, 1) := by decide +kernel
theorem dX3_choice_48 : decode cX3_choice 48 = .ok (.iload_n 1, 1) := by decide +kernel
theorem dX3_choice_49 : decode cX3_choice 49 = .ok (.aload_n 0, 1) := by decide +kernel
theorem dX3_choice_50 : decode cX3_choice 50 = .ok (.iload_n 2, 1) := by decide +kernel
theorem dX3_choice_51 : decode cX3_choice 51 = .ok (.iload 4, 2) := by decide +kernel
theorem dX3_choice_53 : decode cX3_choice 53 = .ok (.invokevirtual 78, 3) := by decide +kernel
theorem dX3_choice_56 : decode cX3_choice 56 = .ok (.iconst 0, 1) := by decide +kernel
theorem dX3_choice_57 : decode cX3_choice 57 = .ok (.invokevirtual 68, 3) := by decide +kernel
theorem dX3_choice_60 : decode cX3_choice 60 = .ok (.iload_n 3, 1) := by decide +kernel
theorem dX3_choice_61 : decode cX3_choice 61 = .ok (.if_icmp .ne 6, 3) := by decide +kernel
theorem dX3_choice_64 : decode cX3_choice 64 = .ok (.iload 4, 2) := by decide +kernel
theorem dX3_choice_66 : decode cX3_choice 66 = .ok (.ireturn, 1) := by decide +kernel
theorem dX3_choice_67 : decode cX3_choice 67 = .ok (.iinc 4 1, 3) := by decide +kernel
theorem dX3_choice_70 : decode cX3_choice 70 = .ok (.goto (-45), 3) := by decide +kernel
theorem dX3_choice_73 : decode cX3_choice 73 = .ok (.bipush (-9), 2) := by decide +kernel
theorem dX3_choice_75 : decode cX3_choice 75 = .ok (.ireturn, 1) := by decide +kernel
theorem dX3_canBegin_0 : decode cX3_canBegin 0 = .ok (.iload_n 1, 1) := by decide +kernel
theorem dX3_canBegin_1 : decode cX3_canBegin 1 = .ok (.iload_n 2, 1) := by decide +kernel
theorem dX3_canBegin_2 : decode cX3_canBegin 2 = .ok (.invokestatic 86, 3) := by decide +kernel
theorem dX3_canBegin_5 : decode cX3_canBegin 5 = .ok (.ifCond .ne 14, 3) := by decide +kernel
theorem dX3_canBegin_8 : decode cX3_canBegin 8 = .ok (.iload_n 1, 1) := by decide +kernel
theorem dX3_canBegin_9 : decode cX3_canBegin 9 = .ok (.invokestatic 89, 3) := by decide +kernel
theorem dX3_canBegin_12 : decode cX3_canBegin 12 = .ok (.ifCond .ge 7, 3) := by decide +kernel
theorem dX3_canBegin_15 : decode cX3_canBegin 15 = .ok (.iconst 1, 1) := by decide +kernel
theorem dX3_canBegin_16 : decode cX3_canBegin 16 = .ok (.goto 4, 3) := by decide +kernel
theorem dX3_canBegin_19 : decode cX3_canBegin 19 = .ok (.iconst 0, 1) := by decide +kernel
theorem dX3_canBegin_20 : decode cX3_canBegin 20 = .ok (.ireturn, 1) := by decide +kernel
theorem dX3_begun_0 : decode cX3_begun 0 = .ok (.iload_n 1, 1) := by decide +kernel
theorem dX3_begun_1 : decode cX3_begun 1 = .ok (.iload_n 2, 1) := by decide +kernel
theorem dX3_begun_2 : decode cX3_begun 2 = .ok (.aload_n 0, 1) := by decide +kernel
theorem dX3_begun_3 : decode cX3_begun 3 = .ok (.getfield 24, 3) := by decide +kernel
theorem dX3_begun_6 : decode cX3_begun 6 = .ok (.getfield 92, 3) := by decide +kernel
theorem dX3_begun_9 : decode cX3_begun 9 = .ok (.iload_n 2, 1) := by decide +kernel
theorem dX3_begun_10 : decode cX3_begun 10 = .ok (.iaload, 1) := by decide +kernel
theorem dX3_begun_11 : decode cX3_begun 11 = .ok (.invokestatic 95, 3) := by decide +kernel
theorem dX3_begun_14 : decode cX3_begun 14 = .ok (.ireturn, 1) := by decide +kernel
theorem dX3_valueOnceSaid_0 : decode cX3_valueOnceSaid 0 = .ok (.iload_n 2, 1) := by decide +kernel
theorem dX3_valueOnceSaid_1 : decode cX3_valueOnceSaid 1 = .ok (.aload_n 0, 1) := by decide +kernel
theorem dX3_valueOnceSaid_2 : decode cX3_valueOnceSaid 2 = .ok (.getfield 24, 3) := by decide +kernel
theorem dX3_valueOnceSaid_5 : decode cX3_valueOnceSaid 5 = .ok (.getfield 98, 3) := by decide +kernel
theorem dX3_valueOnceSaid_8 : decode cX3_valueOnceSaid 8 = .ok (.iload_n 1, 1) := by decide +kernel
theorem dX3_valueOnceSaid_9 : decode cX3_valueOnceSaid 9 = .ok (.iaload, 1) := by decide +kernel
theorem dX3_valueOnceSaid_10 : decode cX3_valueOnceSaid 10 = .ok (.invokestatic 101, 3) := by decide +kernel
theorem dX3_valueOnceSaid_13 : decode cX3_valueOnceSaid 13 = .ok (.istore 4, 2) := by decide +kernel
theorem dX3_valueOnceSaid_15 : decode cX3_valueOnceSaid 15 = .ok (.aload_n 0, 1) := by decide +kernel
theorem dX3_valueOnceSaid_16 : decode cX3_valueOnceSaid 16 = .ok (.getfield 20, 3) := by decide +kernel
theorem dX3_valueOnceSaid_19 : decode cX3_valueOnceSaid 19 = .ok (.iconst 2, 1) := by decide +kernel
theorem dX3_valueOnceSaid_20 : decode cX3_valueOnceSaid 20 = .ok (.if_icmp .ne 19, 3) := by decide +kernel
theorem dX3_valueOnceSaid_23 : decode cX3_valueOnceSaid 23 = .ok (.aload_n 0, 1) := by decide +kernel
theorem dX3_valueOnceSaid_24 : decode cX3_valueOnceSaid 24 = .ok (.aload_n 0, 1) := by decide +kernel
theorem dX3_valueOnceSaid_25 : decode cX3_valueOnceSaid 25 = .ok (.getfield 17, 3) := by decide +kernel
theorem dX3_valueOnceSaid_28 : decode cX3_valueOnceSaid 28 = .ok (.iload_n 1, 1) := by decide +kernel
theorem dX3_valueOnceSaid_29 : decode cX3_valueOnceSaid 29 = .ok (.iaload, 1) := by decide +kernel
theorem dX3_valueOnceSaid_30 : decode cX3_valueOnceSaid 30 = .ok (.iload 4, 2) := by decide +kernel
theorem dX3_valueOnceSaid_32 : decode cX3_valueOnceSaid 32 = .ok (.iload_n 3, 1) := by decide +kernel
theorem dX3_valueOnceSaid_33 : decode cX3_valueOnceSaid 33 = .ok (.iconst 1, 1) := by decide +kernel
theorem dX3_valueOnceSaid_34 : decode cX3_valueOnceSaid 34 = .ok (.iadd, 1) := by decide +kernel
theorem dX3_valueOnceSaid_35 : decode cX3_valueOnceSaid 35 = .ok (.invokevirtual 47, 3) := by decide +kernel
theorem dX3_valueOnceSaid_38 : decode cX3_valueOnceSaid 38 = .ok (.ireturn, 1) := by decide +kernel
theorem dX3_valueOnceSaid_39 : decode cX3_valueOnceSaid 39 = .ok (.aload_n 0, 1) := by decide +kernel
theorem dX3_valueOnceSaid_40 : decode cX3_valueOnceSaid 40 = .ok (.getfield 20, 3) := by decide +kernel
theorem dX3_valueOnceSaid_43 : decode cX3_valueOnceSaid 43 = .ok (.iconst 1, 1) := by decide +kernel
theorem dX3_valueOnceSaid_44 : decode cX3_valueOnceSaid 44 = .ok (.if_icmp .ne 14, 3) := by decide +kernel
theorem dX3_valueOnceSaid_47 : decode cX3_valueOnceSaid 47 = .ok (.aload_n 0, 1) := by decide +kernel
theorem dX3_valueOnceSaid_48 : decode cX3_valueOnceSaid 48 = .ok (.iload_n 1, 1) := by decide +kernel
theorem dX3_valueOnceSaid_49 : decode cX3_valueOnceSaid 49 = .ok (.iload 4, 2) := by decide +kernel
theorem dX3_valueOnceSaid_51 : decode cX3_valueOnceSaid 51 = .ok (.iload_n 3, 1) := by decide +kernel
theorem dX3_valueOnceSaid_52 : decode cX3_valueOnceSaid 52 = .ok (.invokevirtual 104, 3) := by decide +kernel
theorem dX3_valueOnceSaid_55 : decode cX3_valueOnceSaid 55 = .ok (.goto 11, 3) := by decide +kernel
theorem dX3_valueOnceSaid_58 : decode cX3_valueOnceSaid 58 = .ok (.aload_n 0, 1) := by decide +kernel
theorem dX3_valueOnceSaid_59 : decode cX3_valueOnceSaid 59 = .ok (.iload_n 1, 1) := by decide +kernel
theorem dX3_valueOnceSaid_60 : decode cX3_valueOnceSaid 60 = .ok (.iload 4, 2) := by decide +kernel
theorem dX3_valueOnceSaid_62 : decode cX3_valueOnceSaid 62 = .ok (.iload_n 3, 1) := by decide +kernel
theorem dX3_valueOnceSaid_63 : decode cX3_valueOnceSaid 63 = .ok (.invokevirtual 107, 3) := by decide +kernel
theorem dX3_valueOnceSaid_66 : decode cX3_valueOnceSaid 66 = .ok (.ireturn, 1) := by decide +kernel
theorem dX3_leastBehind_0 : decode cX3_leastBehind 0 = .ok (.ldc 110, 2) := by decide +kernel
theorem dX3_leastBehind_2 : decode cX3_leastBehind 2 = .ok (.istore 4, 2) := by decide +kernel
theorem dX3_leastBehind_4 : decode cX3_leastBehind 4 = .ok (.iconst 0, 1) := by decide +kernel
theorem dX3_leastBehind_5 : decode cX3_leastBehind 5 = .ok (.istore 5, 2) := by decide +kernel
theorem dX3_leastBehind_7 : decode cX3_leastBehind 7 = .ok (.iload 5, 2) := by decide +kernel
theorem dX3_leastBehind_9 : decode cX3_leastBehind 9 = .ok (.aload_n 0, 1) := by decide +kernel
theorem dX3_leastBehind_10 : decode cX3_leastBehind 10 = .ok (.getfield 24, 3) := by decide +kernel
theorem dX3_leastBehind_13 : decode cX3_leastBehind 13 = .ok (.getfield 111, 3) := by decide +kernel
theorem dX3_leastBehind_16 : decode cX3_leastBehind 16 = .ok (.iload_n 1, 1) := by decide +kernel
theorem dX3_leastBehind_17 : decode cX3_leastBehind 17 = .ok (.iaload, 1) := by decide +kernel
theorem dX3_leastBehind_18 : decode cX3_leastBehind 18 = .ok (.if_icmp .ge 42, 3) := by decide +kernel
theorem dX3_leastBehind_21 : decode cX3_leastBehind 21 = .ok (.iload 4, 2) := by decide +kernel
theorem dX3_leastBehind_23 : decode cX3_leastBehind 23 = .ok (.aload_n 0, 1) := by decide +kernel
theorem dX3_leastBehind_24 : decode cX3_leastBehind 24 = .ok (.aload_n 0, 1) := by decide +kernel
theorem dX3_leastBehind_25 : decode cX3_leastBehind 25 = .ok (.getfield 24, 3) := by decide +kernel
theorem dX3_leastBehind_28 : decode cX3_leastBehind 28 = .ok (.getfield 44, 3) := by decide +kernel
theorem dX3_leastBehind_31 : decode cX3_leastBehind 31 = .ok (.aload_n 0, 1) := by decide +kernel
theorem dX3_leastBehind_32 : decode cX3_leastBehind 32 = .ok (.getfield 24, 3) := by decide +kernel
theorem dX3_leastBehind_35 : decode cX3_leastBehind 35 = .ok (.iload_n 1, 1) := by decide +kernel
theorem dX3_leastBehind_36 : decode cX3_leastBehind 36 = .ok (.iload 5, 2) := by decide +kernel
theorem dX3_leastBehind_38 : decode cX3_leastBehind 38 = .ok (.invokevirtual 114, 3) := by decide +kernel
theorem dX3_leastBehind_41 : decode cX3_leastBehind 41 = .ok (.iaload, 1) := by decide +kernel
theorem dX3_leastBehind_42 : decode cX3_leastBehind 42 = .ok (.iload_n 2, 1) := by decide +kernel
theorem dX3_leastBehind_43 : decode cX3_leastBehind 43 = .ok (.iload_n 3, 1) := by decide +kernel
theorem dX3_leastBehind_44 : decode cX3_leastBehind 44 = .ok (.iconst 1, 1) := by decide +kernel
theorem dX3_leastBehind_45 : decode cX3_leastBehind 45 = .ok (.iadd, 1) := by decide +kernel
theorem dX3_leastBehind_46 : decode cX3_leastBehind 46 = .ok (.invokevirtual 47, 3) := by decide +kernel
theorem dX3_leastBehind_49 : decode cX3_leastBehind 49 = .ok (.invokestatic 117, 3) := by decide +kernel
theorem dX3_leastBehind_52 : decode cX3_leastBehind 52 = .ok (.istore 4, 2) := by decide +kernel
theorem dX3_leastBehind_54 : decode cX3_leastBehind 54 = .ok (.iinc 5 1, 3) := by decide +kernel
theorem dX3_leastBehind_57 : decode cX3_leastBehind 57 = .ok (.goto (-50), 3) := by decide +kernel
theorem dX3_leastBehind_60 : decode cX3_leastBehind 60 = .ok (.iload 4, 2) := by decide +kernel
theorem dX3_leastBehind_62 : decode cX3_leastBehind 62 = .ok (.ireturn, 1) := by decide +kernel
theorem dX3_meanBehind_0 : decode cX3_meanBehind 0 = .ok (.iconst 0, 1) := by decide +kernel
theorem dX3_meanBehind_1 : decode cX3_meanBehind 1 = .ok (.istore 4, 2) := by decide +kernel
theorem dX3_meanBehind_3 : decode cX3_meanBehind 3 = .ok (.iconst 0, 1) := by decide +kernel
theorem dX3_meanBehind_4 : decode cX3_meanBehind 4 = .ok (.istore 5, 2) := by decide +kernel
theorem dX3_meanBehind_6 : decode cX3_meanBehind 6 = .ok (.iload 5, 2) := by decide +kernel
theorem dX3_meanBehind_8 : decode cX3_meanBehind 8 = .ok (.aload_n 0, 1) := by decide +kernel
theorem dX3_meanBehind_9 : decode cX3_meanBehind 9 = .ok (.getfield 24, 3) := by decide +kernel
theorem dX3_meanBehind_12 : decode cX3_meanBehind 12 = .ok (.getfield 111, 3) := by decide +kernel
theorem dX3_meanBehind_15 : decode cX3_meanBehind 15 = .ok (.iload_n 1, 1) := by decide +kernel
theorem dX3_meanBehind_16 : decode cX3_meanBehind 16 = .ok (.iaload, 1) := by decide +kernel
theorem dX3_meanBehind_17 : decode cX3_meanBehind 17 = .ok (.if_icmp .ge 55, 3) := by decide +kernel
theorem dX3_meanBehind_20 : decode cX3_meanBehind 20 = .ok (.aload_n 0, 1) := by decide +kernel
theorem dX3_meanBehind_21 : decode cX3_meanBehind 21 = .ok (.getfield 24, 3) := by decide +kernel
theorem dX3_meanBehind_24 : decode cX3_meanBehind 24 = .ok (.getfield 44, 3) := by decide +kernel
theorem dX3_meanBehind_27 : decode cX3_meanBehind 27 = .ok (.aload_n 0, 1) := by decide +kernel
theorem dX3_meanBehind_28 : decode cX3_meanBehind 28 = .ok (.getfield 24, 3) := by decide +kernel
theorem dX3_meanBehind_31 : decode cX3_meanBehind 31 = .ok (.iload_n 1, 1) := by decide +kernel
theorem dX3_meanBehind_32 : decode cX3_meanBehind 32 = .ok (.iload 5, 2) := by decide +kernel
theorem dX3_meanBehind_34 : decode cX3_meanBehind 34 = .ok (.invokevirtual 114, 3) := by decide +kernel
theorem dX3_meanBehind_37 : decode cX3_meanBehind 37 = .ok (.iaload, 1) := by decide +kernel
theorem dX3_meanBehind_38 : decode cX3_meanBehind 38 = .ok (.istore 6, 2) := by decide +kernel
theorem dX3_meanBehind_40 : decode cX3_meanBehind 40 = .ok (.iload 4, 2) := by decide +kernel
theorem dX3_meanBehind_42 : decode cX3_meanBehind 42 = .ok (.aload_n 0, 1) := by decide +kernel
theorem dX3_meanBehind_43 : decode cX3_meanBehind 43 = .ok (.iload 6, 2) := by decide +kernel
theorem dX3_meanBehind_45 : decode cX3_meanBehind 45 = .ok (.iload_n 2, 1) := by decide +kernel
theorem dX3_meanBehind_46 : decode cX3_meanBehind 46 = .ok (.iload_n 3, 1) := by decide +kernel
theorem dX3_meanBehind_47 : decode cX3_meanBehind 47 = .ok (.iconst 1, 1) := by decide +kernel
theorem dX3_meanBehind_48 : decode cX3_meanBehind 48 = .ok (.iadd, 1) := by decide +kernel
theorem dX3_meanBehind_49 : decode cX3_meanBehind 49 = .ok (.invokevirtual 47, 3) := by decide +kernel
theorem dX3_meanBehind_52 : decode cX3_meanBehind 52 = .ok (.aload_n 0, 1) := by decide +kernel
theorem dX3_meanBehind_53 : decode cX3_meanBehind 53 = .ok (.getfield 28, 3) := by decide +kernel
theorem dX3_meanBehind_56 : decode cX3_meanBehind 56 = .ok (.iload_n 1, 1) := by decide +kernel
theorem dX3_meanBehind_57 : decode cX3_meanBehind 57 = .ok (.iload 6, 2) := by decide +kernel
theorem dX3_meanBehind_59 : decode cX3_meanBehind 59 = .ok (.invokevirtual 120, 3) := by decide +kernel
theorem dX3_meanBehind_62 : decode cX3_meanBehind 62 = .ok (.imul, 1) := by decide +kernel
theorem dX3_meanBehind_63 : decode cX3_meanBehind 63 = .ok (.iadd, 1) := by decide +kernel
theorem dX3_meanBehind_64 : decode cX3_meanBehind 64 = .ok (.istore 4, 2) := by decide +kernel
theorem dX3_meanBehind_66 : decode cX3_meanBehind 66 = .ok (.iinc 5 1, 3) := by decide +kernel
theorem dX3_meanBehind_69 : decode cX3_meanBehind 69 = .ok (.goto (-63), 3) := by decide +kernel
theorem dX3_meanBehind_72 : decode cX3_meanBehind 72 = .ok (.iload 4, 2) := by decide +kernel
theorem dX3_meanBehind_74 : decode cX3_meanBehind 74 = .ok (.ireturn, 1) := by decide +kernel
theorem dX4_init_0 : decode cX4_init 0 = .ok (.aload_n 0, 1) := by decide +kernel
theorem dX4_init_1 : decode cX4_init 1 = .ok (.invokespecial 3, 3) := by decide +kernel
theorem dX4_init_4 : decode cX4_init 4 = .ok (.aload_n 0, 1) := by decide +kernel
theorem dX4_init_5 : decode cX4_init 5 = .ok (.iconst 0, 1) := by decide +kernel
theorem dX4_init_6 : decode cX4_init 6 = .ok (.newarray .byte, 2) := by decide +kernel
theorem dX4_init_8 : decode cX4_init 8 = .ok (.putfield 9, 3) := by decide +kernel
theorem dX4_init_11 : decode cX4_init 11 = .ok (.aload_n 0, 1) := by decide +kernel
theorem dX4_init_12 : decode cX4_init 12 = .ok (.aload_n 1, 1) := by decide +kernel
theorem dX4_init_13 : decode cX4_init 13 = .ok (.putfield 15, 3) := by decide +kernel
theorem dX4_init_16 : decode cX4_init 16 = .ok (.return_, 1) := by decide +kernel
theorem dX4_faultOf_0 : decode cX4_faultOf 0 = .ok (.aload_n 0, 1) := by decide +kernel
theorem dX4_faultOf_1 : decode cX4_faultOf 1 = .ok (.aload_n 1, 1) := by decide +kernel
theorem dX4_faultOf_2 : decode cX4_faultOf 2 = .ok (.putfield 9, 3) := by decide +kernel
theorem dX4_faultOf_5 : decode cX4_faultOf 5 = .ok (.aload_n 0, 1) := by decide +kernel
theorem dX4_faultOf_6 : decode cX4_faultOf 6 = .ok (.iload_n 2, 1) := by decide +kernel
theorem dX4_faultOf_7 : decode cX4_faultOf 7 = .ok (.aload_n 1, 1) := by decide +kernel
theorem dX4_faultOf_8 : decode cX4_faultOf 8 = .ok (.arraylength, 1) := by decide +kernel
theorem dX4_faultOf_9 : decode cX4_faultOf 9 = .ok (.invokestatic 19, 3) := by decide +kernel
theorem dX4_faultOf_12 : decode cX4_faultOf 12 = .ok (.putfield 25, 3) := by decide +kernel
theorem dX4_faultOf_15 : decode cX4_faultOf 15 = .ok (.aload_n 0, 1) := by decide +kernel
theorem dX4_faultOf_16 : decode cX4_faultOf 16 = .ok (.iconst 0, 1) := by decide +kernel
theorem dX4_faultOf_17 : decode cX4_faultOf 17 = .ok (.putfield 29, 3) := by decide +kernel
theorem dX4_faultOf_20 : decode cX4_faultOf 20 = .ok (.aload_n 0, 1) := by decide +kernel
theorem dX4_faultOf_21 : decode cX4_faultOf 21 = .ok (.aload_n 3, 1) := by decide +kernel
theorem dX4_faultOf_22 : decode cX4_faultOf 22 = .ok (.putfield 15, 3) := by decide +kernel
theorem dX4_faultOf_25 : decode cX4_faultOf 25 = .ok (.aload_n 0, 1) := by decide +kernel
theorem dX4_faultOf_26 : decode cX4_faultOf 26 = .ok (.getfield 15, 3) := by decide +kernel
theorem dX4_faultOf_29 : decode cX4_faultOf 29 = .ok (.invokevirtual 32, 3) := by decide +kernel
theorem dX4_faultOf_32 : decode cX4_faultOf 32 = .ok (.iconst 0, 1) := by decide +kernel
theorem dX4_faultOf_33 : decode cX4_faultOf 33 = .ok (.istore 4, 2) := by decide +kernel
theorem dX4_faultOf_35 : decode cX4_faultOf 35 = .ok (.iload 4, 2) := by decide +kernel
theorem dX4_faultOf_37 : decode cX4_faultOf 37 = .ok (.aload_n 0, 1) := by decide +kernel
theorem dX4_faultOf_38 : decode cX4_faultOf 38 = .ok (.getfield 25, 3) := by decide +kernel
theorem dX4_faultOf_41 : decode cX4_faultOf 41 = .ok (.if_icmp .gt 48, 3) := by decide +kernel
theorem dX4_faultOf_44 : decode cX4_faultOf 44 = .ok (.aload_n 0, 1) := by decide +kernel
theorem dX4_faultOf_45 : decode cX4_faultOf 45 = .ok (.invokevirtual 37, 3) := by decide +kernel
theorem dX4_faultOf_48 : decode cX4_faultOf 48 = .ok (.aload_n 0, 1) := by decide +kernel
theorem dX4_faultOf_49 : decode cX4_faultOf 49 = .ok (.getfield 29, 3) := by decide +kernel
theorem dX4_faultOf_52 : decode cX4_faultOf 52 = .ok (.aload_n 0, 1) := by decide +kernel
theorem dX4_faultOf_53 : decode cX4_faultOf 53 = .ok (.getfield 25, 3) := by decide +kernel
theorem dX4_faultOf_56 : decode cX4_faultOf 56 = .ok (.if_icmp .lt 6, 3) := by decide +kernel
theorem dX4_faultOf_59 : decode cX4_faultOf 59 = .ok (.goto 30, 3) := by decide +kernel
theorem dX4_faultOf_62 : decode cX4_faultOf 62 = .ok (.aload_n 0, 1) := by decide +kernel
theorem dX4_faultOf_63 : decode cX4_faultOf 63 = .ok (.aload_n 0, 1) := by decide +kernel
theorem dX4_faultOf_64 : decode cX4_faultOf 64 = .ok (.getfield 9, 3) := by decide +kernel
theorem dX4_faultOf_67 : decode cX4_faultOf 67 = .ok (.aload_n 0, 1) := by decide +kernel
theorem dX4_faultOf_68 : decode cX4_faultOf 68 = .ok (.getfield 29, 3) := by decide +kernel
theorem dX4_faultOf_71 : decode cX4_faultOf 71 = .ok (.baload, 1) := by decide +kernel
theorem dX4_faultOf_72 : decode cX4_faultOf 72 = .ok (.invokevirtual 40, 3) := by decide +kernel
theorem dX4_faultOf_75 : decode cX4_faultOf 75 = .ok (.ifCond .ne 8, 3) := by decide +kernel
theorem dX4_faultOf_78 : decode cX4_faultOf 78 = .ok (.aload_n 0, 1) := by decide +kernel
theorem dX4_faultOf_79 : decode cX4_faultOf 79 = .ok (.getfield 29, 3) := by decide +kernel
theorem dX4_faultOf_82 : decode cX4_faultOf 82 = .ok (.ireturn, 1) := by decide +kernel
theorem dX4_faultOf_83 : decode cX4_faultOf 83 = .ok (.iinc 4 1, 3) := by decide +kernel
theorem dX4_faultOf_86 : decode cX4_faultOf 86 = .ok (.goto (-51), 3) := by decide +kernel
theorem dX4_faultOf_89 : decode cX4_faultOf 89 = .ok (.aload_n 0, 1) := by decide +kernel
theorem dX4_faultOf_90 : decode cX4_faultOf 90 = .ok (.getfield 15, 3) := by decide +kernel
theorem dX4_faultOf_93 : decode cX4_faultOf 93 = .ok (.getfield 44, 3) := by decide +kernel
theorem dX4_faultOf_96 : decode cX4_faultOf 96 = .ok (.iconst 2, 1) := by decide +kernel
theorem dX4_faultOf_97 : decode cX4_faultOf 97 = .ok (.if_icmp .ge 10, 3) := by decide +kernel
theorem dX4_faultOf_100 : decode cX4_faultOf 100 = .ok (.aload_n 0, 1) := by decide +kernel
theorem dX4_faultOf_101 : decode cX4_faultOf 101 = .ok (.getfield 25, 3) := by decide +kernel
theorem dX4_faultOf_104 : decode cX4_faultOf 104 = .ok (.goto 5, 3) := by decide +kernel
theorem dX4_faultOf_107 : decode cX4_faultOf 107 = .ok (.bipush (-9), 2) := by decide +kernel
theorem dX4_faultOf_109 : decode cX4_faultOf 109 = .ok (.ireturn, 1) := by decide +kernel
theorem dX4_skipBlanks_0 : decode cX4_skipBlanks 0 = .ok (.aload_n 0, 1) := by decide +kernel
theorem dX4_skipBlanks_1 : decode cX4_skipBlanks 1 = .ok (.getfield 29, 3) := by decide +kernel
theorem dX4_skipBlanks_4 : decode cX4_skipBlanks 4 = .ok (.aload_n 0, 1) := by decide +kernel
theorem dX4_skipBlanks_5 : decode cX4_skipBlanks 5 = .ok (.getfield 25, 3) := by decide +kernel
theorem dX4_skipBlanks_8 : decode cX4_skipBlanks 8 = .ok (.if_icmp .ge 30, 3) := by decide +kernel
theorem dX4_skipBlanks_11 : decode cX4_skipBlanks 11 = .ok (.aload_n 0, 1) := by decide +kernel
theorem dX4_skipBlanks_12 : decode cX4_skipBlanks 12 = .ok (.getfield 9, 3) := by decide +kernel
theorem dX4_skipBlanks_15 : decode cX4_skipBlanks 15 = .ok (.aload_n 0, 1) := by decide +kernel
theorem dX4_skipBlanks_16 : decode cX4_skipBlanks 16 = .ok (.getfield 29, 3) := by decide +kernel
theorem dX4_skipBlanks_19 : decode cX4_skipBlanks 19 = .ok (.baload, 1) := by decide +kernel
theorem dX4_skipBlanks_20 : decode cX4_skipBlanks 20 = .ok (.bipush 32, 2) := by decide +kernel
theorem dX4_skipBlanks_22 : decode cX4_skipBlanks 22 = .ok (.if_icmp .ne 16, 3) := by decide +kernel
theorem dX4_skipBlanks_25 : decode cX4_skipBlanks 25 = .ok (.aload_n 0, 1) := by decide +kernel
theorem dX4_skipBlanks_26 : decode cX4_skipBlanks 26 = .ok (.dup, 1) := by decide +kernel
theorem dX4_skipBlanks_27 : decode cX4_skipBlanks 27 = .ok (.getfield 29, 3) := by decide +kernel
theorem dX4_skipBlanks_30 : decode cX4_skipBlanks 30 = .ok (.iconst 1, 1) := by decide +kernel
theorem dX4_skipBlanks_31 : decode cX4_skipBlanks 31 = .ok (.iadd, 1) := by decide +kernel
theorem dX4_skipBlanks_32 : decode cX4_skipBlanks 32 = .ok (.putfield 29, 3) := by decide +kernel
theorem dX4_skipBlanks_35 : decode cX4_skipBlanks 35 = .ok (.goto (-35), 3) := by decide +kernel
theorem dX4_skipBlanks_38 : decode cX4_skipBlanks 38 = .ok (.return_, 1) := by decide +kernel
theorem dX4_readItem_0 : decode cX4_readItem 0 = .ok (.iload_n 1, 1) := by decide +kernel
theorem dX4_readItem_1 : decode cX4_readItem 1 = .ok (.lookupswitch 37 #[(100, 32), (120, 27)], 27) := by decide +kernel
theorem dX4_readItem_28 : decode cX4_readItem 28 = .ok (.aload_n 0, 1) := by decide +kernel
theorem dX4_readItem_29 : decode cX4_readItem 29 = .ok (.invokevirtual 47, 3) := by decide +kernel
theorem dX4_readItem_32 : decode cX4_readItem 32 = .ok (.ireturn, 1) := by decide +kernel
theorem dX4_readItem_33 : decode cX4_readItem 33 = .ok (.aload_n 0, 1) := by decide +kernel
theorem dX4_readItem_34 : decode cX4_readItem 34 = .ok (.invokevirtual 51, 3) := by decide +kernel
theorem dX4_readItem_37 : decode cX4_readItem 37 = .ok (.ireturn, 1) := by decide +kernel
theorem dX4_readItem_38 : decode cX4_readItem 38 = .ok (.aload_n 0, 1) := by decide +kernel
theorem dX4_readItem_39 : decode cX4_readItem 39 = .ok (.iload_n 1, 1) := by decide +kernel
theorem dX4_readItem_40 : decode cX4_readItem 40 = .ok (.invokestatic 54, 3) := by decide +kernel
theorem dX4_readItem_43 : decode cX4_readItem 43 = .ok (.invokevirtual 58, 3) := by decide +kernel
theorem dX4_readItem_46 : decode cX4_readItem 46 = .ok (.ireturn, 1) := by decide +kernel
theorem dX4_kindOf_0 : decode cX4_kindOf 0 = .ok (.iload_n 0, 1) := by decide +kernel
theorem dX4_kindOf_1 : decode cX4_kindOf 1 = .ok (.lookupswitch 71 #[(99, 63), (101, 61), (108, 69), (110, 59), (111, 67), (119, 65)], 59) := by decide +kernel
theorem dX4_kindOf_60 : decode cX4_kindOf 60 = .ok (.iconst 0, 1) := by decide +kernel
theorem dX4_kindOf_61 : decode cX4_kindOf 61 = .ok (.ireturn, 1) := by decide +kernel
theorem dX4_kindOf_62 : decode cX4_kindOf 62 = .ok (.iconst 1, 1) := by decide +kernel
theorem dX4_kindOf_63 : decode cX4_kindOf 63 = .ok (.ireturn, 1) := by decide +kernel
theorem dX4_kindOf_64 : decode cX4_kindOf 64 = .ok (.iconst 2, 1) := by decide +kernel
theorem dX4_kindOf_65 : decode cX4_kindOf 65 = .ok (.ireturn, 1) := by decide +kernel
theorem dX4_kindOf_66 : decode cX4_kindOf 66 = .ok (.iconst 3, 1) := by decide +kernel
theorem dX4_kindOf_67 : decode cX4_kindOf 67 = .ok (.ireturn, 1) := by decide +kernel
theorem dX4_kindOf_68 : decode cX4_kindOf 68 = .ok (.iconst 4, 1) := by decide +kernel
theorem dX4_kindOf_69 : decode cX4_kindOf 69 = .ok (.ireturn, 1) := by decide +kernel
theorem dX4_kindOf_70 : decode cX4_kindOf 70 = .ok (.iconst 5, 1) := by decide +kernel
theorem dX4_kindOf_71 : decode cX4_kindOf 71 = .ok (.ireturn, 1) := by decide +kernel
theorem dX4_kindOf_72 : decode cX4_kindOf 72 = .ok (.iconst (-1), 1) := by decide +kernel
theorem dX4_kindOf_73 : decode cX4_kindOf 73 = .ok (.ireturn, 1) := by decide +kernel
theorem dX4_readNode_0 : decode cX4_readNode 0 = .ok (.iload_n 1, 1) := by decide +kernel
theorem dX4_readNode_1 : decode cX4_readNode 1 = .ok (.iconst (-1), 1) := by decide +kernel
theorem dX4_readNode_2 : decode cX4_readNode 2 = .ok (.if_icmp .eq 35, 3) := by decide +kernel
theorem dX4_readNode_5 : decode cX4_readNode 5 = .ok (.aload_n 0, 1) := by decide +kernel
theorem dX4_readNode_6 : decode cX4_readNode 6 = .ok (.getfield 15, 3) := by decide +kernel
theorem dX4_readNode_9 : decode cX4_readNode 9 = .ok (.getfield 44, 3) := by decide +kernel
theorem dX4_readNode_12 : decode cX4_readNode 12 = .ok (.bipush 9, 2) := by decide +kernel
theorem dX4_readNode_14 : decode cX4_readNode 14 = .ok (.if_icmp .eq 23, 3) := by decide +kernel
theorem dX4_readNode_17 : decode cX4_readNode 17 = .ok (.aload_n 0, 1) := by decide +kernel
theorem dX4_readNode_18 : decode cX4_readNode 18 = .ok (.getfield 15, 3) := by decide +kernel
theorem dX4_readNode_21 : decode cX4_readNode 21 = .ok (.getfield 61, 3) := by decide +kernel
theorem dX4_readNode_24 : decode cX4_readNode 24 = .ok (.ifCond .gt 13, 3) := by decide +kernel
theorem dX4_readNode_27 : decode cX4_readNode 27 = .ok (.aload_n 0, 1) := by decide +kernel
theorem dX4_readNode_28 : decode cX4_readNode 28 = .ok (.getfield 15, 3) := by decide +kernel
theorem dX4_readNode_31 : decode cX4_readNode 31 = .ok (.getfield 64, 3) := by decide +kernel
theorem dX4_readNode_34 : decode cX4_readNode 34 = .ok (.ifCond .le 5, 3) := by decide +kernel
theorem dX4_readNode_37 : decode cX4_readNode 37 = .ok (.iconst 0, 1) := by decide +kernel
theorem dX4_readNode_38 : decode cX4_readNode 38 = .ok (.ireturn, 1) := by decide +kernel
theorem dX4_readNode_39 : decode cX4_readNode 39 = .ok (.aload_n 0, 1) := by decide +kernel
theorem dX4_readNode_40 : decode cX4_readNode 40 = .ok (.dup, 1) := by decide +kernel
theorem dX4_readNode_41 : decode cX4_readNode 41 = .ok (.getfield 29, 3) := by decide +kernel
theorem dX4_readNode_44 : decode cX4_readNode 44 = .ok (.iconst 1, 1) := by decide +kernel
theorem dX4_readNode_45 : decode cX4_readNode 45 = .ok (.iadd, 1) := by decide +kernel
theorem dX4_readNode_46 : decode cX4_readNode 46 = .ok (.putfield 29, 3) := by decide +kernel
theorem dX4_readNode_49 : decode cX4_readNode 49 = .ok (.iconst (-1), 1) := by decide +kernel
theorem dX4_readNode_50 : decode cX4_readNode 50 = .ok (.istore_n 2, 1) := by decide +kernel
theorem dX4_readNode_51 : decode cX4_readNode 51 = .ok (.iload_n 1, 1) := by decide +kernel
theorem dX4_readNode_52 : decode cX4_readNode 52 = .ok (.iconst 1, 1) := by decide +kernel
theorem dX4_readNode_53 : decode cX4_readNode 53 = .ok (.if_icmp .eq 8, 3) := by decide +kernel
theorem dX4_readNode_56 : decode cX4_readNode 56 = .ok (.iload_n 1, 1) := by decide +kernel
theorem dX4_readNode_57 : decode cX4_readNode 57 = .ok (.iconst 4, 1) := by decide +kernel
theorem dX4_readNode_58 : decode cX4_readNode 58 = .ok (.if_icmp .ne 16, 3) := by decide +kernel
theorem dX4_readNode_61 : decode cX4_readNode 61 = .ok (.aload_n 0, 1) := by decide +kernel
theorem dX4_readNode_62 : decode cX4_readNode 62 = .ok (.iconst 0, 1) := by decide +kernel
theorem dX4_readNode_63 : decode cX4_readNode 63 = .ok (.iconst 5, 1) := by decide +kernel
theorem dX4_readNode_64 : decode cX4_readNode 64 = .ok (.invokevirtual 67, 3) := by decide +kernel
theorem dX4_readNode_67 : decode cX4_readNode 67 = .ok (.istore_n 2, 1) := by decide +kernel
theorem dX4_readNode_68 : decode cX4_readNode 68 = .ok (.iload_n 2, 1) := by decide +kernel
theorem dX4_readNode_69 : decode cX4_readNode 69 = .ok (.ifCond .ge 5, 3) := by decide +kernel
theorem dX4_readNode_72 : decode cX4_readNode 72 = .ok (.iconst 0, 1) := by decide +kernel
theorem dX4_readNode_73 : decode cX4_readNode 73 = .ok (.ireturn, 1) := by decide +kernel
theorem dX4_readNode_74 : decode cX4_readNode 74 = .ok (.aload_n 0, 1) := by decide +kernel
theorem dX4_readNode_75 : decode cX4_readNode 75 = .ok (.getfield 15, 3) := by decide +kernel
theorem dX4_readNode_78 : decode cX4_readNode 78 = .ok (.iload_n 1, 1) := by decide +kernel
theorem dX4_readNode_79 : decode cX4_readNode 79 = .ok (.iload_n 2, 1) := by decide +kernel
theorem dX4_readNode_80 : decode cX4_readNode 80 = .ok (.invokevirtual 70, 3) := by decide +kernel
theorem dX4_readNode_83 : decode cX4_readNode 83 = .ok (.iconst 1, 1) := by decide +kernel
theorem dX4_readNode_84 : decode cX4_readNode 84 = .ok (.ireturn, 1) := by decide +kernel
theorem dX4_readWord_0 : decode cX4_readWord 0 = .ok (.aload_n 0, 1) := by decide +kernel
theorem dX4_readWord_1 : decode cX4_readWord 1 = .ok (.getfield 15, 3) := by decide +kernel
theorem dX4_readWord_4 : decode cX4_readWord 4 = .ok (.getfield 44, 3) := by decide +kernel
theorem dX4_readWord_7 : decode cX4_readWord 7 = .ok (.iconst 2, 1) := by decide +kernel
theorem dX4_readWord_8 : decode cX4_readWord 8 = .ok (.if_icmp .lt 25, 3) := by decide +kernel
theorem dX4_readWord_11 : decode cX4_readWord 11 = .ok (.aload_n 0, 1) := by decide +kernel
theorem dX4_readWord_12 : decode cX4_readWord 12 = .ok (.getfield 15, 3) := by decide +kernel
theorem dX4_readWord_15 : decode cX4_readWord 15 = .ok (.getfield 61, 3) := by decide +kernel
theorem dX4_readWord_18 : decode cX4_readWord 18 = .ok (.bipush 14, 2) := by decide +kernel
theorem dX4_readWord_20 : decode cX4_readWord 20 = .ok (.if_icmp .eq 13, 3) := by decide +kernel
theorem dX4_readWord_23 : decode cX4_readWord 23 = .ok (.aload_n 0, 1) := by decide +kernel
theorem dX4_readWord_24 : decode cX4_readWord 24 = .ok (.getfield 15, 3) := by decide +kernel
theorem dX4_readWord_27 : decode cX4_readWord 27 = .ok (.getfield 64, 3) := by decide +kernel
theorem dX4_readWord_30 : decode cX4_readWord 30 = .ok (.ifCond .le 5, 3) := by decide +kernel
theorem dX4_readWord_33 : decode cX4_readWord 33 = .ok (.iconst 0, 1) := by decide +kernel
theorem dX4_readWord_34 : decode cX4_readWord 34 = .ok (.ireturn, 1) := by decide +kernel
theorem dX4_readWord_35 : decode cX4_readWord 35 = .ok (.aload_n 0, 1) := by decide +kernel
theorem dX4_readWord_36 : decode cX4_readWord 36 = .ok (.dup, 1) := by decide +kernel
theorem dX4_readWord_37 : decode cX4_readWord 37 = .ok (.getfield 29, 3) := by decide +kernel
theorem dX4_readWord_40 : decode cX4_readWord 40 = .ok (.iconst 1, 1) := by decide +kernel
theorem dX4_readWord_41 : decode cX4_readWord 41 = .ok (.iadd, 1) := by decide +kernel
theorem dX4_readWord_42 : decode cX4_readWord 42 = .ok (.putfield 29, 3) := by decide +kernel
theorem dX4_readWord_45 : decode cX4_readWord 45 = .ok (.aload_n 0, 1) := by decide +kernel
theorem dX4_readWord_46 : decode cX4_readWord 46 = .ok (.iconst 0, 1) := by decide +kernel
theorem dX4_readWord_47 : decode cX4_readWord 47 = .ok (.aload_n 0, 1) := by decide +kernel
theorem dX4_readWord_48 : decode cX4_readWord 48 = .ok (.getfield 15, 3) := by decide +kernel
theorem dX4_readWord_51 : decode cX4_readWord 51 = .ok (.getfield 44, 3) := by decide +kernel
theorem dX4_readWord_54 : decode cX4_readWord 54 = .ok (.iconst 1, 1) := by decide +kernel
theorem dX4_readWord_55 : decode cX4_readWord 55 = .ok (.isub, 1) := by decide +kernel
theorem dX4_readWord_56 : decode cX4_readWord 56 = .ok (.invokevirtual 67, 3) := by decide +kernel
theorem dX4_readWord_59 : decode cX4_readWord 59 = .ok (.istore_n 1, 1) := by decide +kernel
theorem dX4_readWord_60 : decode cX4_readWord 60 = .ok (.iload_n 1, 1) := by decide +kernel
theorem dX4_readWord_61 : decode cX4_readWord 61 = .ok (.ifCond .ge 5, 3) := by decide +kernel
theorem dX4_readWord_64 : decode cX4_readWord 64 = .ok (.iconst 0, 1) := by decide +kernel
theorem dX4_readWord_65 : decode cX4_readWord 65 = .ok (.ireturn, 1) := by decide +kernel
theorem dX4_readWord_66 : decode cX4_readWord 66 = .ok (.aload_n 0, 1) := by decide +kernel
theorem dX4_readWord_67 : decode cX4_readWord 67 = .ok (.getfield 15, 3) := by decide +kernel
theorem dX4_readWord_70 : decode cX4_readWord 70 = .ok (.iload_n 1, 1) := by decide +kernel
theorem dX4_readWord_71 : decode cX4_readWord 71 = .ok (.invokevirtual 74, 3) := by decide +kernel
theorem dX4_readWord_74 : decode cX4_readWord 74 = .ok (.ifCond .ne 16, 3) := by decide +kernel
theorem dX4_readWord_77 : decode cX4_readWord 77 = .ok (.aload_n 0, 1) := by decide +kernel
theorem dX4_readWord_78 : decode cX4_readWord 78 = .ok (.getfield 15, 3) := by decide +kernel
theorem dX4_readWord_81 : decode cX4_readWord 81 = .ok (.getfield 77, 3) := by decide +kernel
theorem dX4_readWord_84 : decode cX4_readWord 84 = .ok (.iload_n 1, 1) := by decide +kernel
theorem dX4_readWord_85 : decode cX4_readWord 85 = .ok (.iaload, 1) := by decide +kernel
theorem dX4_readWord_86 : decode cX4_readWord 86 = .ok (.iconst 4, 1) := by decide +kernel
theorem dX4_readWord_87 : decode cX4_readWord 87 = .ok (.if_icmp .ne 8, 3) := by decide +kernel
theorem dX4_readWord_90 : decode cX4_readWord 90 = .ok (.aload_n 0, 1) := by decide +kernel
theorem dX4_readWord_91 : decode cX4_readWord 91 = .ok (.invokevirtual 81, 3) := by decide +kernel
theorem dX4_readWord_94 : decode cX4_readWord 94 = .ok (.ireturn, 1) := by decide +kernel
theorem dX4_readWord_95 : decode cX4_readWord 95 = .ok (.aload_n 0, 1) := by decide +kernel
theorem dX4_readWord_96 : decode cX4_readWord 96 = .ok (.iload_n 1, 1) := by decide +kernel
theorem dX4_readWord_97 : decode cX4_readWord 97 = .ok (.iconst 1, 1) := by decide +kernel
theorem dX4_readWord_98 : decode cX4_readWord 98 = .ok (.iadd, 1) := by decide +kernel
theorem dX4_readWord_99 : decode cX4_readWord 99 = .ok (.aload_n 0, 1) := by decide +kernel
theorem dX4_readWord_100 : decode cX4_readWord 100 = .ok (.getfield 15, 3) := by decide +kernel
theorem dX4_readWord_103 : decode cX4_readWord 103 = .ok (.getfield 44, 3) := by decide +kernel
theorem dX4_readWord_106 : decode cX4_readWord 106 = .ok (.iconst 1, 1) := by decide +kernel
theorem dX4_readWord_107 : decode cX4_readWord 107 = .ok (.isub, 1) := by decide +kernel
theorem dX4_readWord_108 : decode cX4_readWord 108 = .ok (.invokevirtual 67, 3) := by decide +kernel
theorem dX4_readWord_111 : decode cX4_readWord 111 = .ok (.istore_n 2, 1) := by decide +kernel
theorem dX4_readWord_112 : decode cX4_readWord 112 = .ok (.iload_n 2, 1) := by decide +kernel
theorem dX4_readWord_113 : decode cX4_readWord 113 = .ok (.ifCond .ge 7, 3) := by decide +kernel
theorem dX4_readWord_116 : decode cX4_readWord 116 = .ok (.iconst (-1), 1) := by decide +kernel
theorem dX4_readWord_117 : decode cX4_readWord 117 = .ok (.goto 10, 3) := by decide +kernel
theorem dX4_readWord_120 : decode cX4_readWord 120 = .ok (.aload_n 0, 1) := by decide +kernel
theorem dX4_readWord_121 : decode cX4_readWord 121 = .ok (.iconst 0, 1) := by decide +kernel
theorem dX4_readWord_122 : decode cX4_readWord 122 = .ok (.bipush 9, 2) := by decide +kernel
theorem dX4_readWord_124 : decode cX4_readWord 124 = .ok (.invokevirtual 67, 3) := by decide +kernel
theorem dX4_readWord_127 : decode cX4_readWord 127 = .ok (.istore_n 3, 1) := by decide +kernel
theorem dX4_readWord_128 : decode cX4_readWord 128 = .ok (.iload_n 3, 1) := by decide +kernel
theorem dX4_readWord_129 : decode cX4_readWord 129 = .ok (.ifCond .ge 5, 3) := by decide +kernel
theorem dX4_readWord_132 : decode cX4_readWord 132 = .ok (.iconst 0, 1) := by decide +kernel
theorem dX4_readWord_133 : decode cX4_readWord 133 = .ok (.ireturn, 1) := by decide +kernel
theorem dX4_readWord_134 : decode cX4_readWord 134 = .ok (.aload_n 0, 1) := by decide +kernel
theorem dX4_readWord_135 : decode cX4_readWord 135 = .ok (.getfield 15, 3) := by decide +kernel
theorem dX4_readWord_138 : decode cX4_readWord 138 = .ok (.iload_n 1, 1) := by decide +kernel
theorem dX4_readWord_139 : decode cX4_readWord 139 = .ok (.iload_n 3, 1) := by decide +kernel
theorem dX4_readWord_140 : decode cX4_readWord 140 = .ok (.invokevirtual 84, 3) := by decide +kernel
theorem dX4_readWord_143 : decode cX4_readWord 143 = .ok (.ifCond .eq 8, 3) := by decide +kernel
theorem dX4_readWord_146 : decode cX4_readWord 146 = .ok (.aload_n 0, 1) := by decide +kernel
theorem dX4_readWord_147 : decode cX4_readWord 147 = .ok (.invokevirtual 81, 3) := by decide +kernel
theorem dX4_readWord_150 : decode cX4_readWord 150 = .ok (.ireturn, 1) := by decide +kernel
theorem dX4_readWord_151 : decode cX4_readWord 151 = .ok (.aload_n 0, 1) := by decide +kernel
theorem dX4_readWord_152 : decode cX4_readWord 152 = .ok (.getfield 15, 3) := by decide +kernel
theorem dX4_readWord_155 : decode cX4_readWord 155 = .ok (.iload_n 1, 1) := by decide +kernel
theorem dX4_readWord_156 : decode cX4_readWord 156 = .ok (.iload_n 2, 1) := by decide +kernel
theorem dX4_readWord_157 : decode cX4_readWord 157 = .ok (.iload_n 3, 1) := by decide +kernel
theorem dX4_readWord_158 : decode cX4_readWord 158 = .ok (.invokevirtual 88, 3) := by decide +kernel
theorem dX4_readWord_161 : decode cX4_readWord 161 = .ok (.iconst 1, 1) := by decide +kernel
theorem dX4_readWord_162 : decode cX4_readWord 162 = .ok (.ireturn, 1) := by decide +kernel
theorem dX4_readDeed_0 : decode cX4_readDeed 0 = .ok (.aload_n 0, 1) := by decide +kernel
theorem dX4_readDeed_1 : decode cX4_readDeed 1 = .ok (.getfield 15, 3) := by decide +kernel
theorem dX4_readDeed_4 : decode cX4_readDeed 4 = .ok (.getfield 44, 3) := by decide +kernel
theorem dX4_readDeed_7 : decode cX4_readDeed 7 = .ok (.iconst 2, 1) := by decide +kernel
theorem dX4_readDeed_8 : decode cX4_readDeed 8 = .ok (.if_icmp .lt 14, 3) := by decide +kernel
theorem dX4_readDeed_11 : decode cX4_readDeed 11 = .ok (.aload_n 0, 1) := by decide +kernel
theorem dX4_readDeed_12 : decode cX4_readDeed 12 = .ok (.getfield 15, 3) := by decide +kernel
theorem dX4_readDeed_15 : decode cX4_readDeed 15 = .ok (.getfield 64, 3) := by decide +kernel
theorem dX4_readDeed_18 : decode cX4_readDeed 18 = .ok (.iconst 4, 1) := by decide +kernel
theorem dX4_readDeed_19 : decode cX4_readDeed 19 = .ok (.if_icmp .ne 5, 3) := by decide +kernel
theorem dX4_readDeed_22 : decode cX4_readDeed 22 = .ok (.iconst 0, 1) := by decide +kernel
theorem dX4_readDeed_23 : decode cX4_readDeed 23 = .ok (.ireturn, 1) := by decide +kernel
theorem dX4_readDeed_24 : decode cX4_readDeed 24 = .ok (.aload_n 0, 1) := by decide +kernel
theorem dX4_readDeed_25 : decode cX4_readDeed 25 = .ok (.dup, 1) := by decide +kernel
theorem dX4_readDeed_26 : decode cX4_readDeed 26 = .ok (.getfield 29, 3) := by decide +kernel
theorem dX4_readDeed_29 : decode cX4_readDeed 29 = .ok (.iconst 1, 1) := by decide +kernel
theorem dX4_readDeed_30 : decode cX4_readDeed 30 = .ok (.iadd, 1) := by decide +kernel
theorem dX4_readDeed_31 : decode cX4_readDeed 31 = .ok (.putfield 29, 3) := by decide +kernel
theorem dX4_readDeed_34 : decode cX4_readDeed 34 = .ok (.aload_n 0, 1) := by decide +kernel
theorem dX4_readDeed_35 : decode cX4_readDeed 35 = .ok (.iconst 1, 1) := by decide +kernel
theorem dX4_readDeed_36 : decode cX4_readDeed 36 = .ok (.iconst 5, 1) := by decide +kernel
theorem dX4_readDeed_37 : decode cX4_readDeed 37 = .ok (.invokevirtual 67, 3) := by decide +kernel
theorem dX4_readDeed_40 : decode cX4_readDeed 40 = .ok (.istore_n 1, 1) := by decide +kernel
theorem dX4_readDeed_41 : decode cX4_readDeed 41 = .ok (.iload_n 1, 1) := by decide +kernel
theorem dX4_readDeed_42 : decode cX4_readDeed 42 = .ok (.ifCond .ge 7, 3) := by decide +kernel
theorem dX4_readDeed_45 : decode cX4_readDeed 45 = .ok (.iconst (-1), 1) := by decide +kernel
theorem dX4_readDeed_46 : decode cX4_readDeed 46 = .ok (.goto 10, 3) := by decide +kernel
theorem dX4_readDeed_49 : decode cX4_readDeed 49 = .ok (.aload_n 0, 1) := by decide +kernel
theorem dX4_readDeed_50 : decode cX4_readDeed 50 = .ok (.iconst 0, 1) := by decide +kernel
theorem dX4_readDeed_51 : decode cX4_readDeed 51 = .ok (.bipush 9, 2) := by decide +kernel
theorem dX4_readDeed_53 : decode cX4_readDeed 53 = .ok (.invokevirtual 67, 3) := by decide +kernel
theorem dX4_readDeed_56 : decode cX4_readDeed 56 = .ok (.istore_n 2, 1) := by decide +kernel
theorem dX4_readDeed_57 : decode cX4_readDeed 57 = .ok (.iload_n 2, 1) := by decide +kernel
theorem dX4_readDeed_58 : decode cX4_readDeed 58 = .ok (.ifCond .ge 7, 3) := by decide +kernel
theorem dX4_readDeed_61 : decode cX4_readDeed 61 = .ok (.iconst (-1), 1) := by decide +kernel
theorem dX4_readDeed_62 : decode cX4_readDeed 62 = .ok (.goto 9, 3) := by decide +kernel
theorem dX4_readDeed_65 : decode cX4_readDeed 65 = .ok (.aload_n 0, 1) := by decide +kernel
theorem dX4_readDeed_66 : decode cX4_readDeed 66 = .ok (.iconst 0, 1) := by decide +kernel
theorem dX4_readDeed_67 : decode cX4_readDeed 67 = .ok (.iconst 5, 1) := by decide +kernel
theorem dX4_readDeed_68 : decode cX4_readDeed 68 = .ok (.invokevirtual 67, 3) := by decide +kernel
theorem dX4_readDeed_71 : decode cX4_readDeed 71 = .ok (.istore_n 3, 1) := by decide +kernel
theorem dX4_readDeed_72 : decode cX4_readDeed 72 = .ok (.iload_n 3, 1) := by decide +kernel
theorem dX4_readDeed_73 : decode cX4_readDeed 73 = .ok (.ifCond .ge 7, 3) := by decide +kernel
theorem dX4_readDeed_76 : decode cX4_readDeed 76 = .ok (.iconst (-1), 1) := by decide +kernel
theorem dX4_readDeed_77 : decode cX4_readDeed 77 = .ok (.goto 10, 3) := by decide +kernel
theorem dX4_readDeed_80 : decode cX4_readDeed 80 = .ok (.aload_n 0, 1) := by decide +kernel
theorem dX4_readDeed_81 : decode cX4_readDeed 81 = .ok (.iconst 0, 1) := by decide +kernel
theorem dX4_readDeed_82 : decode cX4_readDeed 82 = .ok (.bipush 9, 2) := by decide +kernel
theorem dX4_readDeed_84 : decode cX4_readDeed 84 = .ok (.invokevirtual 67, 3) := by decide +kernel
theorem dX4_readDeed_87 : decode cX4_readDeed 87 = .ok (.istore 4, 2) := by decide +kernel
theorem dX4_readDeed_89 : decode cX4_readDeed 89 = .ok (.iload 4, 2) := by decide +kernel
theorem dX4_readDeed_91 : decode cX4_readDeed 91 = .ok (.ifCond .ge 5, 3) := by decide +kernel
theorem dX4_readDeed_94 : decode cX4_readDeed 94 = .ok (.iconst 0, 1) := by decide +kernel
theorem dX4_readDeed_95 : decode cX4_readDeed 95 = .ok (.ireturn, 1) := by decide +kernel
theorem dX4_readDeed_96 : decode cX4_readDeed 96 = .ok (.aload_n 0, 1) := by decide +kernel
theorem dX4_readDeed_97 : decode cX4_readDeed 97 = .ok (.getfield 15, 3) := by decide +kernel
theorem dX4_readDeed_100 : decode cX4_readDeed 100 = .ok (.iload_n 1, 1) := by decide +kernel
theorem dX4_readDeed_101 : decode cX4_readDeed 101 = .ok (.iload_n 2, 1) := by decide +kernel
theorem dX4_readDeed_102 : decode cX4_readDeed 102 = .ok (.iload_n 3, 1) := by decide +kernel
theorem dX4_readDeed_103 : decode cX4_readDeed 103 = .ok (.iload 4, 2) := by decide +kernel
theorem dX4_readDeed_105 : decode cX4_readDeed 105 = .ok (.invokevirtual 92, 3) := by decide +kernel
theorem dX4_readDeed_108 : decode cX4_readDeed 108 = .ok (.iconst 1, 1) := by decide +kernel
theorem dX4_readDeed_109 : decode cX4_readDeed 109 = .ok (.ireturn, 1) := by decide +kernel
theorem dX4_figure_0 : decode cX4_figure 0 = .ok (.aload_n 0, 1) := by decide +kernel
theorem dX4_figure_1 : decode cX4_figure 1 = .ok (.getfield 29, 3) := by decide +kernel
theorem dX4_figure_4 : decode cX4_figure 4 = .ok (.aload_n 0, 1) := by decide +kernel
theorem dX4_figure_5 : decode cX4_figure 5 = .ok (.getfield 25, 3) := by decide +kernel
theorem dX4_figure_8 : decode cX4_figure 8 = .ok (.if_icmp .lt 5, 3) := by decide +kernel
theorem dX4_figure_11 : decode cX4_figure 11 = .ok (.iconst (-1), 1) := by decide +kernel
theorem dX4_figure_12 : decode cX4_figure 12 = .ok (.ireturn, 1) := by decide +kernel
theorem dX4_figure_13 : decode cX4_figure 13 = .ok (.aload_n 0, 1) := by decide +kernel
theorem dX4_figure_14 : decode cX4_figure 14 = .ok (.getfield 9, 3) := by decide +kernel
theorem dX4_figure_17 : decode cX4_figure 17 = .ok (.aload_n 0, 1) := by decide +kernel
theorem dX4_figure_18 : decode cX4_figure 18 = .ok (.getfield 29, 3) := by decide +kernel
theorem dX4_figure_21 : decode cX4_figure 21 = .ok (.baload, 1) := by decide +kernel
theorem dX4_figure_22 : decode cX4_figure 22 = .ok (.bipush 48, 2) := by decide +kernel
theorem dX4_figure_24 : decode cX4_figure 24 = .ok (.isub, 1) := by decide +kernel
theorem dX4_figure_25 : decode cX4_figure 25 = .ok (.istore_n 3, 1) := by decide +kernel
theorem dX4_figure_26 : decode cX4_figure 26 = .ok (.iload_n 3, 1) := by decide +kernel
theorem dX4_figure_27 : decode cX4_figure 27 = .ok (.iload_n 1, 1) := by decide +kernel
theorem dX4_figure_28 : decode cX4_figure 28 = .ok (.if_icmp .lt 8, 3) := by decide +kernel
theorem dX4_figure_31 : decode cX4_figure 31 = .ok (.iload_n 3, 1) := by decide +kernel
theorem dX4_figure_32 : decode cX4_figure 32 = .ok (.iload_n 2, 1) := by decide +kernel
theorem dX4_figure_33 : decode cX4_figure 33 = .ok (.if_icmp .le 5, 3) := by decide +kernel
theorem dX4_figure_36 : decode cX4_figure 36 = .ok (.iconst (-1), 1) := by decide +kernel
theorem dX4_figure_37 : decode cX4_figure 37 = .ok (.ireturn, 1) := by decide +kernel
theorem dX4_figure_38 : decode cX4_figure 38 = .ok (.aload_n 0, 1) := by decide +kernel
theorem dX4_figure_39 : decode cX4_figure 39 = .ok (.dup, 1) := by decide +kernel
theorem dX4_figure_40 : decode cX4_figure 40 = .ok (.getfield 29, 3) := by decide +kernel
theorem dX4_figure_43 : decode cX4_figure 43 = .ok (.iconst 1, 1) := by decide +kernel
theorem dX4_figure_44 : decode cX4_figure 44 = .ok (.iadd, 1) := by decide +kernel
theorem dX4_figure_45 : decode cX4_figure 45 = .ok (.putfield 29, 3) := by decide +kernel
theorem dX4_figure_48 : decode cX4_figure 48 = .ok (.iload_n 3, 1) := by decide +kernel
theorem dX4_figure_49 : decode cX4_figure 49 = .ok (.ireturn, 1) := by decide +kernel
theorem dX4_stepBack_0 : decode cX4_stepBack 0 = .ok (.aload_n 0, 1) := by decide +kernel
theorem dX4_stepBack_1 : decode cX4_stepBack 1 = .ok (.dup, 1) := by decide +kernel
theorem dX4_stepBack_2 : decode cX4_stepBack 2 = .ok (.getfield 29, 3) := by decide +kernel
theorem dX4_stepBack_5 : decode cX4_stepBack 5 = .ok (.iconst 1, 1) := by decide +kernel
theorem dX4_stepBack_6 : decode cX4_stepBack 6 = .ok (.isub, 1) := by decide +kernel
theorem dX4_stepBack_7 : decode cX4_stepBack 7 = .ok (.putfield 29, 3) := by decide +kernel
theorem dX4_stepBack_10 : decode cX4_stepBack 10 = .ok (.iconst 0, 1) := by decide +kernel
theorem dX4_stepBack_11 : decode cX4_stepBack 11 = .ok (.ireturn, 1) := by decide +kernel
theorem dX5_init_0 : decode cX5_init 0 = .ok (.aload_n 0, 1) := by decide +kernel
theorem dX5_init_1 : decode cX5_init 1 = .ok (.invokespecial 3, 3) := by decide +kernel
theorem dX5_init_4 : decode cX5_init 4 = .ok (.aload_n 0, 1) := by decide +kernel
theorem dX5_init_5 : decode cX5_init 5 = .ok (.bipush 9, 2) := by decide +kernel
theorem dX5_init_7 : decode cX5_init 7 = .ok (.newarray .int, 2) := by decide +kernel
theorem dX5_init_9 : decode cX5_init 9 = .ok (.putfield 9, 3) := by decide +kernel
theorem dX5_init_12 : decode cX5_init 12 = .ok (.aload_n 0, 1) := by decide +kernel
theorem dX5_init_13 : decode cX5_init 13 = .ok (.bipush 9, 2) := by decide +kernel
theorem dX5_init_15 : decode cX5_init 15 = .ok (.newarray .int, 2) := by decide +kernel
theorem dX5_init_17 : decode cX5_init 17 = .ok (.putfield 15, 3) := by decide +kernel
theorem dX5_init_20 : decode cX5_init 20 = .ok (.aload_n 0, 1) := by decide +kernel
theorem dX5_init_21 : decode cX5_init 21 = .ok (.bipush 9, 2) := by decide +kernel
theorem dX5_init_23 : decode cX5_init 23 = .ok (.newarray .int, 2) := by decide +kernel
theorem dX5_init_25 : decode cX5_init 25 = .ok (.putfield 18, 3) := by decide +kernel
theorem dX5_init_28 : decode cX5_init 28 = .ok (.aload_n 0, 1) := by decide +kernel
theorem dX5_init_29 : decode cX5_init 29 = .ok (.bipush 36, 2) := by decide +kernel
theorem dX5_init_31 : decode cX5_init 31 = .ok (.newarray .int, 2) := by decide +kernel
theorem dX5_init_33 : decode cX5_init 33 = .ok (.putfield 21, 3) := by decide +kernel
theorem dX5_init_36 : decode cX5_init 36 = .ok (.aload_n 0, 1) := by decide +kernel
theorem dX5_init_37 : decode cX5_init 37 = .ok (.bipush 14, 2) := by decide +kernel
theorem dX5_init_39 : decode cX5_init 39 = .ok (.newarray .int, 2) := by decide +kernel
theorem dX5_init_41 : decode cX5_init 41 = .ok (.putfield 24, 3) := by decide +kernel
theorem dX5_init_44 : decode cX5_init 44 = .ok (.aload_n 0, 1) := by decide +kernel
theorem dX5_init_45 : decode cX5_init 45 = .ok (.bipush 14, 2) := by decide +kernel
theorem dX5_init_47 : decode cX5_init 47 = .ok (.newarray .int, 2) := by decide +kernel
theorem dX5_init_49 : decode cX5_init 49 = .ok (.putfield 27, 3) := by decide +kernel
theorem dX5_init_52 : decode cX5_init 52 = .ok (.aload_n 0, 1) := by decide +kernel
theorem dX5_init_53 : decode cX5_init 53 = .ok (.bipush 14, 2) := by decide +kernel
theorem dX5_init_55 : decode cX5_init 55 = .ok (.newarray .int, 2) := by decide +kernel
theorem dX5_init_57 : decode cX5_init 57 = .ok (.putfield 30, 3) := by decide +kernel
theorem dX5_init_60 : decode cX5_init 60 = .ok (.aload_n 0, 1) := by decide +kernel
theorem dX5_init_61 : decode cX5_init 61 = .ok (.iconst 4, 1) := by decide +kernel
theorem dX5_init_62 : decode cX5_init 62 = .ok (.newarray .int, 2) := by decide +kernel
theorem dX5_init_64 : decode cX5_init 64 = .ok (.putfield 33, 3) := by decide +kernel
theorem dX5_init_67 : decode cX5_init 67 = .ok (.aload_n 0, 1) := by decide +kernel
theorem dX5_init_68 : decode cX5_init 68 = .ok (.iconst 4, 1) := by decide +kernel
theorem dX5_init_69 : decode cX5_init 69 = .ok (.newarray .int, 2) := by decide +kernel
theorem dX5_init_71 : decode cX5_init 71 = .ok (.putfield 36, 3) := by decide +kernel
theorem dX5_init_74 : decode cX5_init 74 = .ok (.aload_n 0, 1) := by decide +kernel
theorem dX5_init_75 : decode cX5_init 75 = .ok (.iconst 4, 1) := by decide +kernel
theorem dX5_init_76 : decode cX5_init 76 = .ok (.newarray .int, 2) := by decide +kernel
theorem dX5_init_78 : decode cX5_init 78 = .ok (.putfield 39, 3) := by decide +kernel
theorem dX5_init_81 : decode cX5_init 81 = .ok (.aload_n 0, 1) := by decide +kernel
theorem dX5_init_82 : decode cX5_init 82 = .ok (.iconst 4, 1) := by decide +kernel
theorem dX5_init_83 : decode cX5_init 83 = .ok (.newarray .int, 2) := by decide +kernel
theorem dX5_init_85 : decode cX5_init 85 = .ok (.putfield 42, 3) := by decide +kernel
theorem dX5_init_88 : decode cX5_init 88 = .ok (.return_, 1) := by decide +kernel
theorem dX5_clear_0 : decode cX5_clear 0 = .ok (.aload_n 0, 1) := by decide +kernel
theorem dX5_clear_1 : decode cX5_clear 1 = .ok (.iconst 0, 1) := by decide +kernel
theorem dX5_clear_2 : decode cX5_clear 2 = .ok (.putfield 45, 3) := by decide +kernel
theorem dX5_clear_5 : decode cX5_clear 5 = .ok (.aload_n 0, 1) := by decide +kernel
theorem dX5_clear_6 : decode cX5_clear 6 = .ok (.iconst 0, 1) := by decide +kernel
theorem dX5_clear_7 : decode cX5_clear 7 = .ok (.putfield 49, 3) := by decide +kernel
theorem dX5_clear_10 : decode cX5_clear 10 = .ok (.aload_n 0, 1) := by decide +kernel
theorem dX5_clear_11 : decode cX5_clear 11 = .ok (.iconst 0, 1) := by decide +kernel
theorem dX5_clear_12 : decode cX5_clear 12 = .ok (.putfield 52, 3) := by decide +kernel
theorem dX5_clear_15 : decode cX5_clear 15 = .ok (.return_, 1) := by decide +kernel
theorem dX5_addNode_0 : decode cX5_addNode 0 = .ok (.aload_n 0, 1) := by decide +kernel
theorem dX5_addNode_1 : decode cX5_addNode 1 = .ok (.getfield 45, 3) := by decide +kernel
theorem dX5_addNode_4 : decode cX5_addNode 4 = .ok (.bipush 9, 2) := by decide +kernel
theorem dX5_addNode_6 : decode cX5_addNode 6 = .ok (.if_icmp .ge 43, 3) := by decide +kernel
theorem dX5_addNode_9 : decode cX5_addNode 9 = .ok (.aload_n 0, 1) := by decide +kernel
theorem dX5_addNode_10 : decode cX5_addNode 10 = .ok (.getfield 9, 3) := by decide +kernel
theorem dX5_addNode_13 : decode cX5_addNode 13 = .ok (.aload_n 0, 1) := by decide +kernel
theorem dX5_addNode_14 : decode cX5_addNode 14 = .ok (.getfield 45, 3) := by decide +kernel
theorem dX5_addNode_17 : decode cX5_addNode 17 = .ok (.iload_n 1, 1) := by decide +kernel
theorem dX5_addNode_18 : decode cX5_addNode 18 = .ok (.iastore, 1) := by decide +kernel
theorem dX5_addNode_19 : decode cX5_addNode 19 = .ok (.aload_n 0, 1) := by decide +kernel
theorem dX5_addNode_20 : decode cX5_addNode 20 = .ok (.getfield 15, 3) := by decide +kernel
theorem dX5_addNode_23 : decode cX5_addNode 23 = .ok (.aload_n 0, 1) := by decide +kernel
theorem dX5_addNode_24 : decode cX5_addNode 24 = .ok (.getfield 45, 3) := by decide +kernel
theorem dX5_addNode_27 : decode cX5_addNode 27 = .ok (.iload_n 2, 1) := by decide +kernel
theorem dX5_addNode_28 : decode cX5_addNode 28 = .ok (.iastore, 1) := by decide +kernel
theorem dX5_addNode_29 : decode cX5_addNode 29 = .ok (.aload_n 0, 1) := by decide +kernel
theorem dX5_addNode_30 : decode cX5_addNode 30 = .ok (.getfield 18, 3) := by decide +kernel
theorem dX5_addNode_33 : decode cX5_addNode 33 = .ok (.aload_n 0, 1) := by decide +kernel
theorem dX5_addNode_34 : decode cX5_addNode 34 = .ok (.getfield 45, 3) := by decide +kernel
theorem dX5_addNode_37 : decode cX5_addNode 37 = .ok (.iconst 0, 1) := by decide +kernel
theorem dX5_addNode_38 : decode cX5_addNode 38 = .ok (.iastore, 1) := by decide +kernel
theorem dX5_addNode_39 : decode cX5_addNode 39 = .ok (.aload_n 0, 1) := by decide +kernel
theorem dX5_addNode_40 : decode cX5_addNode 40 = .ok (.dup, 1) := by decide +kernel
theorem dX5_addNode_41 : decode cX5_addNode 41 = .ok (.getfield 45, 3) := by decide +kernel
theorem dX5_addNode_44 : decode cX5_addNode 44 = .ok (.iconst 1, 1) := by decide +kernel
theorem dX5_addNode_45 : decode cX5_addNode 45 = .ok (.iadd, 1) := by decide +kernel
theorem dX5_addNode_46 : decode cX5_addNode 46 = .ok (.putfield 45, 3) := by decide +kernel
theorem dX5_addNode_49 : decode cX5_addNode 49 = .ok (.return_, 1) := by decide +kernel
theorem dX5_addWord_0 : decode cX5_addWord 0 = .ok (.aload_n 0, 1) := by decide +kernel
theorem dX5_addWord_1 : decode cX5_addWord 1 = .ok (.getfield 49, 3) := by decide +kernel
theorem dX5_addWord_4 : decode cX5_addWord 4 = .ok (.bipush 14, 2) := by decide +kernel
theorem dX5_addWord_6 : decode cX5_addWord 6 = .ok (.if_icmp .ge 82, 3) := by decide +kernel
theorem dX5_addWord_9 : decode cX5_addWord 9 = .ok (.aload_n 0, 1) := by decide +kernel
theorem dX5_addWord_10 : decode cX5_addWord 10 = .ok (.getfield 18, 3) := by decide +kernel
theorem dX5_addWord_13 : decode cX5_addWord 13 = .ok (.iload_n 1, 1) := by decide +kernel
theorem dX5_addWord_14 : decode cX5_addWord 14 = .ok (.iaload, 1) := by decide +kernel
theorem dX5_addWord_15 : decode cX5_addWord 15 = .ok (.iconst 4, 1) := by decide +kernel
theorem dX5_addWord_16 : decode cX5_addWord 16 = .ok (.if_icmp .ge 72, 3) := by decide +kernel
theorem dX5_addWord_19 : decode cX5_addWord 19 = .ok (.aload_n 0, 1) := by decide +kernel
theorem dX5_addWord_20 : decode cX5_addWord 20 = .ok (.getfield 24, 3) := by decide +kernel
theorem dX5_addWord_23 : decode cX5_addWord 23 = .ok (.aload_n 0, 1) := by decide +kernel
theorem dX5_addWord_24 : decode cX5_addWord 24 = .ok (.getfield 49, 3) := by decide +kernel
theorem dX5_addWord_27 : decode cX5_addWord 27 = .ok (.iload_n 1, 1) := by decide +kernel
theorem dX5_addWord_28 : decode cX5_addWord 28 = .ok (.iastore, 1) := by decide +kernel
theorem dX5_addWord_29 : decode cX5_addWord 29 = .ok (.aload_n 0, 1) := by decide +kernel
theorem dX5_addWord_30 : decode cX5_addWord 30 = .ok (.getfield 27, 3) := by decide +kernel
theorem dX5_addWord_33 : decode cX5_addWord 33 = .ok (.aload_n 0, 1) := by decide +kernel
theorem dX5_addWord_34 : decode cX5_addWord 34 = .ok (.getfield 49, 3) := by decide +kernel
theorem dX5_addWord_37 : decode cX5_addWord 37 = .ok (.iload_n 2, 1) := by decide +kernel
theorem dX5_addWord_38 : decode cX5_addWord 38 = .ok (.iastore, 1) := by decide +kernel
theorem dX5_addWord_39 : decode cX5_addWord 39 = .ok (.aload_n 0, 1) := by decide +kernel
theorem dX5_addWord_40 : decode cX5_addWord 40 = .ok (.getfield 30, 3) := by decide +kernel
theorem dX5_addWord_43 : decode cX5_addWord 43 = .ok (.aload_n 0, 1) := by decide +kernel
theorem dX5_addWord_44 : decode cX5_addWord 44 = .ok (.getfield 49, 3) := by decide +kernel
theorem dX5_addWord_47 : decode cX5_addWord 47 = .ok (.iload_n 3, 1) := by decide +kernel
theorem dX5_addWord_48 : decode cX5_addWord 48 = .ok (.iastore, 1) := by decide +kernel
theorem dX5_addWord_49 : decode cX5_addWord 49 = .ok (.aload_n 0, 1) := by decide +kernel
theorem dX5_addWord_50 : decode cX5_addWord 50 = .ok (.getfield 21, 3) := by decide +kernel
theorem dX5_addWord_53 : decode cX5_addWord 53 = .ok (.iload_n 1, 1) := by decide +kernel
theorem dX5_addWord_54 : decode cX5_addWord 54 = .ok (.iconst 4, 1) := by decide +kernel
theorem dX5_addWord_55 : decode cX5_addWord 55 = .ok (.imul, 1) := by decide +kernel
theorem dX5_addWord_56 : decode cX5_addWord 56 = .ok (.aload_n 0, 1) := by decide +kernel
theorem dX5_addWord_57 : decode cX5_addWord 57 = .ok (.getfield 18, 3) := by decide +kernel
theorem dX5_addWord_60 : decode cX5_addWord 60 = .ok (.iload_n 1, 1) := by decide +kernel
theorem dX5_addWord_61 : decode cX5_addWord 61 = .ok (.iaload, 1) := by decide +kernel
theorem dX5_addWord_62 : decode cX5_addWord 62 = .ok (.iadd, 1) := by decide +kernel
theorem dX5_addWord_63 : decode cX5_addWord 63 = .ok (.aload_n 0, 1) := by decide +kernel
theorem dX5_addWord_64 : decode cX5_addWord 64 = .ok (.getfield 49, 3) := by decide +kernel
theorem dX5_addWord_67 : decode cX5_addWord 67 = .ok (.iastore, 1) := by decide +kernel
theorem dX5_addWord_68 : decode cX5_addWord 68 = .ok (.aload_n 0, 1) := by decide +kernel
theorem dX5_addWord_69 : decode cX5_addWord 69 = .ok (.getfield 18, 3) := by decide +kernel
theorem dX5_addWord_72 : decode cX5_addWord 72 = .ok (.iload_n 1, 1) := by decide +kernel
theorem dX5_addWord_73 : decode cX5_addWord 73 = .ok (.dup2, 1) := by decide +kernel
theorem dX5_addWord_74 : decode cX5_addWord 74 = .ok (.iaload, 1) := by decide +kernel
theorem dX5_addWord_75 : decode cX5_addWord 75 = .ok (.iconst 1, 1) := by decide +kernel
theorem dX5_addWord_76 : decode cX5_addWord 76 = .ok (.iadd, 1) := by decide +kernel
theorem dX5_addWord_77 : decode cX5_addWord 77 = .ok (.iastore, 1) := by decide +kernel
theorem dX5_addWord_78 : decode cX5_addWord 78 = .ok (.aload_n 0, 1) := by decide +kernel
theorem dX5_addWord_79 : decode cX5_addWord 79 = .ok (.dup, 1) := by decide +kernel
theorem dX5_addWord_80 : decode cX5_addWord 80 = .ok (.getfield 49, 3) := by decide +kernel
theorem dX5_addWord_83 : decode cX5_addWord 83 = .ok (.iconst 1, 1) := by decide +kernel
theorem dX5_addWord_84 : decode cX5_addWord 84 = .ok (.iadd, 1) := by decide +kernel
theorem dX5_addWord_85 : decode cX5_addWord 85 = .ok (.putfield 49, 3) := by decide +kernel
theorem dX5_addWord_88 : decode cX5_addWord 88 = .ok (.return_, 1) := by decide +kernel
theorem dX5_addDeed_0 : decode cX5_addDeed 0 = .ok (.aload_n 0, 1) := by decide +kernel
theorem dX5_addDeed_1 : decode cX5_addDeed 1 = .ok (.getfield 52, 3) := by decide +kernel
theorem dX5_addDeed_4 : decode cX5_addDeed 4 = .ok (.iconst 4, 1) := by decide +kernel
theorem dX5_addDeed_5 : decode cX5_addDeed 5 = .ok (.if_icmp .ge 54, 3) := by decide +kernel
theorem dX5_addDeed_8 : decode cX5_addDeed 8 = .ok (.aload_n 0, 1) := by decide +kernel
theorem dX5_addDeed_9 : decode cX5_addDeed 9 = .ok (.getfield 33, 3) := by decide +kernel
theorem dX5_addDeed_12 : decode cX5_addDeed 12 = .ok (.aload_n 0, 1) := by decide +kernel
theorem dX5_addDeed_13 : decode cX5_addDeed 13 = .ok (.getfield 52, 3) := by decide +kernel
theorem dX5_addDeed_16 : decode cX5_addDeed 16 = .ok (.iload_n 1, 1) := by decide +kernel
theorem dX5_addDeed_17 : decode cX5_addDeed 17 = .ok (.iastore, 1) := by decide +kernel
theorem dX5_addDeed_18 : decode cX5_addDeed 18 = .ok (.aload_n 0, 1) := by decide +kernel
theorem dX5_addDeed_19 : decode cX5_addDeed 19 = .ok (.getfield 36, 3) := by decide +kernel
theorem dX5_addDeed_22 : decode cX5_addDeed 22 = .ok (.aload_n 0, 1) := by decide +kernel
theorem dX5_addDeed_23 : decode cX5_addDeed 23 = .ok (.getfield 52, 3) := by decide +kernel
theorem dX5_addDeed_26 : decode cX5_addDeed 26 = .ok (.iload_n 2, 1) := by decide +kernel
theorem dX5_addDeed_27 : decode cX5_addDeed 27 = .ok (.iastore, 1) := by decide +kernel
theorem dX5_addDeed_28 : decode cX5_addDeed 28 = .ok (.aload_n 0, 1) := by decide +kernel
theorem dX5_addDeed_29 : decode cX5_addDeed 29 = .ok (.getfield 39, 3) := by decide +kernel
theorem dX5_addDeed_32 : decode cX5_addDeed 32 = .ok (.aload_n 0, 1) := by decide +kernel
theorem dX5_addDeed_33 : decode cX5_addDeed 33 = .ok (.getfield 52, 3) := by decide +kernel
theorem dX5_addDeed_36 : decode cX5_addDeed 36 = .ok (.iload_n 3, 1) := by decide +kernel
theorem dX5_addDeed_37 : decode cX5_addDeed 37 = .ok (.iastore, 1) := by decide +kernel
theorem dX5_addDeed_38 : decode cX5_addDeed 38 = .ok (.aload_n 0, 1) := by decide +kernel
theorem dX5_addDeed_39 : decode cX5_addDeed 39 = .ok (.getfield 42, 3) := by decide +kernel
theorem dX5_addDeed_42 : decode cX5_addDeed 42 = .ok (.aload_n 0, 1) := by decide +kernel
theorem dX5_addDeed_43 : decode cX5_addDeed 43 = .ok (.getfield 52, 3) := by decide +kernel
theorem dX5_addDeed_46 : decode cX5_addDeed 46 = .ok (.iload 4, 2) := by decide +kernel
theorem dX5_addDeed_48 : decode cX5_addDeed 48 = .ok (.iastore, 1) := by decide +kernel
theorem dX5_addDeed_49 : decode cX5_addDeed 49 = .ok (.aload_n 0, 1) := by decide +kernel
theorem dX5_addDeed_50 : decode cX5_addDeed 50 = .ok (.dup, 1) := by decide +kernel
theorem dX5_addDeed_51 : decode cX5_addDeed 51 = .ok (.getfield 52, 3) := by decide +kernel
theorem dX5_addDeed_54 : decode cX5_addDeed 54 = .ok (.iconst 1, 1) := by decide +kernel
theorem dX5_addDeed_55 : decode cX5_addDeed 55 = .ok (.iadd, 1) := by decide +kernel
theorem dX5_addDeed_56 : decode cX5_addDeed 56 = .ok (.putfield 52, 3) := by decide +kernel
theorem dX5_addDeed_59 : decode cX5_addDeed 59 = .ok (.return_, 1) := by decide +kernel
theorem dX5_wordAt_0 : decode cX5_wordAt 0 = .ok (.aload_n 0, 1) := by decide +kernel
theorem dX5_wordAt_1 : decode cX5_wordAt 1 = .ok (.getfield 21, 3) := by decide +kernel
theorem dX5_wordAt_4 : decode cX5_wordAt 4 = .ok (.iload_n 1, 1) := by decide +kernel
theorem dX5_wordAt_5 : decode cX5_wordAt 5 = .ok (.iconst 4, 1) := by decide +kernel
theorem dX5_wordAt_6 : decode cX5_wordAt 6 = .ok (.imul, 1) := by decide +kernel
theorem dX5_wordAt_7 : decode cX5_wordAt 7 = .ok (.iload_n 2, 1) := by decide +kernel
theorem dX5_wordAt_8 : decode cX5_wordAt 8 = .ok (.iadd, 1) := by decide +kernel
theorem dX5_wordAt_9 : decode cX5_wordAt 9 = .ok (.iaload, 1) := by decide +kernel
theorem dX5_wordAt_10 : decode cX5_wordAt 10 = .ok (.ireturn, 1) := by decide +kernel
theorem dX5_isEnd_0 : decode cX5_isEnd 0 = .ok (.aload_n 0, 1) := by decide +kernel
theorem dX5_isEnd_1 : decode cX5_isEnd 1 = .ok (.getfield 9, 3) := by decide +kernel
theorem dX5_isEnd_4 : decode cX5_isEnd 4 = .ok (.iload_n 1, 1) := by decide +kernel
theorem dX5_isEnd_5 : decode cX5_isEnd 5 = .ok (.iaload, 1) := by decide +kernel
theorem dX5_isEnd_6 : decode cX5_isEnd 6 = .ok (.iconst 1, 1) := by decide +kernel
theorem dX5_isEnd_7 : decode cX5_isEnd 7 = .ok (.if_icmp .eq 13, 3) := by decide +kernel
theorem dX5_isEnd_10 : decode cX5_isEnd 10 = .ok (.aload_n 0, 1) := by decide +kernel
theorem dX5_isEnd_11 : decode cX5_isEnd 11 = .ok (.getfield 9, 3) := by decide +kernel
theorem dX5_isEnd_14 : decode cX5_isEnd 14 = .ok (.iload_n 1, 1) := by decide +kernel
theorem dX5_isEnd_15 : decode cX5_isEnd 15 = .ok (.iaload, 1) := by decide +kernel
theorem dX5_isEnd_16 : decode cX5_isEnd 16 = .ok (.iconst 4, 1) := by decide +kernel
theorem dX5_isEnd_17 : decode cX5_isEnd 17 = .ok (.if_icmp .ne 7, 3) := by decide +kernel
theorem dX5_isEnd_20 : decode cX5_isEnd 20 = .ok (.iconst 1, 1) := by decide +kernel
theorem dX5_isEnd_21 : decode cX5_isEnd 21 = .ok (.goto 4, 3) := by decide +kernel
theorem dX5_isEnd_24 : decode cX5_isEnd 24 = .ok (.iconst 0, 1) := by decide +kernel
theorem dX5_isEnd_25 : decode cX5_isEnd 25 = .ok (.ireturn, 1) := by decide +kernel
theorem dX5_isOver_0 : decode cX5_isOver 0 = .ok (.aload_n 0, 1) := by decide +kernel
theorem dX5_isOver_1 : decode cX5_isOver 1 = .ok (.getfield 18, 3) := by decide +kernel
theorem dX5_isOver_4 : decode cX5_isOver 4 = .ok (.iload_n 1, 1) := by decide +kernel
theorem dX5_isOver_5 : decode cX5_isOver 5 = .ok (.iaload, 1) := by decide +kernel
theorem dX5_isOver_6 : decode cX5_isOver 6 = .ok (.ifCond .ne 7, 3) := by decide +kernel
theorem dX5_isOver_9 : decode cX5_isOver 9 = .ok (.iconst 1, 1) := by decide +kernel
theorem dX5_isOver_10 : decode cX5_isOver 10 = .ok (.goto 4, 3) := by decide +kernel
theorem dX5_isOver_13 : decode cX5_isOver 13 = .ok (.iconst 0, 1) := by decide +kernel
theorem dX5_isOver_14 : decode cX5_isOver 14 = .ok (.ireturn, 1) := by decide +kernel
theorem dX5_isOfKind_0 : decode cX5_isOfKind 0 = .ok (.aload_n 0, 1) := by decide +kernel
theorem dX5_isOfKind_1 : decode cX5_isOfKind 1 = .ok (.getfield 9, 3) := by decide +kernel
theorem dX5_isOfKind_4 : decode cX5_isOfKind 4 = .ok (.iload_n 1, 1) := by decide +kernel
theorem dX5_isOfKind_5 : decode cX5_isOfKind 5 = .ok (.iaload, 1) := by decide +kernel
theorem dX5_isOfKind_6 : decode cX5_isOfKind 6 = .ok (.iload_n 2, 1) := by decide +kernel
theorem dX5_isOfKind_7 : decode cX5_isOfKind 7 = .ok (.if_icmp .eq 33, 3) := by decide +kernel
theorem dX5_isOfKind_10 : decode cX5_isOfKind 10 = .ok (.iload_n 2, 1) := by decide +kernel
theorem dX5_isOfKind_11 : decode cX5_isOfKind 11 = .ok (.iconst 1, 1) := by decide +kernel
theorem dX5_isOfKind_12 : decode cX5_isOfKind 12 = .ok (.if_icmp .ne 13, 3) := by decide +kernel
theorem dX5_isOfKind_15 : decode cX5_isOfKind 15 = .ok (.aload_n 0, 1) := by decide +kernel
theorem dX5_isOfKind_16 : decode cX5_isOfKind 16 = .ok (.getfield 9, 3) := by decide +kernel
theorem dX5_isOfKind_19 : decode cX5_isOfKind 19 = .ok (.iload_n 1, 1) := by decide +kernel
theorem dX5_isOfKind_20 : decode cX5_isOfKind 20 = .ok (.iaload, 1) := by decide +kernel
theorem dX5_isOfKind_21 : decode cX5_isOfKind 21 = .ok (.iconst 4, 1) := by decide +kernel
theorem dX5_isOfKind_22 : decode cX5_isOfKind 22 = .ok (.if_icmp .eq 18, 3) := by decide +kernel
theorem dX5_isOfKind_25 : decode cX5_isOfKind 25 = .ok (.iload_n 2, 1) := by decide +kernel
theorem dX5_isOfKind_26 : decode cX5_isOfKind 26 = .ok (.iconst 2, 1) := by decide +kernel
theorem dX5_isOfKind_27 : decode cX5_isOfKind 27 = .ok (.if_icmp .ne 17, 3) := by decide +kernel
theorem dX5_isOfKind_30 : decode cX5_isOfKind 30 = .ok (.aload_n 0, 1) := by decide +kernel
theorem dX5_isOfKind_31 : decode cX5_isOfKind 31 = .ok (.getfield 9, 3) := by decide +kernel
theorem dX5_isOfKind_34 : decode cX5_isOfKind 34 = .ok (.iload_n 1, 1) := by decide +kernel
theorem dX5_isOfKind_35 : decode cX5_isOfKind 35 = .ok (.iaload, 1) := by decide +kernel
theorem dX5_isOfKind_36 : decode cX5_isOfKind 36 = .ok (.iconst 5, 1) := by decide +kernel
theorem dX5_isOfKind_37 : decode cX5_isOfKind 37 = .ok (.if_icmp .ne 7, 3) := by decide +kernel
theorem dX5_isOfKind_40 : decode cX5_isOfKind 40 = .ok (.iconst 1, 1) := by decide +kernel
theorem dX5_isOfKind_41 : decode cX5_isOfKind 41 = .ok (.goto 4, 3) := by decide +kernel
theorem dX5_isOfKind_44 : decode cX5_isOfKind 44 = .ok (.iconst 0, 1) := by decide +kernel
theorem dX5_isOfKind_45 : decode cX5_isOfKind 45 = .ok (.ireturn, 1) := by decide +kernel
theorem dX5_hasSound_0 : decode cX5_hasSound 0 = .ok (.iconst 0, 1) := by decide +kernel
theorem dX5_hasSound_1 : decode cX5_hasSound 1 = .ok (.istore_n 3, 1) := by decide +kernel
theorem dX5_hasSound_2 : decode cX5_hasSound 2 = .ok (.iload_n 3, 1) := by decide +kernel
theorem dX5_hasSound_3 : decode cX5_hasSound 3 = .ok (.aload_n 0, 1) := by decide +kernel
theorem dX5_hasSound_4 : decode cX5_hasSound 4 = .ok (.getfield 18, 3) := by decide +kernel
theorem dX5_hasSound_7 : decode cX5_hasSound 7 = .ok (.iload_n 1, 1) := by decide +kernel
theorem dX5_hasSound_8 : decode cX5_hasSound 8 = .ok (.iaload, 1) := by decide +kernel
theorem dX5_hasSound_9 : decode cX5_hasSound 9 = .ok (.if_icmp .ge 26, 3) := by decide +kernel
theorem dX5_hasSound_12 : decode cX5_hasSound 12 = .ok (.aload_n 0, 1) := by decide +kernel
theorem dX5_hasSound_13 : decode cX5_hasSound 13 = .ok (.getfield 30, 3) := by decide +kernel
theorem dX5_hasSound_16 : decode cX5_hasSound 16 = .ok (.aload_n 0, 1) := by decide +kernel
theorem dX5_hasSound_17 : decode cX5_hasSound 17 = .ok (.iload_n 1, 1) := by decide +kernel
theorem dX5_hasSound_18 : decode cX5_hasSound 18 = .ok (.iload_n 3, 1) := by decide +kernel
theorem dX5_hasSound_19 : decode cX5_hasSound 19 = .ok (.invokevirtual 55, 3) := by decide +kernel
theorem dX5_hasSound_22 : decode cX5_hasSound 22 = .ok (.iaload, 1) := by decide +kernel
theorem dX5_hasSound_23 : decode cX5_hasSound 23 = .ok (.iload_n 2, 1) := by decide +kernel
theorem dX5_hasSound_24 : decode cX5_hasSound 24 = .ok (.if_icmp .ne 5, 3) := by decide +kernel
theorem dX5_hasSound_27 : decode cX5_hasSound 27 = .ok (.iconst 1, 1) := by decide +kernel
theorem dX5_hasSound_28 : decode cX5_hasSound 28 = .ok (.ireturn, 1) := by decide +kernel
theorem dX5_hasSound_29 : decode cX5_hasSound 29 = .ok (.iinc 3 1, 3) := by decide +kernel
theorem dX5_hasSound_32 : decode cX5_hasSound 32 = .ok (.goto (-30), 3) := by decide +kernel
theorem dX5_hasSound_35 : decode cX5_hasSound 35 = .ok (.iconst 0, 1) := by decide +kernel
theorem dX5_hasSound_36 : decode cX5_hasSound 36 = .ok (.ireturn, 1) := by decide +kernel
theorem dX5_yearsOfWord_0 : decode cX5_yearsOfWord 0 = .ok (.aload_n 0, 1) := by decide +kernel
theorem dX5_yearsOfWord_1 : decode cX5_yearsOfWord 1 = .ok (.getfield 9, 3) := by decide +kernel
theorem dX5_yearsOfWord_4 : decode cX5_yearsOfWord 4 = .ok (.iload_n 1, 1) := by decide +kernel
theorem dX5_yearsOfWord_5 : decode cX5_yearsOfWord 5 = .ok (.iaload, 1) := by decide +kernel
theorem dX5_yearsOfWord_6 : decode cX5_yearsOfWord 6 = .ok (.iconst 3, 1) := by decide +kernel
theorem dX5_yearsOfWord_7 : decode cX5_yearsOfWord 7 = .ok (.if_icmp .ne 7, 3) := by decide +kernel
theorem dX5_yearsOfWord_10 : decode cX5_yearsOfWord 10 = .ok (.iconst 0, 1) := by decide +kernel
theorem dX5_yearsOfWord_11 : decode cX5_yearsOfWord 11 = .ok (.goto 4, 3) := by decide +kernel
theorem dX5_yearsOfWord_14 : decode cX5_yearsOfWord 14 = .ok (.iconst 1, 1) := by decide +kernel
theorem dX5_yearsOfWord_15 : decode cX5_yearsOfWord 15 = .ok (.ireturn, 1) := by decide +kernel
theorem dX5_wordBits_0 : decode cX5_wordBits 0 = .ok (.iconst 0, 1) := by decide +kernel
theorem dX5_wordBits_1 : decode cX5_wordBits 1 = .ok (.istore_n 2, 1) := by decide +kernel
theorem dX5_wordBits_2 : decode cX5_wordBits 2 = .ok (.iconst 0, 1) := by decide +kernel
theorem dX5_wordBits_3 : decode cX5_wordBits 3 = .ok (.istore_n 3, 1) := by decide +kernel
theorem dX5_wordBits_4 : decode cX5_wordBits 4 = .ok (.iload_n 3, 1) := by decide +kernel
theorem dX5_wordBits_5 : decode cX5_wordBits 5 = .ok (.aload_n 0, 1) := by decide +kernel
theorem dX5_wordBits_6 : decode cX5_wordBits 6 = .ok (.getfield 18, 3) := by decide +kernel
theorem dX5_wordBits_9 : decode cX5_wordBits 9 = .ok (.iload_n 1, 1) := by decide +kernel
theorem dX5_wordBits_10 : decode cX5_wordBits 10 = .ok (.iaload, 1) := by decide +kernel
theorem dX5_wordBits_11 : decode cX5_wordBits 11 = .ok (.if_icmp .ge 20, 3) := by decide +kernel
theorem dX5_wordBits_14 : decode cX5_wordBits 14 = .ok (.iload_n 2, 1) := by decide +kernel
theorem dX5_wordBits_15 : decode cX5_wordBits 15 = .ok (.iconst 1, 1) := by decide +kernel
theorem dX5_wordBits_16 : decode cX5_wordBits 16 = .ok (.aload_n 0, 1) := by decide +kernel
theorem dX5_wordBits_17 : decode cX5_wordBits 17 = .ok (.iload_n 1, 1) := by decide +kernel
theorem dX5_wordBits_18 : decode cX5_wordBits 18 = .ok (.iload_n 3, 1) := by decide +kernel
theorem dX5_wordBits_19 : decode cX5_wordBits 19 = .ok (.invokevirtual 55, 3) := by decide +kernel
theorem dX5_wordBits_22 : decode cX5_wordBits 22 = .ok (.ishl, 1) := by decide +kernel
theorem dX5_wordBits_23 : decode cX5_wordBits 23 = .ok (.ior, 1) := by decide +kernel
theorem dX5_wordBits_24 : decode cX5_wordBits 24 = .ok (.istore_n 2, 1) := by decide +kernel
theorem dX5_wordBits_25 : decode cX5_wordBits 25 = .ok (.iinc 3 1, 3) := by decide +kernel
theorem dX5_wordBits_28 : decode cX5_wordBits 28 = .ok (.goto (-24), 3) := by decide +kernel
theorem dX5_wordBits_31 : decode cX5_wordBits 31 = .ok (.iload_n 2, 1) := by decide +kernel
theorem dX5_wordBits_32 : decode cX5_wordBits 32 = .ok (.ireturn, 1) := by decide +kernel
theorem dX5_wordsTo_0 : decode cX5_wordsTo 0 = .ok (.iconst 0, 1) := by decide +kernel
theorem dX5_wordsTo_1 : decode cX5_wordsTo 1 = .ok (.istore_n 2, 1) := by decide +kernel
theorem dX5_wordsTo_2 : decode cX5_wordsTo 2 = .ok (.iconst 0, 1) := by decide +kernel
theorem dX5_wordsTo_3 : decode cX5_wordsTo 3 = .ok (.istore_n 3, 1) := by decide +kernel
theorem dX5_wordsTo_4 : decode cX5_wordsTo 4 = .ok (.iload_n 3, 1) := by decide +kernel
theorem dX5_wordsTo_5 : decode cX5_wordsTo 5 = .ok (.aload_n 0, 1) := by decide +kernel
theorem dX5_wordsTo_6 : decode cX5_wordsTo 6 = .ok (.getfield 49, 3) := by decide +kernel
theorem dX5_wordsTo_9 : decode cX5_wordsTo 9 = .ok (.if_icmp .ge 27, 3) := by decide +kernel
theorem dX5_wordsTo_12 : decode cX5_wordsTo 12 = .ok (.iload_n 2, 1) := by decide +kernel
theorem dX5_wordsTo_13 : decode cX5_wordsTo 13 = .ok (.aload_n 0, 1) := by decide +kernel
theorem dX5_wordsTo_14 : decode cX5_wordsTo 14 = .ok (.getfield 27, 3) := by decide +kernel
theorem dX5_wordsTo_17 : decode cX5_wordsTo 17 = .ok (.iload_n 3, 1) := by decide +kernel
theorem dX5_wordsTo_18 : decode cX5_wordsTo 18 = .ok (.iaload, 1) := by decide +kernel
theorem dX5_wordsTo_19 : decode cX5_wordsTo 19 = .ok (.iload_n 1, 1) := by decide +kernel
theorem dX5_wordsTo_20 : decode cX5_wordsTo 20 = .ok (.if_icmp .ne 7, 3) := by decide +kernel
theorem dX5_wordsTo_23 : decode cX5_wordsTo 23 = .ok (.iconst 1, 1) := by decide +kernel
theorem dX5_wordsTo_24 : decode cX5_wordsTo 24 = .ok (.goto 4, 3) := by decide +kernel
theorem dX5_wordsTo_27 : decode cX5_wordsTo 27 = .ok (.iconst 0, 1) := by decide +kernel
theorem dX5_wordsTo_28 : decode cX5_wordsTo 28 = .ok (.iadd, 1) := by decide +kernel
theorem dX5_wordsTo_29 : decode cX5_wordsTo 29 = .ok (.istore_n 2, 1) := by decide +kernel
theorem dX5_wordsTo_30 : decode cX5_wordsTo 30 = .ok (.iinc 3 1, 3) := by decide +kernel
theorem dX5_wordsTo_33 : decode cX5_wordsTo 33 = .ok (.goto (-29), 3) := by decide +kernel
theorem dX5_wordsTo_36 : decode cX5_wordsTo 36 = .ok (.iload_n 2, 1) := by decide +kernel
theorem dX5_wordsTo_37 : decode cX5_wordsTo 37 = .ok (.ireturn, 1) := by decide +kernel
theorem dX5_endsNextTo_0 : decode cX5_endsNextTo 0 = .ok (.iconst 0, 1) := by decide +kernel
theorem dX5_endsNextTo_1 : decode cX5_endsNextTo 1 = .ok (.istore_n 2, 1) := by decide +kernel
theorem dX5_endsNextTo_2 : decode cX5_endsNextTo 2 = .ok (.iconst 0, 1) := by decide +kernel
theorem dX5_endsNextTo_3 : decode cX5_endsNextTo 3 = .ok (.istore_n 3, 1) := by decide +kernel
theorem dX5_endsNextTo_4 : decode cX5_endsNextTo 4 = .ok (.iload_n 3, 1) := by decide +kernel
theorem dX5_endsNextTo_5 : decode cX5_endsNextTo 5 = .ok (.aload_n 0, 1) := by decide +kernel
theorem dX5_endsNextTo_6 : decode cX5_endsNextTo 6 = .ok (.getfield 18, 3) := by decide +kernel
theorem dX5_endsNextTo_9 : decode cX5_endsNextTo 9 = .ok (.iload_n 1, 1) := by decide +kernel
theorem dX5_endsNextTo_10 : decode cX5_endsNextTo 10 = .ok (.iaload, 1) := by decide +kernel
theorem dX5_endsNextTo_11 : decode cX5_endsNextTo 11 = .ok (.if_icmp .ge 42, 3) := by decide +kernel
theorem dX5_endsNextTo_14 : decode cX5_endsNextTo 14 = .ok (.aload_n 0, 1) := by decide +kernel
theorem dX5_endsNextTo_15 : decode cX5_endsNextTo 15 = .ok (.getfield 27, 3) := by decide +kernel
theorem dX5_endsNextTo_18 : decode cX5_endsNextTo 18 = .ok (.aload_n 0, 1) := by decide +kernel
theorem dX5_endsNextTo_19 : decode cX5_endsNextTo 19 = .ok (.iload_n 1, 1) := by decide +kernel
theorem dX5_endsNextTo_20 : decode cX5_endsNextTo 20 = .ok (.iload_n 3, 1) := by decide +kernel
theorem dX5_endsNextTo_21 : decode cX5_endsNextTo 21 = .ok (.invokevirtual 55, 3) := by decide +kernel
theorem dX5_endsNextTo_24 : decode cX5_endsNextTo 24 = .ok (.iaload, 1) := by decide +kernel
theorem dX5_endsNextTo_25 : decode cX5_endsNextTo 25 = .ok (.istore 4, 2) := by decide +kernel
theorem dX5_endsNextTo_27 : decode cX5_endsNextTo 27 = .ok (.iload_n 2, 1) := by decide +kernel
theorem dX5_endsNextTo_28 : decode cX5_endsNextTo 28 = .ok (.aload_n 0, 1) := by decide +kernel
theorem dX5_endsNextTo_29 : decode cX5_endsNextTo 29 = .ok (.iload 4, 2) := by decide +kernel
theorem dX5_endsNextTo_31 : decode cX5_endsNextTo 31 = .ok (.invokevirtual 59, 3) := by decide +kernel
theorem dX5_endsNextTo_34 : decode cX5_endsNextTo 34 = .ok (.ifCond .eq 10, 3) := by decide +kernel
theorem dX5_endsNextTo_37 : decode cX5_endsNextTo 37 = .ok (.iconst 1, 1) := by decide +kernel
theorem dX5_endsNextTo_38 : decode cX5_endsNextTo 38 = .ok (.iload 4, 2) := by decide +kernel
theorem dX5_endsNextTo_40 : decode cX5_endsNextTo 40 = .ok (.ishl, 1) := by decide +kernel
theorem dX5_endsNextTo_41 : decode cX5_endsNextTo 41 = .ok (.goto 4, 3) := by decide +kernel
theorem dX5_endsNextTo_44 : decode cX5_endsNextTo 44 = .ok (.iconst 0, 1) := by decide +kernel
theorem dX5_endsNextTo_45 : decode cX5_endsNextTo 45 = .ok (.ior, 1) := by decide +kernel
theorem dX5_endsNextTo_46 : decode cX5_endsNextTo 46 = .ok (.istore_n 2, 1) := by decide +kernel
theorem dX5_endsNextTo_47 : decode cX5_endsNextTo 47 = .ok (.iinc 3 1, 3) := by decide +kernel
theorem dX5_endsNextTo_50 : decode cX5_endsNextTo 50 = .ok (.goto (-46), 3) := by decide +kernel
theorem dX5_endsNextTo_53 : decode cX5_endsNextTo 53 = .ok (.iload_n 2, 1) := by decide +kernel
theorem dX5_endsNextTo_54 : decode cX5_endsNextTo 54 = .ok (.invokestatic 63, 3) := by decide +kernel
theorem dX5_endsNextTo_57 : decode cX5_endsNextTo 57 = .ok (.ireturn, 1) := by decide +kernel
theorem dX5_deedsOf_0 : decode cX5_deedsOf 0 = .ok (.iconst 0, 1) := by decide +kernel
theorem dX5_deedsOf_1 : decode cX5_deedsOf 1 = .ok (.istore_n 2, 1) := by decide +kernel
theorem dX5_deedsOf_2 : decode cX5_deedsOf 2 = .ok (.iconst 0, 1) := by decide +kernel
theorem dX5_deedsOf_3 : decode cX5_deedsOf 3 = .ok (.istore_n 3, 1) := by decide +kernel
theorem dX5_deedsOf_4 : decode cX5_deedsOf 4 = .ok (.iload_n 3, 1) := by decide +kernel
theorem dX5_deedsOf_5 : decode cX5_deedsOf 5 = .ok (.aload_n 0, 1) := by decide +kernel
theorem dX5_deedsOf_6 : decode cX5_deedsOf 6 = .ok (.getfield 52, 3) := by decide +kernel
theorem dX5_deedsOf_9 : decode cX5_deedsOf 9 = .ok (.if_icmp .ge 27, 3) := by decide +kernel
theorem dX5_deedsOf_12 : decode cX5_deedsOf 12 = .ok (.iload_n 2, 1) := by decide +kernel
theorem dX5_deedsOf_13 : decode cX5_deedsOf 13 = .ok (.aload_n 0, 1) := by decide +kernel
theorem dX5_deedsOf_14 : decode cX5_deedsOf 14 = .ok (.getfield 39, 3) := by decide +kernel
theorem dX5_deedsOf_17 : decode cX5_deedsOf 17 = .ok (.iload_n 3, 1) := by decide +kernel
theorem dX5_deedsOf_18 : decode cX5_deedsOf 18 = .ok (.iaload, 1) := by decide +kernel
theorem dX5_deedsOf_19 : decode cX5_deedsOf 19 = .ok (.iload_n 1, 1) := by decide +kernel
theorem dX5_deedsOf_20 : decode cX5_deedsOf 20 = .ok (.if_icmp .ne 7, 3) := by decide +kernel
theorem dX5_deedsOf_23 : decode cX5_deedsOf 23 = .ok (.iconst 1, 1) := by decide +kernel
theorem dX5_deedsOf_24 : decode cX5_deedsOf 24 = .ok (.goto 4, 3) := by decide +kernel
theorem dX5_deedsOf_27 : decode cX5_deedsOf 27 = .ok (.iconst 0, 1) := by decide +kernel
theorem dX5_deedsOf_28 : decode cX5_deedsOf 28 = .ok (.iadd, 1) := by decide +kernel
theorem dX5_deedsOf_29 : decode cX5_deedsOf 29 = .ok (.istore_n 2, 1) := by decide +kernel
theorem dX5_deedsOf_30 : decode cX5_deedsOf 30 = .ok (.iinc 3 1, 3) := by decide +kernel
theorem dX5_deedsOf_33 : decode cX5_deedsOf 33 = .ok (.goto (-29), 3) := by decide +kernel
theorem dX5_deedsOf_36 : decode cX5_deedsOf 36 = .ok (.iload_n 2, 1) := by decide +kernel
theorem dX5_deedsOf_37 : decode cX5_deedsOf 37 = .ok (.ireturn, 1) := by decide +kernel
theorem dX5_ends_0 : decode cX5_ends 0 = .ok (.iconst 0, 1) := by decide +kernel
theorem dX5_ends_1 : decode cX5_ends 1 = .ok (.istore_n 1, 1) := by decide +kernel
theorem dX5_ends_2 : decode cX5_ends 2 = .ok (.iconst 0, 1) := by decide +kernel
theorem dX5_ends_3 : decode cX5_ends 3 = .ok (.istore_n 2, 1) := by decide +kernel
theorem dX5_ends_4 : decode cX5_ends 4 = .ok (.iload_n 2, 1) := by decide +kernel
theorem dX5_ends_5 : decode cX5_ends 5 = .ok (.aload_n 0, 1) := by decide +kernel
theorem dX5_ends_6 : decode cX5_ends 6 = .ok (.getfield 45, 3) := by decide +kernel
theorem dX5_ends_9 : decode cX5_ends 9 = .ok (.if_icmp .ge 25, 3) := by decide +kernel
theorem dX5_ends_12 : decode cX5_ends 12 = .ok (.iload_n 1, 1) := by decide +kernel
theorem dX5_ends_13 : decode cX5_ends 13 = .ok (.aload_n 0, 1) := by decide +kernel
theorem dX5_ends_14 : decode cX5_ends 14 = .ok (.iload_n 2, 1) := by decide +kernel
theorem dX5_ends_15 : decode cX5_ends 15 = .ok (.invokevirtual 59, 3) := by decide +kernel
theorem dX5_ends_18 : decode cX5_ends 18 = .ok (.ifCond .eq 7, 3) := by decide +kernel
theorem dX5_ends_21 : decode cX5_ends 21 = .ok (.iconst 1, 1) := by decide +kernel
theorem dX5_ends_22 : decode cX5_ends 22 = .ok (.goto 4, 3) := by decide +kernel
theorem dX5_ends_25 : decode cX5_ends 25 = .ok (.iconst 0, 1) := by decide +kernel
theorem dX5_ends_26 : decode cX5_ends 26 = .ok (.iadd, 1) := by decide +kernel
theorem dX5_ends_27 : decode cX5_ends 27 = .ok (.istore_n 1, 1) := by decide +kernel
theorem dX5_ends_28 : decode cX5_ends 28 = .ok (.iinc 2 1, 3) := by decide +kernel
theorem dX5_ends_31 : decode cX5_ends 31 = .ok (.goto (-27), 3) := by decide +kernel
theorem dX5_ends_34 : decode cX5_ends 34 = .ok (.iload_n 1, 1) := by decide +kernel
theorem dX5_ends_35 : decode cX5_ends 35 = .ok (.ireturn, 1) := by decide +kernel
theorem dX5_gain_0 : decode cX5_gain 0 = .ok (.iconst 0, 1) := by decide +kernel
theorem dX5_gain_1 : decode cX5_gain 1 = .ok (.istore_n 3, 1) := by decide +kernel
theorem dX5_gain_2 : decode cX5_gain 2 = .ok (.iconst 0, 1) := by decide +kernel
theorem dX5_gain_3 : decode cX5_gain 3 = .ok (.istore 4, 2) := by decide +kernel
theorem dX5_gain_5 : decode cX5_gain 5 = .ok (.iload 4, 2) := by decide +kernel
theorem dX5_gain_7 : decode cX5_gain 7 = .ok (.aload_n 0, 1) := by decide +kernel
theorem dX5_gain_8 : decode cX5_gain 8 = .ok (.getfield 52, 3) := by decide +kernel
theorem dX5_gain_11 : decode cX5_gain 11 = .ok (.if_icmp .ge 38, 3) := by decide +kernel
theorem dX5_gain_14 : decode cX5_gain 14 = .ok (.iload_n 2, 1) := by decide +kernel
theorem dX5_gain_15 : decode cX5_gain 15 = .ok (.iload 4, 2) := by decide +kernel
theorem dX5_gain_17 : decode cX5_gain 17 = .ok (.invokestatic 69, 3) := by decide +kernel
theorem dX5_gain_20 : decode cX5_gain 20 = .ok (.bipush 6, 2) := by decide +kernel
theorem dX5_gain_22 : decode cX5_gain 22 = .ok (.if_icmp .ne 21, 3) := by decide +kernel
theorem dX5_gain_25 : decode cX5_gain 25 = .ok (.iload_n 3, 1) := by decide +kernel
theorem dX5_gain_26 : decode cX5_gain 26 = .ok (.aload_n 0, 1) := by decide +kernel
theorem dX5_gain_27 : decode cX5_gain 27 = .ok (.iload_n 1, 1) := by decide +kernel
theorem dX5_gain_28 : decode cX5_gain 28 = .ok (.iload 4, 2) := by decide +kernel
theorem dX5_gain_30 : decode cX5_gain 30 = .ok (.invokevirtual 74, 3) := by decide +kernel
theorem dX5_gain_33 : decode cX5_gain 33 = .ok (.aload_n 0, 1) := by decide +kernel
theorem dX5_gain_34 : decode cX5_gain 34 = .ok (.getfield 36, 3) := by decide +kernel
theorem dX5_gain_37 : decode cX5_gain 37 = .ok (.iload 4, 2) := by decide +kernel
theorem dX5_gain_39 : decode cX5_gain 39 = .ok (.iaload, 1) := by decide +kernel
theorem dX5_gain_40 : decode cX5_gain 40 = .ok (.isub, 1) := by decide +kernel
theorem dX5_gain_41 : decode cX5_gain 41 = .ok (.iadd, 1) := by decide +kernel
theorem dX5_gain_42 : decode cX5_gain 42 = .ok (.istore_n 3, 1) := by decide +kernel
theorem dX5_gain_43 : decode cX5_gain 43 = .ok (.iinc 4 1, 3) := by decide +kernel
theorem dX5_gain_46 : decode cX5_gain 46 = .ok (.goto (-41), 3) := by decide +kernel
theorem dX5_gain_49 : decode cX5_gain 49 = .ok (.iload_n 3, 1) := by decide +kernel
theorem dX5_gain_50 : decode cX5_gain 50 = .ok (.ireturn, 1) := by decide +kernel
theorem dX5_worthAt_0 : decode cX5_worthAt 0 = .ok (.aload_n 0, 1) := by decide +kernel
theorem dX5_worthAt_1 : decode cX5_worthAt 1 = .ok (.getfield 39, 3) := by decide +kernel
theorem dX5_worthAt_4 : decode cX5_worthAt 4 = .ok (.iload_n 2, 1) := by decide +kernel
theorem dX5_worthAt_5 : decode cX5_worthAt 5 = .ok (.iaload, 1) := by decide +kernel
theorem dX5_worthAt_6 : decode cX5_worthAt 6 = .ok (.aload_n 0, 1) := by decide +kernel
theorem dX5_worthAt_7 : decode cX5_worthAt 7 = .ok (.getfield 15, 3) := by decide +kernel
theorem dX5_worthAt_10 : decode cX5_worthAt 10 = .ok (.iload_n 1, 1) := by decide +kernel
theorem dX5_worthAt_11 : decode cX5_worthAt 11 = .ok (.iaload, 1) := by decide +kernel
theorem dX5_worthAt_12 : decode cX5_worthAt 12 = .ok (.if_icmp .eq 5, 3) := by decide +kernel
theorem dX5_worthAt_15 : decode cX5_worthAt 15 = .ok (.iconst 0, 1) := by decide +kernel
theorem dX5_worthAt_16 : decode cX5_worthAt 16 = .ok (.ireturn, 1) := by decide +kernel
theorem dX5_worthAt_17 : decode cX5_worthAt 17 = .ok (.aload_n 0, 1) := by decide +kernel
theorem dX5_worthAt_18 : decode cX5_worthAt 18 = .ok (.getfield 9, 3) := by decide +kernel
theorem dX5_worthAt_21 : decode cX5_worthAt 21 = .ok (.iload_n 1, 1) := by decide +kernel
theorem dX5_worthAt_22 : decode cX5_worthAt 22 = .ok (.iaload, 1) := by decide +kernel
theorem dX5_worthAt_23 : decode cX5_worthAt 23 = .ok (.iconst 4, 1) := by decide +kernel
theorem dX5_worthAt_24 : decode cX5_worthAt 24 = .ok (.if_icmp .ne 14, 3) := by decide +kernel
theorem dX5_worthAt_27 : decode cX5_worthAt 27 = .ok (.iconst 2, 1) := by decide +kernel
theorem dX5_worthAt_28 : decode cX5_worthAt 28 = .ok (.aload_n 0, 1) := by decide +kernel
theorem dX5_worthAt_29 : decode cX5_worthAt 29 = .ok (.getfield 42, 3) := by decide +kernel
theorem dX5_worthAt_32 : decode cX5_worthAt 32 = .ok (.iload_n 2, 1) := by decide +kernel
theorem dX5_worthAt_33 : decode cX5_worthAt 33 = .ok (.iaload, 1) := by decide +kernel
theorem dX5_worthAt_34 : decode cX5_worthAt 34 = .ok (.imul, 1) := by decide +kernel
theorem dX5_worthAt_35 : decode cX5_worthAt 35 = .ok (.goto 9, 3) := by decide +kernel
theorem dX5_worthAt_38 : decode cX5_worthAt 38 = .ok (.aload_n 0, 1) := by decide +kernel
theorem dX5_worthAt_39 : decode cX5_worthAt 39 = .ok (.getfield 42, 3) := by decide +kernel
theorem dX5_worthAt_42 : decode cX5_worthAt 42 = .ok (.iload_n 2, 1) := by decide +kernel
theorem dX5_worthAt_43 : decode cX5_worthAt 43 = .ok (.iaload, 1) := by decide +kernel
theorem dX5_worthAt_44 : decode cX5_worthAt 44 = .ok (.ireturn, 1) := by decide +kernel
theorem dX6_init_0 : decode cX6_init 0 = .ok (.aload_n 0, 1) := by decide +kernel
theorem dX6_init_1 : decode cX6_init 1 = .ok (.invokespecial 3, 3) := by decide +kernel
theorem dX6_init_4 : decode cX6_init 4 = .ok (.aload_n 0, 1) := by decide +kernel
theorem dX6_init_5 : decode cX6_init 5 = .ok (.bipush 8, 2) := by decide +kernel
theorem dX6_init_7 : decode cX6_init 7 = .ok (.newarray .int, 2) := by decide +kernel
theorem dX6_init_9 : decode cX6_init 9 = .ok (.putfield 9, 3) := by decide +kernel
theorem dX6_init_12 : decode cX6_init 12 = .ok (.aload_n 0, 1) := by decide +kernel
theorem dX6_init_13 : decode cX6_init 13 = .ok (.bipush 8, 2) := by decide +kernel
theorem dX6_init_15 : decode cX6_init 15 = .ok (.newarray .int, 2) := by decide +kernel
theorem dX6_init_17 : decode cX6_init 17 = .ok (.putfield 15, 3) := by decide +kernel
theorem dX6_init_20 : decode cX6_init 20 = .ok (.return_, 1) := by decide +kernel
theorem dX6_restart_0 : decode cX6_restart 0 = .ok (.aload_n 0, 1) := by decide +kernel
theorem dX6_restart_1 : decode cX6_restart 1 = .ok (.iconst 0, 1) := by decide +kernel
theorem dX6_restart_2 : decode cX6_restart 2 = .ok (.putfield 18, 3) := by decide +kernel
theorem dX6_restart_5 : decode cX6_restart 5 = .ok (.aload_n 0, 1) := by decide +kernel
theorem dX6_restart_6 : decode cX6_restart 6 = .ok (.iconst 0, 1) := by decide +kernel
theorem dX6_restart_7 : decode cX6_restart 7 = .ok (.putfield 22, 3) := by decide +kernel
theorem dX6_restart_10 : decode cX6_restart 10 = .ok (.return_, 1) := by decide +kernel
theorem dX6_takeFrom_0 : decode cX6_takeFrom 0 = .ok (.aload_n 1, 1) := by decide +kernel
theorem dX6_takeFrom_1 : decode cX6_takeFrom 1 = .ok (.getfield 9, 3) := by decide +kernel
theorem dX6_takeFrom_4 : decode cX6_takeFrom 4 = .ok (.iconst 0, 1) := by decide +kernel
theorem dX6_takeFrom_5 : decode cX6_takeFrom 5 = .ok (.aload_n 0, 1) := by decide +kernel
theorem dX6_takeFrom_6 : decode cX6_takeFrom 6 = .ok (.getfield 9, 3) := by decide +kernel
theorem dX6_takeFrom_9 : decode cX6_takeFrom 9 = .ok (.iconst 0, 1) := by decide +kernel
theorem dX6_takeFrom_10 : decode cX6_takeFrom 10 = .ok (.bipush 8, 2) := by decide +kernel
theorem dX6_takeFrom_12 : decode cX6_takeFrom 12 = .ok (.invokestatic 25, 3) := by decide +kernel
theorem dX6_takeFrom_15 : decode cX6_takeFrom 15 = .ok (.aload_n 1, 1) := by decide +kernel
theorem dX6_takeFrom_16 : decode cX6_takeFrom 16 = .ok (.getfield 15, 3) := by decide +kernel
theorem dX6_takeFrom_19 : decode cX6_takeFrom 19 = .ok (.iconst 0, 1) := by decide +kernel
theorem dX6_takeFrom_20 : decode cX6_takeFrom 20 = .ok (.aload_n 0, 1) := by decide +kernel
theorem dX6_takeFrom_21 : decode cX6_takeFrom 21 = .ok (.getfield 15, 3) := by decide +kernel
theorem dX6_takeFrom_24 : decode cX6_takeFrom 24 = .ok (.iconst 0, 1) := by decide +kernel
theorem dX6_takeFrom_25 : decode cX6_takeFrom 25 = .ok (.bipush 8, 2) := by decide +kernel
theorem dX6_takeFrom_27 : decode cX6_takeFrom 27 = .ok (.invokestatic 25, 3) := by decide +kernel
theorem dX6_takeFrom_30 : decode cX6_takeFrom 30 = .ok (.aload_n 0, 1) := by decide +kernel
theorem dX6_takeFrom_31 : decode cX6_takeFrom 31 = .ok (.aload_n 1, 1) := by decide +kernel
theorem dX6_takeFrom_32 : decode cX6_takeFrom 32 = .ok (.getfield 18, 3) := by decide +kernel
theorem dX6_takeFrom_35 : decode cX6_takeFrom 35 = .ok (.putfield 18, 3) := by decide +kernel
theorem dX6_takeFrom_38 : decode cX6_takeFrom 38 = .ok (.aload_n 0, 1) := by decide +kernel
theorem dX6_takeFrom_39 : decode cX6_takeFrom 39 = .ok (.aload_n 1, 1) := by decide +kernel
theorem dX6_takeFrom_40 : decode cX6_takeFrom 40 = .ok (.getfield 22, 3) := by decide +kernel
theorem dX6_takeFrom_43 : decode cX6_takeFrom 43 = .ok (.putfield 22, 3) := by decide +kernel
theorem dX6_takeFrom_46 : decode cX6_takeFrom 46 = .ok (.return_, 1) := by decide +kernel
theorem dX6_goOn_0 : decode cX6_goOn 0 = .ok (.aload_n 0, 1) := by decide +kernel
theorem dX6_goOn_1 : decode cX6_goOn 1 = .ok (.getfield 18, 3) := by decide +kernel
theorem dX6_goOn_4 : decode cX6_goOn 4 = .ok (.bipush 8, 2) := by decide +kernel
theorem dX6_goOn_6 : decode cX6_goOn 6 = .ok (.if_icmp .ge 58, 3) := by decide +kernel
theorem dX6_goOn_9 : decode cX6_goOn 9 = .ok (.aload_n 0, 1) := by decide +kernel
theorem dX6_goOn_10 : decode cX6_goOn 10 = .ok (.getfield 9, 3) := by decide +kernel
theorem dX6_goOn_13 : decode cX6_goOn 13 = .ok (.aload_n 0, 1) := by decide +kernel
theorem dX6_goOn_14 : decode cX6_goOn 14 = .ok (.getfield 18, 3) := by decide +kernel
theorem dX6_goOn_17 : decode cX6_goOn 17 = .ok (.iload_n 1, 1) := by decide +kernel
theorem dX6_goOn_18 : decode cX6_goOn 18 = .ok (.iastore, 1) := by decide +kernel
theorem dX6_goOn_19 : decode cX6_goOn 19 = .ok (.aload_n 0, 1) := by decide +kernel
theorem dX6_goOn_20 : decode cX6_goOn 20 = .ok (.getfield 15, 3) := by decide +kernel
theorem dX6_goOn_23 : decode cX6_goOn 23 = .ok (.aload_n 0, 1) := by decide +kernel
theorem dX6_goOn_24 : decode cX6_goOn 24 = .ok (.getfield 18, 3) := by decide +kernel
theorem dX6_goOn_27 : decode cX6_goOn 27 = .ok (.aload_n 0, 1) := by decide +kernel
theorem dX6_goOn_28 : decode cX6_goOn 28 = .ok (.getfield 22, 3) := by decide +kernel
theorem dX6_goOn_31 : decode cX6_goOn 31 = .ok (.iastore, 1) := by decide +kernel
theorem dX6_goOn_32 : decode cX6_goOn 32 = .ok (.aload_n 0, 1) := by decide +kernel
theorem dX6_goOn_33 : decode cX6_goOn 33 = .ok (.aload_n 0, 1) := by decide +kernel
theorem dX6_goOn_34 : decode cX6_goOn 34 = .ok (.getfield 22, 3) := by decide +kernel
theorem dX6_goOn_37 : decode cX6_goOn 37 = .ok (.aload_n 2, 1) := by decide +kernel
theorem dX6_goOn_38 : decode cX6_goOn 38 = .ok (.getfield 31, 3) := by decide +kernel
theorem dX6_goOn_41 : decode cX6_goOn 41 = .ok (.aload_n 2, 1) := by decide +kernel
theorem dX6_goOn_42 : decode cX6_goOn 42 = .ok (.getfield 36, 3) := by decide +kernel
theorem dX6_goOn_45 : decode cX6_goOn 45 = .ok (.iload_n 1, 1) := by decide +kernel
theorem dX6_goOn_46 : decode cX6_goOn 46 = .ok (.iaload, 1) := by decide +kernel
theorem dX6_goOn_47 : decode cX6_goOn 47 = .ok (.iaload, 1) := by decide +kernel
theorem dX6_goOn_48 : decode cX6_goOn 48 = .ok (.invokestatic 39, 3) := by decide +kernel
theorem dX6_goOn_51 : decode cX6_goOn 51 = .ok (.putfield 22, 3) := by decide +kernel
theorem dX6_goOn_54 : decode cX6_goOn 54 = .ok (.aload_n 0, 1) := by decide +kernel
theorem dX6_goOn_55 : decode cX6_goOn 55 = .ok (.dup, 1) := by decide +kernel
theorem dX6_goOn_56 : decode cX6_goOn 56 = .ok (.getfield 18, 3) := by decide +kernel
theorem dX6_goOn_59 : decode cX6_goOn 59 = .ok (.iconst 1, 1) := by decide +kernel
theorem dX6_goOn_60 : decode cX6_goOn 60 = .ok (.iadd, 1) := by decide +kernel
theorem dX6_goOn_61 : decode cX6_goOn 61 = .ok (.putfield 18, 3) := by decide +kernel
theorem dX6_goOn_64 : decode cX6_goOn 64 = .ok (.return_, 1) := by decide +kernel
theorem dX6_cutAt_0 : decode cX6_cutAt 0 = .ok (.aload_n 0, 1) := by decide +kernel
theorem dX6_cutAt_1 : decode cX6_cutAt 1 = .ok (.getfield 18, 3) := by decide +kernel
theorem dX6_cutAt_4 : decode cX6_cutAt 4 = .ok (.iload_n 1, 1) := by decide +kernel
theorem dX6_cutAt_5 : decode cX6_cutAt 5 = .ok (.isub, 1) := by decide +kernel
theorem dX6_cutAt_6 : decode cX6_cutAt 6 = .ok (.istore_n 2, 1) := by decide +kernel
theorem dX6_cutAt_7 : decode cX6_cutAt 7 = .ok (.iload_n 2, 1) := by decide +kernel
theorem dX6_cutAt_8 : decode cX6_cutAt 8 = .ok (.ifCond .le 18, 3) := by decide +kernel
theorem dX6_cutAt_11 : decode cX6_cutAt 11 = .ok (.aload_n 0, 1) := by decide +kernel
theorem dX6_cutAt_12 : decode cX6_cutAt 12 = .ok (.aload_n 0, 1) := by decide +kernel
theorem dX6_cutAt_13 : decode cX6_cutAt 13 = .ok (.getfield 15, 3) := by decide +kernel
theorem dX6_cutAt_16 : decode cX6_cutAt 16 = .ok (.iload_n 1, 1) := by decide +kernel
theorem dX6_cutAt_17 : decode cX6_cutAt 17 = .ok (.iaload, 1) := by decide +kernel
theorem dX6_cutAt_18 : decode cX6_cutAt 18 = .ok (.putfield 22, 3) := by decide +kernel
theorem dX6_cutAt_21 : decode cX6_cutAt 21 = .ok (.aload_n 0, 1) := by decide +kernel
theorem dX6_cutAt_22 : decode cX6_cutAt 22 = .ok (.iload_n 1, 1) := by decide +kernel
theorem dX6_cutAt_23 : decode cX6_cutAt 23 = .ok (.putfield 18, 3) := by decide +kernel
theorem dX6_cutAt_26 : decode cX6_cutAt 26 = .ok (.iload_n 2, 1) := by decide +kernel
theorem dX6_cutAt_27 : decode cX6_cutAt 27 = .ok (.ireturn, 1) := by decide +kernel
theorem dX6_gone_0 : decode cX6_gone 0 = .ok (.iconst 0, 1) := by decide +kernel
theorem dX6_gone_1 : decode cX6_gone 1 = .ok (.istore_n 2, 1) := by decide +kernel
theorem dX6_gone_2 : decode cX6_gone 2 = .ok (.iconst 0, 1) := by decide +kernel
theorem dX6_gone_3 : decode cX6_gone 3 = .ok (.istore_n 3, 1) := by decide +kernel
theorem dX6_gone_4 : decode cX6_gone 4 = .ok (.iload_n 3, 1) := by decide +kernel
theorem dX6_gone_5 : decode cX6_gone 5 = .ok (.aload_n 0, 1) := by decide +kernel
theorem dX6_gone_6 : decode cX6_gone 6 = .ok (.getfield 18, 3) := by decide +kernel
theorem dX6_gone_9 : decode cX6_gone 9 = .ok (.if_icmp .ge 27, 3) := by decide +kernel
theorem dX6_gone_12 : decode cX6_gone 12 = .ok (.iload_n 2, 1) := by decide +kernel
theorem dX6_gone_13 : decode cX6_gone 13 = .ok (.aload_n 1, 1) := by decide +kernel
theorem dX6_gone_14 : decode cX6_gone 14 = .ok (.aload_n 1, 1) := by decide +kernel
theorem dX6_gone_15 : decode cX6_gone 15 = .ok (.getfield 36, 3) := by decide +kernel
theorem dX6_gone_18 : decode cX6_gone 18 = .ok (.aload_n 0, 1) := by decide +kernel
theorem dX6_gone_19 : decode cX6_gone 19 = .ok (.getfield 9, 3) := by decide +kernel
theorem dX6_gone_22 : decode cX6_gone 22 = .ok (.iload_n 3, 1) := by decide +kernel
theorem dX6_gone_23 : decode cX6_gone 23 = .ok (.iaload, 1) := by decide +kernel
theorem dX6_gone_24 : decode cX6_gone 24 = .ok (.iaload, 1) := by decide +kernel
theorem dX6_gone_25 : decode cX6_gone 25 = .ok (.invokevirtual 45, 3) := by decide +kernel
theorem dX6_gone_28 : decode cX6_gone 28 = .ok (.iadd, 1) := by decide +kernel
theorem dX6_gone_29 : decode cX6_gone 29 = .ok (.istore_n 2, 1) := by decide +kernel
theorem dX6_gone_30 : decode cX6_gone 30 = .ok (.iinc 3 1, 3) := by decide +kernel
theorem dX6_gone_33 : decode cX6_gone 33 = .ok (.goto (-29), 3) := by decide +kernel
theorem dX6_gone_36 : decode cX6_gone 36 = .ok (.iload_n 2, 1) := by decide +kernel
theorem dX6_gone_37 : decode cX6_gone 37 = .ok (.ireturn, 1) := by decide +kernel
theorem dX7_init_0 : decode cX7_init 0 = .ok (.aload_n 0, 1) := by decide +kernel
theorem dX7_init_1 : decode cX7_init 1 = .ok (.invokespecial 3, 3) := by decide +kernel
theorem dX7_init_4 : decode cX7_init 4 = .ok (.aload_n 0, 1) := by decide +kernel
theorem dX7_init_5 : decode cX7_init 5 = .ok (.bipush 6, 2) := by decide +kernel
theorem dX7_init_7 : decode cX7_init 7 = .ok (.bipush 40, 2) := by decide +kernel
theorem dX7_init_9 : decode cX7_init 9 = .ok (.multianewarray 9 2, 4) := by decide +kernel
theorem dX7_init_13 : decode cX7_init 13 = .ok (.putfield 11, 3) := by decide +kernel
theorem dX7_init_16 : decode cX7_init 16 = .ok (.aload_n 0, 1) := by decide +kernel
theorem dX7_init_17 : decode cX7_init 17 = .ok (.bipush 6, 2) := by decide +kernel
theorem dX7_init_19 : decode cX7_init 19 = .ok (.newarray .int, 2) := by decide +kernel
theorem dX7_init_21 : decode cX7_init 21 = .ok (.putfield 14, 3) := by decide +kernel
theorem dX7_init_24 : decode cX7_init 24 = .ok (.aload_n 0, 1) := by decide +kernel
theorem dX7_init_25 : decode cX7_init 25 = .ok (.iconst 4, 1) := by decide +kernel
theorem dX7_init_26 : decode cX7_init 26 = .ok (.bipush 80, 2) := by decide +kernel
theorem dX7_init_28 : decode cX7_init 28 = .ok (.multianewarray 18 2, 4) := by decide +kernel
theorem dX7_init_32 : decode cX7_init 32 = .ok (.putfield 20, 3) := by decide +kernel
theorem dX7_init_35 : decode cX7_init 35 = .ok (.aload_n 0, 1) := by decide +kernel
theorem dX7_init_36 : decode cX7_init 36 = .ok (.iconst 4, 1) := by decide +kernel
theorem dX7_init_37 : decode cX7_init 37 = .ok (.newarray .int, 2) := by decide +kernel
theorem dX7_init_39 : decode cX7_init 39 = .ok (.putfield 23, 3) := by decide +kernel
theorem dX7_init_42 : decode cX7_init 42 = .ok (.aload_n 0, 1) := by decide +kernel
theorem dX7_init_43 : decode cX7_init 43 = .ok (.new 26, 3) := by decide +kernel
theorem dX7_init_46 : decode cX7_init 46 = .ok (.dup, 1) := by decide +kernel
theorem dX7_init_47 : decode cX7_init 47 = .ok (.invokespecial 28, 3) := by decide +kernel
theorem dX7_init_50 : decode cX7_init 50 = .ok (.putfield 29, 3) := by decide +kernel
theorem dX7_init_53 : decode cX7_init 53 = .ok (.aload_n 0, 1) := by decide +kernel
theorem dX7_init_54 : decode cX7_init 54 = .ok (.new 26, 3) := by decide +kernel
theorem dX7_init_57 : decode cX7_init 57 = .ok (.dup, 1) := by decide +kernel
theorem dX7_init_58 : decode cX7_init 58 = .ok (.invokespecial 28, 3) := by decide +kernel
theorem dX7_init_61 : decode cX7_init 61 = .ok (.putfield 33, 3) := by decide +kernel
theorem dX7_init_64 : decode cX7_init 64 = .ok (.aload_n 0, 1) := by decide +kernel
theorem dX7_init_65 : decode cX7_init 65 = .ok (.new 36, 3) := by decide +kernel
theorem dX7_init_68 : decode cX7_init 68 = .ok (.dup, 1) := by decide +kernel
theorem dX7_init_69 : decode cX7_init 69 = .ok (.aload_n 0, 1) := by decide +kernel
theorem dX7_init_70 : decode cX7_init 70 = .ok (.getfield 33, 3) := by decide +kernel
theorem dX7_init_73 : decode cX7_init 73 = .ok (.invokespecial 38, 3) := by decide +kernel
theorem dX7_init_76 : decode cX7_init 76 = .ok (.putfield 41, 3) := by decide +kernel
theorem dX7_init_79 : decode cX7_init 79 = .ok (.aload_n 0, 1) := by decide +kernel
theorem dX7_init_80 : decode cX7_init 80 = .ok (.new 45, 3) := by decide +kernel
theorem dX7_init_83 : decode cX7_init 83 = .ok (.dup, 1) := by decide +kernel
theorem dX7_init_84 : decode cX7_init 84 = .ok (.aload_n 0, 1) := by decide +kernel
theorem dX7_init_85 : decode cX7_init 85 = .ok (.getfield 29, 3) := by decide +kernel
theorem dX7_init_88 : decode cX7_init 88 = .ok (.invokespecial 47, 3) := by decide +kernel
theorem dX7_init_91 : decode cX7_init 91 = .ok (.putfield 48, 3) := by decide +kernel
theorem dX7_init_94 : decode cX7_init 94 = .ok (.aload_n 0, 1) := by decide +kernel
theorem dX7_init_95 : decode cX7_init 95 = .ok (.new 52, 3) := by decide +kernel
theorem dX7_init_98 : decode cX7_init 98 = .ok (.dup, 1) := by decide +kernel
theorem dX7_init_99 : decode cX7_init 99 = .ok (.aload_n 0, 1) := by decide +kernel
theorem dX7_init_100 : decode cX7_init 100 = .ok (.getfield 29, 3) := by decide +kernel
theorem dX7_init_103 : decode cX7_init 103 = .ok (.aload_n 0, 1) := by decide +kernel
theorem dX7_init_104 : decode cX7_init 104 = .ok (.getfield 48, 3) := by decide +kernel
theorem dX7_init_107 : decode cX7_init 107 = .ok (.invokespecial 54, 3) := by decide +kernel
theorem dX7_init_110 : decode cX7_init 110 = .ok (.putfield 57, 3) := by decide +kernel
theorem dX7_init_113 : decode cX7_init 113 = .ok (.aload_n 0, 1) := by decide +kernel
theorem dX7_init_114 : decode cX7_init 114 = .ok (.new 61, 3) := by decide +kernel
theorem dX7_init_117 : decode cX7_init 117 = .ok (.dup, 1) := by decide +kernel
theorem dX7_init_118 : decode cX7_init 118 = .ok (.aload_n 0, 1) := by decide +kernel
theorem dX7_init_119 : decode cX7_init 119 = .ok (.getfield 29, 3) := by decide +kernel
theorem dX7_init_122 : decode cX7_init 122 = .ok (.invokespecial 63, 3) := by decide +kernel
theorem dX7_init_125 : decode cX7_init 125 = .ok (.putfield 64, 3) := by decide +kernel
theorem dX7_init_128 : decode cX7_init 128 = .ok (.aload_n 0, 1) := by decide +kernel
theorem dX7_init_129 : decode cX7_init 129 = .ok (.new 68, 3) := by decide +kernel
theorem dX7_init_132 : decode cX7_init 132 = .ok (.dup, 1) := by decide +kernel
theorem dX7_init_133 : decode cX7_init 133 = .ok (.invokespecial 70, 3) := by decide +kernel
theorem dX7_init_136 : decode cX7_init 136 = .ok (.putfield 71, 3) := by decide +kernel
theorem dX7_init_139 : decode cX7_init 139 = .ok (.aload_n 0, 1) := by decide +kernel
theorem dX7_init_140 : decode cX7_init 140 = .ok (.iconst 3, 1) := by decide +kernel
theorem dX7_init_141 : decode cX7_init 141 = .ok (.anewarray 68, 3) := by decide +kernel
theorem dX7_init_144 : decode cX7_init 144 = .ok (.putfield 75, 3) := by decide +kernel
theorem dX7_init_147 : decode cX7_init 147 = .ok (.aload_n 0, 1) := by decide +kernel
theorem dX7_init_148 : decode cX7_init 148 = .ok (.bipush 6, 2) := by decide +kernel
theorem dX7_init_150 : decode cX7_init 150 = .ok (.newarray .int, 2) := by decide +kernel
theorem dX7_init_152 : decode cX7_init 152 = .ok (.putfield 79, 3) := by decide +kernel
theorem dX7_init_155 : decode cX7_init 155 = .ok (.aload_n 0, 1) := by decide +kernel
theorem dX7_init_156 : decode cX7_init 156 = .ok (.lconst 1, 1) := by decide +kernel
theorem dX7_init_157 : decode cX7_init 157 = .ok (.putfield 82, 3) := by decide +kernel
theorem dX7_init_160 : decode cX7_init 160 = .ok (.aload_n 0, 1) := by decide +kernel
theorem dX7_init_161 : decode cX7_init 161 = .ok (.getfield 14, 3) := by decide +kernel
theorem dX7_init_164 : decode cX7_init 164 = .ok (.iconst (-1), 1) := by decide +kernel
theorem dX7_init_165 : decode cX7_init 165 = .ok (.invokestatic 86, 3) := by decide +kernel
theorem dX7_init_168 : decode cX7_init 168 = .ok (.aload_n 0, 1) := by decide +kernel
theorem dX7_init_169 : decode cX7_init 169 = .ok (.getfield 23, 3) := by decide +kernel
theorem dX7_init_172 : decode cX7_init 172 = .ok (.iconst (-1), 1) := by decide +kernel
theorem dX7_init_173 : decode cX7_init 173 = .ok (.invokestatic 86, 3) := by decide +kernel
theorem dX7_init_176 : decode cX7_init 176 = .ok (.iconst 0, 1) := by decide +kernel
theorem dX7_init_177 : decode cX7_init 177 = .ok (.istore_n 1, 1) := by decide +kernel
theorem dX7_init_178 : decode cX7_init 178 = .ok (.iload_n 1, 1) := by decide +kernel
theorem dX7_init_179 : decode cX7_init 179 = .ok (.iconst 3, 1) := by decide +kernel
theorem dX7_init_180 : decode cX7_init 180 = .ok (.if_icmp .ge 32, 3) := by decide +kernel
theorem dX7_init_183 : decode cX7_init 183 = .ok (.aload_n 0, 1) := by decide +kernel
theorem dX7_init_184 : decode cX7_init 184 = .ok (.getfield 75, 3) := by decide +kernel
theorem dX7_init_187 : decode cX7_init 187 = .ok (.iload_n 1, 1) := by decide +kernel
theorem dX7_init_188 : decode cX7_init 188 = .ok (.new 68, 3) := by decide +kernel
theorem dX7_init_191 : decode cX7_init 191 = .ok (.dup, 1) := by decide +kernel
theorem dX7_init_192 : decode cX7_init 192 = .ok (.invokespecial 70, 3) := by decide +kernel
theorem dX7_init_195 : decode cX7_init 195 = .ok (.aastore, 1) := by decide +kernel
theorem dX7_init_196 : decode cX7_init 196 = .ok (.aload_n 0, 1) := by decide +kernel
theorem dX7_init_197 : decode cX7_init 197 = .ok (.getfield 75, 3) := by decide +kernel
theorem dX7_init_200 : decode cX7_init 200 = .ok (.iload_n 1, 1) := by decide +kernel
theorem dX7_init_201 : decode cX7_init 201 = .ok (.aaload, 1) := by decide +kernel
theorem dX7_init_202 : decode cX7_init 202 = .ok (.iconst (-1), 1) := by decide +kernel
theorem dX7_init_203 : decode cX7_init 203 = .ok (.putfield 92, 3) := by decide +kernel
theorem dX7_init_206 : decode cX7_init 206 = .ok (.iinc 1 1, 3) := by decide +kernel
theorem dX7_init_209 : decode cX7_init 209 = .ok (.goto (-31), 3) := by decide +kernel
theorem dX7_init_212 : decode cX7_init 212 = .ok (.return_, 1) := by decide +kernel
theorem dX7_row_0 : decode cX7_row 0 = .ok (.iload_n 1, 1) := by decide +kernel
theorem dX7_row_1 : decode cX7_row 1 = .ok (.invokestatic 96, 3) := by decide +kernel
theorem dX7_row_4 : decode cX7_row 4 = .ok (.ifCond .ne 9, 3) := by decide +kernel
theorem dX7_row_7 : decode cX7_row 7 = .ok (.iload_n 2, 1) := by decide +kernel
theorem dX7_row_8 : decode cX7_row 8 = .ok (.bipush 40, 2) := by decide +kernel
theorem dX7_row_10 : decode cX7_row 10 = .ok (.if_icmp .le 5, 3) := by decide +kernel
theorem dX7_row_13 : decode cX7_row 13 = .ok (.iconst (-1), 1) := by decide +kernel
theorem dX7_row_14 : decode cX7_row 14 = .ok (.ireturn, 1) := by decide +kernel
theorem dX7_row_15 : decode cX7_row 15 = .ok (.iload_n 2, 1) := by decide +kernel
theorem dX7_row_16 : decode cX7_row 16 = .ok (.ifCond .ge 9, 3) := by decide +kernel
theorem dX7_row_19 : decode cX7_row 19 = .ok (.aload_n 0, 1) := by decide +kernel
theorem dX7_row_20 : decode cX7_row 20 = .ok (.iconst 5, 1) := by decide +kernel
theorem dX7_row_21 : decode cX7_row 21 = .ok (.invokevirtual 100, 3) := by decide +kernel
theorem dX7_row_24 : decode cX7_row 24 = .ok (.ireturn, 1) := by decide +kernel
theorem dX7_row_25 : decode cX7_row 25 = .ok (.aload_n 0, 1) := by decide +kernel
theorem dX7_row_26 : decode cX7_row 26 = .ok (.iload_n 1, 1) := by decide +kernel
theorem dX7_row_27 : decode cX7_row 27 = .ok (.iload_n 2, 1) := by decide +kernel
theorem dX7_row_28 : decode cX7_row 28 = .ok (.invokevirtual 104, 3) := by decide +kernel
theorem dX7_row_31 : decode cX7_row 31 = .ok (.iload_n 2, 1) := by decide +kernel
theorem dX7_row_32 : decode cX7_row 32 = .ok (.ireturn, 1) := by decide +kernel
theorem dX7_lay_0 : decode cX7_lay 0 = .ok (.aload_n 0, 1) := by decide +kernel
theorem dX7_lay_1 : decode cX7_lay 1 = .ok (.iload_n 1, 1) := by decide +kernel
theorem dX7_lay_2 : decode cX7_lay 2 = .ok (.iload_n 2, 1) := by decide +kernel
theorem dX7_lay_3 : decode cX7_lay 3 = .ok (.invokevirtual 108, 3) := by decide +kernel
theorem dX7_lay_6 : decode cX7_lay 6 = .ok (.istore 4, 2) := by decide +kernel
theorem dX7_lay_8 : decode cX7_lay 8 = .ok (.iload 4, 2) := by decide +kernel
theorem dX7_lay_10 : decode cX7_lay 10 = .ok (.ifCond .eq 6, 3) := by decide +kernel
theorem dX7_lay_13 : decode cX7_lay 13 = .ok (.iload 4, 2) := by decide +kernel
theorem dX7_lay_15 : decode cX7_lay 15 = .ok (.ireturn, 1) := by decide +kernel
theorem dX7_lay_16 : decode cX7_lay 16 = .ok (.aload_n 0, 1) := by decide +kernel
theorem dX7_lay_17 : decode cX7_lay 17 = .ok (.getfield 11, 3) := by decide +kernel
theorem dX7_lay_20 : decode cX7_lay 20 = .ok (.iload_n 1, 1) := by decide +kernel
theorem dX7_lay_21 : decode cX7_lay 21 = .ok (.aaload, 1) := by decide +kernel
theorem dX7_lay_22 : decode cX7_lay 22 = .ok (.iload_n 2, 1) := by decide +kernel
theorem dX7_lay_23 : decode cX7_lay 23 = .ok (.iaload, 1) := by decide +kernel
theorem dX7_lay_24 : decode cX7_lay 24 = .ok (.istore 5, 2) := by decide +kernel
theorem dX7_lay_26 : decode cX7_lay 26 = .ok (.aload_n 0, 1) := by decide +kernel
theorem dX7_lay_27 : decode cX7_lay 27 = .ok (.getfield 11, 3) := by decide +kernel
theorem dX7_lay_30 : decode cX7_lay 30 = .ok (.iload_n 1, 1) := by decide +kernel
theorem dX7_lay_31 : decode cX7_lay 31 = .ok (.aaload, 1) := by decide +kernel
theorem dX7_lay_32 : decode cX7_lay 32 = .ok (.iload_n 2, 1) := by decide +kernel
theorem dX7_lay_33 : decode cX7_lay 33 = .ok (.iload_n 3, 1) := by decide +kernel
theorem dX7_lay_34 : decode cX7_lay 34 = .ok (.iastore, 1) := by decide +kernel
theorem dX7_lay_35 : decode cX7_lay 35 = .ok (.aload_n 0, 1) := by decide +kernel
theorem dX7_lay_36 : decode cX7_lay 36 = .ok (.iload 5, 2) := by decide +kernel
theorem dX7_lay_38 : decode cX7_lay 38 = .ok (.invokevirtual 112, 3) := by decide +kernel
theorem dX7_lay_41 : decode cX7_lay 41 = .ok (.ireturn, 1) := by decide +kernel
theorem dX7_at_0 : decode cX7_at 0 = .ok (.aload_n 0, 1) := by decide +kernel
theorem dX7_at_1 : decode cX7_at 1 = .ok (.iload_n 1, 1) := by decide +kernel
theorem dX7_at_2 : decode cX7_at 2 = .ok (.iload_n 2, 1) := by decide +kernel
theorem dX7_at_3 : decode cX7_at 3 = .ok (.invokevirtual 108, 3) := by decide +kernel
theorem dX7_at_6 : decode cX7_at 6 = .ok (.istore_n 3, 1) := by decide +kernel
theorem dX7_at_7 : decode cX7_at 7 = .ok (.iload_n 3, 1) := by decide +kernel
theorem dX7_at_8 : decode cX7_at 8 = .ok (.ifCond .eq 7, 3) := by decide +kernel
theorem dX7_at_11 : decode cX7_at 11 = .ok (.iload_n 3, 1) := by decide +kernel
theorem dX7_at_12 : decode cX7_at 12 = .ok (.goto 15, 3) := by decide +kernel
theorem dX7_at_15 : decode cX7_at 15 = .ok (.aload_n 0, 1) := by decide +kernel
theorem dX7_at_16 : decode cX7_at 16 = .ok (.aload_n 0, 1) := by decide +kernel
theorem dX7_at_17 : decode cX7_at 17 = .ok (.getfield 11, 3) := by decide +kernel
theorem dX7_at_20 : decode cX7_at 20 = .ok (.iload_n 1, 1) := by decide +kernel
theorem dX7_at_21 : decode cX7_at 21 = .ok (.aaload, 1) := by decide +kernel
theorem dX7_at_22 : decode cX7_at 22 = .ok (.iload_n 2, 1) := by decide +kernel
theorem dX7_at_23 : decode cX7_at 23 = .ok (.iaload, 1) := by decide +kernel
theorem dX7_at_24 : decode cX7_at 24 = .ok (.invokevirtual 112, 3) := by decide +kernel
theorem dX7_at_27 : decode cX7_at 27 = .ok (.ireturn, 1) := by decide +kernel
theorem dX7_tear_0 : decode cX7_tear 0 = .ok (.aload_n 0, 1) := by decide +kernel
theorem dX7_tear_1 : decode cX7_tear 1 = .ok (.iload_n 1, 1) := by decide +kernel
theorem dX7_tear_2 : decode cX7_tear 2 = .ok (.invokevirtual 115, 3) := by decide +kernel
theorem dX7_tear_5 : decode cX7_tear 5 = .ok (.istore_n 2, 1) := by decide +kernel
theorem dX7_tear_6 : decode cX7_tear 6 = .ok (.iload_n 2, 1) := by decide +kernel
theorem dX7_tear_7 : decode cX7_tear 7 = .ok (.ifCond .eq 5, 3) := by decide +kernel
theorem dX7_tear_10 : decode cX7_tear 10 = .ok (.iload_n 2, 1) := by decide +kernel
theorem dX7_tear_11 : decode cX7_tear 11 = .ok (.ireturn, 1) := by decide +kernel
theorem dX7_tear_12 : decode cX7_tear 12 = .ok (.aload_n 0, 1) := by decide +kernel
theorem dX7_tear_13 : decode cX7_tear 13 = .ok (.getfield 14, 3) := by decide +kernel
theorem dX7_tear_16 : decode cX7_tear 16 = .ok (.iload_n 1, 1) := by decide +kernel
theorem dX7_tear_17 : decode cX7_tear 17 = .ok (.iconst (-1), 1) := by decide +kernel
theorem dX7_tear_18 : decode cX7_tear 18 = .ok (.iastore, 1) := by decide +kernel
theorem dX7_tear_19 : decode cX7_tear 19 = .ok (.iconst 1, 1) := by decide +kernel
theorem dX7_tear_20 : decode cX7_tear 20 = .ok (.ireturn, 1) := by decide +kernel
theorem dX7_copy_0 : decode cX7_copy 0 = .ok (.iload_n 1, 1) := by decide +kernel
theorem dX7_copy_1 : decode cX7_copy 1 = .ok (.invokestatic 96, 3) := by decide +kernel
theorem dX7_copy_4 : decode cX7_copy 4 = .ok (.ifCond .ne 10, 3) := by decide +kernel
theorem dX7_copy_7 : decode cX7_copy 7 = .ok (.iload_n 3, 1) := by decide +kernel
theorem dX7_copy_8 : decode cX7_copy 8 = .ok (.invokestatic 96, 3) := by decide +kernel
theorem dX7_copy_11 : decode cX7_copy 11 = .ok (.ifCond .eq 5, 3) := by decide +kernel
theorem dX7_copy_14 : decode cX7_copy 14 = .ok (.iconst (-1), 1) := by decide +kernel
theorem dX7_copy_15 : decode cX7_copy 15 = .ok (.ireturn, 1) := by decide +kernel
theorem dX7_copy_16 : decode cX7_copy 16 = .ok (.iload 5, 2) := by decide +kernel
theorem dX7_copy_18 : decode cX7_copy 18 = .ok (.ifCond .ge 9, 3) := by decide +kernel
theorem dX7_copy_21 : decode cX7_copy 21 = .ok (.aload_n 0, 1) := by decide +kernel
theorem dX7_copy_22 : decode cX7_copy 22 = .ok (.iconst 5, 1) := by decide +kernel
theorem dX7_copy_23 : decode cX7_copy 23 = .ok (.invokevirtual 100, 3) := by decide +kernel
theorem dX7_copy_26 : decode cX7_copy 26 = .ok (.ireturn, 1) := by decide +kernel
theorem dX7_copy_27 : decode cX7_copy 27 = .ok (.aload_n 0, 1) := by decide +kernel
theorem dX7_copy_28 : decode cX7_copy 28 = .ok (.getfield 14, 3) := by decide +kernel
theorem dX7_copy_31 : decode cX7_copy 31 = .ok (.iload_n 1, 1) := by decide +kernel
theorem dX7_copy_32 : decode cX7_copy 32 = .ok (.iaload, 1) := by decide +kernel
theorem dX7_copy_33 : decode cX7_copy 33 = .ok (.ifCond .lt 12, 3) := by decide +kernel
theorem dX7_copy_36 : decode cX7_copy 36 = .ok (.aload_n 0, 1) := by decide +kernel
theorem dX7_copy_37 : decode cX7_copy 37 = .ok (.getfield 14, 3) := by decide +kernel
theorem dX7_copy_40 : decode cX7_copy 40 = .ok (.iload_n 3, 1) := by decide +kernel
theorem dX7_copy_41 : decode cX7_copy 41 = .ok (.iaload, 1) := by decide +kernel
theorem dX7_copy_42 : decode cX7_copy 42 = .ok (.ifCond .ge 9, 3) := by decide +kernel
theorem dX7_copy_45 : decode cX7_copy 45 = .ok (.aload_n 0, 1) := by decide +kernel
theorem dX7_copy_46 : decode cX7_copy 46 = .ok (.iconst 1, 1) := by decide +kernel
theorem dX7_copy_47 : decode cX7_copy 47 = .ok (.invokevirtual 100, 3) := by decide +kernel
theorem dX7_copy_50 : decode cX7_copy 50 = .ok (.ireturn, 1) := by decide +kernel
theorem dX7_copy_51 : decode cX7_copy 51 = .ok (.aload_n 0, 1) := by decide +kernel
theorem dX7_copy_52 : decode cX7_copy 52 = .ok (.getfield 14, 3) := by decide +kernel
theorem dX7_copy_55 : decode cX7_copy 55 = .ok (.iload_n 1, 1) := by decide +kernel
theorem dX7_copy_56 : decode cX7_copy 56 = .ok (.iaload, 1) := by decide +kernel
theorem dX7_copy_57 : decode cX7_copy 57 = .ok (.iload_n 2, 1) := by decide +kernel
theorem dX7_copy_58 : decode cX7_copy 58 = .ok (.iload 5, 2) := by decide +kernel
theorem dX7_copy_60 : decode cX7_copy 60 = .ok (.invokestatic 118, 3) := by decide +kernel
theorem dX7_copy_63 : decode cX7_copy 63 = .ok (.ifCond .ne 19, 3) := by decide +kernel
theorem dX7_copy_66 : decode cX7_copy 66 = .ok (.aload_n 0, 1) := by decide +kernel
theorem dX7_copy_67 : decode cX7_copy 67 = .ok (.getfield 14, 3) := by decide +kernel
theorem dX7_copy_70 : decode cX7_copy 70 = .ok (.iload_n 3, 1) := by decide +kernel
theorem dX7_copy_71 : decode cX7_copy 71 = .ok (.iaload, 1) := by decide +kernel
theorem dX7_copy_72 : decode cX7_copy 72 = .ok (.iload 4, 2) := by decide +kernel
theorem dX7_copy_74 : decode cX7_copy 74 = .ok (.iload 5, 2) := by decide +kernel
theorem dX7_copy_76 : decode cX7_copy 76 = .ok (.invokestatic 118, 3) := by decide +kernel
theorem dX7_copy_79 : decode cX7_copy 79 = .ok (.ifCond .eq 9, 3) := by decide +kernel
theorem dX7_copy_82 : decode cX7_copy 82 = .ok (.aload_n 0, 1) := by decide +kernel
theorem dX7_copy_83 : decode cX7_copy 83 = .ok (.iconst 2, 1) := by decide +kernel
theorem dX7_copy_84 : decode cX7_copy 84 = .ok (.invokevirtual 100, 3) := by decide +kernel
theorem dX7_copy_87 : decode cX7_copy 87 = .ok (.ireturn, 1) := by decide +kernel
theorem dX7_copy_88 : decode cX7_copy 88 = .ok (.aload_n 0, 1) := by decide +kernel
theorem dX7_copy_89 : decode cX7_copy 89 = .ok (.getfield 11, 3) := by decide +kernel
theorem dX7_copy_92 : decode cX7_copy 92 = .ok (.iload_n 1, 1) := by decide +kernel
theorem dX7_copy_93 : decode cX7_copy 93 = .ok (.aaload, 1) := by decide +kernel
theorem dX7_copy_94 : decode cX7_copy 94 = .ok (.iload_n 2, 1) := by decide +kernel
theorem dX7_copy_95 : decode cX7_copy 95 = .ok (.aload_n 0, 1) := by decide +kernel
theorem dX7_copy_96 : decode cX7_copy 96 = .ok (.getfield 11, 3) := by decide +kernel
theorem dX7_copy_99 : decode cX7_copy 99 = .ok (.iload_n 3, 1) := by decide +kernel
theorem dX7_copy_100 : decode cX7_copy 100 = .ok (.aaload, 1) := by decide +kernel
theorem dX7_copy_101 : decode cX7_copy 101 = .ok (.iload 4, 2) := by decide +kernel
theorem dX7_copy_103 : decode cX7_copy 103 = .ok (.iload 5, 2) := by decide +kernel
theorem dX7_copy_105 : decode cX7_copy 105 = .ok (.invokestatic 122, 3) := by decide +kernel
theorem dX7_copy_108 : decode cX7_copy 108 = .ok (.iconst 1, 1) := by decide +kernel
theorem dX7_copy_109 : decode cX7_copy 109 = .ok (.ireturn, 1) := by decide +kernel
theorem dX7_mean_0 : decode cX7_mean 0 = .ok (.aload_n 0, 1) := by decide +kernel
theorem dX7_mean_1 : decode cX7_mean 1 = .ok (.iload_n 1, 1) := by decide +kernel
theorem dX7_mean_2 : decode cX7_mean 2 = .ok (.invokevirtual 115, 3) := by decide +kernel
theorem dX7_mean_5 : decode cX7_mean 5 = .ok (.istore_n 2, 1) := by decide +kernel
theorem dX7_mean_6 : decode cX7_mean 6 = .ok (.iload_n 2, 1) := by decide +kernel
theorem dX7_mean_7 : decode cX7_mean 7 = .ok (.ifCond .eq 5, 3) := by decide +kernel
theorem dX7_mean_10 : decode cX7_mean 10 = .ok (.iload_n 2, 1) := by decide +kernel
theorem dX7_mean_11 : decode cX7_mean 11 = .ok (.ireturn, 1) := by decide +kernel
theorem dX7_mean_12 : decode cX7_mean 12 = .ok (.aload_n 0, 1) := by decide +kernel
theorem dX7_mean_13 : decode cX7_mean 13 = .ok (.getfield 14, 3) := by decide +kernel
theorem dX7_mean_16 : decode cX7_mean 16 = .ok (.iload_n 1, 1) := by decide +kernel
theorem dX7_mean_17 : decode cX7_mean 17 = .ok (.iaload, 1) := by decide +kernel
theorem dX7_mean_18 : decode cX7_mean 18 = .ok (.istore_n 3, 1) := by decide +kernel
theorem dX7_mean_19 : decode cX7_mean 19 = .ok (.iload_n 3, 1) := by decide +kernel
theorem dX7_mean_20 : decode cX7_mean 20 = .ok (.ifCond .ne 9, 3) := by decide +kernel
theorem dX7_mean_23 : decode cX7_mean 23 = .ok (.aload_n 0, 1) := by decide +kernel
theorem dX7_mean_24 : decode cX7_mean 24 = .ok (.iconst 4, 1) := by decide +kernel
theorem dX7_mean_25 : decode cX7_mean 25 = .ok (.invokevirtual 100, 3) := by decide +kernel
theorem dX7_mean_28 : decode cX7_mean 28 = .ok (.ireturn, 1) := by decide +kernel
theorem dX7_mean_29 : decode cX7_mean 29 = .ok (.lconst 0, 1) := by decide +kernel
theorem dX7_mean_30 : decode cX7_mean 30 = .ok (.lstore 4, 2) := by decide +kernel
theorem dX7_mean_32 : decode cX7_mean 32 = .ok (.iconst 0, 1) := by decide +kernel
theorem dX7_mean_33 : decode cX7_mean 33 = .ok (.istore 6, 2) := by decide +kernel
theorem dX7_mean_35 : decode cX7_mean 35 = .ok (.iload 6, 2) := by decide +kernel
theorem dX7_mean_37 : decode cX7_mean 37 = .ok (.iload_n 3, 1) := by decide +kernel
theorem dX7_mean_38 : decode cX7_mean 38 = .ok (.if_icmp .ge 24, 3) := by decide +kernel
theorem dX7_mean_41 : decode cX7_mean 41 = .ok (.lload 4, 2) := by decide +kernel
theorem dX7_mean_43 : decode cX7_mean 43 = .ok (.aload_n 0, 1) := by decide +kernel
theorem dX7_mean_44 : decode cX7_mean 44 = .ok (.getfield 11, 3) := by decide +kernel
theorem dX7_mean_47 : decode cX7_mean 47 = .ok (.iload_n 1, 1) := by decide +kernel
theorem dX7_mean_48 : decode cX7_mean 48 = .ok (.aaload, 1) := by decide +kernel
theorem dX7_mean_49 : decode cX7_mean 49 = .ok (.iload 6, 2) := by decide +kernel
theorem dX7_mean_51 : decode cX7_mean 51 = .ok (.iaload, 1) := by decide +kernel
theorem dX7_mean_52 : decode cX7_mean 52 = .ok (.i2l, 1) := by decide +kernel
theorem dX7_mean_53 : decode cX7_mean 53 = .ok (.ladd, 1) := by decide +kernel
theorem dX7_mean_54 : decode cX7_mean 54 = .ok (.lstore 4, 2) := by decide +kernel
theorem dX7_mean_56 : decode cX7_mean 56 = .ok (.iinc 6 1, 3) := by decide +kernel
theorem dX7_mean_59 : decode cX7_mean 59 = .ok (.goto (-24), 3) := by decide +kernel
theorem dX7_mean_62 : decode cX7_mean 62 = .ok (.aload_n 0, 1) := by decide +kernel
theorem dX7_mean_63 : decode cX7_mean 63 = .ok (.lload 4, 2) := by decide +kernel
theorem dX7_mean_65 : decode cX7_mean 65 = .ok (.iload_n 3, 1) := by decide +kernel
theorem dX7_mean_66 : decode cX7_mean 66 = .ok (.i2l, 1) := by decide +kernel
theorem dX7_mean_67 : decode cX7_mean 67 = .ok (.ldiv, 1) := by decide +kernel
theorem dX7_mean_68 : decode cX7_mean 68 = .ok (.l2i, 1) := by decide +kernel
theorem dX7_mean_69 : decode cX7_mean 69 = .ok (.invokevirtual 112, 3) := by decide +kernel
theorem dX7_mean_72 : decode cX7_mean 72 = .ok (.ireturn, 1) := by decide +kernel
theorem dX7_text_0 : decode cX7_text 0 = .ok (.iload_n 1, 1) := by decide +kernel
theorem dX7_text_1 : decode cX7_text 1 = .ok (.invokestatic 128, 3) := by decide +kernel
theorem dX7_text_4 : decode cX7_text 4 = .ok (.ifCond .ne 9, 3) := by decide +kernel
theorem dX7_text_7 : decode cX7_text 7 = .ok (.iload_n 2, 1) := by decide +kernel
theorem dX7_text_8 : decode cX7_text 8 = .ok (.bipush 80, 2) := by decide +kernel
theorem dX7_text_10 : decode cX7_text 10 = .ok (.if_icmp .le 5, 3) := by decide +kernel
theorem dX7_text_13 : decode cX7_text 13 = .ok (.iconst (-1), 1) := by decide +kernel
theorem dX7_text_14 : decode cX7_text 14 = .ok (.ireturn, 1) := by decide +kernel
theorem dX7_text_15 : decode cX7_text 15 = .ok (.iload_n 2, 1) := by decide +kernel
theorem dX7_text_16 : decode cX7_text 16 = .ok (.ifCond .ge 9, 3) := by decide +kernel
theorem dX7_text_19 : decode cX7_text 19 = .ok (.aload_n 0, 1) := by decide +kernel
theorem dX7_text_20 : decode cX7_text 20 = .ok (.iconst 5, 1) := by decide +kernel
theorem dX7_text_21 : decode cX7_text 21 = .ok (.invokevirtual 100, 3) := by decide +kernel
theorem dX7_text_24 : decode cX7_text 24 = .ok (.ireturn, 1) := by decide +kernel
theorem dX7_text_25 : decode cX7_text 25 = .ok (.aload_n 0, 1) := by decide +kernel
theorem dX7_text_26 : decode cX7_text 26 = .ok (.getfield 20, 3) := by decide +kernel
theorem dX7_text_29 : decode cX7_text 29 = .ok (.iload_n 1, 1) := by decide +kernel
theorem dX7_text_30 : decode cX7_text 30 = .ok (.aaload, 1) := by decide +kernel
theorem dX7_text_31 : decode cX7_text 31 = .ok (.bipush 32, 2) := by decide +kernel
theorem dX7_text_33 : decode cX7_text 33 = .ok (.invokestatic 131, 3) := by decide +kernel
theorem dX7_text_36 : decode cX7_text 36 = .ok (.aload_n 0, 1) := by decide +kernel
theorem dX7_text_37 : decode cX7_text 37 = .ok (.getfield 23, 3) := by decide +kernel
theorem dX7_text_40 : decode cX7_text 40 = .ok (.iload_n 1, 1) := by decide +kernel
theorem dX7_text_41 : decode cX7_text 41 = .ok (.iload_n 2, 1) := by decide +kernel
theorem dX7_text_42 : decode cX7_text 42 = .ok (.iastore, 1) := by decide +kernel
theorem dX7_text_43 : decode cX7_text 43 = .ok (.iload_n 2, 1) := by decide +kernel
theorem dX7_text_44 : decode cX7_text 44 = .ok (.ireturn, 1) := by decide +kernel
theorem dX7_put_0 : decode cX7_put 0 = .ok (.aload_n 0, 1) := by decide +kernel
theorem dX7_put_1 : decode cX7_put 1 = .ok (.iload_n 1, 1) := by decide +kernel
theorem dX7_put_2 : decode cX7_put 2 = .ok (.invokevirtual 134, 3) := by decide +kernel
theorem dX7_put_5 : decode cX7_put 5 = .ok (.istore 4, 2) := by decide +kernel
theorem dX7_put_7 : decode cX7_put 7 = .ok (.iload 4, 2) := by decide +kernel
theorem dX7_put_9 : decode cX7_put 9 = .ok (.ifCond .eq 6, 3) := by decide +kernel
theorem dX7_put_12 : decode cX7_put 12 = .ok (.iload 4, 2) := by decide +kernel
theorem dX7_put_14 : decode cX7_put 14 = .ok (.ireturn, 1) := by decide +kernel
theorem dX7_put_15 : decode cX7_put 15 = .ok (.iload_n 2, 1) := by decide +kernel
theorem dX7_put_16 : decode cX7_put 16 = .ok (.ifCond .lt 13, 3) := by decide +kernel
theorem dX7_put_19 : decode cX7_put 19 = .ok (.iload_n 2, 1) := by decide +kernel
theorem dX7_put_20 : decode cX7_put 20 = .ok (.aload_n 0, 1) := by decide +kernel
theorem dX7_put_21 : decode cX7_put 21 = .ok (.getfield 23, 3) := by decide +kernel
theorem dX7_put_24 : decode cX7_put 24 = .ok (.iload_n 1, 1) := by decide +kernel
theorem dX7_put_25 : decode cX7_put 25 = .ok (.iaload, 1) := by decide +kernel
theorem dX7_put_26 : decode cX7_put 26 = .ok (.if_icmp .lt 9, 3) := by decide +kernel
theorem dX7_put_29 : decode cX7_put 29 = .ok (.aload_n 0, 1) := by decide +kernel
theorem dX7_put_30 : decode cX7_put 30 = .ok (.iconst 2, 1) := by decide +kernel
theorem dX7_put_31 : decode cX7_put 31 = .ok (.invokevirtual 100, 3) := by decide +kernel
theorem dX7_put_34 : decode cX7_put 34 = .ok (.ireturn, 1) := by decide +kernel
theorem dX7_put_35 : decode cX7_put 35 = .ok (.aload_n 0, 1) := by decide +kernel
theorem dX7_put_36 : decode cX7_put 36 = .ok (.getfield 20, 3) := by decide +kernel
theorem dX7_put_39 : decode cX7_put 39 = .ok (.iload_n 1, 1) := by decide +kernel
theorem dX7_put_40 : decode cX7_put 40 = .ok (.aaload, 1) := by decide +kernel
theorem dX7_put_41 : decode cX7_put 41 = .ok (.iload_n 2, 1) := by decide +kernel
theorem dX7_put_42 : decode cX7_put 42 = .ok (.baload, 1) := by decide +kernel
theorem dX7_put_43 : decode cX7_put 43 = .ok (.istore 5, 2) := by decide +kernel
theorem dX7_put_45 : decode cX7_put 45 = .ok (.aload_n 0, 1) := by decide +kernel
theorem dX7_put_46 : decode cX7_put 46 = .ok (.getfield 20, 3) := by decide +kernel
theorem dX7_put_49 : decode cX7_put 49 = .ok (.iload_n 1, 1) := by decide +kernel
theorem dX7_put_50 : decode cX7_put 50 = .ok (.aaload, 1) := by decide +kernel
theorem dX7_put_51 : decode cX7_put 51 = .ok (.iload_n 2, 1) := by decide +kernel
theorem dX7_put_52 : decode cX7_put 52 = .ok (.iload_n 3, 1) := by decide +kernel
theorem dX7_put_53 : decode cX7_put 53 = .ok (.i2b, 1) := by decide +kernel
theorem dX7_put_54 : decode cX7_put 54 = .ok (.bastore, 1) := by decide +kernel
theorem dX7_put_55 : decode cX7_put 55 = .ok (.iload 5, 2) := by decide +kernel
theorem dX7_put_57 : decode cX7_put 57 = .ok (.sipush 1000, 3) := by decide +kernel
theorem dX7_put_60 : decode cX7_put 60 = .ok (.iadd, 1) := by decide +kernel
theorem dX7_put_61 : decode cX7_put 61 = .ok (.ireturn, 1) := by decide +kernel
theorem dX7_fault_0 : decode cX7_fault 0 = .ok (.aload_n 0, 1) := by decide +kernel
theorem dX7_fault_1 : decode cX7_fault 1 = .ok (.iload_n 1, 1) := by decide +kernel
theorem dX7_fault_2 : decode cX7_fault 2 = .ok (.invokevirtual 134, 3) := by decide +kernel
theorem dX7_fault_5 : decode cX7_fault 5 = .ok (.istore_n 2, 1) := by decide +kernel
theorem dX7_fault_6 : decode cX7_fault 6 = .ok (.iload_n 2, 1) := by decide +kernel
theorem dX7_fault_7 : decode cX7_fault 7 = .ok (.ifCond .eq 7, 3) := by decide +kernel
theorem dX7_fault_10 : decode cX7_fault 10 = .ok (.iload_n 2, 1) := by decide +kernel
theorem dX7_fault_11 : decode cX7_fault 11 = .ok (.goto 26, 3) := by decide +kernel
theorem dX7_fault_14 : decode cX7_fault 14 = .ok (.aload_n 0, 1) := by decide +kernel
theorem dX7_fault_15 : decode cX7_fault 15 = .ok (.getfield 41, 3) := by decide +kernel
theorem dX7_fault_18 : decode cX7_fault 18 = .ok (.aload_n 0, 1) := by decide +kernel
theorem dX7_fault_19 : decode cX7_fault 19 = .ok (.getfield 20, 3) := by decide +kernel
theorem dX7_fault_22 : decode cX7_fault 22 = .ok (.iload_n 1, 1) := by decide +kernel
theorem dX7_fault_23 : decode cX7_fault 23 = .ok (.aaload, 1) := by decide +kernel
theorem dX7_fault_24 : decode cX7_fault 24 = .ok (.aload_n 0, 1) := by decide +kernel
theorem dX7_fault_25 : decode cX7_fault 25 = .ok (.getfield 23, 3) := by decide +kernel
theorem dX7_fault_28 : decode cX7_fault 28 = .ok (.iload_n 1, 1) := by decide +kernel
theorem dX7_fault_29 : decode cX7_fault 29 = .ok (.iaload, 1) := by decide +kernel
theorem dX7_fault_30 : decode cX7_fault 30 = .ok (.aload_n 0, 1) := by decide +kernel
theorem dX7_fault_31 : decode cX7_fault 31 = .ok (.getfield 33, 3) := by decide +kernel
theorem dX7_fault_34 : decode cX7_fault 34 = .ok (.invokevirtual 137, 3) := by decide +kernel
theorem dX7_fault_37 : decode cX7_fault 37 = .ok (.ireturn, 1) := by decide +kernel
theorem dX7_speech_0 : decode cX7_speech 0 = .ok (.aload_n 0, 1) := by decide +kernel
theorem dX7_speech_1 : decode cX7_speech 1 = .ok (.iload_n 1, 1) := by decide +kernel
theorem dX7_speech_2 : decode cX7_speech 2 = .ok (.invokevirtual 134, 3) := by decide +kernel
theorem dX7_speech_5 : decode cX7_speech 5 = .ok (.istore_n 2, 1) := by decide +kernel
theorem dX7_speech_6 : decode cX7_speech 6 = .ok (.iload_n 2, 1) := by decide +kernel
theorem dX7_speech_7 : decode cX7_speech 7 = .ok (.ifCond .eq 5, 3) := by decide +kernel
theorem dX7_speech_10 : decode cX7_speech 10 = .ok (.iload_n 2, 1) := by decide +kernel
theorem dX7_speech_11 : decode cX7_speech 11 = .ok (.ireturn, 1) := by decide +kernel
theorem dX7_speech_12 : decode cX7_speech 12 = .ok (.aload_n 0, 1) := by decide +kernel
theorem dX7_speech_13 : decode cX7_speech 13 = .ok (.getfield 41, 3) := by decide +kernel
theorem dX7_speech_16 : decode cX7_speech 16 = .ok (.aload_n 0, 1) := by decide +kernel
theorem dX7_speech_17 : decode cX7_speech 17 = .ok (.getfield 20, 3) := by decide +kernel
theorem dX7_speech_20 : decode cX7_speech 20 = .ok (.iload_n 1, 1) := by decide +kernel
theorem dX7_speech_21 : decode cX7_speech 21 = .ok (.aaload, 1) := by decide +kernel
theorem dX7_speech_22 : decode cX7_speech 22 = .ok (.aload_n 0, 1) := by decide +kernel
theorem dX7_speech_23 : decode cX7_speech 23 = .ok (.getfield 23, 3) := by decide +kernel
theorem dX7_speech_26 : decode cX7_speech 26 = .ok (.iload_n 1, 1) := by decide +kernel
theorem dX7_speech_27 : decode cX7_speech 27 = .ok (.iaload, 1) := by decide +kernel
theorem dX7_speech_28 : decode cX7_speech 28 = .ok (.aload_n 0, 1) := by decide +kernel
theorem dX7_speech_29 : decode cX7_speech 29 = .ok (.getfield 33, 3) := by decide +kernel
theorem dX7_speech_32 : decode cX7_speech 32 = .ok (.invokevirtual 137, 3) := by decide +kernel
theorem dX7_speech_35 : decode cX7_speech 35 = .ok (.bipush (-9), 2) := by decide +kernel
theorem dX7_speech_37 : decode cX7_speech 37 = .ok (.if_icmp .eq 6, 3) := by decide +kernel
theorem dX7_speech_40 : decode cX7_speech 40 = .ok (.bipush (-4), 2) := by decide +kernel
theorem dX7_speech_42 : decode cX7_speech 42 = .ok (.ireturn, 1) := by decide +kernel
theorem dX7_speech_43 : decode cX7_speech 43 = .ok (.aload_n 0, 1) := by decide +kernel
theorem dX7_speech_44 : decode cX7_speech 44 = .ok (.getfield 41, 3) := by decide +kernel
theorem dX7_speech_47 : decode cX7_speech 47 = .ok (.aload_n 0, 1) := by decide +kernel
theorem dX7_speech_48 : decode cX7_speech 48 = .ok (.getfield 20, 3) := by decide +kernel
theorem dX7_speech_51 : decode cX7_speech 51 = .ok (.iload_n 1, 1) := by decide +kernel
theorem dX7_speech_52 : decode cX7_speech 52 = .ok (.aaload, 1) := by decide +kernel
theorem dX7_speech_53 : decode cX7_speech 53 = .ok (.aload_n 0, 1) := by decide +kernel
theorem dX7_speech_54 : decode cX7_speech 54 = .ok (.getfield 23, 3) := by decide +kernel
theorem dX7_speech_57 : decode cX7_speech 57 = .ok (.iload_n 1, 1) := by decide +kernel
theorem dX7_speech_58 : decode cX7_speech 58 = .ok (.iaload, 1) := by decide +kernel
theorem dX7_speech_59 : decode cX7_speech 59 = .ok (.aload_n 0, 1) := by decide +kernel
theorem dX7_speech_60 : decode cX7_speech 60 = .ok (.getfield 29, 3) := by decide +kernel
theorem dX7_speech_63 : decode cX7_speech 63 = .ok (.invokevirtual 137, 3) := by decide +kernel
theorem dX7_speech_66 : decode cX7_speech 66 = .ok (.pop, 1) := by decide +kernel
theorem dX7_speech_67 : decode cX7_speech 67 = .ok (.aload_n 0, 1) := by decide +kernel
theorem dX7_speech_68 : decode cX7_speech 68 = .ok (.getfield 48, 3) := by decide +kernel
theorem dX7_speech_71 : decode cX7_speech 71 = .ok (.invokevirtual 141, 3) := by decide +kernel
theorem dX7_speech_74 : decode cX7_speech 74 = .ok (.aload_n 0, 1) := by decide +kernel
theorem dX7_speech_75 : decode cX7_speech 75 = .ok (.getfield 57, 3) := by decide +kernel
theorem dX7_speech_78 : decode cX7_speech 78 = .ok (.invokevirtual 144, 3) := by decide +kernel
theorem dX7_speech_81 : decode cX7_speech 81 = .ok (.aload_n 0, 1) := by decide +kernel
theorem dX7_speech_82 : decode cX7_speech 82 = .ok (.getfield 71, 3) := by decide +kernel
theorem dX7_speech_85 : decode cX7_speech 85 = .ok (.invokevirtual 147, 3) := by decide +kernel
theorem dX7_speech_88 : decode cX7_speech 88 = .ok (.iconst 0, 1) := by decide +kernel
theorem dX7_speech_89 : decode cX7_speech 89 = .ok (.istore_n 3, 1) := by decide +kernel
theorem dX7_speech_90 : decode cX7_speech 90 = .ok (.iload_n 3, 1) := by decide +kernel
theorem dX7_speech_91 : decode cX7_speech 91 = .ok (.iconst 3, 1) := by decide +kernel
theorem dX7_speech_92 : decode cX7_speech 92 = .ok (.if_icmp .ge 19, 3) := by decide +kernel
theorem dX7_speech_95 : decode cX7_speech 95 = .ok (.aload_n 0, 1) := by decide +kernel
theorem dX7_speech_96 : decode cX7_speech 96 = .ok (.getfield 75, 3) := by decide +kernel
theorem dX7_speech_99 : decode cX7_speech 99 = .ok (.iload_n 3, 1) := by decide +kernel
theorem dX7_speech_100 : decode cX7_speech 100 = .ok (.aaload, 1) := by decide +kernel
theorem dX7_speech_101 : decode cX7_speech 101 = .ok (.iconst (-1), 1) := by decide +kernel
theorem dX7_speech_102 : decode cX7_speech 102 = .ok (.putfield 92, 3) := by decide +kernel
theorem dX7_speech_105 : decode cX7_speech 105 = .ok (.iinc 3 1, 3) := by decide +kernel
theorem dX7_speech_108 : decode cX7_speech 108 = .ok (.goto (-18), 3) := by decide +kernel
theorem dX7_speech_111 : decode cX7_speech 111 = .ok (.aload_n 0, 1) := by decide +kernel
theorem dX7_speech_112 : decode cX7_speech 112 = .ok (.getfield 29, 3) := by decide +kernel
theorem dX7_speech_115 : decode cX7_speech 115 = .ok (.getfield 150, 3) := by decide +kernel
theorem dX7_speech_118 : decode cX7_speech 118 = .ok (.ireturn, 1) := by decide +kernel
theorem dX7_node_0 : decode cX7_node 0 = .ok (.aload_n 0, 1) := by decide +kernel
theorem dX7_node_1 : decode cX7_node 1 = .ok (.iload_n 1, 1) := by decide +kernel
theorem dX7_node_2 : decode cX7_node 2 = .ok (.invokevirtual 153, 3) := by decide +kernel
theorem dX7_node_5 : decode cX7_node 5 = .ok (.ifCond .ne 12, 3) := by decide +kernel
theorem dX7_node_8 : decode cX7_node 8 = .ok (.iload_n 2, 1) := by decide +kernel
theorem dX7_node_9 : decode cX7_node 9 = .ok (.ifCond .lt 8, 3) := by decide +kernel
theorem dX7_node_12 : decode cX7_node 12 = .ok (.iload_n 2, 1) := by decide +kernel
theorem dX7_node_13 : decode cX7_node 13 = .ok (.iconst 3, 1) := by decide +kernel
theorem dX7_node_14 : decode cX7_node 14 = .ok (.if_icmp .le 7, 3) := by decide +kernel
theorem dX7_node_17 : decode cX7_node 17 = .ok (.iconst (-1), 1) := by decide +kernel
theorem dX7_node_18 : decode cX7_node 18 = .ok (.goto 13, 3) := by decide +kernel
theorem dX7_node_21 : decode cX7_node 21 = .ok (.aload_n 0, 1) := by decide +kernel
theorem dX7_node_22 : decode cX7_node 22 = .ok (.aload_n 0, 1) := by decide +kernel
theorem dX7_node_23 : decode cX7_node 23 = .ok (.iload_n 1, 1) := by decide +kernel
theorem dX7_node_24 : decode cX7_node 24 = .ok (.iload_n 2, 1) := by decide +kernel
theorem dX7_node_25 : decode cX7_node 25 = .ok (.invokevirtual 156, 3) := by decide +kernel
theorem dX7_node_28 : decode cX7_node 28 = .ok (.invokevirtual 112, 3) := by decide +kernel
theorem dX7_node_31 : decode cX7_node 31 = .ok (.ireturn, 1) := by decide +kernel
theorem dX7_word_0 : decode cX7_word 0 = .ok (.aload_n 0, 1) := by decide +kernel
theorem dX7_word_1 : decode cX7_word 1 = .ok (.iload_n 1, 1) := by decide +kernel
theorem dX7_word_2 : decode cX7_word 2 = .ok (.invokevirtual 159, 3) := by decide +kernel
theorem dX7_word_5 : decode cX7_word 5 = .ok (.ifCond .ne 12, 3) := by decide +kernel
theorem dX7_word_8 : decode cX7_word 8 = .ok (.iload_n 2, 1) := by decide +kernel
theorem dX7_word_9 : decode cX7_word 9 = .ok (.ifCond .lt 8, 3) := by decide +kernel
theorem dX7_word_12 : decode cX7_word 12 = .ok (.iload_n 2, 1) := by decide +kernel
theorem dX7_word_13 : decode cX7_word 13 = .ok (.iconst 2, 1) := by decide +kernel
theorem dX7_word_14 : decode cX7_word 14 = .ok (.if_icmp .le 7, 3) := by decide +kernel
theorem dX7_word_17 : decode cX7_word 17 = .ok (.iconst (-1), 1) := by decide +kernel
theorem dX7_word_18 : decode cX7_word 18 = .ok (.goto 13, 3) := by decide +kernel
theorem dX7_word_21 : decode cX7_word 21 = .ok (.aload_n 0, 1) := by decide +kernel
theorem dX7_word_22 : decode cX7_word 22 = .ok (.aload_n 0, 1) := by decide +kernel
theorem dX7_word_23 : decode cX7_word 23 = .ok (.iload_n 1, 1) := by decide +kernel
theorem dX7_word_24 : decode cX7_word 24 = .ok (.iload_n 2, 1) := by decide +kernel
theorem dX7_word_25 : decode cX7_word 25 = .ok (.invokevirtual 162, 3) := by decide +kernel
theorem dX7_word_28 : decode cX7_word 28 = .ok (.invokevirtual 112, 3) := by decide +kernel
theorem dX7_word_31 : decode cX7_word 31 = .ok (.ireturn, 1) := by decide +kernel
theorem dX7_deed_0 : decode cX7_deed 0 = .ok (.aload_n 0, 1) := by decide +kernel
theorem dX7_deed_1 : decode cX7_deed 1 = .ok (.iload_n 1, 1) := by decide +kernel
theorem dX7_deed_2 : decode cX7_deed 2 = .ok (.invokevirtual 165, 3) := by decide +kernel
theorem dX7_deed_5 : decode cX7_deed 5 = .ok (.ifCond .ne 12, 3) := by decide +kernel
theorem dX7_deed_8 : decode cX7_deed 8 = .ok (.iload_n 2, 1) := by decide +kernel
theorem dX7_deed_9 : decode cX7_deed 9 = .ok (.ifCond .lt 8, 3) := by decide +kernel
theorem dX7_deed_12 : decode cX7_deed 12 = .ok (.iload_n 2, 1) := by decide +kernel
theorem dX7_deed_13 : decode cX7_deed 13 = .ok (.iconst 4, 1) := by decide +kernel
theorem dX7_deed_14 : decode cX7_deed 14 = .ok (.if_icmp .le 7, 3) := by decide +kernel
theorem dX7_deed_17 : decode cX7_deed 17 = .ok (.iconst (-1), 1) := by decide +kernel
theorem dX7_deed_18 : decode cX7_deed 18 = .ok (.goto 13, 3) := by decide +kernel
theorem dX7_deed_21 : decode cX7_deed 21 = .ok (.aload_n 0, 1) := by decide +kernel
theorem dX7_deed_22 : decode cX7_deed 22 = .ok (.aload_n 0, 1) := by decide +kernel
theorem dX7_deed_23 : decode cX7_deed 23 = .ok (.iload_n 1, 1) := by decide +kernel
theorem dX7_deed_24 : decode cX7_deed 24 = .ok (.iload_n 2, 1) := by decide +kernel
theorem dX7_deed_25 : decode cX7_deed 25 = .ok (.invokevirtual 168, 3) := by decide +kernel
theorem dX7_deed_28 : decode cX7_deed 28 = .ok (.invokevirtual 112, 3) := by decide +kernel
theorem dX7_deed_31 : decode cX7_deed 31 = .ok (.ireturn, 1) := by decide +kernel
theorem dX7_mark_0 : decode cX7_mark 0 = .ok (.aload_n 0, 1) := by decide +kernel
theorem dX7_mark_1 : decode cX7_mark 1 = .ok (.iload_n 1, 1) := by decide +kernel
theorem dX7_mark_2 : decode cX7_mark 2 = .ok (.invokevirtual 153, 3) := by decide +kernel
theorem dX7_mark_5 : decode cX7_mark 5 = .ok (.ifCond .ne 13, 3) := by decide +kernel
theorem dX7_mark_8 : decode cX7_mark 8 = .ok (.iload_n 2, 1) := by decide +kernel
theorem dX7_mark_9 : decode cX7_mark 9 = .ok (.iconst 1, 1) := by decide +kernel
theorem dX7_mark_10 : decode cX7_mark 10 = .ok (.if_icmp .lt 8, 3) := by decide +kernel
theorem dX7_mark_13 : decode cX7_mark 13 = .ok (.iload_n 2, 1) := by decide +kernel
theorem dX7_mark_14 : decode cX7_mark 14 = .ok (.iconst 5, 1) := by decide +kernel
theorem dX7_mark_15 : decode cX7_mark 15 = .ok (.if_icmp .le 5, 3) := by decide +kernel
theorem dX7_mark_18 : decode cX7_mark 18 = .ok (.iconst (-1), 1) := by decide +kernel
theorem dX7_mark_19 : decode cX7_mark 19 = .ok (.ireturn, 1) := by decide +kernel
theorem dX7_mark_20 : decode cX7_mark 20 = .ok (.aload_n 0, 1) := by decide +kernel
theorem dX7_mark_21 : decode cX7_mark 21 = .ok (.getfield 29, 3) := by decide +kernel
theorem dX7_mark_24 : decode cX7_mark 24 = .ok (.iload_n 1, 1) := by decide +kernel
theorem dX7_mark_25 : decode cX7_mark 25 = .ok (.iload_n 2, 1) := by decide +kernel
theorem dX7_mark_26 : decode cX7_mark 26 = .ok (.invokevirtual 171, 3) := by decide +kernel
theorem dX7_mark_29 : decode cX7_mark 29 = .ok (.ifCond .ne 9, 3) := by decide +kernel
theorem dX7_mark_32 : decode cX7_mark 32 = .ok (.aload_n 0, 1) := by decide +kernel
theorem dX7_mark_33 : decode cX7_mark 33 = .ok (.iconst 3, 1) := by decide +kernel
theorem dX7_mark_34 : decode cX7_mark 34 = .ok (.invokevirtual 100, 3) := by decide +kernel
theorem dX7_mark_37 : decode cX7_mark 37 = .ok (.ireturn, 1) := by decide +kernel
theorem dX7_mark_38 : decode cX7_mark 38 = .ok (.iload_n 2, 1) := by decide +kernel
theorem dX7_mark_39 : decode cX7_mark 39 = .ok (.tableswitch 74 1 4 #[29, 39, 48, 57], 29) := by decide +kernel
theorem dX7_mark_68 : decode cX7_mark 68 = .ok (.aload_n 0, 1) := by decide +kernel
theorem dX7_mark_69 : decode cX7_mark 69 = .ok (.getfield 29, 3) := by decide +kernel
theorem dX7_mark_72 : decode cX7_mark 72 = .ok (.getfield 175, 3) := by decide +kernel
theorem dX7_mark_75 : decode cX7_mark 75 = .ok (.iload_n 1, 1) := by decide +kernel
theorem dX7_mark_76 : decode cX7_mark 76 = .ok (.iaload, 1) := by decide +kernel
theorem dX7_mark_77 : decode cX7_mark 77 = .ok (.ireturn, 1) := by decide +kernel
theorem dX7_mark_78 : decode cX7_mark 78 = .ok (.aload_n 0, 1) := by decide +kernel
theorem dX7_mark_79 : decode cX7_mark 79 = .ok (.getfield 29, 3) := by decide +kernel
theorem dX7_mark_82 : decode cX7_mark 82 = .ok (.iload_n 1, 1) := by decide +kernel
theorem dX7_mark_83 : decode cX7_mark 83 = .ok (.invokevirtual 178, 3) := by decide +kernel
theorem dX7_mark_86 : decode cX7_mark 86 = .ok (.ireturn, 1) := by decide +kernel
theorem dX7_mark_87 : decode cX7_mark 87 = .ok (.aload_n 0, 1) := by decide +kernel
theorem dX7_mark_88 : decode cX7_mark 88 = .ok (.getfield 29, 3) := by decide +kernel
theorem dX7_mark_91 : decode cX7_mark 91 = .ok (.iload_n 1, 1) := by decide +kernel
theorem dX7_mark_92 : decode cX7_mark 92 = .ok (.invokevirtual 181, 3) := by decide +kernel
theorem dX7_mark_95 : decode cX7_mark 95 = .ok (.ireturn, 1) := by decide +kernel
theorem dX7_mark_96 : decode cX7_mark 96 = .ok (.aload_n 0, 1) := by decide +kernel
theorem dX7_mark_97 : decode cX7_mark 97 = .ok (.getfield 29, 3) := by decide +kernel
theorem dX7_mark_100 : decode cX7_mark 100 = .ok (.aload_n 0, 1) := by decide +kernel
theorem dX7_mark_101 : decode cX7_mark 101 = .ok (.getfield 29, 3) := by decide +kernel
theorem dX7_mark_104 : decode cX7_mark 104 = .ok (.getfield 175, 3) := by decide +kernel
theorem dX7_mark_107 : decode cX7_mark 107 = .ok (.iload_n 1, 1) := by decide +kernel
theorem dX7_mark_108 : decode cX7_mark 108 = .ok (.iaload, 1) := by decide +kernel
theorem dX7_mark_109 : decode cX7_mark 109 = .ok (.invokevirtual 184, 3) := by decide +kernel
theorem dX7_mark_112 : decode cX7_mark 112 = .ok (.ireturn, 1) := by decide +kernel
theorem dX7_mark_113 : decode cX7_mark 113 = .ok (.aload_n 0, 1) := by decide +kernel
theorem dX7_mark_114 : decode cX7_mark 114 = .ok (.invokevirtual 187, 3) := by decide +kernel
theorem dX7_mark_117 : decode cX7_mark 117 = .ok (.ireturn, 1) := by decide +kernel
theorem dX7_prize_0 : decode cX7_prize 0 = .ok (.aload_n 0, 1) := by decide +kernel
theorem dX7_prize_1 : decode cX7_prize 1 = .ok (.iload_n 1, 1) := by decide +kernel
theorem dX7_prize_2 : decode cX7_prize 2 = .ok (.invokevirtual 165, 3) := by decide +kernel
theorem dX7_prize_5 : decode cX7_prize 5 = .ok (.ifCond .ne 13, 3) := by decide +kernel
theorem dX7_prize_8 : decode cX7_prize 8 = .ok (.iload_n 2, 1) := by decide +kernel
theorem dX7_prize_9 : decode cX7_prize 9 = .ok (.ifCond .lt 9, 3) := by decide +kernel
theorem dX7_prize_12 : decode cX7_prize 12 = .ok (.iload_n 2, 1) := by decide +kernel
theorem dX7_prize_13 : decode cX7_prize 13 = .ok (.bipush 9, 2) := by decide +kernel
theorem dX7_prize_15 : decode cX7_prize 15 = .ok (.if_icmp .le 5, 3) := by decide +kernel
theorem dX7_prize_18 : decode cX7_prize 18 = .ok (.iconst (-1), 1) := by decide +kernel
theorem dX7_prize_19 : decode cX7_prize 19 = .ok (.ireturn, 1) := by decide +kernel
theorem dX7_prize_20 : decode cX7_prize 20 = .ok (.aload_n 0, 1) := by decide +kernel
theorem dX7_prize_21 : decode cX7_prize 21 = .ok (.getfield 29, 3) := by decide +kernel
theorem dX7_prize_24 : decode cX7_prize 24 = .ok (.getfield 191, 3) := by decide +kernel
theorem dX7_prize_27 : decode cX7_prize 27 = .ok (.iload_n 1, 1) := by decide +kernel
theorem dX7_prize_28 : decode cX7_prize 28 = .ok (.iaload, 1) := by decide +kernel
theorem dX7_prize_29 : decode cX7_prize 29 = .ok (.istore_n 3, 1) := by decide +kernel
theorem dX7_prize_30 : decode cX7_prize 30 = .ok (.aload_n 0, 1) := by decide +kernel
theorem dX7_prize_31 : decode cX7_prize 31 = .ok (.getfield 29, 3) := by decide +kernel
theorem dX7_prize_34 : decode cX7_prize 34 = .ok (.getfield 191, 3) := by decide +kernel
theorem dX7_prize_37 : decode cX7_prize 37 = .ok (.iload_n 1, 1) := by decide +kernel
theorem dX7_prize_38 : decode cX7_prize 38 = .ok (.iload_n 2, 1) := by decide +kernel
theorem dX7_prize_39 : decode cX7_prize 39 = .ok (.iastore, 1) := by decide +kernel
theorem dX7_prize_40 : decode cX7_prize 40 = .ok (.aload_n 0, 1) := by decide +kernel
theorem dX7_prize_41 : decode cX7_prize 41 = .ok (.getfield 57, 3) := by decide +kernel
theorem dX7_prize_44 : decode cX7_prize 44 = .ok (.invokevirtual 144, 3) := by decide +kernel
theorem dX7_prize_47 : decode cX7_prize 47 = .ok (.iload_n 3, 1) := by decide +kernel
theorem dX7_prize_48 : decode cX7_prize 48 = .ok (.ireturn, 1) := by decide +kernel
theorem dX7_say_0 : decode cX7_say 0 = .ok (.aload_n 0, 1) := by decide +kernel
theorem dX7_say_1 : decode cX7_say 1 = .ok (.iload_n 1, 1) := by decide +kernel
theorem dX7_say_2 : decode cX7_say 2 = .ok (.invokevirtual 159, 3) := by decide +kernel
theorem dX7_say_5 : decode cX7_say 5 = .ok (.ifCond .eq 5, 3) := by decide +kernel
theorem dX7_say_8 : decode cX7_say 8 = .ok (.iconst (-1), 1) := by decide +kernel
theorem dX7_say_9 : decode cX7_say 9 = .ok (.ireturn, 1) := by decide +kernel
theorem dX7_say_10 : decode cX7_say 10 = .ok (.aload_n 0, 1) := by decide +kernel
theorem dX7_say_11 : decode cX7_say 11 = .ok (.getfield 29, 3) := by decide +kernel
theorem dX7_say_14 : decode cX7_say 14 = .ok (.getfield 194, 3) := by decide +kernel
theorem dX7_say_17 : decode cX7_say 17 = .ok (.iload_n 1, 1) := by decide +kernel
theorem dX7_say_18 : decode cX7_say 18 = .ok (.iaload, 1) := by decide +kernel
theorem dX7_say_19 : decode cX7_say 19 = .ok (.aload_n 0, 1) := by decide +kernel
theorem dX7_say_20 : decode cX7_say 20 = .ok (.invokevirtual 197, 3) := by decide +kernel
theorem dX7_say_23 : decode cX7_say 23 = .ok (.if_icmp .eq 6, 3) := by decide +kernel
theorem dX7_say_26 : decode cX7_say 26 = .ok (.bipush (-4), 2) := by decide +kernel
theorem dX7_say_28 : decode cX7_say 28 = .ok (.ireturn, 1) := by decide +kernel
theorem dX7_say_29 : decode cX7_say 29 = .ok (.aload_n 0, 1) := by decide +kernel
theorem dX7_say_30 : decode cX7_say 30 = .ok (.getfield 71, 3) := by decide +kernel
theorem dX7_say_33 : decode cX7_say 33 = .ok (.iload_n 1, 1) := by decide +kernel
theorem dX7_say_34 : decode cX7_say 34 = .ok (.aload_n 0, 1) := by decide +kernel
theorem dX7_say_35 : decode cX7_say 35 = .ok (.getfield 29, 3) := by decide +kernel
theorem dX7_say_38 : decode cX7_say 38 = .ok (.invokevirtual 200, 3) := by decide +kernel
theorem dX7_say_41 : decode cX7_say 41 = .ok (.aload_n 0, 1) := by decide +kernel
theorem dX7_say_42 : decode cX7_say 42 = .ok (.getfield 29, 3) := by decide +kernel
theorem dX7_say_45 : decode cX7_say 45 = .ok (.getfield 204, 3) := by decide +kernel
theorem dX7_say_48 : decode cX7_say 48 = .ok (.iload_n 1, 1) := by decide +kernel
theorem dX7_say_49 : decode cX7_say 49 = .ok (.iaload, 1) := by decide +kernel
theorem dX7_say_50 : decode cX7_say 50 = .ok (.ireturn, 1) := by decide +kernel
theorem dX7_begin_0 : decode cX7_begin 0 = .ok (.aload_n 0, 1) := by decide +kernel
theorem dX7_begin_1 : decode cX7_begin 1 = .ok (.iload_n 1, 1) := by decide +kernel
theorem dX7_begin_2 : decode cX7_begin 2 = .ok (.invokevirtual 165, 3) := by decide +kernel
theorem dX7_begin_5 : decode cX7_begin 5 = .ok (.ifCond .eq 5, 3) := by decide +kernel
theorem dX7_begin_8 : decode cX7_begin 8 = .ok (.iconst (-1), 1) := by decide +kernel
theorem dX7_begin_9 : decode cX7_begin 9 = .ok (.ireturn, 1) := by decide +kernel
theorem dX7_begin_10 : decode cX7_begin 10 = .ok (.aload_n 0, 1) := by decide +kernel
theorem dX7_begin_11 : decode cX7_begin 11 = .ok (.getfield 71, 3) := by decide +kernel
theorem dX7_begin_14 : decode cX7_begin 14 = .ok (.getfield 207, 3) := by decide +kernel
theorem dX7_begin_17 : decode cX7_begin 17 = .ok (.invokestatic 210, 3) := by decide +kernel
theorem dX7_begin_20 : decode cX7_begin 20 = .ok (.ifCond .ge 31, 3) := by decide +kernel
theorem dX7_begin_23 : decode cX7_begin 23 = .ok (.aload_n 0, 1) := by decide +kernel
theorem dX7_begin_24 : decode cX7_begin 24 = .ok (.getfield 71, 3) := by decide +kernel
theorem dX7_begin_27 : decode cX7_begin 27 = .ok (.getfield 207, 3) := by decide +kernel
theorem dX7_begin_30 : decode cX7_begin 30 = .ok (.iload_n 1, 1) := by decide +kernel
theorem dX7_begin_31 : decode cX7_begin 31 = .ok (.invokestatic 215, 3) := by decide +kernel
theorem dX7_begin_34 : decode cX7_begin 34 = .ok (.ifCond .ne 17, 3) := by decide +kernel
theorem dX7_begin_37 : decode cX7_begin 37 = .ok (.aload_n 0, 1) := by decide +kernel
theorem dX7_begin_38 : decode cX7_begin 38 = .ok (.getfield 29, 3) := by decide +kernel
theorem dX7_begin_41 : decode cX7_begin 41 = .ok (.aload_n 0, 1) := by decide +kernel
theorem dX7_begin_42 : decode cX7_begin 42 = .ok (.invokevirtual 197, 3) := by decide +kernel
theorem dX7_begin_45 : decode cX7_begin 45 = .ok (.invokevirtual 218, 3) := by decide +kernel
theorem dX7_begin_48 : decode cX7_begin 48 = .ok (.ifCond .eq 6, 3) := by decide +kernel
theorem dX7_begin_51 : decode cX7_begin 51 = .ok (.bipush (-4), 2) := by decide +kernel
theorem dX7_begin_53 : decode cX7_begin 53 = .ok (.ireturn, 1) := by decide +kernel
theorem dX7_begin_54 : decode cX7_begin 54 = .ok (.aload_n 0, 1) := by decide +kernel
theorem dX7_begin_55 : decode cX7_begin 55 = .ok (.getfield 71, 3) := by decide +kernel
theorem dX7_begin_58 : decode cX7_begin 58 = .ok (.aload_n 0, 1) := by decide +kernel
theorem dX7_begin_59 : decode cX7_begin 59 = .ok (.getfield 71, 3) := by decide +kernel
theorem dX7_begin_62 : decode cX7_begin 62 = .ok (.getfield 207, 3) := by decide +kernel
theorem dX7_begin_65 : decode cX7_begin 65 = .ok (.iload_n 1, 1) := by decide +kernel
theorem dX7_begin_66 : decode cX7_begin 66 = .ok (.aload_n 0, 1) := by decide +kernel
theorem dX7_begin_67 : decode cX7_begin 67 = .ok (.getfield 29, 3) := by decide +kernel
theorem dX7_begin_70 : decode cX7_begin 70 = .ok (.getfield 221, 3) := by decide +kernel
theorem dX7_begin_73 : decode cX7_begin 73 = .ok (.iload_n 1, 1) := by decide +kernel
theorem dX7_begin_74 : decode cX7_begin 74 = .ok (.iaload, 1) := by decide +kernel
theorem dX7_begin_75 : decode cX7_begin 75 = .ok (.invokestatic 223, 3) := by decide +kernel
theorem dX7_begin_78 : decode cX7_begin 78 = .ok (.putfield 207, 3) := by decide +kernel
theorem dX7_begin_81 : decode cX7_begin 81 = .ok (.aload_n 0, 1) := by decide +kernel
theorem dX7_begin_82 : decode cX7_begin 82 = .ok (.getfield 29, 3) := by decide +kernel
theorem dX7_begin_85 : decode cX7_begin 85 = .ok (.getfield 221, 3) := by decide +kernel
theorem dX7_begin_88 : decode cX7_begin 88 = .ok (.iload_n 1, 1) := by decide +kernel
theorem dX7_begin_89 : decode cX7_begin 89 = .ok (.iaload, 1) := by decide +kernel
theorem dX7_begin_90 : decode cX7_begin 90 = .ok (.ireturn, 1) := by decide +kernel
theorem dX7_undo_0 : decode cX7_undo 0 = .ok (.iload_n 1, 1) := by decide +kernel
theorem dX7_undo_1 : decode cX7_undo 1 = .ok (.ifCond .lt 14, 3) := by decide +kernel
theorem dX7_undo_4 : decode cX7_undo 4 = .ok (.iload_n 1, 1) := by decide +kernel
theorem dX7_undo_5 : decode cX7_undo 5 = .ok (.aload_n 0, 1) := by decide +kernel
theorem dX7_undo_6 : decode cX7_undo 6 = .ok (.getfield 71, 3) := by decide +kernel
theorem dX7_undo_9 : decode cX7_undo 9 = .ok (.getfield 92, 3) := by decide +kernel
theorem dX7_undo_12 : decode cX7_undo 12 = .ok (.if_icmp .le 7, 3) := by decide +kernel
theorem dX7_undo_15 : decode cX7_undo 15 = .ok (.iconst (-1), 1) := by decide +kernel
theorem dX7_undo_16 : decode cX7_undo 16 = .ok (.goto 11, 3) := by decide +kernel
theorem dX7_undo_19 : decode cX7_undo 19 = .ok (.aload_n 0, 1) := by decide +kernel
theorem dX7_undo_20 : decode cX7_undo 20 = .ok (.getfield 71, 3) := by decide +kernel
theorem dX7_undo_23 : decode cX7_undo 23 = .ok (.iload_n 1, 1) := by decide +kernel
theorem dX7_undo_24 : decode cX7_undo 24 = .ok (.invokevirtual 227, 3) := by decide +kernel
theorem dX7_undo_27 : decode cX7_undo 27 = .ok (.ireturn, 1) := by decide +kernel
theorem dX7_here_0 : decode cX7_here 0 = .ok (.aload_n 0, 1) := by decide +kernel
theorem dX7_here_1 : decode cX7_here 1 = .ok (.invokevirtual 230, 3) := by decide +kernel
theorem dX7_here_4 : decode cX7_here 4 = .ok (.ifCond .eq 6, 3) := by decide +kernel
theorem dX7_here_7 : decode cX7_here 7 = .ok (.bipush (-4), 2) := by decide +kernel
theorem dX7_here_9 : decode cX7_here 9 = .ok (.ireturn, 1) := by decide +kernel
theorem dX7_here_10 : decode cX7_here 10 = .ok (.aload_n 0, 1) := by decide +kernel
theorem dX7_here_11 : decode cX7_here 11 = .ok (.aload_n 0, 1) := by decide +kernel
theorem dX7_here_12 : decode cX7_here 12 = .ok (.getfield 71, 3) := by decide +kernel
theorem dX7_here_15 : decode cX7_here 15 = .ok (.aload_n 0, 1) := by decide +kernel
theorem dX7_here_16 : decode cX7_here 16 = .ok (.getfield 29, 3) := by decide +kernel
theorem dX7_here_19 : decode cX7_here 19 = .ok (.invokevirtual 234, 3) := by decide +kernel
theorem dX7_here_22 : decode cX7_here 22 = .ok (.putfield 238, 3) := by decide +kernel
theorem dX7_here_25 : decode cX7_here 25 = .ok (.aload_n 0, 1) := by decide +kernel
theorem dX7_here_26 : decode cX7_here 26 = .ok (.invokevirtual 197, 3) := by decide +kernel
theorem dX7_here_29 : decode cX7_here 29 = .ok (.ireturn, 1) := by decide +kernel
theorem dX7_over_0 : decode cX7_over 0 = .ok (.aload_n 0, 1) := by decide +kernel
theorem dX7_over_1 : decode cX7_over 1 = .ok (.invokevirtual 230, 3) := by decide +kernel
theorem dX7_over_4 : decode cX7_over 4 = .ok (.ifCond .eq 6, 3) := by decide +kernel
theorem dX7_over_7 : decode cX7_over 7 = .ok (.bipush (-4), 2) := by decide +kernel
theorem dX7_over_9 : decode cX7_over 9 = .ok (.ireturn, 1) := by decide +kernel
theorem dX7_over_10 : decode cX7_over 10 = .ok (.aload_n 0, 1) := by decide +kernel
theorem dX7_over_11 : decode cX7_over 11 = .ok (.invokevirtual 197, 3) := by decide +kernel
theorem dX7_over_14 : decode cX7_over 14 = .ok (.istore_n 1, 1) := by decide +kernel
theorem dX7_over_15 : decode cX7_over 15 = .ok (.aload_n 0, 1) := by decide +kernel
theorem dX7_over_16 : decode cX7_over 16 = .ok (.getfield 29, 3) := by decide +kernel
theorem dX7_over_19 : decode cX7_over 19 = .ok (.iload_n 1, 1) := by decide +kernel
theorem dX7_over_20 : decode cX7_over 20 = .ok (.invokevirtual 218, 3) := by decide +kernel
theorem dX7_over_23 : decode cX7_over 23 = .ok (.istore_n 2, 1) := by decide +kernel
theorem dX7_over_24 : decode cX7_over 24 = .ok (.aload_n 0, 1) := by decide +kernel
theorem dX7_over_25 : decode cX7_over 25 = .ok (.iload_n 2, 1) := by decide +kernel
theorem dX7_over_26 : decode cX7_over 26 = .ok (.ifCond .eq 21, 3) := by decide +kernel
theorem dX7_over_29 : decode cX7_over 29 = .ok (.aload_n 0, 1) := by decide +kernel
theorem dX7_over_30 : decode cX7_over 30 = .ok (.getfield 29, 3) := by decide +kernel
theorem dX7_over_33 : decode cX7_over 33 = .ok (.iload_n 1, 1) := by decide +kernel
theorem dX7_over_34 : decode cX7_over 34 = .ok (.aload_n 0, 1) := by decide +kernel
theorem dX7_over_35 : decode cX7_over 35 = .ok (.getfield 71, 3) := by decide +kernel
theorem dX7_over_38 : decode cX7_over 38 = .ok (.getfield 207, 3) := by decide +kernel
theorem dX7_over_41 : decode cX7_over 41 = .ok (.invokevirtual 241, 3) := by decide +kernel
theorem dX7_over_44 : decode cX7_over 44 = .ok (.goto 4, 3) := by decide +kernel
theorem dX7_over_47 : decode cX7_over 47 = .ok (.iconst 0, 1) := by decide +kernel
theorem dX7_over_48 : decode cX7_over 48 = .ok (.putfield 238, 3) := by decide +kernel
theorem dX7_over_51 : decode cX7_over 51 = .ok (.iload_n 2, 1) := by decide +kernel
theorem dX7_over_52 : decode cX7_over 52 = .ok (.ifCond .eq 7, 3) := by decide +kernel
theorem dX7_over_55 : decode cX7_over 55 = .ok (.iconst 1, 1) := by decide +kernel
theorem dX7_over_56 : decode cX7_over 56 = .ok (.goto 4, 3) := by decide +kernel
theorem dX7_over_59 : decode cX7_over 59 = .ok (.iconst 0, 1) := by decide +kernel
theorem dX7_over_60 : decode cX7_over 60 = .ok (.ireturn, 1) := by decide +kernel
theorem dX7_told_0 : decode cX7_told 0 = .ok (.iload_n 1, 1) := by decide +kernel
theorem dX7_told_1 : decode cX7_told 1 = .ok (.invokestatic 96, 3) := by decide +kernel
theorem dX7_told_4 : decode cX7_told 4 = .ok (.ifCond .eq 5, 3) := by decide +kernel
theorem dX7_told_7 : decode cX7_told 7 = .ok (.iconst (-1), 1) := by decide +kernel
theorem dX7_told_8 : decode cX7_told 8 = .ok (.ireturn, 1) := by decide +kernel
theorem dX7_told_9 : decode cX7_told 9 = .ok (.aload_n 0, 1) := by decide +kernel
theorem dX7_told_10 : decode cX7_told 10 = .ok (.iload_n 1, 1) := by decide +kernel
theorem dX7_told_11 : decode cX7_told 11 = .ok (.aload_n 0, 1) := by decide +kernel
theorem dX7_told_12 : decode cX7_told 12 = .ok (.getfield 71, 3) := by decide +kernel
theorem dX7_told_15 : decode cX7_told 15 = .ok (.getfield 244, 3) := by decide +kernel
theorem dX7_told_18 : decode cX7_told 18 = .ok (.aload_n 0, 1) := by decide +kernel
theorem dX7_told_19 : decode cX7_told 19 = .ok (.getfield 71, 3) := by decide +kernel
theorem dX7_told_22 : decode cX7_told 22 = .ok (.getfield 92, 3) := by decide +kernel
theorem dX7_told_25 : decode cX7_told 25 = .ok (.invokevirtual 247, 3) := by decide +kernel
theorem dX7_told_28 : decode cX7_told 28 = .ok (.ireturn, 1) := by decide +kernel
theorem dX7_keep_0 : decode cX7_keep 0 = .ok (.iload_n 1, 1) := by decide +kernel
theorem dX7_keep_1 : decode cX7_keep 1 = .ok (.invokestatic 250, 3) := by decide +kernel
theorem dX7_keep_4 : decode cX7_keep 4 = .ok (.ifCond .eq 5, 3) := by decide +kernel
theorem dX7_keep_7 : decode cX7_keep 7 = .ok (.iconst (-1), 1) := by decide +kernel
theorem dX7_keep_8 : decode cX7_keep 8 = .ok (.ireturn, 1) := by decide +kernel
theorem dX7_keep_9 : decode cX7_keep 9 = .ok (.aload_n 0, 1) := by decide +kernel
theorem dX7_keep_10 : decode cX7_keep 10 = .ok (.invokevirtual 230, 3) := by decide +kernel
theorem dX7_keep_13 : decode cX7_keep 13 = .ok (.ifCond .eq 6, 3) := by decide +kernel
theorem dX7_keep_16 : decode cX7_keep 16 = .ok (.bipush (-4), 2) := by decide +kernel
theorem dX7_keep_18 : decode cX7_keep 18 = .ok (.ireturn, 1) := by decide +kernel
theorem dX7_keep_19 : decode cX7_keep 19 = .ok (.aload_n 0, 1) := by decide +kernel
theorem dX7_keep_20 : decode cX7_keep 20 = .ok (.getfield 75, 3) := by decide +kernel
theorem dX7_keep_23 : decode cX7_keep 23 = .ok (.iload_n 1, 1) := by decide +kernel
theorem dX7_keep_24 : decode cX7_keep 24 = .ok (.aaload, 1) := by decide +kernel
theorem dX7_keep_25 : decode cX7_keep 25 = .ok (.aload_n 0, 1) := by decide +kernel
theorem dX7_keep_26 : decode cX7_keep 26 = .ok (.getfield 71, 3) := by decide +kernel
theorem dX7_keep_29 : decode cX7_keep 29 = .ok (.invokevirtual 253, 3) := by decide +kernel
theorem dX7_keep_32 : decode cX7_keep 32 = .ok (.aload_n 0, 1) := by decide +kernel
theorem dX7_keep_33 : decode cX7_keep 33 = .ok (.getfield 71, 3) := by decide +kernel
theorem dX7_keep_36 : decode cX7_keep 36 = .ok (.getfield 92, 3) := by decide +kernel
theorem dX7_keep_39 : decode cX7_keep 39 = .ok (.ireturn, 1) := by decide +kernel
theorem dX7_on_0 : decode cX7_on 0 = .ok (.iload_n 1, 1) := by decide +kernel
theorem dX7_on_1 : decode cX7_on 1 = .ok (.invokestatic 250, 3) := by decide +kernel
theorem dX7_on_4 : decode cX7_on 4 = .ok (.ifCond .eq 5, 3) := by decide +kernel
theorem dX7_on_7 : decode cX7_on 7 = .ok (.iconst (-1), 1) := by decide +kernel
theorem dX7_on_8 : decode cX7_on 8 = .ok (.ireturn, 1) := by decide +kernel
theorem dX7_on_9 : decode cX7_on 9 = .ok (.aload_n 0, 1) := by decide +kernel
theorem dX7_on_10 : decode cX7_on 10 = .ok (.getfield 75, 3) := by decide +kernel
theorem dX7_on_13 : decode cX7_on 13 = .ok (.iload_n 1, 1) := by decide +kernel
theorem dX7_on_14 : decode cX7_on 14 = .ok (.aaload, 1) := by decide +kernel
theorem dX7_on_15 : decode cX7_on 15 = .ok (.getfield 92, 3) := by decide +kernel
theorem dX7_on_18 : decode cX7_on 18 = .ok (.ifCond .ge 9, 3) := by decide +kernel
theorem dX7_on_21 : decode cX7_on 21 = .ok (.aload_n 0, 1) := by decide +kernel
theorem dX7_on_22 : decode cX7_on 22 = .ok (.iconst 1, 1) := by decide +kernel
theorem dX7_on_23 : decode cX7_on 23 = .ok (.invokevirtual 100, 3) := by decide +kernel
theorem dX7_on_26 : decode cX7_on 26 = .ok (.ireturn, 1) := by decide +kernel
theorem dX7_on_27 : decode cX7_on 27 = .ok (.aload_n 0, 1) := by decide +kernel
theorem dX7_on_28 : decode cX7_on 28 = .ok (.getfield 71, 3) := by decide +kernel
theorem dX7_on_31 : decode cX7_on 31 = .ok (.aload_n 0, 1) := by decide +kernel
theorem dX7_on_32 : decode cX7_on 32 = .ok (.getfield 75, 3) := by decide +kernel
theorem dX7_on_35 : decode cX7_on 35 = .ok (.iload_n 1, 1) := by decide +kernel
theorem dX7_on_36 : decode cX7_on 36 = .ok (.aaload, 1) := by decide +kernel
theorem dX7_on_37 : decode cX7_on 37 = .ok (.invokevirtual 253, 3) := by decide +kernel
theorem dX7_on_40 : decode cX7_on 40 = .ok (.aload_n 0, 1) := by decide +kernel
theorem dX7_on_41 : decode cX7_on 41 = .ok (.getfield 71, 3) := by decide +kernel
theorem dX7_on_44 : decode cX7_on 44 = .ok (.getfield 92, 3) := by decide +kernel
theorem dX7_on_47 : decode cX7_on 47 = .ok (.ireturn, 1) := by decide +kernel
theorem dX7_odds_0 : decode cX7_odds 0 = .ok (.iload_n 1, 1) := by decide +kernel
theorem dX7_odds_1 : decode cX7_odds 1 = .ok (.ifCond .lt 9, 3) := by decide +kernel
theorem dX7_odds_4 : decode cX7_odds 4 = .ok (.iload_n 1, 1) := by decide +kernel
theorem dX7_odds_5 : decode cX7_odds 5 = .ok (.bipush 6, 2) := by decide +kernel
theorem dX7_odds_7 : decode cX7_odds 7 = .ok (.if_icmp .lt 5, 3) := by decide +kernel
theorem dX7_odds_10 : decode cX7_odds 10 = .ok (.iconst (-1), 1) := by decide +kernel
theorem dX7_odds_11 : decode cX7_odds 11 = .ok (.ireturn, 1) := by decide +kernel
theorem dX7_odds_12 : decode cX7_odds 12 = .ok (.aload_n 0, 1) := by decide +kernel
theorem dX7_odds_13 : decode cX7_odds 13 = .ok (.invokevirtual 230, 3) := by decide +kernel
theorem dX7_odds_16 : decode cX7_odds 16 = .ok (.ifCond .eq 6, 3) := by decide +kernel
theorem dX7_odds_19 : decode cX7_odds 19 = .ok (.bipush (-4), 2) := by decide +kernel
theorem dX7_odds_21 : decode cX7_odds 21 = .ok (.ireturn, 1) := by decide +kernel
theorem dX7_odds_22 : decode cX7_odds 22 = .ok (.aload_n 0, 1) := by decide +kernel
theorem dX7_odds_23 : decode cX7_odds 23 = .ok (.invokevirtual 197, 3) := by decide +kernel
theorem dX7_odds_26 : decode cX7_odds 26 = .ok (.istore_n 2, 1) := by decide +kernel
theorem dX7_odds_27 : decode cX7_odds 27 = .ok (.aload_n 0, 1) := by decide +kernel
theorem dX7_odds_28 : decode cX7_odds 28 = .ok (.aload_n 0, 1) := by decide +kernel
theorem dX7_odds_29 : decode cX7_odds 29 = .ok (.getfield 48, 3) := by decide +kernel
theorem dX7_odds_32 : decode cX7_odds 32 = .ok (.iload_n 1, 1) := by decide +kernel
theorem dX7_odds_33 : decode cX7_odds 33 = .ok (.iload_n 2, 1) := by decide +kernel
theorem dX7_odds_34 : decode cX7_odds 34 = .ok (.invokevirtual 257, 3) := by decide +kernel
theorem dX7_odds_37 : decode cX7_odds 37 = .ok (.i2l, 1) := by decide +kernel
theorem dX7_odds_38 : decode cX7_odds 38 = .ok (.aload_n 0, 1) := by decide +kernel
theorem dX7_odds_39 : decode cX7_odds 39 = .ok (.getfield 48, 3) := by decide +kernel
theorem dX7_odds_42 : decode cX7_odds 42 = .ok (.getfield 260, 3) := by decide +kernel
theorem dX7_odds_45 : decode cX7_odds 45 = .ok (.iload_n 2, 1) := by decide +kernel
theorem dX7_odds_46 : decode cX7_odds 46 = .ok (.iaload, 1) := by decide +kernel
theorem dX7_odds_47 : decode cX7_odds 47 = .ok (.i2l, 1) := by decide +kernel
theorem dX7_odds_48 : decode cX7_odds 48 = .ok (.invokevirtual 263, 3) := by decide +kernel
theorem dX7_odds_51 : decode cX7_odds 51 = .ok (.iconst 1, 1) := by decide +kernel
theorem dX7_odds_52 : decode cX7_odds 52 = .ok (.ireturn, 1) := by decide +kernel
theorem dX7_years_0 : decode cX7_years 0 = .ok (.aload_n 0, 1) := by decide +kernel
theorem dX7_years_1 : decode cX7_years 1 = .ok (.invokevirtual 230, 3) := by decide +kernel
theorem dX7_years_4 : decode cX7_years 4 = .ok (.ifCond .eq 6, 3) := by decide +kernel
theorem dX7_years_7 : decode cX7_years 7 = .ok (.bipush (-4), 2) := by decide +kernel
theorem dX7_years_9 : decode cX7_years 9 = .ok (.ireturn, 1) := by decide +kernel
theorem dX7_years_10 : decode cX7_years 10 = .ok (.aload_n 0, 1) := by decide +kernel
theorem dX7_years_11 : decode cX7_years 11 = .ok (.invokevirtual 197, 3) := by decide +kernel
theorem dX7_years_14 : decode cX7_years 14 = .ok (.istore_n 1, 1) := by decide +kernel
theorem dX7_years_15 : decode cX7_years 15 = .ok (.aload_n 0, 1) := by decide +kernel
theorem dX7_years_16 : decode cX7_years 16 = .ok (.getfield 48, 3) := by decide +kernel
theorem dX7_years_19 : decode cX7_years 19 = .ok (.getfield 267, 3) := by decide +kernel
theorem dX7_years_22 : decode cX7_years 22 = .ok (.iload_n 1, 1) := by decide +kernel
theorem dX7_years_23 : decode cX7_years 23 = .ok (.iaload, 1) := by decide +kernel
theorem dX7_years_24 : decode cX7_years 24 = .ok (.ifCond .ne 6, 3) := by decide +kernel
theorem dX7_years_27 : decode cX7_years 27 = .ok (.bipush (-9), 2) := by decide +kernel
theorem dX7_years_29 : decode cX7_years 29 = .ok (.ireturn, 1) := by decide +kernel
theorem dX7_years_30 : decode cX7_years 30 = .ok (.aload_n 0, 1) := by decide +kernel
theorem dX7_years_31 : decode cX7_years 31 = .ok (.aload_n 0, 1) := by decide +kernel
theorem dX7_years_32 : decode cX7_years 32 = .ok (.getfield 48, 3) := by decide +kernel
theorem dX7_years_35 : decode cX7_years 35 = .ok (.getfield 270, 3) := by decide +kernel
theorem dX7_years_38 : decode cX7_years 38 = .ok (.iload_n 1, 1) := by decide +kernel
theorem dX7_years_39 : decode cX7_years 39 = .ok (.iaload, 1) := by decide +kernel
theorem dX7_years_40 : decode cX7_years 40 = .ok (.putfield 238, 3) := by decide +kernel
theorem dX7_years_43 : decode cX7_years 43 = .ok (.aload_n 0, 1) := by decide +kernel
theorem dX7_years_44 : decode cX7_years 44 = .ok (.getfield 48, 3) := by decide +kernel
theorem dX7_years_47 : decode cX7_years 47 = .ok (.getfield 273, 3) := by decide +kernel
theorem dX7_years_50 : decode cX7_years 50 = .ok (.iload_n 1, 1) := by decide +kernel
theorem dX7_years_51 : decode cX7_years 51 = .ok (.iaload, 1) := by decide +kernel
theorem dX7_years_52 : decode cX7_years 52 = .ok (.ireturn, 1) := by decide +kernel
theorem dX7_just_0 : decode cX7_just 0 = .ok (.iload_n 1, 1) := by decide +kernel
theorem dX7_just_1 : decode cX7_just 1 = .ok (.ifCond .lt 9, 3) := by decide +kernel
theorem dX7_just_4 : decode cX7_just 4 = .ok (.iload_n 1, 1) := by decide +kernel
theorem dX7_just_5 : decode cX7_just 5 = .ok (.bipush 8, 2) := by decide +kernel
theorem dX7_just_7 : decode cX7_just 7 = .ok (.if_icmp .le 5, 3) := by decide +kernel
theorem dX7_just_10 : decode cX7_just 10 = .ok (.iconst (-1), 1) := by decide +kernel
theorem dX7_just_11 : decode cX7_just 11 = .ok (.ireturn, 1) := by decide +kernel
theorem dX7_just_12 : decode cX7_just 12 = .ok (.aload_n 0, 1) := by decide +kernel
theorem dX7_just_13 : decode cX7_just 13 = .ok (.invokevirtual 230, 3) := by decide +kernel
theorem dX7_just_16 : decode cX7_just 16 = .ok (.ifCond .eq 6, 3) := by decide +kernel
theorem dX7_just_19 : decode cX7_just 19 = .ok (.bipush (-4), 2) := by decide +kernel
theorem dX7_just_21 : decode cX7_just 21 = .ok (.ireturn, 1) := by decide +kernel
theorem dX7_just_22 : decode cX7_just 22 = .ok (.aload_n 0, 1) := by decide +kernel
theorem dX7_just_23 : decode cX7_just 23 = .ok (.invokevirtual 197, 3) := by decide +kernel
theorem dX7_just_26 : decode cX7_just 26 = .ok (.istore_n 2, 1) := by decide +kernel
theorem dX7_just_27 : decode cX7_just 27 = .ok (.aload_n 0, 1) := by decide +kernel
theorem dX7_just_28 : decode cX7_just 28 = .ok (.aload_n 0, 1) := by decide +kernel
theorem dX7_just_29 : decode cX7_just 29 = .ok (.getfield 48, 3) := by decide +kernel
theorem dX7_just_32 : decode cX7_just 32 = .ok (.iload_n 1, 1) := by decide +kernel
theorem dX7_just_33 : decode cX7_just 33 = .ok (.iload_n 2, 1) := by decide +kernel
theorem dX7_just_34 : decode cX7_just 34 = .ok (.invokevirtual 276, 3) := by decide +kernel
theorem dX7_just_37 : decode cX7_just 37 = .ok (.putfield 238, 3) := by decide +kernel
theorem dX7_just_40 : decode cX7_just 40 = .ok (.aload_n 0, 1) := by decide +kernel
theorem dX7_just_41 : decode cX7_just 41 = .ok (.getfield 48, 3) := by decide +kernel
theorem dX7_just_44 : decode cX7_just 44 = .ok (.getfield 279, 3) := by decide +kernel
theorem dX7_just_47 : decode cX7_just 47 = .ok (.iload_n 2, 1) := by decide +kernel
theorem dX7_just_48 : decode cX7_just 48 = .ok (.aaload, 1) := by decide +kernel
theorem dX7_just_49 : decode cX7_just 49 = .ok (.iload_n 1, 1) := by decide +kernel
theorem dX7_just_50 : decode cX7_just 50 = .ok (.iaload, 1) := by decide +kernel
theorem dX7_just_51 : decode cX7_just 51 = .ok (.ireturn, 1) := by decide +kernel
theorem dX7_known_0 : decode cX7_known 0 = .ok (.aload_n 0, 1) := by decide +kernel
theorem dX7_known_1 : decode cX7_known 1 = .ok (.invokevirtual 230, 3) := by decide +kernel
theorem dX7_known_4 : decode cX7_known 4 = .ok (.ifCond .eq 8, 3) := by decide +kernel
theorem dX7_known_7 : decode cX7_known 7 = .ok (.bipush (-4), 2) := by decide +kernel
theorem dX7_known_9 : decode cX7_known 9 = .ok (.goto 15, 3) := by decide +kernel
theorem dX7_known_12 : decode cX7_known 12 = .ok (.aload_n 0, 1) := by decide +kernel
theorem dX7_known_13 : decode cX7_known 13 = .ok (.getfield 48, 3) := by decide +kernel
theorem dX7_known_16 : decode cX7_known 16 = .ok (.getfield 282, 3) := by decide +kernel
theorem dX7_known_19 : decode cX7_known 19 = .ok (.aload_n 0, 1) := by decide +kernel
theorem dX7_known_20 : decode cX7_known 20 = .ok (.invokevirtual 197, 3) := by decide +kernel
theorem dX7_known_23 : decode cX7_known 23 = .ok (.iaload, 1) := by decide +kernel
theorem dX7_known_24 : decode cX7_known 24 = .ok (.ireturn, 1) := by decide +kernel
theorem dX7_tell_0 : decode cX7_tell 0 = .ok (.aload_n 0, 1) := by decide +kernel
theorem dX7_tell_1 : decode cX7_tell 1 = .ok (.invokevirtual 230, 3) := by decide +kernel
theorem dX7_tell_4 : decode cX7_tell 4 = .ok (.ifCond .eq 6, 3) := by decide +kernel
theorem dX7_tell_7 : decode cX7_tell 7 = .ok (.bipush (-4), 2) := by decide +kernel
theorem dX7_tell_9 : decode cX7_tell 9 = .ok (.ireturn, 1) := by decide +kernel
theorem dX7_tell_10 : decode cX7_tell 10 = .ok (.aload_n 0, 1) := by decide +kernel
theorem dX7_tell_11 : decode cX7_tell 11 = .ok (.invokevirtual 197, 3) := by decide +kernel
theorem dX7_tell_14 : decode cX7_tell 14 = .ok (.istore_n 1, 1) := by decide +kernel
theorem dX7_tell_15 : decode cX7_tell 15 = .ok (.bipush (-9), 2) := by decide +kernel
theorem dX7_tell_17 : decode cX7_tell 17 = .ok (.istore_n 2, 1) := by decide +kernel
theorem dX7_tell_18 : decode cX7_tell 18 = .ok (.bipush 7, 2) := by decide +kernel
theorem dX7_tell_20 : decode cX7_tell 20 = .ok (.istore_n 3, 1) := by decide +kernel
theorem dX7_tell_21 : decode cX7_tell 21 = .ok (.iconst 0, 1) := by decide +kernel
theorem dX7_tell_22 : decode cX7_tell 22 = .ok (.istore 4, 2) := by decide +kernel
theorem dX7_tell_24 : decode cX7_tell 24 = .ok (.iload 4, 2) := by decide +kernel
theorem dX7_tell_26 : decode cX7_tell 26 = .ok (.aload_n 0, 1) := by decide +kernel
theorem dX7_tell_27 : decode cX7_tell 27 = .ok (.getfield 29, 3) := by decide +kernel
theorem dX7_tell_30 : decode cX7_tell 30 = .ok (.getfield 285, 3) := by decide +kernel
theorem dX7_tell_33 : decode cX7_tell 33 = .ok (.iload_n 1, 1) := by decide +kernel
theorem dX7_tell_34 : decode cX7_tell 34 = .ok (.iaload, 1) := by decide +kernel
theorem dX7_tell_35 : decode cX7_tell 35 = .ok (.if_icmp .ge 41, 3) := by decide +kernel
theorem dX7_tell_38 : decode cX7_tell 38 = .ok (.aload_n 0, 1) := by decide +kernel
theorem dX7_tell_39 : decode cX7_tell 39 = .ok (.getfield 48, 3) := by decide +kernel
theorem dX7_tell_42 : decode cX7_tell 42 = .ok (.iload_n 1, 1) := by decide +kernel
theorem dX7_tell_43 : decode cX7_tell 43 = .ok (.iload 4, 2) := by decide +kernel
theorem dX7_tell_45 : decode cX7_tell 45 = .ok (.invokevirtual 288, 3) := by decide +kernel
theorem dX7_tell_48 : decode cX7_tell 48 = .ok (.istore 5, 2) := by decide +kernel
theorem dX7_tell_50 : decode cX7_tell 50 = .ok (.iload 5, 2) := by decide +kernel
theorem dX7_tell_52 : decode cX7_tell 52 = .ok (.iload_n 3, 1) := by decide +kernel
theorem dX7_tell_53 : decode cX7_tell 53 = .ok (.if_icmp .ge 17, 3) := by decide +kernel
theorem dX7_tell_56 : decode cX7_tell 56 = .ok (.iload 5, 2) := by decide +kernel
theorem dX7_tell_58 : decode cX7_tell 58 = .ok (.istore_n 3, 1) := by decide +kernel
theorem dX7_tell_59 : decode cX7_tell 59 = .ok (.aload_n 0, 1) := by decide +kernel
theorem dX7_tell_60 : decode cX7_tell 60 = .ok (.getfield 29, 3) := by decide +kernel
theorem dX7_tell_63 : decode cX7_tell 63 = .ok (.iload_n 1, 1) := by decide +kernel
theorem dX7_tell_64 : decode cX7_tell 64 = .ok (.iload 4, 2) := by decide +kernel
theorem dX7_tell_66 : decode cX7_tell 66 = .ok (.invokevirtual 291, 3) := by decide +kernel
theorem dX7_tell_69 : decode cX7_tell 69 = .ok (.istore_n 2, 1) := by decide +kernel
theorem dX7_tell_70 : decode cX7_tell 70 = .ok (.iinc 4 1, 3) := by decide +kernel
theorem dX7_tell_73 : decode cX7_tell 73 = .ok (.goto (-49), 3) := by decide +kernel
theorem dX7_tell_76 : decode cX7_tell 76 = .ok (.iload_n 2, 1) := by decide +kernel
theorem dX7_tell_77 : decode cX7_tell 77 = .ok (.bipush (-9), 2) := by decide +kernel
theorem dX7_tell_79 : decode cX7_tell 79 = .ok (.if_icmp .eq 8, 3) := by decide +kernel
theorem dX7_tell_82 : decode cX7_tell 82 = .ok (.aload_n 0, 1) := by decide +kernel
theorem dX7_tell_83 : decode cX7_tell 83 = .ok (.iload_n 3, 1) := by decide +kernel
theorem dX7_tell_84 : decode cX7_tell 84 = .ok (.putfield 238, 3) := by decide +kernel
theorem dX7_tell_87 : decode cX7_tell 87 = .ok (.iload_n 2, 1) := by decide +kernel
theorem dX7_tell_88 : decode cX7_tell 88 = .ok (.ireturn, 1) := by decide +kernel
theorem dX7_worst_0 : decode cX7_worst 0 = .ok (.aload_n 0, 1) := by decide +kernel
theorem dX7_worst_1 : decode cX7_worst 1 = .ok (.invokevirtual 230, 3) := by decide +kernel
theorem dX7_worst_4 : decode cX7_worst 4 = .ok (.ifCond .eq 6, 3) := by decide +kernel
theorem dX7_worst_7 : decode cX7_worst 7 = .ok (.bipush (-4), 2) := by decide +kernel
theorem dX7_worst_9 : decode cX7_worst 9 = .ok (.ireturn, 1) := by decide +kernel
theorem dX7_worst_10 : decode cX7_worst 10 = .ok (.aload_n 0, 1) := by decide +kernel
theorem dX7_worst_11 : decode cX7_worst 11 = .ok (.getfield 57, 3) := by decide +kernel
theorem dX7_worst_14 : decode cX7_worst 14 = .ok (.iconst 0, 1) := by decide +kernel
theorem dX7_worst_15 : decode cX7_worst 15 = .ok (.invokevirtual 294, 3) := by decide +kernel
theorem dX7_worst_18 : decode cX7_worst 18 = .ok (.aload_n 0, 1) := by decide +kernel
theorem dX7_worst_19 : decode cX7_worst 19 = .ok (.aload_n 0, 1) := by decide +kernel
theorem dX7_worst_20 : decode cX7_worst 20 = .ok (.getfield 57, 3) := by decide +kernel
theorem dX7_worst_23 : decode cX7_worst 23 = .ok (.aload_n 0, 1) := by decide +kernel
theorem dX7_worst_24 : decode cX7_worst 24 = .ok (.invokevirtual 197, 3) := by decide +kernel
theorem dX7_worst_27 : decode cX7_worst 27 = .ok (.aload_n 0, 1) := by decide +kernel
theorem dX7_worst_28 : decode cX7_worst 28 = .ok (.getfield 71, 3) := by decide +kernel
theorem dX7_worst_31 : decode cX7_worst 31 = .ok (.getfield 207, 3) := by decide +kernel
theorem dX7_worst_34 : decode cX7_worst 34 = .ok (.invokevirtual 298, 3) := by decide +kernel
theorem dX7_worst_37 : decode cX7_worst 37 = .ok (.putfield 238, 3) := by decide +kernel
theorem dX7_worst_40 : decode cX7_worst 40 = .ok (.aload_n 0, 1) := by decide +kernel
theorem dX7_worst_41 : decode cX7_worst 41 = .ok (.getfield 57, 3) := by decide +kernel
theorem dX7_worst_44 : decode cX7_worst 44 = .ok (.aload_n 0, 1) := by decide +kernel
theorem dX7_worst_45 : decode cX7_worst 45 = .ok (.invokevirtual 197, 3) := by decide +kernel
theorem dX7_worst_48 : decode cX7_worst 48 = .ok (.aload_n 0, 1) := by decide +kernel
theorem dX7_worst_49 : decode cX7_worst 49 = .ok (.getfield 71, 3) := by decide +kernel
theorem dX7_worst_52 : decode cX7_worst 52 = .ok (.getfield 207, 3) := by decide +kernel
theorem dX7_worst_55 : decode cX7_worst 55 = .ok (.invokevirtual 301, 3) := by decide +kernel
theorem dX7_worst_58 : decode cX7_worst 58 = .ok (.ireturn, 1) := by decide +kernel
theorem dX7_hopes_0 : decode cX7_hopes 0 = .ok (.aload_n 0, 1) := by decide +kernel
theorem dX7_hopes_1 : decode cX7_hopes 1 = .ok (.invokevirtual 230, 3) := by decide +kernel
theorem dX7_hopes_4 : decode cX7_hopes 4 = .ok (.ifCond .eq 6, 3) := by decide +kernel
theorem dX7_hopes_7 : decode cX7_hopes 7 = .ok (.bipush (-4), 2) := by decide +kernel
theorem dX7_hopes_9 : decode cX7_hopes 9 = .ok (.ireturn, 1) := by decide +kernel
theorem dX7_hopes_10 : decode cX7_hopes 10 = .ok (.aload_n 0, 1) := by decide +kernel
theorem dX7_hopes_11 : decode cX7_hopes 11 = .ok (.invokevirtual 197, 3) := by decide +kernel
theorem dX7_hopes_14 : decode cX7_hopes 14 = .ok (.istore_n 1, 1) := by decide +kernel
theorem dX7_hopes_15 : decode cX7_hopes 15 = .ok (.aload_n 0, 1) := by decide +kernel
theorem dX7_hopes_16 : decode cX7_hopes 16 = .ok (.getfield 57, 3) := by decide +kernel
theorem dX7_hopes_19 : decode cX7_hopes 19 = .ok (.iconst 1, 1) := by decide +kernel
theorem dX7_hopes_20 : decode cX7_hopes 20 = .ok (.invokevirtual 294, 3) := by decide +kernel
theorem dX7_hopes_23 : decode cX7_hopes 23 = .ok (.aload_n 0, 1) := by decide +kernel
theorem dX7_hopes_24 : decode cX7_hopes 24 = .ok (.aload_n 0, 1) := by decide +kernel
theorem dX7_hopes_25 : decode cX7_hopes 25 = .ok (.getfield 57, 3) := by decide +kernel
theorem dX7_hopes_28 : decode cX7_hopes 28 = .ok (.iload_n 1, 1) := by decide +kernel
theorem dX7_hopes_29 : decode cX7_hopes 29 = .ok (.aload_n 0, 1) := by decide +kernel
theorem dX7_hopes_30 : decode cX7_hopes 30 = .ok (.getfield 71, 3) := by decide +kernel
theorem dX7_hopes_33 : decode cX7_hopes 33 = .ok (.getfield 207, 3) := by decide +kernel
theorem dX7_hopes_36 : decode cX7_hopes 36 = .ok (.invokevirtual 301, 3) := by decide +kernel
theorem dX7_hopes_39 : decode cX7_hopes 39 = .ok (.i2l, 1) := by decide +kernel
theorem dX7_hopes_40 : decode cX7_hopes 40 = .ok (.aload_n 0, 1) := by decide +kernel
theorem dX7_hopes_41 : decode cX7_hopes 41 = .ok (.getfield 48, 3) := by decide +kernel
theorem dX7_hopes_44 : decode cX7_hopes 44 = .ok (.getfield 260, 3) := by decide +kernel
theorem dX7_hopes_47 : decode cX7_hopes 47 = .ok (.iload_n 1, 1) := by decide +kernel
theorem dX7_hopes_48 : decode cX7_hopes 48 = .ok (.iaload, 1) := by decide +kernel
theorem dX7_hopes_49 : decode cX7_hopes 49 = .ok (.i2l, 1) := by decide +kernel
theorem dX7_hopes_50 : decode cX7_hopes 50 = .ok (.invokevirtual 263, 3) := by decide +kernel
theorem dX7_hopes_53 : decode cX7_hopes 53 = .ok (.aload_n 0, 1) := by decide +kernel
theorem dX7_hopes_54 : decode cX7_hopes 54 = .ok (.aload_n 0, 1) := by decide +kernel
theorem dX7_hopes_55 : decode cX7_hopes 55 = .ok (.getfield 57, 3) := by decide +kernel
theorem dX7_hopes_58 : decode cX7_hopes 58 = .ok (.iload_n 1, 1) := by decide +kernel
theorem dX7_hopes_59 : decode cX7_hopes 59 = .ok (.aload_n 0, 1) := by decide +kernel
theorem dX7_hopes_60 : decode cX7_hopes 60 = .ok (.getfield 71, 3) := by decide +kernel
theorem dX7_hopes_63 : decode cX7_hopes 63 = .ok (.getfield 207, 3) := by decide +kernel
theorem dX7_hopes_66 : decode cX7_hopes 66 = .ok (.invokevirtual 298, 3) := by decide +kernel
theorem dX7_hopes_69 : decode cX7_hopes 69 = .ok (.invokevirtual 112, 3) := by decide +kernel
theorem dX7_hopes_72 : decode cX7_hopes 72 = .ok (.ireturn, 1) := by decide +kernel
theorem dX7_brings_0 : decode cX7_brings 0 = .ok (.aload_n 0, 1) := by decide +kernel
theorem dX7_brings_1 : decode cX7_brings 1 = .ok (.iload_n 1, 1) := by decide +kernel
theorem dX7_brings_2 : decode cX7_brings 2 = .ok (.invokevirtual 303, 3) := by decide +kernel
theorem dX7_brings_5 : decode cX7_brings 5 = .ok (.istore_n 2, 1) := by decide +kernel
theorem dX7_brings_6 : decode cX7_brings 6 = .ok (.iload_n 2, 1) := by decide +kernel
theorem dX7_brings_7 : decode cX7_brings 7 = .ok (.ifCond .eq 5, 3) := by decide +kernel
theorem dX7_brings_10 : decode cX7_brings 10 = .ok (.iload_n 2, 1) := by decide +kernel
theorem dX7_brings_11 : decode cX7_brings 11 = .ok (.ireturn, 1) := by decide +kernel
theorem dX7_brings_12 : decode cX7_brings 12 = .ok (.aload_n 0, 1) := by decide +kernel
theorem dX7_brings_13 : decode cX7_brings 13 = .ok (.iload_n 1, 1) := by decide +kernel
theorem dX7_brings_14 : decode cX7_brings 14 = .ok (.invokevirtual 306, 3) := by decide +kernel
theorem dX7_brings_17 : decode cX7_brings 17 = .ok (.ifCond .ne 9, 3) := by decide +kernel
theorem dX7_brings_20 : decode cX7_brings 20 = .ok (.aload_n 0, 1) := by decide +kernel
theorem dX7_brings_21 : decode cX7_brings 21 = .ok (.iconst 3, 1) := by decide +kernel
theorem dX7_brings_22 : decode cX7_brings 22 = .ok (.invokevirtual 100, 3) := by decide +kernel
theorem dX7_brings_25 : decode cX7_brings 25 = .ok (.ireturn, 1) := by decide +kernel
theorem dX7_brings_26 : decode cX7_brings 26 = .ok (.aload_n 0, 1) := by decide +kernel
theorem dX7_brings_27 : decode cX7_brings 27 = .ok (.getfield 57, 3) := by decide +kernel
theorem dX7_brings_30 : decode cX7_brings 30 = .ok (.iconst 0, 1) := by decide +kernel
theorem dX7_brings_31 : decode cX7_brings 31 = .ok (.invokevirtual 294, 3) := by decide +kernel
theorem dX7_brings_34 : decode cX7_brings 34 = .ok (.aload_n 0, 1) := by decide +kernel
theorem dX7_brings_35 : decode cX7_brings 35 = .ok (.invokevirtual 197, 3) := by decide +kernel
theorem dX7_brings_38 : decode cX7_brings 38 = .ok (.istore_n 3, 1) := by decide +kernel
theorem dX7_brings_39 : decode cX7_brings 39 = .ok (.aload_n 0, 1) := by decide +kernel
theorem dX7_brings_40 : decode cX7_brings 40 = .ok (.getfield 71, 3) := by decide +kernel
theorem dX7_brings_43 : decode cX7_brings 43 = .ok (.getfield 207, 3) := by decide +kernel
theorem dX7_brings_46 : decode cX7_brings 46 = .ok (.istore 4, 2) := by decide +kernel
theorem dX7_brings_48 : decode cX7_brings 48 = .ok (.iconst 0, 1) := by decide +kernel
theorem dX7_brings_49 : decode cX7_brings 49 = .ok (.istore 5, 2) := by decide +kernel
theorem dX7_brings_51 : decode cX7_brings 51 = .ok (.iload 5, 2) := by decide +kernel
theorem dX7_brings_53 : decode cX7_brings 53 = .ok (.aload_n 0, 1) := by decide +kernel
theorem dX7_brings_54 : decode cX7_brings 54 = .ok (.getfield 14, 3) := by decide +kernel
theorem dX7_brings_57 : decode cX7_brings 57 = .ok (.iload_n 1, 1) := by decide +kernel
theorem dX7_brings_58 : decode cX7_brings 58 = .ok (.iaload, 1) := by decide +kernel
theorem dX7_brings_59 : decode cX7_brings 59 = .ok (.if_icmp .ge 79, 3) := by decide +kernel
theorem dX7_brings_62 : decode cX7_brings 62 = .ok (.aload_n 0, 1) := by decide +kernel
theorem dX7_brings_63 : decode cX7_brings 63 = .ok (.getfield 57, 3) := by decide +kernel
theorem dX7_brings_66 : decode cX7_brings 66 = .ok (.iload_n 3, 1) := by decide +kernel
theorem dX7_brings_67 : decode cX7_brings 67 = .ok (.iload 4, 2) := by decide +kernel
theorem dX7_brings_69 : decode cX7_brings 69 = .ok (.invokevirtual 298, 3) := by decide +kernel
theorem dX7_brings_72 : decode cX7_brings 72 = .ok (.istore 6, 2) := by decide +kernel
theorem dX7_brings_74 : decode cX7_brings 74 = .ok (.iload 6, 2) := by decide +kernel
theorem dX7_brings_76 : decode cX7_brings 76 = .ok (.ifCond .lt 22, 3) := by decide +kernel
theorem dX7_brings_79 : decode cX7_brings 79 = .ok (.iload 4, 2) := by decide +kernel
theorem dX7_brings_81 : decode cX7_brings 81 = .ok (.iload 6, 2) := by decide +kernel
theorem dX7_brings_83 : decode cX7_brings 83 = .ok (.aload_n 0, 1) := by decide +kernel
theorem dX7_brings_84 : decode cX7_brings 84 = .ok (.getfield 29, 3) := by decide +kernel
theorem dX7_brings_87 : decode cX7_brings 87 = .ok (.getfield 221, 3) := by decide +kernel
theorem dX7_brings_90 : decode cX7_brings 90 = .ok (.iload 6, 2) := by decide +kernel
theorem dX7_brings_92 : decode cX7_brings 92 = .ok (.iaload, 1) := by decide +kernel
theorem dX7_brings_93 : decode cX7_brings 93 = .ok (.invokestatic 223, 3) := by decide +kernel
theorem dX7_brings_96 : decode cX7_brings 96 = .ok (.istore 4, 2) := by decide +kernel
theorem dX7_brings_98 : decode cX7_brings 98 = .ok (.iload 4, 2) := by decide +kernel
theorem dX7_brings_100 : decode cX7_brings 100 = .ok (.aload_n 0, 1) := by decide +kernel
theorem dX7_brings_101 : decode cX7_brings 101 = .ok (.getfield 29, 3) := by decide +kernel
theorem dX7_brings_104 : decode cX7_brings 104 = .ok (.getfield 309, 3) := by decide +kernel
theorem dX7_brings_107 : decode cX7_brings 107 = .ok (.iload_n 3, 1) := by decide +kernel
theorem dX7_brings_108 : decode cX7_brings 108 = .ok (.iaload, 1) := by decide +kernel
theorem dX7_brings_109 : decode cX7_brings 109 = .ok (.invokestatic 312, 3) := by decide +kernel
theorem dX7_brings_112 : decode cX7_brings 112 = .ok (.istore 4, 2) := by decide +kernel
theorem dX7_brings_114 : decode cX7_brings 114 = .ok (.aload_n 0, 1) := by decide +kernel
theorem dX7_brings_115 : decode cX7_brings 115 = .ok (.getfield 29, 3) := by decide +kernel
theorem dX7_brings_118 : decode cX7_brings 118 = .ok (.getfield 204, 3) := by decide +kernel
theorem dX7_brings_121 : decode cX7_brings 121 = .ok (.aload_n 0, 1) := by decide +kernel
theorem dX7_brings_122 : decode cX7_brings 122 = .ok (.getfield 11, 3) := by decide +kernel
theorem dX7_brings_125 : decode cX7_brings 125 = .ok (.iload_n 1, 1) := by decide +kernel
theorem dX7_brings_126 : decode cX7_brings 126 = .ok (.aaload, 1) := by decide +kernel
theorem dX7_brings_127 : decode cX7_brings 127 = .ok (.iload 5, 2) := by decide +kernel
theorem dX7_brings_129 : decode cX7_brings 129 = .ok (.iaload, 1) := by decide +kernel
theorem dX7_brings_130 : decode cX7_brings 130 = .ok (.iaload, 1) := by decide +kernel
theorem dX7_brings_131 : decode cX7_brings 131 = .ok (.istore_n 3, 1) := by decide +kernel
theorem dX7_brings_132 : decode cX7_brings 132 = .ok (.iinc 5 1, 3) := by decide +kernel
theorem dX7_brings_135 : decode cX7_brings 135 = .ok (.goto (-84), 3) := by decide +kernel
theorem dX7_brings_138 : decode cX7_brings 138 = .ok (.aload_n 0, 1) := by decide +kernel
theorem dX7_brings_139 : decode cX7_brings 139 = .ok (.aload_n 0, 1) := by decide +kernel
theorem dX7_brings_140 : decode cX7_brings 140 = .ok (.getfield 29, 3) := by decide +kernel
theorem dX7_brings_143 : decode cX7_brings 143 = .ok (.iload_n 3, 1) := by decide +kernel
theorem dX7_brings_144 : decode cX7_brings 144 = .ok (.iload 4, 2) := by decide +kernel
theorem dX7_brings_146 : decode cX7_brings 146 = .ok (.invokevirtual 241, 3) := by decide +kernel
theorem dX7_brings_149 : decode cX7_brings 149 = .ok (.invokevirtual 112, 3) := by decide +kernel
theorem dX7_brings_152 : decode cX7_brings 152 = .ok (.ireturn, 1) := by decide +kernel
theorem dX7_knows_0 : decode cX7_knows 0 = .ok (.aload_n 0, 1) := by decide +kernel
theorem dX7_knows_1 : decode cX7_knows 1 = .ok (.iload_n 1, 1) := by decide +kernel
theorem dX7_knows_2 : decode cX7_knows 2 = .ok (.invokevirtual 303, 3) := by decide +kernel
theorem dX7_knows_5 : decode cX7_knows 5 = .ok (.istore_n 2, 1) := by decide +kernel
theorem dX7_knows_6 : decode cX7_knows 6 = .ok (.iload_n 2, 1) := by decide +kernel
theorem dX7_knows_7 : decode cX7_knows 7 = .ok (.ifCond .eq 5, 3) := by decide +kernel
theorem dX7_knows_10 : decode cX7_knows 10 = .ok (.iload_n 2, 1) := by decide +kernel
theorem dX7_knows_11 : decode cX7_knows 11 = .ok (.ireturn, 1) := by decide +kernel
theorem dX7_knows_12 : decode cX7_knows 12 = .ok (.aload_n 0, 1) := by decide +kernel
theorem dX7_knows_13 : decode cX7_knows 13 = .ok (.iload_n 1, 1) := by decide +kernel
theorem dX7_knows_14 : decode cX7_knows 14 = .ok (.invokevirtual 306, 3) := by decide +kernel
theorem dX7_knows_17 : decode cX7_knows 17 = .ok (.ifCond .ne 9, 3) := by decide +kernel
theorem dX7_knows_20 : decode cX7_knows 20 = .ok (.aload_n 0, 1) := by decide +kernel
theorem dX7_knows_21 : decode cX7_knows 21 = .ok (.iconst 3, 1) := by decide +kernel
theorem dX7_knows_22 : decode cX7_knows 22 = .ok (.invokevirtual 100, 3) := by decide +kernel
theorem dX7_knows_25 : decode cX7_knows 25 = .ok (.ireturn, 1) := by decide +kernel
theorem dX7_knows_26 : decode cX7_knows 26 = .ok (.aload_n 0, 1) := by decide +kernel
theorem dX7_knows_27 : decode cX7_knows 27 = .ok (.getfield 57, 3) := by decide +kernel
theorem dX7_knows_30 : decode cX7_knows 30 = .ok (.invokevirtual 144, 3) := by decide +kernel
theorem dX7_knows_33 : decode cX7_knows 33 = .ok (.aload_n 0, 1) := by decide +kernel
theorem dX7_knows_34 : decode cX7_knows 34 = .ok (.getfield 57, 3) := by decide +kernel
theorem dX7_knows_37 : decode cX7_knows 37 = .ok (.iconst 2, 1) := by decide +kernel
theorem dX7_knows_38 : decode cX7_knows 38 = .ok (.invokevirtual 294, 3) := by decide +kernel
theorem dX7_knows_41 : decode cX7_knows 41 = .ok (.iconst 0, 1) := by decide +kernel
theorem dX7_knows_42 : decode cX7_knows 42 = .ok (.istore_n 3, 1) := by decide +kernel
theorem dX7_knows_43 : decode cX7_knows 43 = .ok (.iload_n 3, 1) := by decide +kernel
theorem dX7_knows_44 : decode cX7_knows 44 = .ok (.aload_n 0, 1) := by decide +kernel
theorem dX7_knows_45 : decode cX7_knows 45 = .ok (.getfield 14, 3) := by decide +kernel
theorem dX7_knows_48 : decode cX7_knows 48 = .ok (.iload_n 1, 1) := by decide +kernel
theorem dX7_knows_49 : decode cX7_knows 49 = .ok (.iaload, 1) := by decide +kernel
theorem dX7_knows_50 : decode cX7_knows 50 = .ok (.if_icmp .ge 24, 3) := by decide +kernel
theorem dX7_knows_53 : decode cX7_knows 53 = .ok (.aload_n 0, 1) := by decide +kernel
theorem dX7_knows_54 : decode cX7_knows 54 = .ok (.getfield 57, 3) := by decide +kernel
theorem dX7_knows_57 : decode cX7_knows 57 = .ok (.aload_n 0, 1) := by decide +kernel
theorem dX7_knows_58 : decode cX7_knows 58 = .ok (.getfield 11, 3) := by decide +kernel
theorem dX7_knows_61 : decode cX7_knows 61 = .ok (.iload_n 1, 1) := by decide +kernel
theorem dX7_knows_62 : decode cX7_knows 62 = .ok (.aaload, 1) := by decide +kernel
theorem dX7_knows_63 : decode cX7_knows 63 = .ok (.iload_n 3, 1) := by decide +kernel
theorem dX7_knows_64 : decode cX7_knows 64 = .ok (.iaload, 1) := by decide +kernel
theorem dX7_knows_65 : decode cX7_knows 65 = .ok (.invokevirtual 315, 3) := by decide +kernel
theorem dX7_knows_68 : decode cX7_knows 68 = .ok (.iinc 3 1, 3) := by decide +kernel
theorem dX7_knows_71 : decode cX7_knows 71 = .ok (.goto (-28), 3) := by decide +kernel
theorem dX7_knows_74 : decode cX7_knows 74 = .ok (.aload_n 0, 1) := by decide +kernel
theorem dX7_knows_75 : decode cX7_knows 75 = .ok (.aload_n 0, 1) := by decide +kernel
theorem dX7_knows_76 : decode cX7_knows 76 = .ok (.getfield 57, 3) := by decide +kernel
theorem dX7_knows_79 : decode cX7_knows 79 = .ok (.aload_n 0, 1) := by decide +kernel
theorem dX7_knows_80 : decode cX7_knows 80 = .ok (.invokevirtual 197, 3) := by decide +kernel
theorem dX7_knows_83 : decode cX7_knows 83 = .ok (.aload_n 0, 1) := by decide +kernel
theorem dX7_knows_84 : decode cX7_knows 84 = .ok (.getfield 71, 3) := by decide +kernel
theorem dX7_knows_87 : decode cX7_knows 87 = .ok (.getfield 207, 3) := by decide +kernel
theorem dX7_knows_90 : decode cX7_knows 90 = .ok (.invokevirtual 301, 3) := by decide +kernel
theorem dX7_knows_93 : decode cX7_knows 93 = .ok (.invokevirtual 112, 3) := by decide +kernel
theorem dX7_knows_96 : decode cX7_knows 96 = .ok (.ireturn, 1) := by decide +kernel
theorem dX7_heard_0 : decode cX7_heard 0 = .ok (.aload_n 0, 1) := by decide +kernel
theorem dX7_heard_1 : decode cX7_heard 1 = .ok (.iload_n 1, 1) := by decide +kernel
theorem dX7_heard_2 : decode cX7_heard 2 = .ok (.invokevirtual 318, 3) := by decide +kernel
theorem dX7_heard_5 : decode cX7_heard 5 = .ok (.istore_n 2, 1) := by decide +kernel
theorem dX7_heard_6 : decode cX7_heard 6 = .ok (.iload_n 2, 1) := by decide +kernel
theorem dX7_heard_7 : decode cX7_heard 7 = .ok (.ifCond .eq 5, 3) := by decide +kernel
theorem dX7_heard_10 : decode cX7_heard 10 = .ok (.iload_n 2, 1) := by decide +kernel
theorem dX7_heard_11 : decode cX7_heard 11 = .ok (.ireturn, 1) := by decide +kernel
theorem dX7_heard_12 : decode cX7_heard 12 = .ok (.aload_n 0, 1) := by decide +kernel
theorem dX7_heard_13 : decode cX7_heard 13 = .ok (.getfield 64, 3) := by decide +kernel
theorem dX7_heard_16 : decode cX7_heard 16 = .ok (.aload_n 0, 1) := by decide +kernel
theorem dX7_heard_17 : decode cX7_heard 17 = .ok (.getfield 11, 3) := by decide +kernel
theorem dX7_heard_20 : decode cX7_heard 20 = .ok (.iload_n 1, 1) := by decide +kernel
theorem dX7_heard_21 : decode cX7_heard 21 = .ok (.aaload, 1) := by decide +kernel
theorem dX7_heard_22 : decode cX7_heard 22 = .ok (.aload_n 0, 1) := by decide +kernel
theorem dX7_heard_23 : decode cX7_heard 23 = .ok (.getfield 14, 3) := by decide +kernel
theorem dX7_heard_26 : decode cX7_heard 26 = .ok (.iload_n 1, 1) := by decide +kernel
theorem dX7_heard_27 : decode cX7_heard 27 = .ok (.iaload, 1) := by decide +kernel
theorem dX7_heard_28 : decode cX7_heard 28 = .ok (.iconst 0, 1) := by decide +kernel
theorem dX7_heard_29 : decode cX7_heard 29 = .ok (.invokevirtual 321, 3) := by decide +kernel
theorem dX7_heard_32 : decode cX7_heard 32 = .ok (.aload_n 0, 1) := by decide +kernel
theorem dX7_heard_33 : decode cX7_heard 33 = .ok (.getfield 64, 3) := by decide +kernel
theorem dX7_heard_36 : decode cX7_heard 36 = .ok (.aload_n 0, 1) := by decide +kernel
theorem dX7_heard_37 : decode cX7_heard 37 = .ok (.invokevirtual 197, 3) := by decide +kernel
theorem dX7_heard_40 : decode cX7_heard 40 = .ok (.invokevirtual 325, 3) := by decide +kernel
theorem dX7_heard_43 : decode cX7_heard 43 = .ok (.aload_n 0, 1) := by decide +kernel
theorem dX7_heard_44 : decode cX7_heard 44 = .ok (.aload_n 0, 1) := by decide +kernel
theorem dX7_heard_45 : decode cX7_heard 45 = .ok (.getfield 64, 3) := by decide +kernel
theorem dX7_heard_48 : decode cX7_heard 48 = .ok (.getfield 328, 3) := by decide +kernel
theorem dX7_heard_51 : decode cX7_heard 51 = .ok (.putfield 238, 3) := by decide +kernel
theorem dX7_heard_54 : decode cX7_heard 54 = .ok (.aload_n 0, 1) := by decide +kernel
theorem dX7_heard_55 : decode cX7_heard 55 = .ok (.getfield 64, 3) := by decide +kernel
theorem dX7_heard_58 : decode cX7_heard 58 = .ok (.getfield 331, 3) := by decide +kernel
theorem dX7_heard_61 : decode cX7_heard 61 = .ok (.ireturn, 1) := by decide +kernel
theorem dX7_slips_0 : decode cX7_slips 0 = .ok (.aload_n 0, 1) := by decide +kernel
theorem dX7_slips_1 : decode cX7_slips 1 = .ok (.iload_n 1, 1) := by decide +kernel
theorem dX7_slips_2 : decode cX7_slips 2 = .ok (.invokevirtual 318, 3) := by decide +kernel
theorem dX7_slips_5 : decode cX7_slips 5 = .ok (.istore_n 2, 1) := by decide +kernel
theorem dX7_slips_6 : decode cX7_slips 6 = .ok (.iload_n 2, 1) := by decide +kernel
theorem dX7_slips_7 : decode cX7_slips 7 = .ok (.ifCond .eq 5, 3) := by decide +kernel
theorem dX7_slips_10 : decode cX7_slips 10 = .ok (.iload_n 2, 1) := by decide +kernel
theorem dX7_slips_11 : decode cX7_slips 11 = .ok (.ireturn, 1) := by decide +kernel
theorem dX7_slips_12 : decode cX7_slips 12 = .ok (.aload_n 0, 1) := by decide +kernel
theorem dX7_slips_13 : decode cX7_slips 13 = .ok (.getfield 64, 3) := by decide +kernel
theorem dX7_slips_16 : decode cX7_slips 16 = .ok (.aload_n 0, 1) := by decide +kernel
theorem dX7_slips_17 : decode cX7_slips 17 = .ok (.getfield 11, 3) := by decide +kernel
theorem dX7_slips_20 : decode cX7_slips 20 = .ok (.iload_n 1, 1) := by decide +kernel
theorem dX7_slips_21 : decode cX7_slips 21 = .ok (.aaload, 1) := by decide +kernel
theorem dX7_slips_22 : decode cX7_slips 22 = .ok (.aload_n 0, 1) := by decide +kernel
theorem dX7_slips_23 : decode cX7_slips 23 = .ok (.getfield 14, 3) := by decide +kernel
theorem dX7_slips_26 : decode cX7_slips 26 = .ok (.iload_n 1, 1) := by decide +kernel
theorem dX7_slips_27 : decode cX7_slips 27 = .ok (.iaload, 1) := by decide +kernel
theorem dX7_slips_28 : decode cX7_slips 28 = .ok (.iconst 1, 1) := by decide +kernel
theorem dX7_slips_29 : decode cX7_slips 29 = .ok (.invokevirtual 321, 3) := by decide +kernel
theorem dX7_slips_32 : decode cX7_slips 32 = .ok (.aload_n 0, 1) := by decide +kernel
theorem dX7_slips_33 : decode cX7_slips 33 = .ok (.getfield 64, 3) := by decide +kernel
theorem dX7_slips_36 : decode cX7_slips 36 = .ok (.aload_n 0, 1) := by decide +kernel
theorem dX7_slips_37 : decode cX7_slips 37 = .ok (.invokevirtual 197, 3) := by decide +kernel
theorem dX7_slips_40 : decode cX7_slips 40 = .ok (.invokevirtual 325, 3) := by decide +kernel
theorem dX7_slips_43 : decode cX7_slips 43 = .ok (.aload_n 0, 1) := by decide +kernel
theorem dX7_slips_44 : decode cX7_slips 44 = .ok (.getfield 64, 3) := by decide +kernel
theorem dX7_slips_47 : decode cX7_slips 47 = .ok (.getfield 331, 3) := by decide +kernel
theorem dX7_slips_50 : decode cX7_slips 50 = .ok (.ireturn, 1) := by decide +kernel
theorem dX7_first_0 : decode cX7_first 0 = .ok (.iload_n 2, 1) := by decide +kernel
theorem dX7_first_1 : decode cX7_first 1 = .ok (.invokestatic 96, 3) := by decide +kernel
theorem dX7_first_4 : decode cX7_first 4 = .ok (.ifCond .eq 5, 3) := by decide +kernel
theorem dX7_first_7 : decode cX7_first 7 = .ok (.iconst (-1), 1) := by decide +kernel
theorem dX7_first_8 : decode cX7_first 8 = .ok (.ireturn, 1) := by decide +kernel
theorem dX7_first_9 : decode cX7_first 9 = .ok (.aload_n 0, 1) := by decide +kernel
theorem dX7_first_10 : decode cX7_first 10 = .ok (.iload_n 1, 1) := by decide +kernel
theorem dX7_first_11 : decode cX7_first 11 = .ok (.invokevirtual 318, 3) := by decide +kernel
theorem dX7_first_14 : decode cX7_first 14 = .ok (.istore_n 3, 1) := by decide +kernel
theorem dX7_first_15 : decode cX7_first 15 = .ok (.iload_n 3, 1) := by decide +kernel
theorem dX7_first_16 : decode cX7_first 16 = .ok (.ifCond .eq 5, 3) := by decide +kernel
theorem dX7_first_19 : decode cX7_first 19 = .ok (.iload_n 3, 1) := by decide +kernel
theorem dX7_first_20 : decode cX7_first 20 = .ok (.ireturn, 1) := by decide +kernel
theorem dX7_first_21 : decode cX7_first 21 = .ok (.aload_n 0, 1) := by decide +kernel
theorem dX7_first_22 : decode cX7_first 22 = .ok (.getfield 64, 3) := by decide +kernel
theorem dX7_first_25 : decode cX7_first 25 = .ok (.aload_n 0, 1) := by decide +kernel
theorem dX7_first_26 : decode cX7_first 26 = .ok (.getfield 11, 3) := by decide +kernel
theorem dX7_first_29 : decode cX7_first 29 = .ok (.iload_n 1, 1) := by decide +kernel
theorem dX7_first_30 : decode cX7_first 30 = .ok (.aaload, 1) := by decide +kernel
theorem dX7_first_31 : decode cX7_first 31 = .ok (.aload_n 0, 1) := by decide +kernel
theorem dX7_first_32 : decode cX7_first 32 = .ok (.getfield 14, 3) := by decide +kernel
theorem dX7_first_35 : decode cX7_first 35 = .ok (.iload_n 1, 1) := by decide +kernel
theorem dX7_first_36 : decode cX7_first 36 = .ok (.iaload, 1) := by decide +kernel
theorem dX7_first_37 : decode cX7_first 37 = .ok (.iconst 0, 1) := by decide +kernel
theorem dX7_first_38 : decode cX7_first 38 = .ok (.invokevirtual 321, 3) := by decide +kernel
theorem dX7_first_41 : decode cX7_first 41 = .ok (.aload_n 0, 1) := by decide +kernel
theorem dX7_first_42 : decode cX7_first 42 = .ok (.getfield 64, 3) := by decide +kernel
theorem dX7_first_45 : decode cX7_first 45 = .ok (.aload_n 0, 1) := by decide +kernel
theorem dX7_first_46 : decode cX7_first 46 = .ok (.invokevirtual 197, 3) := by decide +kernel
theorem dX7_first_49 : decode cX7_first 49 = .ok (.invokevirtual 325, 3) := by decide +kernel
theorem dX7_first_52 : decode cX7_first 52 = .ok (.aload_n 0, 1) := by decide +kernel
theorem dX7_first_53 : decode cX7_first 53 = .ok (.getfield 64, 3) := by decide +kernel
theorem dX7_first_56 : decode cX7_first 56 = .ok (.getfield 331, 3) := by decide +kernel
theorem dX7_first_59 : decode cX7_first 59 = .ok (.ifCond .ne 8, 3) := by decide +kernel
theorem dX7_first_62 : decode cX7_first 62 = .ok (.bipush (-9), 2) := by decide +kernel
theorem dX7_first_64 : decode cX7_first 64 = .ok (.goto 22, 3) := by decide +kernel
theorem dX7_first_67 : decode cX7_first 67 = .ok (.aload_n 0, 1) := by decide +kernel
theorem dX7_first_68 : decode cX7_first 68 = .ok (.iload_n 2, 1) := by decide +kernel
theorem dX7_first_69 : decode cX7_first 69 = .ok (.aload_n 0, 1) := by decide +kernel
theorem dX7_first_70 : decode cX7_first 70 = .ok (.getfield 64, 3) := by decide +kernel
theorem dX7_first_73 : decode cX7_first 73 = .ok (.getfield 332, 3) := by decide +kernel
theorem dX7_first_76 : decode cX7_first 76 = .ok (.aload_n 0, 1) := by decide +kernel
theorem dX7_first_77 : decode cX7_first 77 = .ok (.getfield 64, 3) := by decide +kernel
theorem dX7_first_80 : decode cX7_first 80 = .ok (.getfield 335, 3) := by decide +kernel
theorem dX7_first_83 : decode cX7_first 83 = .ok (.invokevirtual 247, 3) := by decide +kernel
theorem dX7_first_86 : decode cX7_first 86 = .ok (.ireturn, 1) := by decide +kernel
theorem dX7_least_0 : decode cX7_least 0 = .ok (.aload_n 0, 1) := by decide +kernel
theorem dX7_least_1 : decode cX7_least 1 = .ok (.iload_n 1, 1) := by decide +kernel
theorem dX7_least_2 : decode cX7_least 2 = .ok (.invokevirtual 303, 3) := by decide +kernel
theorem dX7_least_5 : decode cX7_least 5 = .ok (.istore_n 2, 1) := by decide +kernel
theorem dX7_least_6 : decode cX7_least 6 = .ok (.iload_n 2, 1) := by decide +kernel
theorem dX7_least_7 : decode cX7_least 7 = .ok (.ifCond .eq 5, 3) := by decide +kernel
theorem dX7_least_10 : decode cX7_least 10 = .ok (.iload_n 2, 1) := by decide +kernel
theorem dX7_least_11 : decode cX7_least 11 = .ok (.ireturn, 1) := by decide +kernel
theorem dX7_least_12 : decode cX7_least 12 = .ok (.aload_n 0, 1) := by decide +kernel
theorem dX7_least_13 : decode cX7_least 13 = .ok (.iload_n 1, 1) := by decide +kernel
theorem dX7_least_14 : decode cX7_least 14 = .ok (.invokevirtual 338, 3) := by decide +kernel
theorem dX7_least_17 : decode cX7_least 17 = .ok (.istore_n 3, 1) := by decide +kernel
theorem dX7_least_18 : decode cX7_least 18 = .ok (.iload_n 3, 1) := by decide +kernel
theorem dX7_least_19 : decode cX7_least 19 = .ok (.ifCond .lt 14, 3) := by decide +kernel
theorem dX7_least_22 : decode cX7_least 22 = .ok (.aload_n 0, 1) := by decide +kernel
theorem dX7_least_23 : decode cX7_least 23 = .ok (.getfield 29, 3) := by decide +kernel
theorem dX7_least_26 : decode cX7_least 26 = .ok (.iload_n 3, 1) := by decide +kernel
theorem dX7_least_27 : decode cX7_least 27 = .ok (.invokevirtual 341, 3) := by decide +kernel
theorem dX7_least_30 : decode cX7_least 30 = .ok (.ifCond .ne 9, 3) := by decide +kernel
theorem dX7_least_33 : decode cX7_least 33 = .ok (.aload_n 0, 1) := by decide +kernel
theorem dX7_least_34 : decode cX7_least 34 = .ok (.iconst 3, 1) := by decide +kernel
theorem dX7_least_35 : decode cX7_least 35 = .ok (.invokevirtual 100, 3) := by decide +kernel
theorem dX7_least_38 : decode cX7_least 38 = .ok (.ireturn, 1) := by decide +kernel
theorem dX7_least_39 : decode cX7_least 39 = .ok (.aload_n 0, 1) := by decide +kernel
theorem dX7_least_40 : decode cX7_least 40 = .ok (.getfield 64, 3) := by decide +kernel
theorem dX7_least_43 : decode cX7_least 43 = .ok (.aload_n 0, 1) := by decide +kernel
theorem dX7_least_44 : decode cX7_least 44 = .ok (.getfield 11, 3) := by decide +kernel
theorem dX7_least_47 : decode cX7_least 47 = .ok (.iload_n 1, 1) := by decide +kernel
theorem dX7_least_48 : decode cX7_least 48 = .ok (.aaload, 1) := by decide +kernel
theorem dX7_least_49 : decode cX7_least 49 = .ok (.aload_n 0, 1) := by decide +kernel
theorem dX7_least_50 : decode cX7_least 50 = .ok (.getfield 14, 3) := by decide +kernel
theorem dX7_least_53 : decode cX7_least 53 = .ok (.iload_n 1, 1) := by decide +kernel
theorem dX7_least_54 : decode cX7_least 54 = .ok (.iaload, 1) := by decide +kernel
theorem dX7_least_55 : decode cX7_least 55 = .ok (.aload_n 0, 1) := by decide +kernel
theorem dX7_least_56 : decode cX7_least 56 = .ok (.getfield 29, 3) := by decide +kernel
theorem dX7_least_59 : decode cX7_least 59 = .ok (.getfield 175, 3) := by decide +kernel
theorem dX7_least_62 : decode cX7_least 62 = .ok (.iload_n 3, 1) := by decide +kernel
theorem dX7_least_63 : decode cX7_least 63 = .ok (.iaload, 1) := by decide +kernel
theorem dX7_least_64 : decode cX7_least 64 = .ok (.invokevirtual 344, 3) := by decide +kernel
theorem dX7_least_67 : decode cX7_least 67 = .ok (.aload_n 0, 1) := by decide +kernel
theorem dX7_least_68 : decode cX7_least 68 = .ok (.getfield 64, 3) := by decide +kernel
theorem dX7_least_71 : decode cX7_least 71 = .ok (.aload_n 0, 1) := by decide +kernel
theorem dX7_least_72 : decode cX7_least 72 = .ok (.invokevirtual 197, 3) := by decide +kernel
theorem dX7_least_75 : decode cX7_least 75 = .ok (.invokevirtual 325, 3) := by decide +kernel
theorem dX7_least_78 : decode cX7_least 78 = .ok (.aload_n 0, 1) := by decide +kernel
theorem dX7_least_79 : decode cX7_least 79 = .ok (.getfield 64, 3) := by decide +kernel
theorem dX7_least_82 : decode cX7_least 82 = .ok (.invokevirtual 347, 3) := by decide +kernel
theorem dX7_least_85 : decode cX7_least 85 = .ok (.istore 4, 2) := by decide +kernel
theorem dX7_least_87 : decode cX7_least 87 = .ok (.aload_n 0, 1) := by decide +kernel
theorem dX7_least_88 : decode cX7_least 88 = .ok (.iload 4, 2) := by decide +kernel
theorem dX7_least_90 : decode cX7_least 90 = .ok (.putfield 238, 3) := by decide +kernel
theorem dX7_least_93 : decode cX7_least 93 = .ok (.iload 4, 2) := by decide +kernel
theorem dX7_least_95 : decode cX7_least 95 = .ok (.invokestatic 350, 3) := by decide +kernel
theorem dX7_least_98 : decode cX7_least 98 = .ok (.ireturn, 1) := by decide +kernel
theorem dX7_lots_0 : decode cX7_lots 0 = .ok (.iload_n 1, 1) := by decide +kernel
theorem dX7_lots_1 : decode cX7_lots 1 = .ok (.iconst 1, 1) := by decide +kernel
theorem dX7_lots_2 : decode cX7_lots 2 = .ok (.if_icmp .lt 23, 3) := by decide +kernel
theorem dX7_lots_5 : decode cX7_lots 5 = .ok (.iload_n 1, 1) := by decide +kernel
theorem dX7_lots_6 : decode cX7_lots 6 = .ok (.bipush 8, 2) := by decide +kernel
theorem dX7_lots_8 : decode cX7_lots 8 = .ok (.if_icmp .gt 17, 3) := by decide +kernel
theorem dX7_lots_11 : decode cX7_lots 11 = .ok (.iload_n 2, 1) := by decide +kernel
theorem dX7_lots_12 : decode cX7_lots 12 = .ok (.iconst 1, 1) := by decide +kernel
theorem dX7_lots_13 : decode cX7_lots 13 = .ok (.if_icmp .lt 12, 3) := by decide +kernel
theorem dX7_lots_16 : decode cX7_lots 16 = .ok (.iload_n 2, 1) := by decide +kernel
theorem dX7_lots_17 : decode cX7_lots 17 = .ok (.i2l, 1) := by decide +kernel
theorem dX7_lots_18 : decode cX7_lots 18 = .ok (.ldc2_w 355, 3) := by decide +kernel
theorem dX7_lots_21 : decode cX7_lots 21 = .ok (.lcmp, 1) := by decide +kernel
theorem dX7_lots_22 : decode cX7_lots 22 = .ok (.ifCond .lt 5, 3) := by decide +kernel
theorem dX7_lots_25 : decode cX7_lots 25 = .ok (.iconst (-1), 1) := by decide +kernel
theorem dX7_lots_26 : decode cX7_lots 26 = .ok (.ireturn, 1) := by decide +kernel
theorem dX7_lots_27 : decode cX7_lots 27 = .ok (.aload_n 0, 1) := by decide +kernel
theorem dX7_lots_28 : decode cX7_lots 28 = .ok (.invokevirtual 230, 3) := by decide +kernel
theorem dX7_lots_31 : decode cX7_lots 31 = .ok (.ifCond .eq 6, 3) := by decide +kernel
theorem dX7_lots_34 : decode cX7_lots 34 = .ok (.bipush (-4), 2) := by decide +kernel
theorem dX7_lots_36 : decode cX7_lots 36 = .ok (.ireturn, 1) := by decide +kernel
theorem dX7_lots_37 : decode cX7_lots 37 = .ok (.iload_n 2, 1) := by decide +kernel
theorem dX7_lots_38 : decode cX7_lots 38 = .ok (.i2l, 1) := by decide +kernel
theorem dX7_lots_39 : decode cX7_lots 39 = .ok (.lstore_n 3, 1) := by decide +kernel
theorem dX7_lots_40 : decode cX7_lots 40 = .ok (.iconst 0, 1) := by decide +kernel
theorem dX7_lots_41 : decode cX7_lots 41 = .ok (.istore 5, 2) := by decide +kernel
theorem dX7_lots_43 : decode cX7_lots 43 = .ok (.iconst 0, 1) := by decide +kernel
theorem dX7_lots_44 : decode cX7_lots 44 = .ok (.istore 6, 2) := by decide +kernel
theorem dX7_lots_46 : decode cX7_lots 46 = .ok (.iload 6, 2) := by decide +kernel
theorem dX7_lots_48 : decode cX7_lots 48 = .ok (.iload_n 1, 1) := by decide +kernel
theorem dX7_lots_49 : decode cX7_lots 49 = .ok (.if_icmp .ge 74, 3) := by decide +kernel
theorem dX7_lots_52 : decode cX7_lots 52 = .ok (.aload_n 0, 1) := by decide +kernel
theorem dX7_lots_53 : decode cX7_lots 53 = .ok (.invokevirtual 197, 3) := by decide +kernel
theorem dX7_lots_56 : decode cX7_lots 56 = .ok (.istore 7, 2) := by decide +kernel
theorem dX7_lots_58 : decode cX7_lots 58 = .ok (.aload_n 0, 1) := by decide +kernel
theorem dX7_lots_59 : decode cX7_lots 59 = .ok (.getfield 29, 3) := by decide +kernel
theorem dX7_lots_62 : decode cX7_lots 62 = .ok (.getfield 285, 3) := by decide +kernel
theorem dX7_lots_65 : decode cX7_lots 65 = .ok (.iload 7, 2) := by decide +kernel
theorem dX7_lots_67 : decode cX7_lots 67 = .ok (.iaload, 1) := by decide +kernel
theorem dX7_lots_68 : decode cX7_lots 68 = .ok (.istore 8, 2) := by decide +kernel
theorem dX7_lots_70 : decode cX7_lots 70 = .ok (.iload 8, 2) := by decide +kernel
theorem dX7_lots_72 : decode cX7_lots 72 = .ok (.ifCond .ne 6, 3) := by decide +kernel
theorem dX7_lots_75 : decode cX7_lots 75 = .ok (.goto 48, 3) := by decide +kernel
theorem dX7_lots_78 : decode cX7_lots 78 = .ok (.ldc2_w 357, 3) := by decide +kernel
theorem dX7_lots_81 : decode cX7_lots 81 = .ok (.lload_n 3, 1) := by decide +kernel
theorem dX7_lots_82 : decode cX7_lots 82 = .ok (.lmul, 1) := by decide +kernel
theorem dX7_lots_83 : decode cX7_lots 83 = .ok (.ldc2_w 355, 3) := by decide +kernel
theorem dX7_lots_86 : decode cX7_lots 86 = .ok (.lrem, 1) := by decide +kernel
theorem dX7_lots_87 : decode cX7_lots 87 = .ok (.lstore_n 3, 1) := by decide +kernel
theorem dX7_lots_88 : decode cX7_lots 88 = .ok (.aload_n 0, 1) := by decide +kernel
theorem dX7_lots_89 : decode cX7_lots 89 = .ok (.getfield 71, 3) := by decide +kernel
theorem dX7_lots_92 : decode cX7_lots 92 = .ok (.aload_n 0, 1) := by decide +kernel
theorem dX7_lots_93 : decode cX7_lots 93 = .ok (.getfield 29, 3) := by decide +kernel
theorem dX7_lots_96 : decode cX7_lots 96 = .ok (.iload 7, 2) := by decide +kernel
theorem dX7_lots_98 : decode cX7_lots 98 = .ok (.lload_n 3, 1) := by decide +kernel
theorem dX7_lots_99 : decode cX7_lots 99 = .ok (.iload 8, 2) := by decide +kernel
theorem dX7_lots_101 : decode cX7_lots 101 = .ok (.i2l, 1) := by decide +kernel
theorem dX7_lots_102 : decode cX7_lots 102 = .ok (.lrem, 1) := by decide +kernel
theorem dX7_lots_103 : decode cX7_lots 103 = .ok (.l2i, 1) := by decide +kernel
theorem dX7_lots_104 : decode cX7_lots 104 = .ok (.invokevirtual 291, 3) := by decide +kernel
theorem dX7_lots_107 : decode cX7_lots 107 = .ok (.aload_n 0, 1) := by decide +kernel
theorem dX7_lots_108 : decode cX7_lots 108 = .ok (.getfield 29, 3) := by decide +kernel
theorem dX7_lots_111 : decode cX7_lots 111 = .ok (.invokevirtual 200, 3) := by decide +kernel
theorem dX7_lots_114 : decode cX7_lots 114 = .ok (.iinc 5 1, 3) := by decide +kernel
theorem dX7_lots_117 : decode cX7_lots 117 = .ok (.iinc 6 1, 3) := by decide +kernel
theorem dX7_lots_120 : decode cX7_lots 120 = .ok (.goto (-74), 3) := by decide +kernel
theorem dX7_lots_123 : decode cX7_lots 123 = .ok (.iload 5, 2) := by decide +kernel
theorem dX7_lots_125 : decode cX7_lots 125 = .ok (.ireturn, 1) := by decide +kernel
theorem dX7_asked_0 : decode cX7_asked 0 = .ok (.aload_n 0, 1) := by decide +kernel
theorem dX7_asked_1 : decode cX7_asked 1 = .ok (.getfield 238, 3) := by decide +kernel
theorem dX7_asked_4 : decode cX7_asked 4 = .ok (.ireturn, 1) := by decide +kernel
theorem dX7_upper_0 : decode cX7_upper 0 = .ok (.aload_n 0, 1) := by decide +kernel
theorem dX7_upper_1 : decode cX7_upper 1 = .ok (.getfield 359, 3) := by decide +kernel
theorem dX7_upper_4 : decode cX7_upper 4 = .ok (.lreturn, 1) := by decide +kernel
theorem dX7_lower_0 : decode cX7_lower 0 = .ok (.aload_n 0, 1) := by decide +kernel
theorem dX7_lower_1 : decode cX7_lower 1 = .ok (.getfield 82, 3) := by decide +kernel
theorem dX7_lower_4 : decode cX7_lower 4 = .ok (.lreturn, 1) := by decide +kernel
theorem dX7_count_0 : decode cX7_count 0 = .ok (.iload_n 1, 1) := by decide +kernel
theorem dX7_count_1 : decode cX7_count 1 = .ok (.ifCond .lt 9, 3) := by decide +kernel
theorem dX7_count_4 : decode cX7_count 4 = .ok (.iload_n 1, 1) := by decide +kernel
theorem dX7_count_5 : decode cX7_count 5 = .ok (.bipush 8, 2) := by decide +kernel
theorem dX7_count_7 : decode cX7_count 7 = .ok (.if_icmp .le 7, 3) := by decide +kernel
theorem dX7_count_10 : decode cX7_count 10 = .ok (.iconst (-1), 1) := by decide +kernel
theorem dX7_count_11 : decode cX7_count 11 = .ok (.goto 8, 3) := by decide +kernel
theorem dX7_count_14 : decode cX7_count 14 = .ok (.aload_n 0, 1) := by decide +kernel
theorem dX7_count_15 : decode cX7_count 15 = .ok (.iload_n 1, 1) := by decide +kernel
theorem dX7_count_16 : decode cX7_count 16 = .ok (.invokevirtual 362, 3) := by decide +kernel
theorem dX7_count_19 : decode cX7_count 19 = .ok (.ireturn, 1) := by decide +kernel
theorem dX7_finding_0 : decode cX7_finding 0 = .ok (.aload_n 0, 1) := by decide +kernel
theorem dX7_finding_1 : decode cX7_finding 1 = .ok (.getfield 365, 3) := by decide +kernel
theorem dX7_finding_4 : decode cX7_finding 4 = .ok (.ireturn, 1) := by decide +kernel
theorem dX7_findings_0 : decode cX7_findings 0 = .ok (.iload_n 1, 1) := by decide +kernel
theorem dX7_findings_1 : decode cX7_findings 1 = .ok (.iconst 1, 1) := by decide +kernel
theorem dX7_findings_2 : decode cX7_findings 2 = .ok (.if_icmp .lt 8, 3) := by decide +kernel
theorem dX7_findings_5 : decode cX7_findings 5 = .ok (.iload_n 1, 1) := by decide +kernel
theorem dX7_findings_6 : decode cX7_findings 6 = .ok (.iconst 5, 1) := by decide +kernel
theorem dX7_findings_7 : decode cX7_findings 7 = .ok (.if_icmp .le 7, 3) := by decide +kernel
theorem dX7_findings_10 : decode cX7_findings 10 = .ok (.iconst (-1), 1) := by decide +kernel
theorem dX7_findings_11 : decode cX7_findings 11 = .ok (.goto 9, 3) := by decide +kernel
theorem dX7_findings_14 : decode cX7_findings 14 = .ok (.aload_n 0, 1) := by decide +kernel
theorem dX7_findings_15 : decode cX7_findings 15 = .ok (.getfield 79, 3) := by decide +kernel
theorem dX7_findings_18 : decode cX7_findings 18 = .ok (.iload_n 1, 1) := by decide +kernel
theorem dX7_findings_19 : decode cX7_findings 19 = .ok (.iaload, 1) := by decide +kernel
theorem dX7_findings_20 : decode cX7_findings 20 = .ok (.ireturn, 1) := by decide +kernel
theorem dX7_digest_0 : decode cX7_digest 0 = .ok (.ldc2_w 368, 3) := by decide +kernel
theorem dX7_digest_3 : decode cX7_digest 3 = .ok (.lstore_n 1, 1) := by decide +kernel
theorem dX7_digest_4 : decode cX7_digest 4 = .ok (.iconst 0, 1) := by decide +kernel
theorem dX7_digest_5 : decode cX7_digest 5 = .ok (.istore_n 3, 1) := by decide +kernel
theorem dX7_digest_6 : decode cX7_digest 6 = .ok (.iload_n 3, 1) := by decide +kernel
theorem dX7_digest_7 : decode cX7_digest 7 = .ok (.bipush 8, 2) := by decide +kernel
theorem dX7_digest_9 : decode cX7_digest 9 = .ok (.if_icmp .gt 20, 3) := by decide +kernel
theorem dX7_digest_12 : decode cX7_digest 12 = .ok (.lload_n 1, 1) := by decide +kernel
theorem dX7_digest_13 : decode cX7_digest 13 = .ok (.aload_n 0, 1) := by decide +kernel
theorem dX7_digest_14 : decode cX7_digest 14 = .ok (.iload_n 3, 1) := by decide +kernel
theorem dX7_digest_15 : decode cX7_digest 15 = .ok (.invokevirtual 362, 3) := by decide +kernel
theorem dX7_digest_18 : decode cX7_digest 18 = .ok (.i2l, 1) := by decide +kernel
theorem dX7_digest_19 : decode cX7_digest 19 = .ok (.invokestatic 370, 3) := by decide +kernel
theorem dX7_digest_22 : decode cX7_digest 22 = .ok (.lstore_n 1, 1) := by decide +kernel
theorem dX7_digest_23 : decode cX7_digest 23 = .ok (.iinc 3 1, 3) := by decide +kernel
theorem dX7_digest_26 : decode cX7_digest 26 = .ok (.goto (-20), 3) := by decide +kernel
theorem dX7_digest_29 : decode cX7_digest 29 = .ok (.aload_n 0, 1) := by decide +kernel
theorem dX7_digest_30 : decode cX7_digest 30 = .ok (.lload_n 1, 1) := by decide +kernel
theorem dX7_digest_31 : decode cX7_digest 31 = .ok (.invokevirtual 374, 3) := by decide +kernel
theorem dX7_digest_34 : decode cX7_digest 34 = .ok (.lstore_n 1, 1) := by decide +kernel
theorem dX7_digest_35 : decode cX7_digest 35 = .ok (.iconst 0, 1) := by decide +kernel
theorem dX7_digest_36 : decode cX7_digest 36 = .ok (.istore_n 3, 1) := by decide +kernel
theorem dX7_digest_37 : decode cX7_digest 37 = .ok (.iload_n 3, 1) := by decide +kernel
theorem dX7_digest_38 : decode cX7_digest 38 = .ok (.aload_n 0, 1) := by decide +kernel
theorem dX7_digest_39 : decode cX7_digest 39 = .ok (.getfield 71, 3) := by decide +kernel
theorem dX7_digest_42 : decode cX7_digest 42 = .ok (.getfield 92, 3) := by decide +kernel
theorem dX7_digest_45 : decode cX7_digest 45 = .ok (.if_icmp .ge 24, 3) := by decide +kernel
theorem dX7_digest_48 : decode cX7_digest 48 = .ok (.lload_n 1, 1) := by decide +kernel
theorem dX7_digest_49 : decode cX7_digest 49 = .ok (.aload_n 0, 1) := by decide +kernel
theorem dX7_digest_50 : decode cX7_digest 50 = .ok (.getfield 71, 3) := by decide +kernel
theorem dX7_digest_53 : decode cX7_digest 53 = .ok (.getfield 244, 3) := by decide +kernel
theorem dX7_digest_56 : decode cX7_digest 56 = .ok (.iload_n 3, 1) := by decide +kernel
theorem dX7_digest_57 : decode cX7_digest 57 = .ok (.iaload, 1) := by decide +kernel
theorem dX7_digest_58 : decode cX7_digest 58 = .ok (.i2l, 1) := by decide +kernel
theorem dX7_digest_59 : decode cX7_digest 59 = .ok (.invokestatic 370, 3) := by decide +kernel
theorem dX7_digest_62 : decode cX7_digest 62 = .ok (.lstore_n 1, 1) := by decide +kernel
theorem dX7_digest_63 : decode cX7_digest 63 = .ok (.iinc 3 1, 3) := by decide +kernel
theorem dX7_digest_66 : decode cX7_digest 66 = .ok (.goto (-29), 3) := by decide +kernel
theorem dX7_digest_69 : decode cX7_digest 69 = .ok (.iconst 0, 1) := by decide +kernel
theorem dX7_digest_70 : decode cX7_digest 70 = .ok (.istore_n 3, 1) := by decide +kernel
theorem dX7_digest_71 : decode cX7_digest 71 = .ok (.iload_n 3, 1) := by decide +kernel
theorem dX7_digest_72 : decode cX7_digest 72 = .ok (.iconst 3, 1) := by decide +kernel
theorem dX7_digest_73 : decode cX7_digest 73 = .ok (.if_icmp .ge 24, 3) := by decide +kernel
theorem dX7_digest_76 : decode cX7_digest 76 = .ok (.lload_n 1, 1) := by decide +kernel
theorem dX7_digest_77 : decode cX7_digest 77 = .ok (.aload_n 0, 1) := by decide +kernel
theorem dX7_digest_78 : decode cX7_digest 78 = .ok (.getfield 75, 3) := by decide +kernel
theorem dX7_digest_81 : decode cX7_digest 81 = .ok (.iload_n 3, 1) := by decide +kernel
theorem dX7_digest_82 : decode cX7_digest 82 = .ok (.aaload, 1) := by decide +kernel
theorem dX7_digest_83 : decode cX7_digest 83 = .ok (.getfield 92, 3) := by decide +kernel
theorem dX7_digest_86 : decode cX7_digest 86 = .ok (.i2l, 1) := by decide +kernel
theorem dX7_digest_87 : decode cX7_digest 87 = .ok (.invokestatic 370, 3) := by decide +kernel
theorem dX7_digest_90 : decode cX7_digest 90 = .ok (.lstore_n 1, 1) := by decide +kernel
theorem dX7_digest_91 : decode cX7_digest 91 = .ok (.iinc 3 1, 3) := by decide +kernel
theorem dX7_digest_94 : decode cX7_digest 94 = .ok (.goto (-23), 3) := by decide +kernel
theorem dX7_digest_97 : decode cX7_digest 97 = .ok (.aload_n 0, 1) := by decide +kernel
theorem dX7_digest_98 : decode cX7_digest 98 = .ok (.lload_n 1, 1) := by decide +kernel
theorem dX7_digest_99 : decode cX7_digest 99 = .ok (.invokevirtual 378, 3) := by decide +kernel
theorem dX7_digest_102 : decode cX7_digest 102 = .ok (.lreturn, 1) := by decide +kernel
theorem dX7_found_0 : decode cX7_found 0 = .ok (.aload_n 0, 1) := by decide +kernel
theorem dX7_found_1 : decode cX7_found 1 = .ok (.iload_n 1, 1) := by decide +kernel
theorem dX7_found_2 : decode cX7_found 2 = .ok (.putfield 365, 3) := by decide +kernel
theorem dX7_found_5 : decode cX7_found 5 = .ok (.aload_n 0, 1) := by decide +kernel
theorem dX7_found_6 : decode cX7_found 6 = .ok (.getfield 79, 3) := by decide +kernel
theorem dX7_found_9 : decode cX7_found 9 = .ok (.iload_n 1, 1) := by decide +kernel
theorem dX7_found_10 : decode cX7_found 10 = .ok (.dup2, 1) := by decide +kernel
theorem dX7_found_11 : decode cX7_found 11 = .ok (.iaload, 1) := by decide +kernel
theorem dX7_found_12 : decode cX7_found 12 = .ok (.iconst 1, 1) := by decide +kernel
theorem dX7_found_13 : decode cX7_found 13 = .ok (.iadd, 1) := by decide +kernel
theorem dX7_found_14 : decode cX7_found 14 = .ok (.iastore, 1) := by decide +kernel
theorem dX7_found_15 : decode cX7_found 15 = .ok (.bipush (-3), 2) := by decide +kernel
theorem dX7_found_17 : decode cX7_found 17 = .ok (.ireturn, 1) := by decide +kernel
theorem dX7_tells_0 : decode cX7_tells 0 = .ok (.aload_n 0, 1) := by decide +kernel
theorem dX7_tells_1 : decode cX7_tells 1 = .ok (.iload_n 1, 1) := by decide +kernel
theorem dX7_tells_2 : decode cX7_tells 2 = .ok (.putfield 238, 3) := by decide +kernel
theorem dX7_tells_5 : decode cX7_tells 5 = .ok (.iconst 1, 1) := by decide +kernel
theorem dX7_tells_6 : decode cX7_tells 6 = .ok (.ireturn, 1) := by decide +kernel
theorem dX7_tellsRatio_0 : decode cX7_tellsRatio 0 = .ok (.lload_n 1, 1) := by decide +kernel
theorem dX7_tellsRatio_1 : decode cX7_tellsRatio 1 = .ok (.invokestatic 381, 3) := by decide +kernel
theorem dX7_tellsRatio_4 : decode cX7_tellsRatio 4 = .ok (.lload_n 3, 1) := by decide +kernel
theorem dX7_tellsRatio_5 : decode cX7_tellsRatio 5 = .ok (.invokestatic 386, 3) := by decide +kernel
theorem dX7_tellsRatio_8 : decode cX7_tellsRatio 8 = .ok (.lstore 5, 2) := by decide +kernel
theorem dX7_tellsRatio_10 : decode cX7_tellsRatio 10 = .ok (.lload 5, 2) := by decide +kernel
theorem dX7_tellsRatio_12 : decode cX7_tellsRatio 12 = .ok (.lconst 0, 1) := by decide +kernel
theorem dX7_tellsRatio_13 : decode cX7_tellsRatio 13 = .ok (.lcmp, 1) := by decide +kernel
theorem dX7_tellsRatio_14 : decode cX7_tellsRatio 14 = .ok (.ifCond .le 19, 3) := by decide +kernel
theorem dX7_tellsRatio_17 : decode cX7_tellsRatio 17 = .ok (.aload_n 0, 1) := by decide +kernel
theorem dX7_tellsRatio_18 : decode cX7_tellsRatio 18 = .ok (.lload_n 1, 1) := by decide +kernel
theorem dX7_tellsRatio_19 : decode cX7_tellsRatio 19 = .ok (.lload 5, 2) := by decide +kernel
theorem dX7_tellsRatio_21 : decode cX7_tellsRatio 21 = .ok (.ldiv, 1) := by decide +kernel
theorem dX7_tellsRatio_22 : decode cX7_tellsRatio 22 = .ok (.putfield 359, 3) := by decide +kernel
theorem dX7_tellsRatio_25 : decode cX7_tellsRatio 25 = .ok (.aload_n 0, 1) := by decide +kernel
theorem dX7_tellsRatio_26 : decode cX7_tellsRatio 26 = .ok (.lload_n 3, 1) := by decide +kernel
theorem dX7_tellsRatio_27 : decode cX7_tellsRatio 27 = .ok (.lload 5, 2) := by decide +kernel
theorem dX7_tellsRatio_29 : decode cX7_tellsRatio 29 = .ok (.ldiv, 1) := by decide +kernel
theorem dX7_tellsRatio_30 : decode cX7_tellsRatio 30 = .ok (.putfield 82, 3) := by decide +kernel
theorem dX7_tellsRatio_33 : decode cX7_tellsRatio 33 = .ok (.return_, 1) := by decide +kernel
theorem dX7_commonDivisor_0 : decode cX7_commonDivisor 0 = .ok (.lload_n 0, 1) := by decide +kernel
theorem dX7_commonDivisor_1 : decode cX7_commonDivisor 1 = .ok (.lstore 4, 2) := by decide +kernel
theorem dX7_commonDivisor_3 : decode cX7_commonDivisor 3 = .ok (.lload_n 2, 1) := by decide +kernel
theorem dX7_commonDivisor_4 : decode cX7_commonDivisor 4 = .ok (.lstore 6, 2) := by decide +kernel
theorem dX7_commonDivisor_6 : decode cX7_commonDivisor 6 = .ok (.iconst 0, 1) := by decide +kernel
theorem dX7_commonDivisor_7 : decode cX7_commonDivisor 7 = .ok (.istore 8, 2) := by decide +kernel
theorem dX7_commonDivisor_9 : decode cX7_commonDivisor 9 = .ok (.iload 8, 2) := by decide +kernel
theorem dX7_commonDivisor_11 : decode cX7_commonDivisor 11 = .ok (.bipush 100, 2) := by decide +kernel
theorem dX7_commonDivisor_13 : decode cX7_commonDivisor 13 = .ok (.if_icmp .ge 31, 3) := by decide +kernel
theorem dX7_commonDivisor_16 : decode cX7_commonDivisor 16 = .ok (.lload 6, 2) := by decide +kernel
theorem dX7_commonDivisor_18 : decode cX7_commonDivisor 18 = .ok (.lconst 0, 1) := by decide +kernel
theorem dX7_commonDivisor_19 : decode cX7_commonDivisor 19 = .ok (.lcmp, 1) := by decide +kernel
theorem dX7_commonDivisor_20 : decode cX7_commonDivisor 20 = .ok (.ifCond .eq 24, 3) := by decide +kernel
theorem dX7_commonDivisor_23 : decode cX7_commonDivisor 23 = .ok (.lload 4, 2) := by decide +kernel
theorem dX7_commonDivisor_25 : decode cX7_commonDivisor 25 = .ok (.lload 6, 2) := by decide +kernel
theorem dX7_commonDivisor_27 : decode cX7_commonDivisor 27 = .ok (.lrem, 1) := by decide +kernel
theorem dX7_commonDivisor_28 : decode cX7_commonDivisor 28 = .ok (.lstore 9, 2) := by decide +kernel
theorem dX7_commonDivisor_30 : decode cX7_commonDivisor 30 = .ok (.lload 6, 2) := by decide +kernel
theorem dX7_commonDivisor_32 : decode cX7_commonDivisor 32 = .ok (.lstore 4, 2) := by decide +kernel
theorem dX7_commonDivisor_34 : decode cX7_commonDivisor 34 = .ok (.lload 9, 2) := by decide +kernel
theorem dX7_commonDivisor_36 : decode cX7_commonDivisor 36 = .ok (.lstore 6, 2) := by decide +kernel
theorem dX7_commonDivisor_38 : decode cX7_commonDivisor 38 = .ok (.iinc 8 1, 3) := by decide +kernel
theorem dX7_commonDivisor_41 : decode cX7_commonDivisor 41 = .ok (.goto (-32), 3) := by decide +kernel
theorem dX7_commonDivisor_44 : decode cX7_commonDivisor 44 = .ok (.lload 4, 2) := by decide +kernel
theorem dX7_commonDivisor_46 : decode cX7_commonDivisor 46 = .ok (.lreturn, 1) := by decide +kernel
theorem dX7_isUnspoken_0 : decode cX7_isUnspoken 0 = .ok (.aload_n 0, 1) := by decide +kernel
theorem dX7_isUnspoken_1 : decode cX7_isUnspoken 1 = .ok (.getfield 29, 3) := by decide +kernel
theorem dX7_isUnspoken_4 : decode cX7_isUnspoken 4 = .ok (.getfield 150, 3) := by decide +kernel
theorem dX7_isUnspoken_7 : decode cX7_isUnspoken 7 = .ok (.ifCond .ne 7, 3) := by decide +kernel
theorem dX7_isUnspoken_10 : decode cX7_isUnspoken 10 = .ok (.iconst 1, 1) := by decide +kernel
theorem dX7_isUnspoken_11 : decode cX7_isUnspoken 11 = .ok (.goto 4, 3) := by decide +kernel
theorem dX7_isUnspoken_14 : decode cX7_isUnspoken 14 = .ok (.iconst 0, 1) := by decide +kernel
theorem dX7_isUnspoken_15 : decode cX7_isUnspoken 15 = .ok (.ireturn, 1) := by decide +kernel
theorem dX7_isNoRow_0 : decode cX7_isNoRow 0 = .ok (.iload_n 0, 1) := by decide +kernel
theorem dX7_isNoRow_1 : decode cX7_isNoRow 1 = .ok (.ifCond .lt 9, 3) := by decide +kernel
theorem dX7_isNoRow_4 : decode cX7_isNoRow 4 = .ok (.iload_n 0, 1) := by decide +kernel
theorem dX7_isNoRow_5 : decode cX7_isNoRow 5 = .ok (.bipush 6, 2) := by decide +kernel
theorem dX7_isNoRow_7 : decode cX7_isNoRow 7 = .ok (.if_icmp .lt 7, 3) := by decide +kernel
theorem dX7_isNoRow_10 : decode cX7_isNoRow 10 = .ok (.iconst 1, 1) := by decide +kernel
theorem dX7_isNoRow_11 : decode cX7_isNoRow 11 = .ok (.goto 4, 3) := by decide +kernel
theorem dX7_isNoRow_14 : decode cX7_isNoRow 14 = .ok (.iconst 0, 1) := by decide +kernel
theorem dX7_isNoRow_15 : decode cX7_isNoRow 15 = .ok (.ireturn, 1) := by decide +kernel
theorem dX7_isNoText_0 : decode cX7_isNoText 0 = .ok (.iload_n 0, 1) := by decide +kernel
theorem dX7_isNoText_1 : decode cX7_isNoText 1 = .ok (.ifCond .lt 8, 3) := by decide +kernel
theorem dX7_isNoText_4 : decode cX7_isNoText 4 = .ok (.iload_n 0, 1) := by decide +kernel
theorem dX7_isNoText_5 : decode cX7_isNoText 5 = .ok (.iconst 4, 1) := by decide +kernel
theorem dX7_isNoText_6 : decode cX7_isNoText 6 = .ok (.if_icmp .lt 7, 3) := by decide +kernel
theorem dX7_isNoText_9 : decode cX7_isNoText 9 = .ok (.iconst 1, 1) := by decide +kernel
theorem dX7_isNoText_10 : decode cX7_isNoText 10 = .ok (.goto 4, 3) := by decide +kernel
theorem dX7_isNoText_13 : decode cX7_isNoText 13 = .ok (.iconst 0, 1) := by decide +kernel
theorem dX7_isNoText_14 : decode cX7_isNoText 14 = .ok (.ireturn, 1) := by decide +kernel
theorem dX7_isNoPlace_0 : decode cX7_isNoPlace 0 = .ok (.iload_n 0, 1) := by decide +kernel
theorem dX7_isNoPlace_1 : decode cX7_isNoPlace 1 = .ok (.ifCond .lt 8, 3) := by decide +kernel
theorem dX7_isNoPlace_4 : decode cX7_isNoPlace 4 = .ok (.iload_n 0, 1) := by decide +kernel
theorem dX7_isNoPlace_5 : decode cX7_isNoPlace 5 = .ok (.iconst 3, 1) := by decide +kernel
theorem dX7_isNoPlace_6 : decode cX7_isNoPlace 6 = .ok (.if_icmp .lt 7, 3) := by decide +kernel
theorem dX7_isNoPlace_9 : decode cX7_isNoPlace 9 = .ok (.iconst 1, 1) := by decide +kernel
theorem dX7_isNoPlace_10 : decode cX7_isNoPlace 10 = .ok (.goto 4, 3) := by decide +kernel
theorem dX7_isNoPlace_13 : decode cX7_isNoPlace 13 = .ok (.iconst 0, 1) := by decide +kernel
theorem dX7_isNoPlace_14 : decode cX7_isNoPlace 14 = .ok (.ireturn, 1) := by decide +kernel
theorem dX7_isNoNode_0 : decode cX7_isNoNode 0 = .ok (.iload_n 1, 1) := by decide +kernel
theorem dX7_isNoNode_1 : decode cX7_isNoNode 1 = .ok (.ifCond .lt 14, 3) := by decide +kernel
theorem dX7_isNoNode_4 : decode cX7_isNoNode 4 = .ok (.iload_n 1, 1) := by decide +kernel
theorem dX7_isNoNode_5 : decode cX7_isNoNode 5 = .ok (.aload_n 0, 1) := by decide +kernel
theorem dX7_isNoNode_6 : decode cX7_isNoNode 6 = .ok (.getfield 29, 3) := by decide +kernel
theorem dX7_isNoNode_9 : decode cX7_isNoNode 9 = .ok (.getfield 150, 3) := by decide +kernel
theorem dX7_isNoNode_12 : decode cX7_isNoNode 12 = .ok (.if_icmp .lt 7, 3) := by decide +kernel
theorem dX7_isNoNode_15 : decode cX7_isNoNode 15 = .ok (.iconst 1, 1) := by decide +kernel
theorem dX7_isNoNode_16 : decode cX7_isNoNode 16 = .ok (.goto 4, 3) := by decide +kernel
theorem dX7_isNoNode_19 : decode cX7_isNoNode 19 = .ok (.iconst 0, 1) := by decide +kernel
theorem dX7_isNoNode_20 : decode cX7_isNoNode 20 = .ok (.ireturn, 1) := by decide +kernel
theorem dX7_isNoWord_0 : decode cX7_isNoWord 0 = .ok (.iload_n 1, 1) := by decide +kernel
theorem dX7_isNoWord_1 : decode cX7_isNoWord 1 = .ok (.ifCond .lt 14, 3) := by decide +kernel
theorem dX7_isNoWord_4 : decode cX7_isNoWord 4 = .ok (.iload_n 1, 1) := by decide +kernel
theorem dX7_isNoWord_5 : decode cX7_isNoWord 5 = .ok (.aload_n 0, 1) := by decide +kernel
theorem dX7_isNoWord_6 : decode cX7_isNoWord 6 = .ok (.getfield 29, 3) := by decide +kernel
theorem dX7_isNoWord_9 : decode cX7_isNoWord 9 = .ok (.getfield 389, 3) := by decide +kernel
theorem dX7_isNoWord_12 : decode cX7_isNoWord 12 = .ok (.if_icmp .lt 7, 3) := by decide +kernel
theorem dX7_isNoWord_15 : decode cX7_isNoWord 15 = .ok (.iconst 1, 1) := by decide +kernel
theorem dX7_isNoWord_16 : decode cX7_isNoWord 16 = .ok (.goto 4, 3) := by decide +kernel
theorem dX7_isNoWord_19 : decode cX7_isNoWord 19 = .ok (.iconst 0, 1) := by decide +kernel
theorem dX7_isNoWord_20 : decode cX7_isNoWord 20 = .ok (.ireturn, 1) := by decide +kernel
theorem dX7_isNoDeed_0 : decode cX7_isNoDeed 0 = .ok (.iload_n 1, 1) := by decide +kernel
theorem dX7_isNoDeed_1 : decode cX7_isNoDeed 1 = .ok (.ifCond .lt 14, 3) := by decide +kernel
theorem dX7_isNoDeed_4 : decode cX7_isNoDeed 4 = .ok (.iload_n 1, 1) := by decide +kernel
theorem dX7_isNoDeed_5 : decode cX7_isNoDeed 5 = .ok (.aload_n 0, 1) := by decide +kernel
theorem dX7_isNoDeed_6 : decode cX7_isNoDeed 6 = .ok (.getfield 29, 3) := by decide +kernel
theorem dX7_isNoDeed_9 : decode cX7_isNoDeed 9 = .ok (.getfield 392, 3) := by decide +kernel
theorem dX7_isNoDeed_12 : decode cX7_isNoDeed 12 = .ok (.if_icmp .lt 7, 3) := by decide +kernel
theorem dX7_isNoDeed_15 : decode cX7_isNoDeed 15 = .ok (.iconst 1, 1) := by decide +kernel
theorem dX7_isNoDeed_16 : decode cX7_isNoDeed 16 = .ok (.goto 4, 3) := by decide +kernel
theorem dX7_isNoDeed_19 : decode cX7_isNoDeed 19 = .ok (.iconst 0, 1) := by decide +kernel
theorem dX7_isNoDeed_20 : decode cX7_isNoDeed 20 = .ok (.ireturn, 1) := by decide +kernel
theorem dX7_isBeyond_0 : decode cX7_isBeyond 0 = .ok (.iload_n 1, 1) := by decide +kernel
theorem dX7_isBeyond_1 : decode cX7_isBeyond 1 = .ok (.ifCond .lt 15, 3) := by decide +kernel
theorem dX7_isBeyond_4 : decode cX7_isBeyond 4 = .ok (.iload_n 1, 1) := by decide +kernel
theorem dX7_isBeyond_5 : decode cX7_isBeyond 5 = .ok (.iload_n 0, 1) := by decide +kernel
theorem dX7_isBeyond_6 : decode cX7_isBeyond 6 = .ok (.if_icmp .gt 10, 3) := by decide +kernel
theorem dX7_isBeyond_9 : decode cX7_isBeyond 9 = .ok (.iload_n 2, 1) := by decide +kernel
theorem dX7_isBeyond_10 : decode cX7_isBeyond 10 = .ok (.iload_n 0, 1) := by decide +kernel
theorem dX7_isBeyond_11 : decode cX7_isBeyond 11 = .ok (.iload_n 1, 1) := by decide +kernel
theorem dX7_isBeyond_12 : decode cX7_isBeyond 12 = .ok (.isub, 1) := by decide +kernel
theorem dX7_isBeyond_13 : decode cX7_isBeyond 13 = .ok (.if_icmp .le 7, 3) := by decide +kernel
theorem dX7_isBeyond_16 : decode cX7_isBeyond 16 = .ok (.iconst 1, 1) := by decide +kernel
theorem dX7_isBeyond_17 : decode cX7_isBeyond 17 = .ok (.goto 4, 3) := by decide +kernel
theorem dX7_isBeyond_20 : decode cX7_isBeyond 20 = .ok (.iconst 0, 1) := by decide +kernel
theorem dX7_isBeyond_21 : decode cX7_isBeyond 21 = .ok (.ireturn, 1) := by decide +kernel
theorem dX7_rowRefusal_0 : decode cX7_rowRefusal 0 = .ok (.iload_n 1, 1) := by decide +kernel
theorem dX7_rowRefusal_1 : decode cX7_rowRefusal 1 = .ok (.invokestatic 96, 3) := by decide +kernel
theorem dX7_rowRefusal_4 : decode cX7_rowRefusal 4 = .ok (.ifCond .eq 5, 3) := by decide +kernel
theorem dX7_rowRefusal_7 : decode cX7_rowRefusal 7 = .ok (.iconst (-1), 1) := by decide +kernel
theorem dX7_rowRefusal_8 : decode cX7_rowRefusal 8 = .ok (.ireturn, 1) := by decide +kernel
theorem dX7_rowRefusal_9 : decode cX7_rowRefusal 9 = .ok (.aload_n 0, 1) := by decide +kernel
theorem dX7_rowRefusal_10 : decode cX7_rowRefusal 10 = .ok (.getfield 14, 3) := by decide +kernel
theorem dX7_rowRefusal_13 : decode cX7_rowRefusal 13 = .ok (.iload_n 1, 1) := by decide +kernel
theorem dX7_rowRefusal_14 : decode cX7_rowRefusal 14 = .ok (.iaload, 1) := by decide +kernel
theorem dX7_rowRefusal_15 : decode cX7_rowRefusal 15 = .ok (.ifCond .ge 11, 3) := by decide +kernel
theorem dX7_rowRefusal_18 : decode cX7_rowRefusal 18 = .ok (.aload_n 0, 1) := by decide +kernel
theorem dX7_rowRefusal_19 : decode cX7_rowRefusal 19 = .ok (.iconst 1, 1) := by decide +kernel
theorem dX7_rowRefusal_20 : decode cX7_rowRefusal 20 = .ok (.invokevirtual 100, 3) := by decide +kernel
theorem dX7_rowRefusal_23 : decode cX7_rowRefusal 23 = .ok (.goto 4, 3) := by decide +kernel
theorem dX7_rowRefusal_26 : decode cX7_rowRefusal 26 = .ok (.iconst 0, 1) := by decide +kernel
theorem dX7_rowRefusal_27 : decode cX7_rowRefusal 27 = .ok (.ireturn, 1) := by decide +kernel
theorem dX7_placeRefusal_0 : decode cX7_placeRefusal 0 = .ok (.aload_n 0, 1) := by decide +kernel
theorem dX7_placeRefusal_1 : decode cX7_placeRefusal 1 = .ok (.iload_n 1, 1) := by decide +kernel
theorem dX7_placeRefusal_2 : decode cX7_placeRefusal 2 = .ok (.invokevirtual 115, 3) := by decide +kernel
theorem dX7_placeRefusal_5 : decode cX7_placeRefusal 5 = .ok (.istore_n 3, 1) := by decide +kernel
theorem dX7_placeRefusal_6 : decode cX7_placeRefusal 6 = .ok (.iload_n 3, 1) := by decide +kernel
theorem dX7_placeRefusal_7 : decode cX7_placeRefusal 7 = .ok (.ifCond .eq 5, 3) := by decide +kernel
theorem dX7_placeRefusal_10 : decode cX7_placeRefusal 10 = .ok (.iload_n 3, 1) := by decide +kernel
theorem dX7_placeRefusal_11 : decode cX7_placeRefusal 11 = .ok (.ireturn, 1) := by decide +kernel
theorem dX7_placeRefusal_12 : decode cX7_placeRefusal 12 = .ok (.iload_n 2, 1) := by decide +kernel
theorem dX7_placeRefusal_13 : decode cX7_placeRefusal 13 = .ok (.ifCond .lt 13, 3) := by decide +kernel
theorem dX7_placeRefusal_16 : decode cX7_placeRefusal 16 = .ok (.iload_n 2, 1) := by decide +kernel
theorem dX7_placeRefusal_17 : decode cX7_placeRefusal 17 = .ok (.aload_n 0, 1) := by decide +kernel
theorem dX7_placeRefusal_18 : decode cX7_placeRefusal 18 = .ok (.getfield 14, 3) := by decide +kernel
theorem dX7_placeRefusal_21 : decode cX7_placeRefusal 21 = .ok (.iload_n 1, 1) := by decide +kernel
theorem dX7_placeRefusal_22 : decode cX7_placeRefusal 22 = .ok (.iaload, 1) := by decide +kernel
theorem dX7_placeRefusal_23 : decode cX7_placeRefusal 23 = .ok (.if_icmp .lt 11, 3) := by decide +kernel
theorem dX7_placeRefusal_26 : decode cX7_placeRefusal 26 = .ok (.aload_n 0, 1) := by decide +kernel
theorem dX7_placeRefusal_27 : decode cX7_placeRefusal 27 = .ok (.iconst 2, 1) := by decide +kernel
theorem dX7_placeRefusal_28 : decode cX7_placeRefusal 28 = .ok (.invokevirtual 100, 3) := by decide +kernel
theorem dX7_placeRefusal_31 : decode cX7_placeRefusal 31 = .ok (.goto 4, 3) := by decide +kernel
theorem dX7_placeRefusal_34 : decode cX7_placeRefusal 34 = .ok (.iconst 0, 1) := by decide +kernel
theorem dX7_placeRefusal_35 : decode cX7_placeRefusal 35 = .ok (.ireturn, 1) := by decide +kernel
theorem dX7_textRefusal_0 : decode cX7_textRefusal 0 = .ok (.iload_n 1, 1) := by decide +kernel
theorem dX7_textRefusal_1 : decode cX7_textRefusal 1 = .ok (.invokestatic 128, 3) := by decide +kernel
theorem dX7_textRefusal_4 : decode cX7_textRefusal 4 = .ok (.ifCond .eq 5, 3) := by decide +kernel
theorem dX7_textRefusal_7 : decode cX7_textRefusal 7 = .ok (.iconst (-1), 1) := by decide +kernel
theorem dX7_textRefusal_8 : decode cX7_textRefusal 8 = .ok (.ireturn, 1) := by decide +kernel
theorem dX7_textRefusal_9 : decode cX7_textRefusal 9 = .ok (.aload_n 0, 1) := by decide +kernel
theorem dX7_textRefusal_10 : decode cX7_textRefusal 10 = .ok (.getfield 23, 3) := by decide +kernel
theorem dX7_textRefusal_13 : decode cX7_textRefusal 13 = .ok (.iload_n 1, 1) := by decide +kernel
theorem dX7_textRefusal_14 : decode cX7_textRefusal 14 = .ok (.iaload, 1) := by decide +kernel
theorem dX7_textRefusal_15 : decode cX7_textRefusal 15 = .ok (.ifCond .ge 11, 3) := by decide +kernel
theorem dX7_textRefusal_18 : decode cX7_textRefusal 18 = .ok (.aload_n 0, 1) := by decide +kernel
theorem dX7_textRefusal_19 : decode cX7_textRefusal 19 = .ok (.iconst 1, 1) := by decide +kernel
theorem dX7_textRefusal_20 : decode cX7_textRefusal 20 = .ok (.invokevirtual 100, 3) := by decide +kernel
theorem dX7_textRefusal_23 : decode cX7_textRefusal 23 = .ok (.goto 4, 3) := by decide +kernel
theorem dX7_textRefusal_26 : decode cX7_textRefusal 26 = .ok (.iconst 0, 1) := by decide +kernel
theorem dX7_textRefusal_27 : decode cX7_textRefusal 27 = .ok (.ireturn, 1) := by decide +kernel
theorem dX7_sentenceRefusal_0 : decode cX7_sentenceRefusal 0 = .ok (.iload_n 1, 1) := by decide +kernel
theorem dX7_sentenceRefusal_1 : decode cX7_sentenceRefusal 1 = .ok (.invokestatic 96, 3) := by decide +kernel
theorem dX7_sentenceRefusal_4 : decode cX7_sentenceRefusal 4 = .ok (.ifCond .eq 5, 3) := by decide +kernel
theorem dX7_sentenceRefusal_7 : decode cX7_sentenceRefusal 7 = .ok (.iconst (-1), 1) := by decide +kernel
theorem dX7_sentenceRefusal_8 : decode cX7_sentenceRefusal 8 = .ok (.ireturn, 1) := by decide +kernel
theorem dX7_sentenceRefusal_9 : decode cX7_sentenceRefusal 9 = .ok (.aload_n 0, 1) := by decide +kernel
theorem dX7_sentenceRefusal_10 : decode cX7_sentenceRefusal 10 = .ok (.invokevirtual 230, 3) := by decide +kernel
theorem dX7_sentenceRefusal_13 : decode cX7_sentenceRefusal 13 = .ok (.ifCond .eq 6, 3) := by decide +kernel
theorem dX7_sentenceRefusal_16 : decode cX7_sentenceRefusal 16 = .ok (.bipush (-4), 2) := by decide +kernel
theorem dX7_sentenceRefusal_18 : decode cX7_sentenceRefusal 18 = .ok (.ireturn, 1) := by decide +kernel
theorem dX7_sentenceRefusal_19 : decode cX7_sentenceRefusal 19 = .ok (.aload_n 0, 1) := by decide +kernel
theorem dX7_sentenceRefusal_20 : decode cX7_sentenceRefusal 20 = .ok (.getfield 14, 3) := by decide +kernel
theorem dX7_sentenceRefusal_23 : decode cX7_sentenceRefusal 23 = .ok (.iload_n 1, 1) := by decide +kernel
theorem dX7_sentenceRefusal_24 : decode cX7_sentenceRefusal 24 = .ok (.iaload, 1) := by decide +kernel
theorem dX7_sentenceRefusal_25 : decode cX7_sentenceRefusal 25 = .ok (.ifCond .ge 9, 3) := by decide +kernel
theorem dX7_sentenceRefusal_28 : decode cX7_sentenceRefusal 28 = .ok (.aload_n 0, 1) := by decide +kernel
theorem dX7_sentenceRefusal_29 : decode cX7_sentenceRefusal 29 = .ok (.iconst 1, 1) := by decide +kernel
theorem dX7_sentenceRefusal_30 : decode cX7_sentenceRefusal 30 = .ok (.invokevirtual 100, 3) := by decide +kernel
theorem dX7_sentenceRefusal_33 : decode cX7_sentenceRefusal 33 = .ok (.ireturn, 1) := by decide +kernel
theorem dX7_sentenceRefusal_34 : decode cX7_sentenceRefusal 34 = .ok (.aload_n 0, 1) := by decide +kernel
theorem dX7_sentenceRefusal_35 : decode cX7_sentenceRefusal 35 = .ok (.getfield 14, 3) := by decide +kernel
theorem dX7_sentenceRefusal_38 : decode cX7_sentenceRefusal 38 = .ok (.iload_n 1, 1) := by decide +kernel
theorem dX7_sentenceRefusal_39 : decode cX7_sentenceRefusal 39 = .ok (.iaload, 1) := by decide +kernel
theorem dX7_sentenceRefusal_40 : decode cX7_sentenceRefusal 40 = .ok (.bipush 8, 2) := by decide +kernel
theorem dX7_sentenceRefusal_42 : decode cX7_sentenceRefusal 42 = .ok (.if_icmp .le 11, 3) := by decide +kernel
theorem dX7_sentenceRefusal_45 : decode cX7_sentenceRefusal 45 = .ok (.aload_n 0, 1) := by decide +kernel
theorem dX7_sentenceRefusal_46 : decode cX7_sentenceRefusal 46 = .ok (.iconst 5, 1) := by decide +kernel
theorem dX7_sentenceRefusal_47 : decode cX7_sentenceRefusal 47 = .ok (.invokevirtual 100, 3) := by decide +kernel
theorem dX7_sentenceRefusal_50 : decode cX7_sentenceRefusal 50 = .ok (.goto 4, 3) := by decide +kernel
theorem dX7_sentenceRefusal_53 : decode cX7_sentenceRefusal 53 = .ok (.iconst 0, 1) := by decide +kernel
theorem dX7_sentenceRefusal_54 : decode cX7_sentenceRefusal 54 = .ok (.ireturn, 1) := by decide +kernel
theorem dX7_soundsRefusal_0 : decode cX7_soundsRefusal 0 = .ok (.aload_n 0, 1) := by decide +kernel
theorem dX7_soundsRefusal_1 : decode cX7_soundsRefusal 1 = .ok (.iload_n 1, 1) := by decide +kernel
theorem dX7_soundsRefusal_2 : decode cX7_soundsRefusal 2 = .ok (.invokevirtual 303, 3) := by decide +kernel
theorem dX7_soundsRefusal_5 : decode cX7_soundsRefusal 5 = .ok (.istore_n 2, 1) := by decide +kernel
theorem dX7_soundsRefusal_6 : decode cX7_soundsRefusal 6 = .ok (.iload_n 2, 1) := by decide +kernel
theorem dX7_soundsRefusal_7 : decode cX7_soundsRefusal 7 = .ok (.ifCond .eq 5, 3) := by decide +kernel
theorem dX7_soundsRefusal_10 : decode cX7_soundsRefusal 10 = .ok (.iload_n 2, 1) := by decide +kernel
theorem dX7_soundsRefusal_11 : decode cX7_soundsRefusal 11 = .ok (.ireturn, 1) := by decide +kernel
theorem dX7_soundsRefusal_12 : decode cX7_soundsRefusal 12 = .ok (.iconst 0, 1) := by decide +kernel
theorem dX7_soundsRefusal_13 : decode cX7_soundsRefusal 13 = .ok (.istore_n 3, 1) := by decide +kernel
theorem dX7_soundsRefusal_14 : decode cX7_soundsRefusal 14 = .ok (.iload_n 3, 1) := by decide +kernel
theorem dX7_soundsRefusal_15 : decode cX7_soundsRefusal 15 = .ok (.aload_n 0, 1) := by decide +kernel
theorem dX7_soundsRefusal_16 : decode cX7_soundsRefusal 16 = .ok (.getfield 14, 3) := by decide +kernel
theorem dX7_soundsRefusal_19 : decode cX7_soundsRefusal 19 = .ok (.iload_n 1, 1) := by decide +kernel
theorem dX7_soundsRefusal_20 : decode cX7_soundsRefusal 20 = .ok (.iaload, 1) := by decide +kernel
theorem dX7_soundsRefusal_21 : decode cX7_soundsRefusal 21 = .ok (.if_icmp .ge 44, 3) := by decide +kernel
theorem dX7_soundsRefusal_24 : decode cX7_soundsRefusal 24 = .ok (.aload_n 0, 1) := by decide +kernel
theorem dX7_soundsRefusal_25 : decode cX7_soundsRefusal 25 = .ok (.getfield 11, 3) := by decide +kernel
theorem dX7_soundsRefusal_28 : decode cX7_soundsRefusal 28 = .ok (.iload_n 1, 1) := by decide +kernel
theorem dX7_soundsRefusal_29 : decode cX7_soundsRefusal 29 = .ok (.aaload, 1) := by decide +kernel
theorem dX7_soundsRefusal_30 : decode cX7_soundsRefusal 30 = .ok (.iload_n 3, 1) := by decide +kernel
theorem dX7_soundsRefusal_31 : decode cX7_soundsRefusal 31 = .ok (.iaload, 1) := by decide +kernel
theorem dX7_soundsRefusal_32 : decode cX7_soundsRefusal 32 = .ok (.istore 4, 2) := by decide +kernel
theorem dX7_soundsRefusal_34 : decode cX7_soundsRefusal 34 = .ok (.iload 4, 2) := by decide +kernel
theorem dX7_soundsRefusal_36 : decode cX7_soundsRefusal 36 = .ok (.bipush (-9), 2) := by decide +kernel
theorem dX7_soundsRefusal_38 : decode cX7_soundsRefusal 38 = .ok (.if_icmp .eq 21, 3) := by decide +kernel
theorem dX7_soundsRefusal_41 : decode cX7_soundsRefusal 41 = .ok (.iload 4, 2) := by decide +kernel
theorem dX7_soundsRefusal_43 : decode cX7_soundsRefusal 43 = .ok (.ifCond .lt 10, 3) := by decide +kernel
theorem dX7_soundsRefusal_46 : decode cX7_soundsRefusal 46 = .ok (.iload 4, 2) := by decide +kernel
theorem dX7_soundsRefusal_48 : decode cX7_soundsRefusal 48 = .ok (.bipush 10, 2) := by decide +kernel
theorem dX7_soundsRefusal_50 : decode cX7_soundsRefusal 50 = .ok (.if_icmp .lt 9, 3) := by decide +kernel
theorem dX7_soundsRefusal_53 : decode cX7_soundsRefusal 53 = .ok (.aload_n 0, 1) := by decide +kernel
theorem dX7_soundsRefusal_54 : decode cX7_soundsRefusal 54 = .ok (.iconst 3, 1) := by decide +kernel
theorem dX7_soundsRefusal_55 : decode cX7_soundsRefusal 55 = .ok (.invokevirtual 100, 3) := by decide +kernel
theorem dX7_soundsRefusal_58 : decode cX7_soundsRefusal 58 = .ok (.ireturn, 1) := by decide +kernel
theorem dX7_soundsRefusal_59 : decode cX7_soundsRefusal 59 = .ok (.iinc 3 1, 3) := by decide +kernel
theorem dX7_soundsRefusal_62 : decode cX7_soundsRefusal 62 = .ok (.goto (-48), 3) := by decide +kernel
theorem dX7_soundsRefusal_65 : decode cX7_soundsRefusal 65 = .ok (.iconst 0, 1) := by decide +kernel
theorem dX7_soundsRefusal_66 : decode cX7_soundsRefusal 66 = .ok (.ireturn, 1) := by decide +kernel
theorem dX7_layOut_0 : decode cX7_layOut 0 = .ok (.aload_n 0, 1) := by decide +kernel
theorem dX7_layOut_1 : decode cX7_layOut 1 = .ok (.getfield 11, 3) := by decide +kernel
theorem dX7_layOut_4 : decode cX7_layOut 4 = .ok (.iload_n 1, 1) := by decide +kernel
theorem dX7_layOut_5 : decode cX7_layOut 5 = .ok (.aaload, 1) := by decide +kernel
theorem dX7_layOut_6 : decode cX7_layOut 6 = .ok (.iconst 0, 1) := by decide +kernel
theorem dX7_layOut_7 : decode cX7_layOut 7 = .ok (.invokestatic 86, 3) := by decide +kernel
theorem dX7_layOut_10 : decode cX7_layOut 10 = .ok (.aload_n 0, 1) := by decide +kernel
theorem dX7_layOut_11 : decode cX7_layOut 11 = .ok (.getfield 14, 3) := by decide +kernel
theorem dX7_layOut_14 : decode cX7_layOut 14 = .ok (.iload_n 1, 1) := by decide +kernel
theorem dX7_layOut_15 : decode cX7_layOut 15 = .ok (.iload_n 2, 1) := by decide +kernel
theorem dX7_layOut_16 : decode cX7_layOut 16 = .ok (.iastore, 1) := by decide +kernel
theorem dX7_layOut_17 : decode cX7_layOut 17 = .ok (.return_, 1) := by decide +kernel
theorem dX7_fill_0 : decode cX7_fill 0 = .ok (.aload_n 0, 1) := by decide +kernel
theorem dX7_fill_1 : decode cX7_fill 1 = .ok (.iload_n 1, 1) := by decide +kernel
theorem dX7_fill_2 : decode cX7_fill 2 = .ok (.iload_n 3, 1) := by decide +kernel
theorem dX7_fill_3 : decode cX7_fill 3 = .ok (.invokevirtual 104, 3) := by decide +kernel
theorem dX7_fill_6 : decode cX7_fill 6 = .ok (.aload_n 2, 1) := by decide +kernel
theorem dX7_fill_7 : decode cX7_fill 7 = .ok (.iconst 0, 1) := by decide +kernel
theorem dX7_fill_8 : decode cX7_fill 8 = .ok (.aload_n 0, 1) := by decide +kernel
theorem dX7_fill_9 : decode cX7_fill 9 = .ok (.getfield 11, 3) := by decide +kernel
theorem dX7_fill_12 : decode cX7_fill 12 = .ok (.iload_n 1, 1) := by decide +kernel
theorem dX7_fill_13 : decode cX7_fill 13 = .ok (.aaload, 1) := by decide +kernel
theorem dX7_fill_14 : decode cX7_fill 14 = .ok (.iconst 0, 1) := by decide +kernel
theorem dX7_fill_15 : decode cX7_fill 15 = .ok (.iload_n 3, 1) := by decide +kernel
theorem dX7_fill_16 : decode cX7_fill 16 = .ok (.invokestatic 122, 3) := by decide +kernel
theorem dX7_fill_19 : decode cX7_fill 19 = .ok (.iload_n 3, 1) := by decide +kernel
theorem dX7_fill_20 : decode cX7_fill 20 = .ok (.ireturn, 1) := by decide +kernel
theorem dX7_nodeNow_0 : decode cX7_nodeNow 0 = .ok (.aload_n 0, 1) := by decide +kernel
theorem dX7_nodeNow_1 : decode cX7_nodeNow 1 = .ok (.getfield 71, 3) := by decide +kernel
theorem dX7_nodeNow_4 : decode cX7_nodeNow 4 = .ok (.getfield 92, 3) := by decide +kernel
theorem dX7_nodeNow_7 : decode cX7_nodeNow 7 = .ok (.ifCond .ne 7, 3) := by decide +kernel
theorem dX7_nodeNow_10 : decode cX7_nodeNow 10 = .ok (.iconst 0, 1) := by decide +kernel
theorem dX7_nodeNow_11 : decode cX7_nodeNow 11 = .ok (.goto 28, 3) := by decide +kernel
theorem dX7_nodeNow_14 : decode cX7_nodeNow 14 = .ok (.aload_n 0, 1) := by decide +kernel
theorem dX7_nodeNow_15 : decode cX7_nodeNow 15 = .ok (.getfield 29, 3) := by decide +kernel
theorem dX7_nodeNow_18 : decode cX7_nodeNow 18 = .ok (.getfield 204, 3) := by decide +kernel
theorem dX7_nodeNow_21 : decode cX7_nodeNow 21 = .ok (.aload_n 0, 1) := by decide +kernel
theorem dX7_nodeNow_22 : decode cX7_nodeNow 22 = .ok (.getfield 71, 3) := by decide +kernel
theorem dX7_nodeNow_25 : decode cX7_nodeNow 25 = .ok (.getfield 244, 3) := by decide +kernel
theorem dX7_nodeNow_28 : decode cX7_nodeNow 28 = .ok (.aload_n 0, 1) := by decide +kernel
theorem dX7_nodeNow_29 : decode cX7_nodeNow 29 = .ok (.getfield 71, 3) := by decide +kernel
theorem dX7_nodeNow_32 : decode cX7_nodeNow 32 = .ok (.getfield 92, 3) := by decide +kernel
theorem dX7_nodeNow_35 : decode cX7_nodeNow 35 = .ok (.iconst 1, 1) := by decide +kernel
theorem dX7_nodeNow_36 : decode cX7_nodeNow 36 = .ok (.isub, 1) := by decide +kernel
theorem dX7_nodeNow_37 : decode cX7_nodeNow 37 = .ok (.iaload, 1) := by decide +kernel
theorem dX7_nodeNow_38 : decode cX7_nodeNow 38 = .ok (.iaload, 1) := by decide +kernel
theorem dX7_nodeNow_39 : decode cX7_nodeNow 39 = .ok (.ireturn, 1) := by decide +kernel
theorem dX7_nodeBehind_0 : decode cX7_nodeBehind 0 = .ok (.aload_n 0, 1) := by decide +kernel
theorem dX7_nodeBehind_1 : decode cX7_nodeBehind 1 = .ok (.invokevirtual 197, 3) := by decide +kernel
theorem dX7_nodeBehind_4 : decode cX7_nodeBehind 4 = .ok (.istore_n 2, 1) := by decide +kernel
theorem dX7_nodeBehind_5 : decode cX7_nodeBehind 5 = .ok (.iconst 0, 1) := by decide +kernel
theorem dX7_nodeBehind_6 : decode cX7_nodeBehind 6 = .ok (.istore_n 3, 1) := by decide +kernel
theorem dX7_nodeBehind_7 : decode cX7_nodeBehind 7 = .ok (.iload_n 3, 1) := by decide +kernel
theorem dX7_nodeBehind_8 : decode cX7_nodeBehind 8 = .ok (.aload_n 0, 1) := by decide +kernel
theorem dX7_nodeBehind_9 : decode cX7_nodeBehind 9 = .ok (.getfield 14, 3) := by decide +kernel
theorem dX7_nodeBehind_12 : decode cX7_nodeBehind 12 = .ok (.iload_n 1, 1) := by decide +kernel
theorem dX7_nodeBehind_13 : decode cX7_nodeBehind 13 = .ok (.iaload, 1) := by decide +kernel
theorem dX7_nodeBehind_14 : decode cX7_nodeBehind 14 = .ok (.if_icmp .ge 55, 3) := by decide +kernel
theorem dX7_nodeBehind_17 : decode cX7_nodeBehind 17 = .ok (.aload_n 0, 1) := by decide +kernel
theorem dX7_nodeBehind_18 : decode cX7_nodeBehind 18 = .ok (.getfield 11, 3) := by decide +kernel
theorem dX7_nodeBehind_21 : decode cX7_nodeBehind 21 = .ok (.iload_n 1, 1) := by decide +kernel
theorem dX7_nodeBehind_22 : decode cX7_nodeBehind 22 = .ok (.aaload, 1) := by decide +kernel
theorem dX7_nodeBehind_23 : decode cX7_nodeBehind 23 = .ok (.iload_n 3, 1) := by decide +kernel
theorem dX7_nodeBehind_24 : decode cX7_nodeBehind 24 = .ok (.iaload, 1) := by decide +kernel
theorem dX7_nodeBehind_25 : decode cX7_nodeBehind 25 = .ok (.istore 4, 2) := by decide +kernel
theorem dX7_nodeBehind_27 : decode cX7_nodeBehind 27 = .ok (.aload_n 0, 1) := by decide +kernel
theorem dX7_nodeBehind_28 : decode cX7_nodeBehind 28 = .ok (.iload 4, 2) := by decide +kernel
theorem dX7_nodeBehind_30 : decode cX7_nodeBehind 30 = .ok (.invokevirtual 159, 3) := by decide +kernel
theorem dX7_nodeBehind_33 : decode cX7_nodeBehind 33 = .ok (.ifCond .ne 17, 3) := by decide +kernel
theorem dX7_nodeBehind_36 : decode cX7_nodeBehind 36 = .ok (.aload_n 0, 1) := by decide +kernel
theorem dX7_nodeBehind_37 : decode cX7_nodeBehind 37 = .ok (.getfield 29, 3) := by decide +kernel
theorem dX7_nodeBehind_40 : decode cX7_nodeBehind 40 = .ok (.getfield 194, 3) := by decide +kernel
theorem dX7_nodeBehind_43 : decode cX7_nodeBehind 43 = .ok (.iload 4, 2) := by decide +kernel
theorem dX7_nodeBehind_45 : decode cX7_nodeBehind 45 = .ok (.iaload, 1) := by decide +kernel
theorem dX7_nodeBehind_46 : decode cX7_nodeBehind 46 = .ok (.iload_n 2, 1) := by decide +kernel
theorem dX7_nodeBehind_47 : decode cX7_nodeBehind 47 = .ok (.if_icmp .eq 5, 3) := by decide +kernel
theorem dX7_nodeBehind_50 : decode cX7_nodeBehind 50 = .ok (.iconst (-1), 1) := by decide +kernel
theorem dX7_nodeBehind_51 : decode cX7_nodeBehind 51 = .ok (.ireturn, 1) := by decide +kernel
theorem dX7_nodeBehind_52 : decode cX7_nodeBehind 52 = .ok (.aload_n 0, 1) := by decide +kernel
theorem dX7_nodeBehind_53 : decode cX7_nodeBehind 53 = .ok (.getfield 29, 3) := by decide +kernel
theorem dX7_nodeBehind_56 : decode cX7_nodeBehind 56 = .ok (.getfield 204, 3) := by decide +kernel
theorem dX7_nodeBehind_59 : decode cX7_nodeBehind 59 = .ok (.iload 4, 2) := by decide +kernel
theorem dX7_nodeBehind_61 : decode cX7_nodeBehind 61 = .ok (.iaload, 1) := by decide +kernel
theorem dX7_nodeBehind_62 : decode cX7_nodeBehind 62 = .ok (.istore_n 2, 1) := by decide +kernel
theorem dX7_nodeBehind_63 : decode cX7_nodeBehind 63 = .ok (.iinc 3 1, 3) := by decide +kernel
theorem dX7_nodeBehind_66 : decode cX7_nodeBehind 66 = .ok (.goto (-59), 3) := by decide +kernel
theorem dX7_nodeBehind_69 : decode cX7_nodeBehind 69 = .ok (.iload_n 2, 1) := by decide +kernel
theorem dX7_nodeBehind_70 : decode cX7_nodeBehind 70 = .ok (.ireturn, 1) := by decide +kernel
theorem dX7_isToAnOver_0 : decode cX7_isToAnOver 0 = .ok (.aload_n 0, 1) := by decide +kernel
theorem dX7_isToAnOver_1 : decode cX7_isToAnOver 1 = .ok (.iload_n 1, 1) := by decide +kernel
theorem dX7_isToAnOver_2 : decode cX7_isToAnOver 2 = .ok (.invokevirtual 338, 3) := by decide +kernel
theorem dX7_isToAnOver_5 : decode cX7_isToAnOver 5 = .ok (.istore_n 2, 1) := by decide +kernel
theorem dX7_isToAnOver_6 : decode cX7_isToAnOver 6 = .ok (.iload_n 2, 1) := by decide +kernel
theorem dX7_isToAnOver_7 : decode cX7_isToAnOver 7 = .ok (.ifCond .lt 18, 3) := by decide +kernel
theorem dX7_isToAnOver_10 : decode cX7_isToAnOver 10 = .ok (.aload_n 0, 1) := by decide +kernel
theorem dX7_isToAnOver_11 : decode cX7_isToAnOver 11 = .ok (.getfield 29, 3) := by decide +kernel
theorem dX7_isToAnOver_14 : decode cX7_isToAnOver 14 = .ok (.iload_n 2, 1) := by decide +kernel
theorem dX7_isToAnOver_15 : decode cX7_isToAnOver 15 = .ok (.invokevirtual 218, 3) := by decide +kernel
theorem dX7_isToAnOver_18 : decode cX7_isToAnOver 18 = .ok (.ifCond .eq 7, 3) := by decide +kernel
theorem dX7_isToAnOver_21 : decode cX7_isToAnOver 21 = .ok (.iconst 1, 1) := by decide +kernel
theorem dX7_isToAnOver_22 : decode cX7_isToAnOver 22 = .ok (.goto 4, 3) := by decide +kernel
theorem dX7_isToAnOver_25 : decode cX7_isToAnOver 25 = .ok (.iconst 0, 1) := by decide +kernel
theorem dX7_isToAnOver_26 : decode cX7_isToAnOver 26 = .ok (.ireturn, 1) := by decide +kernel
theorem dX7_longestOpenDeed_0 : decode cX7_longestOpenDeed 0 = .ok (.iconst 0, 1) := by decide +kernel
theorem dX7_longestOpenDeed_1 : decode cX7_longestOpenDeed 1 = .ok (.istore_n 1, 1) := by decide +kernel
theorem dX7_longestOpenDeed_2 : decode cX7_longestOpenDeed 2 = .ok (.iconst 0, 1) := by decide +kernel
theorem dX7_longestOpenDeed_3 : decode cX7_longestOpenDeed 3 = .ok (.istore_n 2, 1) := by decide +kernel
theorem dX7_longestOpenDeed_4 : decode cX7_longestOpenDeed 4 = .ok (.iload_n 2, 1) := by decide +kernel
theorem dX7_longestOpenDeed_5 : decode cX7_longestOpenDeed 5 = .ok (.aload_n 0, 1) := by decide +kernel
theorem dX7_longestOpenDeed_6 : decode cX7_longestOpenDeed 6 = .ok (.getfield 29, 3) := by decide +kernel
theorem dX7_longestOpenDeed_9 : decode cX7_longestOpenDeed 9 = .ok (.getfield 392, 3) := by decide +kernel
theorem dX7_longestOpenDeed_12 : decode cX7_longestOpenDeed 12 = .ok (.if_icmp .ge 38, 3) := by decide +kernel
theorem dX7_longestOpenDeed_15 : decode cX7_longestOpenDeed 15 = .ok (.aload_n 0, 1) := by decide +kernel
theorem dX7_longestOpenDeed_16 : decode cX7_longestOpenDeed 16 = .ok (.getfield 71, 3) := by decide +kernel
theorem dX7_longestOpenDeed_19 : decode cX7_longestOpenDeed 19 = .ok (.getfield 207, 3) := by decide +kernel
theorem dX7_longestOpenDeed_22 : decode cX7_longestOpenDeed 22 = .ok (.iload_n 2, 1) := by decide +kernel
theorem dX7_longestOpenDeed_23 : decode cX7_longestOpenDeed 23 = .ok (.invokestatic 393, 3) := by decide +kernel
theorem dX7_longestOpenDeed_26 : decode cX7_longestOpenDeed 26 = .ok (.iconst 2, 1) := by decide +kernel
theorem dX7_longestOpenDeed_27 : decode cX7_longestOpenDeed 27 = .ok (.if_icmp .ge 17, 3) := by decide +kernel
theorem dX7_longestOpenDeed_30 : decode cX7_longestOpenDeed 30 = .ok (.iload_n 1, 1) := by decide +kernel
theorem dX7_longestOpenDeed_31 : decode cX7_longestOpenDeed 31 = .ok (.aload_n 0, 1) := by decide +kernel
theorem dX7_longestOpenDeed_32 : decode cX7_longestOpenDeed 32 = .ok (.getfield 29, 3) := by decide +kernel
theorem dX7_longestOpenDeed_35 : decode cX7_longestOpenDeed 35 = .ok (.getfield 221, 3) := by decide +kernel
theorem dX7_longestOpenDeed_38 : decode cX7_longestOpenDeed 38 = .ok (.iload_n 2, 1) := by decide +kernel
theorem dX7_longestOpenDeed_39 : decode cX7_longestOpenDeed 39 = .ok (.iaload, 1) := by decide +kernel
theorem dX7_longestOpenDeed_40 : decode cX7_longestOpenDeed 40 = .ok (.invokestatic 396, 3) := by decide +kernel
theorem dX7_longestOpenDeed_43 : decode cX7_longestOpenDeed 43 = .ok (.istore_n 1, 1) := by decide +kernel
theorem dX7_longestOpenDeed_44 : decode cX7_longestOpenDeed 44 = .ok (.iinc 2 1, 3) := by decide +kernel
theorem dX7_longestOpenDeed_47 : decode cX7_longestOpenDeed 47 = .ok (.goto (-43), 3) := by decide +kernel
theorem dX7_longestOpenDeed_50 : decode cX7_longestOpenDeed 50 = .ok (.iload_n 1, 1) := by decide +kernel
theorem dX7_longestOpenDeed_51 : decode cX7_longestOpenDeed 51 = .ok (.ireturn, 1) := by decide +kernel
theorem dX7_counted_0 : decode cX7_counted 0 = .ok (.iload_n 1, 1) := by decide +kernel
theorem dX7_counted_1 : decode cX7_counted 1 = .ok (.tableswitch 114 0 7 #[47, 55, 63, 71, 79, 90, 98, 106], 47) := by decide +kernel
theorem dX7_counted_48 : decode cX7_counted 48 = .ok (.aload_n 0, 1) := by decide +kernel
theorem dX7_counted_49 : decode cX7_counted 49 = .ok (.getfield 29, 3) := by decide +kernel
theorem dX7_counted_52 : decode cX7_counted 52 = .ok (.getfield 150, 3) := by decide +kernel
theorem dX7_counted_55 : decode cX7_counted 55 = .ok (.ireturn, 1) := by decide +kernel
theorem dX7_counted_56 : decode cX7_counted 56 = .ok (.aload_n 0, 1) := by decide +kernel
theorem dX7_counted_57 : decode cX7_counted 57 = .ok (.getfield 29, 3) := by decide +kernel
theorem dX7_counted_60 : decode cX7_counted 60 = .ok (.getfield 389, 3) := by decide +kernel
theorem dX7_counted_63 : decode cX7_counted 63 = .ok (.ireturn, 1) := by decide +kernel
theorem dX7_counted_64 : decode cX7_counted 64 = .ok (.aload_n 0, 1) := by decide +kernel
theorem dX7_counted_65 : decode cX7_counted 65 = .ok (.getfield 29, 3) := by decide +kernel
theorem dX7_counted_68 : decode cX7_counted 68 = .ok (.getfield 392, 3) := by decide +kernel
theorem dX7_counted_71 : decode cX7_counted 71 = .ok (.ireturn, 1) := by decide +kernel
theorem dX7_counted_72 : decode cX7_counted 72 = .ok (.aload_n 0, 1) := by decide +kernel
theorem dX7_counted_73 : decode cX7_counted 73 = .ok (.getfield 71, 3) := by decide +kernel
theorem dX7_counted_76 : decode cX7_counted 76 = .ok (.getfield 92, 3) := by decide +kernel
theorem dX7_counted_79 : decode cX7_counted 79 = .ok (.ireturn, 1) := by decide +kernel
theorem dX7_counted_80 : decode cX7_counted 80 = .ok (.aload_n 0, 1) := by decide +kernel
theorem dX7_counted_81 : decode cX7_counted 81 = .ok (.getfield 71, 3) := by decide +kernel
theorem dX7_counted_84 : decode cX7_counted 84 = .ok (.getfield 207, 3) := by decide +kernel
theorem dX7_counted_87 : decode cX7_counted 87 = .ok (.invokestatic 399, 3) := by decide +kernel
theorem dX7_counted_90 : decode cX7_counted 90 = .ok (.ireturn, 1) := by decide +kernel
theorem dX7_counted_91 : decode cX7_counted 91 = .ok (.aload_n 0, 1) := by decide +kernel
theorem dX7_counted_92 : decode cX7_counted 92 = .ok (.getfield 29, 3) := by decide +kernel
theorem dX7_counted_95 : decode cX7_counted 95 = .ok (.invokevirtual 402, 3) := by decide +kernel
theorem dX7_counted_98 : decode cX7_counted 98 = .ok (.ireturn, 1) := by decide +kernel
theorem dX7_counted_99 : decode cX7_counted 99 = .ok (.aload_n 0, 1) := by decide +kernel
theorem dX7_counted_100 : decode cX7_counted 100 = .ok (.getfield 14, 3) := by decide +kernel
theorem dX7_counted_103 : decode cX7_counted 103 = .ok (.invokestatic 405, 3) := by decide +kernel
theorem dX7_counted_106 : decode cX7_counted 106 = .ok (.ireturn, 1) := by decide +kernel
theorem dX7_counted_107 : decode cX7_counted 107 = .ok (.aload_n 0, 1) := by decide +kernel
theorem dX7_counted_108 : decode cX7_counted 108 = .ok (.getfield 23, 3) := by decide +kernel
theorem dX7_counted_111 : decode cX7_counted 111 = .ok (.invokestatic 405, 3) := by decide +kernel
theorem dX7_counted_114 : decode cX7_counted 114 = .ok (.ireturn, 1) := by decide +kernel
theorem dX7_counted_115 : decode cX7_counted 115 = .ok (.aload_n 0, 1) := by decide +kernel
theorem dX7_counted_116 : decode cX7_counted 116 = .ok (.invokevirtual 409, 3) := by decide +kernel
theorem dX7_counted_119 : decode cX7_counted 119 = .ok (.ireturn, 1) := by decide +kernel
theorem dX7_there_0 : decode cX7_there 0 = .ok (.iconst 0, 1) := by decide +kernel
theorem dX7_there_1 : decode cX7_there 1 = .ok (.istore_n 1, 1) := by decide +kernel
theorem dX7_there_2 : decode cX7_there 2 = .ok (.aload_n 0, 1) := by decide +kernel
theorem dX7_there_3 : decode cX7_there 3 = .ok (.astore_n 2, 1) := by decide +kernel
theorem dX7_there_4 : decode cX7_there 4 = .ok (.aload_n 2, 1) := by decide +kernel
theorem dX7_there_5 : decode cX7_there 5 = .ok (.arraylength, 1) := by decide +kernel
theorem dX7_there_6 : decode cX7_there 6 = .ok (.istore_n 3, 1) := by decide +kernel
theorem dX7_there_7 : decode cX7_there 7 = .ok (.iconst 0, 1) := by decide +kernel
theorem dX7_there_8 : decode cX7_there 8 = .ok (.istore 4, 2) := by decide +kernel
theorem dX7_there_10 : decode cX7_there 10 = .ok (.iload 4, 2) := by decide +kernel
theorem dX7_there_12 : decode cX7_there 12 = .ok (.iload_n 3, 1) := by decide +kernel
theorem dX7_there_13 : decode cX7_there 13 = .ok (.if_icmp .ge 28, 3) := by decide +kernel
theorem dX7_there_16 : decode cX7_there 16 = .ok (.aload_n 2, 1) := by decide +kernel
theorem dX7_there_17 : decode cX7_there 17 = .ok (.iload 4, 2) := by decide +kernel
theorem dX7_there_19 : decode cX7_there 19 = .ok (.iaload, 1) := by decide +kernel
theorem dX7_there_20 : decode cX7_there 20 = .ok (.istore 5, 2) := by decide +kernel
theorem dX7_there_22 : decode cX7_there 22 = .ok (.iload_n 1, 1) := by decide +kernel
theorem dX7_there_23 : decode cX7_there 23 = .ok (.iload 5, 2) := by decide +kernel
theorem dX7_there_25 : decode cX7_there 25 = .ok (.ifCond .lt 7, 3) := by decide +kernel
theorem dX7_there_28 : decode cX7_there 28 = .ok (.iconst 1, 1) := by decide +kernel
theorem dX7_there_29 : decode cX7_there 29 = .ok (.goto 4, 3) := by decide +kernel
theorem dX7_there_32 : decode cX7_there 32 = .ok (.iconst 0, 1) := by decide +kernel
theorem dX7_there_33 : decode cX7_there 33 = .ok (.iadd, 1) := by decide +kernel
theorem dX7_there_34 : decode cX7_there 34 = .ok (.istore_n 1, 1) := by decide +kernel
theorem dX7_there_35 : decode cX7_there 35 = .ok (.iinc 4 1, 3) := by decide +kernel
theorem dX7_there_38 : decode cX7_there 38 = .ok (.goto (-28), 3) := by decide +kernel
theorem dX7_there_41 : decode cX7_there 41 = .ok (.iload_n 1, 1) := by decide +kernel
theorem dX7_there_42 : decode cX7_there 42 = .ok (.ireturn, 1) := by decide +kernel
theorem dX7_keptPlaces_0 : decode cX7_keptPlaces 0 = .ok (.iconst 0, 1) := by decide +kernel
theorem dX7_keptPlaces_1 : decode cX7_keptPlaces 1 = .ok (.istore_n 1, 1) := by decide +kernel
theorem dX7_keptPlaces_2 : decode cX7_keptPlaces 2 = .ok (.iconst 0, 1) := by decide +kernel
theorem dX7_keptPlaces_3 : decode cX7_keptPlaces 3 = .ok (.istore_n 2, 1) := by decide +kernel
theorem dX7_keptPlaces_4 : decode cX7_keptPlaces 4 = .ok (.iload_n 2, 1) := by decide +kernel
theorem dX7_keptPlaces_5 : decode cX7_keptPlaces 5 = .ok (.iconst 3, 1) := by decide +kernel
theorem dX7_keptPlaces_6 : decode cX7_keptPlaces 6 = .ok (.if_icmp .ge 29, 3) := by decide +kernel
theorem dX7_keptPlaces_9 : decode cX7_keptPlaces 9 = .ok (.iload_n 1, 1) := by decide +kernel
theorem dX7_keptPlaces_10 : decode cX7_keptPlaces 10 = .ok (.aload_n 0, 1) := by decide +kernel
theorem dX7_keptPlaces_11 : decode cX7_keptPlaces 11 = .ok (.getfield 75, 3) := by decide +kernel
theorem dX7_keptPlaces_14 : decode cX7_keptPlaces 14 = .ok (.iload_n 2, 1) := by decide +kernel
theorem dX7_keptPlaces_15 : decode cX7_keptPlaces 15 = .ok (.aaload, 1) := by decide +kernel
theorem dX7_keptPlaces_16 : decode cX7_keptPlaces 16 = .ok (.getfield 92, 3) := by decide +kernel
theorem dX7_keptPlaces_19 : decode cX7_keptPlaces 19 = .ok (.ifCond .lt 7, 3) := by decide +kernel
theorem dX7_keptPlaces_22 : decode cX7_keptPlaces 22 = .ok (.iconst 1, 1) := by decide +kernel
theorem dX7_keptPlaces_23 : decode cX7_keptPlaces 23 = .ok (.goto 4, 3) := by decide +kernel
theorem dX7_keptPlaces_26 : decode cX7_keptPlaces 26 = .ok (.iconst 0, 1) := by decide +kernel
theorem dX7_keptPlaces_27 : decode cX7_keptPlaces 27 = .ok (.iadd, 1) := by decide +kernel
theorem dX7_keptPlaces_28 : decode cX7_keptPlaces 28 = .ok (.istore_n 1, 1) := by decide +kernel
theorem dX7_keptPlaces_29 : decode cX7_keptPlaces 29 = .ok (.iinc 2 1, 3) := by decide +kernel
theorem dX7_keptPlaces_32 : decode cX7_keptPlaces 32 = .ok (.goto (-28), 3) := by decide +kernel
theorem dX7_keptPlaces_35 : decode cX7_keptPlaces 35 = .ok (.iload_n 1, 1) := by decide +kernel
theorem dX7_keptPlaces_36 : decode cX7_keptPlaces 36 = .ok (.ireturn, 1) := by decide +kernel
theorem dX7_nodeTells_0 : decode cX7_nodeTells 0 = .ok (.iload_n 2, 1) := by decide +kernel
theorem dX7_nodeTells_1 : decode cX7_nodeTells 1 = .ok (.tableswitch 56 0 2 #[27, 37, 46], 27) := by decide +kernel
theorem dX7_nodeTells_28 : decode cX7_nodeTells 28 = .ok (.aload_n 0, 1) := by decide +kernel
theorem dX7_nodeTells_29 : decode cX7_nodeTells 29 = .ok (.getfield 29, 3) := by decide +kernel
theorem dX7_nodeTells_32 : decode cX7_nodeTells 32 = .ok (.getfield 309, 3) := by decide +kernel
theorem dX7_nodeTells_35 : decode cX7_nodeTells 35 = .ok (.iload_n 1, 1) := by decide +kernel
theorem dX7_nodeTells_36 : decode cX7_nodeTells 36 = .ok (.iaload, 1) := by decide +kernel
theorem dX7_nodeTells_37 : decode cX7_nodeTells 37 = .ok (.ireturn, 1) := by decide +kernel
theorem dX7_nodeTells_38 : decode cX7_nodeTells 38 = .ok (.aload_n 0, 1) := by decide +kernel
theorem dX7_nodeTells_39 : decode cX7_nodeTells 39 = .ok (.getfield 29, 3) := by decide +kernel
theorem dX7_nodeTells_42 : decode cX7_nodeTells 42 = .ok (.iload_n 1, 1) := by decide +kernel
theorem dX7_nodeTells_43 : decode cX7_nodeTells 43 = .ok (.invokevirtual 412, 3) := by decide +kernel
theorem dX7_nodeTells_46 : decode cX7_nodeTells 46 = .ok (.ireturn, 1) := by decide +kernel
theorem dX7_nodeTells_47 : decode cX7_nodeTells 47 = .ok (.aload_n 0, 1) := by decide +kernel
theorem dX7_nodeTells_48 : decode cX7_nodeTells 48 = .ok (.getfield 48, 3) := by decide +kernel
theorem dX7_nodeTells_51 : decode cX7_nodeTells 51 = .ok (.getfield 267, 3) := by decide +kernel
theorem dX7_nodeTells_54 : decode cX7_nodeTells 54 = .ok (.iload_n 1, 1) := by decide +kernel
theorem dX7_nodeTells_55 : decode cX7_nodeTells 55 = .ok (.iaload, 1) := by decide +kernel
theorem dX7_nodeTells_56 : decode cX7_nodeTells 56 = .ok (.ireturn, 1) := by decide +kernel
theorem dX7_nodeTells_57 : decode cX7_nodeTells 57 = .ok (.aload_n 0, 1) := by decide +kernel
theorem dX7_nodeTells_58 : decode cX7_nodeTells 58 = .ok (.getfield 48, 3) := by decide +kernel
theorem dX7_nodeTells_61 : decode cX7_nodeTells 61 = .ok (.getfield 415, 3) := by decide +kernel
theorem dX7_nodeTells_64 : decode cX7_nodeTells 64 = .ok (.iload_n 1, 1) := by decide +kernel
theorem dX7_nodeTells_65 : decode cX7_nodeTells 65 = .ok (.iaload, 1) := by decide +kernel
theorem dX7_nodeTells_66 : decode cX7_nodeTells 66 = .ok (.ireturn, 1) := by decide +kernel
theorem dX7_wordTells_0 : decode cX7_wordTells 0 = .ok (.iload_n 2, 1) := by decide +kernel
theorem dX7_wordTells_1 : decode cX7_wordTells 1 = .ok (.lookupswitch 47 #[(0, 27), (1, 37)], 27) := by decide +kernel
theorem dX7_wordTells_28 : decode cX7_wordTells 28 = .ok (.aload_n 0, 1) := by decide +kernel
theorem dX7_wordTells_29 : decode cX7_wordTells 29 = .ok (.getfield 29, 3) := by decide +kernel
theorem dX7_wordTells_32 : decode cX7_wordTells 32 = .ok (.getfield 194, 3) := by decide +kernel
theorem dX7_wordTells_35 : decode cX7_wordTells 35 = .ok (.iload_n 1, 1) := by decide +kernel
theorem dX7_wordTells_36 : decode cX7_wordTells 36 = .ok (.iaload, 1) := by decide +kernel
theorem dX7_wordTells_37 : decode cX7_wordTells 37 = .ok (.ireturn, 1) := by decide +kernel
theorem dX7_wordTells_38 : decode cX7_wordTells 38 = .ok (.aload_n 0, 1) := by decide +kernel
theorem dX7_wordTells_39 : decode cX7_wordTells 39 = .ok (.getfield 29, 3) := by decide +kernel
theorem dX7_wordTells_42 : decode cX7_wordTells 42 = .ok (.getfield 204, 3) := by decide +kernel
theorem dX7_wordTells_45 : decode cX7_wordTells 45 = .ok (.iload_n 1, 1) := by decide +kernel
theorem dX7_wordTells_46 : decode cX7_wordTells 46 = .ok (.iaload, 1) := by decide +kernel
theorem dX7_wordTells_47 : decode cX7_wordTells 47 = .ok (.ireturn, 1) := by decide +kernel
theorem dX7_wordTells_48 : decode cX7_wordTells 48 = .ok (.aload_n 0, 1) := by decide +kernel
theorem dX7_wordTells_49 : decode cX7_wordTells 49 = .ok (.getfield 29, 3) := by decide +kernel
theorem dX7_wordTells_52 : decode cX7_wordTells 52 = .ok (.getfield 417, 3) := by decide +kernel
theorem dX7_wordTells_55 : decode cX7_wordTells 55 = .ok (.iload_n 1, 1) := by decide +kernel
theorem dX7_wordTells_56 : decode cX7_wordTells 56 = .ok (.iaload, 1) := by decide +kernel
theorem dX7_wordTells_57 : decode cX7_wordTells 57 = .ok (.ireturn, 1) := by decide +kernel
theorem dX7_deedTells_0 : decode cX7_deedTells 0 = .ok (.iload_n 2, 1) := by decide +kernel
theorem dX7_deedTells_1 : decode cX7_deedTells 1 = .ok (.tableswitch 71 0 3 #[31, 41, 51, 61], 31) := by decide +kernel
theorem dX7_deedTells_32 : decode cX7_deedTells 32 = .ok (.aload_n 0, 1) := by decide +kernel
theorem dX7_deedTells_33 : decode cX7_deedTells 33 = .ok (.getfield 29, 3) := by decide +kernel
theorem dX7_deedTells_36 : decode cX7_deedTells 36 = .ok (.getfield 221, 3) := by decide +kernel
theorem dX7_deedTells_39 : decode cX7_deedTells 39 = .ok (.iload_n 1, 1) := by decide +kernel
theorem dX7_deedTells_40 : decode cX7_deedTells 40 = .ok (.iaload, 1) := by decide +kernel
theorem dX7_deedTells_41 : decode cX7_deedTells 41 = .ok (.ireturn, 1) := by decide +kernel
theorem dX7_deedTells_42 : decode cX7_deedTells 42 = .ok (.aload_n 0, 1) := by decide +kernel
theorem dX7_deedTells_43 : decode cX7_deedTells 43 = .ok (.getfield 29, 3) := by decide +kernel
theorem dX7_deedTells_46 : decode cX7_deedTells 46 = .ok (.getfield 420, 3) := by decide +kernel
theorem dX7_deedTells_49 : decode cX7_deedTells 49 = .ok (.iload_n 1, 1) := by decide +kernel
theorem dX7_deedTells_50 : decode cX7_deedTells 50 = .ok (.iaload, 1) := by decide +kernel
theorem dX7_deedTells_51 : decode cX7_deedTells 51 = .ok (.ireturn, 1) := by decide +kernel
theorem dX7_deedTells_52 : decode cX7_deedTells 52 = .ok (.aload_n 0, 1) := by decide +kernel
theorem dX7_deedTells_53 : decode cX7_deedTells 53 = .ok (.getfield 29, 3) := by decide +kernel
theorem dX7_deedTells_56 : decode cX7_deedTells 56 = .ok (.getfield 423, 3) := by decide +kernel
theorem dX7_deedTells_59 : decode cX7_deedTells 59 = .ok (.iload_n 1, 1) := by decide +kernel
theorem dX7_deedTells_60 : decode cX7_deedTells 60 = .ok (.iaload, 1) := by decide +kernel
theorem dX7_deedTells_61 : decode cX7_deedTells 61 = .ok (.ireturn, 1) := by decide +kernel
theorem dX7_deedTells_62 : decode cX7_deedTells 62 = .ok (.aload_n 0, 1) := by decide +kernel
theorem dX7_deedTells_63 : decode cX7_deedTells 63 = .ok (.getfield 29, 3) := by decide +kernel
theorem dX7_deedTells_66 : decode cX7_deedTells 66 = .ok (.getfield 191, 3) := by decide +kernel
theorem dX7_deedTells_69 : decode cX7_deedTells 69 = .ok (.iload_n 1, 1) := by decide +kernel
theorem dX7_deedTells_70 : decode cX7_deedTells 70 = .ok (.iaload, 1) := by decide +kernel
theorem dX7_deedTells_71 : decode cX7_deedTells 71 = .ok (.ireturn, 1) := by decide +kernel
theorem dX7_deedTells_72 : decode cX7_deedTells 72 = .ok (.aload_n 0, 1) := by decide +kernel
theorem dX7_deedTells_73 : decode cX7_deedTells 73 = .ok (.getfield 71, 3) := by decide +kernel
theorem dX7_deedTells_76 : decode cX7_deedTells 76 = .ok (.getfield 207, 3) := by decide +kernel
theorem dX7_deedTells_79 : decode cX7_deedTells 79 = .ok (.iload_n 1, 1) := by decide +kernel
theorem dX7_deedTells_80 : decode cX7_deedTells 80 = .ok (.invokestatic 393, 3) := by decide +kernel
theorem dX7_deedTells_83 : decode cX7_deedTells 83 = .ok (.ireturn, 1) := by decide +kernel
theorem dX7_mixed_0 : decode cX7_mixed 0 = .ok (.ldc2_w 426, 3) := by decide +kernel
theorem dX7_mixed_3 : decode cX7_mixed 3 = .ok (.lload_n 0, 1) := by decide +kernel
theorem dX7_mixed_4 : decode cX7_mixed 4 = .ok (.lmul, 1) := by decide +kernel
theorem dX7_mixed_5 : decode cX7_mixed 5 = .ok (.lload_n 2, 1) := by decide +kernel
theorem dX7_mixed_6 : decode cX7_mixed 6 = .ok (.ladd, 1) := by decide +kernel
theorem dX7_mixed_7 : decode cX7_mixed 7 = .ok (.lreturn, 1) := by decide +kernel
theorem dX7_withSpeech_0 : decode cX7_withSpeech 0 = .ok (.lload_n 1, 1) := by decide +kernel
theorem dX7_withSpeech_1 : decode cX7_withSpeech 1 = .ok (.lstore_n 3, 1) := by decide +kernel
theorem dX7_withSpeech_2 : decode cX7_withSpeech 2 = .ok (.iconst 0, 1) := by decide +kernel
theorem dX7_withSpeech_3 : decode cX7_withSpeech 3 = .ok (.istore 5, 2) := by decide +kernel
theorem dX7_withSpeech_5 : decode cX7_withSpeech 5 = .ok (.iload 5, 2) := by decide +kernel
theorem dX7_withSpeech_7 : decode cX7_withSpeech 7 = .ok (.aload_n 0, 1) := by decide +kernel
theorem dX7_withSpeech_8 : decode cX7_withSpeech 8 = .ok (.getfield 29, 3) := by decide +kernel
theorem dX7_withSpeech_11 : decode cX7_withSpeech 11 = .ok (.getfield 150, 3) := by decide +kernel
theorem dX7_withSpeech_14 : decode cX7_withSpeech 14 = .ok (.if_icmp .ge 38, 3) := by decide +kernel
theorem dX7_withSpeech_17 : decode cX7_withSpeech 17 = .ok (.iconst 0, 1) := by decide +kernel
theorem dX7_withSpeech_18 : decode cX7_withSpeech 18 = .ok (.istore 6, 2) := by decide +kernel
theorem dX7_withSpeech_20 : decode cX7_withSpeech 20 = .ok (.iload 6, 2) := by decide +kernel
theorem dX7_withSpeech_22 : decode cX7_withSpeech 22 = .ok (.iconst 3, 1) := by decide +kernel
theorem dX7_withSpeech_23 : decode cX7_withSpeech 23 = .ok (.if_icmp .gt 23, 3) := by decide +kernel
theorem dX7_withSpeech_26 : decode cX7_withSpeech 26 = .ok (.lload_n 3, 1) := by decide +kernel
theorem dX7_withSpeech_27 : decode cX7_withSpeech 27 = .ok (.aload_n 0, 1) := by decide +kernel
theorem dX7_withSpeech_28 : decode cX7_withSpeech 28 = .ok (.iload 5, 2) := by decide +kernel
theorem dX7_withSpeech_30 : decode cX7_withSpeech 30 = .ok (.iload 6, 2) := by decide +kernel
theorem dX7_withSpeech_32 : decode cX7_withSpeech 32 = .ok (.invokevirtual 156, 3) := by decide +kernel
theorem dX7_withSpeech_35 : decode cX7_withSpeech 35 = .ok (.i2l, 1) := by decide +kernel
theorem dX7_withSpeech_36 : decode cX7_withSpeech 36 = .ok (.invokestatic 370, 3) := by decide +kernel
theorem dX7_withSpeech_39 : decode cX7_withSpeech 39 = .ok (.lstore_n 3, 1) := by decide +kernel
theorem dX7_withSpeech_40 : decode cX7_withSpeech 40 = .ok (.iinc 6 1, 3) := by decide +kernel
theorem dX7_withSpeech_43 : decode cX7_withSpeech 43 = .ok (.goto (-23), 3) := by decide +kernel
theorem dX7_withSpeech_46 : decode cX7_withSpeech 46 = .ok (.iinc 5 1, 3) := by decide +kernel
theorem dX7_withSpeech_49 : decode cX7_withSpeech 49 = .ok (.goto (-44), 3) := by decide +kernel
theorem dX7_withSpeech_52 : decode cX7_withSpeech 52 = .ok (.iconst 0, 1) := by decide +kernel
theorem dX7_withSpeech_53 : decode cX7_withSpeech 53 = .ok (.istore 5, 2) := by decide +kernel
theorem dX7_withSpeech_55 : decode cX7_withSpeech 55 = .ok (.iload 5, 2) := by decide +kernel
theorem dX7_withSpeech_57 : decode cX7_withSpeech 57 = .ok (.aload_n 0, 1) := by decide +kernel
theorem dX7_withSpeech_58 : decode cX7_withSpeech 58 = .ok (.getfield 29, 3) := by decide +kernel
theorem dX7_withSpeech_61 : decode cX7_withSpeech 61 = .ok (.getfield 389, 3) := by decide +kernel
theorem dX7_withSpeech_64 : decode cX7_withSpeech 64 = .ok (.if_icmp .ge 38, 3) := by decide +kernel
theorem dX7_withSpeech_67 : decode cX7_withSpeech 67 = .ok (.iconst 0, 1) := by decide +kernel
theorem dX7_withSpeech_68 : decode cX7_withSpeech 68 = .ok (.istore 6, 2) := by decide +kernel
theorem dX7_withSpeech_70 : decode cX7_withSpeech 70 = .ok (.iload 6, 2) := by decide +kernel
theorem dX7_withSpeech_72 : decode cX7_withSpeech 72 = .ok (.iconst 2, 1) := by decide +kernel
theorem dX7_withSpeech_73 : decode cX7_withSpeech 73 = .ok (.if_icmp .gt 23, 3) := by decide +kernel
theorem dX7_withSpeech_76 : decode cX7_withSpeech 76 = .ok (.lload_n 3, 1) := by decide +kernel
theorem dX7_withSpeech_77 : decode cX7_withSpeech 77 = .ok (.aload_n 0, 1) := by decide +kernel
theorem dX7_withSpeech_78 : decode cX7_withSpeech 78 = .ok (.iload 5, 2) := by decide +kernel
theorem dX7_withSpeech_80 : decode cX7_withSpeech 80 = .ok (.iload 6, 2) := by decide +kernel
theorem dX7_withSpeech_82 : decode cX7_withSpeech 82 = .ok (.invokevirtual 162, 3) := by decide +kernel
theorem dX7_withSpeech_85 : decode cX7_withSpeech 85 = .ok (.i2l, 1) := by decide +kernel
theorem dX7_withSpeech_86 : decode cX7_withSpeech 86 = .ok (.invokestatic 370, 3) := by decide +kernel
theorem dX7_withSpeech_89 : decode cX7_withSpeech 89 = .ok (.lstore_n 3, 1) := by decide +kernel
theorem dX7_withSpeech_90 : decode cX7_withSpeech 90 = .ok (.iinc 6 1, 3) := by decide +kernel
theorem dX7_withSpeech_93 : decode cX7_withSpeech 93 = .ok (.goto (-23), 3) := by decide +kernel
theorem dX7_withSpeech_96 : decode cX7_withSpeech 96 = .ok (.iinc 5 1, 3) := by decide +kernel
theorem dX7_withSpeech_99 : decode cX7_withSpeech 99 = .ok (.goto (-44), 3) := by decide +kernel
theorem dX7_withSpeech_102 : decode cX7_withSpeech 102 = .ok (.iconst 0, 1) := by decide +kernel
theorem dX7_withSpeech_103 : decode cX7_withSpeech 103 = .ok (.istore 5, 2) := by decide +kernel
theorem dX7_withSpeech_105 : decode cX7_withSpeech 105 = .ok (.iload 5, 2) := by decide +kernel
theorem dX7_withSpeech_107 : decode cX7_withSpeech 107 = .ok (.aload_n 0, 1) := by decide +kernel
theorem dX7_withSpeech_108 : decode cX7_withSpeech 108 = .ok (.getfield 29, 3) := by decide +kernel
theorem dX7_withSpeech_111 : decode cX7_withSpeech 111 = .ok (.getfield 392, 3) := by decide +kernel
theorem dX7_withSpeech_114 : decode cX7_withSpeech 114 = .ok (.if_icmp .ge 38, 3) := by decide +kernel
theorem dX7_withSpeech_117 : decode cX7_withSpeech 117 = .ok (.iconst 0, 1) := by decide +kernel
theorem dX7_withSpeech_118 : decode cX7_withSpeech 118 = .ok (.istore 6, 2) := by decide +kernel
theorem dX7_withSpeech_120 : decode cX7_withSpeech 120 = .ok (.iload 6, 2) := by decide +kernel
theorem dX7_withSpeech_122 : decode cX7_withSpeech 122 = .ok (.iconst 4, 1) := by decide +kernel
theorem dX7_withSpeech_123 : decode cX7_withSpeech 123 = .ok (.if_icmp .gt 23, 3) := by decide +kernel
theorem dX7_withSpeech_126 : decode cX7_withSpeech 126 = .ok (.lload_n 3, 1) := by decide +kernel
theorem dX7_withSpeech_127 : decode cX7_withSpeech 127 = .ok (.aload_n 0, 1) := by decide +kernel
theorem dX7_withSpeech_128 : decode cX7_withSpeech 128 = .ok (.iload 5, 2) := by decide +kernel
theorem dX7_withSpeech_130 : decode cX7_withSpeech 130 = .ok (.iload 6, 2) := by decide +kernel
theorem dX7_withSpeech_132 : decode cX7_withSpeech 132 = .ok (.invokevirtual 168, 3) := by decide +kernel
theorem dX7_withSpeech_135 : decode cX7_withSpeech 135 = .ok (.i2l, 1) := by decide +kernel
theorem dX7_withSpeech_136 : decode cX7_withSpeech 136 = .ok (.invokestatic 370, 3) := by decide +kernel
theorem dX7_withSpeech_139 : decode cX7_withSpeech 139 = .ok (.lstore_n 3, 1) := by decide +kernel
theorem dX7_withSpeech_140 : decode cX7_withSpeech 140 = .ok (.iinc 6 1, 3) := by decide +kernel
theorem dX7_withSpeech_143 : decode cX7_withSpeech 143 = .ok (.goto (-23), 3) := by decide +kernel
theorem dX7_withSpeech_146 : decode cX7_withSpeech 146 = .ok (.iinc 5 1, 3) := by decide +kernel
theorem dX7_withSpeech_149 : decode cX7_withSpeech 149 = .ok (.goto (-44), 3) := by decide +kernel
theorem dX7_withSpeech_152 : decode cX7_withSpeech 152 = .ok (.lload_n 3, 1) := by decide +kernel
theorem dX7_withSpeech_153 : decode cX7_withSpeech 153 = .ok (.lreturn, 1) := by decide +kernel
theorem dX7_withRowsAndTexts_0 : decode cX7_withRowsAndTexts 0 = .ok (.lload_n 1, 1) := by decide +kernel
theorem dX7_withRowsAndTexts_1 : decode cX7_withRowsAndTexts 1 = .ok (.lstore_n 3, 1) := by decide +kernel
theorem dX7_withRowsAndTexts_2 : decode cX7_withRowsAndTexts 2 = .ok (.iconst 0, 1) := by decide +kernel
theorem dX7_withRowsAndTexts_3 : decode cX7_withRowsAndTexts 3 = .ok (.istore 5, 2) := by decide +kernel
theorem dX7_withRowsAndTexts_5 : decode cX7_withRowsAndTexts 5 = .ok (.iload 5, 2) := by decide +kernel
theorem dX7_withRowsAndTexts_7 : decode cX7_withRowsAndTexts 7 = .ok (.bipush 6, 2) := by decide +kernel
theorem dX7_withRowsAndTexts_9 : decode cX7_withRowsAndTexts 9 = .ok (.if_icmp .ge 59, 3) := by decide +kernel
theorem dX7_withRowsAndTexts_12 : decode cX7_withRowsAndTexts 12 = .ok (.lload_n 3, 1) := by decide +kernel
theorem dX7_withRowsAndTexts_13 : decode cX7_withRowsAndTexts 13 = .ok (.aload_n 0, 1) := by decide +kernel
theorem dX7_withRowsAndTexts_14 : decode cX7_withRowsAndTexts 14 = .ok (.getfield 14, 3) := by decide +kernel
theorem dX7_withRowsAndTexts_17 : decode cX7_withRowsAndTexts 17 = .ok (.iload 5, 2) := by decide +kernel
theorem dX7_withRowsAndTexts_19 : decode cX7_withRowsAndTexts 19 = .ok (.iaload, 1) := by decide +kernel
theorem dX7_withRowsAndTexts_20 : decode cX7_withRowsAndTexts 20 = .ok (.i2l, 1) := by decide +kernel
theorem dX7_withRowsAndTexts_21 : decode cX7_withRowsAndTexts 21 = .ok (.invokestatic 370, 3) := by decide +kernel
theorem dX7_withRowsAndTexts_24 : decode cX7_withRowsAndTexts 24 = .ok (.lstore_n 3, 1) := by decide +kernel
theorem dX7_withRowsAndTexts_25 : decode cX7_withRowsAndTexts 25 = .ok (.iconst 0, 1) := by decide +kernel
theorem dX7_withRowsAndTexts_26 : decode cX7_withRowsAndTexts 26 = .ok (.istore 6, 2) := by decide +kernel
theorem dX7_withRowsAndTexts_28 : decode cX7_withRowsAndTexts 28 = .ok (.iload 6, 2) := by decide +kernel
theorem dX7_withRowsAndTexts_30 : decode cX7_withRowsAndTexts 30 = .ok (.aload_n 0, 1) := by decide +kernel
theorem dX7_withRowsAndTexts_31 : decode cX7_withRowsAndTexts 31 = .ok (.getfield 14, 3) := by decide +kernel
theorem dX7_withRowsAndTexts_34 : decode cX7_withRowsAndTexts 34 = .ok (.iload 5, 2) := by decide +kernel
theorem dX7_withRowsAndTexts_36 : decode cX7_withRowsAndTexts 36 = .ok (.iaload, 1) := by decide +kernel
theorem dX7_withRowsAndTexts_37 : decode cX7_withRowsAndTexts 37 = .ok (.if_icmp .ge 25, 3) := by decide +kernel
theorem dX7_withRowsAndTexts_40 : decode cX7_withRowsAndTexts 40 = .ok (.lload_n 3, 1) := by decide +kernel
theorem dX7_withRowsAndTexts_41 : decode cX7_withRowsAndTexts 41 = .ok (.aload_n 0, 1) := by decide +kernel
theorem dX7_withRowsAndTexts_42 : decode cX7_withRowsAndTexts 42 = .ok (.getfield 11, 3) := by decide +kernel
theorem dX7_withRowsAndTexts_45 : decode cX7_withRowsAndTexts 45 = .ok (.iload 5, 2) := by decide +kernel
theorem dX7_withRowsAndTexts_47 : decode cX7_withRowsAndTexts 47 = .ok (.aaload, 1) := by decide +kernel
theorem dX7_withRowsAndTexts_48 : decode cX7_withRowsAndTexts 48 = .ok (.iload 6, 2) := by decide +kernel
theorem dX7_withRowsAndTexts_50 : decode cX7_withRowsAndTexts 50 = .ok (.iaload, 1) := by decide +kernel
theorem dX7_withRowsAndTexts_51 : decode cX7_withRowsAndTexts 51 = .ok (.i2l, 1) := by decide +kernel
theorem dX7_withRowsAndTexts_52 : decode cX7_withRowsAndTexts 52 = .ok (.invokestatic 370, 3) := by decide +kernel
theorem dX7_withRowsAndTexts_55 : decode cX7_withRowsAndTexts 55 = .ok (.lstore_n 3, 1) := by decide +kernel
theorem dX7_withRowsAndTexts_56 : decode cX7_withRowsAndTexts 56 = .ok (.iinc 6 1, 3) := by decide +kernel
theorem dX7_withRowsAndTexts_59 : decode cX7_withRowsAndTexts 59 = .ok (.goto (-31), 3) := by decide +kernel
theorem dX7_withRowsAndTexts_62 : decode cX7_withRowsAndTexts 62 = .ok (.iinc 5 1, 3) := by decide +kernel
theorem dX7_withRowsAndTexts_65 : decode cX7_withRowsAndTexts 65 = .ok (.goto (-60), 3) := by decide +kernel
theorem dX7_withRowsAndTexts_68 : decode cX7_withRowsAndTexts 68 = .ok (.iconst 0, 1) := by decide +kernel
theorem dX7_withRowsAndTexts_69 : decode cX7_withRowsAndTexts 69 = .ok (.istore 5, 2) := by decide +kernel
theorem dX7_withRowsAndTexts_71 : decode cX7_withRowsAndTexts 71 = .ok (.iload 5, 2) := by decide +kernel
theorem dX7_withRowsAndTexts_73 : decode cX7_withRowsAndTexts 73 = .ok (.iconst 4, 1) := by decide +kernel
theorem dX7_withRowsAndTexts_74 : decode cX7_withRowsAndTexts 74 = .ok (.if_icmp .ge 59, 3) := by decide +kernel
theorem dX7_withRowsAndTexts_77 : decode cX7_withRowsAndTexts 77 = .ok (.lload_n 3, 1) := by decide +kernel
theorem dX7_withRowsAndTexts_78 : decode cX7_withRowsAndTexts 78 = .ok (.aload_n 0, 1) := by decide +kernel
theorem dX7_withRowsAndTexts_79 : decode cX7_withRowsAndTexts 79 = .ok (.getfield 23, 3) := by decide +kernel
theorem dX7_withRowsAndTexts_82 : decode cX7_withRowsAndTexts 82 = .ok (.iload 5, 2) := by decide +kernel
theorem dX7_withRowsAndTexts_84 : decode cX7_withRowsAndTexts 84 = .ok (.iaload, 1) := by decide +kernel
theorem dX7_withRowsAndTexts_85 : decode cX7_withRowsAndTexts 85 = .ok (.i2l, 1) := by decide +kernel
theorem dX7_withRowsAndTexts_86 : decode cX7_withRowsAndTexts 86 = .ok (.invokestatic 370, 3) := by decide +kernel
theorem dX7_withRowsAndTexts_89 : decode cX7_withRowsAndTexts 89 = .ok (.lstore_n 3, 1) := by decide +kernel
theorem dX7_withRowsAndTexts_90 : decode cX7_withRowsAndTexts 90 = .ok (.iconst 0, 1) := by decide +kernel
theorem dX7_withRowsAndTexts_91 : decode cX7_withRowsAndTexts 91 = .ok (.istore 6, 2) := by decide +kernel
theorem dX7_withRowsAndTexts_93 : decode cX7_withRowsAndTexts 93 = .ok (.iload 6, 2) := by decide +kernel
theorem dX7_withRowsAndTexts_95 : decode cX7_withRowsAndTexts 95 = .ok (.aload_n 0, 1) := by decide +kernel
theorem dX7_withRowsAndTexts_96 : decode cX7_withRowsAndTexts 96 = .ok (.getfield 23, 3) := by decide +kernel
theorem dX7_withRowsAndTexts_99 : decode cX7_withRowsAndTexts 99 = .ok (.iload 5, 2) := by decide +kernel
theorem dX7_withRowsAndTexts_101 : decode cX7_withRowsAndTexts 101 = .ok (.iaload, 1) := by decide +kernel
theorem dX7_withRowsAndTexts_102 : decode cX7_withRowsAndTexts 102 = .ok (.if_icmp .ge 25, 3) := by decide +kernel
theorem dX7_withRowsAndTexts_105 : decode cX7_withRowsAndTexts 105 = .ok (.lload_n 3, 1) := by decide +kernel
theorem dX7_withRowsAndTexts_106 : decode cX7_withRowsAndTexts 106 = .ok (.aload_n 0, 1) := by decide +kernel
theorem dX7_withRowsAndTexts_107 : decode cX7_withRowsAndTexts 107 = .ok (.getfield 20, 3) := by decide +kernel
theorem dX7_withRowsAndTexts_110 : decode cX7_withRowsAndTexts 110 = .ok (.iload 5, 2) := by decide +kernel
theorem dX7_withRowsAndTexts_112 : decode cX7_withRowsAndTexts 112 = .ok (.aaload, 1) := by decide +kernel
theorem dX7_withRowsAndTexts_113 : decode cX7_withRowsAndTexts 113 = .ok (.iload 6, 2) := by decide +kernel
theorem dX7_withRowsAndTexts_115 : decode cX7_withRowsAndTexts 115 = .ok (.baload, 1) := by decide +kernel
theorem dX7_withRowsAndTexts_116 : decode cX7_withRowsAndTexts 116 = .ok (.i2l, 1) := by decide +kernel
theorem dX7_withRowsAndTexts_117 : decode cX7_withRowsAndTexts 117 = .ok (.invokestatic 370, 3) := by decide +kernel
theorem dX7_withRowsAndTexts_120 : decode cX7_withRowsAndTexts 120 = .ok (.lstore_n 3, 1) := by decide +kernel
theorem dX7_withRowsAndTexts_121 : decode cX7_withRowsAndTexts 121 = .ok (.iinc 6 1, 3) := by decide +kernel
theorem dX7_withRowsAndTexts_124 : decode cX7_withRowsAndTexts 124 = .ok (.goto (-31), 3) := by decide +kernel
theorem dX7_withRowsAndTexts_127 : decode cX7_withRowsAndTexts 127 = .ok (.iinc 5 1, 3) := by decide +kernel
theorem dX7_withRowsAndTexts_130 : decode cX7_withRowsAndTexts 130 = .ok (.goto (-59), 3) := by decide +kernel
theorem dX7_withRowsAndTexts_133 : decode cX7_withRowsAndTexts 133 = .ok (.lload_n 3, 1) := by decide +kernel
theorem dX7_withRowsAndTexts_134 : decode cX7_withRowsAndTexts 134 = .ok (.lreturn, 1) := by decide +kernel
theorem dJ6_bitCount_0f7a4_0 : decode cJ6_bitCount_0f7a4 0 = .ok (.iload_n 0, 1) := by decide +kernel
theorem dJ6_bitCount_0f7a4_1 : decode cJ6_bitCount_0f7a4 1 = .ok (.iload_n 0, 1) := by decide +kernel
theorem dJ6_bitCount_0f7a4_2 : decode cJ6_bitCount_0f7a4 2 = .ok (.iconst 1, 1) := by decide +kernel
theorem dJ6_bitCount_0f7a4_3 : decode cJ6_bitCount_0f7a4 3 = .ok (.iushr, 1) := by decide +kernel
theorem dJ6_bitCount_0f7a4_4 : decode cJ6_bitCount_0f7a4 4 = .ok (.ldc_w 265, 3) := by decide +kernel
theorem dJ6_bitCount_0f7a4_7 : decode cJ6_bitCount_0f7a4 7 = .ok (.iand, 1) := by decide +kernel
theorem dJ6_bitCount_0f7a4_8 : decode cJ6_bitCount_0f7a4 8 = .ok (.isub, 1) := by decide +kernel
theorem dJ6_bitCount_0f7a4_9 : decode cJ6_bitCount_0f7a4 9 = .ok (.istore_n 0, 1) := by decide +kernel
theorem dJ6_bitCount_0f7a4_10 : decode cJ6_bitCount_0f7a4 10 = .ok (.iload_n 0, 1) := by decide +kernel
theorem dJ6_bitCount_0f7a4_11 : decode cJ6_bitCount_0f7a4 11 = .ok (.ldc_w 266, 3) := by decide +kernel
theorem dJ6_bitCount_0f7a4_14 : decode cJ6_bitCount_0f7a4 14 = .ok (.iand, 1) := by decide +kernel
theorem dJ6_bitCount_0f7a4_15 : decode cJ6_bitCount_0f7a4 15 = .ok (.iload_n 0, 1) := by decide +kernel
theorem dJ6_bitCount_0f7a4_16 : decode cJ6_bitCount_0f7a4 16 = .ok (.iconst 2, 1) := by decide +kernel
theorem dJ6_bitCount_0f7a4_17 : decode cJ6_bitCount_0f7a4 17 = .ok (.iushr, 1) := by decide +kernel
theorem dJ6_bitCount_0f7a4_18 : decode cJ6_bitCount_0f7a4 18 = .ok (.ldc_w 266, 3) := by decide +kernel
theorem dJ6_bitCount_0f7a4_21 : decode cJ6_bitCount_0f7a4 21 = .ok (.iand, 1) := by decide +kernel
theorem dJ6_bitCount_0f7a4_22 : decode cJ6_bitCount_0f7a4 22 = .ok (.iadd, 1) := by decide +kernel
theorem dJ6_bitCount_0f7a4_23 : decode cJ6_bitCount_0f7a4 23 = .ok (.istore_n 0, 1) := by decide +kernel
theorem dJ6_bitCount_0f7a4_24 : decode cJ6_bitCount_0f7a4 24 = .ok (.iload_n 0, 1) := by decide +kernel
theorem dJ6_bitCount_0f7a4_25 : decode cJ6_bitCount_0f7a4 25 = .ok (.iload_n 0, 1) := by decide +kernel
theorem dJ6_bitCount_0f7a4_26 : decode cJ6_bitCount_0f7a4 26 = .ok (.iconst 4, 1) := by decide +kernel
theorem dJ6_bitCount_0f7a4_27 : decode cJ6_bitCount_0f7a4 27 = .ok (.iushr, 1) := by decide +kernel
theorem dJ6_bitCount_0f7a4_28 : decode cJ6_bitCount_0f7a4 28 = .ok (.iadd, 1) := by decide +kernel
theorem dJ6_bitCount_0f7a4_29 : decode cJ6_bitCount_0f7a4 29 = .ok (.ldc_w 267, 3) := by decide +kernel
theorem dJ6_bitCount_0f7a4_32 : decode cJ6_bitCount_0f7a4 32 = .ok (.iand, 1) := by decide +kernel
theorem dJ6_bitCount_0f7a4_33 : decode cJ6_bitCount_0f7a4 33 = .ok (.istore_n 0, 1) := by decide +kernel
theorem dJ6_bitCount_0f7a4_34 : decode cJ6_bitCount_0f7a4 34 = .ok (.iload_n 0, 1) := by decide +kernel
theorem dJ6_bitCount_0f7a4_35 : decode cJ6_bitCount_0f7a4 35 = .ok (.iload_n 0, 1) := by decide +kernel
theorem dJ6_bitCount_0f7a4_36 : decode cJ6_bitCount_0f7a4 36 = .ok (.bipush 8, 2) := by decide +kernel
theorem dJ6_bitCount_0f7a4_38 : decode cJ6_bitCount_0f7a4 38 = .ok (.iushr, 1) := by decide +kernel
theorem dJ6_bitCount_0f7a4_39 : decode cJ6_bitCount_0f7a4 39 = .ok (.iadd, 1) := by decide +kernel
theorem dJ6_bitCount_0f7a4_40 : decode cJ6_bitCount_0f7a4 40 = .ok (.istore_n 0, 1) := by decide +kernel
theorem dJ6_bitCount_0f7a4_41 : decode cJ6_bitCount_0f7a4 41 = .ok (.iload_n 0, 1) := by decide +kernel
theorem dJ6_bitCount_0f7a4_42 : decode cJ6_bitCount_0f7a4 42 = .ok (.iload_n 0, 1) := by decide +kernel
theorem dJ6_bitCount_0f7a4_43 : decode cJ6_bitCount_0f7a4 43 = .ok (.bipush 16, 2) := by decide +kernel
theorem dJ6_bitCount_0f7a4_45 : decode cJ6_bitCount_0f7a4 45 = .ok (.iushr, 1) := by decide +kernel
theorem dJ6_bitCount_0f7a4_46 : decode cJ6_bitCount_0f7a4 46 = .ok (.iadd, 1) := by decide +kernel
theorem dJ6_bitCount_0f7a4_47 : decode cJ6_bitCount_0f7a4 47 = .ok (.istore_n 0, 1) := by decide +kernel
theorem dJ6_bitCount_0f7a4_48 : decode cJ6_bitCount_0f7a4 48 = .ok (.iload_n 0, 1) := by decide +kernel
theorem dJ6_bitCount_0f7a4_49 : decode cJ6_bitCount_0f7a4 49 = .ok (.bipush 63, 2) := by decide +kernel
theorem dJ6_bitCount_0f7a4_51 : decode cJ6_bitCount_0f7a4 51 = .ok (.iand, 1) := by decide +kernel
theorem dJ6_bitCount_0f7a4_52 : decode cJ6_bitCount_0f7a4 52 = .ok (.ireturn, 1) := by decide +kernel
theorem dJ9_abs_067f4_0 : decode cJ9_abs_067f4 0 = .ok (.lload_n 0, 1) := by decide +kernel
theorem dJ9_abs_067f4_1 : decode cJ9_abs_067f4 1 = .ok (.lconst 0, 1) := by decide +kernel
theorem dJ9_abs_067f4_2 : decode cJ9_abs_067f4 2 = .ok (.lcmp, 1) := by decide +kernel
theorem dJ9_abs_067f4_3 : decode cJ9_abs_067f4 3 = .ok (.ifCond .ge 8, 3) := by decide +kernel
theorem dJ9_abs_067f4_6 : decode cJ9_abs_067f4 6 = .ok (.lload_n 0, 1) := by decide +kernel
theorem dJ9_abs_067f4_7 : decode cJ9_abs_067f4 7 = .ok (.lneg, 1) := by decide +kernel
theorem dJ9_abs_067f4_8 : decode cJ9_abs_067f4 8 = .ok (.goto 4, 3) := by decide +kernel
theorem dJ9_abs_067f4_11 : decode cJ9_abs_067f4 11 = .ok (.lload_n 0, 1) := by decide +kernel
theorem dJ9_abs_067f4_12 : decode cJ9_abs_067f4 12 = .ok (.lreturn, 1) := by decide +kernel
theorem dJ9_max_7cf53_0 : decode cJ9_max_7cf53 0 = .ok (.iload_n 0, 1) := by decide +kernel
theorem dJ9_max_7cf53_1 : decode cJ9_max_7cf53 1 = .ok (.iload_n 1, 1) := by decide +kernel
theorem dJ9_max_7cf53_2 : decode cJ9_max_7cf53 2 = .ok (.if_icmp .lt 7, 3) := by decide +kernel
theorem dJ9_max_7cf53_5 : decode cJ9_max_7cf53 5 = .ok (.iload_n 0, 1) := by decide +kernel
theorem dJ9_max_7cf53_6 : decode cJ9_max_7cf53 6 = .ok (.goto 4, 3) := by decide +kernel
theorem dJ9_max_7cf53_9 : decode cJ9_max_7cf53 9 = .ok (.iload_n 1, 1) := by decide +kernel
theorem dJ9_max_7cf53_10 : decode cJ9_max_7cf53 10 = .ok (.ireturn, 1) := by decide +kernel
theorem dJ9_min_7cf53_0 : decode cJ9_min_7cf53 0 = .ok (.iload_n 0, 1) := by decide +kernel
theorem dJ9_min_7cf53_1 : decode cJ9_min_7cf53 1 = .ok (.iload_n 1, 1) := by decide +kernel
theorem dJ9_min_7cf53_2 : decode cJ9_min_7cf53 2 = .ok (.if_icmp .gt 7, 3) := by decide +kernel
theorem dJ9_min_7cf53_5 : decode cJ9_min_7cf53 5 = .ok (.iload_n 0, 1) := by decide +kernel
theorem dJ9_min_7cf53_6 : decode cJ9_min_7cf53 6 = .ok (.goto 4, 3) := by decide +kernel
theorem dJ9_min_7cf53_9 : decode cJ9_min_7cf53 9 = .ok (.iload_n 1, 1) := by decide +kernel
theorem dJ9_min_7cf53_10 : decode cJ9_min_7cf53 10 = .ok (.ireturn, 1) := by decide +kernel
theorem dJ7_fill_53178_0 : decode cJ7_fill_53178 0 = .ok (.iconst 0, 1) := by decide +kernel
theorem dJ7_fill_53178_1 : decode cJ7_fill_53178 1 = .ok (.istore_n 2, 1) := by decide +kernel
theorem dJ7_fill_53178_2 : decode cJ7_fill_53178 2 = .ok (.aload_n 0, 1) := by decide +kernel
theorem dJ7_fill_53178_3 : decode cJ7_fill_53178 3 = .ok (.arraylength, 1) := by decide +kernel
theorem dJ7_fill_53178_4 : decode cJ7_fill_53178 4 = .ok (.istore_n 3, 1) := by decide +kernel
theorem dJ7_fill_53178_5 : decode cJ7_fill_53178 5 = .ok (.iload_n 2, 1) := by decide +kernel
theorem dJ7_fill_53178_6 : decode cJ7_fill_53178 6 = .ok (.iload_n 3, 1) := by decide +kernel
theorem dJ7_fill_53178_7 : decode cJ7_fill_53178 7 = .ok (.if_icmp .ge 13, 3) := by decide +kernel
theorem dJ7_fill_53178_10 : decode cJ7_fill_53178 10 = .ok (.aload_n 0, 1) := by decide +kernel
theorem dJ7_fill_53178_11 : decode cJ7_fill_53178 11 = .ok (.iload_n 2, 1) := by decide +kernel
theorem dJ7_fill_53178_12 : decode cJ7_fill_53178 12 = .ok (.iload_n 1, 1) := by decide +kernel
theorem dJ7_fill_53178_13 : decode cJ7_fill_53178 13 = .ok (.iastore, 1) := by decide +kernel
theorem dJ7_fill_53178_14 : decode cJ7_fill_53178 14 = .ok (.iinc 2 1, 3) := by decide +kernel
theorem dJ7_fill_53178_17 : decode cJ7_fill_53178 17 = .ok (.goto (-12), 3) := by decide +kernel
theorem dJ7_fill_53178_20 : decode cJ7_fill_53178 20 = .ok (.return_, 1) := by decide +kernel
theorem dJ7_fill_031fb_0 : decode cJ7_fill_031fb 0 = .ok (.iconst 0, 1) := by decide +kernel
theorem dJ7_fill_031fb_1 : decode cJ7_fill_031fb 1 = .ok (.istore_n 2, 1) := by decide +kernel
theorem dJ7_fill_031fb_2 : decode cJ7_fill_031fb 2 = .ok (.aload_n 0, 1) := by decide +kernel
theorem dJ7_fill_031fb_3 : decode cJ7_fill_031fb 3 = .ok (.arraylength, 1) := by decide +kernel
theorem dJ7_fill_031fb_4 : decode cJ7_fill_031fb 4 = .ok (.istore_n 3, 1) := by decide +kernel
theorem dJ7_fill_031fb_5 : decode cJ7_fill_031fb 5 = .ok (.iload_n 2, 1) := by decide +kernel
theorem dJ7_fill_031fb_6 : decode cJ7_fill_031fb 6 = .ok (.iload_n 3, 1) := by decide +kernel
theorem dJ7_fill_031fb_7 : decode cJ7_fill_031fb 7 = .ok (.if_icmp .ge 13, 3) := by decide +kernel
theorem dJ7_fill_031fb_10 : decode cJ7_fill_031fb 10 = .ok (.aload_n 0, 1) := by decide +kernel
theorem dJ7_fill_031fb_11 : decode cJ7_fill_031fb 11 = .ok (.iload_n 2, 1) := by decide +kernel
theorem dJ7_fill_031fb_12 : decode cJ7_fill_031fb 12 = .ok (.iload_n 1, 1) := by decide +kernel
theorem dJ7_fill_031fb_13 : decode cJ7_fill_031fb 13 = .ok (.bastore, 1) := by decide +kernel
theorem dJ7_fill_031fb_14 : decode cJ7_fill_031fb 14 = .ok (.iinc 2 1, 3) := by decide +kernel
theorem dJ7_fill_031fb_17 : decode cJ7_fill_031fb 17 = .ok (.goto (-12), 3) := by decide +kernel
theorem dJ7_fill_031fb_20 : decode cJ7_fill_031fb 20 = .ok (.return_, 1) := by decide +kernel
