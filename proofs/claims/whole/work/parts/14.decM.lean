theorem d_Model_init_0 : decode b_Model_init 0 = .ok (.aload_n 0, 1) := by decide +kernel
theorem d_Model_init_1 : decode b_Model_init 1 = .ok (.invokespecial 1, 3) := by decide +kernel
theorem d_Model_init_4 : decode b_Model_init 4 = .ok (.aload_n 0, 1) := by decide +kernel
theorem d_Model_init_5 : decode b_Model_init 5 = .ok (.iconst 1, 1) := by decide +kernel
theorem d_Model_init_6 : decode b_Model_init 6 = .ok (.putfield 7, 3) := by decide +kernel
theorem d_Model_init_9 : decode b_Model_init 9 = .ok (.aload_n 0, 1) := by decide +kernel
theorem d_Model_init_10 : decode b_Model_init 10 = .ok (.bipush 8, 2) := by decide +kernel
theorem d_Model_init_12 : decode b_Model_init 12 = .ok (.newarray .int, 2) := by decide +kernel
theorem d_Model_init_14 : decode b_Model_init 14 = .ok (.putfield 13, 3) := by decide +kernel
theorem d_Model_init_17 : decode b_Model_init 17 = .ok (.aload_n 0, 1) := by decide +kernel
theorem d_Model_init_18 : decode b_Model_init 18 = .ok (.bipush 8, 2) := by decide +kernel
theorem d_Model_init_20 : decode b_Model_init 20 = .ok (.newarray .int, 2) := by decide +kernel
theorem d_Model_init_22 : decode b_Model_init 22 = .ok (.putfield 17, 3) := by decide +kernel
theorem d_Model_init_25 : decode b_Model_init 25 = .ok (.aload_n 0, 1) := by decide +kernel
theorem d_Model_init_26 : decode b_Model_init 26 = .ok (.sipush 256, 3) := by decide +kernel
theorem d_Model_init_29 : decode b_Model_init 29 = .ok (.newarray .int, 2) := by decide +kernel
theorem d_Model_init_31 : decode b_Model_init 31 = .ok (.putfield 20, 3) := by decide +kernel
theorem d_Model_init_34 : decode b_Model_init 34 = .ok (.aload_n 0, 1) := by decide +kernel
theorem d_Model_init_35 : decode b_Model_init 35 = .ok (.sipush 256, 3) := by decide +kernel
theorem d_Model_init_38 : decode b_Model_init 38 = .ok (.newarray .boolean, 2) := by decide +kernel
theorem d_Model_init_40 : decode b_Model_init 40 = .ok (.putfield 23, 3) := by decide +kernel
theorem d_Model_init_43 : decode b_Model_init 43 = .ok (.aload_n 0, 1) := by decide +kernel
theorem d_Model_init_44 : decode b_Model_init 44 = .ok (.sipush 256, 3) := by decide +kernel
theorem d_Model_init_47 : decode b_Model_init 47 = .ok (.newarray .int, 2) := by decide +kernel
theorem d_Model_init_49 : decode b_Model_init 49 = .ok (.putfield 27, 3) := by decide +kernel
theorem d_Model_init_52 : decode b_Model_init 52 = .ok (.aload_n 0, 1) := by decide +kernel
theorem d_Model_init_53 : decode b_Model_init 53 = .ok (.sipush 2048, 3) := by decide +kernel
theorem d_Model_init_56 : decode b_Model_init 56 = .ok (.newarray .int, 2) := by decide +kernel
theorem d_Model_init_58 : decode b_Model_init 58 = .ok (.putfield 30, 3) := by decide +kernel
theorem d_Model_init_61 : decode b_Model_init 61 = .ok (.return_, 1) := by decide +kernel
theorem d_Model_move_0 : decode b_Model_move 0 = .ok (.aload_n 0, 1) := by decide +kernel
theorem d_Model_move_1 : decode b_Model_move 1 = .ok (.iconst 0, 1) := by decide +kernel
theorem d_Model_move_2 : decode b_Model_move 2 = .ok (.putfield 33, 3) := by decide +kernel
theorem d_Model_move_5 : decode b_Model_move 5 = .ok (.iload_n 1, 1) := by decide +kernel
theorem d_Model_move_6 : decode b_Model_move 6 = .ok (.ifCond .lt 9, 3) := by decide +kernel
theorem d_Model_move_9 : decode b_Model_move 9 = .ok (.iload_n 1, 1) := by decide +kernel
theorem d_Model_move_10 : decode b_Model_move 10 = .ok (.bipush 7, 2) := by decide +kernel
theorem d_Model_move_12 : decode b_Model_move 12 = .ok (.if_icmp .le 6, 3) := by decide +kernel
theorem d_Model_move_15 : decode b_Model_move 15 = .ok (.bipush 18, 2) := by decide +kernel
theorem d_Model_move_17 : decode b_Model_move 17 = .ok (.ireturn, 1) := by decide +kernel
theorem d_Model_move_18 : decode b_Model_move 18 = .ok (.aload_n 0, 1) := by decide +kernel
theorem d_Model_move_19 : decode b_Model_move 19 = .ok (.getfield 7, 3) := by decide +kernel
theorem d_Model_move_22 : decode b_Model_move 22 = .ok (.ifCond .ne 6, 3) := by decide +kernel
theorem d_Model_move_25 : decode b_Model_move 25 = .ok (.bipush 19, 2) := by decide +kernel
theorem d_Model_move_27 : decode b_Model_move 27 = .ok (.ireturn, 1) := by decide +kernel
theorem d_Model_move_28 : decode b_Model_move 28 = .ok (.aload_n 0, 1) := by decide +kernel
theorem d_Model_move_29 : decode b_Model_move 29 = .ok (.getfield 13, 3) := by decide +kernel
theorem d_Model_move_32 : decode b_Model_move 32 = .ok (.iload_n 1, 1) := by decide +kernel
theorem d_Model_move_33 : decode b_Model_move 33 = .ok (.iload_n 2, 1) := by decide +kernel
theorem d_Model_move_34 : decode b_Model_move 34 = .ok (.iastore, 1) := by decide +kernel
theorem d_Model_move_35 : decode b_Model_move 35 = .ok (.iconst 0, 1) := by decide +kernel
theorem d_Model_move_36 : decode b_Model_move 36 = .ok (.ireturn, 1) := by decide +kernel
theorem d_Model_becomes_0 : decode b_Model_becomes 0 = .ok (.iload_n 1, 1) := by decide +kernel
theorem d_Model_becomes_1 : decode b_Model_becomes 1 = .ok (.aload_n 0, 1) := by decide +kernel
theorem d_Model_becomes_2 : decode b_Model_becomes 2 = .ok (.getfield 7, 3) := by decide +kernel
theorem d_Model_becomes_5 : decode b_Model_becomes 5 = .ok (.if_icmp .eq 7, 3) := by decide +kernel
theorem d_Model_becomes_8 : decode b_Model_becomes 8 = .ok (.iconst 1, 1) := by decide +kernel
theorem d_Model_becomes_9 : decode b_Model_becomes 9 = .ok (.goto 4, 3) := by decide +kernel
theorem d_Model_becomes_12 : decode b_Model_becomes 12 = .ok (.iconst 0, 1) := by decide +kernel
theorem d_Model_becomes_13 : decode b_Model_becomes 13 = .ok (.istore_n 2, 1) := by decide +kernel
theorem d_Model_becomes_14 : decode b_Model_becomes 14 = .ok (.aload_n 0, 1) := by decide +kernel
theorem d_Model_becomes_15 : decode b_Model_becomes 15 = .ok (.iload_n 1, 1) := by decide +kernel
theorem d_Model_becomes_16 : decode b_Model_becomes 16 = .ok (.putfield 7, 3) := by decide +kernel
theorem d_Model_becomes_19 : decode b_Model_becomes 19 = .ok (.aload_n 0, 1) := by decide +kernel
theorem d_Model_becomes_20 : decode b_Model_becomes 20 = .ok (.dup, 1) := by decide +kernel
theorem d_Model_becomes_21 : decode b_Model_becomes 21 = .ok (.getfield 36, 3) := by decide +kernel
theorem d_Model_becomes_24 : decode b_Model_becomes 24 = .ok (.iload_n 2, 1) := by decide +kernel
theorem d_Model_becomes_25 : decode b_Model_becomes 25 = .ok (.ifCond .eq 7, 3) := by decide +kernel
theorem d_Model_becomes_28 : decode b_Model_becomes 28 = .ok (.iconst 1, 1) := by decide +kernel
theorem d_Model_becomes_29 : decode b_Model_becomes 29 = .ok (.goto 4, 3) := by decide +kernel
theorem d_Model_becomes_32 : decode b_Model_becomes 32 = .ok (.iconst 0, 1) := by decide +kernel
theorem d_Model_becomes_33 : decode b_Model_becomes 33 = .ok (.iadd, 1) := by decide +kernel
theorem d_Model_becomes_34 : decode b_Model_becomes 34 = .ok (.putfield 36, 3) := by decide +kernel
theorem d_Model_becomes_37 : decode b_Model_becomes 37 = .ok (.iconst 0, 1) := by decide +kernel
theorem d_Model_becomes_38 : decode b_Model_becomes 38 = .ok (.istore_n 3, 1) := by decide +kernel
theorem d_Model_becomes_39 : decode b_Model_becomes 39 = .ok (.iload_n 3, 1) := by decide +kernel
theorem d_Model_becomes_40 : decode b_Model_becomes 40 = .ok (.bipush 8, 2) := by decide +kernel
theorem d_Model_becomes_42 : decode b_Model_becomes 42 = .ok (.if_icmp .ge 55, 3) := by decide +kernel
theorem d_Model_becomes_45 : decode b_Model_becomes 45 = .ok (.iload_n 2, 1) := by decide +kernel
theorem d_Model_becomes_46 : decode b_Model_becomes 46 = .ok (.ifCond .eq 51, 3) := by decide +kernel
theorem d_Model_becomes_49 : decode b_Model_becomes 49 = .ok (.iload_n 1, 1) := by decide +kernel
theorem d_Model_becomes_50 : decode b_Model_becomes 50 = .ok (.ifCond .ne 47, 3) := by decide +kernel
theorem d_Model_becomes_53 : decode b_Model_becomes 53 = .ok (.aload_n 0, 1) := by decide +kernel
theorem d_Model_becomes_54 : decode b_Model_becomes 54 = .ok (.getfield 13, 3) := by decide +kernel
theorem d_Model_becomes_57 : decode b_Model_becomes 57 = .ok (.iload_n 3, 1) := by decide +kernel
theorem d_Model_becomes_58 : decode b_Model_becomes 58 = .ok (.iload_n 3, 1) := by decide +kernel
theorem d_Model_becomes_59 : decode b_Model_becomes 59 = .ok (.iconst 4, 1) := by decide +kernel
theorem d_Model_becomes_60 : decode b_Model_becomes 60 = .ok (.if_icmp .ge 7, 3) := by decide +kernel
theorem d_Model_becomes_63 : decode b_Model_becomes 63 = .ok (.iconst 0, 1) := by decide +kernel
theorem d_Model_becomes_64 : decode b_Model_becomes 64 = .ok (.goto 26, 3) := by decide +kernel
theorem d_Model_becomes_67 : decode b_Model_becomes 67 = .ok (.iload_n 3, 1) := by decide +kernel
theorem d_Model_becomes_68 : decode b_Model_becomes 68 = .ok (.bipush 6, 2) := by decide +kernel
theorem d_Model_becomes_70 : decode b_Model_becomes 70 = .ok (.if_icmp .ge 8, 3) := by decide +kernel
theorem d_Model_becomes_73 : decode b_Model_becomes 73 = .ok (.bipush 50, 2) := by decide +kernel
theorem d_Model_becomes_75 : decode b_Model_becomes 75 = .ok (.goto 15, 3) := by decide +kernel
theorem d_Model_becomes_78 : decode b_Model_becomes 78 = .ok (.iload_n 3, 1) := by decide +kernel
theorem d_Model_becomes_79 : decode b_Model_becomes 79 = .ok (.bipush 6, 2) := by decide +kernel
theorem d_Model_becomes_81 : decode b_Model_becomes 81 = .ok (.if_icmp .ne 8, 3) := by decide +kernel
theorem d_Model_becomes_84 : decode b_Model_becomes 84 = .ok (.bipush 100, 2) := by decide +kernel
theorem d_Model_becomes_86 : decode b_Model_becomes 86 = .ok (.goto 4, 3) := by decide +kernel
theorem d_Model_becomes_89 : decode b_Model_becomes 89 = .ok (.iconst 1, 1) := by decide +kernel
theorem d_Model_becomes_90 : decode b_Model_becomes 90 = .ok (.iastore, 1) := by decide +kernel
theorem d_Model_becomes_91 : decode b_Model_becomes 91 = .ok (.iinc 3 1, 3) := by decide +kernel
theorem d_Model_becomes_94 : decode b_Model_becomes 94 = .ok (.goto (-55), 3) := by decide +kernel
theorem d_Model_becomes_97 : decode b_Model_becomes 97 = .ok (.iload_n 2, 1) := by decide +kernel
theorem d_Model_becomes_98 : decode b_Model_becomes 98 = .ok (.ireturn, 1) := by decide +kernel
theorem d_Model_enter_0 : decode b_Model_enter 0 = .ok (.aload_n 0, 1) := by decide +kernel
theorem d_Model_enter_1 : decode b_Model_enter 1 = .ok (.iconst 0, 1) := by decide +kernel
theorem d_Model_enter_2 : decode b_Model_enter 2 = .ok (.putfield 33, 3) := by decide +kernel
theorem d_Model_enter_5 : decode b_Model_enter 5 = .ok (.iload_n 1, 1) := by decide +kernel
theorem d_Model_enter_6 : decode b_Model_enter 6 = .ok (.ifCond .lt 8, 3) := by decide +kernel
theorem d_Model_enter_9 : decode b_Model_enter 9 = .ok (.iload_n 1, 1) := by decide +kernel
theorem d_Model_enter_10 : decode b_Model_enter 10 = .ok (.iconst 2, 1) := by decide +kernel
theorem d_Model_enter_11 : decode b_Model_enter 11 = .ok (.if_icmp .le 6, 3) := by decide +kernel
theorem d_Model_enter_14 : decode b_Model_enter 14 = .ok (.bipush 18, 2) := by decide +kernel
theorem d_Model_enter_16 : decode b_Model_enter 16 = .ok (.ireturn, 1) := by decide +kernel
theorem d_Model_enter_17 : decode b_Model_enter 17 = .ok (.aload_n 0, 1) := by decide +kernel
theorem d_Model_enter_18 : decode b_Model_enter 18 = .ok (.getfield 7, 3) := by decide +kernel
theorem d_Model_enter_21 : decode b_Model_enter 21 = .ok (.ifCond .ne 11, 3) := by decide +kernel
theorem d_Model_enter_24 : decode b_Model_enter 24 = .ok (.iload_n 1, 1) := by decide +kernel
theorem d_Model_enter_25 : decode b_Model_enter 25 = .ok (.iconst 2, 1) := by decide +kernel
theorem d_Model_enter_26 : decode b_Model_enter 26 = .ok (.if_icmp .ne 6, 3) := by decide +kernel
theorem d_Model_enter_29 : decode b_Model_enter 29 = .ok (.bipush 19, 2) := by decide +kernel
theorem d_Model_enter_31 : decode b_Model_enter 31 = .ok (.ireturn, 1) := by decide +kernel
theorem d_Model_enter_32 : decode b_Model_enter 32 = .ok (.aload_n 0, 1) := by decide +kernel
theorem d_Model_enter_33 : decode b_Model_enter 33 = .ok (.iload_n 1, 1) := by decide +kernel
theorem d_Model_enter_34 : decode b_Model_enter 34 = .ok (.invokevirtual 39, 3) := by decide +kernel
theorem d_Model_enter_37 : decode b_Model_enter 37 = .ok (.istore_n 2, 1) := by decide +kernel
theorem d_Model_enter_38 : decode b_Model_enter 38 = .ok (.iconst 0, 1) := by decide +kernel
theorem d_Model_enter_39 : decode b_Model_enter 39 = .ok (.ireturn, 1) := by decide +kernel
theorem d_Model_alarm_0 : decode b_Model_alarm 0 = .ok (.aload_n 0, 1) := by decide +kernel
theorem d_Model_alarm_1 : decode b_Model_alarm 1 = .ok (.iconst 0, 1) := by decide +kernel
theorem d_Model_alarm_2 : decode b_Model_alarm 2 = .ok (.putfield 33, 3) := by decide +kernel
theorem d_Model_alarm_5 : decode b_Model_alarm 5 = .ok (.aload_n 0, 1) := by decide +kernel
theorem d_Model_alarm_6 : decode b_Model_alarm 6 = .ok (.getfield 43, 3) := by decide +kernel
theorem d_Model_alarm_9 : decode b_Model_alarm 9 = .ok (.ifCond .eq 5, 3) := by decide +kernel
theorem d_Model_alarm_12 : decode b_Model_alarm 12 = .ok (.iconst 0, 1) := by decide +kernel
theorem d_Model_alarm_13 : decode b_Model_alarm 13 = .ok (.ireturn, 1) := by decide +kernel
theorem d_Model_alarm_14 : decode b_Model_alarm 14 = .ok (.aload_n 0, 1) := by decide +kernel
theorem d_Model_alarm_15 : decode b_Model_alarm 15 = .ok (.iconst 1, 1) := by decide +kernel
theorem d_Model_alarm_16 : decode b_Model_alarm 16 = .ok (.putfield 43, 3) := by decide +kernel
theorem d_Model_alarm_19 : decode b_Model_alarm 19 = .ok (.aload_n 0, 1) := by decide +kernel
theorem d_Model_alarm_20 : decode b_Model_alarm 20 = .ok (.iload_n 1, 1) := by decide +kernel
theorem d_Model_alarm_21 : decode b_Model_alarm 21 = .ok (.putfield 47, 3) := by decide +kernel
theorem d_Model_alarm_24 : decode b_Model_alarm 24 = .ok (.iconst 1, 1) := by decide +kernel
theorem d_Model_alarm_25 : decode b_Model_alarm 25 = .ok (.ireturn, 1) := by decide +kernel
theorem d_Model_look_0 : decode b_Model_look 0 = .ok (.aload_n 0, 1) := by decide +kernel
theorem d_Model_look_1 : decode b_Model_look 1 = .ok (.iconst 0, 1) := by decide +kernel
theorem d_Model_look_2 : decode b_Model_look 2 = .ok (.putfield 33, 3) := by decide +kernel
theorem d_Model_look_5 : decode b_Model_look 5 = .ok (.aload_n 0, 1) := by decide +kernel
theorem d_Model_look_6 : decode b_Model_look 6 = .ok (.getfield 43, 3) := by decide +kernel
theorem d_Model_look_9 : decode b_Model_look 9 = .ok (.ifCond .eq 11, 3) := by decide +kernel
theorem d_Model_look_12 : decode b_Model_look 12 = .ok (.aload_n 0, 1) := by decide +kernel
theorem d_Model_look_13 : decode b_Model_look 13 = .ok (.getfield 47, 3) := by decide +kernel
theorem d_Model_look_16 : decode b_Model_look 16 = .ok (.iload_n 1, 1) := by decide +kernel
theorem d_Model_look_17 : decode b_Model_look 17 = .ok (.if_icmp .le 5, 3) := by decide +kernel
theorem d_Model_look_20 : decode b_Model_look 20 = .ok (.iconst 0, 1) := by decide +kernel
theorem d_Model_look_21 : decode b_Model_look 21 = .ok (.ireturn, 1) := by decide +kernel
theorem d_Model_look_22 : decode b_Model_look 22 = .ok (.aload_n 0, 1) := by decide +kernel
theorem d_Model_look_23 : decode b_Model_look 23 = .ok (.iconst 0, 1) := by decide +kernel
theorem d_Model_look_24 : decode b_Model_look 24 = .ok (.putfield 43, 3) := by decide +kernel
theorem d_Model_look_27 : decode b_Model_look 27 = .ok (.aload_n 0, 1) := by decide +kernel
theorem d_Model_look_28 : decode b_Model_look 28 = .ok (.iconst 0, 1) := by decide +kernel
theorem d_Model_look_29 : decode b_Model_look 29 = .ok (.invokevirtual 39, 3) := by decide +kernel
theorem d_Model_look_32 : decode b_Model_look 32 = .ok (.ireturn, 1) := by decide +kernel
theorem d_Model_isThere_0 : decode b_Model_isThere 0 = .ok (.iload_n 1, 1) := by decide +kernel
theorem d_Model_isThere_1 : decode b_Model_isThere 1 = .ok (.ifCond .lt 23, 3) := by decide +kernel
theorem d_Model_isThere_4 : decode b_Model_isThere 4 = .ok (.iload_n 1, 1) := by decide +kernel
theorem d_Model_isThere_5 : decode b_Model_isThere 5 = .ok (.sipush 256, 3) := by decide +kernel
theorem d_Model_isThere_8 : decode b_Model_isThere 8 = .ok (.if_icmp .ge 16, 3) := by decide +kernel
theorem d_Model_isThere_11 : decode b_Model_isThere 11 = .ok (.aload_n 0, 1) := by decide +kernel
theorem d_Model_isThere_12 : decode b_Model_isThere 12 = .ok (.getfield 20, 3) := by decide +kernel
theorem d_Model_isThere_15 : decode b_Model_isThere 15 = .ok (.iload_n 1, 1) := by decide +kernel
theorem d_Model_isThere_16 : decode b_Model_isThere 16 = .ok (.iaload, 1) := by decide +kernel
theorem d_Model_isThere_17 : decode b_Model_isThere 17 = .ok (.ifCond .le 7, 3) := by decide +kernel
theorem d_Model_isThere_20 : decode b_Model_isThere 20 = .ok (.iconst 1, 1) := by decide +kernel
theorem d_Model_isThere_21 : decode b_Model_isThere 21 = .ok (.goto 4, 3) := by decide +kernel
theorem d_Model_isThere_24 : decode b_Model_isThere 24 = .ok (.iconst 0, 1) := by decide +kernel
theorem d_Model_isThere_25 : decode b_Model_isThere 25 = .ok (.ireturn, 1) := by decide +kernel
theorem d_Model_forms_0 : decode b_Model_forms 0 = .ok (.iconst 0, 1) := by decide +kernel
theorem d_Model_forms_1 : decode b_Model_forms 1 = .ok (.istore_n 1, 1) := by decide +kernel
theorem d_Model_forms_2 : decode b_Model_forms 2 = .ok (.iconst 0, 1) := by decide +kernel
theorem d_Model_forms_3 : decode b_Model_forms 3 = .ok (.istore_n 2, 1) := by decide +kernel
theorem d_Model_forms_4 : decode b_Model_forms 4 = .ok (.iload_n 2, 1) := by decide +kernel
theorem d_Model_forms_5 : decode b_Model_forms 5 = .ok (.sipush 256, 3) := by decide +kernel
theorem d_Model_forms_8 : decode b_Model_forms 8 = .ok (.if_icmp .ge 26, 3) := by decide +kernel
theorem d_Model_forms_11 : decode b_Model_forms 11 = .ok (.iload_n 1, 1) := by decide +kernel
theorem d_Model_forms_12 : decode b_Model_forms 12 = .ok (.aload_n 0, 1) := by decide +kernel
theorem d_Model_forms_13 : decode b_Model_forms 13 = .ok (.getfield 20, 3) := by decide +kernel
theorem d_Model_forms_16 : decode b_Model_forms 16 = .ok (.iload_n 2, 1) := by decide +kernel
theorem d_Model_forms_17 : decode b_Model_forms 17 = .ok (.iaload, 1) := by decide +kernel
theorem d_Model_forms_18 : decode b_Model_forms 18 = .ok (.ifCond .le 7, 3) := by decide +kernel
theorem d_Model_forms_21 : decode b_Model_forms 21 = .ok (.iconst 1, 1) := by decide +kernel
theorem d_Model_forms_22 : decode b_Model_forms 22 = .ok (.goto 4, 3) := by decide +kernel
theorem d_Model_forms_25 : decode b_Model_forms 25 = .ok (.iconst 0, 1) := by decide +kernel
theorem d_Model_forms_26 : decode b_Model_forms 26 = .ok (.iadd, 1) := by decide +kernel
theorem d_Model_forms_27 : decode b_Model_forms 27 = .ok (.istore_n 1, 1) := by decide +kernel
theorem d_Model_forms_28 : decode b_Model_forms 28 = .ok (.iinc 2 1, 3) := by decide +kernel
theorem d_Model_forms_31 : decode b_Model_forms 31 = .ok (.goto (-27), 3) := by decide +kernel
theorem d_Model_forms_34 : decode b_Model_forms 34 = .ok (.iload_n 1, 1) := by decide +kernel
theorem d_Model_forms_35 : decode b_Model_forms 35 = .ok (.ireturn, 1) := by decide +kernel
theorem d_Model_put_0 : decode b_Model_put 0 = .ok (.aload_n 0, 1) := by decide +kernel
theorem d_Model_put_1 : decode b_Model_put 1 = .ok (.iconst 0, 1) := by decide +kernel
theorem d_Model_put_2 : decode b_Model_put 2 = .ok (.putfield 33, 3) := by decide +kernel
theorem d_Model_put_5 : decode b_Model_put 5 = .ok (.iload_n 1, 1) := by decide +kernel
theorem d_Model_put_6 : decode b_Model_put 6 = .ok (.ifCond .lt 18, 3) := by decide +kernel
theorem d_Model_put_9 : decode b_Model_put 9 = .ok (.iload_n 1, 1) := by decide +kernel
theorem d_Model_put_10 : decode b_Model_put 10 = .ok (.bipush 31, 2) := by decide +kernel
theorem d_Model_put_12 : decode b_Model_put 12 = .ok (.if_icmp .gt 12, 3) := by decide +kernel
theorem d_Model_put_15 : decode b_Model_put 15 = .ok (.aload_n 0, 1) := by decide +kernel
theorem d_Model_put_16 : decode b_Model_put 16 = .ok (.getfield 50, 3) := by decide +kernel
theorem d_Model_put_19 : decode b_Model_put 19 = .ok (.bipush 8, 2) := by decide +kernel
theorem d_Model_put_21 : decode b_Model_put 21 = .ok (.if_icmp .ne 5, 3) := by decide +kernel
theorem d_Model_put_24 : decode b_Model_put 24 = .ok (.iconst (-1), 1) := by decide +kernel
theorem d_Model_put_25 : decode b_Model_put 25 = .ok (.ireturn, 1) := by decide +kernel
theorem d_Model_put_26 : decode b_Model_put 26 = .ok (.aload_n 0, 1) := by decide +kernel
theorem d_Model_put_27 : decode b_Model_put 27 = .ok (.getfield 17, 3) := by decide +kernel
theorem d_Model_put_30 : decode b_Model_put 30 = .ok (.aload_n 0, 1) := by decide +kernel
theorem d_Model_put_31 : decode b_Model_put 31 = .ok (.getfield 50, 3) := by decide +kernel
theorem d_Model_put_34 : decode b_Model_put 34 = .ok (.iload_n 1, 1) := by decide +kernel
theorem d_Model_put_35 : decode b_Model_put 35 = .ok (.iastore, 1) := by decide +kernel
theorem d_Model_put_36 : decode b_Model_put 36 = .ok (.aload_n 0, 1) := by decide +kernel
theorem d_Model_put_37 : decode b_Model_put 37 = .ok (.dup, 1) := by decide +kernel
theorem d_Model_put_38 : decode b_Model_put 38 = .ok (.getfield 50, 3) := by decide +kernel
theorem d_Model_put_41 : decode b_Model_put 41 = .ok (.iconst 1, 1) := by decide +kernel
theorem d_Model_put_42 : decode b_Model_put 42 = .ok (.iadd, 1) := by decide +kernel
theorem d_Model_put_43 : decode b_Model_put 43 = .ok (.putfield 50, 3) := by decide +kernel
theorem d_Model_put_46 : decode b_Model_put 46 = .ok (.aload_n 0, 1) := by decide +kernel
theorem d_Model_put_47 : decode b_Model_put 47 = .ok (.getfield 50, 3) := by decide +kernel
theorem d_Model_put_50 : decode b_Model_put 50 = .ok (.ireturn, 1) := by decide +kernel
theorem d_Model_form_0 : decode b_Model_form 0 = .ok (.aload_n 0, 1) := by decide +kernel
theorem d_Model_form_1 : decode b_Model_form 1 = .ok (.iconst 0, 1) := by decide +kernel
theorem d_Model_form_2 : decode b_Model_form 2 = .ok (.putfield 33, 3) := by decide +kernel
theorem d_Model_form_5 : decode b_Model_form 5 = .ok (.aload_n 0, 1) := by decide +kernel
theorem d_Model_form_6 : decode b_Model_form 6 = .ok (.getfield 50, 3) := by decide +kernel
theorem d_Model_form_9 : decode b_Model_form 9 = .ok (.istore_n 3, 1) := by decide +kernel
theorem d_Model_form_10 : decode b_Model_form 10 = .ok (.aload_n 0, 1) := by decide +kernel
theorem d_Model_form_11 : decode b_Model_form 11 = .ok (.iconst 0, 1) := by decide +kernel
theorem d_Model_form_12 : decode b_Model_form 12 = .ok (.putfield 50, 3) := by decide +kernel
theorem d_Model_form_15 : decode b_Model_form 15 = .ok (.iload_n 3, 1) := by decide +kernel
theorem d_Model_form_16 : decode b_Model_form 16 = .ok (.ifCond .eq 26, 3) := by decide +kernel
theorem d_Model_form_19 : decode b_Model_form 19 = .ok (.iload_n 2, 1) := by decide +kernel
theorem d_Model_form_20 : decode b_Model_form 20 = .ok (.iconst 1, 1) := by decide +kernel
theorem d_Model_form_21 : decode b_Model_form 21 = .ok (.if_icmp .lt 21, 3) := by decide +kernel
theorem d_Model_form_24 : decode b_Model_form 24 = .ok (.iload_n 2, 1) := by decide +kernel
theorem d_Model_form_25 : decode b_Model_form 25 = .ok (.sipush 255, 3) := by decide +kernel
theorem d_Model_form_28 : decode b_Model_form 28 = .ok (.if_icmp .gt 14, 3) := by decide +kernel
theorem d_Model_form_31 : decode b_Model_form 31 = .ok (.iload_n 1, 1) := by decide +kernel
theorem d_Model_form_32 : decode b_Model_form 32 = .ok (.ifCond .lt 10, 3) := by decide +kernel
theorem d_Model_form_35 : decode b_Model_form 35 = .ok (.iload_n 1, 1) := by decide +kernel
theorem d_Model_form_36 : decode b_Model_form 36 = .ok (.sipush 255, 3) := by decide +kernel
theorem d_Model_form_39 : decode b_Model_form 39 = .ok (.if_icmp .le 6, 3) := by decide +kernel
theorem d_Model_form_42 : decode b_Model_form 42 = .ok (.bipush 13, 2) := by decide +kernel
theorem d_Model_form_44 : decode b_Model_form 44 = .ok (.ireturn, 1) := by decide +kernel
theorem d_Model_form_45 : decode b_Model_form 45 = .ok (.aload_n 0, 1) := by decide +kernel
theorem d_Model_form_46 : decode b_Model_form 46 = .ok (.getfield 20, 3) := by decide +kernel
theorem d_Model_form_49 : decode b_Model_form 49 = .ok (.iload_n 1, 1) := by decide +kernel
theorem d_Model_form_50 : decode b_Model_form 50 = .ok (.iaload, 1) := by decide +kernel
theorem d_Model_form_51 : decode b_Model_form 51 = .ok (.ifCond .le 6, 3) := by decide +kernel
theorem d_Model_form_54 : decode b_Model_form 54 = .ok (.bipush 11, 2) := by decide +kernel
theorem d_Model_form_56 : decode b_Model_form 56 = .ok (.ireturn, 1) := by decide +kernel
theorem d_Model_form_57 : decode b_Model_form 57 = .ok (.aload_n 0, 1) := by decide +kernel
theorem d_Model_form_58 : decode b_Model_form 58 = .ok (.invokevirtual 53, 3) := by decide +kernel
theorem d_Model_form_61 : decode b_Model_form 61 = .ok (.bipush 8, 2) := by decide +kernel
theorem d_Model_form_63 : decode b_Model_form 63 = .ok (.if_icmp .ne 6, 3) := by decide +kernel
theorem d_Model_form_66 : decode b_Model_form 66 = .ok (.bipush 12, 2) := by decide +kernel
theorem d_Model_form_68 : decode b_Model_form 68 = .ok (.ireturn, 1) := by decide +kernel
theorem d_Model_form_69 : decode b_Model_form 69 = .ok (.aload_n 0, 1) := by decide +kernel
theorem d_Model_form_70 : decode b_Model_form 70 = .ok (.getfield 20, 3) := by decide +kernel
theorem d_Model_form_73 : decode b_Model_form 73 = .ok (.iload_n 1, 1) := by decide +kernel
theorem d_Model_form_74 : decode b_Model_form 74 = .ok (.iload_n 2, 1) := by decide +kernel
theorem d_Model_form_75 : decode b_Model_form 75 = .ok (.iastore, 1) := by decide +kernel
theorem d_Model_form_76 : decode b_Model_form 76 = .ok (.aload_n 0, 1) := by decide +kernel
theorem d_Model_form_77 : decode b_Model_form 77 = .ok (.getfield 23, 3) := by decide +kernel
theorem d_Model_form_80 : decode b_Model_form 80 = .ok (.iload_n 1, 1) := by decide +kernel
theorem d_Model_form_81 : decode b_Model_form 81 = .ok (.iconst 0, 1) := by decide +kernel
theorem d_Model_form_82 : decode b_Model_form 82 = .ok (.bastore, 1) := by decide +kernel
theorem d_Model_form_83 : decode b_Model_form 83 = .ok (.aload_n 0, 1) := by decide +kernel
theorem d_Model_form_84 : decode b_Model_form 84 = .ok (.getfield 27, 3) := by decide +kernel
theorem d_Model_form_87 : decode b_Model_form 87 = .ok (.iload_n 1, 1) := by decide +kernel
theorem d_Model_form_88 : decode b_Model_form 88 = .ok (.iload_n 3, 1) := by decide +kernel
theorem d_Model_form_89 : decode b_Model_form 89 = .ok (.iastore, 1) := by decide +kernel
theorem d_Model_form_90 : decode b_Model_form 90 = .ok (.iconst 0, 1) := by decide +kernel
theorem d_Model_form_91 : decode b_Model_form 91 = .ok (.istore 4, 2) := by decide +kernel
theorem d_Model_form_93 : decode b_Model_form 93 = .ok (.iload 4, 2) := by decide +kernel
theorem d_Model_form_95 : decode b_Model_form 95 = .ok (.iload_n 3, 1) := by decide +kernel
theorem d_Model_form_96 : decode b_Model_form 96 = .ok (.if_icmp .ge 28, 3) := by decide +kernel
theorem d_Model_form_99 : decode b_Model_form 99 = .ok (.aload_n 0, 1) := by decide +kernel
theorem d_Model_form_100 : decode b_Model_form 100 = .ok (.getfield 30, 3) := by decide +kernel
theorem d_Model_form_103 : decode b_Model_form 103 = .ok (.bipush 8, 2) := by decide +kernel
theorem d_Model_form_105 : decode b_Model_form 105 = .ok (.iload_n 1, 1) := by decide +kernel
theorem d_Model_form_106 : decode b_Model_form 106 = .ok (.imul, 1) := by decide +kernel
theorem d_Model_form_107 : decode b_Model_form 107 = .ok (.iload 4, 2) := by decide +kernel
theorem d_Model_form_109 : decode b_Model_form 109 = .ok (.iadd, 1) := by decide +kernel
theorem d_Model_form_110 : decode b_Model_form 110 = .ok (.aload_n 0, 1) := by decide +kernel
theorem d_Model_form_111 : decode b_Model_form 111 = .ok (.getfield 17, 3) := by decide +kernel
theorem d_Model_form_114 : decode b_Model_form 114 = .ok (.iload 4, 2) := by decide +kernel
theorem d_Model_form_116 : decode b_Model_form 116 = .ok (.iaload, 1) := by decide +kernel
theorem d_Model_form_117 : decode b_Model_form 117 = .ok (.iastore, 1) := by decide +kernel
theorem d_Model_form_118 : decode b_Model_form 118 = .ok (.iinc 4 1, 3) := by decide +kernel
theorem d_Model_form_121 : decode b_Model_form 121 = .ok (.goto (-28), 3) := by decide +kernel
theorem d_Model_form_124 : decode b_Model_form 124 = .ok (.iconst 0, 1) := by decide +kernel
theorem d_Model_form_125 : decode b_Model_form 125 = .ok (.ireturn, 1) := by decide +kernel
theorem d_Model_remove_0 : decode b_Model_remove 0 = .ok (.aload_n 0, 1) := by decide +kernel
theorem d_Model_remove_1 : decode b_Model_remove 1 = .ok (.iconst 0, 1) := by decide +kernel
theorem d_Model_remove_2 : decode b_Model_remove 2 = .ok (.putfield 33, 3) := by decide +kernel
theorem d_Model_remove_5 : decode b_Model_remove 5 = .ok (.aload_n 0, 1) := by decide +kernel
theorem d_Model_remove_6 : decode b_Model_remove 6 = .ok (.iload_n 1, 1) := by decide +kernel
theorem d_Model_remove_7 : decode b_Model_remove 7 = .ok (.invokevirtual 57, 3) := by decide +kernel
theorem d_Model_remove_10 : decode b_Model_remove 10 = .ok (.ifCond .ne 6, 3) := by decide +kernel
theorem d_Model_remove_13 : decode b_Model_remove 13 = .ok (.bipush 14, 2) := by decide +kernel
theorem d_Model_remove_15 : decode b_Model_remove 15 = .ok (.ireturn, 1) := by decide +kernel
theorem d_Model_remove_16 : decode b_Model_remove 16 = .ok (.aload_n 0, 1) := by decide +kernel
theorem d_Model_remove_17 : decode b_Model_remove 17 = .ok (.getfield 23, 3) := by decide +kernel
theorem d_Model_remove_20 : decode b_Model_remove 20 = .ok (.iload_n 1, 1) := by decide +kernel
theorem d_Model_remove_21 : decode b_Model_remove 21 = .ok (.baload, 1) := by decide +kernel
theorem d_Model_remove_22 : decode b_Model_remove 22 = .ok (.ifCond .eq 6, 3) := by decide +kernel
theorem d_Model_remove_25 : decode b_Model_remove 25 = .ok (.bipush 15, 2) := by decide +kernel
theorem d_Model_remove_27 : decode b_Model_remove 27 = .ok (.ireturn, 1) := by decide +kernel
theorem d_Model_remove_28 : decode b_Model_remove 28 = .ok (.aload_n 0, 1) := by decide +kernel
theorem d_Model_remove_29 : decode b_Model_remove 29 = .ok (.getfield 20, 3) := by decide +kernel
theorem d_Model_remove_32 : decode b_Model_remove 32 = .ok (.iload_n 1, 1) := by decide +kernel
theorem d_Model_remove_33 : decode b_Model_remove 33 = .ok (.iconst 0, 1) := by decide +kernel
theorem d_Model_remove_34 : decode b_Model_remove 34 = .ok (.iastore, 1) := by decide +kernel
theorem d_Model_remove_35 : decode b_Model_remove 35 = .ok (.iconst 0, 1) := by decide +kernel
theorem d_Model_remove_36 : decode b_Model_remove 36 = .ok (.ireturn, 1) := by decide +kernel
theorem d_Model_enable_0 : decode b_Model_enable 0 = .ok (.aload_n 0, 1) := by decide +kernel
theorem d_Model_enable_1 : decode b_Model_enable 1 = .ok (.iconst 0, 1) := by decide +kernel
theorem d_Model_enable_2 : decode b_Model_enable 2 = .ok (.putfield 33, 3) := by decide +kernel
theorem d_Model_enable_5 : decode b_Model_enable 5 = .ok (.aload_n 0, 1) := by decide +kernel
theorem d_Model_enable_6 : decode b_Model_enable 6 = .ok (.iload_n 1, 1) := by decide +kernel
theorem d_Model_enable_7 : decode b_Model_enable 7 = .ok (.invokevirtual 57, 3) := by decide +kernel
theorem d_Model_enable_10 : decode b_Model_enable 10 = .ok (.ifCond .ne 6, 3) := by decide +kernel
theorem d_Model_enable_13 : decode b_Model_enable 13 = .ok (.bipush 14, 2) := by decide +kernel
theorem d_Model_enable_15 : decode b_Model_enable 15 = .ok (.ireturn, 1) := by decide +kernel
theorem d_Model_enable_16 : decode b_Model_enable 16 = .ok (.aload_n 0, 1) := by decide +kernel
theorem d_Model_enable_17 : decode b_Model_enable 17 = .ok (.getfield 23, 3) := by decide +kernel
theorem d_Model_enable_20 : decode b_Model_enable 20 = .ok (.iload_n 1, 1) := by decide +kernel
theorem d_Model_enable_21 : decode b_Model_enable 21 = .ok (.iload_n 2, 1) := by decide +kernel
theorem d_Model_enable_22 : decode b_Model_enable 22 = .ok (.bastore, 1) := by decide +kernel
theorem d_Model_enable_23 : decode b_Model_enable 23 = .ok (.iconst 0, 1) := by decide +kernel
theorem d_Model_enable_24 : decode b_Model_enable 24 = .ok (.ireturn, 1) := by decide +kernel
theorem d_Model_due_0 : decode b_Model_due 0 = .ok (.aload_n 0, 1) := by decide +kernel
theorem d_Model_due_1 : decode b_Model_due 1 = .ok (.iconst 0, 1) := by decide +kernel
theorem d_Model_due_2 : decode b_Model_due 2 = .ok (.putfield 33, 3) := by decide +kernel
theorem d_Model_due_5 : decode b_Model_due 5 = .ok (.iconst (-1), 1) := by decide +kernel
theorem d_Model_due_6 : decode b_Model_due 6 = .ok (.istore_n 3, 1) := by decide +kernel
theorem d_Model_due_7 : decode b_Model_due 7 = .ok (.sipush 255, 3) := by decide +kernel
theorem d_Model_due_10 : decode b_Model_due 10 = .ok (.istore 4, 2) := by decide +kernel
theorem d_Model_due_12 : decode b_Model_due 12 = .ok (.iload 4, 2) := by decide +kernel
theorem d_Model_due_14 : decode b_Model_due 14 = .ok (.ifCond .lt 54, 3) := by decide +kernel
theorem d_Model_due_17 : decode b_Model_due 17 = .ok (.iload 4, 2) := by decide +kernel
theorem d_Model_due_19 : decode b_Model_due 19 = .ok (.iload_n 2, 1) := by decide +kernel
theorem d_Model_due_20 : decode b_Model_due 20 = .ok (.if_icmp .lt 48, 3) := by decide +kernel
theorem d_Model_due_23 : decode b_Model_due 23 = .ok (.aload_n 0, 1) := by decide +kernel
theorem d_Model_due_24 : decode b_Model_due 24 = .ok (.getfield 20, 3) := by decide +kernel
theorem d_Model_due_27 : decode b_Model_due 27 = .ok (.iload 4, 2) := by decide +kernel
theorem d_Model_due_29 : decode b_Model_due 29 = .ok (.iaload, 1) := by decide +kernel
theorem d_Model_due_30 : decode b_Model_due 30 = .ok (.ifCond .le 30, 3) := by decide +kernel
theorem d_Model_due_33 : decode b_Model_due 33 = .ok (.aload_n 0, 1) := by decide +kernel
theorem d_Model_due_34 : decode b_Model_due 34 = .ok (.getfield 23, 3) := by decide +kernel
theorem d_Model_due_37 : decode b_Model_due 37 = .ok (.iload 4, 2) := by decide +kernel
theorem d_Model_due_39 : decode b_Model_due 39 = .ok (.baload, 1) := by decide +kernel
theorem d_Model_due_40 : decode b_Model_due 40 = .ok (.ifCond .eq 20, 3) := by decide +kernel
theorem d_Model_due_43 : decode b_Model_due 43 = .ok (.iload_n 1, 1) := by decide +kernel
theorem d_Model_due_44 : decode b_Model_due 44 = .ok (.aload_n 0, 1) := by decide +kernel
theorem d_Model_due_45 : decode b_Model_due 45 = .ok (.getfield 20, 3) := by decide +kernel
theorem d_Model_due_48 : decode b_Model_due 48 = .ok (.iload 4, 2) := by decide +kernel
theorem d_Model_due_50 : decode b_Model_due 50 = .ok (.iaload, 1) := by decide +kernel
theorem d_Model_due_51 : decode b_Model_due 51 = .ok (.irem, 1) := by decide +kernel
theorem d_Model_due_52 : decode b_Model_due 52 = .ok (.ifCond .ne 8, 3) := by decide +kernel
theorem d_Model_due_55 : decode b_Model_due 55 = .ok (.iload 4, 2) := by decide +kernel
theorem d_Model_due_57 : decode b_Model_due 57 = .ok (.goto 4, 3) := by decide +kernel
theorem d_Model_due_60 : decode b_Model_due 60 = .ok (.iload_n 3, 1) := by decide +kernel
theorem d_Model_due_61 : decode b_Model_due 61 = .ok (.istore_n 3, 1) := by decide +kernel
theorem d_Model_due_62 : decode b_Model_due 62 = .ok (.iinc 4 (-1), 3) := by decide +kernel
theorem d_Model_due_65 : decode b_Model_due 65 = .ok (.goto (-53), 3) := by decide +kernel
theorem d_Model_due_68 : decode b_Model_due 68 = .ok (.iload_n 3, 1) := by decide +kernel
theorem d_Model_due_69 : decode b_Model_due 69 = .ok (.ireturn, 1) := by decide +kernel
theorem d_Model_parameter_0 : decode b_Model_parameter 0 = .ok (.aload_n 0, 1) := by decide +kernel
theorem d_Model_parameter_1 : decode b_Model_parameter 1 = .ok (.iconst 0, 1) := by decide +kernel
theorem d_Model_parameter_2 : decode b_Model_parameter 2 = .ok (.putfield 33, 3) := by decide +kernel
theorem d_Model_parameter_5 : decode b_Model_parameter 5 = .ok (.aload_n 0, 1) := by decide +kernel
theorem d_Model_parameter_6 : decode b_Model_parameter 6 = .ok (.iload_n 1, 1) := by decide +kernel
theorem d_Model_parameter_7 : decode b_Model_parameter 7 = .ok (.invokevirtual 57, 3) := by decide +kernel
theorem d_Model_parameter_10 : decode b_Model_parameter 10 = .ok (.ifCond .eq 18, 3) := by decide +kernel
theorem d_Model_parameter_13 : decode b_Model_parameter 13 = .ok (.iload_n 2, 1) := by decide +kernel
theorem d_Model_parameter_14 : decode b_Model_parameter 14 = .ok (.iconst (-1), 1) := by decide +kernel
theorem d_Model_parameter_15 : decode b_Model_parameter 15 = .ok (.if_icmp .lt 13, 3) := by decide +kernel
theorem d_Model_parameter_18 : decode b_Model_parameter 18 = .ok (.iload_n 2, 1) := by decide +kernel
theorem d_Model_parameter_19 : decode b_Model_parameter 19 = .ok (.aload_n 0, 1) := by decide +kernel
theorem d_Model_parameter_20 : decode b_Model_parameter 20 = .ok (.getfield 27, 3) := by decide +kernel
theorem d_Model_parameter_23 : decode b_Model_parameter 23 = .ok (.iload_n 1, 1) := by decide +kernel
theorem d_Model_parameter_24 : decode b_Model_parameter 24 = .ok (.iaload, 1) := by decide +kernel
theorem d_Model_parameter_25 : decode b_Model_parameter 25 = .ok (.if_icmp .lt 5, 3) := by decide +kernel
theorem d_Model_parameter_28 : decode b_Model_parameter 28 = .ok (.iconst (-1), 1) := by decide +kernel
theorem d_Model_parameter_29 : decode b_Model_parameter 29 = .ok (.ireturn, 1) := by decide +kernel
theorem d_Model_parameter_30 : decode b_Model_parameter 30 = .ok (.iload_n 2, 1) := by decide +kernel
theorem d_Model_parameter_31 : decode b_Model_parameter 31 = .ok (.ifCond .ge 12, 3) := by decide +kernel
theorem d_Model_parameter_34 : decode b_Model_parameter 34 = .ok (.aload_n 0, 1) := by decide +kernel
theorem d_Model_parameter_35 : decode b_Model_parameter 35 = .ok (.getfield 27, 3) := by decide +kernel
theorem d_Model_parameter_38 : decode b_Model_parameter 38 = .ok (.iload_n 1, 1) := by decide +kernel
theorem d_Model_parameter_39 : decode b_Model_parameter 39 = .ok (.iaload, 1) := by decide +kernel
theorem d_Model_parameter_40 : decode b_Model_parameter 40 = .ok (.goto 14, 3) := by decide +kernel
theorem d_Model_parameter_43 : decode b_Model_parameter 43 = .ok (.aload_n 0, 1) := by decide +kernel
theorem d_Model_parameter_44 : decode b_Model_parameter 44 = .ok (.getfield 30, 3) := by decide +kernel
theorem d_Model_parameter_47 : decode b_Model_parameter 47 = .ok (.bipush 8, 2) := by decide +kernel
theorem d_Model_parameter_49 : decode b_Model_parameter 49 = .ok (.iload_n 1, 1) := by decide +kernel
theorem d_Model_parameter_50 : decode b_Model_parameter 50 = .ok (.imul, 1) := by decide +kernel
theorem d_Model_parameter_51 : decode b_Model_parameter 51 = .ok (.iload_n 2, 1) := by decide +kernel
theorem d_Model_parameter_52 : decode b_Model_parameter 52 = .ok (.iadd, 1) := by decide +kernel
theorem d_Model_parameter_53 : decode b_Model_parameter 53 = .ok (.iaload, 1) := by decide +kernel
theorem d_Model_parameter_54 : decode b_Model_parameter 54 = .ok (.ireturn, 1) := by decide +kernel
theorem d_Model_value_0 : decode b_Model_value 0 = .ok (.aload_n 0, 1) := by decide +kernel
theorem d_Model_value_1 : decode b_Model_value 1 = .ok (.iconst 0, 1) := by decide +kernel
theorem d_Model_value_2 : decode b_Model_value 2 = .ok (.putfield 33, 3) := by decide +kernel
theorem d_Model_value_5 : decode b_Model_value 5 = .ok (.iload_n 1, 1) := by decide +kernel
theorem d_Model_value_6 : decode b_Model_value 6 = .ok (.ifCond .lt 16, 3) := by decide +kernel
theorem d_Model_value_9 : decode b_Model_value 9 = .ok (.iload_n 1, 1) := by decide +kernel
theorem d_Model_value_10 : decode b_Model_value 10 = .ok (.bipush 8, 2) := by decide +kernel
theorem d_Model_value_12 : decode b_Model_value 12 = .ok (.if_icmp .ge 10, 3) := by decide +kernel
theorem d_Model_value_15 : decode b_Model_value 15 = .ok (.aload_n 0, 1) := by decide +kernel
theorem d_Model_value_16 : decode b_Model_value 16 = .ok (.getfield 13, 3) := by decide +kernel
theorem d_Model_value_19 : decode b_Model_value 19 = .ok (.iload_n 1, 1) := by decide +kernel
theorem d_Model_value_20 : decode b_Model_value 20 = .ok (.iaload, 1) := by decide +kernel
theorem d_Model_value_21 : decode b_Model_value 21 = .ok (.ireturn, 1) := by decide +kernel
theorem d_Model_value_22 : decode b_Model_value 22 = .ok (.iload_n 1, 1) := by decide +kernel
theorem d_Model_value_23 : decode b_Model_value 23 = .ok (.bipush 8, 2) := by decide +kernel
theorem d_Model_value_25 : decode b_Model_value 25 = .ok (.if_icmp .ne 10, 3) := by decide +kernel
theorem d_Model_value_28 : decode b_Model_value 28 = .ok (.aload_n 0, 1) := by decide +kernel
theorem d_Model_value_29 : decode b_Model_value 29 = .ok (.getfield 7, 3) := by decide +kernel
theorem d_Model_value_32 : decode b_Model_value 32 = .ok (.goto 54, 3) := by decide +kernel
theorem d_Model_value_35 : decode b_Model_value 35 = .ok (.iload_n 1, 1) := by decide +kernel
theorem d_Model_value_36 : decode b_Model_value 36 = .ok (.bipush 9, 2) := by decide +kernel
theorem d_Model_value_38 : decode b_Model_value 38 = .ok (.if_icmp .ne 21, 3) := by decide +kernel
theorem d_Model_value_41 : decode b_Model_value 41 = .ok (.aload_n 0, 1) := by decide +kernel
theorem d_Model_value_42 : decode b_Model_value 42 = .ok (.getfield 43, 3) := by decide +kernel
theorem d_Model_value_45 : decode b_Model_value 45 = .ok (.ifCond .eq 10, 3) := by decide +kernel
theorem d_Model_value_48 : decode b_Model_value 48 = .ok (.aload_n 0, 1) := by decide +kernel
theorem d_Model_value_49 : decode b_Model_value 49 = .ok (.getfield 47, 3) := by decide +kernel
theorem d_Model_value_52 : decode b_Model_value 52 = .ok (.goto 34, 3) := by decide +kernel
theorem d_Model_value_55 : decode b_Model_value 55 = .ok (.iconst (-1), 1) := by decide +kernel
theorem d_Model_value_56 : decode b_Model_value 56 = .ok (.goto 30, 3) := by decide +kernel
theorem d_Model_value_59 : decode b_Model_value 59 = .ok (.iload_n 1, 1) := by decide +kernel
theorem d_Model_value_60 : decode b_Model_value 60 = .ok (.bipush 10, 2) := by decide +kernel
theorem d_Model_value_62 : decode b_Model_value 62 = .ok (.if_icmp .ne 10, 3) := by decide +kernel
theorem d_Model_value_65 : decode b_Model_value 65 = .ok (.aload_n 0, 1) := by decide +kernel
theorem d_Model_value_66 : decode b_Model_value 66 = .ok (.getfield 36, 3) := by decide +kernel
theorem d_Model_value_69 : decode b_Model_value 69 = .ok (.goto 17, 3) := by decide +kernel
theorem d_Model_value_72 : decode b_Model_value 72 = .ok (.iload_n 1, 1) := by decide +kernel
theorem d_Model_value_73 : decode b_Model_value 73 = .ok (.bipush 11, 2) := by decide +kernel
theorem d_Model_value_75 : decode b_Model_value 75 = .ok (.if_icmp .ne 10, 3) := by decide +kernel
theorem d_Model_value_78 : decode b_Model_value 78 = .ok (.aload_n 0, 1) := by decide +kernel
theorem d_Model_value_79 : decode b_Model_value 79 = .ok (.invokevirtual 53, 3) := by decide +kernel
theorem d_Model_value_82 : decode b_Model_value 82 = .ok (.goto 4, 3) := by decide +kernel
theorem d_Model_value_85 : decode b_Model_value 85 = .ok (.iconst 0, 1) := by decide +kernel
theorem d_Model_value_86 : decode b_Model_value 86 = .ok (.ireturn, 1) := by decide +kernel
theorem d_Model_about_0 : decode b_Model_about 0 = .ok (.aload_n 0, 1) := by decide +kernel
theorem d_Model_about_1 : decode b_Model_about 1 = .ok (.iconst 0, 1) := by decide +kernel
theorem d_Model_about_2 : decode b_Model_about 2 = .ok (.putfield 33, 3) := by decide +kernel
theorem d_Model_about_5 : decode b_Model_about 5 = .ok (.aload_n 0, 1) := by decide +kernel
theorem d_Model_about_6 : decode b_Model_about 6 = .ok (.iload_n 1, 1) := by decide +kernel
theorem d_Model_about_7 : decode b_Model_about 7 = .ok (.invokevirtual 57, 3) := by decide +kernel
theorem d_Model_about_10 : decode b_Model_about 10 = .ok (.ifCond .ne 7, 3) := by decide +kernel
theorem d_Model_about_13 : decode b_Model_about 13 = .ok (.iconst (-1), 1) := by decide +kernel
theorem d_Model_about_14 : decode b_Model_about 14 = .ok (.goto 39, 3) := by decide +kernel
theorem d_Model_about_17 : decode b_Model_about 17 = .ok (.iload_n 2, 1) := by decide +kernel
theorem d_Model_about_18 : decode b_Model_about 18 = .ok (.ifCond .ne 12, 3) := by decide +kernel
theorem d_Model_about_21 : decode b_Model_about 21 = .ok (.aload_n 0, 1) := by decide +kernel
theorem d_Model_about_22 : decode b_Model_about 22 = .ok (.getfield 20, 3) := by decide +kernel
theorem d_Model_about_25 : decode b_Model_about 25 = .ok (.iload_n 1, 1) := by decide +kernel
theorem d_Model_about_26 : decode b_Model_about 26 = .ok (.iaload, 1) := by decide +kernel
theorem d_Model_about_27 : decode b_Model_about 27 = .ok (.goto 26, 3) := by decide +kernel
theorem d_Model_about_30 : decode b_Model_about 30 = .ok (.iload_n 2, 1) := by decide +kernel
theorem d_Model_about_31 : decode b_Model_about 31 = .ok (.iconst 1, 1) := by decide +kernel
theorem d_Model_about_32 : decode b_Model_about 32 = .ok (.if_icmp .ne 20, 3) := by decide +kernel
theorem d_Model_about_35 : decode b_Model_about 35 = .ok (.aload_n 0, 1) := by decide +kernel
theorem d_Model_about_36 : decode b_Model_about 36 = .ok (.getfield 23, 3) := by decide +kernel
theorem d_Model_about_39 : decode b_Model_about 39 = .ok (.iload_n 1, 1) := by decide +kernel
theorem d_Model_about_40 : decode b_Model_about 40 = .ok (.baload, 1) := by decide +kernel
theorem d_Model_about_41 : decode b_Model_about 41 = .ok (.ifCond .eq 7, 3) := by decide +kernel
theorem d_Model_about_44 : decode b_Model_about 44 = .ok (.iconst 1, 1) := by decide +kernel
theorem d_Model_about_45 : decode b_Model_about 45 = .ok (.goto 8, 3) := by decide +kernel
theorem d_Model_about_48 : decode b_Model_about 48 = .ok (.iconst 0, 1) := by decide +kernel
theorem d_Model_about_49 : decode b_Model_about 49 = .ok (.goto 4, 3) := by decide +kernel
theorem d_Model_about_52 : decode b_Model_about 52 = .ok (.iconst (-1), 1) := by decide +kernel
theorem d_Model_about_53 : decode b_Model_about 53 = .ok (.ireturn, 1) := by decide +kernel
