theorem d_ModeKeeper_init_0 : decode b_ModeKeeper_init 0 = .ok (.aload_n 0, 1) := by decide +kernel
theorem d_ModeKeeper_init_1 : decode b_ModeKeeper_init 1 = .ok (.invokespecial 1, 3) := by decide +kernel
theorem d_ModeKeeper_init_4 : decode b_ModeKeeper_init 4 = .ok (.aload_n 0, 1) := by decide +kernel
theorem d_ModeKeeper_init_5 : decode b_ModeKeeper_init 5 = .ok (.bipush 8, 2) := by decide +kernel
theorem d_ModeKeeper_init_7 : decode b_ModeKeeper_init 7 = .ok (.newarray .int, 2) := by decide +kernel
theorem d_ModeKeeper_init_9 : decode b_ModeKeeper_init 9 = .ok (.putfield 9, 3) := by decide +kernel
theorem d_ModeKeeper_init_12 : decode b_ModeKeeper_init 12 = .ok (.aload_n 0, 1) := by decide +kernel
theorem d_ModeKeeper_init_13 : decode b_ModeKeeper_init 13 = .ok (.iconst 1, 1) := by decide +kernel
theorem d_ModeKeeper_init_14 : decode b_ModeKeeper_init 14 = .ok (.putfield 13, 3) := by decide +kernel
theorem d_ModeKeeper_init_17 : decode b_ModeKeeper_init 17 = .ok (.aload_n 0, 1) := by decide +kernel
theorem d_ModeKeeper_init_18 : decode b_ModeKeeper_init 18 = .ok (.iconst 0, 1) := by decide +kernel
theorem d_ModeKeeper_init_19 : decode b_ModeKeeper_init 19 = .ok (.putfield 17, 3) := by decide +kernel
theorem d_ModeKeeper_init_22 : decode b_ModeKeeper_init 22 = .ok (.aload_n 0, 1) := by decide +kernel
theorem d_ModeKeeper_init_23 : decode b_ModeKeeper_init 23 = .ok (.iconst 0, 1) := by decide +kernel
theorem d_ModeKeeper_init_24 : decode b_ModeKeeper_init 24 = .ok (.putfield 20, 3) := by decide +kernel
theorem d_ModeKeeper_init_27 : decode b_ModeKeeper_init 27 = .ok (.aload_n 0, 1) := by decide +kernel
theorem d_ModeKeeper_init_28 : decode b_ModeKeeper_init 28 = .ok (.iconst 0, 1) := by decide +kernel
theorem d_ModeKeeper_init_29 : decode b_ModeKeeper_init 29 = .ok (.putfield 24, 3) := by decide +kernel
theorem d_ModeKeeper_init_32 : decode b_ModeKeeper_init 32 = .ok (.aload_n 0, 1) := by decide +kernel
theorem d_ModeKeeper_init_33 : decode b_ModeKeeper_init 33 = .ok (.bipush 8, 2) := by decide +kernel
theorem d_ModeKeeper_init_35 : decode b_ModeKeeper_init 35 = .ok (.newarray .int, 2) := by decide +kernel
theorem d_ModeKeeper_init_37 : decode b_ModeKeeper_init 37 = .ok (.putfield 27, 3) := by decide +kernel
theorem d_ModeKeeper_init_40 : decode b_ModeKeeper_init 40 = .ok (.aload_n 0, 1) := by decide +kernel
theorem d_ModeKeeper_init_41 : decode b_ModeKeeper_init 41 = .ok (.iconst 0, 1) := by decide +kernel
theorem d_ModeKeeper_init_42 : decode b_ModeKeeper_init 42 = .ok (.putfield 30, 3) := by decide +kernel
theorem d_ModeKeeper_init_45 : decode b_ModeKeeper_init 45 = .ok (.aload_n 0, 1) := by decide +kernel
theorem d_ModeKeeper_init_46 : decode b_ModeKeeper_init 46 = .ok (.bipush 8, 2) := by decide +kernel
theorem d_ModeKeeper_init_48 : decode b_ModeKeeper_init 48 = .ok (.anewarray 33, 3) := by decide +kernel
theorem d_ModeKeeper_init_51 : decode b_ModeKeeper_init 51 = .ok (.putfield 35, 3) := by decide +kernel
theorem d_ModeKeeper_init_54 : decode b_ModeKeeper_init 54 = .ok (.aload_n 0, 1) := by decide +kernel
theorem d_ModeKeeper_init_55 : decode b_ModeKeeper_init 55 = .ok (.iconst 0, 1) := by decide +kernel
theorem d_ModeKeeper_init_56 : decode b_ModeKeeper_init 56 = .ok (.putfield 39, 3) := by decide +kernel
theorem d_ModeKeeper_init_59 : decode b_ModeKeeper_init 59 = .ok (.iconst 0, 1) := by decide +kernel
theorem d_ModeKeeper_init_60 : decode b_ModeKeeper_init 60 = .ok (.istore_n 1, 1) := by decide +kernel
theorem d_ModeKeeper_init_61 : decode b_ModeKeeper_init 61 = .ok (.iload_n 1, 1) := by decide +kernel
theorem d_ModeKeeper_init_62 : decode b_ModeKeeper_init 62 = .ok (.bipush 8, 2) := by decide +kernel
theorem d_ModeKeeper_init_64 : decode b_ModeKeeper_init 64 = .ok (.if_icmp .ge 22, 3) := by decide +kernel
theorem d_ModeKeeper_init_67 : decode b_ModeKeeper_init 67 = .ok (.aload_n 0, 1) := by decide +kernel
theorem d_ModeKeeper_init_68 : decode b_ModeKeeper_init 68 = .ok (.getfield 35, 3) := by decide +kernel
theorem d_ModeKeeper_init_71 : decode b_ModeKeeper_init 71 = .ok (.iload_n 1, 1) := by decide +kernel
theorem d_ModeKeeper_init_72 : decode b_ModeKeeper_init 72 = .ok (.new 33, 3) := by decide +kernel
theorem d_ModeKeeper_init_75 : decode b_ModeKeeper_init 75 = .ok (.dup, 1) := by decide +kernel
theorem d_ModeKeeper_init_76 : decode b_ModeKeeper_init 76 = .ok (.invokespecial 42, 3) := by decide +kernel
theorem d_ModeKeeper_init_79 : decode b_ModeKeeper_init 79 = .ok (.aastore, 1) := by decide +kernel
theorem d_ModeKeeper_init_80 : decode b_ModeKeeper_init 80 = .ok (.iinc 1 1, 3) := by decide +kernel
theorem d_ModeKeeper_init_83 : decode b_ModeKeeper_init 83 = .ok (.goto (-22), 3) := by decide +kernel
theorem d_ModeKeeper_init_86 : decode b_ModeKeeper_init 86 = .ok (.return_, 1) := by decide +kernel
theorem d_ModeKeeper_move_0 : decode b_ModeKeeper_move 0 = .ok (.iload_n 1, 1) := by decide +kernel
theorem d_ModeKeeper_move_1 : decode b_ModeKeeper_move 1 = .ok (.invokestatic 43, 3) := by decide +kernel
theorem d_ModeKeeper_move_4 : decode b_ModeKeeper_move 4 = .ok (.ifCond .ne 6, 3) := by decide +kernel
theorem d_ModeKeeper_move_7 : decode b_ModeKeeper_move 7 = .ok (.bipush 18, 2) := by decide +kernel
theorem d_ModeKeeper_move_9 : decode b_ModeKeeper_move 9 = .ok (.ireturn, 1) := by decide +kernel
theorem d_ModeKeeper_move_10 : decode b_ModeKeeper_move 10 = .ok (.aload_n 0, 1) := by decide +kernel
theorem d_ModeKeeper_move_11 : decode b_ModeKeeper_move 11 = .ok (.getfield 13, 3) := by decide +kernel
theorem d_ModeKeeper_move_14 : decode b_ModeKeeper_move 14 = .ok (.ifCond .ne 6, 3) := by decide +kernel
theorem d_ModeKeeper_move_17 : decode b_ModeKeeper_move 17 = .ok (.bipush 19, 2) := by decide +kernel
theorem d_ModeKeeper_move_19 : decode b_ModeKeeper_move 19 = .ok (.ireturn, 1) := by decide +kernel
theorem d_ModeKeeper_move_20 : decode b_ModeKeeper_move 20 = .ok (.aload_n 0, 1) := by decide +kernel
theorem d_ModeKeeper_move_21 : decode b_ModeKeeper_move 21 = .ok (.getfield 9, 3) := by decide +kernel
theorem d_ModeKeeper_move_24 : decode b_ModeKeeper_move 24 = .ok (.iload_n 1, 1) := by decide +kernel
theorem d_ModeKeeper_move_25 : decode b_ModeKeeper_move 25 = .ok (.iload_n 2, 1) := by decide +kernel
theorem d_ModeKeeper_move_26 : decode b_ModeKeeper_move 26 = .ok (.iastore, 1) := by decide +kernel
theorem d_ModeKeeper_move_27 : decode b_ModeKeeper_move 27 = .ok (.iconst 0, 1) := by decide +kernel
theorem d_ModeKeeper_move_28 : decode b_ModeKeeper_move 28 = .ok (.ireturn, 1) := by decide +kernel
theorem d_ModeKeeper_enter_0 : decode b_ModeKeeper_enter 0 = .ok (.iload_n 1, 1) := by decide +kernel
theorem d_ModeKeeper_enter_1 : decode b_ModeKeeper_enter 1 = .ok (.ifCond .lt 8, 3) := by decide +kernel
theorem d_ModeKeeper_enter_4 : decode b_ModeKeeper_enter 4 = .ok (.iload_n 1, 1) := by decide +kernel
theorem d_ModeKeeper_enter_5 : decode b_ModeKeeper_enter 5 = .ok (.iconst 2, 1) := by decide +kernel
theorem d_ModeKeeper_enter_6 : decode b_ModeKeeper_enter 6 = .ok (.if_icmp .le 6, 3) := by decide +kernel
theorem d_ModeKeeper_enter_9 : decode b_ModeKeeper_enter 9 = .ok (.bipush 18, 2) := by decide +kernel
theorem d_ModeKeeper_enter_11 : decode b_ModeKeeper_enter 11 = .ok (.ireturn, 1) := by decide +kernel
theorem d_ModeKeeper_enter_12 : decode b_ModeKeeper_enter 12 = .ok (.aload_n 0, 1) := by decide +kernel
theorem d_ModeKeeper_enter_13 : decode b_ModeKeeper_enter 13 = .ok (.getfield 13, 3) := by decide +kernel
theorem d_ModeKeeper_enter_16 : decode b_ModeKeeper_enter 16 = .ok (.ifCond .ne 11, 3) := by decide +kernel
theorem d_ModeKeeper_enter_19 : decode b_ModeKeeper_enter 19 = .ok (.iload_n 1, 1) := by decide +kernel
theorem d_ModeKeeper_enter_20 : decode b_ModeKeeper_enter 20 = .ok (.iconst 2, 1) := by decide +kernel
theorem d_ModeKeeper_enter_21 : decode b_ModeKeeper_enter 21 = .ok (.if_icmp .ne 6, 3) := by decide +kernel
theorem d_ModeKeeper_enter_24 : decode b_ModeKeeper_enter 24 = .ok (.bipush 19, 2) := by decide +kernel
theorem d_ModeKeeper_enter_26 : decode b_ModeKeeper_enter 26 = .ok (.ireturn, 1) := by decide +kernel
theorem d_ModeKeeper_enter_27 : decode b_ModeKeeper_enter 27 = .ok (.aload_n 0, 1) := by decide +kernel
theorem d_ModeKeeper_enter_28 : decode b_ModeKeeper_enter 28 = .ok (.iload_n 1, 1) := by decide +kernel
theorem d_ModeKeeper_enter_29 : decode b_ModeKeeper_enter 29 = .ok (.invokevirtual 47, 3) := by decide +kernel
theorem d_ModeKeeper_enter_32 : decode b_ModeKeeper_enter 32 = .ok (.pop, 1) := by decide +kernel
theorem d_ModeKeeper_enter_33 : decode b_ModeKeeper_enter 33 = .ok (.iconst 0, 1) := by decide +kernel
theorem d_ModeKeeper_enter_34 : decode b_ModeKeeper_enter 34 = .ok (.ireturn, 1) := by decide +kernel
theorem d_ModeKeeper_alarm_0 : decode b_ModeKeeper_alarm 0 = .ok (.aload_n 0, 1) := by decide +kernel
theorem d_ModeKeeper_alarm_1 : decode b_ModeKeeper_alarm 1 = .ok (.getfield 20, 3) := by decide +kernel
theorem d_ModeKeeper_alarm_4 : decode b_ModeKeeper_alarm 4 = .ok (.ifCond .eq 5, 3) := by decide +kernel
theorem d_ModeKeeper_alarm_7 : decode b_ModeKeeper_alarm 7 = .ok (.iconst 0, 1) := by decide +kernel
theorem d_ModeKeeper_alarm_8 : decode b_ModeKeeper_alarm 8 = .ok (.ireturn, 1) := by decide +kernel
theorem d_ModeKeeper_alarm_9 : decode b_ModeKeeper_alarm 9 = .ok (.aload_n 0, 1) := by decide +kernel
theorem d_ModeKeeper_alarm_10 : decode b_ModeKeeper_alarm 10 = .ok (.iconst 1, 1) := by decide +kernel
theorem d_ModeKeeper_alarm_11 : decode b_ModeKeeper_alarm 11 = .ok (.putfield 20, 3) := by decide +kernel
theorem d_ModeKeeper_alarm_14 : decode b_ModeKeeper_alarm 14 = .ok (.aload_n 0, 1) := by decide +kernel
theorem d_ModeKeeper_alarm_15 : decode b_ModeKeeper_alarm 15 = .ok (.iload_n 1, 1) := by decide +kernel
theorem d_ModeKeeper_alarm_16 : decode b_ModeKeeper_alarm 16 = .ok (.putfield 24, 3) := by decide +kernel
theorem d_ModeKeeper_alarm_19 : decode b_ModeKeeper_alarm 19 = .ok (.iconst 1, 1) := by decide +kernel
theorem d_ModeKeeper_alarm_20 : decode b_ModeKeeper_alarm 20 = .ok (.ireturn, 1) := by decide +kernel
theorem d_ModeKeeper_look_0 : decode b_ModeKeeper_look 0 = .ok (.aload_n 0, 1) := by decide +kernel
theorem d_ModeKeeper_look_1 : decode b_ModeKeeper_look 1 = .ok (.getfield 20, 3) := by decide +kernel
theorem d_ModeKeeper_look_4 : decode b_ModeKeeper_look 4 = .ok (.ifCond .eq 11, 3) := by decide +kernel
theorem d_ModeKeeper_look_7 : decode b_ModeKeeper_look 7 = .ok (.aload_n 0, 1) := by decide +kernel
theorem d_ModeKeeper_look_8 : decode b_ModeKeeper_look 8 = .ok (.getfield 24, 3) := by decide +kernel
theorem d_ModeKeeper_look_11 : decode b_ModeKeeper_look 11 = .ok (.iload_n 1, 1) := by decide +kernel
theorem d_ModeKeeper_look_12 : decode b_ModeKeeper_look 12 = .ok (.if_icmp .le 5, 3) := by decide +kernel
theorem d_ModeKeeper_look_15 : decode b_ModeKeeper_look 15 = .ok (.iconst 0, 1) := by decide +kernel
theorem d_ModeKeeper_look_16 : decode b_ModeKeeper_look 16 = .ok (.ireturn, 1) := by decide +kernel
theorem d_ModeKeeper_look_17 : decode b_ModeKeeper_look 17 = .ok (.aload_n 0, 1) := by decide +kernel
theorem d_ModeKeeper_look_18 : decode b_ModeKeeper_look 18 = .ok (.iconst 0, 1) := by decide +kernel
theorem d_ModeKeeper_look_19 : decode b_ModeKeeper_look 19 = .ok (.putfield 20, 3) := by decide +kernel
theorem d_ModeKeeper_look_22 : decode b_ModeKeeper_look 22 = .ok (.aload_n 0, 1) := by decide +kernel
theorem d_ModeKeeper_look_23 : decode b_ModeKeeper_look 23 = .ok (.iconst 0, 1) := by decide +kernel
theorem d_ModeKeeper_look_24 : decode b_ModeKeeper_look 24 = .ok (.invokevirtual 47, 3) := by decide +kernel
theorem d_ModeKeeper_look_27 : decode b_ModeKeeper_look 27 = .ok (.ireturn, 1) := by decide +kernel
theorem d_ModeKeeper_put_0 : decode b_ModeKeeper_put 0 = .ok (.iload_n 1, 1) := by decide +kernel
theorem d_ModeKeeper_put_1 : decode b_ModeKeeper_put 1 = .ok (.ifCond .lt 18, 3) := by decide +kernel
theorem d_ModeKeeper_put_4 : decode b_ModeKeeper_put 4 = .ok (.iload_n 1, 1) := by decide +kernel
theorem d_ModeKeeper_put_5 : decode b_ModeKeeper_put 5 = .ok (.bipush 31, 2) := by decide +kernel
theorem d_ModeKeeper_put_7 : decode b_ModeKeeper_put 7 = .ok (.if_icmp .gt 12, 3) := by decide +kernel
theorem d_ModeKeeper_put_10 : decode b_ModeKeeper_put 10 = .ok (.aload_n 0, 1) := by decide +kernel
theorem d_ModeKeeper_put_11 : decode b_ModeKeeper_put 11 = .ok (.getfield 30, 3) := by decide +kernel
theorem d_ModeKeeper_put_14 : decode b_ModeKeeper_put 14 = .ok (.bipush 8, 2) := by decide +kernel
theorem d_ModeKeeper_put_16 : decode b_ModeKeeper_put 16 = .ok (.if_icmp .lt 5, 3) := by decide +kernel
theorem d_ModeKeeper_put_19 : decode b_ModeKeeper_put 19 = .ok (.iconst (-1), 1) := by decide +kernel
theorem d_ModeKeeper_put_20 : decode b_ModeKeeper_put 20 = .ok (.ireturn, 1) := by decide +kernel
theorem d_ModeKeeper_put_21 : decode b_ModeKeeper_put 21 = .ok (.aload_n 0, 1) := by decide +kernel
theorem d_ModeKeeper_put_22 : decode b_ModeKeeper_put 22 = .ok (.getfield 27, 3) := by decide +kernel
theorem d_ModeKeeper_put_25 : decode b_ModeKeeper_put 25 = .ok (.aload_n 0, 1) := by decide +kernel
theorem d_ModeKeeper_put_26 : decode b_ModeKeeper_put 26 = .ok (.getfield 30, 3) := by decide +kernel
theorem d_ModeKeeper_put_29 : decode b_ModeKeeper_put 29 = .ok (.iload_n 1, 1) := by decide +kernel
theorem d_ModeKeeper_put_30 : decode b_ModeKeeper_put 30 = .ok (.iastore, 1) := by decide +kernel
theorem d_ModeKeeper_put_31 : decode b_ModeKeeper_put 31 = .ok (.aload_n 0, 1) := by decide +kernel
theorem d_ModeKeeper_put_32 : decode b_ModeKeeper_put 32 = .ok (.dup, 1) := by decide +kernel
theorem d_ModeKeeper_put_33 : decode b_ModeKeeper_put 33 = .ok (.getfield 30, 3) := by decide +kernel
theorem d_ModeKeeper_put_36 : decode b_ModeKeeper_put 36 = .ok (.iconst 1, 1) := by decide +kernel
theorem d_ModeKeeper_put_37 : decode b_ModeKeeper_put 37 = .ok (.iadd, 1) := by decide +kernel
theorem d_ModeKeeper_put_38 : decode b_ModeKeeper_put 38 = .ok (.putfield 30, 3) := by decide +kernel
theorem d_ModeKeeper_put_41 : decode b_ModeKeeper_put 41 = .ok (.aload_n 0, 1) := by decide +kernel
theorem d_ModeKeeper_put_42 : decode b_ModeKeeper_put 42 = .ok (.getfield 30, 3) := by decide +kernel
theorem d_ModeKeeper_put_45 : decode b_ModeKeeper_put 45 = .ok (.ireturn, 1) := by decide +kernel
theorem d_ModeKeeper_form_0 : decode b_ModeKeeper_form 0 = .ok (.aload_n 0, 1) := by decide +kernel
theorem d_ModeKeeper_form_1 : decode b_ModeKeeper_form 1 = .ok (.iload_n 1, 1) := by decide +kernel
theorem d_ModeKeeper_form_2 : decode b_ModeKeeper_form 2 = .ok (.iload_n 2, 1) := by decide +kernel
theorem d_ModeKeeper_form_3 : decode b_ModeKeeper_form 3 = .ok (.invokevirtual 50, 3) := by decide +kernel
theorem d_ModeKeeper_form_6 : decode b_ModeKeeper_form 6 = .ok (.istore_n 3, 1) := by decide +kernel
theorem d_ModeKeeper_form_7 : decode b_ModeKeeper_form 7 = .ok (.iload_n 3, 1) := by decide +kernel
theorem d_ModeKeeper_form_8 : decode b_ModeKeeper_form 8 = .ok (.ifCond .ne 9, 3) := by decide +kernel
theorem d_ModeKeeper_form_11 : decode b_ModeKeeper_form 11 = .ok (.aload_n 0, 1) := by decide +kernel
theorem d_ModeKeeper_form_12 : decode b_ModeKeeper_form 12 = .ok (.iload_n 1, 1) := by decide +kernel
theorem d_ModeKeeper_form_13 : decode b_ModeKeeper_form 13 = .ok (.iload_n 2, 1) := by decide +kernel
theorem d_ModeKeeper_form_14 : decode b_ModeKeeper_form 14 = .ok (.invokevirtual 54, 3) := by decide +kernel
theorem d_ModeKeeper_form_17 : decode b_ModeKeeper_form 17 = .ok (.aload_n 0, 1) := by decide +kernel
theorem d_ModeKeeper_form_18 : decode b_ModeKeeper_form 18 = .ok (.iconst 0, 1) := by decide +kernel
theorem d_ModeKeeper_form_19 : decode b_ModeKeeper_form 19 = .ok (.putfield 30, 3) := by decide +kernel
theorem d_ModeKeeper_form_22 : decode b_ModeKeeper_form 22 = .ok (.iload_n 3, 1) := by decide +kernel
theorem d_ModeKeeper_form_23 : decode b_ModeKeeper_form 23 = .ok (.ireturn, 1) := by decide +kernel
theorem d_ModeKeeper_remove_0 : decode b_ModeKeeper_remove 0 = .ok (.aload_n 0, 1) := by decide +kernel
theorem d_ModeKeeper_remove_1 : decode b_ModeKeeper_remove 1 = .ok (.iload_n 1, 1) := by decide +kernel
theorem d_ModeKeeper_remove_2 : decode b_ModeKeeper_remove 2 = .ok (.invokevirtual 58, 3) := by decide +kernel
theorem d_ModeKeeper_remove_5 : decode b_ModeKeeper_remove 5 = .ok (.astore_n 2, 1) := by decide +kernel
theorem d_ModeKeeper_remove_6 : decode b_ModeKeeper_remove 6 = .ok (.aload_n 2, 1) := by decide +kernel
theorem d_ModeKeeper_remove_7 : decode b_ModeKeeper_remove 7 = .ok (.ifnonnull 6, 3) := by decide +kernel
theorem d_ModeKeeper_remove_10 : decode b_ModeKeeper_remove 10 = .ok (.bipush 14, 2) := by decide +kernel
theorem d_ModeKeeper_remove_12 : decode b_ModeKeeper_remove 12 = .ok (.ireturn, 1) := by decide +kernel
theorem d_ModeKeeper_remove_13 : decode b_ModeKeeper_remove 13 = .ok (.aload_n 2, 1) := by decide +kernel
theorem d_ModeKeeper_remove_14 : decode b_ModeKeeper_remove 14 = .ok (.getfield 62, 3) := by decide +kernel
theorem d_ModeKeeper_remove_17 : decode b_ModeKeeper_remove 17 = .ok (.ifCond .eq 6, 3) := by decide +kernel
theorem d_ModeKeeper_remove_20 : decode b_ModeKeeper_remove 20 = .ok (.bipush 15, 2) := by decide +kernel
theorem d_ModeKeeper_remove_22 : decode b_ModeKeeper_remove 22 = .ok (.ireturn, 1) := by decide +kernel
theorem d_ModeKeeper_remove_23 : decode b_ModeKeeper_remove 23 = .ok (.aload_n 2, 1) := by decide +kernel
theorem d_ModeKeeper_remove_24 : decode b_ModeKeeper_remove 24 = .ok (.iconst 0, 1) := by decide +kernel
theorem d_ModeKeeper_remove_25 : decode b_ModeKeeper_remove 25 = .ok (.putfield 65, 3) := by decide +kernel
theorem d_ModeKeeper_remove_28 : decode b_ModeKeeper_remove 28 = .ok (.aload_n 0, 1) := by decide +kernel
theorem d_ModeKeeper_remove_29 : decode b_ModeKeeper_remove 29 = .ok (.dup, 1) := by decide +kernel
theorem d_ModeKeeper_remove_30 : decode b_ModeKeeper_remove 30 = .ok (.getfield 39, 3) := by decide +kernel
theorem d_ModeKeeper_remove_33 : decode b_ModeKeeper_remove 33 = .ok (.iconst 1, 1) := by decide +kernel
theorem d_ModeKeeper_remove_34 : decode b_ModeKeeper_remove 34 = .ok (.isub, 1) := by decide +kernel
theorem d_ModeKeeper_remove_35 : decode b_ModeKeeper_remove 35 = .ok (.putfield 39, 3) := by decide +kernel
theorem d_ModeKeeper_remove_38 : decode b_ModeKeeper_remove 38 = .ok (.iconst 0, 1) := by decide +kernel
theorem d_ModeKeeper_remove_39 : decode b_ModeKeeper_remove 39 = .ok (.ireturn, 1) := by decide +kernel
theorem d_ModeKeeper_enable_0 : decode b_ModeKeeper_enable 0 = .ok (.aload_n 0, 1) := by decide +kernel
theorem d_ModeKeeper_enable_1 : decode b_ModeKeeper_enable 1 = .ok (.iload_n 1, 1) := by decide +kernel
theorem d_ModeKeeper_enable_2 : decode b_ModeKeeper_enable 2 = .ok (.invokevirtual 58, 3) := by decide +kernel
theorem d_ModeKeeper_enable_5 : decode b_ModeKeeper_enable 5 = .ok (.astore_n 3, 1) := by decide +kernel
theorem d_ModeKeeper_enable_6 : decode b_ModeKeeper_enable 6 = .ok (.aload_n 3, 1) := by decide +kernel
theorem d_ModeKeeper_enable_7 : decode b_ModeKeeper_enable 7 = .ok (.ifnonnull 6, 3) := by decide +kernel
theorem d_ModeKeeper_enable_10 : decode b_ModeKeeper_enable 10 = .ok (.bipush 14, 2) := by decide +kernel
theorem d_ModeKeeper_enable_12 : decode b_ModeKeeper_enable 12 = .ok (.ireturn, 1) := by decide +kernel
theorem d_ModeKeeper_enable_13 : decode b_ModeKeeper_enable 13 = .ok (.aload_n 3, 1) := by decide +kernel
theorem d_ModeKeeper_enable_14 : decode b_ModeKeeper_enable 14 = .ok (.iload_n 2, 1) := by decide +kernel
theorem d_ModeKeeper_enable_15 : decode b_ModeKeeper_enable 15 = .ok (.putfield 62, 3) := by decide +kernel
theorem d_ModeKeeper_enable_18 : decode b_ModeKeeper_enable 18 = .ok (.iconst 0, 1) := by decide +kernel
theorem d_ModeKeeper_enable_19 : decode b_ModeKeeper_enable 19 = .ok (.ireturn, 1) := by decide +kernel
theorem d_ModeKeeper_due_0 : decode b_ModeKeeper_due 0 = .ok (.iconst (-1), 1) := by decide +kernel
theorem d_ModeKeeper_due_1 : decode b_ModeKeeper_due 1 = .ok (.istore_n 3, 1) := by decide +kernel
theorem d_ModeKeeper_due_2 : decode b_ModeKeeper_due 2 = .ok (.iconst 0, 1) := by decide +kernel
theorem d_ModeKeeper_due_3 : decode b_ModeKeeper_due 3 = .ok (.istore 4, 2) := by decide +kernel
theorem d_ModeKeeper_due_5 : decode b_ModeKeeper_due 5 = .ok (.iload 4, 2) := by decide +kernel
theorem d_ModeKeeper_due_7 : decode b_ModeKeeper_due 7 = .ok (.bipush 8, 2) := by decide +kernel
theorem d_ModeKeeper_due_9 : decode b_ModeKeeper_due 9 = .ok (.if_icmp .ge 75, 3) := by decide +kernel
theorem d_ModeKeeper_due_12 : decode b_ModeKeeper_due 12 = .ok (.aload_n 0, 1) := by decide +kernel
theorem d_ModeKeeper_due_13 : decode b_ModeKeeper_due 13 = .ok (.getfield 35, 3) := by decide +kernel
theorem d_ModeKeeper_due_16 : decode b_ModeKeeper_due 16 = .ok (.iload 4, 2) := by decide +kernel
theorem d_ModeKeeper_due_18 : decode b_ModeKeeper_due 18 = .ok (.aaload, 1) := by decide +kernel
theorem d_ModeKeeper_due_19 : decode b_ModeKeeper_due 19 = .ok (.astore 5, 2) := by decide +kernel
theorem d_ModeKeeper_due_21 : decode b_ModeKeeper_due 21 = .ok (.aload 5, 2) := by decide +kernel
theorem d_ModeKeeper_due_23 : decode b_ModeKeeper_due 23 = .ok (.getfield 65, 3) := by decide +kernel
theorem d_ModeKeeper_due_26 : decode b_ModeKeeper_due 26 = .ok (.ifCond .eq 52, 3) := by decide +kernel
theorem d_ModeKeeper_due_29 : decode b_ModeKeeper_due 29 = .ok (.aload 5, 2) := by decide +kernel
theorem d_ModeKeeper_due_31 : decode b_ModeKeeper_due 31 = .ok (.getfield 62, 3) := by decide +kernel
theorem d_ModeKeeper_due_34 : decode b_ModeKeeper_due 34 = .ok (.ifCond .eq 44, 3) := by decide +kernel
theorem d_ModeKeeper_due_37 : decode b_ModeKeeper_due 37 = .ok (.aload 5, 2) := by decide +kernel
theorem d_ModeKeeper_due_39 : decode b_ModeKeeper_due 39 = .ok (.getfield 68, 3) := by decide +kernel
theorem d_ModeKeeper_due_42 : decode b_ModeKeeper_due 42 = .ok (.iload_n 2, 1) := by decide +kernel
theorem d_ModeKeeper_due_43 : decode b_ModeKeeper_due 43 = .ok (.if_icmp .lt 35, 3) := by decide +kernel
theorem d_ModeKeeper_due_46 : decode b_ModeKeeper_due 46 = .ok (.aload 5, 2) := by decide +kernel
theorem d_ModeKeeper_due_48 : decode b_ModeKeeper_due 48 = .ok (.getfield 71, 3) := by decide +kernel
theorem d_ModeKeeper_due_51 : decode b_ModeKeeper_due 51 = .ok (.iload_n 1, 1) := by decide +kernel
theorem d_ModeKeeper_due_52 : decode b_ModeKeeper_due 52 = .ok (.invokestatic 74, 3) := by decide +kernel
theorem d_ModeKeeper_due_55 : decode b_ModeKeeper_due 55 = .ok (.ifCond .eq 23, 3) := by decide +kernel
theorem d_ModeKeeper_due_58 : decode b_ModeKeeper_due 58 = .ok (.iload_n 3, 1) := by decide +kernel
theorem d_ModeKeeper_due_59 : decode b_ModeKeeper_due 59 = .ok (.iconst (-1), 1) := by decide +kernel
theorem d_ModeKeeper_due_60 : decode b_ModeKeeper_due 60 = .ok (.if_icmp .eq 12, 3) := by decide +kernel
theorem d_ModeKeeper_due_63 : decode b_ModeKeeper_due 63 = .ok (.aload 5, 2) := by decide +kernel
theorem d_ModeKeeper_due_65 : decode b_ModeKeeper_due 65 = .ok (.getfield 68, 3) := by decide +kernel
theorem d_ModeKeeper_due_68 : decode b_ModeKeeper_due 68 = .ok (.iload_n 3, 1) := by decide +kernel
theorem d_ModeKeeper_due_69 : decode b_ModeKeeper_due 69 = .ok (.if_icmp .ge 9, 3) := by decide +kernel
theorem d_ModeKeeper_due_72 : decode b_ModeKeeper_due 72 = .ok (.aload 5, 2) := by decide +kernel
theorem d_ModeKeeper_due_74 : decode b_ModeKeeper_due 74 = .ok (.getfield 68, 3) := by decide +kernel
theorem d_ModeKeeper_due_77 : decode b_ModeKeeper_due 77 = .ok (.istore_n 3, 1) := by decide +kernel
theorem d_ModeKeeper_due_78 : decode b_ModeKeeper_due 78 = .ok (.iinc 4 1, 3) := by decide +kernel
theorem d_ModeKeeper_due_81 : decode b_ModeKeeper_due 81 = .ok (.goto (-76), 3) := by decide +kernel
theorem d_ModeKeeper_due_84 : decode b_ModeKeeper_due 84 = .ok (.iload_n 3, 1) := by decide +kernel
theorem d_ModeKeeper_due_85 : decode b_ModeKeeper_due 85 = .ok (.ireturn, 1) := by decide +kernel
theorem d_ModeKeeper_parameter_0 : decode b_ModeKeeper_parameter 0 = .ok (.aload_n 0, 1) := by decide +kernel
theorem d_ModeKeeper_parameter_1 : decode b_ModeKeeper_parameter 1 = .ok (.iload_n 1, 1) := by decide +kernel
theorem d_ModeKeeper_parameter_2 : decode b_ModeKeeper_parameter 2 = .ok (.invokevirtual 58, 3) := by decide +kernel
theorem d_ModeKeeper_parameter_5 : decode b_ModeKeeper_parameter 5 = .ok (.astore_n 3, 1) := by decide +kernel
theorem d_ModeKeeper_parameter_6 : decode b_ModeKeeper_parameter 6 = .ok (.aload_n 3, 1) := by decide +kernel
theorem d_ModeKeeper_parameter_7 : decode b_ModeKeeper_parameter 7 = .ok (.ifnonnull 5, 3) := by decide +kernel
theorem d_ModeKeeper_parameter_10 : decode b_ModeKeeper_parameter 10 = .ok (.iconst (-1), 1) := by decide +kernel
theorem d_ModeKeeper_parameter_11 : decode b_ModeKeeper_parameter 11 = .ok (.ireturn, 1) := by decide +kernel
theorem d_ModeKeeper_parameter_12 : decode b_ModeKeeper_parameter 12 = .ok (.iload_n 2, 1) := by decide +kernel
theorem d_ModeKeeper_parameter_13 : decode b_ModeKeeper_parameter 13 = .ok (.iconst (-1), 1) := by decide +kernel
theorem d_ModeKeeper_parameter_14 : decode b_ModeKeeper_parameter 14 = .ok (.if_icmp .ne 8, 3) := by decide +kernel
theorem d_ModeKeeper_parameter_17 : decode b_ModeKeeper_parameter 17 = .ok (.aload_n 3, 1) := by decide +kernel
theorem d_ModeKeeper_parameter_18 : decode b_ModeKeeper_parameter 18 = .ok (.getfield 78, 3) := by decide +kernel
theorem d_ModeKeeper_parameter_21 : decode b_ModeKeeper_parameter 21 = .ok (.ireturn, 1) := by decide +kernel
theorem d_ModeKeeper_parameter_22 : decode b_ModeKeeper_parameter 22 = .ok (.iload_n 2, 1) := by decide +kernel
theorem d_ModeKeeper_parameter_23 : decode b_ModeKeeper_parameter 23 = .ok (.ifCond .lt 11, 3) := by decide +kernel
theorem d_ModeKeeper_parameter_26 : decode b_ModeKeeper_parameter 26 = .ok (.iload_n 2, 1) := by decide +kernel
theorem d_ModeKeeper_parameter_27 : decode b_ModeKeeper_parameter 27 = .ok (.aload_n 3, 1) := by decide +kernel
theorem d_ModeKeeper_parameter_28 : decode b_ModeKeeper_parameter 28 = .ok (.getfield 78, 3) := by decide +kernel
theorem d_ModeKeeper_parameter_31 : decode b_ModeKeeper_parameter 31 = .ok (.if_icmp .lt 5, 3) := by decide +kernel
theorem d_ModeKeeper_parameter_34 : decode b_ModeKeeper_parameter 34 = .ok (.iconst (-1), 1) := by decide +kernel
theorem d_ModeKeeper_parameter_35 : decode b_ModeKeeper_parameter 35 = .ok (.ireturn, 1) := by decide +kernel
theorem d_ModeKeeper_parameter_36 : decode b_ModeKeeper_parameter 36 = .ok (.aload_n 3, 1) := by decide +kernel
theorem d_ModeKeeper_parameter_37 : decode b_ModeKeeper_parameter 37 = .ok (.getfield 81, 3) := by decide +kernel
theorem d_ModeKeeper_parameter_40 : decode b_ModeKeeper_parameter 40 = .ok (.iload_n 2, 1) := by decide +kernel
theorem d_ModeKeeper_parameter_41 : decode b_ModeKeeper_parameter 41 = .ok (.iaload, 1) := by decide +kernel
theorem d_ModeKeeper_parameter_42 : decode b_ModeKeeper_parameter 42 = .ok (.ireturn, 1) := by decide +kernel
theorem d_ModeKeeper_value_0 : decode b_ModeKeeper_value 0 = .ok (.iload_n 1, 1) := by decide +kernel
theorem d_ModeKeeper_value_1 : decode b_ModeKeeper_value 1 = .ok (.invokestatic 43, 3) := by decide +kernel
theorem d_ModeKeeper_value_4 : decode b_ModeKeeper_value 4 = .ok (.ifCond .eq 10, 3) := by decide +kernel
theorem d_ModeKeeper_value_7 : decode b_ModeKeeper_value 7 = .ok (.aload_n 0, 1) := by decide +kernel
theorem d_ModeKeeper_value_8 : decode b_ModeKeeper_value 8 = .ok (.getfield 9, 3) := by decide +kernel
theorem d_ModeKeeper_value_11 : decode b_ModeKeeper_value 11 = .ok (.iload_n 1, 1) := by decide +kernel
theorem d_ModeKeeper_value_12 : decode b_ModeKeeper_value 12 = .ok (.iaload, 1) := by decide +kernel
theorem d_ModeKeeper_value_13 : decode b_ModeKeeper_value 13 = .ok (.ireturn, 1) := by decide +kernel
theorem d_ModeKeeper_value_14 : decode b_ModeKeeper_value 14 = .ok (.iload_n 1, 1) := by decide +kernel
theorem d_ModeKeeper_value_15 : decode b_ModeKeeper_value 15 = .ok (.tableswitch 60 8 11 #[29, 34, 50, 55], 29) := by decide +kernel
theorem d_ModeKeeper_value_44 : decode b_ModeKeeper_value 44 = .ok (.aload_n 0, 1) := by decide +kernel
theorem d_ModeKeeper_value_45 : decode b_ModeKeeper_value 45 = .ok (.getfield 13, 3) := by decide +kernel
theorem d_ModeKeeper_value_48 : decode b_ModeKeeper_value 48 = .ok (.ireturn, 1) := by decide +kernel
theorem d_ModeKeeper_value_49 : decode b_ModeKeeper_value 49 = .ok (.aload_n 0, 1) := by decide +kernel
theorem d_ModeKeeper_value_50 : decode b_ModeKeeper_value 50 = .ok (.getfield 20, 3) := by decide +kernel
theorem d_ModeKeeper_value_53 : decode b_ModeKeeper_value 53 = .ok (.ifCond .eq 10, 3) := by decide +kernel
theorem d_ModeKeeper_value_56 : decode b_ModeKeeper_value 56 = .ok (.aload_n 0, 1) := by decide +kernel
theorem d_ModeKeeper_value_57 : decode b_ModeKeeper_value 57 = .ok (.getfield 24, 3) := by decide +kernel
theorem d_ModeKeeper_value_60 : decode b_ModeKeeper_value 60 = .ok (.goto 4, 3) := by decide +kernel
theorem d_ModeKeeper_value_63 : decode b_ModeKeeper_value 63 = .ok (.iconst (-1), 1) := by decide +kernel
theorem d_ModeKeeper_value_64 : decode b_ModeKeeper_value 64 = .ok (.ireturn, 1) := by decide +kernel
theorem d_ModeKeeper_value_65 : decode b_ModeKeeper_value 65 = .ok (.aload_n 0, 1) := by decide +kernel
theorem d_ModeKeeper_value_66 : decode b_ModeKeeper_value 66 = .ok (.getfield 17, 3) := by decide +kernel
theorem d_ModeKeeper_value_69 : decode b_ModeKeeper_value 69 = .ok (.ireturn, 1) := by decide +kernel
theorem d_ModeKeeper_value_70 : decode b_ModeKeeper_value 70 = .ok (.aload_n 0, 1) := by decide +kernel
theorem d_ModeKeeper_value_71 : decode b_ModeKeeper_value 71 = .ok (.getfield 39, 3) := by decide +kernel
theorem d_ModeKeeper_value_74 : decode b_ModeKeeper_value 74 = .ok (.ireturn, 1) := by decide +kernel
theorem d_ModeKeeper_value_75 : decode b_ModeKeeper_value 75 = .ok (.iconst 0, 1) := by decide +kernel
theorem d_ModeKeeper_value_76 : decode b_ModeKeeper_value 76 = .ok (.ireturn, 1) := by decide +kernel
theorem d_ModeKeeper_about_0 : decode b_ModeKeeper_about 0 = .ok (.aload_n 0, 1) := by decide +kernel
theorem d_ModeKeeper_about_1 : decode b_ModeKeeper_about 1 = .ok (.iload_n 1, 1) := by decide +kernel
theorem d_ModeKeeper_about_2 : decode b_ModeKeeper_about 2 = .ok (.invokevirtual 58, 3) := by decide +kernel
theorem d_ModeKeeper_about_5 : decode b_ModeKeeper_about 5 = .ok (.astore_n 3, 1) := by decide +kernel
theorem d_ModeKeeper_about_6 : decode b_ModeKeeper_about 6 = .ok (.aload_n 3, 1) := by decide +kernel
theorem d_ModeKeeper_about_7 : decode b_ModeKeeper_about 7 = .ok (.ifnonnull 5, 3) := by decide +kernel
theorem d_ModeKeeper_about_10 : decode b_ModeKeeper_about 10 = .ok (.iconst (-1), 1) := by decide +kernel
theorem d_ModeKeeper_about_11 : decode b_ModeKeeper_about 11 = .ok (.ireturn, 1) := by decide +kernel
theorem d_ModeKeeper_about_12 : decode b_ModeKeeper_about 12 = .ok (.iload_n 2, 1) := by decide +kernel
theorem d_ModeKeeper_about_13 : decode b_ModeKeeper_about 13 = .ok (.lookupswitch 45 #[(0, 27), (1, 32)], 27) := by decide +kernel
theorem d_ModeKeeper_about_40 : decode b_ModeKeeper_about 40 = .ok (.aload_n 3, 1) := by decide +kernel
theorem d_ModeKeeper_about_41 : decode b_ModeKeeper_about 41 = .ok (.getfield 71, 3) := by decide +kernel
theorem d_ModeKeeper_about_44 : decode b_ModeKeeper_about 44 = .ok (.ireturn, 1) := by decide +kernel
theorem d_ModeKeeper_about_45 : decode b_ModeKeeper_about 45 = .ok (.aload_n 3, 1) := by decide +kernel
theorem d_ModeKeeper_about_46 : decode b_ModeKeeper_about 46 = .ok (.getfield 62, 3) := by decide +kernel
theorem d_ModeKeeper_about_49 : decode b_ModeKeeper_about 49 = .ok (.ifCond .eq 7, 3) := by decide +kernel
theorem d_ModeKeeper_about_52 : decode b_ModeKeeper_about 52 = .ok (.iconst 1, 1) := by decide +kernel
theorem d_ModeKeeper_about_53 : decode b_ModeKeeper_about 53 = .ok (.goto 4, 3) := by decide +kernel
theorem d_ModeKeeper_about_56 : decode b_ModeKeeper_about 56 = .ok (.iconst 0, 1) := by decide +kernel
theorem d_ModeKeeper_about_57 : decode b_ModeKeeper_about 57 = .ok (.ireturn, 1) := by decide +kernel
theorem d_ModeKeeper_about_58 : decode b_ModeKeeper_about 58 = .ok (.iconst (-1), 1) := by decide +kernel
theorem d_ModeKeeper_about_59 : decode b_ModeKeeper_about 59 = .ok (.ireturn, 1) := by decide +kernel
theorem d_ModeKeeper_isActuator_0 : decode b_ModeKeeper_isActuator 0 = .ok (.iload_n 0, 1) := by decide +kernel
theorem d_ModeKeeper_isActuator_1 : decode b_ModeKeeper_isActuator 1 = .ok (.ifCond .lt 13, 3) := by decide +kernel
theorem d_ModeKeeper_isActuator_4 : decode b_ModeKeeper_isActuator 4 = .ok (.iload_n 0, 1) := by decide +kernel
theorem d_ModeKeeper_isActuator_5 : decode b_ModeKeeper_isActuator 5 = .ok (.bipush 8, 2) := by decide +kernel
theorem d_ModeKeeper_isActuator_7 : decode b_ModeKeeper_isActuator 7 = .ok (.if_icmp .ge 7, 3) := by decide +kernel
theorem d_ModeKeeper_isActuator_10 : decode b_ModeKeeper_isActuator 10 = .ok (.iconst 1, 1) := by decide +kernel
theorem d_ModeKeeper_isActuator_11 : decode b_ModeKeeper_isActuator 11 = .ok (.goto 4, 3) := by decide +kernel
theorem d_ModeKeeper_isActuator_14 : decode b_ModeKeeper_isActuator 14 = .ok (.iconst 0, 1) := by decide +kernel
theorem d_ModeKeeper_isActuator_15 : decode b_ModeKeeper_isActuator 15 = .ok (.ireturn, 1) := by decide +kernel
theorem d_ModeKeeper_divides_0 : decode b_ModeKeeper_divides 0 = .ok (.iload_n 0, 1) := by decide +kernel
theorem d_ModeKeeper_divides_1 : decode b_ModeKeeper_divides 1 = .ok (.ifCond .le 13, 3) := by decide +kernel
theorem d_ModeKeeper_divides_4 : decode b_ModeKeeper_divides 4 = .ok (.iload_n 1, 1) := by decide +kernel
theorem d_ModeKeeper_divides_5 : decode b_ModeKeeper_divides 5 = .ok (.iload_n 0, 1) := by decide +kernel
theorem d_ModeKeeper_divides_6 : decode b_ModeKeeper_divides 6 = .ok (.irem, 1) := by decide +kernel
theorem d_ModeKeeper_divides_7 : decode b_ModeKeeper_divides 7 = .ok (.ifCond .ne 7, 3) := by decide +kernel
theorem d_ModeKeeper_divides_10 : decode b_ModeKeeper_divides 10 = .ok (.iconst 1, 1) := by decide +kernel
theorem d_ModeKeeper_divides_11 : decode b_ModeKeeper_divides 11 = .ok (.goto 4, 3) := by decide +kernel
theorem d_ModeKeeper_divides_14 : decode b_ModeKeeper_divides 14 = .ok (.iconst 0, 1) := by decide +kernel
theorem d_ModeKeeper_divides_15 : decode b_ModeKeeper_divides 15 = .ok (.ireturn, 1) := by decide +kernel
theorem d_ModeKeeper_changeMode_0 : decode b_ModeKeeper_changeMode 0 = .ok (.aload_n 0, 1) := by decide +kernel
theorem d_ModeKeeper_changeMode_1 : decode b_ModeKeeper_changeMode 1 = .ok (.getfield 13, 3) := by decide +kernel
theorem d_ModeKeeper_changeMode_4 : decode b_ModeKeeper_changeMode 4 = .ok (.iload_n 1, 1) := by decide +kernel
theorem d_ModeKeeper_changeMode_5 : decode b_ModeKeeper_changeMode 5 = .ok (.if_icmp .ne 5, 3) := by decide +kernel
theorem d_ModeKeeper_changeMode_8 : decode b_ModeKeeper_changeMode 8 = .ok (.iconst 0, 1) := by decide +kernel
theorem d_ModeKeeper_changeMode_9 : decode b_ModeKeeper_changeMode 9 = .ok (.ireturn, 1) := by decide +kernel
theorem d_ModeKeeper_changeMode_10 : decode b_ModeKeeper_changeMode 10 = .ok (.aload_n 0, 1) := by decide +kernel
theorem d_ModeKeeper_changeMode_11 : decode b_ModeKeeper_changeMode 11 = .ok (.iload_n 1, 1) := by decide +kernel
theorem d_ModeKeeper_changeMode_12 : decode b_ModeKeeper_changeMode 12 = .ok (.putfield 13, 3) := by decide +kernel
theorem d_ModeKeeper_changeMode_15 : decode b_ModeKeeper_changeMode 15 = .ok (.aload_n 0, 1) := by decide +kernel
theorem d_ModeKeeper_changeMode_16 : decode b_ModeKeeper_changeMode 16 = .ok (.dup, 1) := by decide +kernel
theorem d_ModeKeeper_changeMode_17 : decode b_ModeKeeper_changeMode 17 = .ok (.getfield 17, 3) := by decide +kernel
theorem d_ModeKeeper_changeMode_20 : decode b_ModeKeeper_changeMode 20 = .ok (.iconst 1, 1) := by decide +kernel
theorem d_ModeKeeper_changeMode_21 : decode b_ModeKeeper_changeMode 21 = .ok (.iadd, 1) := by decide +kernel
theorem d_ModeKeeper_changeMode_22 : decode b_ModeKeeper_changeMode 22 = .ok (.putfield 17, 3) := by decide +kernel
theorem d_ModeKeeper_changeMode_25 : decode b_ModeKeeper_changeMode 25 = .ok (.iload_n 1, 1) := by decide +kernel
theorem d_ModeKeeper_changeMode_26 : decode b_ModeKeeper_changeMode 26 = .ok (.ifCond .ne 17, 3) := by decide +kernel
theorem d_ModeKeeper_changeMode_29 : decode b_ModeKeeper_changeMode 29 = .ok (.getstatic 84, 3) := by decide +kernel
theorem d_ModeKeeper_changeMode_32 : decode b_ModeKeeper_changeMode 32 = .ok (.iconst 0, 1) := by decide +kernel
theorem d_ModeKeeper_changeMode_33 : decode b_ModeKeeper_changeMode 33 = .ok (.aload_n 0, 1) := by decide +kernel
theorem d_ModeKeeper_changeMode_34 : decode b_ModeKeeper_changeMode 34 = .ok (.getfield 9, 3) := by decide +kernel
theorem d_ModeKeeper_changeMode_37 : decode b_ModeKeeper_changeMode 37 = .ok (.iconst 0, 1) := by decide +kernel
theorem d_ModeKeeper_changeMode_38 : decode b_ModeKeeper_changeMode 38 = .ok (.bipush 8, 2) := by decide +kernel
theorem d_ModeKeeper_changeMode_40 : decode b_ModeKeeper_changeMode 40 = .ok (.invokestatic 87, 3) := by decide +kernel
theorem d_ModeKeeper_changeMode_43 : decode b_ModeKeeper_changeMode 43 = .ok (.iconst 1, 1) := by decide +kernel
theorem d_ModeKeeper_changeMode_44 : decode b_ModeKeeper_changeMode 44 = .ok (.ireturn, 1) := by decide +kernel
theorem d_ModeKeeper_failureOfNewForm_0 : decode b_ModeKeeper_failureOfNewForm 0 = .ok (.aload_n 0, 1) := by decide +kernel
theorem d_ModeKeeper_failureOfNewForm_1 : decode b_ModeKeeper_failureOfNewForm 1 = .ok (.getfield 30, 3) := by decide +kernel
theorem d_ModeKeeper_failureOfNewForm_4 : decode b_ModeKeeper_failureOfNewForm 4 = .ok (.ifCond .eq 26, 3) := by decide +kernel
theorem d_ModeKeeper_failureOfNewForm_7 : decode b_ModeKeeper_failureOfNewForm 7 = .ok (.iload_n 2, 1) := by decide +kernel
theorem d_ModeKeeper_failureOfNewForm_8 : decode b_ModeKeeper_failureOfNewForm 8 = .ok (.iconst 1, 1) := by decide +kernel
theorem d_ModeKeeper_failureOfNewForm_9 : decode b_ModeKeeper_failureOfNewForm 9 = .ok (.if_icmp .lt 21, 3) := by decide +kernel
theorem d_ModeKeeper_failureOfNewForm_12 : decode b_ModeKeeper_failureOfNewForm 12 = .ok (.iload_n 2, 1) := by decide +kernel
theorem d_ModeKeeper_failureOfNewForm_13 : decode b_ModeKeeper_failureOfNewForm 13 = .ok (.sipush 255, 3) := by decide +kernel
theorem d_ModeKeeper_failureOfNewForm_16 : decode b_ModeKeeper_failureOfNewForm 16 = .ok (.if_icmp .gt 14, 3) := by decide +kernel
theorem d_ModeKeeper_failureOfNewForm_19 : decode b_ModeKeeper_failureOfNewForm 19 = .ok (.iload_n 1, 1) := by decide +kernel
theorem d_ModeKeeper_failureOfNewForm_20 : decode b_ModeKeeper_failureOfNewForm 20 = .ok (.ifCond .lt 10, 3) := by decide +kernel
theorem d_ModeKeeper_failureOfNewForm_23 : decode b_ModeKeeper_failureOfNewForm 23 = .ok (.iload_n 1, 1) := by decide +kernel
theorem d_ModeKeeper_failureOfNewForm_24 : decode b_ModeKeeper_failureOfNewForm 24 = .ok (.sipush 255, 3) := by decide +kernel
theorem d_ModeKeeper_failureOfNewForm_27 : decode b_ModeKeeper_failureOfNewForm 27 = .ok (.if_icmp .le 6, 3) := by decide +kernel
theorem d_ModeKeeper_failureOfNewForm_30 : decode b_ModeKeeper_failureOfNewForm 30 = .ok (.bipush 13, 2) := by decide +kernel
theorem d_ModeKeeper_failureOfNewForm_32 : decode b_ModeKeeper_failureOfNewForm 32 = .ok (.ireturn, 1) := by decide +kernel
theorem d_ModeKeeper_failureOfNewForm_33 : decode b_ModeKeeper_failureOfNewForm 33 = .ok (.aload_n 0, 1) := by decide +kernel
theorem d_ModeKeeper_failureOfNewForm_34 : decode b_ModeKeeper_failureOfNewForm 34 = .ok (.iload_n 1, 1) := by decide +kernel
theorem d_ModeKeeper_failureOfNewForm_35 : decode b_ModeKeeper_failureOfNewForm 35 = .ok (.invokevirtual 58, 3) := by decide +kernel
theorem d_ModeKeeper_failureOfNewForm_38 : decode b_ModeKeeper_failureOfNewForm 38 = .ok (.ifnull 6, 3) := by decide +kernel
theorem d_ModeKeeper_failureOfNewForm_41 : decode b_ModeKeeper_failureOfNewForm 41 = .ok (.bipush 11, 2) := by decide +kernel
theorem d_ModeKeeper_failureOfNewForm_43 : decode b_ModeKeeper_failureOfNewForm 43 = .ok (.ireturn, 1) := by decide +kernel
theorem d_ModeKeeper_failureOfNewForm_44 : decode b_ModeKeeper_failureOfNewForm 44 = .ok (.aload_n 0, 1) := by decide +kernel
theorem d_ModeKeeper_failureOfNewForm_45 : decode b_ModeKeeper_failureOfNewForm 45 = .ok (.getfield 39, 3) := by decide +kernel
theorem d_ModeKeeper_failureOfNewForm_48 : decode b_ModeKeeper_failureOfNewForm 48 = .ok (.bipush 8, 2) := by decide +kernel
theorem d_ModeKeeper_failureOfNewForm_50 : decode b_ModeKeeper_failureOfNewForm 50 = .ok (.if_icmp .lt 6, 3) := by decide +kernel
theorem d_ModeKeeper_failureOfNewForm_53 : decode b_ModeKeeper_failureOfNewForm 53 = .ok (.bipush 12, 2) := by decide +kernel
theorem d_ModeKeeper_failureOfNewForm_55 : decode b_ModeKeeper_failureOfNewForm 55 = .ok (.ireturn, 1) := by decide +kernel
theorem d_ModeKeeper_failureOfNewForm_56 : decode b_ModeKeeper_failureOfNewForm 56 = .ok (.iconst 0, 1) := by decide +kernel
theorem d_ModeKeeper_failureOfNewForm_57 : decode b_ModeKeeper_failureOfNewForm 57 = .ok (.ireturn, 1) := by decide +kernel
theorem d_ModeKeeper_fillEmptyPlace_0 : decode b_ModeKeeper_fillEmptyPlace 0 = .ok (.iconst 0, 1) := by decide +kernel
theorem d_ModeKeeper_fillEmptyPlace_1 : decode b_ModeKeeper_fillEmptyPlace 1 = .ok (.istore_n 3, 1) := by decide +kernel
theorem d_ModeKeeper_fillEmptyPlace_2 : decode b_ModeKeeper_fillEmptyPlace 2 = .ok (.iload_n 3, 1) := by decide +kernel
theorem d_ModeKeeper_fillEmptyPlace_3 : decode b_ModeKeeper_fillEmptyPlace 3 = .ok (.bipush 8, 2) := by decide +kernel
theorem d_ModeKeeper_fillEmptyPlace_5 : decode b_ModeKeeper_fillEmptyPlace 5 = .ok (.if_icmp .ge 87, 3) := by decide +kernel
theorem d_ModeKeeper_fillEmptyPlace_8 : decode b_ModeKeeper_fillEmptyPlace 8 = .ok (.aload_n 0, 1) := by decide +kernel
theorem d_ModeKeeper_fillEmptyPlace_9 : decode b_ModeKeeper_fillEmptyPlace 9 = .ok (.getfield 35, 3) := by decide +kernel
theorem d_ModeKeeper_fillEmptyPlace_12 : decode b_ModeKeeper_fillEmptyPlace 12 = .ok (.iload_n 3, 1) := by decide +kernel
theorem d_ModeKeeper_fillEmptyPlace_13 : decode b_ModeKeeper_fillEmptyPlace 13 = .ok (.aaload, 1) := by decide +kernel
theorem d_ModeKeeper_fillEmptyPlace_14 : decode b_ModeKeeper_fillEmptyPlace 14 = .ok (.astore 4, 2) := by decide +kernel
theorem d_ModeKeeper_fillEmptyPlace_16 : decode b_ModeKeeper_fillEmptyPlace 16 = .ok (.aload 4, 2) := by decide +kernel
theorem d_ModeKeeper_fillEmptyPlace_18 : decode b_ModeKeeper_fillEmptyPlace 18 = .ok (.getfield 65, 3) := by decide +kernel
theorem d_ModeKeeper_fillEmptyPlace_21 : decode b_ModeKeeper_fillEmptyPlace 21 = .ok (.ifCond .ne 65, 3) := by decide +kernel
theorem d_ModeKeeper_fillEmptyPlace_24 : decode b_ModeKeeper_fillEmptyPlace 24 = .ok (.aload 4, 2) := by decide +kernel
theorem d_ModeKeeper_fillEmptyPlace_26 : decode b_ModeKeeper_fillEmptyPlace 26 = .ok (.iconst 1, 1) := by decide +kernel
theorem d_ModeKeeper_fillEmptyPlace_27 : decode b_ModeKeeper_fillEmptyPlace 27 = .ok (.putfield 65, 3) := by decide +kernel
theorem d_ModeKeeper_fillEmptyPlace_30 : decode b_ModeKeeper_fillEmptyPlace 30 = .ok (.aload 4, 2) := by decide +kernel
theorem d_ModeKeeper_fillEmptyPlace_32 : decode b_ModeKeeper_fillEmptyPlace 32 = .ok (.iload_n 1, 1) := by decide +kernel
theorem d_ModeKeeper_fillEmptyPlace_33 : decode b_ModeKeeper_fillEmptyPlace 33 = .ok (.putfield 68, 3) := by decide +kernel
theorem d_ModeKeeper_fillEmptyPlace_36 : decode b_ModeKeeper_fillEmptyPlace 36 = .ok (.aload 4, 2) := by decide +kernel
theorem d_ModeKeeper_fillEmptyPlace_38 : decode b_ModeKeeper_fillEmptyPlace 38 = .ok (.iload_n 2, 1) := by decide +kernel
theorem d_ModeKeeper_fillEmptyPlace_39 : decode b_ModeKeeper_fillEmptyPlace 39 = .ok (.putfield 71, 3) := by decide +kernel
theorem d_ModeKeeper_fillEmptyPlace_42 : decode b_ModeKeeper_fillEmptyPlace 42 = .ok (.aload 4, 2) := by decide +kernel
theorem d_ModeKeeper_fillEmptyPlace_44 : decode b_ModeKeeper_fillEmptyPlace 44 = .ok (.iconst 0, 1) := by decide +kernel
theorem d_ModeKeeper_fillEmptyPlace_45 : decode b_ModeKeeper_fillEmptyPlace 45 = .ok (.putfield 62, 3) := by decide +kernel
theorem d_ModeKeeper_fillEmptyPlace_48 : decode b_ModeKeeper_fillEmptyPlace 48 = .ok (.aload 4, 2) := by decide +kernel
theorem d_ModeKeeper_fillEmptyPlace_50 : decode b_ModeKeeper_fillEmptyPlace 50 = .ok (.aload_n 0, 1) := by decide +kernel
theorem d_ModeKeeper_fillEmptyPlace_51 : decode b_ModeKeeper_fillEmptyPlace 51 = .ok (.getfield 30, 3) := by decide +kernel
theorem d_ModeKeeper_fillEmptyPlace_54 : decode b_ModeKeeper_fillEmptyPlace 54 = .ok (.putfield 78, 3) := by decide +kernel
theorem d_ModeKeeper_fillEmptyPlace_57 : decode b_ModeKeeper_fillEmptyPlace 57 = .ok (.aload_n 0, 1) := by decide +kernel
theorem d_ModeKeeper_fillEmptyPlace_58 : decode b_ModeKeeper_fillEmptyPlace 58 = .ok (.getfield 27, 3) := by decide +kernel
theorem d_ModeKeeper_fillEmptyPlace_61 : decode b_ModeKeeper_fillEmptyPlace 61 = .ok (.iconst 0, 1) := by decide +kernel
theorem d_ModeKeeper_fillEmptyPlace_62 : decode b_ModeKeeper_fillEmptyPlace 62 = .ok (.aload 4, 2) := by decide +kernel
theorem d_ModeKeeper_fillEmptyPlace_64 : decode b_ModeKeeper_fillEmptyPlace 64 = .ok (.getfield 81, 3) := by decide +kernel
theorem d_ModeKeeper_fillEmptyPlace_67 : decode b_ModeKeeper_fillEmptyPlace 67 = .ok (.iconst 0, 1) := by decide +kernel
theorem d_ModeKeeper_fillEmptyPlace_68 : decode b_ModeKeeper_fillEmptyPlace 68 = .ok (.aload_n 0, 1) := by decide +kernel
theorem d_ModeKeeper_fillEmptyPlace_69 : decode b_ModeKeeper_fillEmptyPlace 69 = .ok (.getfield 30, 3) := by decide +kernel
theorem d_ModeKeeper_fillEmptyPlace_72 : decode b_ModeKeeper_fillEmptyPlace 72 = .ok (.invokestatic 87, 3) := by decide +kernel
theorem d_ModeKeeper_fillEmptyPlace_75 : decode b_ModeKeeper_fillEmptyPlace 75 = .ok (.aload_n 0, 1) := by decide +kernel
theorem d_ModeKeeper_fillEmptyPlace_76 : decode b_ModeKeeper_fillEmptyPlace 76 = .ok (.dup, 1) := by decide +kernel
theorem d_ModeKeeper_fillEmptyPlace_77 : decode b_ModeKeeper_fillEmptyPlace 77 = .ok (.getfield 39, 3) := by decide +kernel
theorem d_ModeKeeper_fillEmptyPlace_80 : decode b_ModeKeeper_fillEmptyPlace 80 = .ok (.iconst 1, 1) := by decide +kernel
theorem d_ModeKeeper_fillEmptyPlace_81 : decode b_ModeKeeper_fillEmptyPlace 81 = .ok (.iadd, 1) := by decide +kernel
theorem d_ModeKeeper_fillEmptyPlace_82 : decode b_ModeKeeper_fillEmptyPlace 82 = .ok (.putfield 39, 3) := by decide +kernel
theorem d_ModeKeeper_fillEmptyPlace_85 : decode b_ModeKeeper_fillEmptyPlace 85 = .ok (.return_, 1) := by decide +kernel
theorem d_ModeKeeper_fillEmptyPlace_86 : decode b_ModeKeeper_fillEmptyPlace 86 = .ok (.iinc 3 1, 3) := by decide +kernel
theorem d_ModeKeeper_fillEmptyPlace_89 : decode b_ModeKeeper_fillEmptyPlace 89 = .ok (.goto (-87), 3) := by decide +kernel
theorem d_ModeKeeper_fillEmptyPlace_92 : decode b_ModeKeeper_fillEmptyPlace 92 = .ok (.return_, 1) := by decide +kernel
theorem d_ModeKeeper_find_0 : decode b_ModeKeeper_find 0 = .ok (.iconst 0, 1) := by decide +kernel
theorem d_ModeKeeper_find_1 : decode b_ModeKeeper_find 1 = .ok (.istore_n 2, 1) := by decide +kernel
theorem d_ModeKeeper_find_2 : decode b_ModeKeeper_find 2 = .ok (.iload_n 2, 1) := by decide +kernel
theorem d_ModeKeeper_find_3 : decode b_ModeKeeper_find 3 = .ok (.bipush 8, 2) := by decide +kernel
theorem d_ModeKeeper_find_5 : decode b_ModeKeeper_find 5 = .ok (.if_icmp .ge 33, 3) := by decide +kernel
theorem d_ModeKeeper_find_8 : decode b_ModeKeeper_find 8 = .ok (.aload_n 0, 1) := by decide +kernel
theorem d_ModeKeeper_find_9 : decode b_ModeKeeper_find 9 = .ok (.getfield 35, 3) := by decide +kernel
theorem d_ModeKeeper_find_12 : decode b_ModeKeeper_find 12 = .ok (.iload_n 2, 1) := by decide +kernel
theorem d_ModeKeeper_find_13 : decode b_ModeKeeper_find 13 = .ok (.aaload, 1) := by decide +kernel
theorem d_ModeKeeper_find_14 : decode b_ModeKeeper_find 14 = .ok (.astore_n 3, 1) := by decide +kernel
theorem d_ModeKeeper_find_15 : decode b_ModeKeeper_find 15 = .ok (.aload_n 3, 1) := by decide +kernel
theorem d_ModeKeeper_find_16 : decode b_ModeKeeper_find 16 = .ok (.getfield 65, 3) := by decide +kernel
theorem d_ModeKeeper_find_19 : decode b_ModeKeeper_find 19 = .ok (.ifCond .eq 13, 3) := by decide +kernel
theorem d_ModeKeeper_find_22 : decode b_ModeKeeper_find 22 = .ok (.aload_n 3, 1) := by decide +kernel
theorem d_ModeKeeper_find_23 : decode b_ModeKeeper_find 23 = .ok (.getfield 68, 3) := by decide +kernel
theorem d_ModeKeeper_find_26 : decode b_ModeKeeper_find 26 = .ok (.iload_n 1, 1) := by decide +kernel
theorem d_ModeKeeper_find_27 : decode b_ModeKeeper_find 27 = .ok (.if_icmp .ne 5, 3) := by decide +kernel
theorem d_ModeKeeper_find_30 : decode b_ModeKeeper_find 30 = .ok (.aload_n 3, 1) := by decide +kernel
theorem d_ModeKeeper_find_31 : decode b_ModeKeeper_find 31 = .ok (.areturn, 1) := by decide +kernel
theorem d_ModeKeeper_find_32 : decode b_ModeKeeper_find 32 = .ok (.iinc 2 1, 3) := by decide +kernel
theorem d_ModeKeeper_find_35 : decode b_ModeKeeper_find 35 = .ok (.goto (-33), 3) := by decide +kernel
theorem d_ModeKeeper_find_38 : decode b_ModeKeeper_find 38 = .ok (.aconst_null, 1) := by decide +kernel
theorem d_ModeKeeper_find_39 : decode b_ModeKeeper_find 39 = .ok (.areturn, 1) := by decide +kernel
theorem d_Form_init_0 : decode b_Form_init 0 = .ok (.aload_n 0, 1) := by decide +kernel
theorem d_Form_init_1 : decode b_Form_init 1 = .ok (.invokespecial 3, 3) := by decide +kernel
theorem d_Form_init_4 : decode b_Form_init 4 = .ok (.aload_n 0, 1) := by decide +kernel
theorem d_Form_init_5 : decode b_Form_init 5 = .ok (.iconst 0, 1) := by decide +kernel
theorem d_Form_init_6 : decode b_Form_init 6 = .ok (.putfield 9, 3) := by decide +kernel
theorem d_Form_init_9 : decode b_Form_init 9 = .ok (.aload_n 0, 1) := by decide +kernel
theorem d_Form_init_10 : decode b_Form_init 10 = .ok (.iconst 0, 1) := by decide +kernel
theorem d_Form_init_11 : decode b_Form_init 11 = .ok (.putfield 15, 3) := by decide +kernel
theorem d_Form_init_14 : decode b_Form_init 14 = .ok (.aload_n 0, 1) := by decide +kernel
theorem d_Form_init_15 : decode b_Form_init 15 = .ok (.iconst 1, 1) := by decide +kernel
theorem d_Form_init_16 : decode b_Form_init 16 = .ok (.putfield 19, 3) := by decide +kernel
theorem d_Form_init_19 : decode b_Form_init 19 = .ok (.aload_n 0, 1) := by decide +kernel
theorem d_Form_init_20 : decode b_Form_init 20 = .ok (.iconst 0, 1) := by decide +kernel
theorem d_Form_init_21 : decode b_Form_init 21 = .ok (.putfield 22, 3) := by decide +kernel
theorem d_Form_init_24 : decode b_Form_init 24 = .ok (.aload_n 0, 1) := by decide +kernel
theorem d_Form_init_25 : decode b_Form_init 25 = .ok (.iconst 0, 1) := by decide +kernel
theorem d_Form_init_26 : decode b_Form_init 26 = .ok (.putfield 25, 3) := by decide +kernel
theorem d_Form_init_29 : decode b_Form_init 29 = .ok (.aload_n 0, 1) := by decide +kernel
theorem d_Form_init_30 : decode b_Form_init 30 = .ok (.bipush 8, 2) := by decide +kernel
theorem d_Form_init_32 : decode b_Form_init 32 = .ok (.newarray .int, 2) := by decide +kernel
theorem d_Form_init_34 : decode b_Form_init 34 = .ok (.putfield 28, 3) := by decide +kernel
theorem d_Form_init_37 : decode b_Form_init 37 = .ok (.return_, 1) := by decide +kernel
