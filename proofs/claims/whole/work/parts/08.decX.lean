theorem d_WS_init_0 : decode b_WS_init 0 = .ok (.aload_n 0, 1) := by decide +kernel
theorem d_WS_init_1 : decode b_WS_init 1 = .ok (.invokespecial 1, 3) := by decide +kernel
theorem d_WS_init_4 : decode b_WS_init 4 = .ok (.aload_n 0, 1) := by decide +kernel
theorem d_WS_init_5 : decode b_WS_init 5 = .ok (.new 7, 3) := by decide +kernel
theorem d_WS_init_8 : decode b_WS_init 8 = .ok (.dup, 1) := by decide +kernel
theorem d_WS_init_9 : decode b_WS_init 9 = .ok (.invokespecial 9, 3) := by decide +kernel
theorem d_WS_init_12 : decode b_WS_init 12 = .ok (.putfield 10, 3) := by decide +kernel
theorem d_WS_init_15 : decode b_WS_init 15 = .ok (.aload_n 0, 1) := by decide +kernel
theorem d_WS_init_16 : decode b_WS_init 16 = .ok (.aload_n 0, 1) := by decide +kernel
theorem d_WS_init_17 : decode b_WS_init 17 = .ok (.getfield 10, 3) := by decide +kernel
theorem d_WS_init_20 : decode b_WS_init 20 = .ok (.getfield 16, 3) := by decide +kernel
theorem d_WS_init_23 : decode b_WS_init 23 = .ok (.putfield 20, 3) := by decide +kernel
theorem d_WS_init_26 : decode b_WS_init 26 = .ok (.aload_n 0, 1) := by decide +kernel
theorem d_WS_init_27 : decode b_WS_init 27 = .ok (.aload_n 0, 1) := by decide +kernel
theorem d_WS_init_28 : decode b_WS_init 28 = .ok (.getfield 10, 3) := by decide +kernel
theorem d_WS_init_31 : decode b_WS_init 31 = .ok (.getfield 21, 3) := by decide +kernel
theorem d_WS_init_34 : decode b_WS_init 34 = .ok (.putfield 25, 3) := by decide +kernel
theorem d_WS_init_37 : decode b_WS_init 37 = .ok (.aload_n 0, 1) := by decide +kernel
theorem d_WS_init_38 : decode b_WS_init 38 = .ok (.bipush 64, 2) := by decide +kernel
theorem d_WS_init_40 : decode b_WS_init 40 = .ok (.anewarray 26, 3) := by decide +kernel
theorem d_WS_init_43 : decode b_WS_init 43 = .ok (.putfield 28, 3) := by decide +kernel
theorem d_WS_init_46 : decode b_WS_init 46 = .ok (.aload_n 0, 1) := by decide +kernel
theorem d_WS_init_47 : decode b_WS_init 47 = .ok (.iconst 0, 1) := by decide +kernel
theorem d_WS_init_48 : decode b_WS_init 48 = .ok (.putfield 32, 3) := by decide +kernel
theorem d_WS_init_51 : decode b_WS_init 51 = .ok (.return_, 1) := by decide +kernel
theorem d_SE_init_0 : decode b_SE_init 0 = .ok (.aload_n 0, 1) := by decide +kernel
theorem d_SE_init_1 : decode b_SE_init 1 = .ok (.invokespecial 3, 3) := by decide +kernel
theorem d_SE_init_4 : decode b_SE_init 4 = .ok (.aload_n 0, 1) := by decide +kernel
theorem d_SE_init_5 : decode b_SE_init 5 = .ok (.new 9, 3) := by decide +kernel
theorem d_SE_init_8 : decode b_SE_init 8 = .ok (.dup, 1) := by decide +kernel
theorem d_SE_init_9 : decode b_SE_init 9 = .ok (.invokespecial 11, 3) := by decide +kernel
theorem d_SE_init_12 : decode b_SE_init 12 = .ok (.putfield 12, 3) := by decide +kernel
theorem d_SE_init_15 : decode b_SE_init 15 = .ok (.aload_n 0, 1) := by decide +kernel
theorem d_SE_init_16 : decode b_SE_init 16 = .ok (.new 18, 3) := by decide +kernel
theorem d_SE_init_19 : decode b_SE_init 19 = .ok (.dup, 1) := by decide +kernel
theorem d_SE_init_20 : decode b_SE_init 20 = .ok (.invokespecial 20, 3) := by decide +kernel
theorem d_SE_init_23 : decode b_SE_init 23 = .ok (.putfield 21, 3) := by decide +kernel
theorem d_SE_init_26 : decode b_SE_init 26 = .ok (.aload_n 0, 1) := by decide +kernel
theorem d_SE_init_27 : decode b_SE_init 27 = .ok (.bipush 48, 2) := by decide +kernel
theorem d_SE_init_29 : decode b_SE_init 29 = .ok (.newarray .boolean, 2) := by decide +kernel
theorem d_SE_init_31 : decode b_SE_init 31 = .ok (.putfield 25, 3) := by decide +kernel
theorem d_SE_init_34 : decode b_SE_init 34 = .ok (.aload_n 0, 1) := by decide +kernel
theorem d_SE_init_35 : decode b_SE_init 35 = .ok (.bipush 96, 2) := by decide +kernel
theorem d_SE_init_37 : decode b_SE_init 37 = .ok (.newarray .boolean, 2) := by decide +kernel
theorem d_SE_init_39 : decode b_SE_init 39 = .ok (.putfield 29, 3) := by decide +kernel
theorem d_SE_init_42 : decode b_SE_init 42 = .ok (.aload_n 0, 1) := by decide +kernel
theorem d_SE_init_43 : decode b_SE_init 43 = .ok (.sipush 192, 3) := by decide +kernel
theorem d_SE_init_46 : decode b_SE_init 46 = .ok (.newarray .int, 2) := by decide +kernel
theorem d_SE_init_48 : decode b_SE_init 48 = .ok (.putfield 32, 3) := by decide +kernel
theorem d_SE_init_51 : decode b_SE_init 51 = .ok (.aload_n 0, 1) := by decide +kernel
theorem d_SE_init_52 : decode b_SE_init 52 = .ok (.sipush 192, 3) := by decide +kernel
theorem d_SE_init_55 : decode b_SE_init 55 = .ok (.newarray .int, 2) := by decide +kernel
theorem d_SE_init_57 : decode b_SE_init 57 = .ok (.putfield 36, 3) := by decide +kernel
theorem d_SE_init_60 : decode b_SE_init 60 = .ok (.aload_n 0, 1) := by decide +kernel
theorem d_SE_init_61 : decode b_SE_init 61 = .ok (.sipush 192, 3) := by decide +kernel
theorem d_SE_init_64 : decode b_SE_init 64 = .ok (.newarray .int, 2) := by decide +kernel
theorem d_SE_init_66 : decode b_SE_init 66 = .ok (.putfield 39, 3) := by decide +kernel
theorem d_SE_init_69 : decode b_SE_init 69 = .ok (.aload_n 0, 1) := by decide +kernel
theorem d_SE_init_70 : decode b_SE_init 70 = .ok (.sipush 192, 3) := by decide +kernel
theorem d_SE_init_73 : decode b_SE_init 73 = .ok (.newarray .long, 2) := by decide +kernel
theorem d_SE_init_75 : decode b_SE_init 75 = .ok (.putfield 42, 3) := by decide +kernel
theorem d_SE_init_78 : decode b_SE_init 78 = .ok (.aload_n 0, 1) := by decide +kernel
theorem d_SE_init_79 : decode b_SE_init 79 = .ok (.iconst 0, 1) := by decide +kernel
theorem d_SE_init_80 : decode b_SE_init 80 = .ok (.putfield 46, 3) := by decide +kernel
theorem d_SE_init_83 : decode b_SE_init 83 = .ok (.aload_n 0, 1) := by decide +kernel
theorem d_SE_init_84 : decode b_SE_init 84 = .ok (.bipush 48, 2) := by decide +kernel
theorem d_SE_init_86 : decode b_SE_init 86 = .ok (.newarray .long, 2) := by decide +kernel
theorem d_SE_init_88 : decode b_SE_init 88 = .ok (.putfield 50, 3) := by decide +kernel
theorem d_SE_init_91 : decode b_SE_init 91 = .ok (.aload_n 0, 1) := by decide +kernel
theorem d_SE_init_92 : decode b_SE_init 92 = .ok (.bipush 48, 2) := by decide +kernel
theorem d_SE_init_94 : decode b_SE_init 94 = .ok (.newarray .int, 2) := by decide +kernel
theorem d_SE_init_96 : decode b_SE_init 96 = .ok (.putfield 53, 3) := by decide +kernel
theorem d_SE_init_99 : decode b_SE_init 99 = .ok (.aload_n 0, 1) := by decide +kernel
theorem d_SE_init_100 : decode b_SE_init 100 = .ok (.bipush 48, 2) := by decide +kernel
theorem d_SE_init_102 : decode b_SE_init 102 = .ok (.newarray .int, 2) := by decide +kernel
theorem d_SE_init_104 : decode b_SE_init 104 = .ok (.putfield 56, 3) := by decide +kernel
theorem d_SE_init_107 : decode b_SE_init 107 = .ok (.return_, 1) := by decide +kernel
theorem d_TH_init_0 : decode b_TH_init 0 = .ok (.aload_n 0, 1) := by decide +kernel
theorem d_TH_init_1 : decode b_TH_init 1 = .ok (.invokespecial 3, 3) := by decide +kernel
theorem d_TH_init_4 : decode b_TH_init 4 = .ok (.aload_n 0, 1) := by decide +kernel
theorem d_TH_init_5 : decode b_TH_init 5 = .ok (.bipush 48, 2) := by decide +kernel
theorem d_TH_init_7 : decode b_TH_init 7 = .ok (.newarray .int, 2) := by decide +kernel
theorem d_TH_init_9 : decode b_TH_init 9 = .ok (.putfield 9, 3) := by decide +kernel
theorem d_TH_init_12 : decode b_TH_init 12 = .ok (.aload_n 0, 1) := by decide +kernel
theorem d_TH_init_13 : decode b_TH_init 13 = .ok (.bipush 48, 2) := by decide +kernel
theorem d_TH_init_15 : decode b_TH_init 15 = .ok (.newarray .boolean, 2) := by decide +kernel
theorem d_TH_init_17 : decode b_TH_init 17 = .ok (.putfield 15, 3) := by decide +kernel
theorem d_TH_init_20 : decode b_TH_init 20 = .ok (.aload_n 0, 1) := by decide +kernel
theorem d_TH_init_21 : decode b_TH_init 21 = .ok (.bipush 48, 2) := by decide +kernel
theorem d_TH_init_23 : decode b_TH_init 23 = .ok (.newarray .boolean, 2) := by decide +kernel
theorem d_TH_init_25 : decode b_TH_init 25 = .ok (.putfield 19, 3) := by decide +kernel
theorem d_TH_init_28 : decode b_TH_init 28 = .ok (.aload_n 0, 1) := by decide +kernel
theorem d_TH_init_29 : decode b_TH_init 29 = .ok (.bipush 48, 2) := by decide +kernel
theorem d_TH_init_31 : decode b_TH_init 31 = .ok (.newarray .int, 2) := by decide +kernel
theorem d_TH_init_33 : decode b_TH_init 33 = .ok (.putfield 22, 3) := by decide +kernel
theorem d_TH_init_36 : decode b_TH_init 36 = .ok (.aload_n 0, 1) := by decide +kernel
theorem d_TH_init_37 : decode b_TH_init 37 = .ok (.bipush 48, 2) := by decide +kernel
theorem d_TH_init_39 : decode b_TH_init 39 = .ok (.newarray .int, 2) := by decide +kernel
theorem d_TH_init_41 : decode b_TH_init 41 = .ok (.putfield 25, 3) := by decide +kernel
theorem d_TH_init_44 : decode b_TH_init 44 = .ok (.aload_n 0, 1) := by decide +kernel
theorem d_TH_init_45 : decode b_TH_init 45 = .ok (.iconst 0, 1) := by decide +kernel
theorem d_TH_init_46 : decode b_TH_init 46 = .ok (.putfield 28, 3) := by decide +kernel
theorem d_TH_init_49 : decode b_TH_init 49 = .ok (.return_, 1) := by decide +kernel
theorem d_PI_init_0 : decode b_PI_init 0 = .ok (.aload_n 0, 1) := by decide +kernel
theorem d_PI_init_1 : decode b_PI_init 1 = .ok (.invokespecial 3, 3) := by decide +kernel
theorem d_PI_init_4 : decode b_PI_init 4 = .ok (.aload_n 0, 1) := by decide +kernel
theorem d_PI_init_5 : decode b_PI_init 5 = .ok (.bipush 96, 2) := by decide +kernel
theorem d_PI_init_7 : decode b_PI_init 7 = .ok (.newarray .int, 2) := by decide +kernel
theorem d_PI_init_9 : decode b_PI_init 9 = .ok (.putfield 9, 3) := by decide +kernel
theorem d_PI_init_12 : decode b_PI_init 12 = .ok (.aload_n 0, 1) := by decide +kernel
theorem d_PI_init_13 : decode b_PI_init 13 = .ok (.bipush 96, 2) := by decide +kernel
theorem d_PI_init_15 : decode b_PI_init 15 = .ok (.newarray .int, 2) := by decide +kernel
theorem d_PI_init_17 : decode b_PI_init 17 = .ok (.putfield 15, 3) := by decide +kernel
theorem d_PI_init_20 : decode b_PI_init 20 = .ok (.aload_n 0, 1) := by decide +kernel
theorem d_PI_init_21 : decode b_PI_init 21 = .ok (.bipush 96, 2) := by decide +kernel
theorem d_PI_init_23 : decode b_PI_init 23 = .ok (.newarray .long, 2) := by decide +kernel
theorem d_PI_init_25 : decode b_PI_init 25 = .ok (.putfield 18, 3) := by decide +kernel
theorem d_PI_init_28 : decode b_PI_init 28 = .ok (.aload_n 0, 1) := by decide +kernel
theorem d_PI_init_29 : decode b_PI_init 29 = .ok (.bipush 96, 2) := by decide +kernel
theorem d_PI_init_31 : decode b_PI_init 31 = .ok (.newarray .boolean, 2) := by decide +kernel
theorem d_PI_init_33 : decode b_PI_init 33 = .ok (.putfield 22, 3) := by decide +kernel
theorem d_PI_init_36 : decode b_PI_init 36 = .ok (.aload_n 0, 1) := by decide +kernel
theorem d_PI_init_37 : decode b_PI_init 37 = .ok (.iconst 0, 1) := by decide +kernel
theorem d_PI_init_38 : decode b_PI_init 38 = .ok (.putfield 26, 3) := by decide +kernel
theorem d_PI_init_41 : decode b_PI_init 41 = .ok (.return_, 1) := by decide +kernel
theorem d_WS_tank_0 : decode b_WS_tank 0 = .ok (.aload_n 0, 1) := by decide +kernel
theorem d_WS_tank_1 : decode b_WS_tank 1 = .ok (.getfield 20, 3) := by decide +kernel
theorem d_WS_tank_4 : decode b_WS_tank 4 = .ok (.iconst 0, 1) := by decide +kernel
theorem d_WS_tank_5 : decode b_WS_tank 5 = .ok (.iload_n 1, 1) := by decide +kernel
theorem d_WS_tank_6 : decode b_WS_tank 6 = .ok (.invokevirtual 36, 3) := by decide +kernel
theorem d_WS_tank_9 : decode b_WS_tank 9 = .ok (.ireturn, 1) := by decide +kernel
theorem d_TH_add_0 : decode b_TH_add 0 = .ok (.aload_n 0, 1) := by decide +kernel
theorem d_TH_add_1 : decode b_TH_add 1 = .ok (.getfield 28, 3) := by decide +kernel
theorem d_TH_add_4 : decode b_TH_add 4 = .ok (.bipush 48, 2) := by decide +kernel
theorem d_TH_add_6 : decode b_TH_add 6 = .ok (.if_icmp .lt 6, 3) := by decide +kernel
theorem d_TH_add_9 : decode b_TH_add 9 = .ok (.bipush (-5), 2) := by decide +kernel
theorem d_TH_add_11 : decode b_TH_add 11 = .ok (.ireturn, 1) := by decide +kernel
theorem d_TH_add_12 : decode b_TH_add 12 = .ok (.aload_n 0, 1) := by decide +kernel
theorem d_TH_add_13 : decode b_TH_add 13 = .ok (.getfield 9, 3) := by decide +kernel
theorem d_TH_add_16 : decode b_TH_add 16 = .ok (.aload_n 0, 1) := by decide +kernel
theorem d_TH_add_17 : decode b_TH_add 17 = .ok (.getfield 28, 3) := by decide +kernel
theorem d_TH_add_20 : decode b_TH_add 20 = .ok (.iload_n 1, 1) := by decide +kernel
theorem d_TH_add_21 : decode b_TH_add 21 = .ok (.iastore, 1) := by decide +kernel
theorem d_TH_add_22 : decode b_TH_add 22 = .ok (.aload_n 0, 1) := by decide +kernel
theorem d_TH_add_23 : decode b_TH_add 23 = .ok (.getfield 15, 3) := by decide +kernel
theorem d_TH_add_26 : decode b_TH_add 26 = .ok (.aload_n 0, 1) := by decide +kernel
theorem d_TH_add_27 : decode b_TH_add 27 = .ok (.getfield 28, 3) := by decide +kernel
theorem d_TH_add_30 : decode b_TH_add 30 = .ok (.iload_n 2, 1) := by decide +kernel
theorem d_TH_add_31 : decode b_TH_add 31 = .ok (.bastore, 1) := by decide +kernel
theorem d_TH_add_32 : decode b_TH_add 32 = .ok (.aload_n 0, 1) := by decide +kernel
theorem d_TH_add_33 : decode b_TH_add 33 = .ok (.getfield 22, 3) := by decide +kernel
theorem d_TH_add_36 : decode b_TH_add 36 = .ok (.aload_n 0, 1) := by decide +kernel
theorem d_TH_add_37 : decode b_TH_add 37 = .ok (.getfield 28, 3) := by decide +kernel
theorem d_TH_add_40 : decode b_TH_add 40 = .ok (.iconst (-1), 1) := by decide +kernel
theorem d_TH_add_41 : decode b_TH_add 41 = .ok (.iastore, 1) := by decide +kernel
theorem d_TH_add_42 : decode b_TH_add 42 = .ok (.aload_n 0, 1) := by decide +kernel
theorem d_TH_add_43 : decode b_TH_add 43 = .ok (.getfield 25, 3) := by decide +kernel
theorem d_TH_add_46 : decode b_TH_add 46 = .ok (.aload_n 0, 1) := by decide +kernel
theorem d_TH_add_47 : decode b_TH_add 47 = .ok (.getfield 28, 3) := by decide +kernel
theorem d_TH_add_50 : decode b_TH_add 50 = .ok (.iconst (-1), 1) := by decide +kernel
theorem d_TH_add_51 : decode b_TH_add 51 = .ok (.iastore, 1) := by decide +kernel
theorem d_TH_add_52 : decode b_TH_add 52 = .ok (.aload_n 0, 1) := by decide +kernel
theorem d_TH_add_53 : decode b_TH_add 53 = .ok (.dup, 1) := by decide +kernel
theorem d_TH_add_54 : decode b_TH_add 54 = .ok (.getfield 28, 3) := by decide +kernel
theorem d_TH_add_57 : decode b_TH_add 57 = .ok (.iconst 1, 1) := by decide +kernel
theorem d_TH_add_58 : decode b_TH_add 58 = .ok (.iadd, 1) := by decide +kernel
theorem d_TH_add_59 : decode b_TH_add 59 = .ok (.putfield 28, 3) := by decide +kernel
theorem d_TH_add_62 : decode b_TH_add 62 = .ok (.aload_n 0, 1) := by decide +kernel
theorem d_TH_add_63 : decode b_TH_add 63 = .ok (.getfield 28, 3) := by decide +kernel
theorem d_TH_add_66 : decode b_TH_add 66 = .ok (.iconst 1, 1) := by decide +kernel
theorem d_TH_add_67 : decode b_TH_add 67 = .ok (.isub, 1) := by decide +kernel
theorem d_TH_add_68 : decode b_TH_add 68 = .ok (.ireturn, 1) := by decide +kernel
theorem d_WS_pump_0 : decode b_WS_pump 0 = .ok (.aload_n 0, 1) := by decide +kernel
theorem d_WS_pump_1 : decode b_WS_pump 1 = .ok (.getfield 20, 3) := by decide +kernel
theorem d_WS_pump_4 : decode b_WS_pump 4 = .ok (.iconst 1, 1) := by decide +kernel
theorem d_WS_pump_5 : decode b_WS_pump 5 = .ok (.iconst 0, 1) := by decide +kernel
theorem d_WS_pump_6 : decode b_WS_pump 6 = .ok (.invokevirtual 36, 3) := by decide +kernel
theorem d_WS_pump_9 : decode b_WS_pump 9 = .ok (.ireturn, 1) := by decide +kernel
theorem d_WS_valve_0 : decode b_WS_valve 0 = .ok (.aload_n 0, 1) := by decide +kernel
theorem d_WS_valve_1 : decode b_WS_valve 1 = .ok (.getfield 20, 3) := by decide +kernel
theorem d_WS_valve_4 : decode b_WS_valve 4 = .ok (.iconst 2, 1) := by decide +kernel
theorem d_WS_valve_5 : decode b_WS_valve 5 = .ok (.iconst 0, 1) := by decide +kernel
theorem d_WS_valve_6 : decode b_WS_valve 6 = .ok (.invokevirtual 36, 3) := by decide +kernel
theorem d_WS_valve_9 : decode b_WS_valve 9 = .ok (.ireturn, 1) := by decide +kernel
theorem d_WS_pipe_0 : decode b_WS_pipe 0 = .ok (.aload_n 0, 1) := by decide +kernel
theorem d_WS_pipe_1 : decode b_WS_pipe 1 = .ok (.getfield 20, 3) := by decide +kernel
theorem d_WS_pipe_4 : decode b_WS_pipe 4 = .ok (.iload_n 1, 1) := by decide +kernel
theorem d_WS_pipe_5 : decode b_WS_pipe 5 = .ok (.invokevirtual 42, 3) := by decide +kernel
theorem d_WS_pipe_8 : decode b_WS_pipe 8 = .ok (.ifCond .eq 14, 3) := by decide +kernel
theorem d_WS_pipe_11 : decode b_WS_pipe 11 = .ok (.aload_n 0, 1) := by decide +kernel
theorem d_WS_pipe_12 : decode b_WS_pipe 12 = .ok (.getfield 20, 3) := by decide +kernel
theorem d_WS_pipe_15 : decode b_WS_pipe 15 = .ok (.iload_n 2, 1) := by decide +kernel
theorem d_WS_pipe_16 : decode b_WS_pipe 16 = .ok (.invokevirtual 42, 3) := by decide +kernel
theorem d_WS_pipe_19 : decode b_WS_pipe 19 = .ok (.ifCond .ne 6, 3) := by decide +kernel
theorem d_WS_pipe_22 : decode b_WS_pipe 22 = .ok (.bipush (-2), 2) := by decide +kernel
theorem d_WS_pipe_24 : decode b_WS_pipe 24 = .ok (.ireturn, 1) := by decide +kernel
theorem d_WS_pipe_25 : decode b_WS_pipe 25 = .ok (.lload_n 3, 1) := by decide +kernel
theorem d_WS_pipe_26 : decode b_WS_pipe 26 = .ok (.lconst 1, 1) := by decide +kernel
theorem d_WS_pipe_27 : decode b_WS_pipe 27 = .ok (.lcmp, 1) := by decide +kernel
theorem d_WS_pipe_28 : decode b_WS_pipe 28 = .ok (.ifCond .lt 16, 3) := by decide +kernel
theorem d_WS_pipe_31 : decode b_WS_pipe 31 = .ok (.lload_n 3, 1) := by decide +kernel
theorem d_WS_pipe_32 : decode b_WS_pipe 32 = .ok (.ldc2_w 46, 3) := by decide +kernel
theorem d_WS_pipe_35 : decode b_WS_pipe 35 = .ok (.lcmp, 1) := by decide +kernel
theorem d_WS_pipe_36 : decode b_WS_pipe 36 = .ok (.ifCond .gt 8, 3) := by decide +kernel
theorem d_WS_pipe_39 : decode b_WS_pipe 39 = .ok (.iload_n 1, 1) := by decide +kernel
theorem d_WS_pipe_40 : decode b_WS_pipe 40 = .ok (.iload_n 2, 1) := by decide +kernel
theorem d_WS_pipe_41 : decode b_WS_pipe 41 = .ok (.if_icmp .ne 5, 3) := by decide +kernel
theorem d_WS_pipe_44 : decode b_WS_pipe 44 = .ok (.iconst (-1), 1) := by decide +kernel
theorem d_WS_pipe_45 : decode b_WS_pipe 45 = .ok (.ireturn, 1) := by decide +kernel
theorem d_WS_pipe_46 : decode b_WS_pipe 46 = .ok (.aload_n 0, 1) := by decide +kernel
theorem d_WS_pipe_47 : decode b_WS_pipe 47 = .ok (.getfield 25, 3) := by decide +kernel
theorem d_WS_pipe_50 : decode b_WS_pipe 50 = .ok (.iload_n 1, 1) := by decide +kernel
theorem d_WS_pipe_51 : decode b_WS_pipe 51 = .ok (.iload_n 2, 1) := by decide +kernel
theorem d_WS_pipe_52 : decode b_WS_pipe 52 = .ok (.lload_n 3, 1) := by decide +kernel
theorem d_WS_pipe_53 : decode b_WS_pipe 53 = .ok (.invokevirtual 48, 3) := by decide +kernel
theorem d_WS_pipe_56 : decode b_WS_pipe 56 = .ok (.ireturn, 1) := by decide +kernel
theorem d_TH_has_0 : decode b_TH_has 0 = .ok (.iload_n 1, 1) := by decide +kernel
theorem d_TH_has_1 : decode b_TH_has 1 = .ok (.ifCond .lt 15, 3) := by decide +kernel
theorem d_TH_has_4 : decode b_TH_has 4 = .ok (.iload_n 1, 1) := by decide +kernel
theorem d_TH_has_5 : decode b_TH_has 5 = .ok (.aload_n 0, 1) := by decide +kernel
theorem d_TH_has_6 : decode b_TH_has 6 = .ok (.getfield 28, 3) := by decide +kernel
theorem d_TH_has_9 : decode b_TH_has 9 = .ok (.if_icmp .ge 7, 3) := by decide +kernel
theorem d_TH_has_12 : decode b_TH_has 12 = .ok (.iconst 1, 1) := by decide +kernel
theorem d_TH_has_13 : decode b_TH_has 13 = .ok (.goto 4, 3) := by decide +kernel
theorem d_TH_has_16 : decode b_TH_has 16 = .ok (.iconst 0, 1) := by decide +kernel
theorem d_TH_has_17 : decode b_TH_has 17 = .ok (.ireturn, 1) := by decide +kernel
theorem d_PI_add_0 : decode b_PI_add 0 = .ok (.aload_n 0, 1) := by decide +kernel
theorem d_PI_add_1 : decode b_PI_add 1 = .ok (.getfield 26, 3) := by decide +kernel
theorem d_PI_add_4 : decode b_PI_add 4 = .ok (.bipush 96, 2) := by decide +kernel
theorem d_PI_add_6 : decode b_PI_add 6 = .ok (.if_icmp .lt 6, 3) := by decide +kernel
theorem d_PI_add_9 : decode b_PI_add 9 = .ok (.bipush (-5), 2) := by decide +kernel
theorem d_PI_add_11 : decode b_PI_add 11 = .ok (.ireturn, 1) := by decide +kernel
theorem d_PI_add_12 : decode b_PI_add 12 = .ok (.aload_n 0, 1) := by decide +kernel
theorem d_PI_add_13 : decode b_PI_add 13 = .ok (.getfield 9, 3) := by decide +kernel
theorem d_PI_add_16 : decode b_PI_add 16 = .ok (.aload_n 0, 1) := by decide +kernel
theorem d_PI_add_17 : decode b_PI_add 17 = .ok (.getfield 26, 3) := by decide +kernel
theorem d_PI_add_20 : decode b_PI_add 20 = .ok (.iload_n 1, 1) := by decide +kernel
theorem d_PI_add_21 : decode b_PI_add 21 = .ok (.iastore, 1) := by decide +kernel
theorem d_PI_add_22 : decode b_PI_add 22 = .ok (.aload_n 0, 1) := by decide +kernel
theorem d_PI_add_23 : decode b_PI_add 23 = .ok (.getfield 15, 3) := by decide +kernel
theorem d_PI_add_26 : decode b_PI_add 26 = .ok (.aload_n 0, 1) := by decide +kernel
theorem d_PI_add_27 : decode b_PI_add 27 = .ok (.getfield 26, 3) := by decide +kernel
theorem d_PI_add_30 : decode b_PI_add 30 = .ok (.iload_n 2, 1) := by decide +kernel
theorem d_PI_add_31 : decode b_PI_add 31 = .ok (.iastore, 1) := by decide +kernel
theorem d_PI_add_32 : decode b_PI_add 32 = .ok (.aload_n 0, 1) := by decide +kernel
theorem d_PI_add_33 : decode b_PI_add 33 = .ok (.getfield 18, 3) := by decide +kernel
theorem d_PI_add_36 : decode b_PI_add 36 = .ok (.aload_n 0, 1) := by decide +kernel
theorem d_PI_add_37 : decode b_PI_add 37 = .ok (.getfield 26, 3) := by decide +kernel
theorem d_PI_add_40 : decode b_PI_add 40 = .ok (.lload_n 3, 1) := by decide +kernel
theorem d_PI_add_41 : decode b_PI_add 41 = .ok (.lastore, 1) := by decide +kernel
theorem d_PI_add_42 : decode b_PI_add 42 = .ok (.aload_n 0, 1) := by decide +kernel
theorem d_PI_add_43 : decode b_PI_add 43 = .ok (.dup, 1) := by decide +kernel
theorem d_PI_add_44 : decode b_PI_add 44 = .ok (.getfield 26, 3) := by decide +kernel
theorem d_PI_add_47 : decode b_PI_add 47 = .ok (.iconst 1, 1) := by decide +kernel
theorem d_PI_add_48 : decode b_PI_add 48 = .ok (.iadd, 1) := by decide +kernel
theorem d_PI_add_49 : decode b_PI_add 49 = .ok (.putfield 26, 3) := by decide +kernel
theorem d_PI_add_52 : decode b_PI_add 52 = .ok (.aload_n 0, 1) := by decide +kernel
theorem d_PI_add_53 : decode b_PI_add 53 = .ok (.getfield 26, 3) := by decide +kernel
theorem d_PI_add_56 : decode b_PI_add 56 = .ok (.iconst 1, 1) := by decide +kernel
theorem d_PI_add_57 : decode b_PI_add 57 = .ok (.isub, 1) := by decide +kernel
theorem d_PI_add_58 : decode b_PI_add 58 = .ok (.ireturn, 1) := by decide +kernel
theorem d_WS_run_0 : decode b_WS_run 0 = .ok (.aload_n 0, 1) := by decide +kernel
theorem d_WS_run_1 : decode b_WS_run 1 = .ok (.getfield 25, 3) := by decide +kernel
theorem d_WS_run_4 : decode b_WS_run 4 = .ok (.iload_n 1, 1) := by decide +kernel
theorem d_WS_run_5 : decode b_WS_run 5 = .ok (.invokevirtual 53, 3) := by decide +kernel
theorem d_WS_run_8 : decode b_WS_run 8 = .ok (.ifCond .ne 5, 3) := by decide +kernel
theorem d_WS_run_11 : decode b_WS_run 11 = .ok (.iconst 0, 1) := by decide +kernel
theorem d_WS_run_12 : decode b_WS_run 12 = .ok (.ireturn, 1) := by decide +kernel
theorem d_WS_run_13 : decode b_WS_run 13 = .ok (.aload_n 0, 1) := by decide +kernel
theorem d_WS_run_14 : decode b_WS_run 14 = .ok (.getfield 25, 3) := by decide +kernel
theorem d_WS_run_17 : decode b_WS_run 17 = .ok (.getfield 54, 3) := by decide +kernel
theorem d_WS_run_20 : decode b_WS_run 20 = .ok (.iload_n 1, 1) := by decide +kernel
theorem d_WS_run_21 : decode b_WS_run 21 = .ok (.iload_n 2, 1) := by decide +kernel
theorem d_WS_run_22 : decode b_WS_run 22 = .ok (.invokestatic 58, 3) := by decide +kernel
theorem d_WS_run_25 : decode b_WS_run 25 = .ok (.ireturn, 1) := by decide +kernel
theorem d_PI_has_0 : decode b_PI_has 0 = .ok (.iload_n 1, 1) := by decide +kernel
theorem d_PI_has_1 : decode b_PI_has 1 = .ok (.ifCond .lt 15, 3) := by decide +kernel
theorem d_PI_has_4 : decode b_PI_has 4 = .ok (.iload_n 1, 1) := by decide +kernel
theorem d_PI_has_5 : decode b_PI_has 5 = .ok (.aload_n 0, 1) := by decide +kernel
theorem d_PI_has_6 : decode b_PI_has 6 = .ok (.getfield 26, 3) := by decide +kernel
theorem d_PI_has_9 : decode b_PI_has 9 = .ok (.if_icmp .ge 7, 3) := by decide +kernel
theorem d_PI_has_12 : decode b_PI_has 12 = .ok (.iconst 1, 1) := by decide +kernel
theorem d_PI_has_13 : decode b_PI_has 13 = .ok (.goto 4, 3) := by decide +kernel
theorem d_PI_has_16 : decode b_PI_has 16 = .ok (.iconst 0, 1) := by decide +kernel
theorem d_PI_has_17 : decode b_PI_has 17 = .ok (.ireturn, 1) := by decide +kernel
theorem d_WS_changeMark_0 : decode b_WS_changeMark 0 = .ok (.aload_n 0, 1) := by decide +kernel
theorem d_WS_changeMark_1 : decode b_WS_changeMark 1 = .ok (.iload_n 1, 1) := by decide +kernel
theorem d_WS_changeMark_2 : decode b_WS_changeMark 2 = .ok (.baload, 1) := by decide +kernel
theorem d_WS_changeMark_3 : decode b_WS_changeMark 3 = .ok (.iload_n 2, 1) := by decide +kernel
theorem d_WS_changeMark_4 : decode b_WS_changeMark 4 = .ok (.if_icmp .eq 7, 3) := by decide +kernel
theorem d_WS_changeMark_7 : decode b_WS_changeMark 7 = .ok (.iconst 1, 1) := by decide +kernel
theorem d_WS_changeMark_8 : decode b_WS_changeMark 8 = .ok (.goto 4, 3) := by decide +kernel
theorem d_WS_changeMark_11 : decode b_WS_changeMark 11 = .ok (.iconst 0, 1) := by decide +kernel
theorem d_WS_changeMark_12 : decode b_WS_changeMark 12 = .ok (.istore_n 3, 1) := by decide +kernel
theorem d_WS_changeMark_13 : decode b_WS_changeMark 13 = .ok (.aload_n 0, 1) := by decide +kernel
theorem d_WS_changeMark_14 : decode b_WS_changeMark 14 = .ok (.iload_n 1, 1) := by decide +kernel
theorem d_WS_changeMark_15 : decode b_WS_changeMark 15 = .ok (.iload_n 2, 1) := by decide +kernel
theorem d_WS_changeMark_16 : decode b_WS_changeMark 16 = .ok (.bastore, 1) := by decide +kernel
theorem d_WS_changeMark_17 : decode b_WS_changeMark 17 = .ok (.iload_n 3, 1) := by decide +kernel
theorem d_WS_changeMark_18 : decode b_WS_changeMark 18 = .ok (.ireturn, 1) := by decide +kernel
theorem d_WS_bar_0 : decode b_WS_bar 0 = .ok (.aload_n 0, 1) := by decide +kernel
theorem d_WS_bar_1 : decode b_WS_bar 1 = .ok (.getfield 20, 3) := by decide +kernel
theorem d_WS_bar_4 : decode b_WS_bar 4 = .ok (.iload_n 1, 1) := by decide +kernel
theorem d_WS_bar_5 : decode b_WS_bar 5 = .ok (.invokevirtual 42, 3) := by decide +kernel
theorem d_WS_bar_8 : decode b_WS_bar 8 = .ok (.ifCond .ne 5, 3) := by decide +kernel
theorem d_WS_bar_11 : decode b_WS_bar 11 = .ok (.iconst 0, 1) := by decide +kernel
theorem d_WS_bar_12 : decode b_WS_bar 12 = .ok (.ireturn, 1) := by decide +kernel
theorem d_WS_bar_13 : decode b_WS_bar 13 = .ok (.aload_n 0, 1) := by decide +kernel
theorem d_WS_bar_14 : decode b_WS_bar 14 = .ok (.getfield 20, 3) := by decide +kernel
theorem d_WS_bar_17 : decode b_WS_bar 17 = .ok (.getfield 62, 3) := by decide +kernel
theorem d_WS_bar_20 : decode b_WS_bar 20 = .ok (.iload_n 1, 1) := by decide +kernel
theorem d_WS_bar_21 : decode b_WS_bar 21 = .ok (.iload_n 2, 1) := by decide +kernel
theorem d_WS_bar_22 : decode b_WS_bar 22 = .ok (.invokestatic 58, 3) := by decide +kernel
theorem d_WS_bar_25 : decode b_WS_bar 25 = .ok (.ireturn, 1) := by decide +kernel
theorem d_WS_way_0 : decode b_WS_way 0 = .ok (.aload_n 0, 1) := by decide +kernel
theorem d_WS_way_1 : decode b_WS_way 1 = .ok (.iload_n 1, 1) := by decide +kernel
theorem d_WS_way_2 : decode b_WS_way 2 = .ok (.iload_n 2, 1) := by decide +kernel
theorem d_WS_way_3 : decode b_WS_way 3 = .ok (.invokevirtual 65, 3) := by decide +kernel
theorem d_WS_way_6 : decode b_WS_way 6 = .ok (.istore_n 3, 1) := by decide +kernel
theorem d_WS_way_7 : decode b_WS_way 7 = .ok (.iload_n 3, 1) := by decide +kernel
theorem d_WS_way_8 : decode b_WS_way 8 = .ok (.ifCond .eq 5, 3) := by decide +kernel
theorem d_WS_way_11 : decode b_WS_way 11 = .ok (.iload_n 3, 1) := by decide +kernel
theorem d_WS_way_12 : decode b_WS_way 12 = .ok (.ireturn, 1) := by decide +kernel
theorem d_WS_way_13 : decode b_WS_way 13 = .ok (.aload_n 0, 1) := by decide +kernel
theorem d_WS_way_14 : decode b_WS_way 14 = .ok (.getfield 10, 3) := by decide +kernel
theorem d_WS_way_17 : decode b_WS_way 17 = .ok (.invokevirtual 69, 3) := by decide +kernel
theorem d_WS_way_20 : decode b_WS_way 20 = .ok (.aload_n 0, 1) := by decide +kernel
theorem d_WS_way_21 : decode b_WS_way 21 = .ok (.aload_n 0, 1) := by decide +kernel
theorem d_WS_way_22 : decode b_WS_way 22 = .ok (.getfield 10, 3) := by decide +kernel
theorem d_WS_way_25 : decode b_WS_way 25 = .ok (.iload_n 1, 1) := by decide +kernel
theorem d_WS_way_26 : decode b_WS_way 26 = .ok (.iload_n 2, 1) := by decide +kernel
theorem d_WS_way_27 : decode b_WS_way 27 = .ok (.invokevirtual 72, 3) := by decide +kernel
theorem d_WS_way_30 : decode b_WS_way 30 = .ok (.invokevirtual 76, 3) := by decide +kernel
theorem d_WS_way_33 : decode b_WS_way 33 = .ok (.ireturn, 1) := by decide +kernel
theorem d_WS_refusalOfEnds_0 : decode b_WS_refusalOfEnds 0 = .ok (.aload_n 0, 1) := by decide +kernel
theorem d_WS_refusalOfEnds_1 : decode b_WS_refusalOfEnds 1 = .ok (.getfield 20, 3) := by decide +kernel
theorem d_WS_refusalOfEnds_4 : decode b_WS_refusalOfEnds 4 = .ok (.iload_n 1, 1) := by decide +kernel
theorem d_WS_refusalOfEnds_5 : decode b_WS_refusalOfEnds 5 = .ok (.iconst 0, 1) := by decide +kernel
theorem d_WS_refusalOfEnds_6 : decode b_WS_refusalOfEnds 6 = .ok (.invokevirtual 91, 3) := by decide +kernel
theorem d_WS_refusalOfEnds_9 : decode b_WS_refusalOfEnds 9 = .ok (.ifCond .eq 15, 3) := by decide +kernel
theorem d_WS_refusalOfEnds_12 : decode b_WS_refusalOfEnds 12 = .ok (.aload_n 0, 1) := by decide +kernel
theorem d_WS_refusalOfEnds_13 : decode b_WS_refusalOfEnds 13 = .ok (.getfield 20, 3) := by decide +kernel
theorem d_WS_refusalOfEnds_16 : decode b_WS_refusalOfEnds 16 = .ok (.iload_n 2, 1) := by decide +kernel
theorem d_WS_refusalOfEnds_17 : decode b_WS_refusalOfEnds 17 = .ok (.iconst 0, 1) := by decide +kernel
theorem d_WS_refusalOfEnds_18 : decode b_WS_refusalOfEnds 18 = .ok (.invokevirtual 91, 3) := by decide +kernel
theorem d_WS_refusalOfEnds_21 : decode b_WS_refusalOfEnds 21 = .ok (.ifCond .ne 6, 3) := by decide +kernel
theorem d_WS_refusalOfEnds_24 : decode b_WS_refusalOfEnds 24 = .ok (.bipush (-2), 2) := by decide +kernel
theorem d_WS_refusalOfEnds_26 : decode b_WS_refusalOfEnds 26 = .ok (.ireturn, 1) := by decide +kernel
theorem d_WS_refusalOfEnds_27 : decode b_WS_refusalOfEnds 27 = .ok (.iload_n 1, 1) := by decide +kernel
theorem d_WS_refusalOfEnds_28 : decode b_WS_refusalOfEnds 28 = .ok (.iload_n 2, 1) := by decide +kernel
theorem d_WS_refusalOfEnds_29 : decode b_WS_refusalOfEnds 29 = .ok (.if_icmp .ne 6, 3) := by decide +kernel
theorem d_WS_refusalOfEnds_32 : decode b_WS_refusalOfEnds 32 = .ok (.bipush (-3), 2) := by decide +kernel
theorem d_WS_refusalOfEnds_34 : decode b_WS_refusalOfEnds 34 = .ok (.ireturn, 1) := by decide +kernel
theorem d_WS_refusalOfEnds_35 : decode b_WS_refusalOfEnds 35 = .ok (.aload_n 0, 1) := by decide +kernel
theorem d_WS_refusalOfEnds_36 : decode b_WS_refusalOfEnds 36 = .ok (.getfield 20, 3) := by decide +kernel
theorem d_WS_refusalOfEnds_39 : decode b_WS_refusalOfEnds 39 = .ok (.getfield 132, 3) := by decide +kernel
theorem d_WS_refusalOfEnds_42 : decode b_WS_refusalOfEnds 42 = .ok (.iload_n 1, 1) := by decide +kernel
theorem d_WS_refusalOfEnds_43 : decode b_WS_refusalOfEnds 43 = .ok (.baload, 1) := by decide +kernel
theorem d_WS_refusalOfEnds_44 : decode b_WS_refusalOfEnds 44 = .ok (.ifCond .eq 8, 3) := by decide +kernel
theorem d_WS_refusalOfEnds_47 : decode b_WS_refusalOfEnds 47 = .ok (.bipush (-4), 2) := by decide +kernel
theorem d_WS_refusalOfEnds_49 : decode b_WS_refusalOfEnds 49 = .ok (.goto 4, 3) := by decide +kernel
theorem d_WS_refusalOfEnds_52 : decode b_WS_refusalOfEnds 52 = .ok (.iconst 0, 1) := by decide +kernel
theorem d_WS_refusalOfEnds_53 : decode b_WS_refusalOfEnds 53 = .ok (.ireturn, 1) := by decide +kernel
theorem d_TH_isKind_0 : decode b_TH_isKind 0 = .ok (.aload_n 0, 1) := by decide +kernel
theorem d_TH_isKind_1 : decode b_TH_isKind 1 = .ok (.iload_n 1, 1) := by decide +kernel
theorem d_TH_isKind_2 : decode b_TH_isKind 2 = .ok (.invokevirtual 32, 3) := by decide +kernel
theorem d_TH_isKind_5 : decode b_TH_isKind 5 = .ok (.ifCond .eq 17, 3) := by decide +kernel
theorem d_TH_isKind_8 : decode b_TH_isKind 8 = .ok (.aload_n 0, 1) := by decide +kernel
theorem d_TH_isKind_9 : decode b_TH_isKind 9 = .ok (.getfield 9, 3) := by decide +kernel
theorem d_TH_isKind_12 : decode b_TH_isKind 12 = .ok (.iload_n 1, 1) := by decide +kernel
theorem d_TH_isKind_13 : decode b_TH_isKind 13 = .ok (.iaload, 1) := by decide +kernel
theorem d_TH_isKind_14 : decode b_TH_isKind 14 = .ok (.iload_n 2, 1) := by decide +kernel
theorem d_TH_isKind_15 : decode b_TH_isKind 15 = .ok (.if_icmp .ne 7, 3) := by decide +kernel
theorem d_TH_isKind_18 : decode b_TH_isKind 18 = .ok (.iconst 1, 1) := by decide +kernel
theorem d_TH_isKind_19 : decode b_TH_isKind 19 = .ok (.goto 4, 3) := by decide +kernel
theorem d_TH_isKind_22 : decode b_TH_isKind 22 = .ok (.iconst 0, 1) := by decide +kernel
theorem d_TH_isKind_23 : decode b_TH_isKind 23 = .ok (.ireturn, 1) := by decide +kernel
theorem d_SE_openAll_0 : decode b_SE_openAll 0 = .ok (.iconst 0, 1) := by decide +kernel
theorem d_SE_openAll_1 : decode b_SE_openAll 1 = .ok (.istore_n 1, 1) := by decide +kernel
theorem d_SE_openAll_2 : decode b_SE_openAll 2 = .ok (.iload_n 1, 1) := by decide +kernel
theorem d_SE_openAll_3 : decode b_SE_openAll 3 = .ok (.aload_n 0, 1) := by decide +kernel
theorem d_SE_openAll_4 : decode b_SE_openAll 4 = .ok (.getfield 12, 3) := by decide +kernel
theorem d_SE_openAll_7 : decode b_SE_openAll 7 = .ok (.getfield 59, 3) := by decide +kernel
theorem d_SE_openAll_10 : decode b_SE_openAll 10 = .ok (.if_icmp .ge 24, 3) := by decide +kernel
theorem d_SE_openAll_13 : decode b_SE_openAll 13 = .ok (.aload_n 0, 1) := by decide +kernel
theorem d_SE_openAll_14 : decode b_SE_openAll 14 = .ok (.getfield 25, 3) := by decide +kernel
theorem d_SE_openAll_17 : decode b_SE_openAll 17 = .ok (.iload_n 1, 1) := by decide +kernel
theorem d_SE_openAll_18 : decode b_SE_openAll 18 = .ok (.aload_n 0, 1) := by decide +kernel
theorem d_SE_openAll_19 : decode b_SE_openAll 19 = .ok (.getfield 12, 3) := by decide +kernel
theorem d_SE_openAll_22 : decode b_SE_openAll 22 = .ok (.getfield 62, 3) := by decide +kernel
theorem d_SE_openAll_25 : decode b_SE_openAll 25 = .ok (.iload_n 1, 1) := by decide +kernel
theorem d_SE_openAll_26 : decode b_SE_openAll 26 = .ok (.baload, 1) := by decide +kernel
theorem d_SE_openAll_27 : decode b_SE_openAll 27 = .ok (.bastore, 1) := by decide +kernel
theorem d_SE_openAll_28 : decode b_SE_openAll 28 = .ok (.iinc 1 1, 3) := by decide +kernel
theorem d_SE_openAll_31 : decode b_SE_openAll 31 = .ok (.goto (-29), 3) := by decide +kernel
theorem d_SE_openAll_34 : decode b_SE_openAll 34 = .ok (.iconst 0, 1) := by decide +kernel
theorem d_SE_openAll_35 : decode b_SE_openAll 35 = .ok (.istore_n 1, 1) := by decide +kernel
theorem d_SE_openAll_36 : decode b_SE_openAll 36 = .ok (.iload_n 1, 1) := by decide +kernel
theorem d_SE_openAll_37 : decode b_SE_openAll 37 = .ok (.aload_n 0, 1) := by decide +kernel
theorem d_SE_openAll_38 : decode b_SE_openAll 38 = .ok (.getfield 21, 3) := by decide +kernel
theorem d_SE_openAll_41 : decode b_SE_openAll 41 = .ok (.getfield 65, 3) := by decide +kernel
theorem d_SE_openAll_44 : decode b_SE_openAll 44 = .ok (.if_icmp .ge 62, 3) := by decide +kernel
theorem d_SE_openAll_47 : decode b_SE_openAll 47 = .ok (.aload_n 0, 1) := by decide +kernel
theorem d_SE_openAll_48 : decode b_SE_openAll 48 = .ok (.getfield 29, 3) := by decide +kernel
theorem d_SE_openAll_51 : decode b_SE_openAll 51 = .ok (.iload_n 1, 1) := by decide +kernel
theorem d_SE_openAll_52 : decode b_SE_openAll 52 = .ok (.aload_n 0, 1) := by decide +kernel
theorem d_SE_openAll_53 : decode b_SE_openAll 53 = .ok (.getfield 21, 3) := by decide +kernel
theorem d_SE_openAll_56 : decode b_SE_openAll 56 = .ok (.getfield 66, 3) := by decide +kernel
theorem d_SE_openAll_59 : decode b_SE_openAll 59 = .ok (.iload_n 1, 1) := by decide +kernel
theorem d_SE_openAll_60 : decode b_SE_openAll 60 = .ok (.baload, 1) := by decide +kernel
theorem d_SE_openAll_61 : decode b_SE_openAll 61 = .ok (.bastore, 1) := by decide +kernel
theorem d_SE_openAll_62 : decode b_SE_openAll 62 = .ok (.aload_n 0, 1) := by decide +kernel
theorem d_SE_openAll_63 : decode b_SE_openAll 63 = .ok (.getfield 21, 3) := by decide +kernel
theorem d_SE_openAll_66 : decode b_SE_openAll 66 = .ok (.getfield 66, 3) := by decide +kernel
theorem d_SE_openAll_69 : decode b_SE_openAll 69 = .ok (.iload_n 1, 1) := by decide +kernel
theorem d_SE_openAll_70 : decode b_SE_openAll 70 = .ok (.baload, 1) := by decide +kernel
theorem d_SE_openAll_71 : decode b_SE_openAll 71 = .ok (.ifCond .eq 29, 3) := by decide +kernel
theorem d_SE_openAll_74 : decode b_SE_openAll 74 = .ok (.aload_n 0, 1) := by decide +kernel
theorem d_SE_openAll_75 : decode b_SE_openAll 75 = .ok (.aload_n 0, 1) := by decide +kernel
theorem d_SE_openAll_76 : decode b_SE_openAll 76 = .ok (.getfield 21, 3) := by decide +kernel
theorem d_SE_openAll_79 : decode b_SE_openAll 79 = .ok (.getfield 69, 3) := by decide +kernel
theorem d_SE_openAll_82 : decode b_SE_openAll 82 = .ok (.iload_n 1, 1) := by decide +kernel
theorem d_SE_openAll_83 : decode b_SE_openAll 83 = .ok (.iaload, 1) := by decide +kernel
theorem d_SE_openAll_84 : decode b_SE_openAll 84 = .ok (.invokevirtual 72, 3) := by decide +kernel
theorem d_SE_openAll_87 : decode b_SE_openAll 87 = .ok (.aload_n 0, 1) := by decide +kernel
theorem d_SE_openAll_88 : decode b_SE_openAll 88 = .ok (.aload_n 0, 1) := by decide +kernel
theorem d_SE_openAll_89 : decode b_SE_openAll 89 = .ok (.getfield 21, 3) := by decide +kernel
theorem d_SE_openAll_92 : decode b_SE_openAll 92 = .ok (.getfield 76, 3) := by decide +kernel
theorem d_SE_openAll_95 : decode b_SE_openAll 95 = .ok (.iload_n 1, 1) := by decide +kernel
theorem d_SE_openAll_96 : decode b_SE_openAll 96 = .ok (.iaload, 1) := by decide +kernel
theorem d_SE_openAll_97 : decode b_SE_openAll 97 = .ok (.invokevirtual 72, 3) := by decide +kernel
theorem d_SE_openAll_100 : decode b_SE_openAll 100 = .ok (.iinc 1 1, 3) := by decide +kernel
theorem d_SE_openAll_103 : decode b_SE_openAll 103 = .ok (.goto (-67), 3) := by decide +kernel
theorem d_SE_openAll_106 : decode b_SE_openAll 106 = .ok (.return_, 1) := by decide +kernel
theorem d_SE_shutUnlessTank_0 : decode b_SE_shutUnlessTank 0 = .ok (.aload_n 0, 1) := by decide +kernel
theorem d_SE_shutUnlessTank_1 : decode b_SE_shutUnlessTank 1 = .ok (.getfield 12, 3) := by decide +kernel
theorem d_SE_shutUnlessTank_4 : decode b_SE_shutUnlessTank 4 = .ok (.iload_n 1, 1) := by decide +kernel
theorem d_SE_shutUnlessTank_5 : decode b_SE_shutUnlessTank 5 = .ok (.invokevirtual 92, 3) := by decide +kernel
theorem d_SE_shutUnlessTank_8 : decode b_SE_shutUnlessTank 8 = .ok (.ifCond .eq 22, 3) := by decide +kernel
theorem d_SE_shutUnlessTank_11 : decode b_SE_shutUnlessTank 11 = .ok (.aload_n 0, 1) := by decide +kernel
theorem d_SE_shutUnlessTank_12 : decode b_SE_shutUnlessTank 12 = .ok (.getfield 12, 3) := by decide +kernel
theorem d_SE_shutUnlessTank_15 : decode b_SE_shutUnlessTank 15 = .ok (.getfield 93, 3) := by decide +kernel
theorem d_SE_shutUnlessTank_18 : decode b_SE_shutUnlessTank 18 = .ok (.iload_n 1, 1) := by decide +kernel
theorem d_SE_shutUnlessTank_19 : decode b_SE_shutUnlessTank 19 = .ok (.iaload, 1) := by decide +kernel
theorem d_SE_shutUnlessTank_20 : decode b_SE_shutUnlessTank 20 = .ok (.ifCond .eq 10, 3) := by decide +kernel
theorem d_SE_shutUnlessTank_23 : decode b_SE_shutUnlessTank 23 = .ok (.aload_n 0, 1) := by decide +kernel
theorem d_SE_shutUnlessTank_24 : decode b_SE_shutUnlessTank 24 = .ok (.getfield 25, 3) := by decide +kernel
theorem d_SE_shutUnlessTank_27 : decode b_SE_shutUnlessTank 27 = .ok (.iload_n 1, 1) := by decide +kernel
theorem d_SE_shutUnlessTank_28 : decode b_SE_shutUnlessTank 28 = .ok (.iconst 1, 1) := by decide +kernel
theorem d_SE_shutUnlessTank_29 : decode b_SE_shutUnlessTank 29 = .ok (.bastore, 1) := by decide +kernel
theorem d_SE_shutUnlessTank_30 : decode b_SE_shutUnlessTank 30 = .ok (.return_, 1) := by decide +kernel
theorem d_SE_leastWay_0 : decode b_SE_leastWay 0 = .ok (.aload_n 0, 1) := by decide +kernel
theorem d_SE_leastWay_1 : decode b_SE_leastWay 1 = .ok (.iload_n 2, 1) := by decide +kernel
theorem d_SE_leastWay_2 : decode b_SE_leastWay 2 = .ok (.invokevirtual 96, 3) := by decide +kernel
theorem d_SE_leastWay_5 : decode b_SE_leastWay 5 = .ok (.aload_n 0, 1) := by decide +kernel
theorem d_SE_leastWay_6 : decode b_SE_leastWay 6 = .ok (.iload_n 2, 1) := by decide +kernel
theorem d_SE_leastWay_7 : decode b_SE_leastWay 7 = .ok (.invokevirtual 99, 3) := by decide +kernel
theorem d_SE_leastWay_10 : decode b_SE_leastWay 10 = .ok (.aload_n 0, 1) := by decide +kernel
theorem d_SE_leastWay_11 : decode b_SE_leastWay 11 = .ok (.getfield 50, 3) := by decide +kernel
theorem d_SE_leastWay_14 : decode b_SE_leastWay 14 = .ok (.iload_n 1, 1) := by decide +kernel
theorem d_SE_leastWay_15 : decode b_SE_leastWay 15 = .ok (.laload, 1) := by decide +kernel
theorem d_SE_leastWay_16 : decode b_SE_leastWay 16 = .ok (.ldc2_w 102, 3) := by decide +kernel
theorem d_SE_leastWay_19 : decode b_SE_leastWay 19 = .ok (.lcmp, 1) := by decide +kernel
theorem d_SE_leastWay_20 : decode b_SE_leastWay 20 = .ok (.ifCond .ne 7, 3) := by decide +kernel
theorem d_SE_leastWay_23 : decode b_SE_leastWay 23 = .ok (.aconst_null, 1) := by decide +kernel
theorem d_SE_leastWay_24 : decode b_SE_leastWay 24 = .ok (.goto 9, 3) := by decide +kernel
theorem d_SE_leastWay_27 : decode b_SE_leastWay 27 = .ok (.aload_n 0, 1) := by decide +kernel
theorem d_SE_leastWay_28 : decode b_SE_leastWay 28 = .ok (.iload_n 1, 1) := by decide +kernel
theorem d_SE_leastWay_29 : decode b_SE_leastWay 29 = .ok (.iload_n 2, 1) := by decide +kernel
theorem d_SE_leastWay_30 : decode b_SE_leastWay 30 = .ok (.invokevirtual 104, 3) := by decide +kernel
theorem d_SE_leastWay_33 : decode b_SE_leastWay 33 = .ok (.areturn, 1) := by decide +kernel
theorem d_SE_layArcs_0 : decode b_SE_layArcs 0 = .ok (.aload_n 0, 1) := by decide +kernel
theorem d_SE_layArcs_1 : decode b_SE_layArcs 1 = .ok (.iconst 0, 1) := by decide +kernel
theorem d_SE_layArcs_2 : decode b_SE_layArcs 2 = .ok (.putfield 46, 3) := by decide +kernel
theorem d_SE_layArcs_5 : decode b_SE_layArcs 5 = .ok (.iconst 0, 1) := by decide +kernel
theorem d_SE_layArcs_6 : decode b_SE_layArcs 6 = .ok (.istore_n 2, 1) := by decide +kernel
theorem d_SE_layArcs_7 : decode b_SE_layArcs 7 = .ok (.iload_n 2, 1) := by decide +kernel
theorem d_SE_layArcs_8 : decode b_SE_layArcs 8 = .ok (.aload_n 0, 1) := by decide +kernel
theorem d_SE_layArcs_9 : decode b_SE_layArcs 9 = .ok (.getfield 21, 3) := by decide +kernel
theorem d_SE_layArcs_12 : decode b_SE_layArcs 12 = .ok (.getfield 65, 3) := by decide +kernel
theorem d_SE_layArcs_15 : decode b_SE_layArcs 15 = .ok (.if_icmp .ge 66, 3) := by decide +kernel
theorem d_SE_layArcs_18 : decode b_SE_layArcs 18 = .ok (.aload_n 0, 1) := by decide +kernel
theorem d_SE_layArcs_19 : decode b_SE_layArcs 19 = .ok (.getfield 29, 3) := by decide +kernel
theorem d_SE_layArcs_22 : decode b_SE_layArcs 22 = .ok (.iload_n 2, 1) := by decide +kernel
theorem d_SE_layArcs_23 : decode b_SE_layArcs 23 = .ok (.baload, 1) := by decide +kernel
theorem d_SE_layArcs_24 : decode b_SE_layArcs 24 = .ok (.ifCond .ne 51, 3) := by decide +kernel
theorem d_SE_layArcs_27 : decode b_SE_layArcs 27 = .ok (.aload_n 0, 1) := by decide +kernel
theorem d_SE_layArcs_28 : decode b_SE_layArcs 28 = .ok (.iload_n 2, 1) := by decide +kernel
theorem d_SE_layArcs_29 : decode b_SE_layArcs 29 = .ok (.aload_n 0, 1) := by decide +kernel
theorem d_SE_layArcs_30 : decode b_SE_layArcs 30 = .ok (.getfield 21, 3) := by decide +kernel
theorem d_SE_layArcs_33 : decode b_SE_layArcs 33 = .ok (.getfield 69, 3) := by decide +kernel
theorem d_SE_layArcs_36 : decode b_SE_layArcs 36 = .ok (.iload_n 2, 1) := by decide +kernel
theorem d_SE_layArcs_37 : decode b_SE_layArcs 37 = .ok (.iaload, 1) := by decide +kernel
theorem d_SE_layArcs_38 : decode b_SE_layArcs 38 = .ok (.aload_n 0, 1) := by decide +kernel
theorem d_SE_layArcs_39 : decode b_SE_layArcs 39 = .ok (.getfield 21, 3) := by decide +kernel
theorem d_SE_layArcs_42 : decode b_SE_layArcs 42 = .ok (.getfield 76, 3) := by decide +kernel
theorem d_SE_layArcs_45 : decode b_SE_layArcs 45 = .ok (.iload_n 2, 1) := by decide +kernel
theorem d_SE_layArcs_46 : decode b_SE_layArcs 46 = .ok (.iaload, 1) := by decide +kernel
theorem d_SE_layArcs_47 : decode b_SE_layArcs 47 = .ok (.iload_n 1, 1) := by decide +kernel
theorem d_SE_layArcs_48 : decode b_SE_layArcs 48 = .ok (.invokevirtual 108, 3) := by decide +kernel
theorem d_SE_layArcs_51 : decode b_SE_layArcs 51 = .ok (.aload_n 0, 1) := by decide +kernel
theorem d_SE_layArcs_52 : decode b_SE_layArcs 52 = .ok (.iload_n 2, 1) := by decide +kernel
theorem d_SE_layArcs_53 : decode b_SE_layArcs 53 = .ok (.aload_n 0, 1) := by decide +kernel
theorem d_SE_layArcs_54 : decode b_SE_layArcs 54 = .ok (.getfield 21, 3) := by decide +kernel
theorem d_SE_layArcs_57 : decode b_SE_layArcs 57 = .ok (.getfield 76, 3) := by decide +kernel
theorem d_SE_layArcs_60 : decode b_SE_layArcs 60 = .ok (.iload_n 2, 1) := by decide +kernel
theorem d_SE_layArcs_61 : decode b_SE_layArcs 61 = .ok (.iaload, 1) := by decide +kernel
theorem d_SE_layArcs_62 : decode b_SE_layArcs 62 = .ok (.aload_n 0, 1) := by decide +kernel
theorem d_SE_layArcs_63 : decode b_SE_layArcs 63 = .ok (.getfield 21, 3) := by decide +kernel
theorem d_SE_layArcs_66 : decode b_SE_layArcs 66 = .ok (.getfield 69, 3) := by decide +kernel
theorem d_SE_layArcs_69 : decode b_SE_layArcs 69 = .ok (.iload_n 2, 1) := by decide +kernel
theorem d_SE_layArcs_70 : decode b_SE_layArcs 70 = .ok (.iaload, 1) := by decide +kernel
theorem d_SE_layArcs_71 : decode b_SE_layArcs 71 = .ok (.iload_n 1, 1) := by decide +kernel
theorem d_SE_layArcs_72 : decode b_SE_layArcs 72 = .ok (.invokevirtual 108, 3) := by decide +kernel
theorem d_SE_layArcs_75 : decode b_SE_layArcs 75 = .ok (.iinc 2 1, 3) := by decide +kernel
theorem d_SE_layArcs_78 : decode b_SE_layArcs 78 = .ok (.goto (-71), 3) := by decide +kernel
theorem d_SE_layArcs_81 : decode b_SE_layArcs 81 = .ok (.return_, 1) := by decide +kernel
theorem d_SE_layArc_0 : decode b_SE_layArc 0 = .ok (.aload_n 0, 1) := by decide +kernel
theorem d_SE_layArc_1 : decode b_SE_layArc 1 = .ok (.getfield 25, 3) := by decide +kernel
theorem d_SE_layArc_4 : decode b_SE_layArc 4 = .ok (.iload_n 2, 1) := by decide +kernel
theorem d_SE_layArc_5 : decode b_SE_layArc 5 = .ok (.baload, 1) := by decide +kernel
theorem d_SE_layArc_6 : decode b_SE_layArc 6 = .ok (.ifCond .ne 12, 3) := by decide +kernel
theorem d_SE_layArc_9 : decode b_SE_layArc 9 = .ok (.aload_n 0, 1) := by decide +kernel
theorem d_SE_layArc_10 : decode b_SE_layArc 10 = .ok (.getfield 25, 3) := by decide +kernel
theorem d_SE_layArc_13 : decode b_SE_layArc 13 = .ok (.iload_n 3, 1) := by decide +kernel
theorem d_SE_layArc_14 : decode b_SE_layArc 14 = .ok (.baload, 1) := by decide +kernel
theorem d_SE_layArc_15 : decode b_SE_layArc 15 = .ok (.ifCond .eq 7, 3) := by decide +kernel
theorem d_SE_layArc_18 : decode b_SE_layArc 18 = .ok (.iconst 1, 1) := by decide +kernel
theorem d_SE_layArc_19 : decode b_SE_layArc 19 = .ok (.goto 4, 3) := by decide +kernel
theorem d_SE_layArc_22 : decode b_SE_layArc 22 = .ok (.iconst 0, 1) := by decide +kernel
theorem d_SE_layArc_23 : decode b_SE_layArc 23 = .ok (.istore 5, 2) := by decide +kernel
theorem d_SE_layArc_25 : decode b_SE_layArc 25 = .ok (.aload_n 0, 1) := by decide +kernel
theorem d_SE_layArc_26 : decode b_SE_layArc 26 = .ok (.getfield 12, 3) := by decide +kernel
theorem d_SE_layArc_29 : decode b_SE_layArc 29 = .ok (.getfield 93, 3) := by decide +kernel
theorem d_SE_layArc_32 : decode b_SE_layArc 32 = .ok (.iload_n 3, 1) := by decide +kernel
theorem d_SE_layArc_33 : decode b_SE_layArc 33 = .ok (.iaload, 1) := by decide +kernel
theorem d_SE_layArc_34 : decode b_SE_layArc 34 = .ok (.ifCond .ne 13, 3) := by decide +kernel
theorem d_SE_layArc_37 : decode b_SE_layArc 37 = .ok (.iload_n 3, 1) := by decide +kernel
theorem d_SE_layArc_38 : decode b_SE_layArc 38 = .ok (.iload 4, 2) := by decide +kernel
theorem d_SE_layArc_40 : decode b_SE_layArc 40 = .ok (.if_icmp .eq 7, 3) := by decide +kernel
theorem d_SE_layArc_43 : decode b_SE_layArc 43 = .ok (.iconst 1, 1) := by decide +kernel
theorem d_SE_layArc_44 : decode b_SE_layArc 44 = .ok (.goto 4, 3) := by decide +kernel
theorem d_SE_layArc_47 : decode b_SE_layArc 47 = .ok (.iconst 0, 1) := by decide +kernel
theorem d_SE_layArc_48 : decode b_SE_layArc 48 = .ok (.istore 6, 2) := by decide +kernel
theorem d_SE_layArc_50 : decode b_SE_layArc 50 = .ok (.iload 5, 2) := by decide +kernel
theorem d_SE_layArc_52 : decode b_SE_layArc 52 = .ok (.ifCond .ne 30, 3) := by decide +kernel
theorem d_SE_layArc_55 : decode b_SE_layArc 55 = .ok (.iload 6, 2) := by decide +kernel
theorem d_SE_layArc_57 : decode b_SE_layArc 57 = .ok (.ifCond .ne 25, 3) := by decide +kernel
theorem d_SE_layArc_60 : decode b_SE_layArc 60 = .ok (.aload_n 0, 1) := by decide +kernel
theorem d_SE_layArc_61 : decode b_SE_layArc 61 = .ok (.getfield 12, 3) := by decide +kernel
theorem d_SE_layArc_64 : decode b_SE_layArc 64 = .ok (.iload_n 2, 1) := by decide +kernel
theorem d_SE_layArc_65 : decode b_SE_layArc 65 = .ok (.iload_n 3, 1) := by decide +kernel
theorem d_SE_layArc_66 : decode b_SE_layArc 66 = .ok (.invokevirtual 112, 3) := by decide +kernel
theorem d_SE_layArc_69 : decode b_SE_layArc 69 = .ok (.ifCond .eq 13, 3) := by decide +kernel
theorem d_SE_layArc_72 : decode b_SE_layArc 72 = .ok (.aload_n 0, 1) := by decide +kernel
theorem d_SE_layArc_73 : decode b_SE_layArc 73 = .ok (.getfield 46, 3) := by decide +kernel
theorem d_SE_layArc_76 : decode b_SE_layArc 76 = .ok (.sipush 192, 3) := by decide +kernel
theorem d_SE_layArc_79 : decode b_SE_layArc 79 = .ok (.if_icmp .lt 4, 3) := by decide +kernel
theorem d_SE_layArc_82 : decode b_SE_layArc 82 = .ok (.return_, 1) := by decide +kernel
theorem d_SE_layArc_83 : decode b_SE_layArc 83 = .ok (.aload_n 0, 1) := by decide +kernel
theorem d_SE_layArc_84 : decode b_SE_layArc 84 = .ok (.getfield 12, 3) := by decide +kernel
theorem d_SE_layArc_87 : decode b_SE_layArc 87 = .ok (.getfield 93, 3) := by decide +kernel
theorem d_SE_layArc_90 : decode b_SE_layArc 90 = .ok (.iload_n 3, 1) := by decide +kernel
theorem d_SE_layArc_91 : decode b_SE_layArc 91 = .ok (.iaload, 1) := by decide +kernel
theorem d_SE_layArc_92 : decode b_SE_layArc 92 = .ok (.iconst 2, 1) := by decide +kernel
theorem d_SE_layArc_93 : decode b_SE_layArc 93 = .ok (.if_icmp .ne 7, 3) := by decide +kernel
theorem d_SE_layArc_96 : decode b_SE_layArc 96 = .ok (.lconst 1, 1) := by decide +kernel
theorem d_SE_layArc_97 : decode b_SE_layArc 97 = .ok (.goto 4, 3) := by decide +kernel
theorem d_SE_layArc_100 : decode b_SE_layArc 100 = .ok (.lconst 0, 1) := by decide +kernel
theorem d_SE_layArc_101 : decode b_SE_layArc 101 = .ok (.lstore 7, 2) := by decide +kernel
theorem d_SE_layArc_103 : decode b_SE_layArc 103 = .ok (.aload_n 0, 1) := by decide +kernel
theorem d_SE_layArc_104 : decode b_SE_layArc 104 = .ok (.getfield 32, 3) := by decide +kernel
theorem d_SE_layArc_107 : decode b_SE_layArc 107 = .ok (.aload_n 0, 1) := by decide +kernel
theorem d_SE_layArc_108 : decode b_SE_layArc 108 = .ok (.getfield 46, 3) := by decide +kernel
theorem d_SE_layArc_111 : decode b_SE_layArc 111 = .ok (.iload_n 1, 1) := by decide +kernel
theorem d_SE_layArc_112 : decode b_SE_layArc 112 = .ok (.iastore, 1) := by decide +kernel
theorem d_SE_layArc_113 : decode b_SE_layArc 113 = .ok (.aload_n 0, 1) := by decide +kernel
theorem d_SE_layArc_114 : decode b_SE_layArc 114 = .ok (.getfield 36, 3) := by decide +kernel
theorem d_SE_layArc_117 : decode b_SE_layArc 117 = .ok (.aload_n 0, 1) := by decide +kernel
theorem d_SE_layArc_118 : decode b_SE_layArc 118 = .ok (.getfield 46, 3) := by decide +kernel
theorem d_SE_layArc_121 : decode b_SE_layArc 121 = .ok (.iload_n 2, 1) := by decide +kernel
theorem d_SE_layArc_122 : decode b_SE_layArc 122 = .ok (.iastore, 1) := by decide +kernel
theorem d_SE_layArc_123 : decode b_SE_layArc 123 = .ok (.aload_n 0, 1) := by decide +kernel
theorem d_SE_layArc_124 : decode b_SE_layArc 124 = .ok (.getfield 39, 3) := by decide +kernel
theorem d_SE_layArc_127 : decode b_SE_layArc 127 = .ok (.aload_n 0, 1) := by decide +kernel
theorem d_SE_layArc_128 : decode b_SE_layArc 128 = .ok (.getfield 46, 3) := by decide +kernel
theorem d_SE_layArc_131 : decode b_SE_layArc 131 = .ok (.iload_n 3, 1) := by decide +kernel
theorem d_SE_layArc_132 : decode b_SE_layArc 132 = .ok (.iastore, 1) := by decide +kernel
theorem d_SE_layArc_133 : decode b_SE_layArc 133 = .ok (.aload_n 0, 1) := by decide +kernel
theorem d_SE_layArc_134 : decode b_SE_layArc 134 = .ok (.getfield 42, 3) := by decide +kernel
theorem d_SE_layArc_137 : decode b_SE_layArc 137 = .ok (.aload_n 0, 1) := by decide +kernel
theorem d_SE_layArc_138 : decode b_SE_layArc 138 = .ok (.getfield 46, 3) := by decide +kernel
theorem d_SE_layArc_141 : decode b_SE_layArc 141 = .ok (.aload_n 0, 1) := by decide +kernel
theorem d_SE_layArc_142 : decode b_SE_layArc 142 = .ok (.getfield 21, 3) := by decide +kernel
theorem d_SE_layArc_145 : decode b_SE_layArc 145 = .ok (.getfield 116, 3) := by decide +kernel
theorem d_SE_layArc_148 : decode b_SE_layArc 148 = .ok (.iload_n 1, 1) := by decide +kernel
theorem d_SE_layArc_149 : decode b_SE_layArc 149 = .ok (.laload, 1) := by decide +kernel
theorem d_SE_layArc_150 : decode b_SE_layArc 150 = .ok (.ldc2_w 119, 3) := by decide +kernel
theorem d_SE_layArc_153 : decode b_SE_layArc 153 = .ok (.lmul, 1) := by decide +kernel
theorem d_SE_layArc_154 : decode b_SE_layArc 154 = .ok (.lload 7, 2) := by decide +kernel
theorem d_SE_layArc_156 : decode b_SE_layArc 156 = .ok (.ladd, 1) := by decide +kernel
theorem d_SE_layArc_157 : decode b_SE_layArc 157 = .ok (.lastore, 1) := by decide +kernel
theorem d_SE_layArc_158 : decode b_SE_layArc 158 = .ok (.aload_n 0, 1) := by decide +kernel
theorem d_SE_layArc_159 : decode b_SE_layArc 159 = .ok (.dup, 1) := by decide +kernel
theorem d_SE_layArc_160 : decode b_SE_layArc 160 = .ok (.getfield 46, 3) := by decide +kernel
theorem d_SE_layArc_163 : decode b_SE_layArc 163 = .ok (.iconst 1, 1) := by decide +kernel
theorem d_SE_layArc_164 : decode b_SE_layArc 164 = .ok (.iadd, 1) := by decide +kernel
theorem d_SE_layArc_165 : decode b_SE_layArc 165 = .ok (.putfield 46, 3) := by decide +kernel
theorem d_SE_layArc_168 : decode b_SE_layArc 168 = .ok (.return_, 1) := by decide +kernel
theorem d_TH_letFlow_0 : decode b_TH_letFlow 0 = .ok (.aload_n 0, 1) := by decide +kernel
theorem d_TH_letFlow_1 : decode b_TH_letFlow 1 = .ok (.getfield 9, 3) := by decide +kernel
theorem d_TH_letFlow_4 : decode b_TH_letFlow 4 = .ok (.iload_n 1, 1) := by decide +kernel
theorem d_TH_letFlow_5 : decode b_TH_letFlow 5 = .ok (.iaload, 1) := by decide +kernel
theorem d_TH_letFlow_6 : decode b_TH_letFlow 6 = .ok (.iconst 1, 1) := by decide +kernel
theorem d_TH_letFlow_7 : decode b_TH_letFlow 7 = .ok (.if_icmp .ne 13, 3) := by decide +kernel
theorem d_TH_letFlow_10 : decode b_TH_letFlow 10 = .ok (.aload_n 0, 1) := by decide +kernel
theorem d_TH_letFlow_11 : decode b_TH_letFlow 11 = .ok (.getfield 25, 3) := by decide +kernel
theorem d_TH_letFlow_14 : decode b_TH_letFlow 14 = .ok (.iload_n 1, 1) := by decide +kernel
theorem d_TH_letFlow_15 : decode b_TH_letFlow 15 = .ok (.iaload, 1) := by decide +kernel
theorem d_TH_letFlow_16 : decode b_TH_letFlow 16 = .ok (.iload_n 2, 1) := by decide +kernel
theorem d_TH_letFlow_17 : decode b_TH_letFlow 17 = .ok (.if_icmp .ne 7, 3) := by decide +kernel
theorem d_TH_letFlow_20 : decode b_TH_letFlow 20 = .ok (.iconst 1, 1) := by decide +kernel
theorem d_TH_letFlow_21 : decode b_TH_letFlow 21 = .ok (.goto 4, 3) := by decide +kernel
theorem d_TH_letFlow_24 : decode b_TH_letFlow 24 = .ok (.iconst 0, 1) := by decide +kernel
theorem d_TH_letFlow_25 : decode b_TH_letFlow 25 = .ok (.istore_n 3, 1) := by decide +kernel
theorem d_TH_letFlow_26 : decode b_TH_letFlow 26 = .ok (.aload_n 0, 1) := by decide +kernel
theorem d_TH_letFlow_27 : decode b_TH_letFlow 27 = .ok (.getfield 9, 3) := by decide +kernel
theorem d_TH_letFlow_30 : decode b_TH_letFlow 30 = .ok (.iload_n 2, 1) := by decide +kernel
theorem d_TH_letFlow_31 : decode b_TH_letFlow 31 = .ok (.iaload, 1) := by decide +kernel
theorem d_TH_letFlow_32 : decode b_TH_letFlow 32 = .ok (.iconst 1, 1) := by decide +kernel
theorem d_TH_letFlow_33 : decode b_TH_letFlow 33 = .ok (.if_icmp .ne 13, 3) := by decide +kernel
theorem d_TH_letFlow_36 : decode b_TH_letFlow 36 = .ok (.aload_n 0, 1) := by decide +kernel
theorem d_TH_letFlow_37 : decode b_TH_letFlow 37 = .ok (.getfield 22, 3) := by decide +kernel
theorem d_TH_letFlow_40 : decode b_TH_letFlow 40 = .ok (.iload_n 2, 1) := by decide +kernel
theorem d_TH_letFlow_41 : decode b_TH_letFlow 41 = .ok (.iaload, 1) := by decide +kernel
theorem d_TH_letFlow_42 : decode b_TH_letFlow 42 = .ok (.iload_n 1, 1) := by decide +kernel
theorem d_TH_letFlow_43 : decode b_TH_letFlow 43 = .ok (.if_icmp .ne 7, 3) := by decide +kernel
theorem d_TH_letFlow_46 : decode b_TH_letFlow 46 = .ok (.iconst 1, 1) := by decide +kernel
theorem d_TH_letFlow_47 : decode b_TH_letFlow 47 = .ok (.goto 4, 3) := by decide +kernel
theorem d_TH_letFlow_50 : decode b_TH_letFlow 50 = .ok (.iconst 0, 1) := by decide +kernel
theorem d_TH_letFlow_51 : decode b_TH_letFlow 51 = .ok (.istore 4, 2) := by decide +kernel
theorem d_TH_letFlow_53 : decode b_TH_letFlow 53 = .ok (.iload_n 3, 1) := by decide +kernel
theorem d_TH_letFlow_54 : decode b_TH_letFlow 54 = .ok (.ifCond .eq 12, 3) := by decide +kernel
theorem d_TH_letFlow_57 : decode b_TH_letFlow 57 = .ok (.iload 4, 2) := by decide +kernel
theorem d_TH_letFlow_59 : decode b_TH_letFlow 59 = .ok (.ifCond .eq 7, 3) := by decide +kernel
theorem d_TH_letFlow_62 : decode b_TH_letFlow 62 = .ok (.iconst 1, 1) := by decide +kernel
theorem d_TH_letFlow_63 : decode b_TH_letFlow 63 = .ok (.goto 4, 3) := by decide +kernel
theorem d_TH_letFlow_66 : decode b_TH_letFlow 66 = .ok (.iconst 0, 1) := by decide +kernel
theorem d_TH_letFlow_67 : decode b_TH_letFlow 67 = .ok (.ireturn, 1) := by decide +kernel
theorem d_SE_reckonCostsTo_0 : decode b_SE_reckonCostsTo 0 = .ok (.aload_n 0, 1) := by decide +kernel
theorem d_SE_reckonCostsTo_1 : decode b_SE_reckonCostsTo 1 = .ok (.getfield 50, 3) := by decide +kernel
theorem d_SE_reckonCostsTo_4 : decode b_SE_reckonCostsTo 4 = .ok (.ldc2_w 102, 3) := by decide +kernel
theorem d_SE_reckonCostsTo_7 : decode b_SE_reckonCostsTo 7 = .ok (.invokestatic 121, 3) := by decide +kernel
theorem d_SE_reckonCostsTo_10 : decode b_SE_reckonCostsTo 10 = .ok (.aload_n 0, 1) := by decide +kernel
theorem d_SE_reckonCostsTo_11 : decode b_SE_reckonCostsTo 11 = .ok (.getfield 50, 3) := by decide +kernel
theorem d_SE_reckonCostsTo_14 : decode b_SE_reckonCostsTo 14 = .ok (.iload_n 1, 1) := by decide +kernel
theorem d_SE_reckonCostsTo_15 : decode b_SE_reckonCostsTo 15 = .ok (.lconst 0, 1) := by decide +kernel
theorem d_SE_reckonCostsTo_16 : decode b_SE_reckonCostsTo 16 = .ok (.lastore, 1) := by decide +kernel
theorem d_SE_reckonCostsTo_17 : decode b_SE_reckonCostsTo 17 = .ok (.iconst 1, 1) := by decide +kernel
theorem d_SE_reckonCostsTo_18 : decode b_SE_reckonCostsTo 18 = .ok (.istore_n 2, 1) := by decide +kernel
theorem d_SE_reckonCostsTo_19 : decode b_SE_reckonCostsTo 19 = .ok (.iconst 0, 1) := by decide +kernel
theorem d_SE_reckonCostsTo_20 : decode b_SE_reckonCostsTo 20 = .ok (.istore_n 3, 1) := by decide +kernel
theorem d_SE_reckonCostsTo_21 : decode b_SE_reckonCostsTo 21 = .ok (.iload_n 3, 1) := by decide +kernel
theorem d_SE_reckonCostsTo_22 : decode b_SE_reckonCostsTo 22 = .ok (.bipush 48, 2) := by decide +kernel
theorem d_SE_reckonCostsTo_24 : decode b_SE_reckonCostsTo 24 = .ok (.if_icmp .ge 18, 3) := by decide +kernel
theorem d_SE_reckonCostsTo_27 : decode b_SE_reckonCostsTo 27 = .ok (.iload_n 2, 1) := by decide +kernel
theorem d_SE_reckonCostsTo_28 : decode b_SE_reckonCostsTo 28 = .ok (.ifCond .eq 14, 3) := by decide +kernel
theorem d_SE_reckonCostsTo_31 : decode b_SE_reckonCostsTo 31 = .ok (.aload_n 0, 1) := by decide +kernel
theorem d_SE_reckonCostsTo_32 : decode b_SE_reckonCostsTo 32 = .ok (.invokevirtual 127, 3) := by decide +kernel
theorem d_SE_reckonCostsTo_35 : decode b_SE_reckonCostsTo 35 = .ok (.istore_n 2, 1) := by decide +kernel
theorem d_SE_reckonCostsTo_36 : decode b_SE_reckonCostsTo 36 = .ok (.iinc 3 1, 3) := by decide +kernel
theorem d_SE_reckonCostsTo_39 : decode b_SE_reckonCostsTo 39 = .ok (.goto (-18), 3) := by decide +kernel
theorem d_SE_reckonCostsTo_42 : decode b_SE_reckonCostsTo 42 = .ok (.return_, 1) := by decide +kernel
theorem d_AR_fill_0 : decode b_AR_fill 0 = .ok (.iconst 0, 1) := by decide +kernel
theorem d_AR_fill_1 : decode b_AR_fill 1 = .ok (.istore_n 3, 1) := by decide +kernel
theorem d_AR_fill_2 : decode b_AR_fill 2 = .ok (.aload_n 0, 1) := by decide +kernel
theorem d_AR_fill_3 : decode b_AR_fill 3 = .ok (.arraylength, 1) := by decide +kernel
theorem d_AR_fill_4 : decode b_AR_fill 4 = .ok (.istore 4, 2) := by decide +kernel
theorem d_AR_fill_6 : decode b_AR_fill 6 = .ok (.iload_n 3, 1) := by decide +kernel
theorem d_AR_fill_7 : decode b_AR_fill 7 = .ok (.iload 4, 2) := by decide +kernel
theorem d_AR_fill_9 : decode b_AR_fill 9 = .ok (.if_icmp .ge 13, 3) := by decide +kernel
theorem d_AR_fill_12 : decode b_AR_fill 12 = .ok (.aload_n 0, 1) := by decide +kernel
theorem d_AR_fill_13 : decode b_AR_fill 13 = .ok (.iload_n 3, 1) := by decide +kernel
theorem d_AR_fill_14 : decode b_AR_fill 14 = .ok (.lload_n 1, 1) := by decide +kernel
theorem d_AR_fill_15 : decode b_AR_fill 15 = .ok (.lastore, 1) := by decide +kernel
theorem d_AR_fill_16 : decode b_AR_fill 16 = .ok (.iinc 3 1, 3) := by decide +kernel
theorem d_AR_fill_19 : decode b_AR_fill 19 = .ok (.goto (-13), 3) := by decide +kernel
theorem d_AR_fill_22 : decode b_AR_fill 22 = .ok (.return_, 1) := by decide +kernel
theorem d_SE_lowerCosts_0 : decode b_SE_lowerCosts 0 = .ok (.iconst 0, 1) := by decide +kernel
theorem d_SE_lowerCosts_1 : decode b_SE_lowerCosts 1 = .ok (.istore_n 1, 1) := by decide +kernel
theorem d_SE_lowerCosts_2 : decode b_SE_lowerCosts 2 = .ok (.iconst 0, 1) := by decide +kernel
theorem d_SE_lowerCosts_3 : decode b_SE_lowerCosts 3 = .ok (.istore_n 2, 1) := by decide +kernel
theorem d_SE_lowerCosts_4 : decode b_SE_lowerCosts 4 = .ok (.iload_n 2, 1) := by decide +kernel
theorem d_SE_lowerCosts_5 : decode b_SE_lowerCosts 5 = .ok (.aload_n 0, 1) := by decide +kernel
theorem d_SE_lowerCosts_6 : decode b_SE_lowerCosts 6 = .ok (.getfield 46, 3) := by decide +kernel
theorem d_SE_lowerCosts_9 : decode b_SE_lowerCosts 9 = .ok (.if_icmp .ge 73, 3) := by decide +kernel
theorem d_SE_lowerCosts_12 : decode b_SE_lowerCosts 12 = .ok (.aload_n 0, 1) := by decide +kernel
theorem d_SE_lowerCosts_13 : decode b_SE_lowerCosts 13 = .ok (.getfield 50, 3) := by decide +kernel
theorem d_SE_lowerCosts_16 : decode b_SE_lowerCosts 16 = .ok (.aload_n 0, 1) := by decide +kernel
theorem d_SE_lowerCosts_17 : decode b_SE_lowerCosts 17 = .ok (.getfield 39, 3) := by decide +kernel
theorem d_SE_lowerCosts_20 : decode b_SE_lowerCosts 20 = .ok (.iload_n 2, 1) := by decide +kernel
theorem d_SE_lowerCosts_21 : decode b_SE_lowerCosts 21 = .ok (.iaload, 1) := by decide +kernel
theorem d_SE_lowerCosts_22 : decode b_SE_lowerCosts 22 = .ok (.laload, 1) := by decide +kernel
theorem d_SE_lowerCosts_23 : decode b_SE_lowerCosts 23 = .ok (.lstore_n 3, 1) := by decide +kernel
theorem d_SE_lowerCosts_24 : decode b_SE_lowerCosts 24 = .ok (.lload_n 3, 1) := by decide +kernel
theorem d_SE_lowerCosts_25 : decode b_SE_lowerCosts 25 = .ok (.ldc2_w 102, 3) := by decide +kernel
theorem d_SE_lowerCosts_28 : decode b_SE_lowerCosts 28 = .ok (.lcmp, 1) := by decide +kernel
theorem d_SE_lowerCosts_29 : decode b_SE_lowerCosts 29 = .ok (.ifCond .eq 47, 3) := by decide +kernel
theorem d_SE_lowerCosts_32 : decode b_SE_lowerCosts 32 = .ok (.lload_n 3, 1) := by decide +kernel
theorem d_SE_lowerCosts_33 : decode b_SE_lowerCosts 33 = .ok (.aload_n 0, 1) := by decide +kernel
theorem d_SE_lowerCosts_34 : decode b_SE_lowerCosts 34 = .ok (.getfield 42, 3) := by decide +kernel
theorem d_SE_lowerCosts_37 : decode b_SE_lowerCosts 37 = .ok (.iload_n 2, 1) := by decide +kernel
theorem d_SE_lowerCosts_38 : decode b_SE_lowerCosts 38 = .ok (.laload, 1) := by decide +kernel
theorem d_SE_lowerCosts_39 : decode b_SE_lowerCosts 39 = .ok (.ladd, 1) := by decide +kernel
theorem d_SE_lowerCosts_40 : decode b_SE_lowerCosts 40 = .ok (.aload_n 0, 1) := by decide +kernel
theorem d_SE_lowerCosts_41 : decode b_SE_lowerCosts 41 = .ok (.getfield 50, 3) := by decide +kernel
theorem d_SE_lowerCosts_44 : decode b_SE_lowerCosts 44 = .ok (.aload_n 0, 1) := by decide +kernel
theorem d_SE_lowerCosts_45 : decode b_SE_lowerCosts 45 = .ok (.getfield 36, 3) := by decide +kernel
theorem d_SE_lowerCosts_48 : decode b_SE_lowerCosts 48 = .ok (.iload_n 2, 1) := by decide +kernel
theorem d_SE_lowerCosts_49 : decode b_SE_lowerCosts 49 = .ok (.iaload, 1) := by decide +kernel
theorem d_SE_lowerCosts_50 : decode b_SE_lowerCosts 50 = .ok (.laload, 1) := by decide +kernel
theorem d_SE_lowerCosts_51 : decode b_SE_lowerCosts 51 = .ok (.lcmp, 1) := by decide +kernel
theorem d_SE_lowerCosts_52 : decode b_SE_lowerCosts 52 = .ok (.ifCond .ge 24, 3) := by decide +kernel
theorem d_SE_lowerCosts_55 : decode b_SE_lowerCosts 55 = .ok (.aload_n 0, 1) := by decide +kernel
theorem d_SE_lowerCosts_56 : decode b_SE_lowerCosts 56 = .ok (.getfield 50, 3) := by decide +kernel
theorem d_SE_lowerCosts_59 : decode b_SE_lowerCosts 59 = .ok (.aload_n 0, 1) := by decide +kernel
theorem d_SE_lowerCosts_60 : decode b_SE_lowerCosts 60 = .ok (.getfield 36, 3) := by decide +kernel
theorem d_SE_lowerCosts_63 : decode b_SE_lowerCosts 63 = .ok (.iload_n 2, 1) := by decide +kernel
theorem d_SE_lowerCosts_64 : decode b_SE_lowerCosts 64 = .ok (.iaload, 1) := by decide +kernel
theorem d_SE_lowerCosts_65 : decode b_SE_lowerCosts 65 = .ok (.lload_n 3, 1) := by decide +kernel
theorem d_SE_lowerCosts_66 : decode b_SE_lowerCosts 66 = .ok (.aload_n 0, 1) := by decide +kernel
theorem d_SE_lowerCosts_67 : decode b_SE_lowerCosts 67 = .ok (.getfield 42, 3) := by decide +kernel
theorem d_SE_lowerCosts_70 : decode b_SE_lowerCosts 70 = .ok (.iload_n 2, 1) := by decide +kernel
theorem d_SE_lowerCosts_71 : decode b_SE_lowerCosts 71 = .ok (.laload, 1) := by decide +kernel
theorem d_SE_lowerCosts_72 : decode b_SE_lowerCosts 72 = .ok (.ladd, 1) := by decide +kernel
theorem d_SE_lowerCosts_73 : decode b_SE_lowerCosts 73 = .ok (.lastore, 1) := by decide +kernel
theorem d_SE_lowerCosts_74 : decode b_SE_lowerCosts 74 = .ok (.iconst 1, 1) := by decide +kernel
theorem d_SE_lowerCosts_75 : decode b_SE_lowerCosts 75 = .ok (.istore_n 1, 1) := by decide +kernel
theorem d_SE_lowerCosts_76 : decode b_SE_lowerCosts 76 = .ok (.iinc 2 1, 3) := by decide +kernel
theorem d_SE_lowerCosts_79 : decode b_SE_lowerCosts 79 = .ok (.goto (-75), 3) := by decide +kernel
theorem d_SE_lowerCosts_82 : decode b_SE_lowerCosts 82 = .ok (.iload_n 1, 1) := by decide +kernel
theorem d_SE_lowerCosts_83 : decode b_SE_lowerCosts 83 = .ok (.ireturn, 1) := by decide +kernel
theorem d_SE_followLeast_0 : decode b_SE_followLeast 0 = .ok (.iload_n 1, 1) := by decide +kernel
theorem d_SE_followLeast_1 : decode b_SE_followLeast 1 = .ok (.istore_n 3, 1) := by decide +kernel
theorem d_SE_followLeast_2 : decode b_SE_followLeast 2 = .ok (.iconst 0, 1) := by decide +kernel
theorem d_SE_followLeast_3 : decode b_SE_followLeast 3 = .ok (.istore 4, 2) := by decide +kernel
theorem d_SE_followLeast_5 : decode b_SE_followLeast 5 = .ok (.aload_n 0, 1) := by decide +kernel
theorem d_SE_followLeast_6 : decode b_SE_followLeast 6 = .ok (.getfield 56, 3) := by decide +kernel
theorem d_SE_followLeast_9 : decode b_SE_followLeast 9 = .ok (.iconst 0, 1) := by decide +kernel
theorem d_SE_followLeast_10 : decode b_SE_followLeast 10 = .ok (.iload_n 1, 1) := by decide +kernel
theorem d_SE_followLeast_11 : decode b_SE_followLeast 11 = .ok (.iastore, 1) := by decide +kernel
theorem d_SE_followLeast_12 : decode b_SE_followLeast 12 = .ok (.iload_n 3, 1) := by decide +kernel
theorem d_SE_followLeast_13 : decode b_SE_followLeast 13 = .ok (.iload_n 2, 1) := by decide +kernel
theorem d_SE_followLeast_14 : decode b_SE_followLeast 14 = .ok (.if_icmp .eq 61, 3) := by decide +kernel
theorem d_SE_followLeast_17 : decode b_SE_followLeast 17 = .ok (.iload 4, 2) := by decide +kernel
theorem d_SE_followLeast_19 : decode b_SE_followLeast 19 = .ok (.bipush 47, 2) := by decide +kernel
theorem d_SE_followLeast_21 : decode b_SE_followLeast 21 = .ok (.if_icmp .ge 54, 3) := by decide +kernel
theorem d_SE_followLeast_24 : decode b_SE_followLeast 24 = .ok (.aload_n 0, 1) := by decide +kernel
theorem d_SE_followLeast_25 : decode b_SE_followLeast 25 = .ok (.iload_n 3, 1) := by decide +kernel
theorem d_SE_followLeast_26 : decode b_SE_followLeast 26 = .ok (.invokevirtual 131, 3) := by decide +kernel
theorem d_SE_followLeast_29 : decode b_SE_followLeast 29 = .ok (.istore 5, 2) := by decide +kernel
theorem d_SE_followLeast_31 : decode b_SE_followLeast 31 = .ok (.iload 5, 2) := by decide +kernel
theorem d_SE_followLeast_33 : decode b_SE_followLeast 33 = .ok (.iconst (-1), 1) := by decide +kernel
theorem d_SE_followLeast_34 : decode b_SE_followLeast 34 = .ok (.if_icmp .ne 5, 3) := by decide +kernel
theorem d_SE_followLeast_37 : decode b_SE_followLeast 37 = .ok (.aconst_null, 1) := by decide +kernel
theorem d_SE_followLeast_38 : decode b_SE_followLeast 38 = .ok (.areturn, 1) := by decide +kernel
theorem d_SE_followLeast_39 : decode b_SE_followLeast 39 = .ok (.aload_n 0, 1) := by decide +kernel
theorem d_SE_followLeast_40 : decode b_SE_followLeast 40 = .ok (.getfield 39, 3) := by decide +kernel
theorem d_SE_followLeast_43 : decode b_SE_followLeast 43 = .ok (.iload 5, 2) := by decide +kernel
theorem d_SE_followLeast_45 : decode b_SE_followLeast 45 = .ok (.iaload, 1) := by decide +kernel
theorem d_SE_followLeast_46 : decode b_SE_followLeast 46 = .ok (.istore_n 3, 1) := by decide +kernel
theorem d_SE_followLeast_47 : decode b_SE_followLeast 47 = .ok (.aload_n 0, 1) := by decide +kernel
theorem d_SE_followLeast_48 : decode b_SE_followLeast 48 = .ok (.getfield 53, 3) := by decide +kernel
theorem d_SE_followLeast_51 : decode b_SE_followLeast 51 = .ok (.iload 4, 2) := by decide +kernel
theorem d_SE_followLeast_53 : decode b_SE_followLeast 53 = .ok (.aload_n 0, 1) := by decide +kernel
theorem d_SE_followLeast_54 : decode b_SE_followLeast 54 = .ok (.getfield 32, 3) := by decide +kernel
theorem d_SE_followLeast_57 : decode b_SE_followLeast 57 = .ok (.iload 5, 2) := by decide +kernel
theorem d_SE_followLeast_59 : decode b_SE_followLeast 59 = .ok (.iaload, 1) := by decide +kernel
theorem d_SE_followLeast_60 : decode b_SE_followLeast 60 = .ok (.iastore, 1) := by decide +kernel
theorem d_SE_followLeast_61 : decode b_SE_followLeast 61 = .ok (.iinc 4 1, 3) := by decide +kernel
theorem d_SE_followLeast_64 : decode b_SE_followLeast 64 = .ok (.aload_n 0, 1) := by decide +kernel
theorem d_SE_followLeast_65 : decode b_SE_followLeast 65 = .ok (.getfield 56, 3) := by decide +kernel
theorem d_SE_followLeast_68 : decode b_SE_followLeast 68 = .ok (.iload 4, 2) := by decide +kernel
theorem d_SE_followLeast_70 : decode b_SE_followLeast 70 = .ok (.iload_n 3, 1) := by decide +kernel
theorem d_SE_followLeast_71 : decode b_SE_followLeast 71 = .ok (.iastore, 1) := by decide +kernel
theorem d_SE_followLeast_72 : decode b_SE_followLeast 72 = .ok (.goto (-60), 3) := by decide +kernel
theorem d_SE_followLeast_75 : decode b_SE_followLeast 75 = .ok (.aload_n 0, 1) := by decide +kernel
theorem d_SE_followLeast_76 : decode b_SE_followLeast 76 = .ok (.getfield 50, 3) := by decide +kernel
theorem d_SE_followLeast_79 : decode b_SE_followLeast 79 = .ok (.iload_n 1, 1) := by decide +kernel
theorem d_SE_followLeast_80 : decode b_SE_followLeast 80 = .ok (.laload, 1) := by decide +kernel
theorem d_SE_followLeast_81 : decode b_SE_followLeast 81 = .ok (.ldc2_w 119, 3) := by decide +kernel
theorem d_SE_followLeast_84 : decode b_SE_followLeast 84 = .ok (.ldiv, 1) := by decide +kernel
theorem d_SE_followLeast_85 : decode b_SE_followLeast 85 = .ok (.lstore 5, 2) := by decide +kernel
theorem d_SE_followLeast_87 : decode b_SE_followLeast 87 = .ok (.aload_n 0, 1) := by decide +kernel
theorem d_SE_followLeast_88 : decode b_SE_followLeast 88 = .ok (.getfield 53, 3) := by decide +kernel
theorem d_SE_followLeast_91 : decode b_SE_followLeast 91 = .ok (.iload 4, 2) := by decide +kernel
theorem d_SE_followLeast_93 : decode b_SE_followLeast 93 = .ok (.invokestatic 135, 3) := by decide +kernel
theorem d_SE_followLeast_96 : decode b_SE_followLeast 96 = .ok (.astore 7, 2) := by decide +kernel
theorem d_SE_followLeast_98 : decode b_SE_followLeast 98 = .ok (.aload_n 0, 1) := by decide +kernel
theorem d_SE_followLeast_99 : decode b_SE_followLeast 99 = .ok (.getfield 56, 3) := by decide +kernel
theorem d_SE_followLeast_102 : decode b_SE_followLeast 102 = .ok (.iload 4, 2) := by decide +kernel
theorem d_SE_followLeast_104 : decode b_SE_followLeast 104 = .ok (.iconst 1, 1) := by decide +kernel
theorem d_SE_followLeast_105 : decode b_SE_followLeast 105 = .ok (.iadd, 1) := by decide +kernel
theorem d_SE_followLeast_106 : decode b_SE_followLeast 106 = .ok (.invokestatic 135, 3) := by decide +kernel
theorem d_SE_followLeast_109 : decode b_SE_followLeast 109 = .ok (.astore 8, 2) := by decide +kernel
theorem d_SE_followLeast_111 : decode b_SE_followLeast 111 = .ok (.new 84, 3) := by decide +kernel
theorem d_SE_followLeast_114 : decode b_SE_followLeast 114 = .ok (.dup, 1) := by decide +kernel
theorem d_SE_followLeast_115 : decode b_SE_followLeast 115 = .ok (.iload_n 1, 1) := by decide +kernel
theorem d_SE_followLeast_116 : decode b_SE_followLeast 116 = .ok (.iload_n 2, 1) := by decide +kernel
theorem d_SE_followLeast_117 : decode b_SE_followLeast 117 = .ok (.lload 5, 2) := by decide +kernel
theorem d_SE_followLeast_119 : decode b_SE_followLeast 119 = .ok (.aload 7, 2) := by decide +kernel
theorem d_SE_followLeast_121 : decode b_SE_followLeast 121 = .ok (.aload 8, 2) := by decide +kernel
theorem d_SE_followLeast_123 : decode b_SE_followLeast 123 = .ok (.invokespecial 139, 3) := by decide +kernel
theorem d_SE_followLeast_126 : decode b_SE_followLeast 126 = .ok (.areturn, 1) := by decide +kernel
theorem d_SE_firstLeastArc_0 : decode b_SE_firstLeastArc 0 = .ok (.iconst 0, 1) := by decide +kernel
theorem d_SE_firstLeastArc_1 : decode b_SE_firstLeastArc 1 = .ok (.istore_n 2, 1) := by decide +kernel
theorem d_SE_firstLeastArc_2 : decode b_SE_firstLeastArc 2 = .ok (.iload_n 2, 1) := by decide +kernel
theorem d_SE_firstLeastArc_3 : decode b_SE_firstLeastArc 3 = .ok (.aload_n 0, 1) := by decide +kernel
theorem d_SE_firstLeastArc_4 : decode b_SE_firstLeastArc 4 = .ok (.getfield 46, 3) := by decide +kernel
theorem d_SE_firstLeastArc_7 : decode b_SE_firstLeastArc 7 = .ok (.if_icmp .ge 59, 3) := by decide +kernel
theorem d_SE_firstLeastArc_10 : decode b_SE_firstLeastArc 10 = .ok (.aload_n 0, 1) := by decide +kernel
theorem d_SE_firstLeastArc_11 : decode b_SE_firstLeastArc 11 = .ok (.getfield 50, 3) := by decide +kernel
theorem d_SE_firstLeastArc_14 : decode b_SE_firstLeastArc 14 = .ok (.aload_n 0, 1) := by decide +kernel
theorem d_SE_firstLeastArc_15 : decode b_SE_firstLeastArc 15 = .ok (.getfield 39, 3) := by decide +kernel
theorem d_SE_firstLeastArc_18 : decode b_SE_firstLeastArc 18 = .ok (.iload_n 2, 1) := by decide +kernel
theorem d_SE_firstLeastArc_19 : decode b_SE_firstLeastArc 19 = .ok (.iaload, 1) := by decide +kernel
theorem d_SE_firstLeastArc_20 : decode b_SE_firstLeastArc 20 = .ok (.laload, 1) := by decide +kernel
theorem d_SE_firstLeastArc_21 : decode b_SE_firstLeastArc 21 = .ok (.lstore_n 3, 1) := by decide +kernel
theorem d_SE_firstLeastArc_22 : decode b_SE_firstLeastArc 22 = .ok (.aload_n 0, 1) := by decide +kernel
theorem d_SE_firstLeastArc_23 : decode b_SE_firstLeastArc 23 = .ok (.getfield 36, 3) := by decide +kernel
theorem d_SE_firstLeastArc_26 : decode b_SE_firstLeastArc 26 = .ok (.iload_n 2, 1) := by decide +kernel
theorem d_SE_firstLeastArc_27 : decode b_SE_firstLeastArc 27 = .ok (.iaload, 1) := by decide +kernel
theorem d_SE_firstLeastArc_28 : decode b_SE_firstLeastArc 28 = .ok (.iload_n 1, 1) := by decide +kernel
theorem d_SE_firstLeastArc_29 : decode b_SE_firstLeastArc 29 = .ok (.if_icmp .ne 31, 3) := by decide +kernel
theorem d_SE_firstLeastArc_32 : decode b_SE_firstLeastArc 32 = .ok (.lload_n 3, 1) := by decide +kernel
theorem d_SE_firstLeastArc_33 : decode b_SE_firstLeastArc 33 = .ok (.ldc2_w 102, 3) := by decide +kernel
theorem d_SE_firstLeastArc_36 : decode b_SE_firstLeastArc 36 = .ok (.lcmp, 1) := by decide +kernel
theorem d_SE_firstLeastArc_37 : decode b_SE_firstLeastArc 37 = .ok (.ifCond .eq 23, 3) := by decide +kernel
theorem d_SE_firstLeastArc_40 : decode b_SE_firstLeastArc 40 = .ok (.lload_n 3, 1) := by decide +kernel
theorem d_SE_firstLeastArc_41 : decode b_SE_firstLeastArc 41 = .ok (.aload_n 0, 1) := by decide +kernel
theorem d_SE_firstLeastArc_42 : decode b_SE_firstLeastArc 42 = .ok (.getfield 42, 3) := by decide +kernel
theorem d_SE_firstLeastArc_45 : decode b_SE_firstLeastArc 45 = .ok (.iload_n 2, 1) := by decide +kernel
theorem d_SE_firstLeastArc_46 : decode b_SE_firstLeastArc 46 = .ok (.laload, 1) := by decide +kernel
theorem d_SE_firstLeastArc_47 : decode b_SE_firstLeastArc 47 = .ok (.ladd, 1) := by decide +kernel
theorem d_SE_firstLeastArc_48 : decode b_SE_firstLeastArc 48 = .ok (.aload_n 0, 1) := by decide +kernel
theorem d_SE_firstLeastArc_49 : decode b_SE_firstLeastArc 49 = .ok (.getfield 50, 3) := by decide +kernel
theorem d_SE_firstLeastArc_52 : decode b_SE_firstLeastArc 52 = .ok (.iload_n 1, 1) := by decide +kernel
theorem d_SE_firstLeastArc_53 : decode b_SE_firstLeastArc 53 = .ok (.laload, 1) := by decide +kernel
theorem d_SE_firstLeastArc_54 : decode b_SE_firstLeastArc 54 = .ok (.lcmp, 1) := by decide +kernel
theorem d_SE_firstLeastArc_55 : decode b_SE_firstLeastArc 55 = .ok (.ifCond .ne 5, 3) := by decide +kernel
theorem d_SE_firstLeastArc_58 : decode b_SE_firstLeastArc 58 = .ok (.iload_n 2, 1) := by decide +kernel
theorem d_SE_firstLeastArc_59 : decode b_SE_firstLeastArc 59 = .ok (.ireturn, 1) := by decide +kernel
theorem d_SE_firstLeastArc_60 : decode b_SE_firstLeastArc 60 = .ok (.iinc 2 1, 3) := by decide +kernel
theorem d_SE_firstLeastArc_63 : decode b_SE_firstLeastArc 63 = .ok (.goto (-61), 3) := by decide +kernel
theorem d_SE_firstLeastArc_66 : decode b_SE_firstLeastArc 66 = .ok (.iconst (-1), 1) := by decide +kernel
theorem d_SE_firstLeastArc_67 : decode b_SE_firstLeastArc 67 = .ok (.ireturn, 1) := by decide +kernel
theorem d_AR_copyOf_0 : decode b_AR_copyOf 0 = .ok (.iload_n 1, 1) := by decide +kernel
theorem d_AR_copyOf_1 : decode b_AR_copyOf 1 = .ok (.aload_n 0, 1) := by decide +kernel
theorem d_AR_copyOf_2 : decode b_AR_copyOf 2 = .ok (.arraylength, 1) := by decide +kernel
theorem d_AR_copyOf_3 : decode b_AR_copyOf 3 = .ok (.if_icmp .ne 11, 3) := by decide +kernel
theorem d_AR_copyOf_6 : decode b_AR_copyOf 6 = .ok (.aload_n 0, 1) := by decide +kernel
theorem d_AR_copyOf_7 : decode b_AR_copyOf 7 = .ok (.invokevirtual 316, 3) := by decide +kernel
theorem d_AR_copyOf_10 : decode b_AR_copyOf 10 = .ok (.checkcast 317, 3) := by decide +kernel
theorem d_AR_copyOf_13 : decode b_AR_copyOf 13 = .ok (.areturn, 1) := by decide +kernel
theorem d_AR_copyOf_14 : decode b_AR_copyOf 14 = .ok (.iload_n 1, 1) := by decide +kernel
theorem d_AR_copyOf_15 : decode b_AR_copyOf 15 = .ok (.newarray .int, 2) := by decide +kernel
theorem d_AR_copyOf_17 : decode b_AR_copyOf 17 = .ok (.astore_n 2, 1) := by decide +kernel
theorem d_AR_copyOf_18 : decode b_AR_copyOf 18 = .ok (.aload_n 0, 1) := by decide +kernel
theorem d_AR_copyOf_19 : decode b_AR_copyOf 19 = .ok (.iconst 0, 1) := by decide +kernel
theorem d_AR_copyOf_20 : decode b_AR_copyOf 20 = .ok (.aload_n 2, 1) := by decide +kernel
theorem d_AR_copyOf_21 : decode b_AR_copyOf 21 = .ok (.iconst 0, 1) := by decide +kernel
theorem d_AR_copyOf_22 : decode b_AR_copyOf 22 = .ok (.aload_n 0, 1) := by decide +kernel
theorem d_AR_copyOf_23 : decode b_AR_copyOf 23 = .ok (.arraylength, 1) := by decide +kernel
theorem d_AR_copyOf_24 : decode b_AR_copyOf 24 = .ok (.iload_n 1, 1) := by decide +kernel
theorem d_AR_copyOf_25 : decode b_AR_copyOf 25 = .ok (.invokestatic 304, 3) := by decide +kernel
theorem d_AR_copyOf_28 : decode b_AR_copyOf 28 = .ok (.invokestatic 150, 3) := by decide +kernel
theorem d_AR_copyOf_31 : decode b_AR_copyOf 31 = .ok (.aload_n 2, 1) := by decide +kernel
theorem d_AR_copyOf_32 : decode b_AR_copyOf 32 = .ok (.areturn, 1) := by decide +kernel
theorem d_MA_min_0 : decode b_MA_min 0 = .ok (.iload_n 0, 1) := by decide +kernel
theorem d_MA_min_1 : decode b_MA_min 1 = .ok (.iload_n 1, 1) := by decide +kernel
theorem d_MA_min_2 : decode b_MA_min 2 = .ok (.if_icmp .gt 7, 3) := by decide +kernel
theorem d_MA_min_5 : decode b_MA_min 5 = .ok (.iload_n 0, 1) := by decide +kernel
theorem d_MA_min_6 : decode b_MA_min 6 = .ok (.goto 4, 3) := by decide +kernel
theorem d_MA_min_9 : decode b_MA_min 9 = .ok (.iload_n 1, 1) := by decide +kernel
theorem d_MA_min_10 : decode b_MA_min 10 = .ok (.ireturn, 1) := by decide +kernel
theorem d_FW_init_0 : decode b_FW_init 0 = .ok (.aload_n 0, 1) := by decide +kernel
theorem d_FW_init_1 : decode b_FW_init 1 = .ok (.invokespecial 3, 3) := by decide +kernel
theorem d_FW_init_4 : decode b_FW_init 4 = .ok (.aload_n 0, 1) := by decide +kernel
theorem d_FW_init_5 : decode b_FW_init 5 = .ok (.iload_n 1, 1) := by decide +kernel
theorem d_FW_init_6 : decode b_FW_init 6 = .ok (.putfield 9, 3) := by decide +kernel
theorem d_FW_init_9 : decode b_FW_init 9 = .ok (.aload_n 0, 1) := by decide +kernel
theorem d_FW_init_10 : decode b_FW_init 10 = .ok (.iload_n 2, 1) := by decide +kernel
theorem d_FW_init_11 : decode b_FW_init 11 = .ok (.putfield 15, 3) := by decide +kernel
theorem d_FW_init_14 : decode b_FW_init 14 = .ok (.aload_n 0, 1) := by decide +kernel
theorem d_FW_init_15 : decode b_FW_init 15 = .ok (.lload_n 3, 1) := by decide +kernel
theorem d_FW_init_16 : decode b_FW_init 16 = .ok (.putfield 18, 3) := by decide +kernel
theorem d_FW_init_19 : decode b_FW_init 19 = .ok (.aload_n 0, 1) := by decide +kernel
theorem d_FW_init_20 : decode b_FW_init 20 = .ok (.aload 5, 2) := by decide +kernel
theorem d_FW_init_22 : decode b_FW_init 22 = .ok (.putfield 22, 3) := by decide +kernel
theorem d_FW_init_25 : decode b_FW_init 25 = .ok (.aload_n 0, 1) := by decide +kernel
theorem d_FW_init_26 : decode b_FW_init 26 = .ok (.aload 6, 2) := by decide +kernel
theorem d_FW_init_28 : decode b_FW_init 28 = .ok (.putfield 26, 3) := by decide +kernel
theorem d_FW_init_31 : decode b_FW_init 31 = .ok (.return_, 1) := by decide +kernel
theorem d_WS_keep_0 : decode b_WS_keep 0 = .ok (.aload_n 1, 1) := by decide +kernel
theorem d_WS_keep_1 : decode b_WS_keep 1 = .ok (.ifnonnull 5, 3) := by decide +kernel
theorem d_WS_keep_4 : decode b_WS_keep 4 = .ok (.iconst (-1), 1) := by decide +kernel
theorem d_WS_keep_5 : decode b_WS_keep 5 = .ok (.ireturn, 1) := by decide +kernel
theorem d_WS_keep_6 : decode b_WS_keep 6 = .ok (.aload_n 0, 1) := by decide +kernel
theorem d_WS_keep_7 : decode b_WS_keep 7 = .ok (.getfield 32, 3) := by decide +kernel
theorem d_WS_keep_10 : decode b_WS_keep 10 = .ok (.bipush 64, 2) := by decide +kernel
theorem d_WS_keep_12 : decode b_WS_keep 12 = .ok (.if_icmp .lt 6, 3) := by decide +kernel
theorem d_WS_keep_15 : decode b_WS_keep 15 = .ok (.bipush (-5), 2) := by decide +kernel
theorem d_WS_keep_17 : decode b_WS_keep 17 = .ok (.ireturn, 1) := by decide +kernel
theorem d_WS_keep_18 : decode b_WS_keep 18 = .ok (.aload_n 0, 1) := by decide +kernel
theorem d_WS_keep_19 : decode b_WS_keep 19 = .ok (.getfield 28, 3) := by decide +kernel
theorem d_WS_keep_22 : decode b_WS_keep 22 = .ok (.aload_n 0, 1) := by decide +kernel
theorem d_WS_keep_23 : decode b_WS_keep 23 = .ok (.getfield 32, 3) := by decide +kernel
theorem d_WS_keep_26 : decode b_WS_keep 26 = .ok (.aload_n 1, 1) := by decide +kernel
theorem d_WS_keep_27 : decode b_WS_keep 27 = .ok (.aastore, 1) := by decide +kernel
theorem d_WS_keep_28 : decode b_WS_keep 28 = .ok (.aload_n 0, 1) := by decide +kernel
theorem d_WS_keep_29 : decode b_WS_keep 29 = .ok (.dup, 1) := by decide +kernel
theorem d_WS_keep_30 : decode b_WS_keep 30 = .ok (.getfield 32, 3) := by decide +kernel
theorem d_WS_keep_33 : decode b_WS_keep 33 = .ok (.iconst 1, 1) := by decide +kernel
theorem d_WS_keep_34 : decode b_WS_keep 34 = .ok (.iadd, 1) := by decide +kernel
theorem d_WS_keep_35 : decode b_WS_keep 35 = .ok (.putfield 32, 3) := by decide +kernel
theorem d_WS_keep_38 : decode b_WS_keep 38 = .ok (.aload_n 0, 1) := by decide +kernel
theorem d_WS_keep_39 : decode b_WS_keep 39 = .ok (.getfield 32, 3) := by decide +kernel
theorem d_WS_keep_42 : decode b_WS_keep 42 = .ok (.iconst 1, 1) := by decide +kernel
theorem d_WS_keep_43 : decode b_WS_keep 43 = .ok (.isub, 1) := by decide +kernel
theorem d_WS_keep_44 : decode b_WS_keep 44 = .ok (.ireturn, 1) := by decide +kernel
theorem d_WS_pipeOf_0 : decode b_WS_pipeOf 0 = .ok (.aload_n 0, 1) := by decide +kernel
theorem d_WS_pipeOf_1 : decode b_WS_pipeOf 1 = .ok (.iload_n 1, 1) := by decide +kernel
theorem d_WS_pipeOf_2 : decode b_WS_pipeOf 2 = .ok (.invokevirtual 80, 3) := by decide +kernel
theorem d_WS_pipeOf_5 : decode b_WS_pipeOf 5 = .ok (.astore_n 3, 1) := by decide +kernel
theorem d_WS_pipeOf_6 : decode b_WS_pipeOf 6 = .ok (.aload_n 3, 1) := by decide +kernel
theorem d_WS_pipeOf_7 : decode b_WS_pipeOf 7 = .ok (.ifnonnull 8, 3) := by decide +kernel
theorem d_WS_pipeOf_10 : decode b_WS_pipeOf 10 = .ok (.bipush (-2), 2) := by decide +kernel
theorem d_WS_pipeOf_12 : decode b_WS_pipeOf 12 = .ok (.goto 8, 3) := by decide +kernel
theorem d_WS_pipeOf_15 : decode b_WS_pipeOf 15 = .ok (.aload_n 3, 1) := by decide +kernel
theorem d_WS_pipeOf_16 : decode b_WS_pipeOf 16 = .ok (.iload_n 2, 1) := by decide +kernel
theorem d_WS_pipeOf_17 : decode b_WS_pipeOf 17 = .ok (.invokevirtual 84, 3) := by decide +kernel
theorem d_WS_pipeOf_20 : decode b_WS_pipeOf 20 = .ok (.ireturn, 1) := by decide +kernel
theorem d_WS_wayNumbered_0 : decode b_WS_wayNumbered 0 = .ok (.iload_n 1, 1) := by decide +kernel
theorem d_WS_wayNumbered_1 : decode b_WS_wayNumbered 1 = .ok (.ifCond .lt 20, 3) := by decide +kernel
theorem d_WS_wayNumbered_4 : decode b_WS_wayNumbered 4 = .ok (.iload_n 1, 1) := by decide +kernel
theorem d_WS_wayNumbered_5 : decode b_WS_wayNumbered 5 = .ok (.aload_n 0, 1) := by decide +kernel
theorem d_WS_wayNumbered_6 : decode b_WS_wayNumbered 6 = .ok (.getfield 32, 3) := by decide +kernel
theorem d_WS_wayNumbered_9 : decode b_WS_wayNumbered 9 = .ok (.if_icmp .ge 12, 3) := by decide +kernel
theorem d_WS_wayNumbered_12 : decode b_WS_wayNumbered 12 = .ok (.aload_n 0, 1) := by decide +kernel
theorem d_WS_wayNumbered_13 : decode b_WS_wayNumbered 13 = .ok (.getfield 28, 3) := by decide +kernel
theorem d_WS_wayNumbered_16 : decode b_WS_wayNumbered 16 = .ok (.iload_n 1, 1) := by decide +kernel
theorem d_WS_wayNumbered_17 : decode b_WS_wayNumbered 17 = .ok (.aaload, 1) := by decide +kernel
theorem d_WS_wayNumbered_18 : decode b_WS_wayNumbered 18 = .ok (.goto 4, 3) := by decide +kernel
theorem d_WS_wayNumbered_21 : decode b_WS_wayNumbered 21 = .ok (.aconst_null, 1) := by decide +kernel
theorem d_WS_wayNumbered_22 : decode b_WS_wayNumbered 22 = .ok (.areturn, 1) := by decide +kernel
theorem d_FW_pipeAt_0 : decode b_FW_pipeAt 0 = .ok (.iload_n 1, 1) := by decide +kernel
theorem d_FW_pipeAt_1 : decode b_FW_pipeAt 1 = .ok (.ifCond .lt 21, 3) := by decide +kernel
theorem d_FW_pipeAt_4 : decode b_FW_pipeAt 4 = .ok (.iload_n 1, 1) := by decide +kernel
theorem d_FW_pipeAt_5 : decode b_FW_pipeAt 5 = .ok (.aload_n 0, 1) := by decide +kernel
theorem d_FW_pipeAt_6 : decode b_FW_pipeAt 6 = .ok (.getfield 22, 3) := by decide +kernel
theorem d_FW_pipeAt_9 : decode b_FW_pipeAt 9 = .ok (.arraylength, 1) := by decide +kernel
theorem d_FW_pipeAt_10 : decode b_FW_pipeAt 10 = .ok (.if_icmp .ge 12, 3) := by decide +kernel
theorem d_FW_pipeAt_13 : decode b_FW_pipeAt 13 = .ok (.aload_n 0, 1) := by decide +kernel
theorem d_FW_pipeAt_14 : decode b_FW_pipeAt 14 = .ok (.getfield 22, 3) := by decide +kernel
theorem d_FW_pipeAt_17 : decode b_FW_pipeAt 17 = .ok (.iload_n 1, 1) := by decide +kernel
theorem d_FW_pipeAt_18 : decode b_FW_pipeAt 18 = .ok (.iaload, 1) := by decide +kernel
theorem d_FW_pipeAt_19 : decode b_FW_pipeAt 19 = .ok (.goto 4, 3) := by decide +kernel
theorem d_FW_pipeAt_22 : decode b_FW_pipeAt 22 = .ok (.iconst (-1), 1) := by decide +kernel
theorem d_FW_pipeAt_23 : decode b_FW_pipeAt 23 = .ok (.ireturn, 1) := by decide +kernel
theorem d_WS_valveOf_0 : decode b_WS_valveOf 0 = .ok (.aload_n 0, 1) := by decide +kernel
theorem d_WS_valveOf_1 : decode b_WS_valveOf 1 = .ok (.iload_n 1, 1) := by decide +kernel
theorem d_WS_valveOf_2 : decode b_WS_valveOf 2 = .ok (.invokevirtual 80, 3) := by decide +kernel
theorem d_WS_valveOf_5 : decode b_WS_valveOf 5 = .ok (.astore_n 3, 1) := by decide +kernel
theorem d_WS_valveOf_6 : decode b_WS_valveOf 6 = .ok (.aload_n 3, 1) := by decide +kernel
theorem d_WS_valveOf_7 : decode b_WS_valveOf 7 = .ok (.ifnonnull 6, 3) := by decide +kernel
theorem d_WS_valveOf_10 : decode b_WS_valveOf 10 = .ok (.bipush (-2), 2) := by decide +kernel
theorem d_WS_valveOf_12 : decode b_WS_valveOf 12 = .ok (.ireturn, 1) := by decide +kernel
theorem d_WS_valveOf_13 : decode b_WS_valveOf 13 = .ok (.iconst 0, 1) := by decide +kernel
theorem d_WS_valveOf_14 : decode b_WS_valveOf 14 = .ok (.istore 4, 2) := by decide +kernel
theorem d_WS_valveOf_16 : decode b_WS_valveOf 16 = .ok (.aload_n 3, 1) := by decide +kernel
theorem d_WS_valveOf_17 : decode b_WS_valveOf 17 = .ok (.getfield 88, 3) := by decide +kernel
theorem d_WS_valveOf_20 : decode b_WS_valveOf 20 = .ok (.astore 5, 2) := by decide +kernel
theorem d_WS_valveOf_22 : decode b_WS_valveOf 22 = .ok (.aload 5, 2) := by decide +kernel
theorem d_WS_valveOf_24 : decode b_WS_valveOf 24 = .ok (.arraylength, 1) := by decide +kernel
theorem d_WS_valveOf_25 : decode b_WS_valveOf 25 = .ok (.istore 6, 2) := by decide +kernel
theorem d_WS_valveOf_27 : decode b_WS_valveOf 27 = .ok (.iconst 0, 1) := by decide +kernel
theorem d_WS_valveOf_28 : decode b_WS_valveOf 28 = .ok (.istore 7, 2) := by decide +kernel
theorem d_WS_valveOf_30 : decode b_WS_valveOf 30 = .ok (.iload 7, 2) := by decide +kernel
theorem d_WS_valveOf_32 : decode b_WS_valveOf 32 = .ok (.iload 6, 2) := by decide +kernel
theorem d_WS_valveOf_34 : decode b_WS_valveOf 34 = .ok (.if_icmp .ge 41, 3) := by decide +kernel
theorem d_WS_valveOf_37 : decode b_WS_valveOf 37 = .ok (.aload 5, 2) := by decide +kernel
theorem d_WS_valveOf_39 : decode b_WS_valveOf 39 = .ok (.iload 7, 2) := by decide +kernel
theorem d_WS_valveOf_41 : decode b_WS_valveOf 41 = .ok (.iaload, 1) := by decide +kernel
theorem d_WS_valveOf_42 : decode b_WS_valveOf 42 = .ok (.istore 8, 2) := by decide +kernel
theorem d_WS_valveOf_44 : decode b_WS_valveOf 44 = .ok (.aload_n 0, 1) := by decide +kernel
theorem d_WS_valveOf_45 : decode b_WS_valveOf 45 = .ok (.getfield 20, 3) := by decide +kernel
theorem d_WS_valveOf_48 : decode b_WS_valveOf 48 = .ok (.iload 8, 2) := by decide +kernel
theorem d_WS_valveOf_50 : decode b_WS_valveOf 50 = .ok (.iconst 2, 1) := by decide +kernel
theorem d_WS_valveOf_51 : decode b_WS_valveOf 51 = .ok (.invokevirtual 91, 3) := by decide +kernel
theorem d_WS_valveOf_54 : decode b_WS_valveOf 54 = .ok (.ifCond .eq 15, 3) := by decide +kernel
theorem d_WS_valveOf_57 : decode b_WS_valveOf 57 = .ok (.iload 4, 2) := by decide +kernel
theorem d_WS_valveOf_59 : decode b_WS_valveOf 59 = .ok (.iload_n 2, 1) := by decide +kernel
theorem d_WS_valveOf_60 : decode b_WS_valveOf 60 = .ok (.if_icmp .ne 6, 3) := by decide +kernel
theorem d_WS_valveOf_63 : decode b_WS_valveOf 63 = .ok (.iload 8, 2) := by decide +kernel
theorem d_WS_valveOf_65 : decode b_WS_valveOf 65 = .ok (.ireturn, 1) := by decide +kernel
theorem d_WS_valveOf_66 : decode b_WS_valveOf 66 = .ok (.iinc 4 1, 3) := by decide +kernel
theorem d_WS_valveOf_69 : decode b_WS_valveOf 69 = .ok (.iinc 7 1, 3) := by decide +kernel
theorem d_WS_valveOf_72 : decode b_WS_valveOf 72 = .ok (.goto (-42), 3) := by decide +kernel
theorem d_WS_valveOf_75 : decode b_WS_valveOf 75 = .ok (.iconst (-1), 1) := by decide +kernel
theorem d_WS_valveOf_76 : decode b_WS_valveOf 76 = .ok (.ireturn, 1) := by decide +kernel
theorem d_WS_rest_0 : decode b_WS_rest 0 = .ok (.aload_n 0, 1) := by decide +kernel
theorem d_WS_rest_1 : decode b_WS_rest 1 = .ok (.iload_n 1, 1) := by decide +kernel
theorem d_WS_rest_2 : decode b_WS_rest 2 = .ok (.invokevirtual 80, 3) := by decide +kernel
theorem d_WS_rest_5 : decode b_WS_rest 5 = .ok (.astore_n 2, 1) := by decide +kernel
theorem d_WS_rest_6 : decode b_WS_rest 6 = .ok (.aload_n 2, 1) := by decide +kernel
theorem d_WS_rest_7 : decode b_WS_rest 7 = .ok (.ifnonnull 9, 3) := by decide +kernel
theorem d_WS_rest_10 : decode b_WS_rest 10 = .ok (.ldc2_w 95, 3) := by decide +kernel
theorem d_WS_rest_13 : decode b_WS_rest 13 = .ok (.goto 7, 3) := by decide +kernel
theorem d_WS_rest_16 : decode b_WS_rest 16 = .ok (.aload_n 2, 1) := by decide +kernel
theorem d_WS_rest_17 : decode b_WS_rest 17 = .ok (.getfield 97, 3) := by decide +kernel
theorem d_WS_rest_20 : decode b_WS_rest 20 = .ok (.lreturn, 1) := by decide +kernel
theorem d_WS_other_0 : decode b_WS_other 0 = .ok (.aload_n 0, 1) := by decide +kernel
theorem d_WS_other_1 : decode b_WS_other 1 = .ok (.iload_n 1, 1) := by decide +kernel
theorem d_WS_other_2 : decode b_WS_other 2 = .ok (.invokevirtual 80, 3) := by decide +kernel
theorem d_WS_other_5 : decode b_WS_other 5 = .ok (.astore_n 3, 1) := by decide +kernel
theorem d_WS_other_6 : decode b_WS_other 6 = .ok (.aload_n 3, 1) := by decide +kernel
theorem d_WS_other_7 : decode b_WS_other 7 = .ok (.ifnonnull 6, 3) := by decide +kernel
theorem d_WS_other_10 : decode b_WS_other 10 = .ok (.bipush (-2), 2) := by decide +kernel
theorem d_WS_other_12 : decode b_WS_other 12 = .ok (.ireturn, 1) := by decide +kernel
theorem d_WS_other_13 : decode b_WS_other 13 = .ok (.aload_n 3, 1) := by decide +kernel
theorem d_WS_other_14 : decode b_WS_other 14 = .ok (.iload_n 2, 1) := by decide +kernel
theorem d_WS_other_15 : decode b_WS_other 15 = .ok (.invokevirtual 84, 3) := by decide +kernel
theorem d_WS_other_18 : decode b_WS_other 18 = .ok (.istore 4, 2) := by decide +kernel
theorem d_WS_other_20 : decode b_WS_other 20 = .ok (.iload 4, 2) := by decide +kernel
theorem d_WS_other_22 : decode b_WS_other 22 = .ok (.iconst (-1), 1) := by decide +kernel
theorem d_WS_other_23 : decode b_WS_other 23 = .ok (.if_icmp .ne 5, 3) := by decide +kernel
theorem d_WS_other_26 : decode b_WS_other 26 = .ok (.iconst (-1), 1) := by decide +kernel
theorem d_WS_other_27 : decode b_WS_other 27 = .ok (.ireturn, 1) := by decide +kernel
theorem d_WS_other_28 : decode b_WS_other 28 = .ok (.aload_n 0, 1) := by decide +kernel
theorem d_WS_other_29 : decode b_WS_other 29 = .ok (.getfield 10, 3) := by decide +kernel
theorem d_WS_other_32 : decode b_WS_other 32 = .ok (.invokevirtual 69, 3) := by decide +kernel
theorem d_WS_other_35 : decode b_WS_other 35 = .ok (.aload_n 0, 1) := by decide +kernel
theorem d_WS_other_36 : decode b_WS_other 36 = .ok (.getfield 10, 3) := by decide +kernel
theorem d_WS_other_39 : decode b_WS_other 39 = .ok (.iload 4, 2) := by decide +kernel
theorem d_WS_other_41 : decode b_WS_other 41 = .ok (.invokevirtual 101, 3) := by decide +kernel
theorem d_WS_other_44 : decode b_WS_other 44 = .ok (.aload_n 0, 1) := by decide +kernel
theorem d_WS_other_45 : decode b_WS_other 45 = .ok (.aload_n 0, 1) := by decide +kernel
theorem d_WS_other_46 : decode b_WS_other 46 = .ok (.getfield 10, 3) := by decide +kernel
theorem d_WS_other_49 : decode b_WS_other 49 = .ok (.aload_n 3, 1) := by decide +kernel
theorem d_WS_other_50 : decode b_WS_other 50 = .ok (.getfield 105, 3) := by decide +kernel
theorem d_WS_other_53 : decode b_WS_other 53 = .ok (.aload_n 3, 1) := by decide +kernel
theorem d_WS_other_54 : decode b_WS_other 54 = .ok (.getfield 108, 3) := by decide +kernel
theorem d_WS_other_57 : decode b_WS_other 57 = .ok (.invokevirtual 72, 3) := by decide +kernel
theorem d_WS_other_60 : decode b_WS_other 60 = .ok (.invokevirtual 76, 3) := by decide +kernel
theorem d_WS_other_63 : decode b_WS_other 63 = .ok (.ireturn, 1) := by decide +kernel
theorem d_SE_shutPipe_0 : decode b_SE_shutPipe 0 = .ok (.aload_n 0, 1) := by decide +kernel
theorem d_SE_shutPipe_1 : decode b_SE_shutPipe 1 = .ok (.getfield 21, 3) := by decide +kernel
theorem d_SE_shutPipe_4 : decode b_SE_shutPipe 4 = .ok (.iload_n 1, 1) := by decide +kernel
theorem d_SE_shutPipe_5 : decode b_SE_shutPipe 5 = .ok (.invokevirtual 79, 3) := by decide +kernel
theorem d_SE_shutPipe_8 : decode b_SE_shutPipe 8 = .ok (.ifCond .eq 10, 3) := by decide +kernel
theorem d_SE_shutPipe_11 : decode b_SE_shutPipe 11 = .ok (.aload_n 0, 1) := by decide +kernel
theorem d_SE_shutPipe_12 : decode b_SE_shutPipe 12 = .ok (.getfield 29, 3) := by decide +kernel
theorem d_SE_shutPipe_15 : decode b_SE_shutPipe 15 = .ok (.iload_n 1, 1) := by decide +kernel
theorem d_SE_shutPipe_16 : decode b_SE_shutPipe 16 = .ok (.iconst 1, 1) := by decide +kernel
theorem d_SE_shutPipe_17 : decode b_SE_shutPipe 17 = .ok (.bastore, 1) := by decide +kernel
theorem d_SE_shutPipe_18 : decode b_SE_shutPipe 18 = .ok (.return_, 1) := by decide +kernel
theorem d_WS_two_0 : decode b_WS_two 0 = .ok (.aload_n 0, 1) := by decide +kernel
theorem d_WS_two_1 : decode b_WS_two 1 = .ok (.iload_n 1, 1) := by decide +kernel
theorem d_WS_two_2 : decode b_WS_two 2 = .ok (.iload_n 2, 1) := by decide +kernel
theorem d_WS_two_3 : decode b_WS_two 3 = .ok (.invokevirtual 65, 3) := by decide +kernel
theorem d_WS_two_6 : decode b_WS_two 6 = .ok (.istore 5, 2) := by decide +kernel
theorem d_WS_two_8 : decode b_WS_two 8 = .ok (.iload 5, 2) := by decide +kernel
theorem d_WS_two_10 : decode b_WS_two 10 = .ok (.ifCond .ne 12, 3) := by decide +kernel
theorem d_WS_two_13 : decode b_WS_two 13 = .ok (.aload_n 0, 1) := by decide +kernel
theorem d_WS_two_14 : decode b_WS_two 14 = .ok (.iload_n 3, 1) := by decide +kernel
theorem d_WS_two_15 : decode b_WS_two 15 = .ok (.iload 4, 2) := by decide +kernel
theorem d_WS_two_17 : decode b_WS_two 17 = .ok (.invokevirtual 65, 3) := by decide +kernel
theorem d_WS_two_20 : decode b_WS_two 20 = .ok (.istore 5, 2) := by decide +kernel
theorem d_WS_two_22 : decode b_WS_two 22 = .ok (.iload 5, 2) := by decide +kernel
theorem d_WS_two_24 : decode b_WS_two 24 = .ok (.ifCond .eq 6, 3) := by decide +kernel
theorem d_WS_two_27 : decode b_WS_two 27 = .ok (.iload 5, 2) := by decide +kernel
theorem d_WS_two_29 : decode b_WS_two 29 = .ok (.ireturn, 1) := by decide +kernel
theorem d_WS_two_30 : decode b_WS_two 30 = .ok (.aload_n 0, 1) := by decide +kernel
theorem d_WS_two_31 : decode b_WS_two 31 = .ok (.getfield 10, 3) := by decide +kernel
theorem d_WS_two_34 : decode b_WS_two 34 = .ok (.invokevirtual 69, 3) := by decide +kernel
theorem d_WS_two_37 : decode b_WS_two 37 = .ok (.aload_n 0, 1) := by decide +kernel
theorem d_WS_two_38 : decode b_WS_two 38 = .ok (.getfield 10, 3) := by decide +kernel
theorem d_WS_two_41 : decode b_WS_two 41 = .ok (.iload_n 1, 1) := by decide +kernel
theorem d_WS_two_42 : decode b_WS_two 42 = .ok (.iload_n 2, 1) := by decide +kernel
theorem d_WS_two_43 : decode b_WS_two 43 = .ok (.invokevirtual 72, 3) := by decide +kernel
theorem d_WS_two_46 : decode b_WS_two 46 = .ok (.astore 6, 2) := by decide +kernel
theorem d_WS_two_48 : decode b_WS_two 48 = .ok (.aload 6, 2) := by decide +kernel
theorem d_WS_two_50 : decode b_WS_two 50 = .ok (.ifnonnull 5, 3) := by decide +kernel
theorem d_WS_two_53 : decode b_WS_two 53 = .ok (.iconst (-1), 1) := by decide +kernel
theorem d_WS_two_54 : decode b_WS_two 54 = .ok (.ireturn, 1) := by decide +kernel
theorem d_WS_two_55 : decode b_WS_two 55 = .ok (.aload_n 0, 1) := by decide +kernel
theorem d_WS_two_56 : decode b_WS_two 56 = .ok (.getfield 10, 3) := by decide +kernel
theorem d_WS_two_59 : decode b_WS_two 59 = .ok (.aload 6, 2) := by decide +kernel
theorem d_WS_two_61 : decode b_WS_two 61 = .ok (.invokevirtual 111, 3) := by decide +kernel
theorem d_WS_two_64 : decode b_WS_two 64 = .ok (.aload_n 0, 1) := by decide +kernel
theorem d_WS_two_65 : decode b_WS_two 65 = .ok (.getfield 10, 3) := by decide +kernel
theorem d_WS_two_68 : decode b_WS_two 68 = .ok (.iload_n 3, 1) := by decide +kernel
theorem d_WS_two_69 : decode b_WS_two 69 = .ok (.iload 4, 2) := by decide +kernel
theorem d_WS_two_71 : decode b_WS_two 71 = .ok (.invokevirtual 72, 3) := by decide +kernel
theorem d_WS_two_74 : decode b_WS_two 74 = .ok (.astore 7, 2) := by decide +kernel
theorem d_WS_two_76 : decode b_WS_two 76 = .ok (.aload 7, 2) := by decide +kernel
theorem d_WS_two_78 : decode b_WS_two 78 = .ok (.ifnonnull 5, 3) := by decide +kernel
theorem d_WS_two_81 : decode b_WS_two 81 = .ok (.iconst (-1), 1) := by decide +kernel
theorem d_WS_two_82 : decode b_WS_two 82 = .ok (.ireturn, 1) := by decide +kernel
theorem d_WS_two_83 : decode b_WS_two 83 = .ok (.aload_n 0, 1) := by decide +kernel
theorem d_WS_two_84 : decode b_WS_two 84 = .ok (.getfield 32, 3) := by decide +kernel
theorem d_WS_two_87 : decode b_WS_two 87 = .ok (.iconst 2, 1) := by decide +kernel
theorem d_WS_two_88 : decode b_WS_two 88 = .ok (.iadd, 1) := by decide +kernel
theorem d_WS_two_89 : decode b_WS_two 89 = .ok (.bipush 64, 2) := by decide +kernel
theorem d_WS_two_91 : decode b_WS_two 91 = .ok (.if_icmp .le 6, 3) := by decide +kernel
theorem d_WS_two_94 : decode b_WS_two 94 = .ok (.bipush (-5), 2) := by decide +kernel
theorem d_WS_two_96 : decode b_WS_two 96 = .ok (.ireturn, 1) := by decide +kernel
theorem d_WS_two_97 : decode b_WS_two 97 = .ok (.aload_n 0, 1) := by decide +kernel
theorem d_WS_two_98 : decode b_WS_two 98 = .ok (.aload 6, 2) := by decide +kernel
theorem d_WS_two_100 : decode b_WS_two 100 = .ok (.invokevirtual 76, 3) := by decide +kernel
theorem d_WS_two_103 : decode b_WS_two 103 = .ok (.pop, 1) := by decide +kernel
theorem d_WS_two_104 : decode b_WS_two 104 = .ok (.aload_n 0, 1) := by decide +kernel
theorem d_WS_two_105 : decode b_WS_two 105 = .ok (.aload 7, 2) := by decide +kernel
theorem d_WS_two_107 : decode b_WS_two 107 = .ok (.invokevirtual 76, 3) := by decide +kernel
theorem d_WS_two_110 : decode b_WS_two 110 = .ok (.ireturn, 1) := by decide +kernel
theorem d_SE_shutWay_0 : decode b_SE_shutWay 0 = .ok (.aload_n 1, 1) := by decide +kernel
theorem d_SE_shutWay_1 : decode b_SE_shutWay 1 = .ok (.getfield 83, 3) := by decide +kernel
theorem d_SE_shutWay_4 : decode b_SE_shutWay 4 = .ok (.astore_n 2, 1) := by decide +kernel
theorem d_SE_shutWay_5 : decode b_SE_shutWay 5 = .ok (.aload_n 2, 1) := by decide +kernel
theorem d_SE_shutWay_6 : decode b_SE_shutWay 6 = .ok (.arraylength, 1) := by decide +kernel
theorem d_SE_shutWay_7 : decode b_SE_shutWay 7 = .ok (.istore_n 3, 1) := by decide +kernel
theorem d_SE_shutWay_8 : decode b_SE_shutWay 8 = .ok (.iconst 0, 1) := by decide +kernel
theorem d_SE_shutWay_9 : decode b_SE_shutWay 9 = .ok (.istore 4, 2) := by decide +kernel
theorem d_SE_shutWay_11 : decode b_SE_shutWay 11 = .ok (.iload 4, 2) := by decide +kernel
theorem d_SE_shutWay_13 : decode b_SE_shutWay 13 = .ok (.iload_n 3, 1) := by decide +kernel
theorem d_SE_shutWay_14 : decode b_SE_shutWay 14 = .ok (.if_icmp .ge 21, 3) := by decide +kernel
theorem d_SE_shutWay_17 : decode b_SE_shutWay 17 = .ok (.aload_n 2, 1) := by decide +kernel
theorem d_SE_shutWay_18 : decode b_SE_shutWay 18 = .ok (.iload 4, 2) := by decide +kernel
theorem d_SE_shutWay_20 : decode b_SE_shutWay 20 = .ok (.iaload, 1) := by decide +kernel
theorem d_SE_shutWay_21 : decode b_SE_shutWay 21 = .ok (.istore 5, 2) := by decide +kernel
theorem d_SE_shutWay_23 : decode b_SE_shutWay 23 = .ok (.aload_n 0, 1) := by decide +kernel
theorem d_SE_shutWay_24 : decode b_SE_shutWay 24 = .ok (.iload 5, 2) := by decide +kernel
theorem d_SE_shutWay_26 : decode b_SE_shutWay 26 = .ok (.invokevirtual 87, 3) := by decide +kernel
theorem d_SE_shutWay_29 : decode b_SE_shutWay 29 = .ok (.iinc 4 1, 3) := by decide +kernel
theorem d_SE_shutWay_32 : decode b_SE_shutWay 32 = .ok (.goto (-21), 3) := by decide +kernel
theorem d_SE_shutWay_35 : decode b_SE_shutWay 35 = .ok (.aload_n 1, 1) := by decide +kernel
theorem d_SE_shutWay_36 : decode b_SE_shutWay 36 = .ok (.getfield 90, 3) := by decide +kernel
theorem d_SE_shutWay_39 : decode b_SE_shutWay 39 = .ok (.astore_n 2, 1) := by decide +kernel
theorem d_SE_shutWay_40 : decode b_SE_shutWay 40 = .ok (.aload_n 2, 1) := by decide +kernel
theorem d_SE_shutWay_41 : decode b_SE_shutWay 41 = .ok (.arraylength, 1) := by decide +kernel
theorem d_SE_shutWay_42 : decode b_SE_shutWay 42 = .ok (.istore_n 3, 1) := by decide +kernel
theorem d_SE_shutWay_43 : decode b_SE_shutWay 43 = .ok (.iconst 0, 1) := by decide +kernel
theorem d_SE_shutWay_44 : decode b_SE_shutWay 44 = .ok (.istore 4, 2) := by decide +kernel
theorem d_SE_shutWay_46 : decode b_SE_shutWay 46 = .ok (.iload 4, 2) := by decide +kernel
theorem d_SE_shutWay_48 : decode b_SE_shutWay 48 = .ok (.iload_n 3, 1) := by decide +kernel
theorem d_SE_shutWay_49 : decode b_SE_shutWay 49 = .ok (.if_icmp .ge 21, 3) := by decide +kernel
theorem d_SE_shutWay_52 : decode b_SE_shutWay 52 = .ok (.aload_n 2, 1) := by decide +kernel
theorem d_SE_shutWay_53 : decode b_SE_shutWay 53 = .ok (.iload 4, 2) := by decide +kernel
theorem d_SE_shutWay_55 : decode b_SE_shutWay 55 = .ok (.iaload, 1) := by decide +kernel
theorem d_SE_shutWay_56 : decode b_SE_shutWay 56 = .ok (.istore 5, 2) := by decide +kernel
theorem d_SE_shutWay_58 : decode b_SE_shutWay 58 = .ok (.aload_n 0, 1) := by decide +kernel
theorem d_SE_shutWay_59 : decode b_SE_shutWay 59 = .ok (.iload 5, 2) := by decide +kernel
theorem d_SE_shutWay_61 : decode b_SE_shutWay 61 = .ok (.invokevirtual 72, 3) := by decide +kernel
theorem d_SE_shutWay_64 : decode b_SE_shutWay 64 = .ok (.iinc 4 1, 3) := by decide +kernel
theorem d_SE_shutWay_67 : decode b_SE_shutWay 67 = .ok (.goto (-21), 3) := by decide +kernel
theorem d_SE_shutWay_70 : decode b_SE_shutWay 70 = .ok (.return_, 1) := by decide +kernel
theorem d_WS_forward_0 : decode b_WS_forward 0 = .ok (.aload_n 0, 1) := by decide +kernel
theorem d_WS_forward_1 : decode b_WS_forward 1 = .ok (.getfield 20, 3) := by decide +kernel
theorem d_WS_forward_4 : decode b_WS_forward 4 = .ok (.iload_n 1, 1) := by decide +kernel
theorem d_WS_forward_5 : decode b_WS_forward 5 = .ok (.iconst 1, 1) := by decide +kernel
theorem d_WS_forward_6 : decode b_WS_forward 6 = .ok (.invokevirtual 91, 3) := by decide +kernel
theorem d_WS_forward_9 : decode b_WS_forward 9 = .ok (.ifCond .eq 8, 3) := by decide +kernel
theorem d_WS_forward_12 : decode b_WS_forward 12 = .ok (.iload_n 2, 1) := by decide +kernel
theorem d_WS_forward_13 : decode b_WS_forward 13 = .ok (.iload_n 3, 1) := by decide +kernel
theorem d_WS_forward_14 : decode b_WS_forward 14 = .ok (.if_icmp .ne 5, 3) := by decide +kernel
theorem d_WS_forward_17 : decode b_WS_forward 17 = .ok (.iconst 0, 1) := by decide +kernel
theorem d_WS_forward_18 : decode b_WS_forward 18 = .ok (.ireturn, 1) := by decide +kernel
theorem d_WS_forward_19 : decode b_WS_forward 19 = .ok (.aload_n 0, 1) := by decide +kernel
theorem d_WS_forward_20 : decode b_WS_forward 20 = .ok (.getfield 25, 3) := by decide +kernel
theorem d_WS_forward_23 : decode b_WS_forward 23 = .ok (.iload_n 1, 1) := by decide +kernel
theorem d_WS_forward_24 : decode b_WS_forward 24 = .ok (.iload_n 2, 1) := by decide +kernel
theorem d_WS_forward_25 : decode b_WS_forward 25 = .ok (.invokevirtual 115, 3) := by decide +kernel
theorem d_WS_forward_28 : decode b_WS_forward 28 = .ok (.ifCond .eq 15, 3) := by decide +kernel
theorem d_WS_forward_31 : decode b_WS_forward 31 = .ok (.aload_n 0, 1) := by decide +kernel
theorem d_WS_forward_32 : decode b_WS_forward 32 = .ok (.getfield 25, 3) := by decide +kernel
theorem d_WS_forward_35 : decode b_WS_forward 35 = .ok (.iload_n 1, 1) := by decide +kernel
theorem d_WS_forward_36 : decode b_WS_forward 36 = .ok (.iload_n 3, 1) := by decide +kernel
theorem d_WS_forward_37 : decode b_WS_forward 37 = .ok (.invokevirtual 115, 3) := by decide +kernel
theorem d_WS_forward_40 : decode b_WS_forward 40 = .ok (.ifCond .ne 5, 3) := by decide +kernel
theorem d_WS_forward_43 : decode b_WS_forward 43 = .ok (.iconst 0, 1) := by decide +kernel
theorem d_WS_forward_44 : decode b_WS_forward 44 = .ok (.ireturn, 1) := by decide +kernel
theorem d_WS_forward_45 : decode b_WS_forward 45 = .ok (.aload_n 0, 1) := by decide +kernel
theorem d_WS_forward_46 : decode b_WS_forward 46 = .ok (.getfield 20, 3) := by decide +kernel
theorem d_WS_forward_49 : decode b_WS_forward 49 = .ok (.getfield 118, 3) := by decide +kernel
theorem d_WS_forward_52 : decode b_WS_forward 52 = .ok (.iload_n 1, 1) := by decide +kernel
theorem d_WS_forward_53 : decode b_WS_forward 53 = .ok (.iload_n 2, 1) := by decide +kernel
theorem d_WS_forward_54 : decode b_WS_forward 54 = .ok (.iastore, 1) := by decide +kernel
theorem d_WS_forward_55 : decode b_WS_forward 55 = .ok (.aload_n 0, 1) := by decide +kernel
theorem d_WS_forward_56 : decode b_WS_forward 56 = .ok (.getfield 20, 3) := by decide +kernel
theorem d_WS_forward_59 : decode b_WS_forward 59 = .ok (.getfield 121, 3) := by decide +kernel
theorem d_WS_forward_62 : decode b_WS_forward 62 = .ok (.iload_n 1, 1) := by decide +kernel
theorem d_WS_forward_63 : decode b_WS_forward 63 = .ok (.iload_n 3, 1) := by decide +kernel
theorem d_WS_forward_64 : decode b_WS_forward 64 = .ok (.iastore, 1) := by decide +kernel
theorem d_WS_forward_65 : decode b_WS_forward 65 = .ok (.iconst 1, 1) := by decide +kernel
theorem d_WS_forward_66 : decode b_WS_forward 66 = .ok (.ireturn, 1) := by decide +kernel
theorem d_PI_anyJoins_0 : decode b_PI_anyJoins 0 = .ok (.iconst 0, 1) := by decide +kernel
theorem d_PI_anyJoins_1 : decode b_PI_anyJoins 1 = .ok (.istore_n 3, 1) := by decide +kernel
theorem d_PI_anyJoins_2 : decode b_PI_anyJoins 2 = .ok (.iload_n 3, 1) := by decide +kernel
theorem d_PI_anyJoins_3 : decode b_PI_anyJoins 3 = .ok (.aload_n 0, 1) := by decide +kernel
theorem d_PI_anyJoins_4 : decode b_PI_anyJoins 4 = .ok (.getfield 26, 3) := by decide +kernel
theorem d_PI_anyJoins_7 : decode b_PI_anyJoins 7 = .ok (.if_icmp .ge 75, 3) := by decide +kernel
theorem d_PI_anyJoins_10 : decode b_PI_anyJoins 10 = .ok (.aload_n 0, 1) := by decide +kernel
theorem d_PI_anyJoins_11 : decode b_PI_anyJoins 11 = .ok (.getfield 9, 3) := by decide +kernel
theorem d_PI_anyJoins_14 : decode b_PI_anyJoins 14 = .ok (.iload_n 3, 1) := by decide +kernel
theorem d_PI_anyJoins_15 : decode b_PI_anyJoins 15 = .ok (.iaload, 1) := by decide +kernel
theorem d_PI_anyJoins_16 : decode b_PI_anyJoins 16 = .ok (.iload_n 1, 1) := by decide +kernel
theorem d_PI_anyJoins_17 : decode b_PI_anyJoins 17 = .ok (.if_icmp .ne 17, 3) := by decide +kernel
theorem d_PI_anyJoins_20 : decode b_PI_anyJoins 20 = .ok (.aload_n 0, 1) := by decide +kernel
theorem d_PI_anyJoins_21 : decode b_PI_anyJoins 21 = .ok (.getfield 15, 3) := by decide +kernel
theorem d_PI_anyJoins_24 : decode b_PI_anyJoins 24 = .ok (.iload_n 3, 1) := by decide +kernel
theorem d_PI_anyJoins_25 : decode b_PI_anyJoins 25 = .ok (.iaload, 1) := by decide +kernel
theorem d_PI_anyJoins_26 : decode b_PI_anyJoins 26 = .ok (.iload_n 2, 1) := by decide +kernel
theorem d_PI_anyJoins_27 : decode b_PI_anyJoins 27 = .ok (.if_icmp .ne 7, 3) := by decide +kernel
theorem d_PI_anyJoins_30 : decode b_PI_anyJoins 30 = .ok (.iconst 1, 1) := by decide +kernel
theorem d_PI_anyJoins_31 : decode b_PI_anyJoins 31 = .ok (.goto 4, 3) := by decide +kernel
theorem d_PI_anyJoins_34 : decode b_PI_anyJoins 34 = .ok (.iconst 0, 1) := by decide +kernel
theorem d_PI_anyJoins_35 : decode b_PI_anyJoins 35 = .ok (.istore 4, 2) := by decide +kernel
theorem d_PI_anyJoins_37 : decode b_PI_anyJoins 37 = .ok (.aload_n 0, 1) := by decide +kernel
theorem d_PI_anyJoins_38 : decode b_PI_anyJoins 38 = .ok (.getfield 9, 3) := by decide +kernel
theorem d_PI_anyJoins_41 : decode b_PI_anyJoins 41 = .ok (.iload_n 3, 1) := by decide +kernel
theorem d_PI_anyJoins_42 : decode b_PI_anyJoins 42 = .ok (.iaload, 1) := by decide +kernel
theorem d_PI_anyJoins_43 : decode b_PI_anyJoins 43 = .ok (.iload_n 2, 1) := by decide +kernel
theorem d_PI_anyJoins_44 : decode b_PI_anyJoins 44 = .ok (.if_icmp .ne 17, 3) := by decide +kernel
theorem d_PI_anyJoins_47 : decode b_PI_anyJoins 47 = .ok (.aload_n 0, 1) := by decide +kernel
theorem d_PI_anyJoins_48 : decode b_PI_anyJoins 48 = .ok (.getfield 15, 3) := by decide +kernel
theorem d_PI_anyJoins_51 : decode b_PI_anyJoins 51 = .ok (.iload_n 3, 1) := by decide +kernel
theorem d_PI_anyJoins_52 : decode b_PI_anyJoins 52 = .ok (.iaload, 1) := by decide +kernel
theorem d_PI_anyJoins_53 : decode b_PI_anyJoins 53 = .ok (.iload_n 1, 1) := by decide +kernel
theorem d_PI_anyJoins_54 : decode b_PI_anyJoins 54 = .ok (.if_icmp .ne 7, 3) := by decide +kernel
theorem d_PI_anyJoins_57 : decode b_PI_anyJoins 57 = .ok (.iconst 1, 1) := by decide +kernel
theorem d_PI_anyJoins_58 : decode b_PI_anyJoins 58 = .ok (.goto 4, 3) := by decide +kernel
theorem d_PI_anyJoins_61 : decode b_PI_anyJoins 61 = .ok (.iconst 0, 1) := by decide +kernel
theorem d_PI_anyJoins_62 : decode b_PI_anyJoins 62 = .ok (.istore 5, 2) := by decide +kernel
theorem d_PI_anyJoins_64 : decode b_PI_anyJoins 64 = .ok (.iload 4, 2) := by decide +kernel
theorem d_PI_anyJoins_66 : decode b_PI_anyJoins 66 = .ok (.ifCond .ne 8, 3) := by decide +kernel
theorem d_PI_anyJoins_69 : decode b_PI_anyJoins 69 = .ok (.iload 5, 2) := by decide +kernel
theorem d_PI_anyJoins_71 : decode b_PI_anyJoins 71 = .ok (.ifCond .eq 5, 3) := by decide +kernel
theorem d_PI_anyJoins_74 : decode b_PI_anyJoins 74 = .ok (.iconst 1, 1) := by decide +kernel
theorem d_PI_anyJoins_75 : decode b_PI_anyJoins 75 = .ok (.ireturn, 1) := by decide +kernel
theorem d_PI_anyJoins_76 : decode b_PI_anyJoins 76 = .ok (.iinc 3 1, 3) := by decide +kernel
theorem d_PI_anyJoins_79 : decode b_PI_anyJoins 79 = .ok (.goto (-77), 3) := by decide +kernel
theorem d_PI_anyJoins_82 : decode b_PI_anyJoins 82 = .ok (.iconst 0, 1) := by decide +kernel
theorem d_PI_anyJoins_83 : decode b_PI_anyJoins 83 = .ok (.ireturn, 1) := by decide +kernel
theorem d_WS_told_0 : decode b_WS_told 0 = .ok (.iload_n 1, 1) := by decide +kernel
theorem d_WS_told_1 : decode b_WS_told 1 = .ok (.tableswitch 102 0 6 #[43, 51, 59, 64, 75, 86, 97], 43) := by decide +kernel
theorem d_WS_told_44 : decode b_WS_told 44 = .ok (.aload_n 0, 1) := by decide +kernel
theorem d_WS_told_45 : decode b_WS_told 45 = .ok (.getfield 20, 3) := by decide +kernel
theorem d_WS_told_48 : decode b_WS_told 48 = .ok (.getfield 124, 3) := by decide +kernel
theorem d_WS_told_51 : decode b_WS_told 51 = .ok (.ireturn, 1) := by decide +kernel
theorem d_WS_told_52 : decode b_WS_told 52 = .ok (.aload_n 0, 1) := by decide +kernel
theorem d_WS_told_53 : decode b_WS_told 53 = .ok (.getfield 25, 3) := by decide +kernel
theorem d_WS_told_56 : decode b_WS_told 56 = .ok (.getfield 127, 3) := by decide +kernel
theorem d_WS_told_59 : decode b_WS_told 59 = .ok (.ireturn, 1) := by decide +kernel
theorem d_WS_told_60 : decode b_WS_told 60 = .ok (.aload_n 0, 1) := by decide +kernel
theorem d_WS_told_61 : decode b_WS_told 61 = .ok (.getfield 32, 3) := by decide +kernel
theorem d_WS_told_64 : decode b_WS_told 64 = .ok (.ireturn, 1) := by decide +kernel
theorem d_WS_told_65 : decode b_WS_told 65 = .ok (.aload_n 0, 1) := by decide +kernel
theorem d_WS_told_66 : decode b_WS_told 66 = .ok (.getfield 20, 3) := by decide +kernel
theorem d_WS_told_69 : decode b_WS_told 69 = .ok (.getfield 62, 3) := by decide +kernel
theorem d_WS_told_72 : decode b_WS_told 72 = .ok (.invokestatic 128, 3) := by decide +kernel
theorem d_WS_told_75 : decode b_WS_told 75 = .ok (.ireturn, 1) := by decide +kernel
theorem d_WS_told_76 : decode b_WS_told 76 = .ok (.aload_n 0, 1) := by decide +kernel
theorem d_WS_told_77 : decode b_WS_told 77 = .ok (.getfield 25, 3) := by decide +kernel
theorem d_WS_told_80 : decode b_WS_told 80 = .ok (.getfield 54, 3) := by decide +kernel
theorem d_WS_told_83 : decode b_WS_told 83 = .ok (.invokestatic 128, 3) := by decide +kernel
theorem d_WS_told_86 : decode b_WS_told 86 = .ok (.ireturn, 1) := by decide +kernel
theorem d_WS_told_87 : decode b_WS_told 87 = .ok (.aload_n 0, 1) := by decide +kernel
theorem d_WS_told_88 : decode b_WS_told 88 = .ok (.getfield 20, 3) := by decide +kernel
theorem d_WS_told_91 : decode b_WS_told 91 = .ok (.getfield 132, 3) := by decide +kernel
theorem d_WS_told_94 : decode b_WS_told 94 = .ok (.invokestatic 128, 3) := by decide +kernel
theorem d_WS_told_97 : decode b_WS_told 97 = .ok (.ireturn, 1) := by decide +kernel
theorem d_WS_told_98 : decode b_WS_told 98 = .ok (.aload_n 0, 1) := by decide +kernel
theorem d_WS_told_99 : decode b_WS_told 99 = .ok (.invokevirtual 135, 3) := by decide +kernel
theorem d_WS_told_102 : decode b_WS_told 102 = .ok (.ireturn, 1) := by decide +kernel
theorem d_WS_told_103 : decode b_WS_told 103 = .ok (.iconst (-1), 1) := by decide +kernel
theorem d_WS_told_104 : decode b_WS_told 104 = .ok (.ireturn, 1) := by decide +kernel
theorem d_WS_countMarks_0 : decode b_WS_countMarks 0 = .ok (.iconst 0, 1) := by decide +kernel
theorem d_WS_countMarks_1 : decode b_WS_countMarks 1 = .ok (.istore_n 1, 1) := by decide +kernel
theorem d_WS_countMarks_2 : decode b_WS_countMarks 2 = .ok (.aload_n 0, 1) := by decide +kernel
theorem d_WS_countMarks_3 : decode b_WS_countMarks 3 = .ok (.astore_n 2, 1) := by decide +kernel
theorem d_WS_countMarks_4 : decode b_WS_countMarks 4 = .ok (.aload_n 2, 1) := by decide +kernel
theorem d_WS_countMarks_5 : decode b_WS_countMarks 5 = .ok (.arraylength, 1) := by decide +kernel
theorem d_WS_countMarks_6 : decode b_WS_countMarks 6 = .ok (.istore_n 3, 1) := by decide +kernel
theorem d_WS_countMarks_7 : decode b_WS_countMarks 7 = .ok (.iconst 0, 1) := by decide +kernel
theorem d_WS_countMarks_8 : decode b_WS_countMarks 8 = .ok (.istore 4, 2) := by decide +kernel
theorem d_WS_countMarks_10 : decode b_WS_countMarks 10 = .ok (.iload 4, 2) := by decide +kernel
theorem d_WS_countMarks_12 : decode b_WS_countMarks 12 = .ok (.iload_n 3, 1) := by decide +kernel
theorem d_WS_countMarks_13 : decode b_WS_countMarks 13 = .ok (.if_icmp .ge 23, 3) := by decide +kernel
theorem d_WS_countMarks_16 : decode b_WS_countMarks 16 = .ok (.aload_n 2, 1) := by decide +kernel
theorem d_WS_countMarks_17 : decode b_WS_countMarks 17 = .ok (.iload 4, 2) := by decide +kernel
theorem d_WS_countMarks_19 : decode b_WS_countMarks 19 = .ok (.baload, 1) := by decide +kernel
theorem d_WS_countMarks_20 : decode b_WS_countMarks 20 = .ok (.istore 5, 2) := by decide +kernel
theorem d_WS_countMarks_22 : decode b_WS_countMarks 22 = .ok (.iload 5, 2) := by decide +kernel
theorem d_WS_countMarks_24 : decode b_WS_countMarks 24 = .ok (.ifCond .eq 6, 3) := by decide +kernel
theorem d_WS_countMarks_27 : decode b_WS_countMarks 27 = .ok (.iinc 1 1, 3) := by decide +kernel
theorem d_WS_countMarks_30 : decode b_WS_countMarks 30 = .ok (.iinc 4 1, 3) := by decide +kernel
theorem d_WS_countMarks_33 : decode b_WS_countMarks 33 = .ok (.goto (-23), 3) := by decide +kernel
theorem d_WS_countMarks_36 : decode b_WS_countMarks 36 = .ok (.iload_n 1, 1) := by decide +kernel
theorem d_WS_countMarks_37 : decode b_WS_countMarks 37 = .ok (.ireturn, 1) := by decide +kernel
theorem d_WS_countLooseThings_0 : decode b_WS_countLooseThings 0 = .ok (.iconst 0, 1) := by decide +kernel
theorem d_WS_countLooseThings_1 : decode b_WS_countLooseThings 1 = .ok (.istore_n 1, 1) := by decide +kernel
theorem d_WS_countLooseThings_2 : decode b_WS_countLooseThings 2 = .ok (.iconst 0, 1) := by decide +kernel
theorem d_WS_countLooseThings_3 : decode b_WS_countLooseThings 3 = .ok (.istore_n 2, 1) := by decide +kernel
theorem d_WS_countLooseThings_4 : decode b_WS_countLooseThings 4 = .ok (.iload_n 2, 1) := by decide +kernel
theorem d_WS_countLooseThings_5 : decode b_WS_countLooseThings 5 = .ok (.aload_n 0, 1) := by decide +kernel
theorem d_WS_countLooseThings_6 : decode b_WS_countLooseThings 6 = .ok (.getfield 20, 3) := by decide +kernel
theorem d_WS_countLooseThings_9 : decode b_WS_countLooseThings 9 = .ok (.getfield 124, 3) := by decide +kernel
theorem d_WS_countLooseThings_12 : decode b_WS_countLooseThings 12 = .ok (.if_icmp .ge 23, 3) := by decide +kernel
theorem d_WS_countLooseThings_15 : decode b_WS_countLooseThings 15 = .ok (.aload_n 0, 1) := by decide +kernel
theorem d_WS_countLooseThings_16 : decode b_WS_countLooseThings 16 = .ok (.getfield 25, 3) := by decide +kernel
theorem d_WS_countLooseThings_19 : decode b_WS_countLooseThings 19 = .ok (.iload_n 2, 1) := by decide +kernel
theorem d_WS_countLooseThings_20 : decode b_WS_countLooseThings 20 = .ok (.invokevirtual 144, 3) := by decide +kernel
theorem d_WS_countLooseThings_23 : decode b_WS_countLooseThings 23 = .ok (.ifCond .ne 6, 3) := by decide +kernel
theorem d_WS_countLooseThings_26 : decode b_WS_countLooseThings 26 = .ok (.iinc 1 1, 3) := by decide +kernel
theorem d_WS_countLooseThings_29 : decode b_WS_countLooseThings 29 = .ok (.iinc 2 1, 3) := by decide +kernel
theorem d_WS_countLooseThings_32 : decode b_WS_countLooseThings 32 = .ok (.goto (-28), 3) := by decide +kernel
theorem d_WS_countLooseThings_35 : decode b_WS_countLooseThings 35 = .ok (.iload_n 1, 1) := by decide +kernel
theorem d_WS_countLooseThings_36 : decode b_WS_countLooseThings 36 = .ok (.ireturn, 1) := by decide +kernel
theorem d_PI_anyEndsAt_0 : decode b_PI_anyEndsAt 0 = .ok (.iconst 0, 1) := by decide +kernel
theorem d_PI_anyEndsAt_1 : decode b_PI_anyEndsAt 1 = .ok (.istore_n 2, 1) := by decide +kernel
theorem d_PI_anyEndsAt_2 : decode b_PI_anyEndsAt 2 = .ok (.iload_n 2, 1) := by decide +kernel
theorem d_PI_anyEndsAt_3 : decode b_PI_anyEndsAt 3 = .ok (.aload_n 0, 1) := by decide +kernel
theorem d_PI_anyEndsAt_4 : decode b_PI_anyEndsAt 4 = .ok (.getfield 26, 3) := by decide +kernel
theorem d_PI_anyEndsAt_7 : decode b_PI_anyEndsAt 7 = .ok (.if_icmp .ge 31, 3) := by decide +kernel
theorem d_PI_anyEndsAt_10 : decode b_PI_anyEndsAt 10 = .ok (.aload_n 0, 1) := by decide +kernel
theorem d_PI_anyEndsAt_11 : decode b_PI_anyEndsAt 11 = .ok (.getfield 9, 3) := by decide +kernel
theorem d_PI_anyEndsAt_14 : decode b_PI_anyEndsAt 14 = .ok (.iload_n 2, 1) := by decide +kernel
theorem d_PI_anyEndsAt_15 : decode b_PI_anyEndsAt 15 = .ok (.iaload, 1) := by decide +kernel
theorem d_PI_anyEndsAt_16 : decode b_PI_anyEndsAt 16 = .ok (.iload_n 1, 1) := by decide +kernel
theorem d_PI_anyEndsAt_17 : decode b_PI_anyEndsAt 17 = .ok (.if_icmp .eq 13, 3) := by decide +kernel
theorem d_PI_anyEndsAt_20 : decode b_PI_anyEndsAt 20 = .ok (.aload_n 0, 1) := by decide +kernel
theorem d_PI_anyEndsAt_21 : decode b_PI_anyEndsAt 21 = .ok (.getfield 15, 3) := by decide +kernel
theorem d_PI_anyEndsAt_24 : decode b_PI_anyEndsAt 24 = .ok (.iload_n 2, 1) := by decide +kernel
theorem d_PI_anyEndsAt_25 : decode b_PI_anyEndsAt 25 = .ok (.iaload, 1) := by decide +kernel
theorem d_PI_anyEndsAt_26 : decode b_PI_anyEndsAt 26 = .ok (.iload_n 1, 1) := by decide +kernel
theorem d_PI_anyEndsAt_27 : decode b_PI_anyEndsAt 27 = .ok (.if_icmp .ne 5, 3) := by decide +kernel
theorem d_PI_anyEndsAt_30 : decode b_PI_anyEndsAt 30 = .ok (.iconst 1, 1) := by decide +kernel
theorem d_PI_anyEndsAt_31 : decode b_PI_anyEndsAt 31 = .ok (.ireturn, 1) := by decide +kernel
theorem d_PI_anyEndsAt_32 : decode b_PI_anyEndsAt 32 = .ok (.iinc 2 1, 3) := by decide +kernel
theorem d_PI_anyEndsAt_35 : decode b_PI_anyEndsAt 35 = .ok (.goto (-33), 3) := by decide +kernel
theorem d_PI_anyEndsAt_38 : decode b_PI_anyEndsAt 38 = .ok (.iconst 0, 1) := by decide +kernel
theorem d_PI_anyEndsAt_39 : decode b_PI_anyEndsAt 39 = .ok (.ireturn, 1) := by decide +kernel
theorem d_WS_blow_0 : decode b_WS_blow 0 = .ok (.aload_n 0, 1) := by decide +kernel
theorem d_WS_blow_1 : decode b_WS_blow 1 = .ok (.iload_n 1, 1) := by decide +kernel
theorem d_WS_blow_2 : decode b_WS_blow 2 = .ok (.invokevirtual 80, 3) := by decide +kernel
theorem d_WS_blow_5 : decode b_WS_blow 5 = .ok (.astore_n 3, 1) := by decide +kernel
theorem d_WS_blow_6 : decode b_WS_blow 6 = .ok (.aload_n 3, 1) := by decide +kernel
theorem d_WS_blow_7 : decode b_WS_blow 7 = .ok (.ifnonnull 6, 3) := by decide +kernel
theorem d_WS_blow_10 : decode b_WS_blow 10 = .ok (.bipush (-2), 2) := by decide +kernel
theorem d_WS_blow_12 : decode b_WS_blow 12 = .ok (.ireturn, 1) := by decide +kernel
theorem d_WS_blow_13 : decode b_WS_blow 13 = .ok (.aload_n 3, 1) := by decide +kernel
theorem d_WS_blow_14 : decode b_WS_blow 14 = .ok (.getfield 139, 3) := by decide +kernel
theorem d_WS_blow_17 : decode b_WS_blow 17 = .ok (.arraylength, 1) := by decide +kernel
theorem d_WS_blow_18 : decode b_WS_blow 18 = .ok (.iconst 1, 1) := by decide +kernel
theorem d_WS_blow_19 : decode b_WS_blow 19 = .ok (.isub, 1) := by decide +kernel
theorem d_WS_blow_20 : decode b_WS_blow 20 = .ok (.istore 4, 2) := by decide +kernel
theorem d_WS_blow_22 : decode b_WS_blow 22 = .ok (.iload_n 2, 1) := by decide +kernel
theorem d_WS_blow_23 : decode b_WS_blow 23 = .ok (.ifCond .lt 9, 3) := by decide +kernel
theorem d_WS_blow_26 : decode b_WS_blow 26 = .ok (.iload_n 2, 1) := by decide +kernel
theorem d_WS_blow_27 : decode b_WS_blow 27 = .ok (.iload 4, 2) := by decide +kernel
theorem d_WS_blow_29 : decode b_WS_blow 29 = .ok (.if_icmp .le 5, 3) := by decide +kernel
theorem d_WS_blow_32 : decode b_WS_blow 32 = .ok (.iconst (-1), 1) := by decide +kernel
theorem d_WS_blow_33 : decode b_WS_blow 33 = .ok (.ireturn, 1) := by decide +kernel
theorem d_WS_blow_34 : decode b_WS_blow 34 = .ok (.iload 4, 2) := by decide +kernel
theorem d_WS_blow_36 : decode b_WS_blow 36 = .ok (.istore 5, 2) := by decide +kernel
theorem d_WS_blow_38 : decode b_WS_blow 38 = .ok (.iload 5, 2) := by decide +kernel
theorem d_WS_blow_40 : decode b_WS_blow 40 = .ok (.iload 4, 2) := by decide +kernel
theorem d_WS_blow_42 : decode b_WS_blow 42 = .ok (.iload_n 2, 1) := by decide +kernel
theorem d_WS_blow_43 : decode b_WS_blow 43 = .ok (.isub, 1) := by decide +kernel
theorem d_WS_blow_44 : decode b_WS_blow 44 = .ok (.if_icmp .le 28, 3) := by decide +kernel
theorem d_WS_blow_47 : decode b_WS_blow 47 = .ok (.aload_n 0, 1) := by decide +kernel
theorem d_WS_blow_48 : decode b_WS_blow 48 = .ok (.getfield 20, 3) := by decide +kernel
theorem d_WS_blow_51 : decode b_WS_blow 51 = .ok (.aload_n 3, 1) := by decide +kernel
theorem d_WS_blow_52 : decode b_WS_blow 52 = .ok (.iload 5, 2) := by decide +kernel
theorem d_WS_blow_54 : decode b_WS_blow 54 = .ok (.invokevirtual 141, 3) := by decide +kernel
theorem d_WS_blow_57 : decode b_WS_blow 57 = .ok (.iconst 1, 1) := by decide +kernel
theorem d_WS_blow_58 : decode b_WS_blow 58 = .ok (.invokevirtual 91, 3) := by decide +kernel
theorem d_WS_blow_61 : decode b_WS_blow 61 = .ok (.ifCond .eq 5, 3) := by decide +kernel
theorem d_WS_blow_64 : decode b_WS_blow 64 = .ok (.iconst (-1), 1) := by decide +kernel
theorem d_WS_blow_65 : decode b_WS_blow 65 = .ok (.ireturn, 1) := by decide +kernel
theorem d_WS_blow_66 : decode b_WS_blow 66 = .ok (.iinc 5 (-1), 3) := by decide +kernel
theorem d_WS_blow_69 : decode b_WS_blow 69 = .ok (.goto (-31), 3) := by decide +kernel
theorem d_WS_blow_72 : decode b_WS_blow 72 = .ok (.aload_n 3, 1) := by decide +kernel
theorem d_WS_blow_73 : decode b_WS_blow 73 = .ok (.iload 4, 2) := by decide +kernel
theorem d_WS_blow_75 : decode b_WS_blow 75 = .ok (.iload_n 2, 1) := by decide +kernel
theorem d_WS_blow_76 : decode b_WS_blow 76 = .ok (.isub, 1) := by decide +kernel
theorem d_WS_blow_77 : decode b_WS_blow 77 = .ok (.invokevirtual 84, 3) := by decide +kernel
theorem d_WS_blow_80 : decode b_WS_blow 80 = .ok (.ireturn, 1) := by decide +kernel
theorem d_FW_thingAt_0 : decode b_FW_thingAt 0 = .ok (.iload_n 1, 1) := by decide +kernel
theorem d_FW_thingAt_1 : decode b_FW_thingAt 1 = .ok (.ifCond .lt 21, 3) := by decide +kernel
theorem d_FW_thingAt_4 : decode b_FW_thingAt 4 = .ok (.iload_n 1, 1) := by decide +kernel
theorem d_FW_thingAt_5 : decode b_FW_thingAt 5 = .ok (.aload_n 0, 1) := by decide +kernel
theorem d_FW_thingAt_6 : decode b_FW_thingAt 6 = .ok (.getfield 26, 3) := by decide +kernel
theorem d_FW_thingAt_9 : decode b_FW_thingAt 9 = .ok (.arraylength, 1) := by decide +kernel
theorem d_FW_thingAt_10 : decode b_FW_thingAt 10 = .ok (.if_icmp .ge 12, 3) := by decide +kernel
theorem d_FW_thingAt_13 : decode b_FW_thingAt 13 = .ok (.aload_n 0, 1) := by decide +kernel
theorem d_FW_thingAt_14 : decode b_FW_thingAt 14 = .ok (.getfield 26, 3) := by decide +kernel
theorem d_FW_thingAt_17 : decode b_FW_thingAt 17 = .ok (.iload_n 1, 1) := by decide +kernel
theorem d_FW_thingAt_18 : decode b_FW_thingAt 18 = .ok (.iaload, 1) := by decide +kernel
theorem d_FW_thingAt_19 : decode b_FW_thingAt 19 = .ok (.goto 4, 3) := by decide +kernel
theorem d_FW_thingAt_22 : decode b_FW_thingAt 22 = .ok (.iconst (-1), 1) := by decide +kernel
theorem d_FW_thingAt_23 : decode b_FW_thingAt 23 = .ok (.ireturn, 1) := by decide +kernel
