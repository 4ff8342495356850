theorem d_MO_init_0 : decode b_MO_init 0 = .ok (.aload_n 0, 1) := by decide +kernel
theorem d_MO_init_1 : decode b_MO_init 1 = .ok (.invokespecial 1, 3) := by decide +kernel
theorem d_MO_init_4 : decode b_MO_init 4 = .ok (.aload_n 0, 1) := by decide +kernel
theorem d_MO_init_5 : decode b_MO_init 5 = .ok (.bipush 48, 2) := by decide +kernel
theorem d_MO_init_7 : decode b_MO_init 7 = .ok (.newarray .int, 2) := by decide +kernel
theorem d_MO_init_9 : decode b_MO_init 9 = .ok (.putfield 9, 3) := by decide +kernel
theorem d_MO_init_12 : decode b_MO_init 12 = .ok (.aload_n 0, 1) := by decide +kernel
theorem d_MO_init_13 : decode b_MO_init 13 = .ok (.bipush 48, 2) := by decide +kernel
theorem d_MO_init_15 : decode b_MO_init 15 = .ok (.newarray .boolean, 2) := by decide +kernel
theorem d_MO_init_17 : decode b_MO_init 17 = .ok (.putfield 13, 3) := by decide +kernel
theorem d_MO_init_20 : decode b_MO_init 20 = .ok (.aload_n 0, 1) := by decide +kernel
theorem d_MO_init_21 : decode b_MO_init 21 = .ok (.bipush 48, 2) := by decide +kernel
theorem d_MO_init_23 : decode b_MO_init 23 = .ok (.newarray .boolean, 2) := by decide +kernel
theorem d_MO_init_25 : decode b_MO_init 25 = .ok (.putfield 17, 3) := by decide +kernel
theorem d_MO_init_28 : decode b_MO_init 28 = .ok (.aload_n 0, 1) := by decide +kernel
theorem d_MO_init_29 : decode b_MO_init 29 = .ok (.bipush 48, 2) := by decide +kernel
theorem d_MO_init_31 : decode b_MO_init 31 = .ok (.newarray .int, 2) := by decide +kernel
theorem d_MO_init_33 : decode b_MO_init 33 = .ok (.putfield 20, 3) := by decide +kernel
theorem d_MO_init_36 : decode b_MO_init 36 = .ok (.aload_n 0, 1) := by decide +kernel
theorem d_MO_init_37 : decode b_MO_init 37 = .ok (.bipush 48, 2) := by decide +kernel
theorem d_MO_init_39 : decode b_MO_init 39 = .ok (.newarray .int, 2) := by decide +kernel
theorem d_MO_init_41 : decode b_MO_init 41 = .ok (.putfield 23, 3) := by decide +kernel
theorem d_MO_init_44 : decode b_MO_init 44 = .ok (.aload_n 0, 1) := by decide +kernel
theorem d_MO_init_45 : decode b_MO_init 45 = .ok (.bipush 96, 2) := by decide +kernel
theorem d_MO_init_47 : decode b_MO_init 47 = .ok (.newarray .int, 2) := by decide +kernel
theorem d_MO_init_49 : decode b_MO_init 49 = .ok (.putfield 26, 3) := by decide +kernel
theorem d_MO_init_52 : decode b_MO_init 52 = .ok (.aload_n 0, 1) := by decide +kernel
theorem d_MO_init_53 : decode b_MO_init 53 = .ok (.bipush 96, 2) := by decide +kernel
theorem d_MO_init_55 : decode b_MO_init 55 = .ok (.newarray .int, 2) := by decide +kernel
theorem d_MO_init_57 : decode b_MO_init 57 = .ok (.putfield 29, 3) := by decide +kernel
theorem d_MO_init_60 : decode b_MO_init 60 = .ok (.aload_n 0, 1) := by decide +kernel
theorem d_MO_init_61 : decode b_MO_init 61 = .ok (.bipush 96, 2) := by decide +kernel
theorem d_MO_init_63 : decode b_MO_init 63 = .ok (.newarray .long, 2) := by decide +kernel
theorem d_MO_init_65 : decode b_MO_init 65 = .ok (.putfield 32, 3) := by decide +kernel
theorem d_MO_init_68 : decode b_MO_init 68 = .ok (.aload_n 0, 1) := by decide +kernel
theorem d_MO_init_69 : decode b_MO_init 69 = .ok (.bipush 96, 2) := by decide +kernel
theorem d_MO_init_71 : decode b_MO_init 71 = .ok (.newarray .boolean, 2) := by decide +kernel
theorem d_MO_init_73 : decode b_MO_init 73 = .ok (.putfield 36, 3) := by decide +kernel
theorem d_MO_init_76 : decode b_MO_init 76 = .ok (.aload_n 0, 1) := by decide +kernel
theorem d_MO_init_77 : decode b_MO_init 77 = .ok (.sipush 3072, 3) := by decide +kernel
theorem d_MO_init_80 : decode b_MO_init 80 = .ok (.newarray .int, 2) := by decide +kernel
theorem d_MO_init_82 : decode b_MO_init 82 = .ok (.putfield 39, 3) := by decide +kernel
theorem d_MO_init_85 : decode b_MO_init 85 = .ok (.aload_n 0, 1) := by decide +kernel
theorem d_MO_init_86 : decode b_MO_init 86 = .ok (.bipush 64, 2) := by decide +kernel
theorem d_MO_init_88 : decode b_MO_init 88 = .ok (.newarray .int, 2) := by decide +kernel
theorem d_MO_init_90 : decode b_MO_init 90 = .ok (.putfield 42, 3) := by decide +kernel
theorem d_MO_init_93 : decode b_MO_init 93 = .ok (.aload_n 0, 1) := by decide +kernel
theorem d_MO_init_94 : decode b_MO_init 94 = .ok (.bipush 64, 2) := by decide +kernel
theorem d_MO_init_96 : decode b_MO_init 96 = .ok (.newarray .int, 2) := by decide +kernel
theorem d_MO_init_98 : decode b_MO_init 98 = .ok (.putfield 45, 3) := by decide +kernel
theorem d_MO_init_101 : decode b_MO_init 101 = .ok (.aload_n 0, 1) := by decide +kernel
theorem d_MO_init_102 : decode b_MO_init 102 = .ok (.bipush 64, 2) := by decide +kernel
theorem d_MO_init_104 : decode b_MO_init 104 = .ok (.newarray .int, 2) := by decide +kernel
theorem d_MO_init_106 : decode b_MO_init 106 = .ok (.putfield 48, 3) := by decide +kernel
theorem d_MO_init_109 : decode b_MO_init 109 = .ok (.aload_n 0, 1) := by decide +kernel
theorem d_MO_init_110 : decode b_MO_init 110 = .ok (.bipush 48, 2) := by decide +kernel
theorem d_MO_init_112 : decode b_MO_init 112 = .ok (.newarray .long, 2) := by decide +kernel
theorem d_MO_init_114 : decode b_MO_init 114 = .ok (.putfield 51, 3) := by decide +kernel
theorem d_MO_init_117 : decode b_MO_init 117 = .ok (.aload_n 0, 1) := by decide +kernel
theorem d_MO_init_118 : decode b_MO_init 118 = .ok (.bipush 48, 2) := by decide +kernel
theorem d_MO_init_120 : decode b_MO_init 120 = .ok (.newarray .boolean, 2) := by decide +kernel
theorem d_MO_init_122 : decode b_MO_init 122 = .ok (.putfield 54, 3) := by decide +kernel
theorem d_MO_init_125 : decode b_MO_init 125 = .ok (.aload_n 0, 1) := by decide +kernel
theorem d_MO_init_126 : decode b_MO_init 126 = .ok (.bipush 96, 2) := by decide +kernel
theorem d_MO_init_128 : decode b_MO_init 128 = .ok (.newarray .boolean, 2) := by decide +kernel
theorem d_MO_init_130 : decode b_MO_init 130 = .ok (.putfield 57, 3) := by decide +kernel
theorem d_MO_init_133 : decode b_MO_init 133 = .ok (.aload_n 0, 1) := by decide +kernel
theorem d_MO_init_134 : decode b_MO_init 134 = .ok (.bipush 48, 2) := by decide +kernel
theorem d_MO_init_136 : decode b_MO_init 136 = .ok (.newarray .int, 2) := by decide +kernel
theorem d_MO_init_138 : decode b_MO_init 138 = .ok (.putfield 60, 3) := by decide +kernel
theorem d_MO_init_141 : decode b_MO_init 141 = .ok (.aload_n 0, 1) := by decide +kernel
theorem d_MO_init_142 : decode b_MO_init 142 = .ok (.bipush 48, 2) := by decide +kernel
theorem d_MO_init_144 : decode b_MO_init 144 = .ok (.newarray .int, 2) := by decide +kernel
theorem d_MO_init_146 : decode b_MO_init 146 = .ok (.putfield 63, 3) := by decide +kernel
theorem d_MO_init_149 : decode b_MO_init 149 = .ok (.return_, 1) := by decide +kernel
theorem d_MO_tank_0 : decode b_MO_tank 0 = .ok (.aload_n 0, 1) := by decide +kernel
theorem d_MO_tank_1 : decode b_MO_tank 1 = .ok (.iconst 0, 1) := by decide +kernel
theorem d_MO_tank_2 : decode b_MO_tank 2 = .ok (.invokevirtual 70, 3) := by decide +kernel
theorem d_MO_tank_5 : decode b_MO_tank 5 = .ok (.istore_n 2, 1) := by decide +kernel
theorem d_MO_tank_6 : decode b_MO_tank 6 = .ok (.iload_n 2, 1) := by decide +kernel
theorem d_MO_tank_7 : decode b_MO_tank 7 = .ok (.ifCond .lt 10, 3) := by decide +kernel
theorem d_MO_tank_10 : decode b_MO_tank 10 = .ok (.aload_n 0, 1) := by decide +kernel
theorem d_MO_tank_11 : decode b_MO_tank 11 = .ok (.getfield 13, 3) := by decide +kernel
theorem d_MO_tank_14 : decode b_MO_tank 14 = .ok (.iload_n 2, 1) := by decide +kernel
theorem d_MO_tank_15 : decode b_MO_tank 15 = .ok (.iload_n 1, 1) := by decide +kernel
theorem d_MO_tank_16 : decode b_MO_tank 16 = .ok (.bastore, 1) := by decide +kernel
theorem d_MO_tank_17 : decode b_MO_tank 17 = .ok (.iload_n 2, 1) := by decide +kernel
theorem d_MO_tank_18 : decode b_MO_tank 18 = .ok (.ireturn, 1) := by decide +kernel
theorem d_MO_thing_0 : decode b_MO_thing 0 = .ok (.aload_n 0, 1) := by decide +kernel
theorem d_MO_thing_1 : decode b_MO_thing 1 = .ok (.getfield 66, 3) := by decide +kernel
theorem d_MO_thing_4 : decode b_MO_thing 4 = .ok (.bipush 48, 2) := by decide +kernel
theorem d_MO_thing_6 : decode b_MO_thing 6 = .ok (.if_icmp .ne 6, 3) := by decide +kernel
theorem d_MO_thing_9 : decode b_MO_thing 9 = .ok (.bipush (-5), 2) := by decide +kernel
theorem d_MO_thing_11 : decode b_MO_thing 11 = .ok (.ireturn, 1) := by decide +kernel
theorem d_MO_thing_12 : decode b_MO_thing 12 = .ok (.aload_n 0, 1) := by decide +kernel
theorem d_MO_thing_13 : decode b_MO_thing 13 = .ok (.getfield 9, 3) := by decide +kernel
theorem d_MO_thing_16 : decode b_MO_thing 16 = .ok (.aload_n 0, 1) := by decide +kernel
theorem d_MO_thing_17 : decode b_MO_thing 17 = .ok (.getfield 66, 3) := by decide +kernel
theorem d_MO_thing_20 : decode b_MO_thing 20 = .ok (.iload_n 1, 1) := by decide +kernel
theorem d_MO_thing_21 : decode b_MO_thing 21 = .ok (.iastore, 1) := by decide +kernel
theorem d_MO_thing_22 : decode b_MO_thing 22 = .ok (.aload_n 0, 1) := by decide +kernel
theorem d_MO_thing_23 : decode b_MO_thing 23 = .ok (.getfield 20, 3) := by decide +kernel
theorem d_MO_thing_26 : decode b_MO_thing 26 = .ok (.aload_n 0, 1) := by decide +kernel
theorem d_MO_thing_27 : decode b_MO_thing 27 = .ok (.getfield 66, 3) := by decide +kernel
theorem d_MO_thing_30 : decode b_MO_thing 30 = .ok (.iconst (-1), 1) := by decide +kernel
theorem d_MO_thing_31 : decode b_MO_thing 31 = .ok (.iastore, 1) := by decide +kernel
theorem d_MO_thing_32 : decode b_MO_thing 32 = .ok (.aload_n 0, 1) := by decide +kernel
theorem d_MO_thing_33 : decode b_MO_thing 33 = .ok (.getfield 23, 3) := by decide +kernel
theorem d_MO_thing_36 : decode b_MO_thing 36 = .ok (.aload_n 0, 1) := by decide +kernel
theorem d_MO_thing_37 : decode b_MO_thing 37 = .ok (.getfield 66, 3) := by decide +kernel
theorem d_MO_thing_40 : decode b_MO_thing 40 = .ok (.iconst (-1), 1) := by decide +kernel
theorem d_MO_thing_41 : decode b_MO_thing 41 = .ok (.iastore, 1) := by decide +kernel
theorem d_MO_thing_42 : decode b_MO_thing 42 = .ok (.aload_n 0, 1) := by decide +kernel
theorem d_MO_thing_43 : decode b_MO_thing 43 = .ok (.dup, 1) := by decide +kernel
theorem d_MO_thing_44 : decode b_MO_thing 44 = .ok (.getfield 66, 3) := by decide +kernel
theorem d_MO_thing_47 : decode b_MO_thing 47 = .ok (.iconst 1, 1) := by decide +kernel
theorem d_MO_thing_48 : decode b_MO_thing 48 = .ok (.iadd, 1) := by decide +kernel
theorem d_MO_thing_49 : decode b_MO_thing 49 = .ok (.putfield 66, 3) := by decide +kernel
theorem d_MO_thing_52 : decode b_MO_thing 52 = .ok (.aload_n 0, 1) := by decide +kernel
theorem d_MO_thing_53 : decode b_MO_thing 53 = .ok (.getfield 66, 3) := by decide +kernel
theorem d_MO_thing_56 : decode b_MO_thing 56 = .ok (.iconst 1, 1) := by decide +kernel
theorem d_MO_thing_57 : decode b_MO_thing 57 = .ok (.isub, 1) := by decide +kernel
theorem d_MO_thing_58 : decode b_MO_thing 58 = .ok (.ireturn, 1) := by decide +kernel
theorem d_MO_pump_0 : decode b_MO_pump 0 = .ok (.aload_n 0, 1) := by decide +kernel
theorem d_MO_pump_1 : decode b_MO_pump 1 = .ok (.iconst 1, 1) := by decide +kernel
theorem d_MO_pump_2 : decode b_MO_pump 2 = .ok (.invokevirtual 70, 3) := by decide +kernel
theorem d_MO_pump_5 : decode b_MO_pump 5 = .ok (.ireturn, 1) := by decide +kernel
theorem d_MO_valve_0 : decode b_MO_valve 0 = .ok (.aload_n 0, 1) := by decide +kernel
theorem d_MO_valve_1 : decode b_MO_valve 1 = .ok (.iconst 2, 1) := by decide +kernel
theorem d_MO_valve_2 : decode b_MO_valve 2 = .ok (.invokevirtual 70, 3) := by decide +kernel
theorem d_MO_valve_5 : decode b_MO_valve 5 = .ok (.ireturn, 1) := by decide +kernel
theorem d_MO_pipe_0 : decode b_MO_pipe 0 = .ok (.aload_n 0, 1) := by decide +kernel
theorem d_MO_pipe_1 : decode b_MO_pipe 1 = .ok (.iload_n 1, 1) := by decide +kernel
theorem d_MO_pipe_2 : decode b_MO_pipe 2 = .ok (.invokevirtual 74, 3) := by decide +kernel
theorem d_MO_pipe_5 : decode b_MO_pipe 5 = .ok (.ifCond .eq 11, 3) := by decide +kernel
theorem d_MO_pipe_8 : decode b_MO_pipe 8 = .ok (.aload_n 0, 1) := by decide +kernel
theorem d_MO_pipe_9 : decode b_MO_pipe 9 = .ok (.iload_n 2, 1) := by decide +kernel
theorem d_MO_pipe_10 : decode b_MO_pipe 10 = .ok (.invokevirtual 74, 3) := by decide +kernel
theorem d_MO_pipe_13 : decode b_MO_pipe 13 = .ok (.ifCond .ne 6, 3) := by decide +kernel
theorem d_MO_pipe_16 : decode b_MO_pipe 16 = .ok (.bipush (-2), 2) := by decide +kernel
theorem d_MO_pipe_18 : decode b_MO_pipe 18 = .ok (.ireturn, 1) := by decide +kernel
theorem d_MO_pipe_19 : decode b_MO_pipe 19 = .ok (.iload_n 1, 1) := by decide +kernel
theorem d_MO_pipe_20 : decode b_MO_pipe 20 = .ok (.iload_n 2, 1) := by decide +kernel
theorem d_MO_pipe_21 : decode b_MO_pipe 21 = .ok (.if_icmp .eq 17, 3) := by decide +kernel
theorem d_MO_pipe_24 : decode b_MO_pipe 24 = .ok (.lload_n 3, 1) := by decide +kernel
theorem d_MO_pipe_25 : decode b_MO_pipe 25 = .ok (.lconst 1, 1) := by decide +kernel
theorem d_MO_pipe_26 : decode b_MO_pipe 26 = .ok (.lcmp, 1) := by decide +kernel
theorem d_MO_pipe_27 : decode b_MO_pipe 27 = .ok (.ifCond .lt 11, 3) := by decide +kernel
theorem d_MO_pipe_30 : decode b_MO_pipe 30 = .ok (.lload_n 3, 1) := by decide +kernel
theorem d_MO_pipe_31 : decode b_MO_pipe 31 = .ok (.ldc2_w 78, 3) := by decide +kernel
theorem d_MO_pipe_34 : decode b_MO_pipe 34 = .ok (.lcmp, 1) := by decide +kernel
theorem d_MO_pipe_35 : decode b_MO_pipe 35 = .ok (.ifCond .le 5, 3) := by decide +kernel
theorem d_MO_pipe_38 : decode b_MO_pipe 38 = .ok (.iconst (-1), 1) := by decide +kernel
theorem d_MO_pipe_39 : decode b_MO_pipe 39 = .ok (.ireturn, 1) := by decide +kernel
theorem d_MO_pipe_40 : decode b_MO_pipe 40 = .ok (.aload_n 0, 1) := by decide +kernel
theorem d_MO_pipe_41 : decode b_MO_pipe 41 = .ok (.getfield 80, 3) := by decide +kernel
theorem d_MO_pipe_44 : decode b_MO_pipe 44 = .ok (.bipush 96, 2) := by decide +kernel
theorem d_MO_pipe_46 : decode b_MO_pipe 46 = .ok (.if_icmp .ne 6, 3) := by decide +kernel
theorem d_MO_pipe_49 : decode b_MO_pipe 49 = .ok (.bipush (-5), 2) := by decide +kernel
theorem d_MO_pipe_51 : decode b_MO_pipe 51 = .ok (.ireturn, 1) := by decide +kernel
theorem d_MO_pipe_52 : decode b_MO_pipe 52 = .ok (.aload_n 0, 1) := by decide +kernel
theorem d_MO_pipe_53 : decode b_MO_pipe 53 = .ok (.getfield 26, 3) := by decide +kernel
theorem d_MO_pipe_56 : decode b_MO_pipe 56 = .ok (.aload_n 0, 1) := by decide +kernel
theorem d_MO_pipe_57 : decode b_MO_pipe 57 = .ok (.getfield 80, 3) := by decide +kernel
theorem d_MO_pipe_60 : decode b_MO_pipe 60 = .ok (.iload_n 1, 1) := by decide +kernel
theorem d_MO_pipe_61 : decode b_MO_pipe 61 = .ok (.iastore, 1) := by decide +kernel
theorem d_MO_pipe_62 : decode b_MO_pipe 62 = .ok (.aload_n 0, 1) := by decide +kernel
theorem d_MO_pipe_63 : decode b_MO_pipe 63 = .ok (.getfield 29, 3) := by decide +kernel
theorem d_MO_pipe_66 : decode b_MO_pipe 66 = .ok (.aload_n 0, 1) := by decide +kernel
theorem d_MO_pipe_67 : decode b_MO_pipe 67 = .ok (.getfield 80, 3) := by decide +kernel
theorem d_MO_pipe_70 : decode b_MO_pipe 70 = .ok (.iload_n 2, 1) := by decide +kernel
theorem d_MO_pipe_71 : decode b_MO_pipe 71 = .ok (.iastore, 1) := by decide +kernel
theorem d_MO_pipe_72 : decode b_MO_pipe 72 = .ok (.aload_n 0, 1) := by decide +kernel
theorem d_MO_pipe_73 : decode b_MO_pipe 73 = .ok (.getfield 32, 3) := by decide +kernel
theorem d_MO_pipe_76 : decode b_MO_pipe 76 = .ok (.aload_n 0, 1) := by decide +kernel
theorem d_MO_pipe_77 : decode b_MO_pipe 77 = .ok (.getfield 80, 3) := by decide +kernel
theorem d_MO_pipe_80 : decode b_MO_pipe 80 = .ok (.lload_n 3, 1) := by decide +kernel
theorem d_MO_pipe_81 : decode b_MO_pipe 81 = .ok (.lastore, 1) := by decide +kernel
theorem d_MO_pipe_82 : decode b_MO_pipe 82 = .ok (.aload_n 0, 1) := by decide +kernel
theorem d_MO_pipe_83 : decode b_MO_pipe 83 = .ok (.dup, 1) := by decide +kernel
theorem d_MO_pipe_84 : decode b_MO_pipe 84 = .ok (.getfield 80, 3) := by decide +kernel
theorem d_MO_pipe_87 : decode b_MO_pipe 87 = .ok (.iconst 1, 1) := by decide +kernel
theorem d_MO_pipe_88 : decode b_MO_pipe 88 = .ok (.iadd, 1) := by decide +kernel
theorem d_MO_pipe_89 : decode b_MO_pipe 89 = .ok (.putfield 80, 3) := by decide +kernel
theorem d_MO_pipe_92 : decode b_MO_pipe 92 = .ok (.aload_n 0, 1) := by decide +kernel
theorem d_MO_pipe_93 : decode b_MO_pipe 93 = .ok (.getfield 80, 3) := by decide +kernel
theorem d_MO_pipe_96 : decode b_MO_pipe 96 = .ok (.iconst 1, 1) := by decide +kernel
theorem d_MO_pipe_97 : decode b_MO_pipe 97 = .ok (.isub, 1) := by decide +kernel
theorem d_MO_pipe_98 : decode b_MO_pipe 98 = .ok (.ireturn, 1) := by decide +kernel
theorem d_MO_isThing_0 : decode b_MO_isThing 0 = .ok (.iload_n 1, 1) := by decide +kernel
theorem d_MO_isThing_1 : decode b_MO_isThing 1 = .ok (.ifCond .lt 15, 3) := by decide +kernel
theorem d_MO_isThing_4 : decode b_MO_isThing 4 = .ok (.iload_n 1, 1) := by decide +kernel
theorem d_MO_isThing_5 : decode b_MO_isThing 5 = .ok (.aload_n 0, 1) := by decide +kernel
theorem d_MO_isThing_6 : decode b_MO_isThing 6 = .ok (.getfield 66, 3) := by decide +kernel
theorem d_MO_isThing_9 : decode b_MO_isThing 9 = .ok (.if_icmp .ge 7, 3) := by decide +kernel
theorem d_MO_isThing_12 : decode b_MO_isThing 12 = .ok (.iconst 1, 1) := by decide +kernel
theorem d_MO_isThing_13 : decode b_MO_isThing 13 = .ok (.goto 4, 3) := by decide +kernel
theorem d_MO_isThing_16 : decode b_MO_isThing 16 = .ok (.iconst 0, 1) := by decide +kernel
theorem d_MO_isThing_17 : decode b_MO_isThing 17 = .ok (.ireturn, 1) := by decide +kernel
theorem d_MO_run_0 : decode b_MO_run 0 = .ok (.iload_n 1, 1) := by decide +kernel
theorem d_MO_run_1 : decode b_MO_run 1 = .ok (.ifCond .lt 21, 3) := by decide +kernel
theorem d_MO_run_4 : decode b_MO_run 4 = .ok (.iload_n 1, 1) := by decide +kernel
theorem d_MO_run_5 : decode b_MO_run 5 = .ok (.aload_n 0, 1) := by decide +kernel
theorem d_MO_run_6 : decode b_MO_run 6 = .ok (.getfield 80, 3) := by decide +kernel
theorem d_MO_run_9 : decode b_MO_run 9 = .ok (.if_icmp .ge 13, 3) := by decide +kernel
theorem d_MO_run_12 : decode b_MO_run 12 = .ok (.aload_n 0, 1) := by decide +kernel
theorem d_MO_run_13 : decode b_MO_run 13 = .ok (.getfield 36, 3) := by decide +kernel
theorem d_MO_run_16 : decode b_MO_run 16 = .ok (.iload_n 1, 1) := by decide +kernel
theorem d_MO_run_17 : decode b_MO_run 17 = .ok (.baload, 1) := by decide +kernel
theorem d_MO_run_18 : decode b_MO_run 18 = .ok (.iload_n 2, 1) := by decide +kernel
theorem d_MO_run_19 : decode b_MO_run 19 = .ok (.if_icmp .ne 5, 3) := by decide +kernel
theorem d_MO_run_22 : decode b_MO_run 22 = .ok (.iconst 0, 1) := by decide +kernel
theorem d_MO_run_23 : decode b_MO_run 23 = .ok (.ireturn, 1) := by decide +kernel
theorem d_MO_run_24 : decode b_MO_run 24 = .ok (.aload_n 0, 1) := by decide +kernel
theorem d_MO_run_25 : decode b_MO_run 25 = .ok (.getfield 36, 3) := by decide +kernel
theorem d_MO_run_28 : decode b_MO_run 28 = .ok (.iload_n 1, 1) := by decide +kernel
theorem d_MO_run_29 : decode b_MO_run 29 = .ok (.iload_n 2, 1) := by decide +kernel
theorem d_MO_run_30 : decode b_MO_run 30 = .ok (.bastore, 1) := by decide +kernel
theorem d_MO_run_31 : decode b_MO_run 31 = .ok (.iconst 1, 1) := by decide +kernel
theorem d_MO_run_32 : decode b_MO_run 32 = .ok (.ireturn, 1) := by decide +kernel
theorem d_MO_bar_0 : decode b_MO_bar 0 = .ok (.aload_n 0, 1) := by decide +kernel
theorem d_MO_bar_1 : decode b_MO_bar 1 = .ok (.iload_n 1, 1) := by decide +kernel
theorem d_MO_bar_2 : decode b_MO_bar 2 = .ok (.invokevirtual 74, 3) := by decide +kernel
theorem d_MO_bar_5 : decode b_MO_bar 5 = .ok (.ifCond .eq 13, 3) := by decide +kernel
theorem d_MO_bar_8 : decode b_MO_bar 8 = .ok (.aload_n 0, 1) := by decide +kernel
theorem d_MO_bar_9 : decode b_MO_bar 9 = .ok (.getfield 17, 3) := by decide +kernel
theorem d_MO_bar_12 : decode b_MO_bar 12 = .ok (.iload_n 1, 1) := by decide +kernel
theorem d_MO_bar_13 : decode b_MO_bar 13 = .ok (.baload, 1) := by decide +kernel
theorem d_MO_bar_14 : decode b_MO_bar 14 = .ok (.iload_n 2, 1) := by decide +kernel
theorem d_MO_bar_15 : decode b_MO_bar 15 = .ok (.if_icmp .ne 5, 3) := by decide +kernel
theorem d_MO_bar_18 : decode b_MO_bar 18 = .ok (.iconst 0, 1) := by decide +kernel
theorem d_MO_bar_19 : decode b_MO_bar 19 = .ok (.ireturn, 1) := by decide +kernel
theorem d_MO_bar_20 : decode b_MO_bar 20 = .ok (.aload_n 0, 1) := by decide +kernel
theorem d_MO_bar_21 : decode b_MO_bar 21 = .ok (.getfield 17, 3) := by decide +kernel
theorem d_MO_bar_24 : decode b_MO_bar 24 = .ok (.iload_n 1, 1) := by decide +kernel
theorem d_MO_bar_25 : decode b_MO_bar 25 = .ok (.iload_n 2, 1) := by decide +kernel
theorem d_MO_bar_26 : decode b_MO_bar 26 = .ok (.bastore, 1) := by decide +kernel
theorem d_MO_bar_27 : decode b_MO_bar 27 = .ok (.iconst 1, 1) := by decide +kernel
theorem d_MO_bar_28 : decode b_MO_bar 28 = .ok (.ireturn, 1) := by decide +kernel
theorem d_MO_forward_0 : decode b_MO_forward 0 = .ok (.aload_n 0, 1) := by decide +kernel
theorem d_MO_forward_1 : decode b_MO_forward 1 = .ok (.iload_n 1, 1) := by decide +kernel
theorem d_MO_forward_2 : decode b_MO_forward 2 = .ok (.invokevirtual 74, 3) := by decide +kernel
theorem d_MO_forward_5 : decode b_MO_forward 5 = .ok (.ifCond .eq 52, 3) := by decide +kernel
theorem d_MO_forward_8 : decode b_MO_forward 8 = .ok (.aload_n 0, 1) := by decide +kernel
theorem d_MO_forward_9 : decode b_MO_forward 9 = .ok (.getfield 9, 3) := by decide +kernel
theorem d_MO_forward_12 : decode b_MO_forward 12 = .ok (.iload_n 1, 1) := by decide +kernel
theorem d_MO_forward_13 : decode b_MO_forward 13 = .ok (.iaload, 1) := by decide +kernel
theorem d_MO_forward_14 : decode b_MO_forward 14 = .ok (.iconst 1, 1) := by decide +kernel
theorem d_MO_forward_15 : decode b_MO_forward 15 = .ok (.if_icmp .ne 42, 3) := by decide +kernel
theorem d_MO_forward_18 : decode b_MO_forward 18 = .ok (.aload_n 0, 1) := by decide +kernel
theorem d_MO_forward_19 : decode b_MO_forward 19 = .ok (.iload_n 2, 1) := by decide +kernel
theorem d_MO_forward_20 : decode b_MO_forward 20 = .ok (.invokevirtual 74, 3) := by decide +kernel
theorem d_MO_forward_23 : decode b_MO_forward 23 = .ok (.ifCond .eq 34, 3) := by decide +kernel
theorem d_MO_forward_26 : decode b_MO_forward 26 = .ok (.aload_n 0, 1) := by decide +kernel
theorem d_MO_forward_27 : decode b_MO_forward 27 = .ok (.iload_n 3, 1) := by decide +kernel
theorem d_MO_forward_28 : decode b_MO_forward 28 = .ok (.invokevirtual 74, 3) := by decide +kernel
theorem d_MO_forward_31 : decode b_MO_forward 31 = .ok (.ifCond .eq 26, 3) := by decide +kernel
theorem d_MO_forward_34 : decode b_MO_forward 34 = .ok (.iload_n 2, 1) := by decide +kernel
theorem d_MO_forward_35 : decode b_MO_forward 35 = .ok (.iload_n 3, 1) := by decide +kernel
theorem d_MO_forward_36 : decode b_MO_forward 36 = .ok (.if_icmp .eq 21, 3) := by decide +kernel
theorem d_MO_forward_39 : decode b_MO_forward 39 = .ok (.aload_n 0, 1) := by decide +kernel
theorem d_MO_forward_40 : decode b_MO_forward 40 = .ok (.iload_n 1, 1) := by decide +kernel
theorem d_MO_forward_41 : decode b_MO_forward 41 = .ok (.iload_n 2, 1) := by decide +kernel
theorem d_MO_forward_42 : decode b_MO_forward 42 = .ok (.invokevirtual 87, 3) := by decide +kernel
theorem d_MO_forward_45 : decode b_MO_forward 45 = .ok (.ifCond .eq 12, 3) := by decide +kernel
theorem d_MO_forward_48 : decode b_MO_forward 48 = .ok (.aload_n 0, 1) := by decide +kernel
theorem d_MO_forward_49 : decode b_MO_forward 49 = .ok (.iload_n 1, 1) := by decide +kernel
theorem d_MO_forward_50 : decode b_MO_forward 50 = .ok (.iload_n 3, 1) := by decide +kernel
theorem d_MO_forward_51 : decode b_MO_forward 51 = .ok (.invokevirtual 87, 3) := by decide +kernel
theorem d_MO_forward_54 : decode b_MO_forward 54 = .ok (.ifCond .ne 5, 3) := by decide +kernel
theorem d_MO_forward_57 : decode b_MO_forward 57 = .ok (.iconst 0, 1) := by decide +kernel
theorem d_MO_forward_58 : decode b_MO_forward 58 = .ok (.ireturn, 1) := by decide +kernel
theorem d_MO_forward_59 : decode b_MO_forward 59 = .ok (.aload_n 0, 1) := by decide +kernel
theorem d_MO_forward_60 : decode b_MO_forward 60 = .ok (.getfield 20, 3) := by decide +kernel
theorem d_MO_forward_63 : decode b_MO_forward 63 = .ok (.iload_n 1, 1) := by decide +kernel
theorem d_MO_forward_64 : decode b_MO_forward 64 = .ok (.iload_n 2, 1) := by decide +kernel
theorem d_MO_forward_65 : decode b_MO_forward 65 = .ok (.iastore, 1) := by decide +kernel
theorem d_MO_forward_66 : decode b_MO_forward 66 = .ok (.aload_n 0, 1) := by decide +kernel
theorem d_MO_forward_67 : decode b_MO_forward 67 = .ok (.getfield 23, 3) := by decide +kernel
theorem d_MO_forward_70 : decode b_MO_forward 70 = .ok (.iload_n 1, 1) := by decide +kernel
theorem d_MO_forward_71 : decode b_MO_forward 71 = .ok (.iload_n 3, 1) := by decide +kernel
theorem d_MO_forward_72 : decode b_MO_forward 72 = .ok (.iastore, 1) := by decide +kernel
theorem d_MO_forward_73 : decode b_MO_forward 73 = .ok (.iconst 1, 1) := by decide +kernel
theorem d_MO_forward_74 : decode b_MO_forward 74 = .ok (.ireturn, 1) := by decide +kernel
theorem d_MO_areJoined_0 : decode b_MO_areJoined 0 = .ok (.iconst 0, 1) := by decide +kernel
theorem d_MO_areJoined_1 : decode b_MO_areJoined 1 = .ok (.istore_n 3, 1) := by decide +kernel
theorem d_MO_areJoined_2 : decode b_MO_areJoined 2 = .ok (.iconst 0, 1) := by decide +kernel
theorem d_MO_areJoined_3 : decode b_MO_areJoined 3 = .ok (.istore 4, 2) := by decide +kernel
theorem d_MO_areJoined_5 : decode b_MO_areJoined 5 = .ok (.iload 4, 2) := by decide +kernel
theorem d_MO_areJoined_7 : decode b_MO_areJoined 7 = .ok (.aload_n 0, 1) := by decide +kernel
theorem d_MO_areJoined_8 : decode b_MO_areJoined 8 = .ok (.getfield 80, 3) := by decide +kernel
theorem d_MO_areJoined_11 : decode b_MO_areJoined 11 = .ok (.if_icmp .ge 20, 3) := by decide +kernel
theorem d_MO_areJoined_14 : decode b_MO_areJoined 14 = .ok (.iload_n 3, 1) := by decide +kernel
theorem d_MO_areJoined_15 : decode b_MO_areJoined 15 = .ok (.aload_n 0, 1) := by decide +kernel
theorem d_MO_areJoined_16 : decode b_MO_areJoined 16 = .ok (.iload 4, 2) := by decide +kernel
theorem d_MO_areJoined_18 : decode b_MO_areJoined 18 = .ok (.iload_n 1, 1) := by decide +kernel
theorem d_MO_areJoined_19 : decode b_MO_areJoined 19 = .ok (.iload_n 2, 1) := by decide +kernel
theorem d_MO_areJoined_20 : decode b_MO_areJoined 20 = .ok (.invokevirtual 83, 3) := by decide +kernel
theorem d_MO_areJoined_23 : decode b_MO_areJoined 23 = .ok (.ior, 1) := by decide +kernel
theorem d_MO_areJoined_24 : decode b_MO_areJoined 24 = .ok (.istore_n 3, 1) := by decide +kernel
theorem d_MO_areJoined_25 : decode b_MO_areJoined 25 = .ok (.iinc 4 1, 3) := by decide +kernel
theorem d_MO_areJoined_28 : decode b_MO_areJoined 28 = .ok (.goto (-23), 3) := by decide +kernel
theorem d_MO_areJoined_31 : decode b_MO_areJoined 31 = .ok (.iload_n 3, 1) := by decide +kernel
theorem d_MO_areJoined_32 : decode b_MO_areJoined 32 = .ok (.ireturn, 1) := by decide +kernel
theorem d_MO_joins_0 : decode b_MO_joins 0 = .ok (.aload_n 0, 1) := by decide +kernel
theorem d_MO_joins_1 : decode b_MO_joins 1 = .ok (.getfield 26, 3) := by decide +kernel
theorem d_MO_joins_4 : decode b_MO_joins 4 = .ok (.iload_n 1, 1) := by decide +kernel
theorem d_MO_joins_5 : decode b_MO_joins 5 = .ok (.iaload, 1) := by decide +kernel
theorem d_MO_joins_6 : decode b_MO_joins 6 = .ok (.iload_n 2, 1) := by decide +kernel
theorem d_MO_joins_7 : decode b_MO_joins 7 = .ok (.if_icmp .ne 13, 3) := by decide +kernel
theorem d_MO_joins_10 : decode b_MO_joins 10 = .ok (.aload_n 0, 1) := by decide +kernel
theorem d_MO_joins_11 : decode b_MO_joins 11 = .ok (.getfield 29, 3) := by decide +kernel
theorem d_MO_joins_14 : decode b_MO_joins 14 = .ok (.iload_n 1, 1) := by decide +kernel
theorem d_MO_joins_15 : decode b_MO_joins 15 = .ok (.iaload, 1) := by decide +kernel
theorem d_MO_joins_16 : decode b_MO_joins 16 = .ok (.iload_n 3, 1) := by decide +kernel
theorem d_MO_joins_17 : decode b_MO_joins 17 = .ok (.if_icmp .eq 23, 3) := by decide +kernel
theorem d_MO_joins_20 : decode b_MO_joins 20 = .ok (.aload_n 0, 1) := by decide +kernel
theorem d_MO_joins_21 : decode b_MO_joins 21 = .ok (.getfield 26, 3) := by decide +kernel
theorem d_MO_joins_24 : decode b_MO_joins 24 = .ok (.iload_n 1, 1) := by decide +kernel
theorem d_MO_joins_25 : decode b_MO_joins 25 = .ok (.iaload, 1) := by decide +kernel
theorem d_MO_joins_26 : decode b_MO_joins 26 = .ok (.iload_n 3, 1) := by decide +kernel
theorem d_MO_joins_27 : decode b_MO_joins 27 = .ok (.if_icmp .ne 17, 3) := by decide +kernel
theorem d_MO_joins_30 : decode b_MO_joins 30 = .ok (.aload_n 0, 1) := by decide +kernel
theorem d_MO_joins_31 : decode b_MO_joins 31 = .ok (.getfield 29, 3) := by decide +kernel
theorem d_MO_joins_34 : decode b_MO_joins 34 = .ok (.iload_n 1, 1) := by decide +kernel
theorem d_MO_joins_35 : decode b_MO_joins 35 = .ok (.iaload, 1) := by decide +kernel
theorem d_MO_joins_36 : decode b_MO_joins 36 = .ok (.iload_n 2, 1) := by decide +kernel
theorem d_MO_joins_37 : decode b_MO_joins 37 = .ok (.if_icmp .ne 7, 3) := by decide +kernel
theorem d_MO_joins_40 : decode b_MO_joins 40 = .ok (.iconst 1, 1) := by decide +kernel
theorem d_MO_joins_41 : decode b_MO_joins 41 = .ok (.goto 4, 3) := by decide +kernel
theorem d_MO_joins_44 : decode b_MO_joins 44 = .ok (.iconst 0, 1) := by decide +kernel
theorem d_MO_joins_45 : decode b_MO_joins 45 = .ok (.ireturn, 1) := by decide +kernel
theorem d_MO_way_0 : decode b_MO_way 0 = .ok (.aload_n 0, 1) := by decide +kernel
theorem d_MO_way_1 : decode b_MO_way 1 = .ok (.iload_n 1, 1) := by decide +kernel
theorem d_MO_way_2 : decode b_MO_way 2 = .ok (.iload_n 2, 1) := by decide +kernel
theorem d_MO_way_3 : decode b_MO_way 3 = .ok (.invokevirtual 109, 3) := by decide +kernel
theorem d_MO_way_6 : decode b_MO_way 6 = .ok (.istore_n 3, 1) := by decide +kernel
theorem d_MO_way_7 : decode b_MO_way 7 = .ok (.iload_n 3, 1) := by decide +kernel
theorem d_MO_way_8 : decode b_MO_way 8 = .ok (.ifCond .eq 5, 3) := by decide +kernel
theorem d_MO_way_11 : decode b_MO_way 11 = .ok (.iload_n 3, 1) := by decide +kernel
theorem d_MO_way_12 : decode b_MO_way 12 = .ok (.ireturn, 1) := by decide +kernel
theorem d_MO_way_13 : decode b_MO_way 13 = .ok (.aload_n 0, 1) := by decide +kernel
theorem d_MO_way_14 : decode b_MO_way 14 = .ok (.invokevirtual 113, 3) := by decide +kernel
theorem d_MO_way_17 : decode b_MO_way 17 = .ok (.aload_n 0, 1) := by decide +kernel
theorem d_MO_way_18 : decode b_MO_way 18 = .ok (.getfield 116, 3) := by decide +kernel
theorem d_MO_way_21 : decode b_MO_way 21 = .ok (.bipush 64, 2) := by decide +kernel
theorem d_MO_way_23 : decode b_MO_way 23 = .ok (.if_icmp .ne 19, 3) := by decide +kernel
theorem d_MO_way_26 : decode b_MO_way 26 = .ok (.aload_n 0, 1) := by decide +kernel
theorem d_MO_way_27 : decode b_MO_way 27 = .ok (.iload_n 1, 1) := by decide +kernel
theorem d_MO_way_28 : decode b_MO_way 28 = .ok (.iload_n 2, 1) := by decide +kernel
theorem d_MO_way_29 : decode b_MO_way 29 = .ok (.invokevirtual 119, 3) := by decide +kernel
theorem d_MO_way_32 : decode b_MO_way 32 = .ok (.ifCond .eq 8, 3) := by decide +kernel
theorem d_MO_way_35 : decode b_MO_way 35 = .ok (.bipush (-5), 2) := by decide +kernel
theorem d_MO_way_37 : decode b_MO_way 37 = .ok (.goto 4, 3) := by decide +kernel
theorem d_MO_way_40 : decode b_MO_way 40 = .ok (.iconst (-1), 1) := by decide +kernel
theorem d_MO_way_41 : decode b_MO_way 41 = .ok (.ireturn, 1) := by decide +kernel
theorem d_MO_way_42 : decode b_MO_way 42 = .ok (.aload_n 0, 1) := by decide +kernel
theorem d_MO_way_43 : decode b_MO_way 43 = .ok (.iload_n 1, 1) := by decide +kernel
theorem d_MO_way_44 : decode b_MO_way 44 = .ok (.iload_n 2, 1) := by decide +kernel
theorem d_MO_way_45 : decode b_MO_way 45 = .ok (.aload_n 0, 1) := by decide +kernel
theorem d_MO_way_46 : decode b_MO_way 46 = .ok (.getfield 116, 3) := by decide +kernel
theorem d_MO_way_49 : decode b_MO_way 49 = .ok (.invokevirtual 122, 3) := by decide +kernel
theorem d_MO_way_52 : decode b_MO_way 52 = .ok (.ifCond .ne 5, 3) := by decide +kernel
theorem d_MO_way_55 : decode b_MO_way 55 = .ok (.iconst (-1), 1) := by decide +kernel
theorem d_MO_way_56 : decode b_MO_way 56 = .ok (.ireturn, 1) := by decide +kernel
theorem d_MO_way_57 : decode b_MO_way 57 = .ok (.aload_n 0, 1) := by decide +kernel
theorem d_MO_way_58 : decode b_MO_way 58 = .ok (.dup, 1) := by decide +kernel
theorem d_MO_way_59 : decode b_MO_way 59 = .ok (.getfield 116, 3) := by decide +kernel
theorem d_MO_way_62 : decode b_MO_way 62 = .ok (.iconst 1, 1) := by decide +kernel
theorem d_MO_way_63 : decode b_MO_way 63 = .ok (.iadd, 1) := by decide +kernel
theorem d_MO_way_64 : decode b_MO_way 64 = .ok (.putfield 116, 3) := by decide +kernel
theorem d_MO_way_67 : decode b_MO_way 67 = .ok (.aload_n 0, 1) := by decide +kernel
theorem d_MO_way_68 : decode b_MO_way 68 = .ok (.getfield 116, 3) := by decide +kernel
theorem d_MO_way_71 : decode b_MO_way 71 = .ok (.iconst 1, 1) := by decide +kernel
theorem d_MO_way_72 : decode b_MO_way 72 = .ok (.isub, 1) := by decide +kernel
theorem d_MO_way_73 : decode b_MO_way 73 = .ok (.ireturn, 1) := by decide +kernel
theorem d_MO_wrong_0 : decode b_MO_wrong 0 = .ok (.aload_n 0, 1) := by decide +kernel
theorem d_MO_wrong_1 : decode b_MO_wrong 1 = .ok (.iload_n 1, 1) := by decide +kernel
theorem d_MO_wrong_2 : decode b_MO_wrong 2 = .ok (.invokevirtual 106, 3) := by decide +kernel
theorem d_MO_wrong_5 : decode b_MO_wrong 5 = .ok (.ifCond .eq 11, 3) := by decide +kernel
theorem d_MO_wrong_8 : decode b_MO_wrong 8 = .ok (.aload_n 0, 1) := by decide +kernel
theorem d_MO_wrong_9 : decode b_MO_wrong 9 = .ok (.iload_n 2, 1) := by decide +kernel
theorem d_MO_wrong_10 : decode b_MO_wrong 10 = .ok (.invokevirtual 106, 3) := by decide +kernel
theorem d_MO_wrong_13 : decode b_MO_wrong 13 = .ok (.ifCond .ne 8, 3) := by decide +kernel
theorem d_MO_wrong_16 : decode b_MO_wrong 16 = .ok (.bipush (-2), 2) := by decide +kernel
theorem d_MO_wrong_18 : decode b_MO_wrong 18 = .ok (.goto 28, 3) := by decide +kernel
theorem d_MO_wrong_21 : decode b_MO_wrong 21 = .ok (.iload_n 1, 1) := by decide +kernel
theorem d_MO_wrong_22 : decode b_MO_wrong 22 = .ok (.iload_n 2, 1) := by decide +kernel
theorem d_MO_wrong_23 : decode b_MO_wrong 23 = .ok (.if_icmp .ne 8, 3) := by decide +kernel
theorem d_MO_wrong_26 : decode b_MO_wrong 26 = .ok (.bipush (-3), 2) := by decide +kernel
theorem d_MO_wrong_28 : decode b_MO_wrong 28 = .ok (.goto 18, 3) := by decide +kernel
theorem d_MO_wrong_31 : decode b_MO_wrong 31 = .ok (.aload_n 0, 1) := by decide +kernel
theorem d_MO_wrong_32 : decode b_MO_wrong 32 = .ok (.getfield 13, 3) := by decide +kernel
theorem d_MO_wrong_35 : decode b_MO_wrong 35 = .ok (.iload_n 1, 1) := by decide +kernel
theorem d_MO_wrong_36 : decode b_MO_wrong 36 = .ok (.baload, 1) := by decide +kernel
theorem d_MO_wrong_37 : decode b_MO_wrong 37 = .ok (.ifCond .eq 8, 3) := by decide +kernel
theorem d_MO_wrong_40 : decode b_MO_wrong 40 = .ok (.bipush (-4), 2) := by decide +kernel
theorem d_MO_wrong_42 : decode b_MO_wrong 42 = .ok (.goto 4, 3) := by decide +kernel
theorem d_MO_wrong_45 : decode b_MO_wrong 45 = .ok (.iconst 0, 1) := by decide +kernel
theorem d_MO_wrong_46 : decode b_MO_wrong 46 = .ok (.ireturn, 1) := by decide +kernel
theorem d_MO_isTank_0 : decode b_MO_isTank 0 = .ok (.aload_n 0, 1) := by decide +kernel
theorem d_MO_isTank_1 : decode b_MO_isTank 1 = .ok (.iload_n 1, 1) := by decide +kernel
theorem d_MO_isTank_2 : decode b_MO_isTank 2 = .ok (.invokevirtual 74, 3) := by decide +kernel
theorem d_MO_isTank_5 : decode b_MO_isTank 5 = .ok (.ifCond .eq 16, 3) := by decide +kernel
theorem d_MO_isTank_8 : decode b_MO_isTank 8 = .ok (.aload_n 0, 1) := by decide +kernel
theorem d_MO_isTank_9 : decode b_MO_isTank 9 = .ok (.getfield 9, 3) := by decide +kernel
theorem d_MO_isTank_12 : decode b_MO_isTank 12 = .ok (.iload_n 1, 1) := by decide +kernel
theorem d_MO_isTank_13 : decode b_MO_isTank 13 = .ok (.iaload, 1) := by decide +kernel
theorem d_MO_isTank_14 : decode b_MO_isTank 14 = .ok (.ifCond .ne 7, 3) := by decide +kernel
theorem d_MO_isTank_17 : decode b_MO_isTank 17 = .ok (.iconst 1, 1) := by decide +kernel
theorem d_MO_isTank_18 : decode b_MO_isTank 18 = .ok (.goto 4, 3) := by decide +kernel
theorem d_MO_isTank_21 : decode b_MO_isTank 21 = .ok (.iconst 0, 1) := by decide +kernel
theorem d_MO_isTank_22 : decode b_MO_isTank 22 = .ok (.ireturn, 1) := by decide +kernel
theorem d_MO_shut_0 : decode b_MO_shut 0 = .ok (.iconst 0, 1) := by decide +kernel
theorem d_MO_shut_1 : decode b_MO_shut 1 = .ok (.istore_n 1, 1) := by decide +kernel
theorem d_MO_shut_2 : decode b_MO_shut 2 = .ok (.iload_n 1, 1) := by decide +kernel
theorem d_MO_shut_3 : decode b_MO_shut 3 = .ok (.aload_n 0, 1) := by decide +kernel
theorem d_MO_shut_4 : decode b_MO_shut 4 = .ok (.getfield 66, 3) := by decide +kernel
theorem d_MO_shut_7 : decode b_MO_shut 7 = .ok (.if_icmp .ge 21, 3) := by decide +kernel
theorem d_MO_shut_10 : decode b_MO_shut 10 = .ok (.aload_n 0, 1) := by decide +kernel
theorem d_MO_shut_11 : decode b_MO_shut 11 = .ok (.getfield 54, 3) := by decide +kernel
theorem d_MO_shut_14 : decode b_MO_shut 14 = .ok (.iload_n 1, 1) := by decide +kernel
theorem d_MO_shut_15 : decode b_MO_shut 15 = .ok (.aload_n 0, 1) := by decide +kernel
theorem d_MO_shut_16 : decode b_MO_shut 16 = .ok (.getfield 17, 3) := by decide +kernel
theorem d_MO_shut_19 : decode b_MO_shut 19 = .ok (.iload_n 1, 1) := by decide +kernel
theorem d_MO_shut_20 : decode b_MO_shut 20 = .ok (.baload, 1) := by decide +kernel
theorem d_MO_shut_21 : decode b_MO_shut 21 = .ok (.bastore, 1) := by decide +kernel
theorem d_MO_shut_22 : decode b_MO_shut 22 = .ok (.iinc 1 1, 3) := by decide +kernel
theorem d_MO_shut_25 : decode b_MO_shut 25 = .ok (.goto (-23), 3) := by decide +kernel
theorem d_MO_shut_28 : decode b_MO_shut 28 = .ok (.iconst 0, 1) := by decide +kernel
theorem d_MO_shut_29 : decode b_MO_shut 29 = .ok (.istore_n 1, 1) := by decide +kernel
theorem d_MO_shut_30 : decode b_MO_shut 30 = .ok (.iload_n 1, 1) := by decide +kernel
theorem d_MO_shut_31 : decode b_MO_shut 31 = .ok (.aload_n 0, 1) := by decide +kernel
theorem d_MO_shut_32 : decode b_MO_shut 32 = .ok (.getfield 80, 3) := by decide +kernel
theorem d_MO_shut_35 : decode b_MO_shut 35 = .ok (.if_icmp .ge 96, 3) := by decide +kernel
theorem d_MO_shut_38 : decode b_MO_shut 38 = .ok (.aload_n 0, 1) := by decide +kernel
theorem d_MO_shut_39 : decode b_MO_shut 39 = .ok (.getfield 57, 3) := by decide +kernel
theorem d_MO_shut_42 : decode b_MO_shut 42 = .ok (.iload_n 1, 1) := by decide +kernel
theorem d_MO_shut_43 : decode b_MO_shut 43 = .ok (.aload_n 0, 1) := by decide +kernel
theorem d_MO_shut_44 : decode b_MO_shut 44 = .ok (.getfield 36, 3) := by decide +kernel
theorem d_MO_shut_47 : decode b_MO_shut 47 = .ok (.iload_n 1, 1) := by decide +kernel
theorem d_MO_shut_48 : decode b_MO_shut 48 = .ok (.baload, 1) := by decide +kernel
theorem d_MO_shut_49 : decode b_MO_shut 49 = .ok (.bastore, 1) := by decide +kernel
theorem d_MO_shut_50 : decode b_MO_shut 50 = .ok (.aload_n 0, 1) := by decide +kernel
theorem d_MO_shut_51 : decode b_MO_shut 51 = .ok (.getfield 36, 3) := by decide +kernel
theorem d_MO_shut_54 : decode b_MO_shut 54 = .ok (.iload_n 1, 1) := by decide +kernel
theorem d_MO_shut_55 : decode b_MO_shut 55 = .ok (.baload, 1) := by decide +kernel
theorem d_MO_shut_56 : decode b_MO_shut 56 = .ok (.ifCond .eq 69, 3) := by decide +kernel
theorem d_MO_shut_59 : decode b_MO_shut 59 = .ok (.aload_n 0, 1) := by decide +kernel
theorem d_MO_shut_60 : decode b_MO_shut 60 = .ok (.getfield 54, 3) := by decide +kernel
theorem d_MO_shut_63 : decode b_MO_shut 63 = .ok (.aload_n 0, 1) := by decide +kernel
theorem d_MO_shut_64 : decode b_MO_shut 64 = .ok (.getfield 26, 3) := by decide +kernel
theorem d_MO_shut_67 : decode b_MO_shut 67 = .ok (.iload_n 1, 1) := by decide +kernel
theorem d_MO_shut_68 : decode b_MO_shut 68 = .ok (.iaload, 1) := by decide +kernel
theorem d_MO_shut_69 : decode b_MO_shut 69 = .ok (.dup2, 1) := by decide +kernel
theorem d_MO_shut_70 : decode b_MO_shut 70 = .ok (.baload, 1) := by decide +kernel
theorem d_MO_shut_71 : decode b_MO_shut 71 = .ok (.aload_n 0, 1) := by decide +kernel
theorem d_MO_shut_72 : decode b_MO_shut 72 = .ok (.getfield 9, 3) := by decide +kernel
theorem d_MO_shut_75 : decode b_MO_shut 75 = .ok (.aload_n 0, 1) := by decide +kernel
theorem d_MO_shut_76 : decode b_MO_shut 76 = .ok (.getfield 26, 3) := by decide +kernel
theorem d_MO_shut_79 : decode b_MO_shut 79 = .ok (.iload_n 1, 1) := by decide +kernel
theorem d_MO_shut_80 : decode b_MO_shut 80 = .ok (.iaload, 1) := by decide +kernel
theorem d_MO_shut_81 : decode b_MO_shut 81 = .ok (.iaload, 1) := by decide +kernel
theorem d_MO_shut_82 : decode b_MO_shut 82 = .ok (.ifCond .eq 7, 3) := by decide +kernel
theorem d_MO_shut_85 : decode b_MO_shut 85 = .ok (.iconst 1, 1) := by decide +kernel
theorem d_MO_shut_86 : decode b_MO_shut 86 = .ok (.goto 4, 3) := by decide +kernel
theorem d_MO_shut_89 : decode b_MO_shut 89 = .ok (.iconst 0, 1) := by decide +kernel
theorem d_MO_shut_90 : decode b_MO_shut 90 = .ok (.ior, 1) := by decide +kernel
theorem d_MO_shut_91 : decode b_MO_shut 91 = .ok (.bastore, 1) := by decide +kernel
theorem d_MO_shut_92 : decode b_MO_shut 92 = .ok (.aload_n 0, 1) := by decide +kernel
theorem d_MO_shut_93 : decode b_MO_shut 93 = .ok (.getfield 54, 3) := by decide +kernel
theorem d_MO_shut_96 : decode b_MO_shut 96 = .ok (.aload_n 0, 1) := by decide +kernel
theorem d_MO_shut_97 : decode b_MO_shut 97 = .ok (.getfield 29, 3) := by decide +kernel
theorem d_MO_shut_100 : decode b_MO_shut 100 = .ok (.iload_n 1, 1) := by decide +kernel
theorem d_MO_shut_101 : decode b_MO_shut 101 = .ok (.iaload, 1) := by decide +kernel
theorem d_MO_shut_102 : decode b_MO_shut 102 = .ok (.dup2, 1) := by decide +kernel
theorem d_MO_shut_103 : decode b_MO_shut 103 = .ok (.baload, 1) := by decide +kernel
theorem d_MO_shut_104 : decode b_MO_shut 104 = .ok (.aload_n 0, 1) := by decide +kernel
theorem d_MO_shut_105 : decode b_MO_shut 105 = .ok (.getfield 9, 3) := by decide +kernel
theorem d_MO_shut_108 : decode b_MO_shut 108 = .ok (.aload_n 0, 1) := by decide +kernel
theorem d_MO_shut_109 : decode b_MO_shut 109 = .ok (.getfield 29, 3) := by decide +kernel
theorem d_MO_shut_112 : decode b_MO_shut 112 = .ok (.iload_n 1, 1) := by decide +kernel
theorem d_MO_shut_113 : decode b_MO_shut 113 = .ok (.iaload, 1) := by decide +kernel
theorem d_MO_shut_114 : decode b_MO_shut 114 = .ok (.iaload, 1) := by decide +kernel
theorem d_MO_shut_115 : decode b_MO_shut 115 = .ok (.ifCond .eq 7, 3) := by decide +kernel
theorem d_MO_shut_118 : decode b_MO_shut 118 = .ok (.iconst 1, 1) := by decide +kernel
theorem d_MO_shut_119 : decode b_MO_shut 119 = .ok (.goto 4, 3) := by decide +kernel
theorem d_MO_shut_122 : decode b_MO_shut 122 = .ok (.iconst 0, 1) := by decide +kernel
theorem d_MO_shut_123 : decode b_MO_shut 123 = .ok (.ior, 1) := by decide +kernel
theorem d_MO_shut_124 : decode b_MO_shut 124 = .ok (.bastore, 1) := by decide +kernel
theorem d_MO_shut_125 : decode b_MO_shut 125 = .ok (.iinc 1 1, 3) := by decide +kernel
theorem d_MO_shut_128 : decode b_MO_shut 128 = .ok (.goto (-98), 3) := by decide +kernel
theorem d_MO_shut_131 : decode b_MO_shut 131 = .ok (.return_, 1) := by decide +kernel
theorem d_MO_exists_0 : decode b_MO_exists 0 = .ok (.aload_n 0, 1) := by decide +kernel
theorem d_MO_exists_1 : decode b_MO_exists 1 = .ok (.getfield 54, 3) := by decide +kernel
theorem d_MO_exists_4 : decode b_MO_exists 4 = .ok (.iload_n 1, 1) := by decide +kernel
theorem d_MO_exists_5 : decode b_MO_exists 5 = .ok (.baload, 1) := by decide +kernel
theorem d_MO_exists_6 : decode b_MO_exists 6 = .ok (.ifCond .ne 12, 3) := by decide +kernel
theorem d_MO_exists_9 : decode b_MO_exists 9 = .ok (.aload_n 0, 1) := by decide +kernel
theorem d_MO_exists_10 : decode b_MO_exists 10 = .ok (.getfield 54, 3) := by decide +kernel
theorem d_MO_exists_13 : decode b_MO_exists 13 = .ok (.iload_n 2, 1) := by decide +kernel
theorem d_MO_exists_14 : decode b_MO_exists 14 = .ok (.baload, 1) := by decide +kernel
theorem d_MO_exists_15 : decode b_MO_exists 15 = .ok (.ifCond .eq 5, 3) := by decide +kernel
theorem d_MO_exists_18 : decode b_MO_exists 18 = .ok (.iconst 0, 1) := by decide +kernel
theorem d_MO_exists_19 : decode b_MO_exists 19 = .ok (.ireturn, 1) := by decide +kernel
theorem d_MO_exists_20 : decode b_MO_exists 20 = .ok (.aload_n 0, 1) := by decide +kernel
theorem d_MO_exists_21 : decode b_MO_exists 21 = .ok (.iload_n 1, 1) := by decide +kernel
theorem d_MO_exists_22 : decode b_MO_exists 22 = .ok (.iload_n 2, 1) := by decide +kernel
theorem d_MO_exists_23 : decode b_MO_exists 23 = .ok (.invokevirtual 102, 3) := by decide +kernel
theorem d_MO_exists_26 : decode b_MO_exists 26 = .ok (.aload_n 0, 1) := by decide +kernel
theorem d_MO_exists_27 : decode b_MO_exists 27 = .ok (.getfield 51, 3) := by decide +kernel
theorem d_MO_exists_30 : decode b_MO_exists 30 = .ok (.iload_n 1, 1) := by decide +kernel
theorem d_MO_exists_31 : decode b_MO_exists 31 = .ok (.laload, 1) := by decide +kernel
theorem d_MO_exists_32 : decode b_MO_exists 32 = .ok (.ldc2_w 91, 3) := by decide +kernel
theorem d_MO_exists_35 : decode b_MO_exists 35 = .ok (.lcmp, 1) := by decide +kernel
theorem d_MO_exists_36 : decode b_MO_exists 36 = .ok (.ifCond .eq 7, 3) := by decide +kernel
theorem d_MO_exists_39 : decode b_MO_exists 39 = .ok (.iconst 1, 1) := by decide +kernel
theorem d_MO_exists_40 : decode b_MO_exists 40 = .ok (.goto 4, 3) := by decide +kernel
theorem d_MO_exists_43 : decode b_MO_exists 43 = .ok (.iconst 0, 1) := by decide +kernel
theorem d_MO_exists_44 : decode b_MO_exists 44 = .ok (.ireturn, 1) := by decide +kernel
theorem d_MO_reckon_0 : decode b_MO_reckon 0 = .ok (.iconst 0, 1) := by decide +kernel
theorem d_MO_reckon_1 : decode b_MO_reckon 1 = .ok (.istore_n 3, 1) := by decide +kernel
theorem d_MO_reckon_2 : decode b_MO_reckon 2 = .ok (.iload_n 3, 1) := by decide +kernel
theorem d_MO_reckon_3 : decode b_MO_reckon 3 = .ok (.aload_n 0, 1) := by decide +kernel
theorem d_MO_reckon_4 : decode b_MO_reckon 4 = .ok (.getfield 66, 3) := by decide +kernel
theorem d_MO_reckon_7 : decode b_MO_reckon 7 = .ok (.if_icmp .ge 18, 3) := by decide +kernel
theorem d_MO_reckon_10 : decode b_MO_reckon 10 = .ok (.aload_n 0, 1) := by decide +kernel
theorem d_MO_reckon_11 : decode b_MO_reckon 11 = .ok (.getfield 51, 3) := by decide +kernel
theorem d_MO_reckon_14 : decode b_MO_reckon 14 = .ok (.iload_n 3, 1) := by decide +kernel
theorem d_MO_reckon_15 : decode b_MO_reckon 15 = .ok (.ldc2_w 91, 3) := by decide +kernel
theorem d_MO_reckon_18 : decode b_MO_reckon 18 = .ok (.lastore, 1) := by decide +kernel
theorem d_MO_reckon_19 : decode b_MO_reckon 19 = .ok (.iinc 3 1, 3) := by decide +kernel
theorem d_MO_reckon_22 : decode b_MO_reckon 22 = .ok (.goto (-20), 3) := by decide +kernel
theorem d_MO_reckon_25 : decode b_MO_reckon 25 = .ok (.aload_n 0, 1) := by decide +kernel
theorem d_MO_reckon_26 : decode b_MO_reckon 26 = .ok (.getfield 51, 3) := by decide +kernel
theorem d_MO_reckon_29 : decode b_MO_reckon 29 = .ok (.iload_n 2, 1) := by decide +kernel
theorem d_MO_reckon_30 : decode b_MO_reckon 30 = .ok (.lconst 0, 1) := by decide +kernel
theorem d_MO_reckon_31 : decode b_MO_reckon 31 = .ok (.lastore, 1) := by decide +kernel
theorem d_MO_reckon_32 : decode b_MO_reckon 32 = .ok (.iconst 1, 1) := by decide +kernel
theorem d_MO_reckon_33 : decode b_MO_reckon 33 = .ok (.istore_n 3, 1) := by decide +kernel
theorem d_MO_reckon_34 : decode b_MO_reckon 34 = .ok (.iload_n 3, 1) := by decide +kernel
theorem d_MO_reckon_35 : decode b_MO_reckon 35 = .ok (.ifCond .eq 76, 3) := by decide +kernel
theorem d_MO_reckon_38 : decode b_MO_reckon 38 = .ok (.iconst 0, 1) := by decide +kernel
theorem d_MO_reckon_39 : decode b_MO_reckon 39 = .ok (.istore_n 3, 1) := by decide +kernel
theorem d_MO_reckon_40 : decode b_MO_reckon 40 = .ok (.iconst 0, 1) := by decide +kernel
theorem d_MO_reckon_41 : decode b_MO_reckon 41 = .ok (.istore 4, 2) := by decide +kernel
theorem d_MO_reckon_43 : decode b_MO_reckon 43 = .ok (.iload 4, 2) := by decide +kernel
theorem d_MO_reckon_45 : decode b_MO_reckon 45 = .ok (.aload_n 0, 1) := by decide +kernel
theorem d_MO_reckon_46 : decode b_MO_reckon 46 = .ok (.getfield 80, 3) := by decide +kernel
theorem d_MO_reckon_49 : decode b_MO_reckon 49 = .ok (.if_icmp .ge 59, 3) := by decide +kernel
theorem d_MO_reckon_52 : decode b_MO_reckon 52 = .ok (.iload_n 3, 1) := by decide +kernel
theorem d_MO_reckon_53 : decode b_MO_reckon 53 = .ok (.aload_n 0, 1) := by decide +kernel
theorem d_MO_reckon_54 : decode b_MO_reckon 54 = .ok (.iload 4, 2) := by decide +kernel
theorem d_MO_reckon_56 : decode b_MO_reckon 56 = .ok (.aload_n 0, 1) := by decide +kernel
theorem d_MO_reckon_57 : decode b_MO_reckon 57 = .ok (.getfield 26, 3) := by decide +kernel
theorem d_MO_reckon_60 : decode b_MO_reckon 60 = .ok (.iload 4, 2) := by decide +kernel
theorem d_MO_reckon_62 : decode b_MO_reckon 62 = .ok (.iaload, 1) := by decide +kernel
theorem d_MO_reckon_63 : decode b_MO_reckon 63 = .ok (.aload_n 0, 1) := by decide +kernel
theorem d_MO_reckon_64 : decode b_MO_reckon 64 = .ok (.getfield 29, 3) := by decide +kernel
theorem d_MO_reckon_67 : decode b_MO_reckon 67 = .ok (.iload 4, 2) := by decide +kernel
theorem d_MO_reckon_69 : decode b_MO_reckon 69 = .ok (.iaload, 1) := by decide +kernel
theorem d_MO_reckon_70 : decode b_MO_reckon 70 = .ok (.iload_n 1, 1) := by decide +kernel
theorem d_MO_reckon_71 : decode b_MO_reckon 71 = .ok (.iload_n 2, 1) := by decide +kernel
theorem d_MO_reckon_72 : decode b_MO_reckon 72 = .ok (.invokevirtual 93, 3) := by decide +kernel
theorem d_MO_reckon_75 : decode b_MO_reckon 75 = .ok (.ior, 1) := by decide +kernel
theorem d_MO_reckon_76 : decode b_MO_reckon 76 = .ok (.istore_n 3, 1) := by decide +kernel
theorem d_MO_reckon_77 : decode b_MO_reckon 77 = .ok (.iload_n 3, 1) := by decide +kernel
theorem d_MO_reckon_78 : decode b_MO_reckon 78 = .ok (.aload_n 0, 1) := by decide +kernel
theorem d_MO_reckon_79 : decode b_MO_reckon 79 = .ok (.iload 4, 2) := by decide +kernel
theorem d_MO_reckon_81 : decode b_MO_reckon 81 = .ok (.aload_n 0, 1) := by decide +kernel
theorem d_MO_reckon_82 : decode b_MO_reckon 82 = .ok (.getfield 29, 3) := by decide +kernel
theorem d_MO_reckon_85 : decode b_MO_reckon 85 = .ok (.iload 4, 2) := by decide +kernel
theorem d_MO_reckon_87 : decode b_MO_reckon 87 = .ok (.iaload, 1) := by decide +kernel
theorem d_MO_reckon_88 : decode b_MO_reckon 88 = .ok (.aload_n 0, 1) := by decide +kernel
theorem d_MO_reckon_89 : decode b_MO_reckon 89 = .ok (.getfield 26, 3) := by decide +kernel
theorem d_MO_reckon_92 : decode b_MO_reckon 92 = .ok (.iload 4, 2) := by decide +kernel
theorem d_MO_reckon_94 : decode b_MO_reckon 94 = .ok (.iaload, 1) := by decide +kernel
theorem d_MO_reckon_95 : decode b_MO_reckon 95 = .ok (.iload_n 1, 1) := by decide +kernel
theorem d_MO_reckon_96 : decode b_MO_reckon 96 = .ok (.iload_n 2, 1) := by decide +kernel
theorem d_MO_reckon_97 : decode b_MO_reckon 97 = .ok (.invokevirtual 93, 3) := by decide +kernel
theorem d_MO_reckon_100 : decode b_MO_reckon 100 = .ok (.ior, 1) := by decide +kernel
theorem d_MO_reckon_101 : decode b_MO_reckon 101 = .ok (.istore_n 3, 1) := by decide +kernel
theorem d_MO_reckon_102 : decode b_MO_reckon 102 = .ok (.iinc 4 1, 3) := by decide +kernel
theorem d_MO_reckon_105 : decode b_MO_reckon 105 = .ok (.goto (-62), 3) := by decide +kernel
theorem d_MO_reckon_108 : decode b_MO_reckon 108 = .ok (.goto (-74), 3) := by decide +kernel
theorem d_MO_reckon_111 : decode b_MO_reckon 111 = .ok (.return_, 1) := by decide +kernel
theorem d_MO_improve_0 : decode b_MO_improve 0 = .ok (.aload_n 0, 1) := by decide +kernel
theorem d_MO_improve_1 : decode b_MO_improve 1 = .ok (.getfield 9, 3) := by decide +kernel
theorem d_MO_improve_4 : decode b_MO_improve 4 = .ok (.iload_n 2, 1) := by decide +kernel
theorem d_MO_improve_5 : decode b_MO_improve 5 = .ok (.iaload, 1) := by decide +kernel
theorem d_MO_improve_6 : decode b_MO_improve 6 = .ok (.ifCond .ne 9, 3) := by decide +kernel
theorem d_MO_improve_9 : decode b_MO_improve 9 = .ok (.iload_n 2, 1) := by decide +kernel
theorem d_MO_improve_10 : decode b_MO_improve 10 = .ok (.iload 4, 2) := by decide +kernel
theorem d_MO_improve_12 : decode b_MO_improve 12 = .ok (.if_icmp .ne 28, 3) := by decide +kernel
theorem d_MO_improve_15 : decode b_MO_improve 15 = .ok (.aload_n 0, 1) := by decide +kernel
theorem d_MO_improve_16 : decode b_MO_improve 16 = .ok (.getfield 9, 3) := by decide +kernel
theorem d_MO_improve_19 : decode b_MO_improve 19 = .ok (.iload_n 3, 1) := by decide +kernel
theorem d_MO_improve_20 : decode b_MO_improve 20 = .ok (.iaload, 1) := by decide +kernel
theorem d_MO_improve_21 : decode b_MO_improve 21 = .ok (.ifCond .ne 9, 3) := by decide +kernel
theorem d_MO_improve_24 : decode b_MO_improve 24 = .ok (.iload_n 3, 1) := by decide +kernel
theorem d_MO_improve_25 : decode b_MO_improve 25 = .ok (.iload 5, 2) := by decide +kernel
theorem d_MO_improve_27 : decode b_MO_improve 27 = .ok (.if_icmp .ne 13, 3) := by decide +kernel
theorem d_MO_improve_30 : decode b_MO_improve 30 = .ok (.iload_n 2, 1) := by decide +kernel
theorem d_MO_improve_31 : decode b_MO_improve 31 = .ok (.iload 5, 2) := by decide +kernel
theorem d_MO_improve_33 : decode b_MO_improve 33 = .ok (.if_icmp .eq 7, 3) := by decide +kernel
theorem d_MO_improve_36 : decode b_MO_improve 36 = .ok (.iconst 1, 1) := by decide +kernel
theorem d_MO_improve_37 : decode b_MO_improve 37 = .ok (.goto 4, 3) := by decide +kernel
theorem d_MO_improve_40 : decode b_MO_improve 40 = .ok (.iconst 0, 1) := by decide +kernel
theorem d_MO_improve_41 : decode b_MO_improve 41 = .ok (.istore 6, 2) := by decide +kernel
theorem d_MO_improve_43 : decode b_MO_improve 43 = .ok (.iload 6, 2) := by decide +kernel
theorem d_MO_improve_45 : decode b_MO_improve 45 = .ok (.ifCond .eq 26, 3) := by decide +kernel
theorem d_MO_improve_48 : decode b_MO_improve 48 = .ok (.aload_n 0, 1) := by decide +kernel
theorem d_MO_improve_49 : decode b_MO_improve 49 = .ok (.iload_n 1, 1) := by decide +kernel
theorem d_MO_improve_50 : decode b_MO_improve 50 = .ok (.iload_n 2, 1) := by decide +kernel
theorem d_MO_improve_51 : decode b_MO_improve 51 = .ok (.iload_n 3, 1) := by decide +kernel
theorem d_MO_improve_52 : decode b_MO_improve 52 = .ok (.invokevirtual 97, 3) := by decide +kernel
theorem d_MO_improve_55 : decode b_MO_improve 55 = .ok (.ifCond .eq 16, 3) := by decide +kernel
theorem d_MO_improve_58 : decode b_MO_improve 58 = .ok (.aload_n 0, 1) := by decide +kernel
theorem d_MO_improve_59 : decode b_MO_improve 59 = .ok (.getfield 51, 3) := by decide +kernel
theorem d_MO_improve_62 : decode b_MO_improve 62 = .ok (.iload_n 3, 1) := by decide +kernel
theorem d_MO_improve_63 : decode b_MO_improve 63 = .ok (.laload, 1) := by decide +kernel
theorem d_MO_improve_64 : decode b_MO_improve 64 = .ok (.ldc2_w 91, 3) := by decide +kernel
theorem d_MO_improve_67 : decode b_MO_improve 67 = .ok (.lcmp, 1) := by decide +kernel
theorem d_MO_improve_68 : decode b_MO_improve 68 = .ok (.ifCond .ne 5, 3) := by decide +kernel
theorem d_MO_improve_71 : decode b_MO_improve 71 = .ok (.iconst 0, 1) := by decide +kernel
theorem d_MO_improve_72 : decode b_MO_improve 72 = .ok (.ireturn, 1) := by decide +kernel
theorem d_MO_improve_73 : decode b_MO_improve 73 = .ok (.aload_n 0, 1) := by decide +kernel
theorem d_MO_improve_74 : decode b_MO_improve 74 = .ok (.getfield 51, 3) := by decide +kernel
theorem d_MO_improve_77 : decode b_MO_improve 77 = .ok (.iload_n 3, 1) := by decide +kernel
theorem d_MO_improve_78 : decode b_MO_improve 78 = .ok (.laload, 1) := by decide +kernel
theorem d_MO_improve_79 : decode b_MO_improve 79 = .ok (.ldc2_w 100, 3) := by decide +kernel
theorem d_MO_improve_82 : decode b_MO_improve 82 = .ok (.aload_n 0, 1) := by decide +kernel
theorem d_MO_improve_83 : decode b_MO_improve 83 = .ok (.getfield 32, 3) := by decide +kernel
theorem d_MO_improve_86 : decode b_MO_improve 86 = .ok (.iload_n 1, 1) := by decide +kernel
theorem d_MO_improve_87 : decode b_MO_improve 87 = .ok (.laload, 1) := by decide +kernel
theorem d_MO_improve_88 : decode b_MO_improve 88 = .ok (.lmul, 1) := by decide +kernel
theorem d_MO_improve_89 : decode b_MO_improve 89 = .ok (.ladd, 1) := by decide +kernel
theorem d_MO_improve_90 : decode b_MO_improve 90 = .ok (.aload_n 0, 1) := by decide +kernel
theorem d_MO_improve_91 : decode b_MO_improve 91 = .ok (.getfield 9, 3) := by decide +kernel
theorem d_MO_improve_94 : decode b_MO_improve 94 = .ok (.iload_n 2, 1) := by decide +kernel
theorem d_MO_improve_95 : decode b_MO_improve 95 = .ok (.iaload, 1) := by decide +kernel
theorem d_MO_improve_96 : decode b_MO_improve 96 = .ok (.iconst 2, 1) := by decide +kernel
theorem d_MO_improve_97 : decode b_MO_improve 97 = .ok (.if_icmp .ne 7, 3) := by decide +kernel
theorem d_MO_improve_100 : decode b_MO_improve 100 = .ok (.lconst 1, 1) := by decide +kernel
theorem d_MO_improve_101 : decode b_MO_improve 101 = .ok (.goto 4, 3) := by decide +kernel
theorem d_MO_improve_104 : decode b_MO_improve 104 = .ok (.lconst 0, 1) := by decide +kernel
theorem d_MO_improve_105 : decode b_MO_improve 105 = .ok (.ladd, 1) := by decide +kernel
theorem d_MO_improve_106 : decode b_MO_improve 106 = .ok (.lstore 7, 2) := by decide +kernel
theorem d_MO_improve_108 : decode b_MO_improve 108 = .ok (.lload 7, 2) := by decide +kernel
theorem d_MO_improve_110 : decode b_MO_improve 110 = .ok (.aload_n 0, 1) := by decide +kernel
theorem d_MO_improve_111 : decode b_MO_improve 111 = .ok (.getfield 51, 3) := by decide +kernel
theorem d_MO_improve_114 : decode b_MO_improve 114 = .ok (.iload_n 2, 1) := by decide +kernel
theorem d_MO_improve_115 : decode b_MO_improve 115 = .ok (.laload, 1) := by decide +kernel
theorem d_MO_improve_116 : decode b_MO_improve 116 = .ok (.lcmp, 1) := by decide +kernel
theorem d_MO_improve_117 : decode b_MO_improve 117 = .ok (.ifCond .lt 5, 3) := by decide +kernel
theorem d_MO_improve_120 : decode b_MO_improve 120 = .ok (.iconst 0, 1) := by decide +kernel
theorem d_MO_improve_121 : decode b_MO_improve 121 = .ok (.ireturn, 1) := by decide +kernel
theorem d_MO_improve_122 : decode b_MO_improve 122 = .ok (.aload_n 0, 1) := by decide +kernel
theorem d_MO_improve_123 : decode b_MO_improve 123 = .ok (.getfield 51, 3) := by decide +kernel
theorem d_MO_improve_126 : decode b_MO_improve 126 = .ok (.iload_n 2, 1) := by decide +kernel
theorem d_MO_improve_127 : decode b_MO_improve 127 = .ok (.lload 7, 2) := by decide +kernel
theorem d_MO_improve_129 : decode b_MO_improve 129 = .ok (.lastore, 1) := by decide +kernel
theorem d_MO_improve_130 : decode b_MO_improve 130 = .ok (.iconst 1, 1) := by decide +kernel
theorem d_MO_improve_131 : decode b_MO_improve 131 = .ok (.ireturn, 1) := by decide +kernel
theorem d_MO_goes_0 : decode b_MO_goes 0 = .ok (.aload_n 0, 1) := by decide +kernel
theorem d_MO_goes_1 : decode b_MO_goes 1 = .ok (.getfield 57, 3) := by decide +kernel
theorem d_MO_goes_4 : decode b_MO_goes 4 = .ok (.iload_n 1, 1) := by decide +kernel
theorem d_MO_goes_5 : decode b_MO_goes 5 = .ok (.baload, 1) := by decide +kernel
theorem d_MO_goes_6 : decode b_MO_goes 6 = .ok (.ifCond .ne 65, 3) := by decide +kernel
theorem d_MO_goes_9 : decode b_MO_goes 9 = .ok (.aload_n 0, 1) := by decide +kernel
theorem d_MO_goes_10 : decode b_MO_goes 10 = .ok (.getfield 54, 3) := by decide +kernel
theorem d_MO_goes_13 : decode b_MO_goes 13 = .ok (.iload_n 2, 1) := by decide +kernel
theorem d_MO_goes_14 : decode b_MO_goes 14 = .ok (.baload, 1) := by decide +kernel
theorem d_MO_goes_15 : decode b_MO_goes 15 = .ok (.ifCond .ne 56, 3) := by decide +kernel
theorem d_MO_goes_18 : decode b_MO_goes 18 = .ok (.aload_n 0, 1) := by decide +kernel
theorem d_MO_goes_19 : decode b_MO_goes 19 = .ok (.getfield 54, 3) := by decide +kernel
theorem d_MO_goes_22 : decode b_MO_goes 22 = .ok (.iload_n 3, 1) := by decide +kernel
theorem d_MO_goes_23 : decode b_MO_goes 23 = .ok (.baload, 1) := by decide +kernel
theorem d_MO_goes_24 : decode b_MO_goes 24 = .ok (.ifCond .ne 47, 3) := by decide +kernel
theorem d_MO_goes_27 : decode b_MO_goes 27 = .ok (.aload_n 0, 1) := by decide +kernel
theorem d_MO_goes_28 : decode b_MO_goes 28 = .ok (.getfield 9, 3) := by decide +kernel
theorem d_MO_goes_31 : decode b_MO_goes 31 = .ok (.iload_n 2, 1) := by decide +kernel
theorem d_MO_goes_32 : decode b_MO_goes 32 = .ok (.iaload, 1) := by decide +kernel
theorem d_MO_goes_33 : decode b_MO_goes 33 = .ok (.iconst 1, 1) := by decide +kernel
theorem d_MO_goes_34 : decode b_MO_goes 34 = .ok (.if_icmp .ne 13, 3) := by decide +kernel
theorem d_MO_goes_37 : decode b_MO_goes 37 = .ok (.aload_n 0, 1) := by decide +kernel
theorem d_MO_goes_38 : decode b_MO_goes 38 = .ok (.getfield 23, 3) := by decide +kernel
theorem d_MO_goes_41 : decode b_MO_goes 41 = .ok (.iload_n 2, 1) := by decide +kernel
theorem d_MO_goes_42 : decode b_MO_goes 42 = .ok (.iaload, 1) := by decide +kernel
theorem d_MO_goes_43 : decode b_MO_goes 43 = .ok (.iload_n 3, 1) := by decide +kernel
theorem d_MO_goes_44 : decode b_MO_goes 44 = .ok (.if_icmp .ne 27, 3) := by decide +kernel
theorem d_MO_goes_47 : decode b_MO_goes 47 = .ok (.aload_n 0, 1) := by decide +kernel
theorem d_MO_goes_48 : decode b_MO_goes 48 = .ok (.getfield 9, 3) := by decide +kernel
theorem d_MO_goes_51 : decode b_MO_goes 51 = .ok (.iload_n 3, 1) := by decide +kernel
theorem d_MO_goes_52 : decode b_MO_goes 52 = .ok (.iaload, 1) := by decide +kernel
theorem d_MO_goes_53 : decode b_MO_goes 53 = .ok (.iconst 1, 1) := by decide +kernel
theorem d_MO_goes_54 : decode b_MO_goes 54 = .ok (.if_icmp .ne 13, 3) := by decide +kernel
theorem d_MO_goes_57 : decode b_MO_goes 57 = .ok (.aload_n 0, 1) := by decide +kernel
theorem d_MO_goes_58 : decode b_MO_goes 58 = .ok (.getfield 20, 3) := by decide +kernel
theorem d_MO_goes_61 : decode b_MO_goes 61 = .ok (.iload_n 3, 1) := by decide +kernel
theorem d_MO_goes_62 : decode b_MO_goes 62 = .ok (.iaload, 1) := by decide +kernel
theorem d_MO_goes_63 : decode b_MO_goes 63 = .ok (.iload_n 2, 1) := by decide +kernel
theorem d_MO_goes_64 : decode b_MO_goes 64 = .ok (.if_icmp .ne 7, 3) := by decide +kernel
theorem d_MO_goes_67 : decode b_MO_goes 67 = .ok (.iconst 1, 1) := by decide +kernel
theorem d_MO_goes_68 : decode b_MO_goes 68 = .ok (.goto 4, 3) := by decide +kernel
theorem d_MO_goes_71 : decode b_MO_goes 71 = .ok (.iconst 0, 1) := by decide +kernel
theorem d_MO_goes_72 : decode b_MO_goes 72 = .ok (.ireturn, 1) := by decide +kernel
theorem d_MO_walk_0 : decode b_MO_walk 0 = .ok (.aload_n 0, 1) := by decide +kernel
theorem d_MO_walk_1 : decode b_MO_walk 1 = .ok (.getfield 54, 3) := by decide +kernel
theorem d_MO_walk_4 : decode b_MO_walk 4 = .ok (.iload_n 1, 1) := by decide +kernel
theorem d_MO_walk_5 : decode b_MO_walk 5 = .ok (.baload, 1) := by decide +kernel
theorem d_MO_walk_6 : decode b_MO_walk 6 = .ok (.ifCond .ne 12, 3) := by decide +kernel
theorem d_MO_walk_9 : decode b_MO_walk 9 = .ok (.aload_n 0, 1) := by decide +kernel
theorem d_MO_walk_10 : decode b_MO_walk 10 = .ok (.getfield 54, 3) := by decide +kernel
theorem d_MO_walk_13 : decode b_MO_walk 13 = .ok (.iload_n 2, 1) := by decide +kernel
theorem d_MO_walk_14 : decode b_MO_walk 14 = .ok (.baload, 1) := by decide +kernel
theorem d_MO_walk_15 : decode b_MO_walk 15 = .ok (.ifCond .eq 5, 3) := by decide +kernel
theorem d_MO_walk_18 : decode b_MO_walk 18 = .ok (.iconst 0, 1) := by decide +kernel
theorem d_MO_walk_19 : decode b_MO_walk 19 = .ok (.ireturn, 1) := by decide +kernel
theorem d_MO_walk_20 : decode b_MO_walk 20 = .ok (.aload_n 0, 1) := by decide +kernel
theorem d_MO_walk_21 : decode b_MO_walk 21 = .ok (.iload_n 1, 1) := by decide +kernel
theorem d_MO_walk_22 : decode b_MO_walk 22 = .ok (.iload_n 2, 1) := by decide +kernel
theorem d_MO_walk_23 : decode b_MO_walk 23 = .ok (.invokevirtual 102, 3) := by decide +kernel
theorem d_MO_walk_26 : decode b_MO_walk 26 = .ok (.aload_n 0, 1) := by decide +kernel
theorem d_MO_walk_27 : decode b_MO_walk 27 = .ok (.getfield 51, 3) := by decide +kernel
theorem d_MO_walk_30 : decode b_MO_walk 30 = .ok (.iload_n 1, 1) := by decide +kernel
theorem d_MO_walk_31 : decode b_MO_walk 31 = .ok (.laload, 1) := by decide +kernel
theorem d_MO_walk_32 : decode b_MO_walk 32 = .ok (.ldc2_w 91, 3) := by decide +kernel
theorem d_MO_walk_35 : decode b_MO_walk 35 = .ok (.lcmp, 1) := by decide +kernel
theorem d_MO_walk_36 : decode b_MO_walk 36 = .ok (.ifCond .ne 5, 3) := by decide +kernel
theorem d_MO_walk_39 : decode b_MO_walk 39 = .ok (.iconst 0, 1) := by decide +kernel
theorem d_MO_walk_40 : decode b_MO_walk 40 = .ok (.ireturn, 1) := by decide +kernel
theorem d_MO_walk_41 : decode b_MO_walk 41 = .ok (.iload_n 1, 1) := by decide +kernel
theorem d_MO_walk_42 : decode b_MO_walk 42 = .ok (.istore 4, 2) := by decide +kernel
theorem d_MO_walk_44 : decode b_MO_walk 44 = .ok (.iconst 0, 1) := by decide +kernel
theorem d_MO_walk_45 : decode b_MO_walk 45 = .ok (.istore 5, 2) := by decide +kernel
theorem d_MO_walk_47 : decode b_MO_walk 47 = .ok (.iload 4, 2) := by decide +kernel
theorem d_MO_walk_49 : decode b_MO_walk 49 = .ok (.iload_n 2, 1) := by decide +kernel
theorem d_MO_walk_50 : decode b_MO_walk 50 = .ok (.if_icmp .eq 207, 3) := by decide +kernel
theorem d_MO_walk_53 : decode b_MO_walk 53 = .ok (.iconst (-1), 1) := by decide +kernel
theorem d_MO_walk_54 : decode b_MO_walk 54 = .ok (.istore 6, 2) := by decide +kernel
theorem d_MO_walk_56 : decode b_MO_walk 56 = .ok (.iconst 0, 1) := by decide +kernel
theorem d_MO_walk_57 : decode b_MO_walk 57 = .ok (.istore 7, 2) := by decide +kernel
theorem d_MO_walk_59 : decode b_MO_walk 59 = .ok (.iload 6, 2) := by decide +kernel
theorem d_MO_walk_61 : decode b_MO_walk 61 = .ok (.iconst (-1), 1) := by decide +kernel
theorem d_MO_walk_62 : decode b_MO_walk 62 = .ok (.if_icmp .ne 171, 3) := by decide +kernel
theorem d_MO_walk_65 : decode b_MO_walk 65 = .ok (.aload_n 0, 1) := by decide +kernel
theorem d_MO_walk_66 : decode b_MO_walk 66 = .ok (.getfield 26, 3) := by decide +kernel
theorem d_MO_walk_69 : decode b_MO_walk 69 = .ok (.iload 7, 2) := by decide +kernel
theorem d_MO_walk_71 : decode b_MO_walk 71 = .ok (.iaload, 1) := by decide +kernel
theorem d_MO_walk_72 : decode b_MO_walk 72 = .ok (.iload 4, 2) := by decide +kernel
theorem d_MO_walk_74 : decode b_MO_walk 74 = .ok (.if_icmp .ne 13, 3) := by decide +kernel
theorem d_MO_walk_77 : decode b_MO_walk 77 = .ok (.aload_n 0, 1) := by decide +kernel
theorem d_MO_walk_78 : decode b_MO_walk 78 = .ok (.getfield 29, 3) := by decide +kernel
theorem d_MO_walk_81 : decode b_MO_walk 81 = .ok (.iload 7, 2) := by decide +kernel
theorem d_MO_walk_83 : decode b_MO_walk 83 = .ok (.iaload, 1) := by decide +kernel
theorem d_MO_walk_84 : decode b_MO_walk 84 = .ok (.goto 26, 3) := by decide +kernel
theorem d_MO_walk_87 : decode b_MO_walk 87 = .ok (.aload_n 0, 1) := by decide +kernel
theorem d_MO_walk_88 : decode b_MO_walk 88 = .ok (.getfield 29, 3) := by decide +kernel
theorem d_MO_walk_91 : decode b_MO_walk 91 = .ok (.iload 7, 2) := by decide +kernel
theorem d_MO_walk_93 : decode b_MO_walk 93 = .ok (.iaload, 1) := by decide +kernel
theorem d_MO_walk_94 : decode b_MO_walk 94 = .ok (.iload 4, 2) := by decide +kernel
theorem d_MO_walk_96 : decode b_MO_walk 96 = .ok (.if_icmp .ne 13, 3) := by decide +kernel
theorem d_MO_walk_99 : decode b_MO_walk 99 = .ok (.aload_n 0, 1) := by decide +kernel
theorem d_MO_walk_100 : decode b_MO_walk 100 = .ok (.getfield 26, 3) := by decide +kernel
theorem d_MO_walk_103 : decode b_MO_walk 103 = .ok (.iload 7, 2) := by decide +kernel
theorem d_MO_walk_105 : decode b_MO_walk 105 = .ok (.iaload, 1) := by decide +kernel
theorem d_MO_walk_106 : decode b_MO_walk 106 = .ok (.goto 4, 3) := by decide +kernel
theorem d_MO_walk_109 : decode b_MO_walk 109 = .ok (.iconst (-1), 1) := by decide +kernel
theorem d_MO_walk_110 : decode b_MO_walk 110 = .ok (.istore 8, 2) := by decide +kernel
theorem d_MO_walk_112 : decode b_MO_walk 112 = .ok (.iload 8, 2) := by decide +kernel
theorem d_MO_walk_114 : decode b_MO_walk 114 = .ok (.iconst (-1), 1) := by decide +kernel
theorem d_MO_walk_115 : decode b_MO_walk 115 = .ok (.if_icmp .eq 50, 3) := by decide +kernel
theorem d_MO_walk_118 : decode b_MO_walk 118 = .ok (.aload_n 0, 1) := by decide +kernel
theorem d_MO_walk_119 : decode b_MO_walk 119 = .ok (.getfield 9, 3) := by decide +kernel
theorem d_MO_walk_122 : decode b_MO_walk 122 = .ok (.iload 8, 2) := by decide +kernel
theorem d_MO_walk_124 : decode b_MO_walk 124 = .ok (.iaload, 1) := by decide +kernel
theorem d_MO_walk_125 : decode b_MO_walk 125 = .ok (.ifCond .ne 9, 3) := by decide +kernel
theorem d_MO_walk_128 : decode b_MO_walk 128 = .ok (.iload 8, 2) := by decide +kernel
theorem d_MO_walk_130 : decode b_MO_walk 130 = .ok (.iload_n 2, 1) := by decide +kernel
theorem d_MO_walk_131 : decode b_MO_walk 131 = .ok (.if_icmp .ne 34, 3) := by decide +kernel
theorem d_MO_walk_134 : decode b_MO_walk 134 = .ok (.aload_n 0, 1) := by decide +kernel
theorem d_MO_walk_135 : decode b_MO_walk 135 = .ok (.iload 7, 2) := by decide +kernel
theorem d_MO_walk_137 : decode b_MO_walk 137 = .ok (.iload 4, 2) := by decide +kernel
theorem d_MO_walk_139 : decode b_MO_walk 139 = .ok (.iload 8, 2) := by decide +kernel
theorem d_MO_walk_141 : decode b_MO_walk 141 = .ok (.invokevirtual 97, 3) := by decide +kernel
theorem d_MO_walk_144 : decode b_MO_walk 144 = .ok (.ifCond .eq 21, 3) := by decide +kernel
theorem d_MO_walk_147 : decode b_MO_walk 147 = .ok (.aload_n 0, 1) := by decide +kernel
theorem d_MO_walk_148 : decode b_MO_walk 148 = .ok (.getfield 51, 3) := by decide +kernel
theorem d_MO_walk_151 : decode b_MO_walk 151 = .ok (.iload 8, 2) := by decide +kernel
theorem d_MO_walk_153 : decode b_MO_walk 153 = .ok (.laload, 1) := by decide +kernel
theorem d_MO_walk_154 : decode b_MO_walk 154 = .ok (.ldc2_w 91, 3) := by decide +kernel
theorem d_MO_walk_157 : decode b_MO_walk 157 = .ok (.lcmp, 1) := by decide +kernel
theorem d_MO_walk_158 : decode b_MO_walk 158 = .ok (.ifCond .eq 7, 3) := by decide +kernel
theorem d_MO_walk_161 : decode b_MO_walk 161 = .ok (.iconst 1, 1) := by decide +kernel
theorem d_MO_walk_162 : decode b_MO_walk 162 = .ok (.goto 4, 3) := by decide +kernel
theorem d_MO_walk_165 : decode b_MO_walk 165 = .ok (.iconst 0, 1) := by decide +kernel
theorem d_MO_walk_166 : decode b_MO_walk 166 = .ok (.istore 9, 2) := by decide +kernel
theorem d_MO_walk_168 : decode b_MO_walk 168 = .ok (.iload 9, 2) := by decide +kernel
theorem d_MO_walk_170 : decode b_MO_walk 170 = .ok (.ifCond .eq 57, 3) := by decide +kernel
theorem d_MO_walk_173 : decode b_MO_walk 173 = .ok (.aload_n 0, 1) := by decide +kernel
theorem d_MO_walk_174 : decode b_MO_walk 174 = .ok (.getfield 51, 3) := by decide +kernel
theorem d_MO_walk_177 : decode b_MO_walk 177 = .ok (.iload 4, 2) := by decide +kernel
theorem d_MO_walk_179 : decode b_MO_walk 179 = .ok (.laload, 1) := by decide +kernel
theorem d_MO_walk_180 : decode b_MO_walk 180 = .ok (.aload_n 0, 1) := by decide +kernel
theorem d_MO_walk_181 : decode b_MO_walk 181 = .ok (.getfield 51, 3) := by decide +kernel
theorem d_MO_walk_184 : decode b_MO_walk 184 = .ok (.iload 8, 2) := by decide +kernel
theorem d_MO_walk_186 : decode b_MO_walk 186 = .ok (.laload, 1) := by decide +kernel
theorem d_MO_walk_187 : decode b_MO_walk 187 = .ok (.ldc2_w 100, 3) := by decide +kernel
theorem d_MO_walk_190 : decode b_MO_walk 190 = .ok (.aload_n 0, 1) := by decide +kernel
theorem d_MO_walk_191 : decode b_MO_walk 191 = .ok (.getfield 32, 3) := by decide +kernel
theorem d_MO_walk_194 : decode b_MO_walk 194 = .ok (.iload 7, 2) := by decide +kernel
theorem d_MO_walk_196 : decode b_MO_walk 196 = .ok (.laload, 1) := by decide +kernel
theorem d_MO_walk_197 : decode b_MO_walk 197 = .ok (.lmul, 1) := by decide +kernel
theorem d_MO_walk_198 : decode b_MO_walk 198 = .ok (.ladd, 1) := by decide +kernel
theorem d_MO_walk_199 : decode b_MO_walk 199 = .ok (.aload_n 0, 1) := by decide +kernel
theorem d_MO_walk_200 : decode b_MO_walk 200 = .ok (.getfield 9, 3) := by decide +kernel
theorem d_MO_walk_203 : decode b_MO_walk 203 = .ok (.iload 4, 2) := by decide +kernel
theorem d_MO_walk_205 : decode b_MO_walk 205 = .ok (.iaload, 1) := by decide +kernel
theorem d_MO_walk_206 : decode b_MO_walk 206 = .ok (.iconst 2, 1) := by decide +kernel
theorem d_MO_walk_207 : decode b_MO_walk 207 = .ok (.if_icmp .ne 7, 3) := by decide +kernel
theorem d_MO_walk_210 : decode b_MO_walk 210 = .ok (.lconst 1, 1) := by decide +kernel
theorem d_MO_walk_211 : decode b_MO_walk 211 = .ok (.goto 4, 3) := by decide +kernel
theorem d_MO_walk_214 : decode b_MO_walk 214 = .ok (.lconst 0, 1) := by decide +kernel
theorem d_MO_walk_215 : decode b_MO_walk 215 = .ok (.ladd, 1) := by decide +kernel
theorem d_MO_walk_216 : decode b_MO_walk 216 = .ok (.lcmp, 1) := by decide +kernel
theorem d_MO_walk_217 : decode b_MO_walk 217 = .ok (.ifCond .ne 10, 3) := by decide +kernel
theorem d_MO_walk_220 : decode b_MO_walk 220 = .ok (.iload 8, 2) := by decide +kernel
theorem d_MO_walk_222 : decode b_MO_walk 222 = .ok (.istore 6, 2) := by decide +kernel
theorem d_MO_walk_224 : decode b_MO_walk 224 = .ok (.goto 6, 3) := by decide +kernel
theorem d_MO_walk_227 : decode b_MO_walk 227 = .ok (.iinc 7 1, 3) := by decide +kernel
theorem d_MO_walk_230 : decode b_MO_walk 230 = .ok (.goto (-171), 3) := by decide +kernel
theorem d_MO_walk_233 : decode b_MO_walk 233 = .ok (.aload_n 0, 1) := by decide +kernel
theorem d_MO_walk_234 : decode b_MO_walk 234 = .ok (.getfield 39, 3) := by decide +kernel
theorem d_MO_walk_237 : decode b_MO_walk 237 = .ok (.iload_n 3, 1) := by decide +kernel
theorem d_MO_walk_238 : decode b_MO_walk 238 = .ok (.bipush 48, 2) := by decide +kernel
theorem d_MO_walk_240 : decode b_MO_walk 240 = .ok (.imul, 1) := by decide +kernel
theorem d_MO_walk_241 : decode b_MO_walk 241 = .ok (.iload 5, 2) := by decide +kernel
theorem d_MO_walk_243 : decode b_MO_walk 243 = .ok (.iadd, 1) := by decide +kernel
theorem d_MO_walk_244 : decode b_MO_walk 244 = .ok (.iload 7, 2) := by decide +kernel
theorem d_MO_walk_246 : decode b_MO_walk 246 = .ok (.iastore, 1) := by decide +kernel
theorem d_MO_walk_247 : decode b_MO_walk 247 = .ok (.iinc 5 1, 3) := by decide +kernel
theorem d_MO_walk_250 : decode b_MO_walk 250 = .ok (.iload 6, 2) := by decide +kernel
theorem d_MO_walk_252 : decode b_MO_walk 252 = .ok (.istore 4, 2) := by decide +kernel
theorem d_MO_walk_254 : decode b_MO_walk 254 = .ok (.goto (-207), 3) := by decide +kernel
theorem d_MO_walk_257 : decode b_MO_walk 257 = .ok (.aload_n 0, 1) := by decide +kernel
theorem d_MO_walk_258 : decode b_MO_walk 258 = .ok (.getfield 42, 3) := by decide +kernel
theorem d_MO_walk_261 : decode b_MO_walk 261 = .ok (.iload_n 3, 1) := by decide +kernel
theorem d_MO_walk_262 : decode b_MO_walk 262 = .ok (.iload 5, 2) := by decide +kernel
theorem d_MO_walk_264 : decode b_MO_walk 264 = .ok (.iastore, 1) := by decide +kernel
theorem d_MO_walk_265 : decode b_MO_walk 265 = .ok (.aload_n 0, 1) := by decide +kernel
theorem d_MO_walk_266 : decode b_MO_walk 266 = .ok (.getfield 45, 3) := by decide +kernel
theorem d_MO_walk_269 : decode b_MO_walk 269 = .ok (.iload_n 3, 1) := by decide +kernel
theorem d_MO_walk_270 : decode b_MO_walk 270 = .ok (.iload_n 1, 1) := by decide +kernel
theorem d_MO_walk_271 : decode b_MO_walk 271 = .ok (.iastore, 1) := by decide +kernel
theorem d_MO_walk_272 : decode b_MO_walk 272 = .ok (.aload_n 0, 1) := by decide +kernel
theorem d_MO_walk_273 : decode b_MO_walk 273 = .ok (.getfield 48, 3) := by decide +kernel
theorem d_MO_walk_276 : decode b_MO_walk 276 = .ok (.iload_n 3, 1) := by decide +kernel
theorem d_MO_walk_277 : decode b_MO_walk 277 = .ok (.iload_n 2, 1) := by decide +kernel
theorem d_MO_walk_278 : decode b_MO_walk 278 = .ok (.iastore, 1) := by decide +kernel
theorem d_MO_walk_279 : decode b_MO_walk 279 = .ok (.iconst 1, 1) := by decide +kernel
theorem d_MO_walk_280 : decode b_MO_walk 280 = .ok (.ireturn, 1) := by decide +kernel
theorem d_MO_pipeOf_0 : decode b_MO_pipeOf 0 = .ok (.aload_n 0, 1) := by decide +kernel
theorem d_MO_pipeOf_1 : decode b_MO_pipeOf 1 = .ok (.iload_n 1, 1) := by decide +kernel
theorem d_MO_pipeOf_2 : decode b_MO_pipeOf 2 = .ok (.invokevirtual 125, 3) := by decide +kernel
theorem d_MO_pipeOf_5 : decode b_MO_pipeOf 5 = .ok (.ifCond .ne 8, 3) := by decide +kernel
theorem d_MO_pipeOf_8 : decode b_MO_pipeOf 8 = .ok (.bipush (-2), 2) := by decide +kernel
theorem d_MO_pipeOf_10 : decode b_MO_pipeOf 10 = .ok (.goto 32, 3) := by decide +kernel
theorem d_MO_pipeOf_13 : decode b_MO_pipeOf 13 = .ok (.iload_n 2, 1) := by decide +kernel
theorem d_MO_pipeOf_14 : decode b_MO_pipeOf 14 = .ok (.ifCond .lt 13, 3) := by decide +kernel
theorem d_MO_pipeOf_17 : decode b_MO_pipeOf 17 = .ok (.iload_n 2, 1) := by decide +kernel
theorem d_MO_pipeOf_18 : decode b_MO_pipeOf 18 = .ok (.aload_n 0, 1) := by decide +kernel
theorem d_MO_pipeOf_19 : decode b_MO_pipeOf 19 = .ok (.getfield 42, 3) := by decide +kernel
theorem d_MO_pipeOf_22 : decode b_MO_pipeOf 22 = .ok (.iload_n 1, 1) := by decide +kernel
theorem d_MO_pipeOf_23 : decode b_MO_pipeOf 23 = .ok (.iaload, 1) := by decide +kernel
theorem d_MO_pipeOf_24 : decode b_MO_pipeOf 24 = .ok (.if_icmp .lt 7, 3) := by decide +kernel
theorem d_MO_pipeOf_27 : decode b_MO_pipeOf 27 = .ok (.iconst (-1), 1) := by decide +kernel
theorem d_MO_pipeOf_28 : decode b_MO_pipeOf 28 = .ok (.goto 14, 3) := by decide +kernel
theorem d_MO_pipeOf_31 : decode b_MO_pipeOf 31 = .ok (.aload_n 0, 1) := by decide +kernel
theorem d_MO_pipeOf_32 : decode b_MO_pipeOf 32 = .ok (.getfield 39, 3) := by decide +kernel
theorem d_MO_pipeOf_35 : decode b_MO_pipeOf 35 = .ok (.iload_n 1, 1) := by decide +kernel
theorem d_MO_pipeOf_36 : decode b_MO_pipeOf 36 = .ok (.bipush 48, 2) := by decide +kernel
theorem d_MO_pipeOf_38 : decode b_MO_pipeOf 38 = .ok (.imul, 1) := by decide +kernel
theorem d_MO_pipeOf_39 : decode b_MO_pipeOf 39 = .ok (.iload_n 2, 1) := by decide +kernel
theorem d_MO_pipeOf_40 : decode b_MO_pipeOf 40 = .ok (.iadd, 1) := by decide +kernel
theorem d_MO_pipeOf_41 : decode b_MO_pipeOf 41 = .ok (.iaload, 1) := by decide +kernel
theorem d_MO_pipeOf_42 : decode b_MO_pipeOf 42 = .ok (.ireturn, 1) := by decide +kernel
theorem d_MO_isWay_0 : decode b_MO_isWay 0 = .ok (.iload_n 1, 1) := by decide +kernel
theorem d_MO_isWay_1 : decode b_MO_isWay 1 = .ok (.ifCond .lt 15, 3) := by decide +kernel
theorem d_MO_isWay_4 : decode b_MO_isWay 4 = .ok (.iload_n 1, 1) := by decide +kernel
theorem d_MO_isWay_5 : decode b_MO_isWay 5 = .ok (.aload_n 0, 1) := by decide +kernel
theorem d_MO_isWay_6 : decode b_MO_isWay 6 = .ok (.getfield 116, 3) := by decide +kernel
theorem d_MO_isWay_9 : decode b_MO_isWay 9 = .ok (.if_icmp .ge 7, 3) := by decide +kernel
theorem d_MO_isWay_12 : decode b_MO_isWay 12 = .ok (.iconst 1, 1) := by decide +kernel
theorem d_MO_isWay_13 : decode b_MO_isWay 13 = .ok (.goto 4, 3) := by decide +kernel
theorem d_MO_isWay_16 : decode b_MO_isWay 16 = .ok (.iconst 0, 1) := by decide +kernel
theorem d_MO_isWay_17 : decode b_MO_isWay 17 = .ok (.ireturn, 1) := by decide +kernel
theorem d_MO_valveOf_0 : decode b_MO_valveOf 0 = .ok (.aload_n 0, 1) := by decide +kernel
theorem d_MO_valveOf_1 : decode b_MO_valveOf 1 = .ok (.iload_n 1, 1) := by decide +kernel
theorem d_MO_valveOf_2 : decode b_MO_valveOf 2 = .ok (.invokevirtual 125, 3) := by decide +kernel
theorem d_MO_valveOf_5 : decode b_MO_valveOf 5 = .ok (.ifCond .ne 6, 3) := by decide +kernel
theorem d_MO_valveOf_8 : decode b_MO_valveOf 8 = .ok (.bipush (-2), 2) := by decide +kernel
theorem d_MO_valveOf_10 : decode b_MO_valveOf 10 = .ok (.ireturn, 1) := by decide +kernel
theorem d_MO_valveOf_11 : decode b_MO_valveOf 11 = .ok (.iconst 0, 1) := by decide +kernel
theorem d_MO_valveOf_12 : decode b_MO_valveOf 12 = .ok (.istore_n 3, 1) := by decide +kernel
theorem d_MO_valveOf_13 : decode b_MO_valveOf 13 = .ok (.iconst 0, 1) := by decide +kernel
theorem d_MO_valveOf_14 : decode b_MO_valveOf 14 = .ok (.istore 4, 2) := by decide +kernel
theorem d_MO_valveOf_16 : decode b_MO_valveOf 16 = .ok (.iload 4, 2) := by decide +kernel
theorem d_MO_valveOf_18 : decode b_MO_valveOf 18 = .ok (.aload_n 0, 1) := by decide +kernel
theorem d_MO_valveOf_19 : decode b_MO_valveOf 19 = .ok (.getfield 42, 3) := by decide +kernel
theorem d_MO_valveOf_22 : decode b_MO_valveOf 22 = .ok (.iload_n 1, 1) := by decide +kernel
theorem d_MO_valveOf_23 : decode b_MO_valveOf 23 = .ok (.iaload, 1) := by decide +kernel
theorem d_MO_valveOf_24 : decode b_MO_valveOf 24 = .ok (.if_icmp .ge 40, 3) := by decide +kernel
theorem d_MO_valveOf_27 : decode b_MO_valveOf 27 = .ok (.aload_n 0, 1) := by decide +kernel
theorem d_MO_valveOf_28 : decode b_MO_valveOf 28 = .ok (.iload_n 1, 1) := by decide +kernel
theorem d_MO_valveOf_29 : decode b_MO_valveOf 29 = .ok (.iload 4, 2) := by decide +kernel
theorem d_MO_valveOf_31 : decode b_MO_valveOf 31 = .ok (.invokevirtual 128, 3) := by decide +kernel
theorem d_MO_valveOf_34 : decode b_MO_valveOf 34 = .ok (.istore 5, 2) := by decide +kernel
theorem d_MO_valveOf_36 : decode b_MO_valveOf 36 = .ok (.aload_n 0, 1) := by decide +kernel
theorem d_MO_valveOf_37 : decode b_MO_valveOf 37 = .ok (.getfield 9, 3) := by decide +kernel
theorem d_MO_valveOf_40 : decode b_MO_valveOf 40 = .ok (.iload 5, 2) := by decide +kernel
theorem d_MO_valveOf_42 : decode b_MO_valveOf 42 = .ok (.iaload, 1) := by decide +kernel
theorem d_MO_valveOf_43 : decode b_MO_valveOf 43 = .ok (.iconst 2, 1) := by decide +kernel
theorem d_MO_valveOf_44 : decode b_MO_valveOf 44 = .ok (.if_icmp .ne 14, 3) := by decide +kernel
theorem d_MO_valveOf_47 : decode b_MO_valveOf 47 = .ok (.iload_n 3, 1) := by decide +kernel
theorem d_MO_valveOf_48 : decode b_MO_valveOf 48 = .ok (.iload_n 2, 1) := by decide +kernel
theorem d_MO_valveOf_49 : decode b_MO_valveOf 49 = .ok (.if_icmp .ne 6, 3) := by decide +kernel
theorem d_MO_valveOf_52 : decode b_MO_valveOf 52 = .ok (.iload 5, 2) := by decide +kernel
theorem d_MO_valveOf_54 : decode b_MO_valveOf 54 = .ok (.ireturn, 1) := by decide +kernel
theorem d_MO_valveOf_55 : decode b_MO_valveOf 55 = .ok (.iinc 3 1, 3) := by decide +kernel
theorem d_MO_valveOf_58 : decode b_MO_valveOf 58 = .ok (.iinc 4 1, 3) := by decide +kernel
theorem d_MO_valveOf_61 : decode b_MO_valveOf 61 = .ok (.goto (-45), 3) := by decide +kernel
theorem d_MO_valveOf_64 : decode b_MO_valveOf 64 = .ok (.iconst (-1), 1) := by decide +kernel
theorem d_MO_valveOf_65 : decode b_MO_valveOf 65 = .ok (.ireturn, 1) := by decide +kernel
theorem d_MO_behind_0 : decode b_MO_behind 0 = .ok (.aload_n 0, 1) := by decide +kernel
theorem d_MO_behind_1 : decode b_MO_behind 1 = .ok (.getfield 45, 3) := by decide +kernel
theorem d_MO_behind_4 : decode b_MO_behind 4 = .ok (.iload_n 1, 1) := by decide +kernel
theorem d_MO_behind_5 : decode b_MO_behind 5 = .ok (.iaload, 1) := by decide +kernel
theorem d_MO_behind_6 : decode b_MO_behind 6 = .ok (.istore_n 3, 1) := by decide +kernel
theorem d_MO_behind_7 : decode b_MO_behind 7 = .ok (.iconst 0, 1) := by decide +kernel
theorem d_MO_behind_8 : decode b_MO_behind 8 = .ok (.istore 4, 2) := by decide +kernel
theorem d_MO_behind_10 : decode b_MO_behind 10 = .ok (.iload 4, 2) := by decide +kernel
theorem d_MO_behind_12 : decode b_MO_behind 12 = .ok (.iload_n 2, 1) := by decide +kernel
theorem d_MO_behind_13 : decode b_MO_behind 13 = .ok (.if_icmp .gt 52, 3) := by decide +kernel
theorem d_MO_behind_16 : decode b_MO_behind 16 = .ok (.aload_n 0, 1) := by decide +kernel
theorem d_MO_behind_17 : decode b_MO_behind 17 = .ok (.getfield 39, 3) := by decide +kernel
theorem d_MO_behind_20 : decode b_MO_behind 20 = .ok (.iload_n 1, 1) := by decide +kernel
theorem d_MO_behind_21 : decode b_MO_behind 21 = .ok (.bipush 48, 2) := by decide +kernel
theorem d_MO_behind_23 : decode b_MO_behind 23 = .ok (.imul, 1) := by decide +kernel
theorem d_MO_behind_24 : decode b_MO_behind 24 = .ok (.iload 4, 2) := by decide +kernel
theorem d_MO_behind_26 : decode b_MO_behind 26 = .ok (.iadd, 1) := by decide +kernel
theorem d_MO_behind_27 : decode b_MO_behind 27 = .ok (.iaload, 1) := by decide +kernel
theorem d_MO_behind_28 : decode b_MO_behind 28 = .ok (.istore 5, 2) := by decide +kernel
theorem d_MO_behind_30 : decode b_MO_behind 30 = .ok (.aload_n 0, 1) := by decide +kernel
theorem d_MO_behind_31 : decode b_MO_behind 31 = .ok (.getfield 26, 3) := by decide +kernel
theorem d_MO_behind_34 : decode b_MO_behind 34 = .ok (.iload 5, 2) := by decide +kernel
theorem d_MO_behind_36 : decode b_MO_behind 36 = .ok (.iaload, 1) := by decide +kernel
theorem d_MO_behind_37 : decode b_MO_behind 37 = .ok (.iload_n 3, 1) := by decide +kernel
theorem d_MO_behind_38 : decode b_MO_behind 38 = .ok (.if_icmp .ne 13, 3) := by decide +kernel
theorem d_MO_behind_41 : decode b_MO_behind 41 = .ok (.aload_n 0, 1) := by decide +kernel
theorem d_MO_behind_42 : decode b_MO_behind 42 = .ok (.getfield 29, 3) := by decide +kernel
theorem d_MO_behind_45 : decode b_MO_behind 45 = .ok (.iload 5, 2) := by decide +kernel
theorem d_MO_behind_47 : decode b_MO_behind 47 = .ok (.iaload, 1) := by decide +kernel
theorem d_MO_behind_48 : decode b_MO_behind 48 = .ok (.goto 10, 3) := by decide +kernel
theorem d_MO_behind_51 : decode b_MO_behind 51 = .ok (.aload_n 0, 1) := by decide +kernel
theorem d_MO_behind_52 : decode b_MO_behind 52 = .ok (.getfield 26, 3) := by decide +kernel
theorem d_MO_behind_55 : decode b_MO_behind 55 = .ok (.iload 5, 2) := by decide +kernel
theorem d_MO_behind_57 : decode b_MO_behind 57 = .ok (.iaload, 1) := by decide +kernel
theorem d_MO_behind_58 : decode b_MO_behind 58 = .ok (.istore_n 3, 1) := by decide +kernel
theorem d_MO_behind_59 : decode b_MO_behind 59 = .ok (.iinc 4 1, 3) := by decide +kernel
theorem d_MO_behind_62 : decode b_MO_behind 62 = .ok (.goto (-52), 3) := by decide +kernel
theorem d_MO_behind_65 : decode b_MO_behind 65 = .ok (.iload_n 3, 1) := by decide +kernel
theorem d_MO_behind_66 : decode b_MO_behind 66 = .ok (.ireturn, 1) := by decide +kernel
theorem d_MO_rest_0 : decode b_MO_rest 0 = .ok (.aload_n 0, 1) := by decide +kernel
theorem d_MO_rest_1 : decode b_MO_rest 1 = .ok (.iload_n 1, 1) := by decide +kernel
theorem d_MO_rest_2 : decode b_MO_rest 2 = .ok (.invokevirtual 125, 3) := by decide +kernel
theorem d_MO_rest_5 : decode b_MO_rest 5 = .ok (.ifCond .ne 7, 3) := by decide +kernel
theorem d_MO_rest_8 : decode b_MO_rest 8 = .ok (.ldc2_w 131, 3) := by decide +kernel
theorem d_MO_rest_11 : decode b_MO_rest 11 = .ok (.lreturn, 1) := by decide +kernel
theorem d_MO_rest_12 : decode b_MO_rest 12 = .ok (.lconst 0, 1) := by decide +kernel
theorem d_MO_rest_13 : decode b_MO_rest 13 = .ok (.lstore_n 2, 1) := by decide +kernel
theorem d_MO_rest_14 : decode b_MO_rest 14 = .ok (.iconst 0, 1) := by decide +kernel
theorem d_MO_rest_15 : decode b_MO_rest 15 = .ok (.istore 4, 2) := by decide +kernel
theorem d_MO_rest_17 : decode b_MO_rest 17 = .ok (.iload 4, 2) := by decide +kernel
theorem d_MO_rest_19 : decode b_MO_rest 19 = .ok (.aload_n 0, 1) := by decide +kernel
theorem d_MO_rest_20 : decode b_MO_rest 20 = .ok (.getfield 42, 3) := by decide +kernel
theorem d_MO_rest_23 : decode b_MO_rest 23 = .ok (.iload_n 1, 1) := by decide +kernel
theorem d_MO_rest_24 : decode b_MO_rest 24 = .ok (.iaload, 1) := by decide +kernel
theorem d_MO_rest_25 : decode b_MO_rest 25 = .ok (.if_icmp .ge 29, 3) := by decide +kernel
theorem d_MO_rest_28 : decode b_MO_rest 28 = .ok (.lload_n 2, 1) := by decide +kernel
theorem d_MO_rest_29 : decode b_MO_rest 29 = .ok (.aload_n 0, 1) := by decide +kernel
theorem d_MO_rest_30 : decode b_MO_rest 30 = .ok (.getfield 32, 3) := by decide +kernel
theorem d_MO_rest_33 : decode b_MO_rest 33 = .ok (.aload_n 0, 1) := by decide +kernel
theorem d_MO_rest_34 : decode b_MO_rest 34 = .ok (.getfield 39, 3) := by decide +kernel
theorem d_MO_rest_37 : decode b_MO_rest 37 = .ok (.iload_n 1, 1) := by decide +kernel
theorem d_MO_rest_38 : decode b_MO_rest 38 = .ok (.bipush 48, 2) := by decide +kernel
theorem d_MO_rest_40 : decode b_MO_rest 40 = .ok (.imul, 1) := by decide +kernel
theorem d_MO_rest_41 : decode b_MO_rest 41 = .ok (.iload 4, 2) := by decide +kernel
theorem d_MO_rest_43 : decode b_MO_rest 43 = .ok (.iadd, 1) := by decide +kernel
theorem d_MO_rest_44 : decode b_MO_rest 44 = .ok (.iaload, 1) := by decide +kernel
theorem d_MO_rest_45 : decode b_MO_rest 45 = .ok (.laload, 1) := by decide +kernel
theorem d_MO_rest_46 : decode b_MO_rest 46 = .ok (.ladd, 1) := by decide +kernel
theorem d_MO_rest_47 : decode b_MO_rest 47 = .ok (.lstore_n 2, 1) := by decide +kernel
theorem d_MO_rest_48 : decode b_MO_rest 48 = .ok (.iinc 4 1, 3) := by decide +kernel
theorem d_MO_rest_51 : decode b_MO_rest 51 = .ok (.goto (-34), 3) := by decide +kernel
theorem d_MO_rest_54 : decode b_MO_rest 54 = .ok (.lload_n 2, 1) := by decide +kernel
theorem d_MO_rest_55 : decode b_MO_rest 55 = .ok (.lreturn, 1) := by decide +kernel
theorem d_MO_other_0 : decode b_MO_other 0 = .ok (.aload_n 0, 1) := by decide +kernel
theorem d_MO_other_1 : decode b_MO_other 1 = .ok (.iload_n 1, 1) := by decide +kernel
theorem d_MO_other_2 : decode b_MO_other 2 = .ok (.invokevirtual 125, 3) := by decide +kernel
theorem d_MO_other_5 : decode b_MO_other 5 = .ok (.ifCond .ne 6, 3) := by decide +kernel
theorem d_MO_other_8 : decode b_MO_other 8 = .ok (.bipush (-2), 2) := by decide +kernel
theorem d_MO_other_10 : decode b_MO_other 10 = .ok (.ireturn, 1) := by decide +kernel
theorem d_MO_other_11 : decode b_MO_other 11 = .ok (.iload_n 2, 1) := by decide +kernel
theorem d_MO_other_12 : decode b_MO_other 12 = .ok (.ifCond .lt 13, 3) := by decide +kernel
theorem d_MO_other_15 : decode b_MO_other 15 = .ok (.iload_n 2, 1) := by decide +kernel
theorem d_MO_other_16 : decode b_MO_other 16 = .ok (.aload_n 0, 1) := by decide +kernel
theorem d_MO_other_17 : decode b_MO_other 17 = .ok (.getfield 42, 3) := by decide +kernel
theorem d_MO_other_20 : decode b_MO_other 20 = .ok (.iload_n 1, 1) := by decide +kernel
theorem d_MO_other_21 : decode b_MO_other 21 = .ok (.iaload, 1) := by decide +kernel
theorem d_MO_other_22 : decode b_MO_other 22 = .ok (.if_icmp .lt 5, 3) := by decide +kernel
theorem d_MO_other_25 : decode b_MO_other 25 = .ok (.iconst (-1), 1) := by decide +kernel
theorem d_MO_other_26 : decode b_MO_other 26 = .ok (.ireturn, 1) := by decide +kernel
theorem d_MO_other_27 : decode b_MO_other 27 = .ok (.aload_n 0, 1) := by decide +kernel
theorem d_MO_other_28 : decode b_MO_other 28 = .ok (.invokevirtual 113, 3) := by decide +kernel
theorem d_MO_other_31 : decode b_MO_other 31 = .ok (.aload_n 0, 1) := by decide +kernel
theorem d_MO_other_32 : decode b_MO_other 32 = .ok (.getfield 57, 3) := by decide +kernel
theorem d_MO_other_35 : decode b_MO_other 35 = .ok (.aload_n 0, 1) := by decide +kernel
theorem d_MO_other_36 : decode b_MO_other 36 = .ok (.getfield 39, 3) := by decide +kernel
theorem d_MO_other_39 : decode b_MO_other 39 = .ok (.iload_n 1, 1) := by decide +kernel
theorem d_MO_other_40 : decode b_MO_other 40 = .ok (.bipush 48, 2) := by decide +kernel
theorem d_MO_other_42 : decode b_MO_other 42 = .ok (.imul, 1) := by decide +kernel
theorem d_MO_other_43 : decode b_MO_other 43 = .ok (.iload_n 2, 1) := by decide +kernel
theorem d_MO_other_44 : decode b_MO_other 44 = .ok (.iadd, 1) := by decide +kernel
theorem d_MO_other_45 : decode b_MO_other 45 = .ok (.iaload, 1) := by decide +kernel
theorem d_MO_other_46 : decode b_MO_other 46 = .ok (.iconst 1, 1) := by decide +kernel
theorem d_MO_other_47 : decode b_MO_other 47 = .ok (.bastore, 1) := by decide +kernel
theorem d_MO_other_48 : decode b_MO_other 48 = .ok (.aload_n 0, 1) := by decide +kernel
theorem d_MO_other_49 : decode b_MO_other 49 = .ok (.getfield 116, 3) := by decide +kernel
theorem d_MO_other_52 : decode b_MO_other 52 = .ok (.bipush 64, 2) := by decide +kernel
theorem d_MO_other_54 : decode b_MO_other 54 = .ok (.if_icmp .ne 29, 3) := by decide +kernel
theorem d_MO_other_57 : decode b_MO_other 57 = .ok (.aload_n 0, 1) := by decide +kernel
theorem d_MO_other_58 : decode b_MO_other 58 = .ok (.aload_n 0, 1) := by decide +kernel
theorem d_MO_other_59 : decode b_MO_other 59 = .ok (.getfield 45, 3) := by decide +kernel
theorem d_MO_other_62 : decode b_MO_other 62 = .ok (.iload_n 1, 1) := by decide +kernel
theorem d_MO_other_63 : decode b_MO_other 63 = .ok (.iaload, 1) := by decide +kernel
theorem d_MO_other_64 : decode b_MO_other 64 = .ok (.aload_n 0, 1) := by decide +kernel
theorem d_MO_other_65 : decode b_MO_other 65 = .ok (.getfield 48, 3) := by decide +kernel
theorem d_MO_other_68 : decode b_MO_other 68 = .ok (.iload_n 1, 1) := by decide +kernel
theorem d_MO_other_69 : decode b_MO_other 69 = .ok (.iaload, 1) := by decide +kernel
theorem d_MO_other_70 : decode b_MO_other 70 = .ok (.invokevirtual 119, 3) := by decide +kernel
theorem d_MO_other_73 : decode b_MO_other 73 = .ok (.ifCond .eq 8, 3) := by decide +kernel
theorem d_MO_other_76 : decode b_MO_other 76 = .ok (.bipush (-5), 2) := by decide +kernel
theorem d_MO_other_78 : decode b_MO_other 78 = .ok (.goto 4, 3) := by decide +kernel
theorem d_MO_other_81 : decode b_MO_other 81 = .ok (.iconst (-1), 1) := by decide +kernel
theorem d_MO_other_82 : decode b_MO_other 82 = .ok (.ireturn, 1) := by decide +kernel
theorem d_MO_other_83 : decode b_MO_other 83 = .ok (.aload_n 0, 1) := by decide +kernel
theorem d_MO_other_84 : decode b_MO_other 84 = .ok (.aload_n 0, 1) := by decide +kernel
theorem d_MO_other_85 : decode b_MO_other 85 = .ok (.getfield 45, 3) := by decide +kernel
theorem d_MO_other_88 : decode b_MO_other 88 = .ok (.iload_n 1, 1) := by decide +kernel
theorem d_MO_other_89 : decode b_MO_other 89 = .ok (.iaload, 1) := by decide +kernel
theorem d_MO_other_90 : decode b_MO_other 90 = .ok (.aload_n 0, 1) := by decide +kernel
theorem d_MO_other_91 : decode b_MO_other 91 = .ok (.getfield 48, 3) := by decide +kernel
theorem d_MO_other_94 : decode b_MO_other 94 = .ok (.iload_n 1, 1) := by decide +kernel
theorem d_MO_other_95 : decode b_MO_other 95 = .ok (.iaload, 1) := by decide +kernel
theorem d_MO_other_96 : decode b_MO_other 96 = .ok (.aload_n 0, 1) := by decide +kernel
theorem d_MO_other_97 : decode b_MO_other 97 = .ok (.getfield 116, 3) := by decide +kernel
theorem d_MO_other_100 : decode b_MO_other 100 = .ok (.invokevirtual 122, 3) := by decide +kernel
theorem d_MO_other_103 : decode b_MO_other 103 = .ok (.ifCond .ne 5, 3) := by decide +kernel
theorem d_MO_other_106 : decode b_MO_other 106 = .ok (.iconst (-1), 1) := by decide +kernel
theorem d_MO_other_107 : decode b_MO_other 107 = .ok (.ireturn, 1) := by decide +kernel
theorem d_MO_other_108 : decode b_MO_other 108 = .ok (.aload_n 0, 1) := by decide +kernel
theorem d_MO_other_109 : decode b_MO_other 109 = .ok (.dup, 1) := by decide +kernel
theorem d_MO_other_110 : decode b_MO_other 110 = .ok (.getfield 116, 3) := by decide +kernel
theorem d_MO_other_113 : decode b_MO_other 113 = .ok (.iconst 1, 1) := by decide +kernel
theorem d_MO_other_114 : decode b_MO_other 114 = .ok (.iadd, 1) := by decide +kernel
theorem d_MO_other_115 : decode b_MO_other 115 = .ok (.putfield 116, 3) := by decide +kernel
theorem d_MO_other_118 : decode b_MO_other 118 = .ok (.aload_n 0, 1) := by decide +kernel
theorem d_MO_other_119 : decode b_MO_other 119 = .ok (.getfield 116, 3) := by decide +kernel
theorem d_MO_other_122 : decode b_MO_other 122 = .ok (.iconst 1, 1) := by decide +kernel
theorem d_MO_other_123 : decode b_MO_other 123 = .ok (.isub, 1) := by decide +kernel
theorem d_MO_other_124 : decode b_MO_other 124 = .ok (.ireturn, 1) := by decide +kernel
theorem d_MO_two_0 : decode b_MO_two 0 = .ok (.aload_n 0, 1) := by decide +kernel
theorem d_MO_two_1 : decode b_MO_two 1 = .ok (.iload_n 1, 1) := by decide +kernel
theorem d_MO_two_2 : decode b_MO_two 2 = .ok (.iload_n 2, 1) := by decide +kernel
theorem d_MO_two_3 : decode b_MO_two 3 = .ok (.invokevirtual 109, 3) := by decide +kernel
theorem d_MO_two_6 : decode b_MO_two 6 = .ok (.istore 5, 2) := by decide +kernel
theorem d_MO_two_8 : decode b_MO_two 8 = .ok (.iload 5, 2) := by decide +kernel
theorem d_MO_two_10 : decode b_MO_two 10 = .ok (.ifCond .eq 8, 3) := by decide +kernel
theorem d_MO_two_13 : decode b_MO_two 13 = .ok (.iload 5, 2) := by decide +kernel
theorem d_MO_two_15 : decode b_MO_two 15 = .ok (.goto 10, 3) := by decide +kernel
theorem d_MO_two_18 : decode b_MO_two 18 = .ok (.aload_n 0, 1) := by decide +kernel
theorem d_MO_two_19 : decode b_MO_two 19 = .ok (.iload_n 3, 1) := by decide +kernel
theorem d_MO_two_20 : decode b_MO_two 20 = .ok (.iload 4, 2) := by decide +kernel
theorem d_MO_two_22 : decode b_MO_two 22 = .ok (.invokevirtual 109, 3) := by decide +kernel
theorem d_MO_two_25 : decode b_MO_two 25 = .ok (.istore 5, 2) := by decide +kernel
theorem d_MO_two_27 : decode b_MO_two 27 = .ok (.iload 5, 2) := by decide +kernel
theorem d_MO_two_29 : decode b_MO_two 29 = .ok (.ifCond .eq 6, 3) := by decide +kernel
theorem d_MO_two_32 : decode b_MO_two 32 = .ok (.iload 5, 2) := by decide +kernel
theorem d_MO_two_34 : decode b_MO_two 34 = .ok (.ireturn, 1) := by decide +kernel
theorem d_MO_two_35 : decode b_MO_two 35 = .ok (.aload_n 0, 1) := by decide +kernel
theorem d_MO_two_36 : decode b_MO_two 36 = .ok (.getfield 116, 3) := by decide +kernel
theorem d_MO_two_39 : decode b_MO_two 39 = .ok (.bipush 63, 2) := by decide +kernel
theorem d_MO_two_41 : decode b_MO_two 41 = .ok (.if_icmp .ge 10, 3) := by decide +kernel
theorem d_MO_two_44 : decode b_MO_two 44 = .ok (.aload_n 0, 1) := by decide +kernel
theorem d_MO_two_45 : decode b_MO_two 45 = .ok (.getfield 116, 3) := by decide +kernel
theorem d_MO_two_48 : decode b_MO_two 48 = .ok (.goto 5, 3) := by decide +kernel
theorem d_MO_two_51 : decode b_MO_two 51 = .ok (.bipush 62, 2) := by decide +kernel
theorem d_MO_two_53 : decode b_MO_two 53 = .ok (.istore 6, 2) := by decide +kernel
theorem d_MO_two_55 : decode b_MO_two 55 = .ok (.iconst 0, 1) := by decide +kernel
theorem d_MO_two_56 : decode b_MO_two 56 = .ok (.istore 7, 2) := by decide +kernel
theorem d_MO_two_58 : decode b_MO_two 58 = .ok (.iload 7, 2) := by decide +kernel
theorem d_MO_two_60 : decode b_MO_two 60 = .ok (.bipush 48, 2) := by decide +kernel
theorem d_MO_two_62 : decode b_MO_two 62 = .ok (.if_icmp .ge 51, 3) := by decide +kernel
theorem d_MO_two_65 : decode b_MO_two 65 = .ok (.aload_n 0, 1) := by decide +kernel
theorem d_MO_two_66 : decode b_MO_two 66 = .ok (.getfield 60, 3) := by decide +kernel
theorem d_MO_two_69 : decode b_MO_two 69 = .ok (.iload 7, 2) := by decide +kernel
theorem d_MO_two_71 : decode b_MO_two 71 = .ok (.aload_n 0, 1) := by decide +kernel
theorem d_MO_two_72 : decode b_MO_two 72 = .ok (.getfield 39, 3) := by decide +kernel
theorem d_MO_two_75 : decode b_MO_two 75 = .ok (.iload 6, 2) := by decide +kernel
theorem d_MO_two_77 : decode b_MO_two 77 = .ok (.bipush 48, 2) := by decide +kernel
theorem d_MO_two_79 : decode b_MO_two 79 = .ok (.imul, 1) := by decide +kernel
theorem d_MO_two_80 : decode b_MO_two 80 = .ok (.iload 7, 2) := by decide +kernel
theorem d_MO_two_82 : decode b_MO_two 82 = .ok (.iadd, 1) := by decide +kernel
theorem d_MO_two_83 : decode b_MO_two 83 = .ok (.iaload, 1) := by decide +kernel
theorem d_MO_two_84 : decode b_MO_two 84 = .ok (.iastore, 1) := by decide +kernel
theorem d_MO_two_85 : decode b_MO_two 85 = .ok (.aload_n 0, 1) := by decide +kernel
theorem d_MO_two_86 : decode b_MO_two 86 = .ok (.getfield 63, 3) := by decide +kernel
theorem d_MO_two_89 : decode b_MO_two 89 = .ok (.iload 7, 2) := by decide +kernel
theorem d_MO_two_91 : decode b_MO_two 91 = .ok (.aload_n 0, 1) := by decide +kernel
theorem d_MO_two_92 : decode b_MO_two 92 = .ok (.getfield 39, 3) := by decide +kernel
theorem d_MO_two_95 : decode b_MO_two 95 = .ok (.iload 6, 2) := by decide +kernel
theorem d_MO_two_97 : decode b_MO_two 97 = .ok (.iconst 1, 1) := by decide +kernel
theorem d_MO_two_98 : decode b_MO_two 98 = .ok (.iadd, 1) := by decide +kernel
theorem d_MO_two_99 : decode b_MO_two 99 = .ok (.bipush 48, 2) := by decide +kernel
theorem d_MO_two_101 : decode b_MO_two 101 = .ok (.imul, 1) := by decide +kernel
theorem d_MO_two_102 : decode b_MO_two 102 = .ok (.iload 7, 2) := by decide +kernel
theorem d_MO_two_104 : decode b_MO_two 104 = .ok (.iadd, 1) := by decide +kernel
theorem d_MO_two_105 : decode b_MO_two 105 = .ok (.iaload, 1) := by decide +kernel
theorem d_MO_two_106 : decode b_MO_two 106 = .ok (.iastore, 1) := by decide +kernel
theorem d_MO_two_107 : decode b_MO_two 107 = .ok (.iinc 7 1, 3) := by decide +kernel
theorem d_MO_two_110 : decode b_MO_two 110 = .ok (.goto (-52), 3) := by decide +kernel
theorem d_MO_two_113 : decode b_MO_two 113 = .ok (.aload_n 0, 1) := by decide +kernel
theorem d_MO_two_114 : decode b_MO_two 114 = .ok (.getfield 42, 3) := by decide +kernel
theorem d_MO_two_117 : decode b_MO_two 117 = .ok (.iload 6, 2) := by decide +kernel
theorem d_MO_two_119 : decode b_MO_two 119 = .ok (.iaload, 1) := by decide +kernel
theorem d_MO_two_120 : decode b_MO_two 120 = .ok (.istore 7, 2) := by decide +kernel
theorem d_MO_two_122 : decode b_MO_two 122 = .ok (.aload_n 0, 1) := by decide +kernel
theorem d_MO_two_123 : decode b_MO_two 123 = .ok (.getfield 42, 3) := by decide +kernel
theorem d_MO_two_126 : decode b_MO_two 126 = .ok (.iload 6, 2) := by decide +kernel
theorem d_MO_two_128 : decode b_MO_two 128 = .ok (.iconst 1, 1) := by decide +kernel
theorem d_MO_two_129 : decode b_MO_two 129 = .ok (.iadd, 1) := by decide +kernel
theorem d_MO_two_130 : decode b_MO_two 130 = .ok (.iaload, 1) := by decide +kernel
theorem d_MO_two_131 : decode b_MO_two 131 = .ok (.istore 8, 2) := by decide +kernel
theorem d_MO_two_133 : decode b_MO_two 133 = .ok (.aload_n 0, 1) := by decide +kernel
theorem d_MO_two_134 : decode b_MO_two 134 = .ok (.getfield 45, 3) := by decide +kernel
theorem d_MO_two_137 : decode b_MO_two 137 = .ok (.iload 6, 2) := by decide +kernel
theorem d_MO_two_139 : decode b_MO_two 139 = .ok (.iaload, 1) := by decide +kernel
theorem d_MO_two_140 : decode b_MO_two 140 = .ok (.istore 9, 2) := by decide +kernel
theorem d_MO_two_142 : decode b_MO_two 142 = .ok (.aload_n 0, 1) := by decide +kernel
theorem d_MO_two_143 : decode b_MO_two 143 = .ok (.getfield 45, 3) := by decide +kernel
theorem d_MO_two_146 : decode b_MO_two 146 = .ok (.iload 6, 2) := by decide +kernel
theorem d_MO_two_148 : decode b_MO_two 148 = .ok (.iconst 1, 1) := by decide +kernel
theorem d_MO_two_149 : decode b_MO_two 149 = .ok (.iadd, 1) := by decide +kernel
theorem d_MO_two_150 : decode b_MO_two 150 = .ok (.iaload, 1) := by decide +kernel
theorem d_MO_two_151 : decode b_MO_two 151 = .ok (.istore 10, 2) := by decide +kernel
theorem d_MO_two_153 : decode b_MO_two 153 = .ok (.aload_n 0, 1) := by decide +kernel
theorem d_MO_two_154 : decode b_MO_two 154 = .ok (.getfield 48, 3) := by decide +kernel
theorem d_MO_two_157 : decode b_MO_two 157 = .ok (.iload 6, 2) := by decide +kernel
theorem d_MO_two_159 : decode b_MO_two 159 = .ok (.iaload, 1) := by decide +kernel
theorem d_MO_two_160 : decode b_MO_two 160 = .ok (.istore 11, 2) := by decide +kernel
theorem d_MO_two_162 : decode b_MO_two 162 = .ok (.aload_n 0, 1) := by decide +kernel
theorem d_MO_two_163 : decode b_MO_two 163 = .ok (.getfield 48, 3) := by decide +kernel
theorem d_MO_two_166 : decode b_MO_two 166 = .ok (.iload 6, 2) := by decide +kernel
theorem d_MO_two_168 : decode b_MO_two 168 = .ok (.iconst 1, 1) := by decide +kernel
theorem d_MO_two_169 : decode b_MO_two 169 = .ok (.iadd, 1) := by decide +kernel
theorem d_MO_two_170 : decode b_MO_two 170 = .ok (.iaload, 1) := by decide +kernel
theorem d_MO_two_171 : decode b_MO_two 171 = .ok (.istore 12, 2) := by decide +kernel
theorem d_MO_two_173 : decode b_MO_two 173 = .ok (.aload_n 0, 1) := by decide +kernel
theorem d_MO_two_174 : decode b_MO_two 174 = .ok (.iload_n 1, 1) := by decide +kernel
theorem d_MO_two_175 : decode b_MO_two 175 = .ok (.iload_n 2, 1) := by decide +kernel
theorem d_MO_two_176 : decode b_MO_two 176 = .ok (.iload_n 3, 1) := by decide +kernel
theorem d_MO_two_177 : decode b_MO_two 177 = .ok (.iload 4, 2) := by decide +kernel
theorem d_MO_two_179 : decode b_MO_two 179 = .ok (.iload 6, 2) := by decide +kernel
theorem d_MO_two_181 : decode b_MO_two 181 = .ok (.invokevirtual 133, 3) := by decide +kernel
theorem d_MO_two_184 : decode b_MO_two 184 = .ok (.istore 13, 2) := by decide +kernel
theorem d_MO_two_186 : decode b_MO_two 186 = .ok (.iload 13, 2) := by decide +kernel
theorem d_MO_two_188 : decode b_MO_two 188 = .ok (.ifCond .eq 29, 3) := by decide +kernel
theorem d_MO_two_191 : decode b_MO_two 191 = .ok (.aload_n 0, 1) := by decide +kernel
theorem d_MO_two_192 : decode b_MO_two 192 = .ok (.getfield 116, 3) := by decide +kernel
theorem d_MO_two_195 : decode b_MO_two 195 = .ok (.bipush 62, 2) := by decide +kernel
theorem d_MO_two_197 : decode b_MO_two 197 = .ok (.if_icmp .gt 20, 3) := by decide +kernel
theorem d_MO_two_200 : decode b_MO_two 200 = .ok (.aload_n 0, 1) := by decide +kernel
theorem d_MO_two_201 : decode b_MO_two 201 = .ok (.dup, 1) := by decide +kernel
theorem d_MO_two_202 : decode b_MO_two 202 = .ok (.getfield 116, 3) := by decide +kernel
theorem d_MO_two_205 : decode b_MO_two 205 = .ok (.iconst 2, 1) := by decide +kernel
theorem d_MO_two_206 : decode b_MO_two 206 = .ok (.iadd, 1) := by decide +kernel
theorem d_MO_two_207 : decode b_MO_two 207 = .ok (.putfield 116, 3) := by decide +kernel
theorem d_MO_two_210 : decode b_MO_two 210 = .ok (.aload_n 0, 1) := by decide +kernel
theorem d_MO_two_211 : decode b_MO_two 211 = .ok (.getfield 116, 3) := by decide +kernel
theorem d_MO_two_214 : decode b_MO_two 214 = .ok (.iconst 1, 1) := by decide +kernel
theorem d_MO_two_215 : decode b_MO_two 215 = .ok (.isub, 1) := by decide +kernel
theorem d_MO_two_216 : decode b_MO_two 216 = .ok (.ireturn, 1) := by decide +kernel
theorem d_MO_two_217 : decode b_MO_two 217 = .ok (.iconst 0, 1) := by decide +kernel
theorem d_MO_two_218 : decode b_MO_two 218 = .ok (.istore 14, 2) := by decide +kernel
theorem d_MO_two_220 : decode b_MO_two 220 = .ok (.iload 14, 2) := by decide +kernel
theorem d_MO_two_222 : decode b_MO_two 222 = .ok (.bipush 48, 2) := by decide +kernel
theorem d_MO_two_224 : decode b_MO_two 224 = .ok (.if_icmp .ge 51, 3) := by decide +kernel
theorem d_MO_two_227 : decode b_MO_two 227 = .ok (.aload_n 0, 1) := by decide +kernel
theorem d_MO_two_228 : decode b_MO_two 228 = .ok (.getfield 39, 3) := by decide +kernel
theorem d_MO_two_231 : decode b_MO_two 231 = .ok (.iload 6, 2) := by decide +kernel
theorem d_MO_two_233 : decode b_MO_two 233 = .ok (.bipush 48, 2) := by decide +kernel
theorem d_MO_two_235 : decode b_MO_two 235 = .ok (.imul, 1) := by decide +kernel
theorem d_MO_two_236 : decode b_MO_two 236 = .ok (.iload 14, 2) := by decide +kernel
theorem d_MO_two_238 : decode b_MO_two 238 = .ok (.iadd, 1) := by decide +kernel
theorem d_MO_two_239 : decode b_MO_two 239 = .ok (.aload_n 0, 1) := by decide +kernel
theorem d_MO_two_240 : decode b_MO_two 240 = .ok (.getfield 60, 3) := by decide +kernel
theorem d_MO_two_243 : decode b_MO_two 243 = .ok (.iload 14, 2) := by decide +kernel
theorem d_MO_two_245 : decode b_MO_two 245 = .ok (.iaload, 1) := by decide +kernel
theorem d_MO_two_246 : decode b_MO_two 246 = .ok (.iastore, 1) := by decide +kernel
theorem d_MO_two_247 : decode b_MO_two 247 = .ok (.aload_n 0, 1) := by decide +kernel
theorem d_MO_two_248 : decode b_MO_two 248 = .ok (.getfield 39, 3) := by decide +kernel
theorem d_MO_two_251 : decode b_MO_two 251 = .ok (.iload 6, 2) := by decide +kernel
theorem d_MO_two_253 : decode b_MO_two 253 = .ok (.iconst 1, 1) := by decide +kernel
theorem d_MO_two_254 : decode b_MO_two 254 = .ok (.iadd, 1) := by decide +kernel
theorem d_MO_two_255 : decode b_MO_two 255 = .ok (.bipush 48, 2) := by decide +kernel
theorem d_MO_two_257 : decode b_MO_two 257 = .ok (.imul, 1) := by decide +kernel
theorem d_MO_two_258 : decode b_MO_two 258 = .ok (.iload 14, 2) := by decide +kernel
theorem d_MO_two_260 : decode b_MO_two 260 = .ok (.iadd, 1) := by decide +kernel
theorem d_MO_two_261 : decode b_MO_two 261 = .ok (.aload_n 0, 1) := by decide +kernel
theorem d_MO_two_262 : decode b_MO_two 262 = .ok (.getfield 63, 3) := by decide +kernel
theorem d_MO_two_265 : decode b_MO_two 265 = .ok (.iload 14, 2) := by decide +kernel
theorem d_MO_two_267 : decode b_MO_two 267 = .ok (.iaload, 1) := by decide +kernel
theorem d_MO_two_268 : decode b_MO_two 268 = .ok (.iastore, 1) := by decide +kernel
theorem d_MO_two_269 : decode b_MO_two 269 = .ok (.iinc 14 1, 3) := by decide +kernel
theorem d_MO_two_272 : decode b_MO_two 272 = .ok (.goto (-52), 3) := by decide +kernel
theorem d_MO_two_275 : decode b_MO_two 275 = .ok (.aload_n 0, 1) := by decide +kernel
theorem d_MO_two_276 : decode b_MO_two 276 = .ok (.getfield 42, 3) := by decide +kernel
theorem d_MO_two_279 : decode b_MO_two 279 = .ok (.iload 6, 2) := by decide +kernel
theorem d_MO_two_281 : decode b_MO_two 281 = .ok (.iload 7, 2) := by decide +kernel
theorem d_MO_two_283 : decode b_MO_two 283 = .ok (.iastore, 1) := by decide +kernel
theorem d_MO_two_284 : decode b_MO_two 284 = .ok (.aload_n 0, 1) := by decide +kernel
theorem d_MO_two_285 : decode b_MO_two 285 = .ok (.getfield 42, 3) := by decide +kernel
theorem d_MO_two_288 : decode b_MO_two 288 = .ok (.iload 6, 2) := by decide +kernel
theorem d_MO_two_290 : decode b_MO_two 290 = .ok (.iconst 1, 1) := by decide +kernel
theorem d_MO_two_291 : decode b_MO_two 291 = .ok (.iadd, 1) := by decide +kernel
theorem d_MO_two_292 : decode b_MO_two 292 = .ok (.iload 8, 2) := by decide +kernel
theorem d_MO_two_294 : decode b_MO_two 294 = .ok (.iastore, 1) := by decide +kernel
theorem d_MO_two_295 : decode b_MO_two 295 = .ok (.aload_n 0, 1) := by decide +kernel
theorem d_MO_two_296 : decode b_MO_two 296 = .ok (.getfield 45, 3) := by decide +kernel
theorem d_MO_two_299 : decode b_MO_two 299 = .ok (.iload 6, 2) := by decide +kernel
theorem d_MO_two_301 : decode b_MO_two 301 = .ok (.iload 9, 2) := by decide +kernel
theorem d_MO_two_303 : decode b_MO_two 303 = .ok (.iastore, 1) := by decide +kernel
theorem d_MO_two_304 : decode b_MO_two 304 = .ok (.aload_n 0, 1) := by decide +kernel
theorem d_MO_two_305 : decode b_MO_two 305 = .ok (.getfield 45, 3) := by decide +kernel
theorem d_MO_two_308 : decode b_MO_two 308 = .ok (.iload 6, 2) := by decide +kernel
theorem d_MO_two_310 : decode b_MO_two 310 = .ok (.iconst 1, 1) := by decide +kernel
theorem d_MO_two_311 : decode b_MO_two 311 = .ok (.iadd, 1) := by decide +kernel
theorem d_MO_two_312 : decode b_MO_two 312 = .ok (.iload 10, 2) := by decide +kernel
theorem d_MO_two_314 : decode b_MO_two 314 = .ok (.iastore, 1) := by decide +kernel
theorem d_MO_two_315 : decode b_MO_two 315 = .ok (.aload_n 0, 1) := by decide +kernel
theorem d_MO_two_316 : decode b_MO_two 316 = .ok (.getfield 48, 3) := by decide +kernel
theorem d_MO_two_319 : decode b_MO_two 319 = .ok (.iload 6, 2) := by decide +kernel
theorem d_MO_two_321 : decode b_MO_two 321 = .ok (.iload 11, 2) := by decide +kernel
theorem d_MO_two_323 : decode b_MO_two 323 = .ok (.iastore, 1) := by decide +kernel
theorem d_MO_two_324 : decode b_MO_two 324 = .ok (.aload_n 0, 1) := by decide +kernel
theorem d_MO_two_325 : decode b_MO_two 325 = .ok (.getfield 48, 3) := by decide +kernel
theorem d_MO_two_328 : decode b_MO_two 328 = .ok (.iload 6, 2) := by decide +kernel
theorem d_MO_two_330 : decode b_MO_two 330 = .ok (.iconst 1, 1) := by decide +kernel
theorem d_MO_two_331 : decode b_MO_two 331 = .ok (.iadd, 1) := by decide +kernel
theorem d_MO_two_332 : decode b_MO_two 332 = .ok (.iload 12, 2) := by decide +kernel
theorem d_MO_two_334 : decode b_MO_two 334 = .ok (.iastore, 1) := by decide +kernel
theorem d_MO_two_335 : decode b_MO_two 335 = .ok (.iload 13, 2) := by decide +kernel
theorem d_MO_two_337 : decode b_MO_two 337 = .ok (.ifCond .eq 8, 3) := by decide +kernel
theorem d_MO_two_340 : decode b_MO_two 340 = .ok (.bipush (-5), 2) := by decide +kernel
theorem d_MO_two_342 : decode b_MO_two 342 = .ok (.goto 4, 3) := by decide +kernel
theorem d_MO_two_345 : decode b_MO_two 345 = .ok (.iconst (-1), 1) := by decide +kernel
theorem d_MO_two_346 : decode b_MO_two 346 = .ok (.ireturn, 1) := by decide +kernel
theorem d_MO_find_0 : decode b_MO_find 0 = .ok (.aload_n 0, 1) := by decide +kernel
theorem d_MO_find_1 : decode b_MO_find 1 = .ok (.invokevirtual 113, 3) := by decide +kernel
theorem d_MO_find_4 : decode b_MO_find 4 = .ok (.aload_n 0, 1) := by decide +kernel
theorem d_MO_find_5 : decode b_MO_find 5 = .ok (.iload_n 1, 1) := by decide +kernel
theorem d_MO_find_6 : decode b_MO_find 6 = .ok (.iload_n 2, 1) := by decide +kernel
theorem d_MO_find_7 : decode b_MO_find 7 = .ok (.iload 5, 2) := by decide +kernel
theorem d_MO_find_9 : decode b_MO_find 9 = .ok (.invokevirtual 122, 3) := by decide +kernel
theorem d_MO_find_12 : decode b_MO_find 12 = .ok (.ifCond .ne 5, 3) := by decide +kernel
theorem d_MO_find_15 : decode b_MO_find 15 = .ok (.iconst 0, 1) := by decide +kernel
theorem d_MO_find_16 : decode b_MO_find 16 = .ok (.ireturn, 1) := by decide +kernel
theorem d_MO_find_17 : decode b_MO_find 17 = .ok (.iconst 0, 1) := by decide +kernel
theorem d_MO_find_18 : decode b_MO_find 18 = .ok (.istore 6, 2) := by decide +kernel
theorem d_MO_find_20 : decode b_MO_find 20 = .ok (.iload 6, 2) := by decide +kernel
theorem d_MO_find_22 : decode b_MO_find 22 = .ok (.aload_n 0, 1) := by decide +kernel
theorem d_MO_find_23 : decode b_MO_find 23 = .ok (.getfield 42, 3) := by decide +kernel
theorem d_MO_find_26 : decode b_MO_find 26 = .ok (.iload 5, 2) := by decide +kernel
theorem d_MO_find_28 : decode b_MO_find 28 = .ok (.iaload, 1) := by decide +kernel
theorem d_MO_find_29 : decode b_MO_find 29 = .ok (.if_icmp .ge 63, 3) := by decide +kernel
theorem d_MO_find_32 : decode b_MO_find 32 = .ok (.aload_n 0, 1) := by decide +kernel
theorem d_MO_find_33 : decode b_MO_find 33 = .ok (.iload 5, 2) := by decide +kernel
theorem d_MO_find_35 : decode b_MO_find 35 = .ok (.iload 6, 2) := by decide +kernel
theorem d_MO_find_37 : decode b_MO_find 37 = .ok (.invokevirtual 128, 3) := by decide +kernel
theorem d_MO_find_40 : decode b_MO_find 40 = .ok (.istore 7, 2) := by decide +kernel
theorem d_MO_find_42 : decode b_MO_find 42 = .ok (.aload_n 0, 1) := by decide +kernel
theorem d_MO_find_43 : decode b_MO_find 43 = .ok (.getfield 57, 3) := by decide +kernel
theorem d_MO_find_46 : decode b_MO_find 46 = .ok (.aload_n 0, 1) := by decide +kernel
theorem d_MO_find_47 : decode b_MO_find 47 = .ok (.getfield 39, 3) := by decide +kernel
theorem d_MO_find_50 : decode b_MO_find 50 = .ok (.iload 5, 2) := by decide +kernel
theorem d_MO_find_52 : decode b_MO_find 52 = .ok (.bipush 48, 2) := by decide +kernel
theorem d_MO_find_54 : decode b_MO_find 54 = .ok (.imul, 1) := by decide +kernel
theorem d_MO_find_55 : decode b_MO_find 55 = .ok (.iload 6, 2) := by decide +kernel
theorem d_MO_find_57 : decode b_MO_find 57 = .ok (.iadd, 1) := by decide +kernel
theorem d_MO_find_58 : decode b_MO_find 58 = .ok (.iaload, 1) := by decide +kernel
theorem d_MO_find_59 : decode b_MO_find 59 = .ok (.iconst 1, 1) := by decide +kernel
theorem d_MO_find_60 : decode b_MO_find 60 = .ok (.bastore, 1) := by decide +kernel
theorem d_MO_find_61 : decode b_MO_find 61 = .ok (.aload_n 0, 1) := by decide +kernel
theorem d_MO_find_62 : decode b_MO_find 62 = .ok (.getfield 54, 3) := by decide +kernel
theorem d_MO_find_65 : decode b_MO_find 65 = .ok (.iload 7, 2) := by decide +kernel
theorem d_MO_find_67 : decode b_MO_find 67 = .ok (.dup2, 1) := by decide +kernel
theorem d_MO_find_68 : decode b_MO_find 68 = .ok (.baload, 1) := by decide +kernel
theorem d_MO_find_69 : decode b_MO_find 69 = .ok (.aload_n 0, 1) := by decide +kernel
theorem d_MO_find_70 : decode b_MO_find 70 = .ok (.getfield 9, 3) := by decide +kernel
theorem d_MO_find_73 : decode b_MO_find 73 = .ok (.iload 7, 2) := by decide +kernel
theorem d_MO_find_75 : decode b_MO_find 75 = .ok (.iaload, 1) := by decide +kernel
theorem d_MO_find_76 : decode b_MO_find 76 = .ok (.ifCond .eq 7, 3) := by decide +kernel
theorem d_MO_find_79 : decode b_MO_find 79 = .ok (.iconst 1, 1) := by decide +kernel
theorem d_MO_find_80 : decode b_MO_find 80 = .ok (.goto 4, 3) := by decide +kernel
theorem d_MO_find_83 : decode b_MO_find 83 = .ok (.iconst 0, 1) := by decide +kernel
theorem d_MO_find_84 : decode b_MO_find 84 = .ok (.ior, 1) := by decide +kernel
theorem d_MO_find_85 : decode b_MO_find 85 = .ok (.bastore, 1) := by decide +kernel
theorem d_MO_find_86 : decode b_MO_find 86 = .ok (.iinc 6 1, 3) := by decide +kernel
theorem d_MO_find_89 : decode b_MO_find 89 = .ok (.goto (-69), 3) := by decide +kernel
theorem d_MO_find_92 : decode b_MO_find 92 = .ok (.aload_n 0, 1) := by decide +kernel
theorem d_MO_find_93 : decode b_MO_find 93 = .ok (.iload_n 3, 1) := by decide +kernel
theorem d_MO_find_94 : decode b_MO_find 94 = .ok (.iload 4, 2) := by decide +kernel
theorem d_MO_find_96 : decode b_MO_find 96 = .ok (.iload 5, 2) := by decide +kernel
theorem d_MO_find_98 : decode b_MO_find 98 = .ok (.iconst 1, 1) := by decide +kernel
theorem d_MO_find_99 : decode b_MO_find 99 = .ok (.iadd, 1) := by decide +kernel
theorem d_MO_find_100 : decode b_MO_find 100 = .ok (.invokevirtual 122, 3) := by decide +kernel
theorem d_MO_find_103 : decode b_MO_find 103 = .ok (.ireturn, 1) := by decide +kernel
theorem d_MO_told_0 : decode b_MO_told 0 = .ok (.iconst 0, 1) := by decide +kernel
theorem d_MO_told_1 : decode b_MO_told 1 = .ok (.istore_n 2, 1) := by decide +kernel
theorem d_MO_told_2 : decode b_MO_told 2 = .ok (.iload_n 1, 1) := by decide +kernel
theorem d_MO_told_3 : decode b_MO_told 3 = .ok (.tableswitch 256 0 6 #[41, 46, 51, 56, 91, 126, 170], 41) := by decide +kernel
theorem d_MO_told_44 : decode b_MO_told 44 = .ok (.aload_n 0, 1) := by decide +kernel
theorem d_MO_told_45 : decode b_MO_told 45 = .ok (.getfield 66, 3) := by decide +kernel
theorem d_MO_told_48 : decode b_MO_told 48 = .ok (.ireturn, 1) := by decide +kernel
theorem d_MO_told_49 : decode b_MO_told 49 = .ok (.aload_n 0, 1) := by decide +kernel
theorem d_MO_told_50 : decode b_MO_told 50 = .ok (.getfield 80, 3) := by decide +kernel
theorem d_MO_told_53 : decode b_MO_told 53 = .ok (.ireturn, 1) := by decide +kernel
theorem d_MO_told_54 : decode b_MO_told 54 = .ok (.aload_n 0, 1) := by decide +kernel
theorem d_MO_told_55 : decode b_MO_told 55 = .ok (.getfield 116, 3) := by decide +kernel
theorem d_MO_told_58 : decode b_MO_told 58 = .ok (.ireturn, 1) := by decide +kernel
theorem d_MO_told_59 : decode b_MO_told 59 = .ok (.iconst 0, 1) := by decide +kernel
theorem d_MO_told_60 : decode b_MO_told 60 = .ok (.istore_n 3, 1) := by decide +kernel
theorem d_MO_told_61 : decode b_MO_told 61 = .ok (.iload_n 3, 1) := by decide +kernel
theorem d_MO_told_62 : decode b_MO_told 62 = .ok (.aload_n 0, 1) := by decide +kernel
theorem d_MO_told_63 : decode b_MO_told 63 = .ok (.getfield 66, 3) := by decide +kernel
theorem d_MO_told_66 : decode b_MO_told 66 = .ok (.if_icmp .ge 26, 3) := by decide +kernel
theorem d_MO_told_69 : decode b_MO_told 69 = .ok (.iload_n 2, 1) := by decide +kernel
theorem d_MO_told_70 : decode b_MO_told 70 = .ok (.aload_n 0, 1) := by decide +kernel
theorem d_MO_told_71 : decode b_MO_told 71 = .ok (.getfield 17, 3) := by decide +kernel
theorem d_MO_told_74 : decode b_MO_told 74 = .ok (.iload_n 3, 1) := by decide +kernel
theorem d_MO_told_75 : decode b_MO_told 75 = .ok (.baload, 1) := by decide +kernel
theorem d_MO_told_76 : decode b_MO_told 76 = .ok (.ifCond .eq 7, 3) := by decide +kernel
theorem d_MO_told_79 : decode b_MO_told 79 = .ok (.iconst 1, 1) := by decide +kernel
theorem d_MO_told_80 : decode b_MO_told 80 = .ok (.goto 4, 3) := by decide +kernel
theorem d_MO_told_83 : decode b_MO_told 83 = .ok (.iconst 0, 1) := by decide +kernel
theorem d_MO_told_84 : decode b_MO_told 84 = .ok (.iadd, 1) := by decide +kernel
theorem d_MO_told_85 : decode b_MO_told 85 = .ok (.istore_n 2, 1) := by decide +kernel
theorem d_MO_told_86 : decode b_MO_told 86 = .ok (.iinc 3 1, 3) := by decide +kernel
theorem d_MO_told_89 : decode b_MO_told 89 = .ok (.goto (-28), 3) := by decide +kernel
theorem d_MO_told_92 : decode b_MO_told 92 = .ok (.iload_n 2, 1) := by decide +kernel
theorem d_MO_told_93 : decode b_MO_told 93 = .ok (.ireturn, 1) := by decide +kernel
theorem d_MO_told_94 : decode b_MO_told 94 = .ok (.iconst 0, 1) := by decide +kernel
theorem d_MO_told_95 : decode b_MO_told 95 = .ok (.istore_n 3, 1) := by decide +kernel
theorem d_MO_told_96 : decode b_MO_told 96 = .ok (.iload_n 3, 1) := by decide +kernel
theorem d_MO_told_97 : decode b_MO_told 97 = .ok (.aload_n 0, 1) := by decide +kernel
theorem d_MO_told_98 : decode b_MO_told 98 = .ok (.getfield 80, 3) := by decide +kernel
theorem d_MO_told_101 : decode b_MO_told 101 = .ok (.if_icmp .ge 26, 3) := by decide +kernel
theorem d_MO_told_104 : decode b_MO_told 104 = .ok (.iload_n 2, 1) := by decide +kernel
theorem d_MO_told_105 : decode b_MO_told 105 = .ok (.aload_n 0, 1) := by decide +kernel
theorem d_MO_told_106 : decode b_MO_told 106 = .ok (.getfield 36, 3) := by decide +kernel
theorem d_MO_told_109 : decode b_MO_told 109 = .ok (.iload_n 3, 1) := by decide +kernel
theorem d_MO_told_110 : decode b_MO_told 110 = .ok (.baload, 1) := by decide +kernel
theorem d_MO_told_111 : decode b_MO_told 111 = .ok (.ifCond .eq 7, 3) := by decide +kernel
theorem d_MO_told_114 : decode b_MO_told 114 = .ok (.iconst 1, 1) := by decide +kernel
theorem d_MO_told_115 : decode b_MO_told 115 = .ok (.goto 4, 3) := by decide +kernel
theorem d_MO_told_118 : decode b_MO_told 118 = .ok (.iconst 0, 1) := by decide +kernel
theorem d_MO_told_119 : decode b_MO_told 119 = .ok (.iadd, 1) := by decide +kernel
theorem d_MO_told_120 : decode b_MO_told 120 = .ok (.istore_n 2, 1) := by decide +kernel
theorem d_MO_told_121 : decode b_MO_told 121 = .ok (.iinc 3 1, 3) := by decide +kernel
theorem d_MO_told_124 : decode b_MO_told 124 = .ok (.goto (-28), 3) := by decide +kernel
theorem d_MO_told_127 : decode b_MO_told 127 = .ok (.iload_n 2, 1) := by decide +kernel
theorem d_MO_told_128 : decode b_MO_told 128 = .ok (.ireturn, 1) := by decide +kernel
theorem d_MO_told_129 : decode b_MO_told 129 = .ok (.iconst 0, 1) := by decide +kernel
theorem d_MO_told_130 : decode b_MO_told 130 = .ok (.istore_n 3, 1) := by decide +kernel
theorem d_MO_told_131 : decode b_MO_told 131 = .ok (.iload_n 3, 1) := by decide +kernel
theorem d_MO_told_132 : decode b_MO_told 132 = .ok (.aload_n 0, 1) := by decide +kernel
theorem d_MO_told_133 : decode b_MO_told 133 = .ok (.getfield 66, 3) := by decide +kernel
theorem d_MO_told_136 : decode b_MO_told 136 = .ok (.if_icmp .ge 35, 3) := by decide +kernel
theorem d_MO_told_139 : decode b_MO_told 139 = .ok (.iload_n 2, 1) := by decide +kernel
theorem d_MO_told_140 : decode b_MO_told 140 = .ok (.aload_n 0, 1) := by decide +kernel
theorem d_MO_told_141 : decode b_MO_told 141 = .ok (.getfield 9, 3) := by decide +kernel
theorem d_MO_told_144 : decode b_MO_told 144 = .ok (.iload_n 3, 1) := by decide +kernel
theorem d_MO_told_145 : decode b_MO_told 145 = .ok (.iaload, 1) := by decide +kernel
theorem d_MO_told_146 : decode b_MO_told 146 = .ok (.ifCond .ne 16, 3) := by decide +kernel
theorem d_MO_told_149 : decode b_MO_told 149 = .ok (.aload_n 0, 1) := by decide +kernel
theorem d_MO_told_150 : decode b_MO_told 150 = .ok (.getfield 13, 3) := by decide +kernel
theorem d_MO_told_153 : decode b_MO_told 153 = .ok (.iload_n 3, 1) := by decide +kernel
theorem d_MO_told_154 : decode b_MO_told 154 = .ok (.baload, 1) := by decide +kernel
theorem d_MO_told_155 : decode b_MO_told 155 = .ok (.ifCond .eq 7, 3) := by decide +kernel
theorem d_MO_told_158 : decode b_MO_told 158 = .ok (.iconst 1, 1) := by decide +kernel
theorem d_MO_told_159 : decode b_MO_told 159 = .ok (.goto 4, 3) := by decide +kernel
theorem d_MO_told_162 : decode b_MO_told 162 = .ok (.iconst 0, 1) := by decide +kernel
theorem d_MO_told_163 : decode b_MO_told 163 = .ok (.iadd, 1) := by decide +kernel
theorem d_MO_told_164 : decode b_MO_told 164 = .ok (.istore_n 2, 1) := by decide +kernel
theorem d_MO_told_165 : decode b_MO_told 165 = .ok (.iinc 3 1, 3) := by decide +kernel
theorem d_MO_told_168 : decode b_MO_told 168 = .ok (.goto (-37), 3) := by decide +kernel
theorem d_MO_told_171 : decode b_MO_told 171 = .ok (.iload_n 2, 1) := by decide +kernel
theorem d_MO_told_172 : decode b_MO_told 172 = .ok (.ireturn, 1) := by decide +kernel
theorem d_MO_told_173 : decode b_MO_told 173 = .ok (.iconst 0, 1) := by decide +kernel
theorem d_MO_told_174 : decode b_MO_told 174 = .ok (.istore_n 3, 1) := by decide +kernel
theorem d_MO_told_175 : decode b_MO_told 175 = .ok (.iload_n 3, 1) := by decide +kernel
theorem d_MO_told_176 : decode b_MO_told 176 = .ok (.aload_n 0, 1) := by decide +kernel
theorem d_MO_told_177 : decode b_MO_told 177 = .ok (.getfield 66, 3) := by decide +kernel
theorem d_MO_told_180 : decode b_MO_told 180 = .ok (.if_icmp .ge 77, 3) := by decide +kernel
theorem d_MO_told_183 : decode b_MO_told 183 = .ok (.iconst 1, 1) := by decide +kernel
theorem d_MO_told_184 : decode b_MO_told 184 = .ok (.istore 4, 2) := by decide +kernel
theorem d_MO_told_186 : decode b_MO_told 186 = .ok (.iconst 0, 1) := by decide +kernel
theorem d_MO_told_187 : decode b_MO_told 187 = .ok (.istore 5, 2) := by decide +kernel
theorem d_MO_told_189 : decode b_MO_told 189 = .ok (.iload 5, 2) := by decide +kernel
theorem d_MO_told_191 : decode b_MO_told 191 = .ok (.aload_n 0, 1) := by decide +kernel
theorem d_MO_told_192 : decode b_MO_told 192 = .ok (.getfield 80, 3) := by decide +kernel
theorem d_MO_told_195 : decode b_MO_told 195 = .ok (.if_icmp .ge 43, 3) := by decide +kernel
theorem d_MO_told_198 : decode b_MO_told 198 = .ok (.iload 4, 2) := by decide +kernel
theorem d_MO_told_200 : decode b_MO_told 200 = .ok (.ifCond .eq 29, 3) := by decide +kernel
theorem d_MO_told_203 : decode b_MO_told 203 = .ok (.aload_n 0, 1) := by decide +kernel
theorem d_MO_told_204 : decode b_MO_told 204 = .ok (.getfield 26, 3) := by decide +kernel
theorem d_MO_told_207 : decode b_MO_told 207 = .ok (.iload 5, 2) := by decide +kernel
theorem d_MO_told_209 : decode b_MO_told 209 = .ok (.iaload, 1) := by decide +kernel
theorem d_MO_told_210 : decode b_MO_told 210 = .ok (.iload_n 3, 1) := by decide +kernel
theorem d_MO_told_211 : decode b_MO_told 211 = .ok (.if_icmp .eq 18, 3) := by decide +kernel
theorem d_MO_told_214 : decode b_MO_told 214 = .ok (.aload_n 0, 1) := by decide +kernel
theorem d_MO_told_215 : decode b_MO_told 215 = .ok (.getfield 29, 3) := by decide +kernel
theorem d_MO_told_218 : decode b_MO_told 218 = .ok (.iload 5, 2) := by decide +kernel
theorem d_MO_told_220 : decode b_MO_told 220 = .ok (.iaload, 1) := by decide +kernel
theorem d_MO_told_221 : decode b_MO_told 221 = .ok (.iload_n 3, 1) := by decide +kernel
theorem d_MO_told_222 : decode b_MO_told 222 = .ok (.if_icmp .eq 7, 3) := by decide +kernel
theorem d_MO_told_225 : decode b_MO_told 225 = .ok (.iconst 1, 1) := by decide +kernel
theorem d_MO_told_226 : decode b_MO_told 226 = .ok (.goto 4, 3) := by decide +kernel
theorem d_MO_told_229 : decode b_MO_told 229 = .ok (.iconst 0, 1) := by decide +kernel
theorem d_MO_told_230 : decode b_MO_told 230 = .ok (.istore 4, 2) := by decide +kernel
theorem d_MO_told_232 : decode b_MO_told 232 = .ok (.iinc 5 1, 3) := by decide +kernel
theorem d_MO_told_235 : decode b_MO_told 235 = .ok (.goto (-46), 3) := by decide +kernel
theorem d_MO_told_238 : decode b_MO_told 238 = .ok (.iload_n 2, 1) := by decide +kernel
theorem d_MO_told_239 : decode b_MO_told 239 = .ok (.iload 4, 2) := by decide +kernel
theorem d_MO_told_241 : decode b_MO_told 241 = .ok (.ifCond .eq 7, 3) := by decide +kernel
theorem d_MO_told_244 : decode b_MO_told 244 = .ok (.iconst 1, 1) := by decide +kernel
theorem d_MO_told_245 : decode b_MO_told 245 = .ok (.goto 4, 3) := by decide +kernel
theorem d_MO_told_248 : decode b_MO_told 248 = .ok (.iconst 0, 1) := by decide +kernel
theorem d_MO_told_249 : decode b_MO_told 249 = .ok (.iadd, 1) := by decide +kernel
theorem d_MO_told_250 : decode b_MO_told 250 = .ok (.istore_n 2, 1) := by decide +kernel
theorem d_MO_told_251 : decode b_MO_told 251 = .ok (.iinc 3 1, 3) := by decide +kernel
theorem d_MO_told_254 : decode b_MO_told 254 = .ok (.goto (-79), 3) := by decide +kernel
theorem d_MO_told_257 : decode b_MO_told 257 = .ok (.iload_n 2, 1) := by decide +kernel
theorem d_MO_told_258 : decode b_MO_told 258 = .ok (.ireturn, 1) := by decide +kernel
theorem d_MO_told_259 : decode b_MO_told 259 = .ok (.iconst (-1), 1) := by decide +kernel
theorem d_MO_told_260 : decode b_MO_told 260 = .ok (.ireturn, 1) := by decide +kernel
theorem d_MO_blow_0 : decode b_MO_blow 0 = .ok (.aload_n 0, 1) := by decide +kernel
theorem d_MO_blow_1 : decode b_MO_blow 1 = .ok (.iload_n 1, 1) := by decide +kernel
theorem d_MO_blow_2 : decode b_MO_blow 2 = .ok (.invokevirtual 125, 3) := by decide +kernel
theorem d_MO_blow_5 : decode b_MO_blow 5 = .ok (.ifCond .ne 6, 3) := by decide +kernel
theorem d_MO_blow_8 : decode b_MO_blow 8 = .ok (.bipush (-2), 2) := by decide +kernel
theorem d_MO_blow_10 : decode b_MO_blow 10 = .ok (.ireturn, 1) := by decide +kernel
theorem d_MO_blow_11 : decode b_MO_blow 11 = .ok (.aload_n 0, 1) := by decide +kernel
theorem d_MO_blow_12 : decode b_MO_blow 12 = .ok (.getfield 42, 3) := by decide +kernel
theorem d_MO_blow_15 : decode b_MO_blow 15 = .ok (.iload_n 1, 1) := by decide +kernel
theorem d_MO_blow_16 : decode b_MO_blow 16 = .ok (.iaload, 1) := by decide +kernel
theorem d_MO_blow_17 : decode b_MO_blow 17 = .ok (.iconst 1, 1) := by decide +kernel
theorem d_MO_blow_18 : decode b_MO_blow 18 = .ok (.isub, 1) := by decide +kernel
theorem d_MO_blow_19 : decode b_MO_blow 19 = .ok (.istore_n 3, 1) := by decide +kernel
theorem d_MO_blow_20 : decode b_MO_blow 20 = .ok (.iconst 0, 1) := by decide +kernel
theorem d_MO_blow_21 : decode b_MO_blow 21 = .ok (.istore 4, 2) := by decide +kernel
theorem d_MO_blow_23 : decode b_MO_blow 23 = .ok (.iload_n 3, 1) := by decide +kernel
theorem d_MO_blow_24 : decode b_MO_blow 24 = .ok (.ifCond .lt 56, 3) := by decide +kernel
theorem d_MO_blow_27 : decode b_MO_blow 27 = .ok (.iload 4, 2) := by decide +kernel
theorem d_MO_blow_29 : decode b_MO_blow 29 = .ok (.iload_n 2, 1) := by decide +kernel
theorem d_MO_blow_30 : decode b_MO_blow 30 = .ok (.if_icmp .ne 15, 3) := by decide +kernel
theorem d_MO_blow_33 : decode b_MO_blow 33 = .ok (.aload_n 0, 1) := by decide +kernel
theorem d_MO_blow_34 : decode b_MO_blow 34 = .ok (.getfield 39, 3) := by decide +kernel
theorem d_MO_blow_37 : decode b_MO_blow 37 = .ok (.iload_n 1, 1) := by decide +kernel
theorem d_MO_blow_38 : decode b_MO_blow 38 = .ok (.bipush 48, 2) := by decide +kernel
theorem d_MO_blow_40 : decode b_MO_blow 40 = .ok (.imul, 1) := by decide +kernel
theorem d_MO_blow_41 : decode b_MO_blow 41 = .ok (.iload_n 3, 1) := by decide +kernel
theorem d_MO_blow_42 : decode b_MO_blow 42 = .ok (.iadd, 1) := by decide +kernel
theorem d_MO_blow_43 : decode b_MO_blow 43 = .ok (.iaload, 1) := by decide +kernel
theorem d_MO_blow_44 : decode b_MO_blow 44 = .ok (.ireturn, 1) := by decide +kernel
theorem d_MO_blow_45 : decode b_MO_blow 45 = .ok (.iinc 4 1, 3) := by decide +kernel
theorem d_MO_blow_48 : decode b_MO_blow 48 = .ok (.iload_n 3, 1) := by decide +kernel
theorem d_MO_blow_49 : decode b_MO_blow 49 = .ok (.ifCond .le 26, 3) := by decide +kernel
theorem d_MO_blow_52 : decode b_MO_blow 52 = .ok (.aload_n 0, 1) := by decide +kernel
theorem d_MO_blow_53 : decode b_MO_blow 53 = .ok (.getfield 9, 3) := by decide +kernel
theorem d_MO_blow_56 : decode b_MO_blow 56 = .ok (.aload_n 0, 1) := by decide +kernel
theorem d_MO_blow_57 : decode b_MO_blow 57 = .ok (.iload_n 1, 1) := by decide +kernel
theorem d_MO_blow_58 : decode b_MO_blow 58 = .ok (.iload_n 3, 1) := by decide +kernel
theorem d_MO_blow_59 : decode b_MO_blow 59 = .ok (.iconst 1, 1) := by decide +kernel
theorem d_MO_blow_60 : decode b_MO_blow 60 = .ok (.isub, 1) := by decide +kernel
theorem d_MO_blow_61 : decode b_MO_blow 61 = .ok (.invokevirtual 128, 3) := by decide +kernel
theorem d_MO_blow_64 : decode b_MO_blow 64 = .ok (.iaload, 1) := by decide +kernel
theorem d_MO_blow_65 : decode b_MO_blow 65 = .ok (.iconst 1, 1) := by decide +kernel
theorem d_MO_blow_66 : decode b_MO_blow 66 = .ok (.if_icmp .eq 9, 3) := by decide +kernel
theorem d_MO_blow_69 : decode b_MO_blow 69 = .ok (.iload_n 3, 1) := by decide +kernel
theorem d_MO_blow_70 : decode b_MO_blow 70 = .ok (.iconst 1, 1) := by decide +kernel
theorem d_MO_blow_71 : decode b_MO_blow 71 = .ok (.isub, 1) := by decide +kernel
theorem d_MO_blow_72 : decode b_MO_blow 72 = .ok (.goto 4, 3) := by decide +kernel
theorem d_MO_blow_75 : decode b_MO_blow 75 = .ok (.iconst (-1), 1) := by decide +kernel
theorem d_MO_blow_76 : decode b_MO_blow 76 = .ok (.istore_n 3, 1) := by decide +kernel
theorem d_MO_blow_77 : decode b_MO_blow 77 = .ok (.goto (-54), 3) := by decide +kernel
theorem d_MO_blow_80 : decode b_MO_blow 80 = .ok (.iconst (-1), 1) := by decide +kernel
theorem d_MO_blow_81 : decode b_MO_blow 81 = .ok (.ireturn, 1) := by decide +kernel
