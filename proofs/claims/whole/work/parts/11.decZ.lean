/-! decode rows, printed by wip/gen/names.py -/
theorem d_L_init_0 : decode c_L_init 0 = .ok (.aload_n 0, 1) := by decide +kernel
theorem d_L_init_1 : decode c_L_init 1 = .ok (.invokespecial 3, 3) := by decide +kernel
theorem d_L_init_4 : decode c_L_init 4 = .ok (.aload_n 0, 1) := by decide +kernel
theorem d_L_init_5 : decode c_L_init 5 = .ok (.bipush 100, 2) := by decide +kernel
theorem d_L_init_7 : decode c_L_init 7 = .ok (.anewarray 9, 3) := by decide +kernel
theorem d_L_init_10 : decode c_L_init 10 = .ok (.putfield 11, 3) := by decide +kernel
theorem d_L_init_13 : decode c_L_init 13 = .ok (.aload_n 0, 1) := by decide +kernel
theorem d_L_init_14 : decode c_L_init 14 = .ok (.bipush 100, 2) := by decide +kernel
theorem d_L_init_16 : decode c_L_init 16 = .ok (.anewarray 9, 3) := by decide +kernel
theorem d_L_init_19 : decode c_L_init 19 = .ok (.putfield 17, 3) := by decide +kernel
theorem d_L_init_22 : decode c_L_init 22 = .ok (.return_, 1) := by decide +kernel
theorem d_Q_init_0 : decode c_Q_init 0 = .ok (.aload_n 0, 1) := by decide +kernel
theorem d_Q_init_1 : decode c_Q_init 1 = .ok (.invokespecial 3, 3) := by decide +kernel
theorem d_Q_init_4 : decode c_Q_init 4 = .ok (.aload_n 0, 1) := by decide +kernel
theorem d_Q_init_5 : decode c_Q_init 5 = .ok (.bipush 100, 2) := by decide +kernel
theorem d_Q_init_7 : decode c_Q_init 7 = .ok (.anewarray 9, 3) := by decide +kernel
theorem d_Q_init_10 : decode c_Q_init 10 = .ok (.putfield 11, 3) := by decide +kernel
theorem d_Q_init_13 : decode c_Q_init 13 = .ok (.return_, 1) := by decide +kernel
theorem d_S_init_0 : decode c_S_init 0 = .ok (.aload_n 0, 1) := by decide +kernel
theorem d_S_init_1 : decode c_S_init 1 = .ok (.invokespecial 3, 3) := by decide +kernel
theorem d_S_init_4 : decode c_S_init 4 = .ok (.aload_n 0, 1) := by decide +kernel
theorem d_S_init_5 : decode c_S_init 5 = .ok (.sipush 2005, 3) := by decide +kernel
theorem d_S_init_8 : decode c_S_init 8 = .ok (.newarray .byte, 2) := by decide +kernel
theorem d_S_init_10 : decode c_S_init 10 = .ok (.putfield 11, 3) := by decide +kernel
theorem d_S_init_13 : decode c_S_init 13 = .ok (.return_, 1) := by decide +kernel
theorem d_N_init_0 : decode c_N_init 0 = .ok (.aload_n 0, 1) := by decide +kernel
theorem d_N_init_1 : decode c_N_init 1 = .ok (.invokespecial 3, 3) := by decide +kernel
theorem d_N_init_4 : decode c_N_init 4 = .ok (.aload_n 0, 1) := by decide +kernel
theorem d_N_init_5 : decode c_N_init 5 = .ok (.iload_n 1, 1) := by decide +kernel
theorem d_N_init_6 : decode c_N_init 6 = .ok (.putfield 9, 3) := by decide +kernel
theorem d_N_init_9 : decode c_N_init 9 = .ok (.aload_n 0, 1) := by decide +kernel
theorem d_N_init_10 : decode c_N_init 10 = .ok (.iload_n 2, 1) := by decide +kernel
theorem d_N_init_11 : decode c_N_init 11 = .ok (.putfield 15, 3) := by decide +kernel
theorem d_N_init_14 : decode c_N_init 14 = .ok (.aload_n 0, 1) := by decide +kernel
theorem d_N_init_15 : decode c_N_init 15 = .ok (.iload_n 3, 1) := by decide +kernel
theorem d_N_init_16 : decode c_N_init 16 = .ok (.putfield 18, 3) := by decide +kernel
theorem d_N_init_19 : decode c_N_init 19 = .ok (.aload_n 0, 1) := by decide +kernel
theorem d_N_init_20 : decode c_N_init 20 = .ok (.iload 4, 2) := by decide +kernel
theorem d_N_init_22 : decode c_N_init 22 = .ok (.putfield 21, 3) := by decide +kernel
theorem d_N_init_25 : decode c_N_init 25 = .ok (.aload_n 0, 1) := by decide +kernel
theorem d_N_init_26 : decode c_N_init 26 = .ok (.iload 5, 2) := by decide +kernel
theorem d_N_init_28 : decode c_N_init 28 = .ok (.putfield 24, 3) := by decide +kernel
theorem d_N_init_31 : decode c_N_init 31 = .ok (.aload_n 0, 1) := by decide +kernel
theorem d_N_init_32 : decode c_N_init 32 = .ok (.new 27, 3) := by decide +kernel
theorem d_N_init_35 : decode c_N_init 35 = .ok (.dup, 1) := by decide +kernel
theorem d_N_init_36 : decode c_N_init 36 = .ok (.iload 7, 2) := by decide +kernel
theorem d_N_init_38 : decode c_N_init 38 = .ok (.iload 6, 2) := by decide +kernel
theorem d_N_init_40 : decode c_N_init 40 = .ok (.iconst 0, 1) := by decide +kernel
theorem d_N_init_41 : decode c_N_init 41 = .ok (.aconst_null, 1) := by decide +kernel
theorem d_N_init_42 : decode c_N_init 42 = .ok (.invokespecial 29, 3) := by decide +kernel
theorem d_N_init_45 : decode c_N_init 45 = .ok (.putfield 32, 3) := by decide +kernel
theorem d_N_init_48 : decode c_N_init 48 = .ok (.aload_n 0, 1) := by decide +kernel
theorem d_N_init_49 : decode c_N_init 49 = .ok (.aload_n 0, 1) := by decide +kernel
theorem d_N_init_50 : decode c_N_init 50 = .ok (.getfield 32, 3) := by decide +kernel
theorem d_N_init_53 : decode c_N_init 53 = .ok (.putfield 36, 3) := by decide +kernel
theorem d_N_init_56 : decode c_N_init 56 = .ok (.aload_n 0, 1) := by decide +kernel
theorem d_N_init_57 : decode c_N_init 57 = .ok (.bipush 7, 2) := by decide +kernel
theorem d_N_init_59 : decode c_N_init 59 = .ok (.iload_n 2, 1) := by decide +kernel
theorem d_N_init_60 : decode c_N_init 60 = .ok (.invokestatic 39, 3) := by decide +kernel
theorem d_N_init_63 : decode c_N_init 63 = .ok (.iload_n 3, 1) := by decide +kernel
theorem d_N_init_64 : decode c_N_init 64 = .ok (.invokestatic 39, 3) := by decide +kernel
theorem d_N_init_67 : decode c_N_init 67 = .ok (.iload 4, 2) := by decide +kernel
theorem d_N_init_69 : decode c_N_init 69 = .ok (.invokestatic 39, 3) := by decide +kernel
theorem d_N_init_72 : decode c_N_init 72 = .ok (.iload 5, 2) := by decide +kernel
theorem d_N_init_74 : decode c_N_init 74 = .ok (.invokestatic 39, 3) := by decide +kernel
theorem d_N_init_77 : decode c_N_init 77 = .ok (.iload 6, 2) := by decide +kernel
theorem d_N_init_79 : decode c_N_init 79 = .ok (.invokestatic 39, 3) := by decide +kernel
theorem d_N_init_82 : decode c_N_init 82 = .ok (.putfield 43, 3) := by decide +kernel
theorem d_N_init_85 : decode c_N_init 85 = .ok (.return_, 1) := by decide +kernel
theorem d_T_init_0 : decode c_T_init 0 = .ok (.aload_n 0, 1) := by decide +kernel
theorem d_T_init_1 : decode c_T_init 1 = .ok (.invokespecial 1, 3) := by decide +kernel
theorem d_T_init_4 : decode c_T_init 4 = .ok (.aload_n 0, 1) := by decide +kernel
theorem d_T_init_5 : decode c_T_init 5 = .ok (.iload_n 1, 1) := by decide +kernel
theorem d_T_init_6 : decode c_T_init 6 = .ok (.putfield 7, 3) := by decide +kernel
theorem d_T_init_9 : decode c_T_init 9 = .ok (.aload_n 0, 1) := by decide +kernel
theorem d_T_init_10 : decode c_T_init 10 = .ok (.iload_n 2, 1) := by decide +kernel
theorem d_T_init_11 : decode c_T_init 11 = .ok (.putfield 13, 3) := by decide +kernel
theorem d_T_init_14 : decode c_T_init 14 = .ok (.aload_n 0, 1) := by decide +kernel
theorem d_T_init_15 : decode c_T_init 15 = .ok (.iload_n 3, 1) := by decide +kernel
theorem d_T_init_16 : decode c_T_init 16 = .ok (.putfield 16, 3) := by decide +kernel
theorem d_T_init_19 : decode c_T_init 19 = .ok (.aload_n 0, 1) := by decide +kernel
theorem d_T_init_20 : decode c_T_init 20 = .ok (.aload 4, 2) := by decide +kernel
theorem d_T_init_22 : decode c_T_init 22 = .ok (.putfield 20, 3) := by decide +kernel
theorem d_T_init_25 : decode c_T_init 25 = .ok (.return_, 1) := by decide +kernel
theorem d_N_mix_0 : decode c_N_mix 0 = .ok (.iload_n 0, 1) := by decide +kernel
theorem d_N_mix_1 : decode c_N_mix 1 = .ok (.iload_n 1, 1) := by decide +kernel
theorem d_N_mix_2 : decode c_N_mix 2 = .ok (.ixor, 1) := by decide +kernel
theorem d_N_mix_3 : decode c_N_mix 3 = .ok (.istore_n 2, 1) := by decide +kernel
theorem d_N_mix_4 : decode c_N_mix 4 = .ok (.iload_n 2, 1) := by decide +kernel
theorem d_N_mix_5 : decode c_N_mix 5 = .ok (.bipush 7, 2) := by decide +kernel
theorem d_N_mix_7 : decode c_N_mix 7 = .ok (.ishl, 1) := by decide +kernel
theorem d_N_mix_8 : decode c_N_mix 8 = .ok (.iload_n 2, 1) := by decide +kernel
theorem d_N_mix_9 : decode c_N_mix 9 = .ok (.bipush 25, 2) := by decide +kernel
theorem d_N_mix_11 : decode c_N_mix 11 = .ok (.iushr, 1) := by decide +kernel
theorem d_N_mix_12 : decode c_N_mix 12 = .ok (.ior, 1) := by decide +kernel
theorem d_N_mix_13 : decode c_N_mix 13 = .ok (.iload_n 1, 1) := by decide +kernel
theorem d_N_mix_14 : decode c_N_mix 14 = .ok (.iadd, 1) := by decide +kernel
theorem d_N_mix_15 : decode c_N_mix 15 = .ok (.ireturn, 1) := by decide +kernel
theorem d_L_take_0 : decode c_L_take 0 = .ok (.aload_n 0, 1) := by decide +kernel
theorem d_L_take_1 : decode c_L_take 1 = .ok (.getfield 20, 3) := by decide +kernel
theorem d_L_take_4 : decode c_L_take 4 = .ok (.bipush 100, 2) := by decide +kernel
theorem d_L_take_6 : decode c_L_take 6 = .ok (.if_icmp .lt 4, 3) := by decide +kernel
theorem d_L_take_9 : decode c_L_take 9 = .ok (.return_, 1) := by decide +kernel
theorem d_L_take_10 : decode c_L_take 10 = .ok (.aload_n 0, 1) := by decide +kernel
theorem d_L_take_11 : decode c_L_take 11 = .ok (.getfield 11, 3) := by decide +kernel
theorem d_L_take_14 : decode c_L_take 14 = .ok (.aload_n 0, 1) := by decide +kernel
theorem d_L_take_15 : decode c_L_take 15 = .ok (.getfield 20, 3) := by decide +kernel
theorem d_L_take_18 : decode c_L_take 18 = .ok (.aload_n 1, 1) := by decide +kernel
theorem d_L_take_19 : decode c_L_take 19 = .ok (.aastore, 1) := by decide +kernel
theorem d_L_take_20 : decode c_L_take 20 = .ok (.aload_n 0, 1) := by decide +kernel
theorem d_L_take_21 : decode c_L_take 21 = .ok (.getfield 20, 3) := by decide +kernel
theorem d_L_take_24 : decode c_L_take 24 = .ok (.istore_n 2, 1) := by decide +kernel
theorem d_L_take_25 : decode c_L_take 25 = .ok (.iload_n 2, 1) := by decide +kernel
theorem d_L_take_26 : decode c_L_take 26 = .ok (.ifCond .le 38, 3) := by decide +kernel
theorem d_L_take_29 : decode c_L_take 29 = .ok (.aload_n 0, 1) := by decide +kernel
theorem d_L_take_30 : decode c_L_take 30 = .ok (.getfield 17, 3) := by decide +kernel
theorem d_L_take_33 : decode c_L_take 33 = .ok (.iload_n 2, 1) := by decide +kernel
theorem d_L_take_34 : decode c_L_take 34 = .ok (.iconst 1, 1) := by decide +kernel
theorem d_L_take_35 : decode c_L_take 35 = .ok (.isub, 1) := by decide +kernel
theorem d_L_take_36 : decode c_L_take 36 = .ok (.aaload, 1) := by decide +kernel
theorem d_L_take_37 : decode c_L_take 37 = .ok (.aload_n 1, 1) := by decide +kernel
theorem d_L_take_38 : decode c_L_take 38 = .ok (.invokevirtual 24, 3) := by decide +kernel
theorem d_L_take_41 : decode c_L_take 41 = .ok (.ifCond .eq 23, 3) := by decide +kernel
theorem d_L_take_44 : decode c_L_take 44 = .ok (.aload_n 0, 1) := by decide +kernel
theorem d_L_take_45 : decode c_L_take 45 = .ok (.getfield 17, 3) := by decide +kernel
theorem d_L_take_48 : decode c_L_take 48 = .ok (.iload_n 2, 1) := by decide +kernel
theorem d_L_take_49 : decode c_L_take 49 = .ok (.aload_n 0, 1) := by decide +kernel
theorem d_L_take_50 : decode c_L_take 50 = .ok (.getfield 17, 3) := by decide +kernel
theorem d_L_take_53 : decode c_L_take 53 = .ok (.iload_n 2, 1) := by decide +kernel
theorem d_L_take_54 : decode c_L_take 54 = .ok (.iconst 1, 1) := by decide +kernel
theorem d_L_take_55 : decode c_L_take 55 = .ok (.isub, 1) := by decide +kernel
theorem d_L_take_56 : decode c_L_take 56 = .ok (.aaload, 1) := by decide +kernel
theorem d_L_take_57 : decode c_L_take 57 = .ok (.aastore, 1) := by decide +kernel
theorem d_L_take_58 : decode c_L_take 58 = .ok (.iinc 2 (-1), 3) := by decide +kernel
theorem d_L_take_61 : decode c_L_take 61 = .ok (.goto (-36), 3) := by decide +kernel
theorem d_L_take_64 : decode c_L_take 64 = .ok (.aload_n 0, 1) := by decide +kernel
theorem d_L_take_65 : decode c_L_take 65 = .ok (.getfield 17, 3) := by decide +kernel
theorem d_L_take_68 : decode c_L_take 68 = .ok (.iload_n 2, 1) := by decide +kernel
theorem d_L_take_69 : decode c_L_take 69 = .ok (.aload_n 1, 1) := by decide +kernel
theorem d_L_take_70 : decode c_L_take 70 = .ok (.aastore, 1) := by decide +kernel
theorem d_L_take_71 : decode c_L_take 71 = .ok (.aload_n 0, 1) := by decide +kernel
theorem d_L_take_72 : decode c_L_take 72 = .ok (.dup, 1) := by decide +kernel
theorem d_L_take_73 : decode c_L_take 73 = .ok (.getfield 20, 3) := by decide +kernel
theorem d_L_take_76 : decode c_L_take 76 = .ok (.iconst 1, 1) := by decide +kernel
theorem d_L_take_77 : decode c_L_take 77 = .ok (.iadd, 1) := by decide +kernel
theorem d_L_take_78 : decode c_L_take 78 = .ok (.putfield 20, 3) := by decide +kernel
theorem d_L_take_81 : decode c_L_take 81 = .ok (.return_, 1) := by decide +kernel
theorem d_N_standsBehind_0 : decode c_N_standsBehind 0 = .ok (.aload_n 0, 1) := by decide +kernel
theorem d_N_standsBehind_1 : decode c_N_standsBehind 1 = .ok (.getfield 24, 3) := by decide +kernel
theorem d_N_standsBehind_4 : decode c_N_standsBehind 4 = .ok (.aload_n 1, 1) := by decide +kernel
theorem d_N_standsBehind_5 : decode c_N_standsBehind 5 = .ok (.getfield 24, 3) := by decide +kernel
theorem d_N_standsBehind_8 : decode c_N_standsBehind 8 = .ok (.if_icmp .eq 20, 3) := by decide +kernel
theorem d_N_standsBehind_11 : decode c_N_standsBehind 11 = .ok (.aload_n 0, 1) := by decide +kernel
theorem d_N_standsBehind_12 : decode c_N_standsBehind 12 = .ok (.getfield 24, 3) := by decide +kernel
theorem d_N_standsBehind_15 : decode c_N_standsBehind 15 = .ok (.aload_n 1, 1) := by decide +kernel
theorem d_N_standsBehind_16 : decode c_N_standsBehind 16 = .ok (.getfield 24, 3) := by decide +kernel
theorem d_N_standsBehind_19 : decode c_N_standsBehind 19 = .ok (.if_icmp .le 7, 3) := by decide +kernel
theorem d_N_standsBehind_22 : decode c_N_standsBehind 22 = .ok (.iconst 1, 1) := by decide +kernel
theorem d_N_standsBehind_23 : decode c_N_standsBehind 23 = .ok (.goto 4, 3) := by decide +kernel
theorem d_N_standsBehind_26 : decode c_N_standsBehind 26 = .ok (.iconst 0, 1) := by decide +kernel
theorem d_N_standsBehind_27 : decode c_N_standsBehind 27 = .ok (.ireturn, 1) := by decide +kernel
theorem d_N_standsBehind_28 : decode c_N_standsBehind 28 = .ok (.aload_n 0, 1) := by decide +kernel
theorem d_N_standsBehind_29 : decode c_N_standsBehind 29 = .ok (.getfield 15, 3) := by decide +kernel
theorem d_N_standsBehind_32 : decode c_N_standsBehind 32 = .ok (.aload_n 1, 1) := by decide +kernel
theorem d_N_standsBehind_33 : decode c_N_standsBehind 33 = .ok (.getfield 15, 3) := by decide +kernel
theorem d_N_standsBehind_36 : decode c_N_standsBehind 36 = .ok (.if_icmp .eq 20, 3) := by decide +kernel
theorem d_N_standsBehind_39 : decode c_N_standsBehind 39 = .ok (.aload_n 0, 1) := by decide +kernel
theorem d_N_standsBehind_40 : decode c_N_standsBehind 40 = .ok (.getfield 15, 3) := by decide +kernel
theorem d_N_standsBehind_43 : decode c_N_standsBehind 43 = .ok (.aload_n 1, 1) := by decide +kernel
theorem d_N_standsBehind_44 : decode c_N_standsBehind 44 = .ok (.getfield 15, 3) := by decide +kernel
theorem d_N_standsBehind_47 : decode c_N_standsBehind 47 = .ok (.if_icmp .le 7, 3) := by decide +kernel
theorem d_N_standsBehind_50 : decode c_N_standsBehind 50 = .ok (.iconst 1, 1) := by decide +kernel
theorem d_N_standsBehind_51 : decode c_N_standsBehind 51 = .ok (.goto 4, 3) := by decide +kernel
theorem d_N_standsBehind_54 : decode c_N_standsBehind 54 = .ok (.iconst 0, 1) := by decide +kernel
theorem d_N_standsBehind_55 : decode c_N_standsBehind 55 = .ok (.ireturn, 1) := by decide +kernel
theorem d_N_standsBehind_56 : decode c_N_standsBehind 56 = .ok (.aload_n 0, 1) := by decide +kernel
theorem d_N_standsBehind_57 : decode c_N_standsBehind 57 = .ok (.getfield 9, 3) := by decide +kernel
theorem d_N_standsBehind_60 : decode c_N_standsBehind 60 = .ok (.aload_n 1, 1) := by decide +kernel
theorem d_N_standsBehind_61 : decode c_N_standsBehind 61 = .ok (.getfield 9, 3) := by decide +kernel
theorem d_N_standsBehind_64 : decode c_N_standsBehind 64 = .ok (.if_icmp .le 7, 3) := by decide +kernel
theorem d_N_standsBehind_67 : decode c_N_standsBehind 67 = .ok (.iconst 1, 1) := by decide +kernel
theorem d_N_standsBehind_68 : decode c_N_standsBehind 68 = .ok (.goto 4, 3) := by decide +kernel
theorem d_N_standsBehind_71 : decode c_N_standsBehind 71 = .ok (.iconst 0, 1) := by decide +kernel
theorem d_N_standsBehind_72 : decode c_N_standsBehind 72 = .ok (.ireturn, 1) := by decide +kernel
theorem d_N_takeValue_0 : decode c_N_takeValue 0 = .ok (.aload_n 0, 1) := by decide +kernel
theorem d_N_takeValue_1 : decode c_N_takeValue 1 = .ok (.new 27, 3) := by decide +kernel
theorem d_N_takeValue_4 : decode c_N_takeValue 4 = .ok (.dup, 1) := by decide +kernel
theorem d_N_takeValue_5 : decode c_N_takeValue 5 = .ok (.iload_n 1, 1) := by decide +kernel
theorem d_N_takeValue_6 : decode c_N_takeValue 6 = .ok (.iload_n 2, 1) := by decide +kernel
theorem d_N_takeValue_7 : decode c_N_takeValue 7 = .ok (.aload_n 0, 1) := by decide +kernel
theorem d_N_takeValue_8 : decode c_N_takeValue 8 = .ok (.getfield 36, 3) := by decide +kernel
theorem d_N_takeValue_11 : decode c_N_takeValue 11 = .ok (.getfield 46, 3) := by decide +kernel
theorem d_N_takeValue_14 : decode c_N_takeValue 14 = .ok (.aload_n 0, 1) := by decide +kernel
theorem d_N_takeValue_15 : decode c_N_takeValue 15 = .ok (.getfield 36, 3) := by decide +kernel
theorem d_N_takeValue_18 : decode c_N_takeValue 18 = .ok (.invokespecial 29, 3) := by decide +kernel
theorem d_N_takeValue_21 : decode c_N_takeValue 21 = .ok (.putfield 36, 3) := by decide +kernel
theorem d_N_takeValue_24 : decode c_N_takeValue 24 = .ok (.aload_n 0, 1) := by decide +kernel
theorem d_N_takeValue_25 : decode c_N_takeValue 25 = .ok (.aload_n 0, 1) := by decide +kernel
theorem d_N_takeValue_26 : decode c_N_takeValue 26 = .ok (.getfield 43, 3) := by decide +kernel
theorem d_N_takeValue_29 : decode c_N_takeValue 29 = .ok (.iload_n 2, 1) := by decide +kernel
theorem d_N_takeValue_30 : decode c_N_takeValue 30 = .ok (.invokestatic 39, 3) := by decide +kernel
theorem d_N_takeValue_33 : decode c_N_takeValue 33 = .ok (.putfield 43, 3) := by decide +kernel
theorem d_N_takeValue_36 : decode c_N_takeValue 36 = .ok (.aload_n 0, 1) := by decide +kernel
theorem d_N_takeValue_37 : decode c_N_takeValue 37 = .ok (.dup, 1) := by decide +kernel
theorem d_N_takeValue_38 : decode c_N_takeValue 38 = .ok (.getfield 50, 3) := by decide +kernel
theorem d_N_takeValue_41 : decode c_N_takeValue 41 = .ok (.iconst 1, 1) := by decide +kernel
theorem d_N_takeValue_42 : decode c_N_takeValue 42 = .ok (.iadd, 1) := by decide +kernel
theorem d_N_takeValue_43 : decode c_N_takeValue 43 = .ok (.putfield 50, 3) := by decide +kernel
theorem d_N_takeValue_46 : decode c_N_takeValue 46 = .ok (.aload_n 0, 1) := by decide +kernel
theorem d_N_takeValue_47 : decode c_N_takeValue 47 = .ok (.dup, 1) := by decide +kernel
theorem d_N_takeValue_48 : decode c_N_takeValue 48 = .ok (.getfield 53, 3) := by decide +kernel
theorem d_N_takeValue_51 : decode c_N_takeValue 51 = .ok (.iconst 1, 1) := by decide +kernel
theorem d_N_takeValue_52 : decode c_N_takeValue 52 = .ok (.iadd, 1) := by decide +kernel
theorem d_N_takeValue_53 : decode c_N_takeValue 53 = .ok (.putfield 53, 3) := by decide +kernel
theorem d_N_takeValue_56 : decode c_N_takeValue 56 = .ok (.return_, 1) := by decide +kernel
theorem d_N_takeStrike_0 : decode c_N_takeStrike 0 = .ok (.aload_n 0, 1) := by decide +kernel
theorem d_N_takeStrike_1 : decode c_N_takeStrike 1 = .ok (.new 27, 3) := by decide +kernel
theorem d_N_takeStrike_4 : decode c_N_takeStrike 4 = .ok (.dup, 1) := by decide +kernel
theorem d_N_takeStrike_5 : decode c_N_takeStrike 5 = .ok (.iload_n 1, 1) := by decide +kernel
theorem d_N_takeStrike_6 : decode c_N_takeStrike 6 = .ok (.aload_n 0, 1) := by decide +kernel
theorem d_N_takeStrike_7 : decode c_N_takeStrike 7 = .ok (.getfield 36, 3) := by decide +kernel
theorem d_N_takeStrike_10 : decode c_N_takeStrike 10 = .ok (.getfield 56, 3) := by decide +kernel
theorem d_N_takeStrike_13 : decode c_N_takeStrike 13 = .ok (.iload_n 2, 1) := by decide +kernel
theorem d_N_takeStrike_14 : decode c_N_takeStrike 14 = .ok (.aload_n 0, 1) := by decide +kernel
theorem d_N_takeStrike_15 : decode c_N_takeStrike 15 = .ok (.getfield 36, 3) := by decide +kernel
theorem d_N_takeStrike_18 : decode c_N_takeStrike 18 = .ok (.invokespecial 29, 3) := by decide +kernel
theorem d_N_takeStrike_21 : decode c_N_takeStrike 21 = .ok (.putfield 36, 3) := by decide +kernel
theorem d_N_takeStrike_24 : decode c_N_takeStrike 24 = .ok (.aload_n 0, 1) := by decide +kernel
theorem d_N_takeStrike_25 : decode c_N_takeStrike 25 = .ok (.dup, 1) := by decide +kernel
theorem d_N_takeStrike_26 : decode c_N_takeStrike 26 = .ok (.getfield 53, 3) := by decide +kernel
theorem d_N_takeStrike_29 : decode c_N_takeStrike 29 = .ok (.iconst 1, 1) := by decide +kernel
theorem d_N_takeStrike_30 : decode c_N_takeStrike 30 = .ok (.iadd, 1) := by decide +kernel
theorem d_N_takeStrike_31 : decode c_N_takeStrike 31 = .ok (.putfield 53, 3) := by decide +kernel
theorem d_N_takeStrike_34 : decode c_N_takeStrike 34 = .ok (.return_, 1) := by decide +kernel
theorem d_Q_begin_0 : decode c_Q_begin 0 = .ok (.aload_n 0, 1) := by decide +kernel
theorem d_Q_begin_1 : decode c_Q_begin 1 = .ok (.iconst 1, 1) := by decide +kernel
theorem d_Q_begin_2 : decode c_Q_begin 2 = .ok (.putfield 17, 3) := by decide +kernel
theorem d_Q_begin_5 : decode c_Q_begin 5 = .ok (.aload_n 0, 1) := by decide +kernel
theorem d_Q_begin_6 : decode c_Q_begin 6 = .ok (.iload_n 1, 1) := by decide +kernel
theorem d_Q_begin_7 : decode c_Q_begin 7 = .ok (.putfield 21, 3) := by decide +kernel
theorem d_Q_begin_10 : decode c_Q_begin 10 = .ok (.aload_n 0, 1) := by decide +kernel
theorem d_Q_begin_11 : decode c_Q_begin 11 = .ok (.iconst 0, 1) := by decide +kernel
theorem d_Q_begin_12 : decode c_Q_begin 12 = .ok (.putfield 25, 3) := by decide +kernel
theorem d_Q_begin_15 : decode c_Q_begin 15 = .ok (.return_, 1) := by decide +kernel
theorem d_N_isWithin_0 : decode c_N_isWithin 0 = .ok (.aload_n 0, 1) := by decide +kernel
theorem d_N_isWithin_1 : decode c_N_isWithin 1 = .ok (.getfield 24, 3) := by decide +kernel
theorem d_N_isWithin_4 : decode c_N_isWithin 4 = .ok (.iload_n 1, 1) := by decide +kernel
theorem d_N_isWithin_5 : decode c_N_isWithin 5 = .ok (.if_icmp .lt 15, 3) := by decide +kernel
theorem d_N_isWithin_8 : decode c_N_isWithin 8 = .ok (.aload_n 0, 1) := by decide +kernel
theorem d_N_isWithin_9 : decode c_N_isWithin 9 = .ok (.getfield 24, 3) := by decide +kernel
theorem d_N_isWithin_12 : decode c_N_isWithin 12 = .ok (.iload_n 2, 1) := by decide +kernel
theorem d_N_isWithin_13 : decode c_N_isWithin 13 = .ok (.if_icmp .ge 7, 3) := by decide +kernel
theorem d_N_isWithin_16 : decode c_N_isWithin 16 = .ok (.iconst 1, 1) := by decide +kernel
theorem d_N_isWithin_17 : decode c_N_isWithin 17 = .ok (.goto 4, 3) := by decide +kernel
theorem d_N_isWithin_20 : decode c_N_isWithin 20 = .ok (.iconst 0, 1) := by decide +kernel
theorem d_N_isWithin_21 : decode c_N_isWithin 21 = .ok (.ireturn, 1) := by decide +kernel
theorem d_N_isOf_0 : decode c_N_isOf 0 = .ok (.iload_n 1, 1) := by decide +kernel
theorem d_N_isOf_1 : decode c_N_isOf 1 = .ok (.iconst (-1), 1) := by decide +kernel
theorem d_N_isOf_2 : decode c_N_isOf 2 = .ok (.if_icmp .eq 11, 3) := by decide +kernel
theorem d_N_isOf_5 : decode c_N_isOf 5 = .ok (.iload_n 1, 1) := by decide +kernel
theorem d_N_isOf_6 : decode c_N_isOf 6 = .ok (.aload_n 0, 1) := by decide +kernel
theorem d_N_isOf_7 : decode c_N_isOf 7 = .ok (.getfield 18, 3) := by decide +kernel
theorem d_N_isOf_10 : decode c_N_isOf 10 = .ok (.if_icmp .ne 20, 3) := by decide +kernel
theorem d_N_isOf_13 : decode c_N_isOf 13 = .ok (.iload_n 2, 1) := by decide +kernel
theorem d_N_isOf_14 : decode c_N_isOf 14 = .ok (.iconst (-1), 1) := by decide +kernel
theorem d_N_isOf_15 : decode c_N_isOf 15 = .ok (.if_icmp .eq 11, 3) := by decide +kernel
theorem d_N_isOf_18 : decode c_N_isOf 18 = .ok (.iload_n 2, 1) := by decide +kernel
theorem d_N_isOf_19 : decode c_N_isOf 19 = .ok (.aload_n 0, 1) := by decide +kernel
theorem d_N_isOf_20 : decode c_N_isOf 20 = .ok (.getfield 21, 3) := by decide +kernel
theorem d_N_isOf_23 : decode c_N_isOf 23 = .ok (.if_icmp .ne 7, 3) := by decide +kernel
theorem d_N_isOf_26 : decode c_N_isOf 26 = .ok (.iconst 1, 1) := by decide +kernel
theorem d_N_isOf_27 : decode c_N_isOf 27 = .ok (.goto 4, 3) := by decide +kernel
theorem d_N_isOf_30 : decode c_N_isOf 30 = .ok (.iconst 0, 1) := by decide +kernel
theorem d_N_isOf_31 : decode c_N_isOf 31 = .ok (.ireturn, 1) := by decide +kernel
theorem d_Q_take_0 : decode c_Q_take 0 = .ok (.aload_n 0, 1) := by decide +kernel
theorem d_Q_take_1 : decode c_Q_take 1 = .ok (.getfield 25, 3) := by decide +kernel
theorem d_Q_take_4 : decode c_Q_take 4 = .ok (.bipush 100, 2) := by decide +kernel
theorem d_Q_take_6 : decode c_Q_take 6 = .ok (.if_icmp .ge 23, 3) := by decide +kernel
theorem d_Q_take_9 : decode c_Q_take 9 = .ok (.aload_n 0, 1) := by decide +kernel
theorem d_Q_take_10 : decode c_Q_take 10 = .ok (.getfield 11, 3) := by decide +kernel
theorem d_Q_take_13 : decode c_Q_take 13 = .ok (.aload_n 0, 1) := by decide +kernel
theorem d_Q_take_14 : decode c_Q_take 14 = .ok (.getfield 25, 3) := by decide +kernel
theorem d_Q_take_17 : decode c_Q_take 17 = .ok (.aload_n 1, 1) := by decide +kernel
theorem d_Q_take_18 : decode c_Q_take 18 = .ok (.aastore, 1) := by decide +kernel
theorem d_Q_take_19 : decode c_Q_take 19 = .ok (.aload_n 0, 1) := by decide +kernel
theorem d_Q_take_20 : decode c_Q_take 20 = .ok (.dup, 1) := by decide +kernel
theorem d_Q_take_21 : decode c_Q_take 21 = .ok (.getfield 25, 3) := by decide +kernel
theorem d_Q_take_24 : decode c_Q_take 24 = .ok (.iconst 1, 1) := by decide +kernel
theorem d_Q_take_25 : decode c_Q_take 25 = .ok (.iadd, 1) := by decide +kernel
theorem d_Q_take_26 : decode c_Q_take 26 = .ok (.putfield 25, 3) := by decide +kernel
theorem d_Q_take_29 : decode c_Q_take 29 = .ok (.return_, 1) := by decide +kernel
theorem d_N_stateAt_0 : decode c_N_stateAt 0 = .ok (.aload_n 0, 1) := by decide +kernel
theorem d_N_stateAt_1 : decode c_N_stateAt 1 = .ok (.getfield 36, 3) := by decide +kernel
theorem d_N_stateAt_4 : decode c_N_stateAt 4 = .ok (.astore_n 2, 1) := by decide +kernel
theorem d_N_stateAt_5 : decode c_N_stateAt 5 = .ok (.aload_n 2, 1) := by decide +kernel
theorem d_N_stateAt_6 : decode c_N_stateAt 6 = .ok (.getfield 59, 3) := by decide +kernel
theorem d_N_stateAt_9 : decode c_N_stateAt 9 = .ok (.iload_n 1, 1) := by decide +kernel
theorem d_N_stateAt_10 : decode c_N_stateAt 10 = .ok (.if_icmp .le 18, 3) := by decide +kernel
theorem d_N_stateAt_13 : decode c_N_stateAt 13 = .ok (.aload_n 2, 1) := by decide +kernel
theorem d_N_stateAt_14 : decode c_N_stateAt 14 = .ok (.getfield 62, 3) := by decide +kernel
theorem d_N_stateAt_17 : decode c_N_stateAt 17 = .ok (.ifnull 11, 3) := by decide +kernel
theorem d_N_stateAt_20 : decode c_N_stateAt 20 = .ok (.aload_n 2, 1) := by decide +kernel
theorem d_N_stateAt_21 : decode c_N_stateAt 21 = .ok (.getfield 62, 3) := by decide +kernel
theorem d_N_stateAt_24 : decode c_N_stateAt 24 = .ok (.astore_n 2, 1) := by decide +kernel
theorem d_N_stateAt_25 : decode c_N_stateAt 25 = .ok (.goto (-20), 3) := by decide +kernel
theorem d_N_stateAt_28 : decode c_N_stateAt 28 = .ok (.aload_n 2, 1) := by decide +kernel
theorem d_N_stateAt_29 : decode c_N_stateAt 29 = .ok (.areturn, 1) := by decide +kernel
theorem d_L_lastReadingUpTo_0 : decode c_L_lastReadingUpTo 0 = .ok (.aload_n 0, 1) := by decide +kernel
theorem d_L_lastReadingUpTo_1 : decode c_L_lastReadingUpTo 1 = .ok (.getfield 20, 3) := by decide +kernel
theorem d_L_lastReadingUpTo_4 : decode c_L_lastReadingUpTo 4 = .ok (.iconst 1, 1) := by decide +kernel
theorem d_L_lastReadingUpTo_5 : decode c_L_lastReadingUpTo 5 = .ok (.isub, 1) := by decide +kernel
theorem d_L_lastReadingUpTo_6 : decode c_L_lastReadingUpTo 6 = .ok (.istore_n 3, 1) := by decide +kernel
theorem d_L_lastReadingUpTo_7 : decode c_L_lastReadingUpTo 7 = .ok (.iload_n 3, 1) := by decide +kernel
theorem d_L_lastReadingUpTo_8 : decode c_L_lastReadingUpTo 8 = .ok (.ifCond .lt 42, 3) := by decide +kernel
theorem d_L_lastReadingUpTo_11 : decode c_L_lastReadingUpTo 11 = .ok (.aload_n 0, 1) := by decide +kernel
theorem d_L_lastReadingUpTo_12 : decode c_L_lastReadingUpTo 12 = .ok (.getfield 17, 3) := by decide +kernel
theorem d_L_lastReadingUpTo_15 : decode c_L_lastReadingUpTo 15 = .ok (.iload_n 3, 1) := by decide +kernel
theorem d_L_lastReadingUpTo_16 : decode c_L_lastReadingUpTo 16 = .ok (.aaload, 1) := by decide +kernel
theorem d_L_lastReadingUpTo_17 : decode c_L_lastReadingUpTo 17 = .ok (.getfield 28, 3) := by decide +kernel
theorem d_L_lastReadingUpTo_20 : decode c_L_lastReadingUpTo 20 = .ok (.iload_n 2, 1) := by decide +kernel
theorem d_L_lastReadingUpTo_21 : decode c_L_lastReadingUpTo 21 = .ok (.if_icmp .gt 23, 3) := by decide +kernel
theorem d_L_lastReadingUpTo_24 : decode c_L_lastReadingUpTo 24 = .ok (.aload_n 0, 1) := by decide +kernel
theorem d_L_lastReadingUpTo_25 : decode c_L_lastReadingUpTo 25 = .ok (.getfield 17, 3) := by decide +kernel
theorem d_L_lastReadingUpTo_28 : decode c_L_lastReadingUpTo 28 = .ok (.iload_n 3, 1) := by decide +kernel
theorem d_L_lastReadingUpTo_29 : decode c_L_lastReadingUpTo 29 = .ok (.aaload, 1) := by decide +kernel
theorem d_L_lastReadingUpTo_30 : decode c_L_lastReadingUpTo 30 = .ok (.iload_n 1, 1) := by decide +kernel
theorem d_L_lastReadingUpTo_31 : decode c_L_lastReadingUpTo 31 = .ok (.invokevirtual 31, 3) := by decide +kernel
theorem d_L_lastReadingUpTo_34 : decode c_L_lastReadingUpTo 34 = .ok (.ifCond .eq 10, 3) := by decide +kernel
theorem d_L_lastReadingUpTo_37 : decode c_L_lastReadingUpTo 37 = .ok (.aload_n 0, 1) := by decide +kernel
theorem d_L_lastReadingUpTo_38 : decode c_L_lastReadingUpTo 38 = .ok (.getfield 17, 3) := by decide +kernel
theorem d_L_lastReadingUpTo_41 : decode c_L_lastReadingUpTo 41 = .ok (.iload_n 3, 1) := by decide +kernel
theorem d_L_lastReadingUpTo_42 : decode c_L_lastReadingUpTo 42 = .ok (.aaload, 1) := by decide +kernel
theorem d_L_lastReadingUpTo_43 : decode c_L_lastReadingUpTo 43 = .ok (.areturn, 1) := by decide +kernel
theorem d_L_lastReadingUpTo_44 : decode c_L_lastReadingUpTo 44 = .ok (.iinc 3 (-1), 3) := by decide +kernel
theorem d_L_lastReadingUpTo_47 : decode c_L_lastReadingUpTo 47 = .ok (.goto (-40), 3) := by decide +kernel
theorem d_L_lastReadingUpTo_50 : decode c_L_lastReadingUpTo 50 = .ok (.aconst_null, 1) := by decide +kernel
theorem d_L_lastReadingUpTo_51 : decode c_L_lastReadingUpTo 51 = .ok (.areturn, 1) := by decide +kernel
theorem d_N_isReadingOf_0 : decode c_N_isReadingOf 0 = .ok (.aload_n 0, 1) := by decide +kernel
theorem d_N_isReadingOf_1 : decode c_N_isReadingOf 1 = .ok (.getfield 18, 3) := by decide +kernel
theorem d_N_isReadingOf_4 : decode c_N_isReadingOf 4 = .ok (.iconst 2, 1) := by decide +kernel
theorem d_N_isReadingOf_5 : decode c_N_isReadingOf 5 = .ok (.if_icmp .ne 25, 3) := by decide +kernel
theorem d_N_isReadingOf_8 : decode c_N_isReadingOf 8 = .ok (.aload_n 0, 1) := by decide +kernel
theorem d_N_isReadingOf_9 : decode c_N_isReadingOf 9 = .ok (.getfield 21, 3) := by decide +kernel
theorem d_N_isReadingOf_12 : decode c_N_isReadingOf 12 = .ok (.iload_n 1, 1) := by decide +kernel
theorem d_N_isReadingOf_13 : decode c_N_isReadingOf 13 = .ok (.if_icmp .ne 17, 3) := by decide +kernel
theorem d_N_isReadingOf_16 : decode c_N_isReadingOf 16 = .ok (.aload_n 0, 1) := by decide +kernel
theorem d_N_isReadingOf_17 : decode c_N_isReadingOf 17 = .ok (.getfield 36, 3) := by decide +kernel
theorem d_N_isReadingOf_20 : decode c_N_isReadingOf 20 = .ok (.getfield 46, 3) := by decide +kernel
theorem d_N_isReadingOf_23 : decode c_N_isReadingOf 23 = .ok (.ifCond .ne 7, 3) := by decide +kernel
theorem d_N_isReadingOf_26 : decode c_N_isReadingOf 26 = .ok (.iconst 1, 1) := by decide +kernel
theorem d_N_isReadingOf_27 : decode c_N_isReadingOf 27 = .ok (.goto 4, 3) := by decide +kernel
theorem d_N_isReadingOf_30 : decode c_N_isReadingOf 30 = .ok (.iconst 0, 1) := by decide +kernel
theorem d_N_isReadingOf_31 : decode c_N_isReadingOf 31 = .ok (.ireturn, 1) := by decide +kernel
theorem d_L_firstReadingFrom_0 : decode c_L_firstReadingFrom 0 = .ok (.iconst 0, 1) := by decide +kernel
theorem d_L_firstReadingFrom_1 : decode c_L_firstReadingFrom 1 = .ok (.istore_n 3, 1) := by decide +kernel
theorem d_L_firstReadingFrom_2 : decode c_L_firstReadingFrom 2 = .ok (.iload_n 3, 1) := by decide +kernel
theorem d_L_firstReadingFrom_3 : decode c_L_firstReadingFrom 3 = .ok (.aload_n 0, 1) := by decide +kernel
theorem d_L_firstReadingFrom_4 : decode c_L_firstReadingFrom 4 = .ok (.getfield 20, 3) := by decide +kernel
theorem d_L_firstReadingFrom_7 : decode c_L_firstReadingFrom 7 = .ok (.if_icmp .ge 42, 3) := by decide +kernel
theorem d_L_firstReadingFrom_10 : decode c_L_firstReadingFrom 10 = .ok (.aload_n 0, 1) := by decide +kernel
theorem d_L_firstReadingFrom_11 : decode c_L_firstReadingFrom 11 = .ok (.getfield 17, 3) := by decide +kernel
theorem d_L_firstReadingFrom_14 : decode c_L_firstReadingFrom 14 = .ok (.iload_n 3, 1) := by decide +kernel
theorem d_L_firstReadingFrom_15 : decode c_L_firstReadingFrom 15 = .ok (.aaload, 1) := by decide +kernel
theorem d_L_firstReadingFrom_16 : decode c_L_firstReadingFrom 16 = .ok (.getfield 28, 3) := by decide +kernel
theorem d_L_firstReadingFrom_19 : decode c_L_firstReadingFrom 19 = .ok (.iload_n 2, 1) := by decide +kernel
theorem d_L_firstReadingFrom_20 : decode c_L_firstReadingFrom 20 = .ok (.if_icmp .lt 23, 3) := by decide +kernel
theorem d_L_firstReadingFrom_23 : decode c_L_firstReadingFrom 23 = .ok (.aload_n 0, 1) := by decide +kernel
theorem d_L_firstReadingFrom_24 : decode c_L_firstReadingFrom 24 = .ok (.getfield 17, 3) := by decide +kernel
theorem d_L_firstReadingFrom_27 : decode c_L_firstReadingFrom 27 = .ok (.iload_n 3, 1) := by decide +kernel
theorem d_L_firstReadingFrom_28 : decode c_L_firstReadingFrom 28 = .ok (.aaload, 1) := by decide +kernel
theorem d_L_firstReadingFrom_29 : decode c_L_firstReadingFrom 29 = .ok (.iload_n 1, 1) := by decide +kernel
theorem d_L_firstReadingFrom_30 : decode c_L_firstReadingFrom 30 = .ok (.invokevirtual 31, 3) := by decide +kernel
theorem d_L_firstReadingFrom_33 : decode c_L_firstReadingFrom 33 = .ok (.ifCond .eq 10, 3) := by decide +kernel
theorem d_L_firstReadingFrom_36 : decode c_L_firstReadingFrom 36 = .ok (.aload_n 0, 1) := by decide +kernel
theorem d_L_firstReadingFrom_37 : decode c_L_firstReadingFrom 37 = .ok (.getfield 17, 3) := by decide +kernel
theorem d_L_firstReadingFrom_40 : decode c_L_firstReadingFrom 40 = .ok (.iload_n 3, 1) := by decide +kernel
theorem d_L_firstReadingFrom_41 : decode c_L_firstReadingFrom 41 = .ok (.aaload, 1) := by decide +kernel
theorem d_L_firstReadingFrom_42 : decode c_L_firstReadingFrom 42 = .ok (.areturn, 1) := by decide +kernel
theorem d_L_firstReadingFrom_43 : decode c_L_firstReadingFrom 43 = .ok (.iinc 3 1, 3) := by decide +kernel
theorem d_L_firstReadingFrom_46 : decode c_L_firstReadingFrom 46 = .ok (.goto (-44), 3) := by decide +kernel
theorem d_L_firstReadingFrom_49 : decode c_L_firstReadingFrom 49 = .ok (.aconst_null, 1) := by decide +kernel
theorem d_L_firstReadingFrom_50 : decode c_L_firstReadingFrom 50 = .ok (.areturn, 1) := by decide +kernel
theorem d_J_floorDiv_0 : decode c_J_floorDiv 0 = .ok (.iload_n 0, 1) := by decide +kernel
theorem d_J_floorDiv_1 : decode c_J_floorDiv 1 = .ok (.iload_n 1, 1) := by decide +kernel
theorem d_J_floorDiv_2 : decode c_J_floorDiv 2 = .ok (.idiv, 1) := by decide +kernel
theorem d_J_floorDiv_3 : decode c_J_floorDiv 3 = .ok (.istore_n 2, 1) := by decide +kernel
theorem d_J_floorDiv_4 : decode c_J_floorDiv 4 = .ok (.iload_n 0, 1) := by decide +kernel
theorem d_J_floorDiv_5 : decode c_J_floorDiv 5 = .ok (.iload_n 1, 1) := by decide +kernel
theorem d_J_floorDiv_6 : decode c_J_floorDiv 6 = .ok (.ixor, 1) := by decide +kernel
theorem d_J_floorDiv_7 : decode c_J_floorDiv 7 = .ok (.ifCond .ge 14, 3) := by decide +kernel
theorem d_J_floorDiv_10 : decode c_J_floorDiv 10 = .ok (.iload_n 2, 1) := by decide +kernel
theorem d_J_floorDiv_11 : decode c_J_floorDiv 11 = .ok (.iload_n 1, 1) := by decide +kernel
theorem d_J_floorDiv_12 : decode c_J_floorDiv 12 = .ok (.imul, 1) := by decide +kernel
theorem d_J_floorDiv_13 : decode c_J_floorDiv 13 = .ok (.iload_n 0, 1) := by decide +kernel
theorem d_J_floorDiv_14 : decode c_J_floorDiv 14 = .ok (.if_icmp .eq 7, 3) := by decide +kernel
theorem d_J_floorDiv_17 : decode c_J_floorDiv 17 = .ok (.iload_n 2, 1) := by decide +kernel
theorem d_J_floorDiv_18 : decode c_J_floorDiv 18 = .ok (.iconst 1, 1) := by decide +kernel
theorem d_J_floorDiv_19 : decode c_J_floorDiv 19 = .ok (.isub, 1) := by decide +kernel
theorem d_J_floorDiv_20 : decode c_J_floorDiv 20 = .ok (.ireturn, 1) := by decide +kernel
theorem d_J_floorDiv_21 : decode c_J_floorDiv 21 = .ok (.iload_n 2, 1) := by decide +kernel
theorem d_J_floorDiv_22 : decode c_J_floorDiv 22 = .ok (.ireturn, 1) := by decide +kernel
theorem d_S_begin_0 : decode c_S_begin 0 = .ok (.aload_n 0, 1) := by decide +kernel
theorem d_S_begin_1 : decode c_S_begin 1 = .ok (.iconst 0, 1) := by decide +kernel
theorem d_S_begin_2 : decode c_S_begin 2 = .ok (.putfield 15, 3) := by decide +kernel
theorem d_S_begin_5 : decode c_S_begin 5 = .ok (.aload_n 0, 1) := by decide +kernel
theorem d_S_begin_6 : decode c_S_begin 6 = .ok (.bipush 84, 2) := by decide +kernel
theorem d_S_begin_8 : decode c_S_begin 8 = .ok (.iload_n 1, 1) := by decide +kernel
theorem d_S_begin_9 : decode c_S_begin 9 = .ok (.invokevirtual 19, 3) := by decide +kernel
theorem d_S_begin_12 : decode c_S_begin 12 = .ok (.aload_n 0, 1) := by decide +kernel
theorem d_S_begin_13 : decode c_S_begin 13 = .ok (.bipush 59, 2) := by decide +kernel
theorem d_S_begin_15 : decode c_S_begin 15 = .ok (.invokevirtual 23, 3) := by decide +kernel
theorem d_S_begin_18 : decode c_S_begin 18 = .ok (.return_, 1) := by decide +kernel
theorem d_S_putNumber_0 : decode c_S_putNumber 0 = .ok (.aload_n 0, 1) := by decide +kernel
theorem d_S_putNumber_1 : decode c_S_putNumber 1 = .ok (.iload_n 1, 1) := by decide +kernel
theorem d_S_putNumber_2 : decode c_S_putNumber 2 = .ok (.invokevirtual 23, 3) := by decide +kernel
theorem d_S_putNumber_5 : decode c_S_putNumber 5 = .ok (.aload_n 0, 1) := by decide +kernel
theorem d_S_putNumber_6 : decode c_S_putNumber 6 = .ok (.iload_n 2, 1) := by decide +kernel
theorem d_S_putNumber_7 : decode c_S_putNumber 7 = .ok (.invokevirtual 32, 3) := by decide +kernel
theorem d_S_putNumber_10 : decode c_S_putNumber 10 = .ok (.return_, 1) := by decide +kernel
theorem d_S_put_0 : decode c_S_put 0 = .ok (.aload_n 0, 1) := by decide +kernel
theorem d_S_put_1 : decode c_S_put 1 = .ok (.getfield 15, 3) := by decide +kernel
theorem d_S_put_4 : decode c_S_put 4 = .ok (.aload_n 0, 1) := by decide +kernel
theorem d_S_put_5 : decode c_S_put 5 = .ok (.getfield 11, 3) := by decide +kernel
theorem d_S_put_8 : decode c_S_put 8 = .ok (.arraylength, 1) := by decide +kernel
theorem d_S_put_9 : decode c_S_put 9 = .ok (.if_icmp .ge 24, 3) := by decide +kernel
theorem d_S_put_12 : decode c_S_put 12 = .ok (.aload_n 0, 1) := by decide +kernel
theorem d_S_put_13 : decode c_S_put 13 = .ok (.getfield 11, 3) := by decide +kernel
theorem d_S_put_16 : decode c_S_put 16 = .ok (.aload_n 0, 1) := by decide +kernel
theorem d_S_put_17 : decode c_S_put 17 = .ok (.getfield 15, 3) := by decide +kernel
theorem d_S_put_20 : decode c_S_put 20 = .ok (.iload_n 1, 1) := by decide +kernel
theorem d_S_put_21 : decode c_S_put 21 = .ok (.i2b, 1) := by decide +kernel
theorem d_S_put_22 : decode c_S_put 22 = .ok (.bastore, 1) := by decide +kernel
theorem d_S_put_23 : decode c_S_put 23 = .ok (.aload_n 0, 1) := by decide +kernel
theorem d_S_put_24 : decode c_S_put 24 = .ok (.dup, 1) := by decide +kernel
theorem d_S_put_25 : decode c_S_put 25 = .ok (.getfield 15, 3) := by decide +kernel
theorem d_S_put_28 : decode c_S_put 28 = .ok (.iconst 1, 1) := by decide +kernel
theorem d_S_put_29 : decode c_S_put 29 = .ok (.iadd, 1) := by decide +kernel
theorem d_S_put_30 : decode c_S_put 30 = .ok (.putfield 15, 3) := by decide +kernel
theorem d_S_put_33 : decode c_S_put 33 = .ok (.return_, 1) := by decide +kernel
theorem d_S_putDigits_0 : decode c_S_putDigits 0 = .ok (.sipush 10000, 3) := by decide +kernel
theorem d_S_putDigits_3 : decode c_S_putDigits 3 = .ok (.istore_n 2, 1) := by decide +kernel
theorem d_S_putDigits_4 : decode c_S_putDigits 4 = .ok (.iload_n 2, 1) := by decide +kernel
theorem d_S_putDigits_5 : decode c_S_putDigits 5 = .ok (.iconst 1, 1) := by decide +kernel
theorem d_S_putDigits_6 : decode c_S_putDigits 6 = .ok (.if_icmp .le 16, 3) := by decide +kernel
theorem d_S_putDigits_9 : decode c_S_putDigits 9 = .ok (.iload_n 2, 1) := by decide +kernel
theorem d_S_putDigits_10 : decode c_S_putDigits 10 = .ok (.iload_n 1, 1) := by decide +kernel
theorem d_S_putDigits_11 : decode c_S_putDigits 11 = .ok (.if_icmp .le 11, 3) := by decide +kernel
theorem d_S_putDigits_14 : decode c_S_putDigits 14 = .ok (.iload_n 2, 1) := by decide +kernel
theorem d_S_putDigits_15 : decode c_S_putDigits 15 = .ok (.bipush 10, 2) := by decide +kernel
theorem d_S_putDigits_17 : decode c_S_putDigits 17 = .ok (.idiv, 1) := by decide +kernel
theorem d_S_putDigits_18 : decode c_S_putDigits 18 = .ok (.istore_n 2, 1) := by decide +kernel
theorem d_S_putDigits_19 : decode c_S_putDigits 19 = .ok (.goto (-15), 3) := by decide +kernel
theorem d_S_putDigits_22 : decode c_S_putDigits 22 = .ok (.iload_n 2, 1) := by decide +kernel
theorem d_S_putDigits_23 : decode c_S_putDigits 23 = .ok (.ifCond .le 25, 3) := by decide +kernel
theorem d_S_putDigits_26 : decode c_S_putDigits 26 = .ok (.aload_n 0, 1) := by decide +kernel
theorem d_S_putDigits_27 : decode c_S_putDigits 27 = .ok (.bipush 48, 2) := by decide +kernel
theorem d_S_putDigits_29 : decode c_S_putDigits 29 = .ok (.iload_n 1, 1) := by decide +kernel
theorem d_S_putDigits_30 : decode c_S_putDigits 30 = .ok (.iload_n 2, 1) := by decide +kernel
theorem d_S_putDigits_31 : decode c_S_putDigits 31 = .ok (.idiv, 1) := by decide +kernel
theorem d_S_putDigits_32 : decode c_S_putDigits 32 = .ok (.bipush 10, 2) := by decide +kernel
theorem d_S_putDigits_34 : decode c_S_putDigits 34 = .ok (.irem, 1) := by decide +kernel
theorem d_S_putDigits_35 : decode c_S_putDigits 35 = .ok (.iadd, 1) := by decide +kernel
theorem d_S_putDigits_36 : decode c_S_putDigits 36 = .ok (.i2c, 1) := by decide +kernel
theorem d_S_putDigits_37 : decode c_S_putDigits 37 = .ok (.invokevirtual 23, 3) := by decide +kernel
theorem d_S_putDigits_40 : decode c_S_putDigits 40 = .ok (.iload_n 2, 1) := by decide +kernel
theorem d_S_putDigits_41 : decode c_S_putDigits 41 = .ok (.bipush 10, 2) := by decide +kernel
theorem d_S_putDigits_43 : decode c_S_putDigits 43 = .ok (.idiv, 1) := by decide +kernel
theorem d_S_putDigits_44 : decode c_S_putDigits 44 = .ok (.istore_n 2, 1) := by decide +kernel
theorem d_S_putDigits_45 : decode c_S_putDigits 45 = .ok (.goto (-23), 3) := by decide +kernel
theorem d_S_putDigits_48 : decode c_S_putDigits 48 = .ok (.return_, 1) := by decide +kernel
theorem d_S_putRow_0 : decode c_S_putRow 0 = .ok (.aload_n 0, 1) := by decide +kernel
theorem d_S_putRow_1 : decode c_S_putRow 1 = .ok (.aload_n 1, 1) := by decide +kernel
theorem d_S_putRow_2 : decode c_S_putRow 2 = .ok (.getfield 27, 3) := by decide +kernel
theorem d_S_putRow_5 : decode c_S_putRow 5 = .ok (.invokevirtual 32, 3) := by decide +kernel
theorem d_S_putRow_8 : decode c_S_putRow 8 = .ok (.aload_n 0, 1) := by decide +kernel
theorem d_S_putRow_9 : decode c_S_putRow 9 = .ok (.bipush 58, 2) := by decide +kernel
theorem d_S_putRow_11 : decode c_S_putRow 11 = .ok (.invokevirtual 23, 3) := by decide +kernel
theorem d_S_putRow_14 : decode c_S_putRow 14 = .ok (.aload_n 0, 1) := by decide +kernel
theorem d_S_putRow_15 : decode c_S_putRow 15 = .ok (.bipush 119, 2) := by decide +kernel
theorem d_S_putRow_17 : decode c_S_putRow 17 = .ok (.aload_n 1, 1) := by decide +kernel
theorem d_S_putRow_18 : decode c_S_putRow 18 = .ok (.getfield 36, 3) := by decide +kernel
theorem d_S_putRow_21 : decode c_S_putRow 21 = .ok (.invokevirtual 19, 3) := by decide +kernel
theorem d_S_putRow_24 : decode c_S_putRow 24 = .ok (.aload_n 0, 1) := by decide +kernel
theorem d_S_putRow_25 : decode c_S_putRow 25 = .ok (.bipush 107, 2) := by decide +kernel
theorem d_S_putRow_27 : decode c_S_putRow 27 = .ok (.aload_n 1, 1) := by decide +kernel
theorem d_S_putRow_28 : decode c_S_putRow 28 = .ok (.getfield 39, 3) := by decide +kernel
theorem d_S_putRow_31 : decode c_S_putRow 31 = .ok (.invokevirtual 19, 3) := by decide +kernel
theorem d_S_putRow_34 : decode c_S_putRow 34 = .ok (.aload_n 0, 1) := by decide +kernel
theorem d_S_putRow_35 : decode c_S_putRow 35 = .ok (.bipush 115, 2) := by decide +kernel
theorem d_S_putRow_37 : decode c_S_putRow 37 = .ok (.aload_n 1, 1) := by decide +kernel
theorem d_S_putRow_38 : decode c_S_putRow 38 = .ok (.getfield 42, 3) := by decide +kernel
theorem d_S_putRow_41 : decode c_S_putRow 41 = .ok (.invokevirtual 19, 3) := by decide +kernel
theorem d_S_putRow_44 : decode c_S_putRow 44 = .ok (.aload_n 0, 1) := by decide +kernel
theorem d_S_putRow_45 : decode c_S_putRow 45 = .ok (.bipush 61, 2) := by decide +kernel
theorem d_S_putRow_47 : decode c_S_putRow 47 = .ok (.invokevirtual 23, 3) := by decide +kernel
theorem d_S_putRow_50 : decode c_S_putRow 50 = .ok (.aload_n 2, 1) := by decide +kernel
theorem d_S_putRow_51 : decode c_S_putRow 51 = .ok (.getfield 45, 3) := by decide +kernel
theorem d_S_putRow_54 : decode c_S_putRow 54 = .ok (.ifCond .ge 9, 3) := by decide +kernel
theorem d_S_putRow_57 : decode c_S_putRow 57 = .ok (.aload_n 0, 1) := by decide +kernel
theorem d_S_putRow_58 : decode c_S_putRow 58 = .ok (.bipush 45, 2) := by decide +kernel
theorem d_S_putRow_60 : decode c_S_putRow 60 = .ok (.invokevirtual 23, 3) := by decide +kernel
theorem d_S_putRow_63 : decode c_S_putRow 63 = .ok (.aload_n 0, 1) := by decide +kernel
theorem d_S_putRow_64 : decode c_S_putRow 64 = .ok (.aload_n 2, 1) := by decide +kernel
theorem d_S_putRow_65 : decode c_S_putRow 65 = .ok (.getfield 45, 3) := by decide +kernel
theorem d_S_putRow_68 : decode c_S_putRow 68 = .ok (.invokestatic 50, 3) := by decide +kernel
theorem d_S_putRow_71 : decode c_S_putRow 71 = .ok (.invokevirtual 32, 3) := by decide +kernel
theorem d_S_putRow_74 : decode c_S_putRow 74 = .ok (.aload_n 2, 1) := by decide +kernel
theorem d_S_putRow_75 : decode c_S_putRow 75 = .ok (.getfield 56, 3) := by decide +kernel
theorem d_S_putRow_78 : decode c_S_putRow 78 = .ok (.ifCond .eq 9, 3) := by decide +kernel
theorem d_S_putRow_81 : decode c_S_putRow 81 = .ok (.aload_n 0, 1) := by decide +kernel
theorem d_S_putRow_82 : decode c_S_putRow 82 = .ok (.bipush 120, 2) := by decide +kernel
theorem d_S_putRow_84 : decode c_S_putRow 84 = .ok (.invokevirtual 23, 3) := by decide +kernel
theorem d_S_putRow_87 : decode c_S_putRow 87 = .ok (.aload_n 0, 1) := by decide +kernel
theorem d_S_putRow_88 : decode c_S_putRow 88 = .ok (.bipush 59, 2) := by decide +kernel
theorem d_S_putRow_90 : decode c_S_putRow 90 = .ok (.invokevirtual 23, 3) := by decide +kernel
theorem d_S_putRow_93 : decode c_S_putRow 93 = .ok (.return_, 1) := by decide +kernel
theorem d_J_abs_0 : decode c_J_abs 0 = .ok (.iload_n 0, 1) := by decide +kernel
theorem d_J_abs_1 : decode c_J_abs 1 = .ok (.ifCond .ge 8, 3) := by decide +kernel
theorem d_J_abs_4 : decode c_J_abs 4 = .ok (.iload_n 0, 1) := by decide +kernel
theorem d_J_abs_5 : decode c_J_abs 5 = .ok (.ineg, 1) := by decide +kernel
theorem d_J_abs_6 : decode c_J_abs 6 = .ok (.goto 4, 3) := by decide +kernel
theorem d_J_abs_9 : decode c_J_abs 9 = .ok (.iload_n 0, 1) := by decide +kernel
theorem d_J_abs_10 : decode c_J_abs 10 = .ok (.ireturn, 1) := by decide +kernel
theorem d_L_howManyStruck_0 : decode c_L_howManyStruck 0 = .ok (.iconst 0, 1) := by decide +kernel
theorem d_L_howManyStruck_1 : decode c_L_howManyStruck 1 = .ok (.istore_n 1, 1) := by decide +kernel
theorem d_L_howManyStruck_2 : decode c_L_howManyStruck 2 = .ok (.iconst 0, 1) := by decide +kernel
theorem d_L_howManyStruck_3 : decode c_L_howManyStruck 3 = .ok (.istore_n 2, 1) := by decide +kernel
theorem d_L_howManyStruck_4 : decode c_L_howManyStruck 4 = .ok (.iload_n 2, 1) := by decide +kernel
theorem d_L_howManyStruck_5 : decode c_L_howManyStruck 5 = .ok (.aload_n 0, 1) := by decide +kernel
theorem d_L_howManyStruck_6 : decode c_L_howManyStruck 6 = .ok (.getfield 20, 3) := by decide +kernel
theorem d_L_howManyStruck_9 : decode c_L_howManyStruck 9 = .ok (.if_icmp .ge 27, 3) := by decide +kernel
theorem d_L_howManyStruck_12 : decode c_L_howManyStruck 12 = .ok (.aload_n 0, 1) := by decide +kernel
theorem d_L_howManyStruck_13 : decode c_L_howManyStruck 13 = .ok (.getfield 11, 3) := by decide +kernel
theorem d_L_howManyStruck_16 : decode c_L_howManyStruck 16 = .ok (.iload_n 2, 1) := by decide +kernel
theorem d_L_howManyStruck_17 : decode c_L_howManyStruck 17 = .ok (.aaload, 1) := by decide +kernel
theorem d_L_howManyStruck_18 : decode c_L_howManyStruck 18 = .ok (.getfield 35, 3) := by decide +kernel
theorem d_L_howManyStruck_21 : decode c_L_howManyStruck 21 = .ok (.getfield 39, 3) := by decide +kernel
theorem d_L_howManyStruck_24 : decode c_L_howManyStruck 24 = .ok (.ifCond .eq 6, 3) := by decide +kernel
theorem d_L_howManyStruck_27 : decode c_L_howManyStruck 27 = .ok (.iinc 1 1, 3) := by decide +kernel
theorem d_L_howManyStruck_30 : decode c_L_howManyStruck 30 = .ok (.iinc 2 1, 3) := by decide +kernel
theorem d_L_howManyStruck_33 : decode c_L_howManyStruck 33 = .ok (.goto (-29), 3) := by decide +kernel
theorem d_L_howManyStruck_36 : decode c_L_howManyStruck 36 = .ok (.iload_n 1, 1) := by decide +kernel
theorem d_L_howManyStruck_37 : decode c_L_howManyStruck 37 = .ok (.ireturn, 1) := by decide +kernel
theorem d_L_howManyWrittenLater_0 : decode c_L_howManyWrittenLater 0 = .ok (.iconst 0, 1) := by decide +kernel
theorem d_L_howManyWrittenLater_1 : decode c_L_howManyWrittenLater 1 = .ok (.istore_n 1, 1) := by decide +kernel
theorem d_L_howManyWrittenLater_2 : decode c_L_howManyWrittenLater 2 = .ok (.iconst 0, 1) := by decide +kernel
theorem d_L_howManyWrittenLater_3 : decode c_L_howManyWrittenLater 3 = .ok (.istore_n 2, 1) := by decide +kernel
theorem d_L_howManyWrittenLater_4 : decode c_L_howManyWrittenLater 4 = .ok (.iload_n 2, 1) := by decide +kernel
theorem d_L_howManyWrittenLater_5 : decode c_L_howManyWrittenLater 5 = .ok (.aload_n 0, 1) := by decide +kernel
theorem d_L_howManyWrittenLater_6 : decode c_L_howManyWrittenLater 6 = .ok (.getfield 20, 3) := by decide +kernel
theorem d_L_howManyWrittenLater_9 : decode c_L_howManyWrittenLater 9 = .ok (.if_icmp .ge 36, 3) := by decide +kernel
theorem d_L_howManyWrittenLater_12 : decode c_L_howManyWrittenLater 12 = .ok (.aload_n 0, 1) := by decide +kernel
theorem d_L_howManyWrittenLater_13 : decode c_L_howManyWrittenLater 13 = .ok (.getfield 11, 3) := by decide +kernel
theorem d_L_howManyWrittenLater_16 : decode c_L_howManyWrittenLater 16 = .ok (.iload_n 2, 1) := by decide +kernel
theorem d_L_howManyWrittenLater_17 : decode c_L_howManyWrittenLater 17 = .ok (.aaload, 1) := by decide +kernel
theorem d_L_howManyWrittenLater_18 : decode c_L_howManyWrittenLater 18 = .ok (.getfield 45, 3) := by decide +kernel
theorem d_L_howManyWrittenLater_21 : decode c_L_howManyWrittenLater 21 = .ok (.getfield 48, 3) := by decide +kernel
theorem d_L_howManyWrittenLater_24 : decode c_L_howManyWrittenLater 24 = .ok (.aload_n 0, 1) := by decide +kernel
theorem d_L_howManyWrittenLater_25 : decode c_L_howManyWrittenLater 25 = .ok (.getfield 11, 3) := by decide +kernel
theorem d_L_howManyWrittenLater_28 : decode c_L_howManyWrittenLater 28 = .ok (.iload_n 2, 1) := by decide +kernel
theorem d_L_howManyWrittenLater_29 : decode c_L_howManyWrittenLater 29 = .ok (.aaload, 1) := by decide +kernel
theorem d_L_howManyWrittenLater_30 : decode c_L_howManyWrittenLater 30 = .ok (.getfield 28, 3) := by decide +kernel
theorem d_L_howManyWrittenLater_33 : decode c_L_howManyWrittenLater 33 = .ok (.if_icmp .le 6, 3) := by decide +kernel
theorem d_L_howManyWrittenLater_36 : decode c_L_howManyWrittenLater 36 = .ok (.iinc 1 1, 3) := by decide +kernel
theorem d_L_howManyWrittenLater_39 : decode c_L_howManyWrittenLater 39 = .ok (.iinc 2 1, 3) := by decide +kernel
theorem d_L_howManyWrittenLater_42 : decode c_L_howManyWrittenLater 42 = .ok (.goto (-38), 3) := by decide +kernel
theorem d_L_howManyWrittenLater_45 : decode c_L_howManyWrittenLater 45 = .ok (.iload_n 1, 1) := by decide +kernel
theorem d_L_howManyWrittenLater_46 : decode c_L_howManyWrittenLater 46 = .ok (.ireturn, 1) := by decide +kernel
