/-! decode rows, by program -/
theorem dC_of_0 : decode cC_of 0 = .ok (.iconst 0, 1) := by decide +kernel
theorem dC_of_1 : decode cC_of 1 = .ok (.istore_n 1, 1) := by decide +kernel
theorem dC_of_2 : decode cC_of 2 = .ok (.aload_n 0, 1) := by decide +kernel
theorem dC_of_3 : decode cC_of 3 = .ok (.getfield 11, 3) := by decide +kernel
theorem dC_of_6 : decode cC_of 6 = .ok (.astore_n 2, 1) := by decide +kernel
theorem dC_of_7 : decode cC_of 7 = .ok (.aload_n 2, 1) := by decide +kernel
theorem dC_of_8 : decode cC_of 8 = .ok (.arraylength, 1) := by decide +kernel
theorem dC_of_9 : decode cC_of 9 = .ok (.istore_n 3, 1) := by decide +kernel
theorem dC_of_10 : decode cC_of 10 = .ok (.iconst 0, 1) := by decide +kernel
theorem dC_of_11 : decode cC_of 11 = .ok (.istore 4, 2) := by decide +kernel
theorem dC_of_13 : decode cC_of 13 = .ok (.iload 4, 2) := by decide +kernel
theorem dC_of_15 : decode cC_of 15 = .ok (.iload_n 3, 1) := by decide +kernel
theorem dC_of_16 : decode cC_of 16 = .ok (.if_icmp .ge 24, 3) := by decide +kernel
theorem dC_of_19 : decode cC_of 19 = .ok (.aload_n 2, 1) := by decide +kernel
theorem dC_of_20 : decode cC_of 20 = .ok (.iload 4, 2) := by decide +kernel
theorem dC_of_22 : decode cC_of 22 = .ok (.iaload, 1) := by decide +kernel
theorem dC_of_23 : decode cC_of 23 = .ok (.istore 5, 2) := by decide +kernel
theorem dC_of_25 : decode cC_of 25 = .ok (.iload_n 1, 1) := by decide +kernel
theorem dC_of_26 : decode cC_of 26 = .ok (.iconst 3, 1) := by decide +kernel
theorem dC_of_27 : decode cC_of 27 = .ok (.ishl, 1) := by decide +kernel
theorem dC_of_28 : decode cC_of 28 = .ok (.iload 5, 2) := by decide +kernel
theorem dC_of_30 : decode cC_of 30 = .ok (.iconst (-1), 1) := by decide +kernel
theorem dC_of_31 : decode cC_of 31 = .ok (.isub, 1) := by decide +kernel
theorem dC_of_32 : decode cC_of 32 = .ok (.ior, 1) := by decide +kernel
theorem dC_of_33 : decode cC_of 33 = .ok (.istore_n 1, 1) := by decide +kernel
theorem dC_of_34 : decode cC_of 34 = .ok (.iinc 4 1, 3) := by decide +kernel
theorem dC_of_37 : decode cC_of 37 = .ok (.goto (-24), 3) := by decide +kernel
theorem dC_of_40 : decode cC_of 40 = .ok (.iload_n 1, 1) := by decide +kernel
theorem dC_of_41 : decode cC_of 41 = .ok (.ireturn, 1) := by decide +kernel
theorem dC_kept_0 : decode cC_kept 0 = .ok (.iconst 0, 1) := by decide +kernel
theorem dC_kept_1 : decode cC_kept 1 = .ok (.istore_n 2, 1) := by decide +kernel
theorem dC_kept_2 : decode cC_kept 2 = .ok (.iconst 0, 1) := by decide +kernel
theorem dC_kept_3 : decode cC_kept 3 = .ok (.istore_n 3, 1) := by decide +kernel
theorem dC_kept_4 : decode cC_kept 4 = .ok (.iload_n 3, 1) := by decide +kernel
theorem dC_kept_5 : decode cC_kept 5 = .ok (.iconst 3, 1) := by decide +kernel
theorem dC_kept_6 : decode cC_kept 6 = .ok (.if_icmp .ge 18, 3) := by decide +kernel
theorem dC_kept_9 : decode cC_kept 9 = .ok (.iload_n 2, 1) := by decide +kernel
theorem dC_kept_10 : decode cC_kept 10 = .ok (.iload_n 3, 1) := by decide +kernel
theorem dC_kept_11 : decode cC_kept 11 = .ok (.iload_n 0, 1) := by decide +kernel
theorem dC_kept_12 : decode cC_kept 12 = .ok (.iload_n 1, 1) := by decide +kernel
theorem dC_kept_13 : decode cC_kept 13 = .ok (.invokestatic 17, 3) := by decide +kernel
theorem dC_kept_16 : decode cC_kept 16 = .ok (.iadd, 1) := by decide +kernel
theorem dC_kept_17 : decode cC_kept 17 = .ok (.istore_n 2, 1) := by decide +kernel
theorem dC_kept_18 : decode cC_kept 18 = .ok (.iinc 3 1, 3) := by decide +kernel
theorem dC_kept_21 : decode cC_kept 21 = .ok (.goto (-17), 3) := by decide +kernel
theorem dC_kept_24 : decode cC_kept 24 = .ok (.iload_n 2, 1) := by decide +kernel
theorem dC_kept_25 : decode cC_kept 25 = .ok (.ireturn, 1) := by decide +kernel
theorem dC_keptIn_0 : decode cC_keptIn 0 = .ok (.iconst 0, 1) := by decide +kernel
theorem dC_keptIn_1 : decode cC_keptIn 1 = .ok (.istore_n 3, 1) := by decide +kernel
theorem dC_keptIn_2 : decode cC_keptIn 2 = .ok (.iload_n 3, 1) := by decide +kernel
theorem dC_keptIn_3 : decode cC_keptIn 3 = .ok (.iconst 3, 1) := by decide +kernel
theorem dC_keptIn_4 : decode cC_keptIn 4 = .ok (.if_icmp .ge 36, 3) := by decide +kernel
theorem dC_keptIn_7 : decode cC_keptIn 7 = .ok (.iload_n 1, 1) := by decide +kernel
theorem dC_keptIn_8 : decode cC_keptIn 8 = .ok (.iload_n 0, 1) := by decide +kernel
theorem dC_keptIn_9 : decode cC_keptIn 9 = .ok (.iload_n 3, 1) := by decide +kernel
theorem dC_keptIn_10 : decode cC_keptIn 10 = .ok (.invokestatic 21, 3) := by decide +kernel
theorem dC_keptIn_13 : decode cC_keptIn 13 = .ok (.istore 4, 2) := by decide +kernel
theorem dC_keptIn_15 : decode cC_keptIn 15 = .ok (.iload 4, 2) := by decide +kernel
theorem dC_keptIn_17 : decode cC_keptIn 17 = .ok (.iconst (-1), 1) := by decide +kernel
theorem dC_keptIn_18 : decode cC_keptIn 18 = .ok (.if_icmp .eq 14, 3) := by decide +kernel
theorem dC_keptIn_21 : decode cC_keptIn 21 = .ok (.iload 4, 2) := by decide +kernel
theorem dC_keptIn_23 : decode cC_keptIn 23 = .ok (.iload_n 2, 1) := by decide +kernel
theorem dC_keptIn_24 : decode cC_keptIn 24 = .ok (.iload_n 0, 1) := by decide +kernel
theorem dC_keptIn_25 : decode cC_keptIn 25 = .ok (.iload_n 3, 1) := by decide +kernel
theorem dC_keptIn_26 : decode cC_keptIn 26 = .ok (.invokestatic 21, 3) := by decide +kernel
theorem dC_keptIn_29 : decode cC_keptIn 29 = .ok (.if_icmp .eq 5, 3) := by decide +kernel
theorem dC_keptIn_32 : decode cC_keptIn 32 = .ok (.iload_n 3, 1) := by decide +kernel
theorem dC_keptIn_33 : decode cC_keptIn 33 = .ok (.ireturn, 1) := by decide +kernel
theorem dC_keptIn_34 : decode cC_keptIn 34 = .ok (.iinc 3 1, 3) := by decide +kernel
theorem dC_keptIn_37 : decode cC_keptIn 37 = .ok (.goto (-35), 3) := by decide +kernel
theorem dC_keptIn_40 : decode cC_keptIn 40 = .ok (.iconst 3, 1) := by decide +kernel
theorem dC_keptIn_41 : decode cC_keptIn 41 = .ok (.ireturn, 1) := by decide +kernel
theorem dC_boxIn_0 : decode cC_boxIn 0 = .ok (.bipush 8, 2) := by decide +kernel
theorem dC_boxIn_2 : decode cC_boxIn 2 = .ok (.iload_n 1, 1) := by decide +kernel
theorem dC_boxIn_3 : decode cC_boxIn 3 = .ok (.iconst 3, 1) := by decide +kernel
theorem dC_boxIn_4 : decode cC_boxIn 4 = .ok (.imul, 1) := by decide +kernel
theorem dC_boxIn_5 : decode cC_boxIn 5 = .ok (.isub, 1) := by decide +kernel
theorem dC_boxIn_6 : decode cC_boxIn 6 = .ok (.iload_n 2, 1) := by decide +kernel
theorem dC_boxIn_7 : decode cC_boxIn 7 = .ok (.isub, 1) := by decide +kernel
theorem dC_boxIn_8 : decode cC_boxIn 8 = .ok (.istore_n 3, 1) := by decide +kernel
theorem dC_boxIn_9 : decode cC_boxIn 9 = .ok (.iload_n 0, 1) := by decide +kernel
theorem dC_boxIn_10 : decode cC_boxIn 10 = .ok (.iload_n 3, 1) := by decide +kernel
theorem dC_boxIn_11 : decode cC_boxIn 11 = .ok (.iconst 3, 1) := by decide +kernel
theorem dC_boxIn_12 : decode cC_boxIn 12 = .ok (.imul, 1) := by decide +kernel
theorem dC_boxIn_13 : decode cC_boxIn 13 = .ok (.ishr, 1) := by decide +kernel
theorem dC_boxIn_14 : decode cC_boxIn 14 = .ok (.bipush 7, 2) := by decide +kernel
theorem dC_boxIn_16 : decode cC_boxIn 16 = .ok (.iand, 1) := by decide +kernel
theorem dC_boxIn_17 : decode cC_boxIn 17 = .ok (.iconst (-1), 1) := by decide +kernel
theorem dC_boxIn_18 : decode cC_boxIn 18 = .ok (.iadd, 1) := by decide +kernel
theorem dC_boxIn_19 : decode cC_boxIn 19 = .ok (.ireturn, 1) := by decide +kernel
theorem dC_heightOf_0 : decode cC_heightOf 0 = .ok (.iload_n 1, 1) := by decide +kernel
theorem dC_heightOf_1 : decode cC_heightOf 1 = .ok (.iload_n 0, 1) := by decide +kernel
theorem dC_heightOf_2 : decode cC_heightOf 2 = .ok (.iload_n 0, 1) := by decide +kernel
theorem dC_heightOf_3 : decode cC_heightOf 3 = .ok (.invokestatic 17, 3) := by decide +kernel
theorem dC_heightOf_6 : decode cC_heightOf 6 = .ok (.ireturn, 1) := by decide +kernel
theorem dT_init_0 : decode cT_init 0 = .ok (.aload_n 0, 1) := by decide +kernel
theorem dT_init_1 : decode cT_init 1 = .ok (.invokespecial 3, 3) := by decide +kernel
theorem dT_init_4 : decode cT_init 4 = .ok (.aload_n 0, 1) := by decide +kernel
theorem dT_init_5 : decode cT_init 5 = .ok (.bipush 30, 2) := by decide +kernel
theorem dT_init_7 : decode cT_init 7 = .ok (.newarray .int, 2) := by decide +kernel
theorem dT_init_9 : decode cT_init 9 = .ok (.putfield 11, 3) := by decide +kernel
theorem dT_init_12 : decode cT_init 12 = .ok (.aload_n 0, 1) := by decide +kernel
theorem dT_init_13 : decode cT_init 13 = .ok (.bipush 30, 2) := by decide +kernel
theorem dT_init_15 : decode cT_init 15 = .ok (.newarray .int, 2) := by decide +kernel
theorem dT_init_17 : decode cT_init 17 = .ok (.putfield 15, 3) := by decide +kernel
theorem dT_init_20 : decode cT_init 20 = .ok (.aload_n 0, 1) := by decide +kernel
theorem dT_init_21 : decode cT_init 21 = .ok (.bipush 30, 2) := by decide +kernel
theorem dT_init_23 : decode cT_init 23 = .ok (.newarray .int, 2) := by decide +kernel
theorem dT_init_25 : decode cT_init 25 = .ok (.putfield 18, 3) := by decide +kernel
theorem dT_init_28 : decode cT_init 28 = .ok (.aload_n 0, 1) := by decide +kernel
theorem dT_init_29 : decode cT_init 29 = .ok (.bipush 30, 2) := by decide +kernel
theorem dT_init_31 : decode cT_init 31 = .ok (.newarray .int, 2) := by decide +kernel
theorem dT_init_33 : decode cT_init 33 = .ok (.putfield 21, 3) := by decide +kernel
theorem dT_init_36 : decode cT_init 36 = .ok (.return_, 1) := by decide +kernel
theorem dT_clear_0 : decode cT_clear 0 = .ok (.aload_n 0, 1) := by decide +kernel
theorem dT_clear_1 : decode cT_clear 1 = .ok (.iconst 0, 1) := by decide +kernel
theorem dT_clear_2 : decode cT_clear 2 = .ok (.putfield 24, 3) := by decide +kernel
theorem dT_clear_5 : decode cT_clear 5 = .ok (.return_, 1) := by decide +kernel
theorem dT_add_0 : decode cT_add 0 = .ok (.aload_n 0, 1) := by decide +kernel
theorem dT_add_1 : decode cT_add 1 = .ok (.getfield 24, 3) := by decide +kernel
theorem dT_add_4 : decode cT_add 4 = .ok (.bipush 30, 2) := by decide +kernel
theorem dT_add_6 : decode cT_add 6 = .ok (.if_icmp .ge 54, 3) := by decide +kernel
theorem dT_add_9 : decode cT_add 9 = .ok (.aload_n 0, 1) := by decide +kernel
theorem dT_add_10 : decode cT_add 10 = .ok (.getfield 11, 3) := by decide +kernel
theorem dT_add_13 : decode cT_add 13 = .ok (.aload_n 0, 1) := by decide +kernel
theorem dT_add_14 : decode cT_add 14 = .ok (.getfield 24, 3) := by decide +kernel
theorem dT_add_17 : decode cT_add 17 = .ok (.iload_n 1, 1) := by decide +kernel
theorem dT_add_18 : decode cT_add 18 = .ok (.iastore, 1) := by decide +kernel
theorem dT_add_19 : decode cT_add 19 = .ok (.aload_n 0, 1) := by decide +kernel
theorem dT_add_20 : decode cT_add 20 = .ok (.getfield 15, 3) := by decide +kernel
theorem dT_add_23 : decode cT_add 23 = .ok (.aload_n 0, 1) := by decide +kernel
theorem dT_add_24 : decode cT_add 24 = .ok (.getfield 24, 3) := by decide +kernel
theorem dT_add_27 : decode cT_add 27 = .ok (.iload_n 2, 1) := by decide +kernel
theorem dT_add_28 : decode cT_add 28 = .ok (.iastore, 1) := by decide +kernel
theorem dT_add_29 : decode cT_add 29 = .ok (.aload_n 0, 1) := by decide +kernel
theorem dT_add_30 : decode cT_add 30 = .ok (.getfield 18, 3) := by decide +kernel
theorem dT_add_33 : decode cT_add 33 = .ok (.aload_n 0, 1) := by decide +kernel
theorem dT_add_34 : decode cT_add 34 = .ok (.getfield 24, 3) := by decide +kernel
theorem dT_add_37 : decode cT_add 37 = .ok (.iload_n 3, 1) := by decide +kernel
theorem dT_add_38 : decode cT_add 38 = .ok (.iastore, 1) := by decide +kernel
theorem dT_add_39 : decode cT_add 39 = .ok (.aload_n 0, 1) := by decide +kernel
theorem dT_add_40 : decode cT_add 40 = .ok (.getfield 21, 3) := by decide +kernel
theorem dT_add_43 : decode cT_add 43 = .ok (.aload_n 0, 1) := by decide +kernel
theorem dT_add_44 : decode cT_add 44 = .ok (.getfield 24, 3) := by decide +kernel
theorem dT_add_47 : decode cT_add 47 = .ok (.iload 4, 2) := by decide +kernel
theorem dT_add_49 : decode cT_add 49 = .ok (.iastore, 1) := by decide +kernel
theorem dT_add_50 : decode cT_add 50 = .ok (.aload_n 0, 1) := by decide +kernel
theorem dT_add_51 : decode cT_add 51 = .ok (.dup, 1) := by decide +kernel
theorem dT_add_52 : decode cT_add 52 = .ok (.getfield 24, 3) := by decide +kernel
theorem dT_add_55 : decode cT_add 55 = .ok (.iconst 1, 1) := by decide +kernel
theorem dT_add_56 : decode cT_add 56 = .ok (.iadd, 1) := by decide +kernel
theorem dT_add_57 : decode cT_add 57 = .ok (.putfield 24, 3) := by decide +kernel
theorem dT_add_60 : decode cT_add 60 = .ok (.return_, 1) := by decide +kernel
theorem dT_has_0 : decode cT_has 0 = .ok (.iload_n 1, 1) := by decide +kernel
theorem dT_has_1 : decode cT_has 1 = .ok (.iconst 0, 1) := by decide +kernel
theorem dT_has_2 : decode cT_has 2 = .ok (.aload_n 0, 1) := by decide +kernel
theorem dT_has_3 : decode cT_has 3 = .ok (.getfield 24, 3) := by decide +kernel
theorem dT_has_6 : decode cT_has 6 = .ok (.iconst 1, 1) := by decide +kernel
theorem dT_has_7 : decode cT_has 7 = .ok (.isub, 1) := by decide +kernel
theorem dT_has_8 : decode cT_has 8 = .ok (.invokestatic 28, 3) := by decide +kernel
theorem dT_has_11 : decode cT_has 11 = .ok (.ireturn, 1) := by decide +kernel
theorem dT_putsOn_0 : decode cT_putsOn 0 = .ok (.aload_n 0, 1) := by decide +kernel
theorem dT_putsOn_1 : decode cT_putsOn 1 = .ok (.getfield 21, 3) := by decide +kernel
theorem dT_putsOn_4 : decode cT_putsOn 4 = .ok (.iload_n 1, 1) := by decide +kernel
theorem dT_putsOn_5 : decode cT_putsOn 5 = .ok (.iaload, 1) := by decide +kernel
theorem dT_putsOn_6 : decode cT_putsOn 6 = .ok (.iconst (-1), 1) := by decide +kernel
theorem dT_putsOn_7 : decode cT_putsOn 7 = .ok (.if_icmp .eq 7, 3) := by decide +kernel
theorem dT_putsOn_10 : decode cT_putsOn 10 = .ok (.iconst 1, 1) := by decide +kernel
theorem dT_putsOn_11 : decode cT_putsOn 11 = .ok (.goto 4, 3) := by decide +kernel
theorem dT_putsOn_14 : decode cT_putsOn 14 = .ok (.iconst 0, 1) := by decide +kernel
theorem dT_putsOn_15 : decode cT_putsOn 15 = .ok (.ireturn, 1) := by decide +kernel
theorem dS_init_0 : decode cS_init 0 = .ok (.aload_n 0, 1) := by decide +kernel
theorem dS_init_1 : decode cS_init 1 = .ok (.invokespecial 3, 3) := by decide +kernel
theorem dS_init_4 : decode cS_init 4 = .ok (.aload_n 0, 1) := by decide +kernel
theorem dS_init_5 : decode cS_init 5 = .ok (.iconst 3, 1) := by decide +kernel
theorem dS_init_6 : decode cS_init 6 = .ok (.newarray .boolean, 2) := by decide +kernel
theorem dS_init_8 : decode cS_init 8 = .ok (.putfield 9, 3) := by decide +kernel
theorem dS_init_11 : decode cS_init 11 = .ok (.aload_n 0, 1) := by decide +kernel
theorem dS_init_12 : decode cS_init 12 = .ok (.iconst 5, 1) := by decide +kernel
theorem dS_init_13 : decode cS_init 13 = .ok (.newarray .int, 2) := by decide +kernel
theorem dS_init_15 : decode cS_init 15 = .ok (.putfield 15, 3) := by decide +kernel
theorem dS_init_18 : decode cS_init 18 = .ok (.aload_n 0, 1) := by decide +kernel
theorem dS_init_19 : decode cS_init 19 = .ok (.iconst 5, 1) := by decide +kernel
theorem dS_init_20 : decode cS_init 20 = .ok (.newarray .int, 2) := by decide +kernel
theorem dS_init_22 : decode cS_init 22 = .ok (.putfield 19, 3) := by decide +kernel
theorem dS_init_25 : decode cS_init 25 = .ok (.aload_n 0, 1) := by decide +kernel
theorem dS_init_26 : decode cS_init 26 = .ok (.iconst 5, 1) := by decide +kernel
theorem dS_init_27 : decode cS_init 27 = .ok (.newarray .int, 2) := by decide +kernel
theorem dS_init_29 : decode cS_init 29 = .ok (.putfield 22, 3) := by decide +kernel
theorem dS_init_32 : decode cS_init 32 = .ok (.aload_n 0, 1) := by decide +kernel
theorem dS_init_33 : decode cS_init 33 = .ok (.iconst 5, 1) := by decide +kernel
theorem dS_init_34 : decode cS_init 34 = .ok (.newarray .int, 2) := by decide +kernel
theorem dS_init_36 : decode cS_init 36 = .ok (.putfield 25, 3) := by decide +kernel
theorem dS_init_39 : decode cS_init 39 = .ok (.aload_n 0, 1) := by decide +kernel
theorem dS_init_40 : decode cS_init 40 = .ok (.iconst 5, 1) := by decide +kernel
theorem dS_init_41 : decode cS_init 41 = .ok (.newarray .boolean, 2) := by decide +kernel
theorem dS_init_43 : decode cS_init 43 = .ok (.putfield 28, 3) := by decide +kernel
theorem dS_init_46 : decode cS_init 46 = .ok (.return_, 1) := by decide +kernel
theorem dS_refit_0 : decode cS_refit 0 = .ok (.aload_n 0, 1) := by decide +kernel
theorem dS_refit_1 : decode cS_refit 1 = .ok (.iload_n 1, 1) := by decide +kernel
theorem dS_refit_2 : decode cS_refit 2 = .ok (.putfield 31, 3) := by decide +kernel
theorem dS_refit_5 : decode cS_refit 5 = .ok (.aload_n 0, 1) := by decide +kernel
theorem dS_refit_6 : decode cS_refit 6 = .ok (.iload_n 2, 1) := by decide +kernel
theorem dS_refit_7 : decode cS_refit 7 = .ok (.putfield 35, 3) := by decide +kernel
theorem dS_refit_10 : decode cS_refit 10 = .ok (.aload_n 0, 1) := by decide +kernel
theorem dS_refit_11 : decode cS_refit 11 = .ok (.iload_n 3, 1) := by decide +kernel
theorem dS_refit_12 : decode cS_refit 12 = .ok (.putfield 38, 3) := by decide +kernel
theorem dS_refit_15 : decode cS_refit 15 = .ok (.aload_n 0, 1) := by decide +kernel
theorem dS_refit_16 : decode cS_refit 16 = .ok (.iload 4, 2) := by decide +kernel
theorem dS_refit_18 : decode cS_refit 18 = .ok (.putfield 41, 3) := by decide +kernel
theorem dS_refit_21 : decode cS_refit 21 = .ok (.aload_n 0, 1) := by decide +kernel
theorem dS_refit_22 : decode cS_refit 22 = .ok (.iload 5, 2) := by decide +kernel
theorem dS_refit_24 : decode cS_refit 24 = .ok (.putfield 44, 3) := by decide +kernel
theorem dS_refit_27 : decode cS_refit 27 = .ok (.aload_n 0, 1) := by decide +kernel
theorem dS_refit_28 : decode cS_refit 28 = .ok (.iload 6, 2) := by decide +kernel
theorem dS_refit_30 : decode cS_refit 30 = .ok (.putfield 47, 3) := by decide +kernel
theorem dS_refit_33 : decode cS_refit 33 = .ok (.iconst 0, 1) := by decide +kernel
theorem dS_refit_34 : decode cS_refit 34 = .ok (.istore 7, 2) := by decide +kernel
theorem dS_refit_36 : decode cS_refit 36 = .ok (.iload 7, 2) := by decide +kernel
theorem dS_refit_38 : decode cS_refit 38 = .ok (.iconst 3, 1) := by decide +kernel
theorem dS_refit_39 : decode cS_refit 39 = .ok (.if_icmp .ge 17, 3) := by decide +kernel
theorem dS_refit_42 : decode cS_refit 42 = .ok (.aload_n 0, 1) := by decide +kernel
theorem dS_refit_43 : decode cS_refit 43 = .ok (.getfield 9, 3) := by decide +kernel
theorem dS_refit_46 : decode cS_refit 46 = .ok (.iload 7, 2) := by decide +kernel
theorem dS_refit_48 : decode cS_refit 48 = .ok (.iconst 0, 1) := by decide +kernel
theorem dS_refit_49 : decode cS_refit 49 = .ok (.bastore, 1) := by decide +kernel
theorem dS_refit_50 : decode cS_refit 50 = .ok (.iinc 7 1, 3) := by decide +kernel
theorem dS_refit_53 : decode cS_refit 53 = .ok (.goto (-17), 3) := by decide +kernel
theorem dS_refit_56 : decode cS_refit 56 = .ok (.aload_n 0, 1) := by decide +kernel
theorem dS_refit_57 : decode cS_refit 57 = .ok (.iconst 0, 1) := by decide +kernel
theorem dS_refit_58 : decode cS_refit 58 = .ok (.putfield 50, 3) := by decide +kernel
theorem dS_refit_61 : decode cS_refit 61 = .ok (.return_, 1) := by decide +kernel
theorem dS_departures_0 : decode cS_departures 0 = .ok (.aload_n 0, 1) := by decide +kernel
theorem dS_departures_1 : decode cS_departures 1 = .ok (.getfield 38, 3) := by decide +kernel
theorem dS_departures_4 : decode cS_departures 4 = .ok (.iconst 1, 1) := by decide +kernel
theorem dS_departures_5 : decode cS_departures 5 = .ok (.isub, 1) := by decide +kernel
theorem dS_departures_6 : decode cS_departures 6 = .ok (.ireturn, 1) := by decide +kernel
theorem dS_dueAt_0 : decode cS_dueAt 0 = .ok (.iconst 0, 1) := by decide +kernel
theorem dS_dueAt_1 : decode cS_dueAt 1 = .ok (.istore_n 2, 1) := by decide +kernel
theorem dS_dueAt_2 : decode cS_dueAt 2 = .ok (.iconst 0, 1) := by decide +kernel
theorem dS_dueAt_3 : decode cS_dueAt 3 = .ok (.istore_n 3, 1) := by decide +kernel
theorem dS_dueAt_4 : decode cS_dueAt 4 = .ok (.iload_n 3, 1) := by decide +kernel
theorem dS_dueAt_5 : decode cS_dueAt 5 = .ok (.aload_n 0, 1) := by decide +kernel
theorem dS_dueAt_6 : decode cS_dueAt 6 = .ok (.getfield 50, 3) := by decide +kernel
theorem dS_dueAt_9 : decode cS_dueAt 9 = .ok (.if_icmp .ge 44, 3) := by decide +kernel
theorem dS_dueAt_12 : decode cS_dueAt 12 = .ok (.aload_n 0, 1) := by decide +kernel
theorem dS_dueAt_13 : decode cS_dueAt 13 = .ok (.getfield 28, 3) := by decide +kernel
theorem dS_dueAt_16 : decode cS_dueAt 16 = .ok (.iload_n 3, 1) := by decide +kernel
theorem dS_dueAt_17 : decode cS_dueAt 17 = .ok (.baload, 1) := by decide +kernel
theorem dS_dueAt_18 : decode cS_dueAt 18 = .ok (.ifCond .ne 29, 3) := by decide +kernel
theorem dS_dueAt_21 : decode cS_dueAt 21 = .ok (.aload_n 0, 1) := by decide +kernel
theorem dS_dueAt_22 : decode cS_dueAt 22 = .ok (.getfield 15, 3) := by decide +kernel
theorem dS_dueAt_25 : decode cS_dueAt 25 = .ok (.iload_n 3, 1) := by decide +kernel
theorem dS_dueAt_26 : decode cS_dueAt 26 = .ok (.iaload, 1) := by decide +kernel
theorem dS_dueAt_27 : decode cS_dueAt 27 = .ok (.iload_n 1, 1) := by decide +kernel
theorem dS_dueAt_28 : decode cS_dueAt 28 = .ok (.if_icmp .gt 19, 3) := by decide +kernel
theorem dS_dueAt_31 : decode cS_dueAt 31 = .ok (.iload_n 1, 1) := by decide +kernel
theorem dS_dueAt_32 : decode cS_dueAt 32 = .ok (.aload_n 0, 1) := by decide +kernel
theorem dS_dueAt_33 : decode cS_dueAt 33 = .ok (.getfield 19, 3) := by decide +kernel
theorem dS_dueAt_36 : decode cS_dueAt 36 = .ok (.iload_n 3, 1) := by decide +kernel
theorem dS_dueAt_37 : decode cS_dueAt 37 = .ok (.iaload, 1) := by decide +kernel
theorem dS_dueAt_38 : decode cS_dueAt 38 = .ok (.if_icmp .ge 9, 3) := by decide +kernel
theorem dS_dueAt_41 : decode cS_dueAt 41 = .ok (.iload_n 2, 1) := by decide +kernel
theorem dS_dueAt_42 : decode cS_dueAt 42 = .ok (.iconst 1, 1) := by decide +kernel
theorem dS_dueAt_43 : decode cS_dueAt 43 = .ok (.iload_n 3, 1) := by decide +kernel
theorem dS_dueAt_44 : decode cS_dueAt 44 = .ok (.ishl, 1) := by decide +kernel
theorem dS_dueAt_45 : decode cS_dueAt 45 = .ok (.ior, 1) := by decide +kernel
theorem dS_dueAt_46 : decode cS_dueAt 46 = .ok (.istore_n 2, 1) := by decide +kernel
theorem dS_dueAt_47 : decode cS_dueAt 47 = .ok (.iinc 3 1, 3) := by decide +kernel
theorem dS_dueAt_50 : decode cS_dueAt 50 = .ok (.goto (-46), 3) := by decide +kernel
theorem dS_dueAt_53 : decode cS_dueAt 53 = .ok (.iload_n 2, 1) := by decide +kernel
theorem dS_dueAt_54 : decode cS_dueAt 54 = .ok (.ireturn, 1) := by decide +kernel
theorem dS_hasStack_0 : decode cS_hasStack 0 = .ok (.iload_n 1, 1) := by decide +kernel
theorem dS_hasStack_1 : decode cS_hasStack 1 = .ok (.iconst 0, 1) := by decide +kernel
theorem dS_hasStack_2 : decode cS_hasStack 2 = .ok (.aload_n 0, 1) := by decide +kernel
theorem dS_hasStack_3 : decode cS_hasStack 3 = .ok (.getfield 31, 3) := by decide +kernel
theorem dS_hasStack_6 : decode cS_hasStack 6 = .ok (.iconst 1, 1) := by decide +kernel
theorem dS_hasStack_7 : decode cS_hasStack 7 = .ok (.isub, 1) := by decide +kernel
theorem dS_hasStack_8 : decode cS_hasStack 8 = .ok (.invokestatic 53, 3) := by decide +kernel
theorem dS_hasStack_11 : decode cS_hasStack 11 = .ok (.ireturn, 1) := by decide +kernel
theorem dS_hasPort_0 : decode cS_hasPort 0 = .ok (.iload_n 1, 1) := by decide +kernel
theorem dS_hasPort_1 : decode cS_hasPort 1 = .ok (.iconst 0, 1) := by decide +kernel
theorem dS_hasPort_2 : decode cS_hasPort 2 = .ok (.aload_n 0, 1) := by decide +kernel
theorem dS_hasPort_3 : decode cS_hasPort 3 = .ok (.getfield 38, 3) := by decide +kernel
theorem dS_hasPort_6 : decode cS_hasPort 6 = .ok (.iconst 1, 1) := by decide +kernel
theorem dS_hasPort_7 : decode cS_hasPort 7 = .ok (.isub, 1) := by decide +kernel
theorem dS_hasPort_8 : decode cS_hasPort 8 = .ok (.invokestatic 53, 3) := by decide +kernel
theorem dS_hasPort_11 : decode cS_hasPort 11 = .ok (.ireturn, 1) := by decide +kernel
theorem dS_book_0 : decode cS_book 0 = .ok (.aload_n 0, 1) := by decide +kernel
theorem dS_book_1 : decode cS_book 1 = .ok (.getfield 50, 3) := by decide +kernel
theorem dS_book_4 : decode cS_book 4 = .ok (.istore 5, 2) := by decide +kernel
theorem dS_book_6 : decode cS_book 6 = .ok (.aload_n 0, 1) := by decide +kernel
theorem dS_book_7 : decode cS_book 7 = .ok (.getfield 15, 3) := by decide +kernel
theorem dS_book_10 : decode cS_book 10 = .ok (.iload 5, 2) := by decide +kernel
theorem dS_book_12 : decode cS_book 12 = .ok (.iload_n 1, 1) := by decide +kernel
theorem dS_book_13 : decode cS_book 13 = .ok (.iastore, 1) := by decide +kernel
theorem dS_book_14 : decode cS_book 14 = .ok (.aload_n 0, 1) := by decide +kernel
theorem dS_book_15 : decode cS_book 15 = .ok (.getfield 19, 3) := by decide +kernel
theorem dS_book_18 : decode cS_book 18 = .ok (.iload 5, 2) := by decide +kernel
theorem dS_book_20 : decode cS_book 20 = .ok (.iload_n 2, 1) := by decide +kernel
theorem dS_book_21 : decode cS_book 21 = .ok (.iastore, 1) := by decide +kernel
theorem dS_book_22 : decode cS_book 22 = .ok (.aload_n 0, 1) := by decide +kernel
theorem dS_book_23 : decode cS_book 23 = .ok (.getfield 22, 3) := by decide +kernel
theorem dS_book_26 : decode cS_book 26 = .ok (.iload 5, 2) := by decide +kernel
theorem dS_book_28 : decode cS_book 28 = .ok (.iload_n 3, 1) := by decide +kernel
theorem dS_book_29 : decode cS_book 29 = .ok (.iastore, 1) := by decide +kernel
theorem dS_book_30 : decode cS_book 30 = .ok (.aload_n 0, 1) := by decide +kernel
theorem dS_book_31 : decode cS_book 31 = .ok (.getfield 25, 3) := by decide +kernel
theorem dS_book_34 : decode cS_book 34 = .ok (.iload 5, 2) := by decide +kernel
theorem dS_book_36 : decode cS_book 36 = .ok (.iload 4, 2) := by decide +kernel
theorem dS_book_38 : decode cS_book 38 = .ok (.iastore, 1) := by decide +kernel
theorem dS_book_39 : decode cS_book 39 = .ok (.aload_n 0, 1) := by decide +kernel
theorem dS_book_40 : decode cS_book 40 = .ok (.getfield 28, 3) := by decide +kernel
theorem dS_book_43 : decode cS_book 43 = .ok (.iload 5, 2) := by decide +kernel
theorem dS_book_45 : decode cS_book 45 = .ok (.iconst 0, 1) := by decide +kernel
theorem dS_book_46 : decode cS_book 46 = .ok (.bastore, 1) := by decide +kernel
theorem dS_book_47 : decode cS_book 47 = .ok (.aload_n 0, 1) := by decide +kernel
theorem dS_book_48 : decode cS_book 48 = .ok (.dup, 1) := by decide +kernel
theorem dS_book_49 : decode cS_book 49 = .ok (.getfield 50, 3) := by decide +kernel
theorem dS_book_52 : decode cS_book 52 = .ok (.iconst 1, 1) := by decide +kernel
theorem dS_book_53 : decode cS_book 53 = .ok (.iadd, 1) := by decide +kernel
theorem dS_book_54 : decode cS_book 54 = .ok (.putfield 50, 3) := by decide +kernel
theorem dS_book_57 : decode cS_book 57 = .ok (.iload 5, 2) := by decide +kernel
theorem dS_book_59 : decode cS_book 59 = .ok (.ireturn, 1) := by decide +kernel
theorem dS_hasBox_0 : decode cS_hasBox 0 = .ok (.iload_n 1, 1) := by decide +kernel
theorem dS_hasBox_1 : decode cS_hasBox 1 = .ok (.iconst 0, 1) := by decide +kernel
theorem dS_hasBox_2 : decode cS_hasBox 2 = .ok (.aload_n 0, 1) := by decide +kernel
theorem dS_hasBox_3 : decode cS_hasBox 3 = .ok (.getfield 50, 3) := by decide +kernel
theorem dS_hasBox_6 : decode cS_hasBox 6 = .ok (.iconst 1, 1) := by decide +kernel
theorem dS_hasBox_7 : decode cS_hasBox 7 = .ok (.isub, 1) := by decide +kernel
theorem dS_hasBox_8 : decode cS_hasBox 8 = .ok (.invokestatic 53, 3) := by decide +kernel
theorem dS_hasBox_11 : decode cS_hasBox 11 = .ok (.ifCond .eq 16, 3) := by decide +kernel
theorem dS_hasBox_14 : decode cS_hasBox 14 = .ok (.aload_n 0, 1) := by decide +kernel
theorem dS_hasBox_15 : decode cS_hasBox 15 = .ok (.getfield 28, 3) := by decide +kernel
theorem dS_hasBox_18 : decode cS_hasBox 18 = .ok (.iload_n 1, 1) := by decide +kernel
theorem dS_hasBox_19 : decode cS_hasBox 19 = .ok (.baload, 1) := by decide +kernel
theorem dS_hasBox_20 : decode cS_hasBox 20 = .ok (.ifCond .ne 7, 3) := by decide +kernel
theorem dS_hasBox_23 : decode cS_hasBox 23 = .ok (.iconst 1, 1) := by decide +kernel
theorem dS_hasBox_24 : decode cS_hasBox 24 = .ok (.goto 4, 3) := by decide +kernel
theorem dS_hasBox_27 : decode cS_hasBox 27 = .ok (.iconst 0, 1) := by decide +kernel
theorem dS_hasBox_28 : decode cS_hasBox 28 = .ok (.ireturn, 1) := by decide +kernel
theorem dH_init_0 : decode cH_init 0 = .ok (.aload_n 0, 1) := by decide +kernel
theorem dH_init_1 : decode cH_init 1 = .ok (.invokespecial 3, 3) := by decide +kernel
theorem dH_init_4 : decode cH_init 4 = .ok (.aload_n 0, 1) := by decide +kernel
theorem dH_init_5 : decode cH_init 5 = .ok (.bipush 9, 2) := by decide +kernel
theorem dH_init_7 : decode cH_init 7 = .ok (.newarray .int, 2) := by decide +kernel
theorem dH_init_9 : decode cH_init 9 = .ok (.putfield 9, 3) := by decide +kernel
theorem dH_init_12 : decode cH_init 12 = .ok (.aload_n 0, 1) := by decide +kernel
theorem dH_init_13 : decode cH_init 13 = .ok (.iconst 3, 1) := by decide +kernel
theorem dH_init_14 : decode cH_init 14 = .ok (.newarray .int, 2) := by decide +kernel
theorem dH_init_16 : decode cH_init 16 = .ok (.putfield 15, 3) := by decide +kernel
theorem dH_init_19 : decode cH_init 19 = .ok (.aload_n 0, 1) := by decide +kernel
theorem dH_init_20 : decode cH_init 20 = .ok (.iconst 3, 1) := by decide +kernel
theorem dH_init_21 : decode cH_init 21 = .ok (.newarray .int, 2) := by decide +kernel
theorem dH_init_23 : decode cH_init 23 = .ok (.putfield 18, 3) := by decide +kernel
theorem dH_init_26 : decode cH_init 26 = .ok (.aload_n 0, 1) := by decide +kernel
theorem dH_init_27 : decode cH_init 27 = .ok (.aload_n 1, 1) := by decide +kernel
theorem dH_init_28 : decode cH_init 28 = .ok (.putfield 21, 3) := by decide +kernel
theorem dH_init_31 : decode cH_init 31 = .ok (.aload_n 0, 1) := by decide +kernel
theorem dH_init_32 : decode cH_init 32 = .ok (.getfield 9, 3) := by decide +kernel
theorem dH_init_35 : decode cH_init 35 = .ok (.iconst (-1), 1) := by decide +kernel
theorem dH_init_36 : decode cH_init 36 = .ok (.invokestatic 25, 3) := by decide +kernel
theorem dH_init_39 : decode cH_init 39 = .ok (.return_, 1) := by decide +kernel
theorem dH_clear_0 : decode cH_clear 0 = .ok (.aload_n 0, 1) := by decide +kernel
theorem dH_clear_1 : decode cH_clear 1 = .ok (.getfield 9, 3) := by decide +kernel
theorem dH_clear_4 : decode cH_clear 4 = .ok (.iconst (-1), 1) := by decide +kernel
theorem dH_clear_5 : decode cH_clear 5 = .ok (.invokestatic 25, 3) := by decide +kernel
theorem dH_clear_8 : decode cH_clear 8 = .ok (.aload_n 0, 1) := by decide +kernel
theorem dH_clear_9 : decode cH_clear 9 = .ok (.getfield 15, 3) := by decide +kernel
theorem dH_clear_12 : decode cH_clear 12 = .ok (.iconst 0, 1) := by decide +kernel
theorem dH_clear_13 : decode cH_clear 13 = .ok (.invokestatic 25, 3) := by decide +kernel
theorem dH_clear_16 : decode cH_clear 16 = .ok (.aload_n 0, 1) := by decide +kernel
theorem dH_clear_17 : decode cH_clear 17 = .ok (.getfield 18, 3) := by decide +kernel
theorem dH_clear_20 : decode cH_clear 20 = .ok (.iconst 0, 1) := by decide +kernel
theorem dH_clear_21 : decode cH_clear 21 = .ok (.invokestatic 25, 3) := by decide +kernel
theorem dH_clear_24 : decode cH_clear 24 = .ok (.aload_n 0, 1) := by decide +kernel
theorem dH_clear_25 : decode cH_clear 25 = .ok (.iconst 0, 1) := by decide +kernel
theorem dH_clear_26 : decode cH_clear 26 = .ok (.putfield 31, 3) := by decide +kernel
theorem dH_clear_29 : decode cH_clear 29 = .ok (.return_, 1) := by decide +kernel
theorem dH_isSound_0 : decode cH_isSound 0 = .ok (.aload_n 0, 1) := by decide +kernel
theorem dH_isSound_1 : decode cH_isSound 1 = .ok (.getfield 31, 3) := by decide +kernel
theorem dH_isSound_4 : decode cH_isSound 4 = .ok (.aload_n 0, 1) := by decide +kernel
theorem dH_isSound_5 : decode cH_isSound 5 = .ok (.getfield 21, 3) := by decide +kernel
theorem dH_isSound_8 : decode cH_isSound 8 = .ok (.getfield 103, 3) := by decide +kernel
theorem dH_isSound_11 : decode cH_isSound 11 = .ok (.if_icmp .gt 20, 3) := by decide +kernel
theorem dH_isSound_14 : decode cH_isSound 14 = .ok (.aload_n 0, 1) := by decide +kernel
theorem dH_isSound_15 : decode cH_isSound 15 = .ok (.invokevirtual 104, 3) := by decide +kernel
theorem dH_isSound_18 : decode cH_isSound 18 = .ok (.invokestatic 107, 3) := by decide +kernel
theorem dH_isSound_21 : decode cH_isSound 21 = .ok (.aload_n 0, 1) := by decide +kernel
theorem dH_isSound_22 : decode cH_isSound 22 = .ok (.getfield 21, 3) := by decide +kernel
theorem dH_isSound_25 : decode cH_isSound 25 = .ok (.getfield 112, 3) := by decide +kernel
theorem dH_isSound_28 : decode cH_isSound 28 = .ok (.if_icmp .le 5, 3) := by decide +kernel
theorem dH_isSound_31 : decode cH_isSound 31 = .ok (.iconst 0, 1) := by decide +kernel
theorem dH_isSound_32 : decode cH_isSound 32 = .ok (.ireturn, 1) := by decide +kernel
theorem dH_isSound_33 : decode cH_isSound 33 = .ok (.iconst 0, 1) := by decide +kernel
theorem dH_isSound_34 : decode cH_isSound 34 = .ok (.istore_n 1, 1) := by decide +kernel
theorem dH_isSound_35 : decode cH_isSound 35 = .ok (.iload_n 1, 1) := by decide +kernel
theorem dH_isSound_36 : decode cH_isSound 36 = .ok (.aload_n 0, 1) := by decide +kernel
theorem dH_isSound_37 : decode cH_isSound 37 = .ok (.getfield 21, 3) := by decide +kernel
theorem dH_isSound_40 : decode cH_isSound 40 = .ok (.getfield 92, 3) := by decide +kernel
theorem dH_isSound_43 : decode cH_isSound 43 = .ok (.if_icmp .ge 19, 3) := by decide +kernel
theorem dH_isSound_46 : decode cH_isSound 46 = .ok (.aload_n 0, 1) := by decide +kernel
theorem dH_isSound_47 : decode cH_isSound 47 = .ok (.iload_n 1, 1) := by decide +kernel
theorem dH_isSound_48 : decode cH_isSound 48 = .ok (.invokevirtual 115, 3) := by decide +kernel
theorem dH_isSound_51 : decode cH_isSound 51 = .ok (.ifCond .ne 5, 3) := by decide +kernel
theorem dH_isSound_54 : decode cH_isSound 54 = .ok (.iconst 0, 1) := by decide +kernel
theorem dH_isSound_55 : decode cH_isSound 55 = .ok (.ireturn, 1) := by decide +kernel
theorem dH_isSound_56 : decode cH_isSound 56 = .ok (.iinc 1 1, 3) := by decide +kernel
theorem dH_isSound_59 : decode cH_isSound 59 = .ok (.goto (-24), 3) := by decide +kernel
theorem dH_isSound_62 : decode cH_isSound 62 = .ok (.iconst 1, 1) := by decide +kernel
theorem dH_isSound_63 : decode cH_isSound 63 = .ok (.ireturn, 1) := by decide +kernel
theorem dH_signedList_0 : decode cH_signedList 0 = .ok (.iconst 0, 1) := by decide +kernel
theorem dH_signedList_1 : decode cH_signedList 1 = .ok (.istore_n 1, 1) := by decide +kernel
theorem dH_signedList_2 : decode cH_signedList 2 = .ok (.iconst 0, 1) := by decide +kernel
theorem dH_signedList_3 : decode cH_signedList 3 = .ok (.istore_n 2, 1) := by decide +kernel
theorem dH_signedList_4 : decode cH_signedList 4 = .ok (.iload_n 2, 1) := by decide +kernel
theorem dH_signedList_5 : decode cH_signedList 5 = .ok (.aload_n 0, 1) := by decide +kernel
theorem dH_signedList_6 : decode cH_signedList 6 = .ok (.getfield 21, 3) := by decide +kernel
theorem dH_signedList_9 : decode cH_signedList 9 = .ok (.getfield 92, 3) := by decide +kernel
theorem dH_signedList_12 : decode cH_signedList 12 = .ok (.if_icmp .ge 32, 3) := by decide +kernel
theorem dH_signedList_15 : decode cH_signedList 15 = .ok (.iload_n 1, 1) := by decide +kernel
theorem dH_signedList_16 : decode cH_signedList 16 = .ok (.aload_n 0, 1) := by decide +kernel
theorem dH_signedList_17 : decode cH_signedList 17 = .ok (.getfield 18, 3) := by decide +kernel
theorem dH_signedList_20 : decode cH_signedList 20 = .ok (.iload_n 2, 1) := by decide +kernel
theorem dH_signedList_21 : decode cH_signedList 21 = .ok (.iaload, 1) := by decide +kernel
theorem dH_signedList_22 : decode cH_signedList 22 = .ok (.iconst 2, 1) := by decide +kernel
theorem dH_signedList_23 : decode cH_signedList 23 = .ok (.iload_n 2, 1) := by decide +kernel
theorem dH_signedList_24 : decode cH_signedList 24 = .ok (.imul, 1) := by decide +kernel
theorem dH_signedList_25 : decode cH_signedList 25 = .ok (.iconst 1, 1) := by decide +kernel
theorem dH_signedList_26 : decode cH_signedList 26 = .ok (.iadd, 1) := by decide +kernel
theorem dH_signedList_27 : decode cH_signedList 27 = .ok (.aload_n 0, 1) := by decide +kernel
theorem dH_signedList_28 : decode cH_signedList 28 = .ok (.getfield 21, 3) := by decide +kernel
theorem dH_signedList_31 : decode cH_signedList 31 = .ok (.getfield 92, 3) := by decide +kernel
theorem dH_signedList_34 : decode cH_signedList 34 = .ok (.isub, 1) := by decide +kernel
theorem dH_signedList_35 : decode cH_signedList 35 = .ok (.imul, 1) := by decide +kernel
theorem dH_signedList_36 : decode cH_signedList 36 = .ok (.iadd, 1) := by decide +kernel
theorem dH_signedList_37 : decode cH_signedList 37 = .ok (.istore_n 1, 1) := by decide +kernel
theorem dH_signedList_38 : decode cH_signedList 38 = .ok (.iinc 2 1, 3) := by decide +kernel
theorem dH_signedList_41 : decode cH_signedList 41 = .ok (.goto (-37), 3) := by decide +kernel
theorem dH_signedList_44 : decode cH_signedList 44 = .ok (.iload_n 1, 1) := by decide +kernel
theorem dH_signedList_45 : decode cH_signedList 45 = .ok (.ireturn, 1) := by decide +kernel
theorem dH_isSoundStack_0 : decode cH_isSoundStack 0 = .ok (.aload_n 0, 1) := by decide +kernel
theorem dH_isSoundStack_1 : decode cH_isSoundStack 1 = .ok (.iload_n 1, 1) := by decide +kernel
theorem dH_isSoundStack_2 : decode cH_isSoundStack 2 = .ok (.iconst 1, 1) := by decide +kernel
theorem dH_isSoundStack_3 : decode cH_isSoundStack 3 = .ok (.invokevirtual 118, 3) := by decide +kernel
theorem dH_isSoundStack_6 : decode cH_isSoundStack 6 = .ok (.ifCond .eq 19, 3) := by decide +kernel
theorem dH_isSoundStack_9 : decode cH_isSoundStack 9 = .ok (.aload_n 0, 1) := by decide +kernel
theorem dH_isSoundStack_10 : decode cH_isSoundStack 10 = .ok (.getfield 21, 3) := by decide +kernel
theorem dH_isSoundStack_13 : decode cH_isSoundStack 13 = .ok (.getfield 121, 3) := by decide +kernel
theorem dH_isSoundStack_16 : decode cH_isSoundStack 16 = .ok (.iload_n 1, 1) := by decide +kernel
theorem dH_isSoundStack_17 : decode cH_isSoundStack 17 = .ok (.baload, 1) := by decide +kernel
theorem dH_isSoundStack_18 : decode cH_isSoundStack 18 = .ok (.ifCond .ne 7, 3) := by decide +kernel
theorem dH_isSoundStack_21 : decode cH_isSoundStack 21 = .ok (.iconst 1, 1) := by decide +kernel
theorem dH_isSoundStack_22 : decode cH_isSoundStack 22 = .ok (.goto 4, 3) := by decide +kernel
theorem dH_isSoundStack_25 : decode cH_isSoundStack 25 = .ok (.iconst 0, 1) := by decide +kernel
theorem dH_isSoundStack_26 : decode cH_isSoundStack 26 = .ok (.istore_n 2, 1) := by decide +kernel
theorem dH_isSoundStack_27 : decode cH_isSoundStack 27 = .ok (.aload_n 0, 1) := by decide +kernel
theorem dH_isSoundStack_28 : decode cH_isSoundStack 28 = .ok (.iload_n 1, 1) := by decide +kernel
theorem dH_isSoundStack_29 : decode cH_isSoundStack 29 = .ok (.iconst 2, 1) := by decide +kernel
theorem dH_isSoundStack_30 : decode cH_isSoundStack 30 = .ok (.invokevirtual 118, 3) := by decide +kernel
theorem dH_isSoundStack_33 : decode cH_isSoundStack 33 = .ok (.ifCond .eq 38, 3) := by decide +kernel
theorem dH_isSoundStack_36 : decode cH_isSoundStack 36 = .ok (.aload_n 0, 1) := by decide +kernel
theorem dH_isSoundStack_37 : decode cH_isSoundStack 37 = .ok (.iload_n 1, 1) := by decide +kernel
theorem dH_isSoundStack_38 : decode cH_isSoundStack 38 = .ok (.iconst 1, 1) := by decide +kernel
theorem dH_isSoundStack_39 : decode cH_isSoundStack 39 = .ok (.isub, 1) := by decide +kernel
theorem dH_isSoundStack_40 : decode cH_isSoundStack 40 = .ok (.iconst 3, 1) := by decide +kernel
theorem dH_isSoundStack_41 : decode cH_isSoundStack 41 = .ok (.invokevirtual 118, 3) := by decide +kernel
theorem dH_isSoundStack_44 : decode cH_isSoundStack 44 = .ok (.ifCond .ne 23, 3) := by decide +kernel
theorem dH_isSoundStack_47 : decode cH_isSoundStack 47 = .ok (.aload_n 0, 1) := by decide +kernel
theorem dH_isSoundStack_48 : decode cH_isSoundStack 48 = .ok (.iload_n 1, 1) := by decide +kernel
theorem dH_isSoundStack_49 : decode cH_isSoundStack 49 = .ok (.iconst 3, 1) := by decide +kernel
theorem dH_isSoundStack_50 : decode cH_isSoundStack 50 = .ok (.invokevirtual 118, 3) := by decide +kernel
theorem dH_isSoundStack_53 : decode cH_isSoundStack 53 = .ok (.ifCond .ne 14, 3) := by decide +kernel
theorem dH_isSoundStack_56 : decode cH_isSoundStack 56 = .ok (.aload_n 0, 1) := by decide +kernel
theorem dH_isSoundStack_57 : decode cH_isSoundStack 57 = .ok (.iload_n 1, 1) := by decide +kernel
theorem dH_isSoundStack_58 : decode cH_isSoundStack 58 = .ok (.iconst 1, 1) := by decide +kernel
theorem dH_isSoundStack_59 : decode cH_isSoundStack 59 = .ok (.iadd, 1) := by decide +kernel
theorem dH_isSoundStack_60 : decode cH_isSoundStack 60 = .ok (.iconst 3, 1) := by decide +kernel
theorem dH_isSoundStack_61 : decode cH_isSoundStack 61 = .ok (.invokevirtual 118, 3) := by decide +kernel
theorem dH_isSoundStack_64 : decode cH_isSoundStack 64 = .ok (.ifCond .eq 7, 3) := by decide +kernel
theorem dH_isSoundStack_67 : decode cH_isSoundStack 67 = .ok (.iconst 1, 1) := by decide +kernel
theorem dH_isSoundStack_68 : decode cH_isSoundStack 68 = .ok (.goto 4, 3) := by decide +kernel
theorem dH_isSoundStack_71 : decode cH_isSoundStack 71 = .ok (.iconst 0, 1) := by decide +kernel
theorem dH_isSoundStack_72 : decode cH_isSoundStack 72 = .ok (.istore_n 3, 1) := by decide +kernel
theorem dH_isSoundStack_73 : decode cH_isSoundStack 73 = .ok (.aload_n 0, 1) := by decide +kernel
theorem dH_isSoundStack_74 : decode cH_isSoundStack 74 = .ok (.getfield 18, 3) := by decide +kernel
theorem dH_isSoundStack_77 : decode cH_isSoundStack 77 = .ok (.iload_n 1, 1) := by decide +kernel
theorem dH_isSoundStack_78 : decode cH_isSoundStack 78 = .ok (.iaload, 1) := by decide +kernel
theorem dH_isSoundStack_79 : decode cH_isSoundStack 79 = .ok (.aload_n 0, 1) := by decide +kernel
theorem dH_isSoundStack_80 : decode cH_isSoundStack 80 = .ok (.getfield 21, 3) := by decide +kernel
theorem dH_isSoundStack_83 : decode cH_isSoundStack 83 = .ok (.getfield 74, 3) := by decide +kernel
theorem dH_isSoundStack_86 : decode cH_isSoundStack 86 = .ok (.if_icmp .gt 15, 3) := by decide +kernel
theorem dH_isSoundStack_89 : decode cH_isSoundStack 89 = .ok (.iload_n 2, 1) := by decide +kernel
theorem dH_isSoundStack_90 : decode cH_isSoundStack 90 = .ok (.ifCond .ne 11, 3) := by decide +kernel
theorem dH_isSoundStack_93 : decode cH_isSoundStack 93 = .ok (.iload_n 3, 1) := by decide +kernel
theorem dH_isSoundStack_94 : decode cH_isSoundStack 94 = .ok (.ifCond .ne 7, 3) := by decide +kernel
theorem dH_isSoundStack_97 : decode cH_isSoundStack 97 = .ok (.iconst 1, 1) := by decide +kernel
theorem dH_isSoundStack_98 : decode cH_isSoundStack 98 = .ok (.goto 4, 3) := by decide +kernel
theorem dH_isSoundStack_101 : decode cH_isSoundStack 101 = .ok (.iconst 0, 1) := by decide +kernel
theorem dH_isSoundStack_102 : decode cH_isSoundStack 102 = .ok (.ireturn, 1) := by decide +kernel
theorem dH_holds_0 : decode cH_holds 0 = .ok (.iload_n 1, 1) := by decide +kernel
theorem dH_holds_1 : decode cH_holds 1 = .ok (.ifCond .lt 14, 3) := by decide +kernel
theorem dH_holds_4 : decode cH_holds 4 = .ok (.iload_n 1, 1) := by decide +kernel
theorem dH_holds_5 : decode cH_holds 5 = .ok (.aload_n 0, 1) := by decide +kernel
theorem dH_holds_6 : decode cH_holds 6 = .ok (.getfield 21, 3) := by decide +kernel
theorem dH_holds_9 : decode cH_holds 9 = .ok (.getfield 92, 3) := by decide +kernel
theorem dH_holds_12 : decode cH_holds 12 = .ok (.if_icmp .lt 5, 3) := by decide +kernel
theorem dH_holds_15 : decode cH_holds 15 = .ok (.iconst 0, 1) := by decide +kernel
theorem dH_holds_16 : decode cH_holds 16 = .ok (.ireturn, 1) := by decide +kernel
theorem dH_holds_17 : decode cH_holds 17 = .ok (.iconst 0, 1) := by decide +kernel
theorem dH_holds_18 : decode cH_holds 18 = .ok (.istore_n 3, 1) := by decide +kernel
theorem dH_holds_19 : decode cH_holds 19 = .ok (.iload_n 3, 1) := by decide +kernel
theorem dH_holds_20 : decode cH_holds 20 = .ok (.aload_n 0, 1) := by decide +kernel
theorem dH_holds_21 : decode cH_holds 21 = .ok (.getfield 15, 3) := by decide +kernel
theorem dH_holds_24 : decode cH_holds 24 = .ok (.iload_n 1, 1) := by decide +kernel
theorem dH_holds_25 : decode cH_holds 25 = .ok (.iaload, 1) := by decide +kernel
theorem dH_holds_26 : decode cH_holds 26 = .ok (.if_icmp .ge 33, 3) := by decide +kernel
theorem dH_holds_29 : decode cH_holds 29 = .ok (.aload_n 0, 1) := by decide +kernel
theorem dH_holds_30 : decode cH_holds 30 = .ok (.getfield 21, 3) := by decide +kernel
theorem dH_holds_33 : decode cH_holds 33 = .ok (.getfield 125, 3) := by decide +kernel
theorem dH_holds_36 : decode cH_holds 36 = .ok (.aload_n 0, 1) := by decide +kernel
theorem dH_holds_37 : decode cH_holds 37 = .ok (.getfield 9, 3) := by decide +kernel
theorem dH_holds_40 : decode cH_holds 40 = .ok (.iload_n 1, 1) := by decide +kernel
theorem dH_holds_41 : decode cH_holds 41 = .ok (.iconst 3, 1) := by decide +kernel
theorem dH_holds_42 : decode cH_holds 42 = .ok (.imul, 1) := by decide +kernel
theorem dH_holds_43 : decode cH_holds 43 = .ok (.iload_n 3, 1) := by decide +kernel
theorem dH_holds_44 : decode cH_holds 44 = .ok (.iadd, 1) := by decide +kernel
theorem dH_holds_45 : decode cH_holds 45 = .ok (.iaload, 1) := by decide +kernel
theorem dH_holds_46 : decode cH_holds 46 = .ok (.iaload, 1) := by decide +kernel
theorem dH_holds_47 : decode cH_holds 47 = .ok (.iload_n 2, 1) := by decide +kernel
theorem dH_holds_48 : decode cH_holds 48 = .ok (.if_icmp .ne 5, 3) := by decide +kernel
theorem dH_holds_51 : decode cH_holds 51 = .ok (.iconst 1, 1) := by decide +kernel
theorem dH_holds_52 : decode cH_holds 52 = .ok (.ireturn, 1) := by decide +kernel
theorem dH_holds_53 : decode cH_holds 53 = .ok (.iinc 3 1, 3) := by decide +kernel
theorem dH_holds_56 : decode cH_holds 56 = .ok (.goto (-37), 3) := by decide +kernel
theorem dH_holds_59 : decode cH_holds 59 = .ok (.iconst 0, 1) := by decide +kernel
theorem dH_holds_60 : decode cH_holds 60 = .ok (.ireturn, 1) := by decide +kernel
theorem dH_hasRoom_0 : decode cH_hasRoom 0 = .ok (.aload_n 0, 1) := by decide +kernel
theorem dH_hasRoom_1 : decode cH_hasRoom 1 = .ok (.getfield 21, 3) := by decide +kernel
theorem dH_hasRoom_4 : decode cH_hasRoom 4 = .ok (.iload_n 1, 1) := by decide +kernel
theorem dH_hasRoom_5 : decode cH_hasRoom 5 = .ok (.invokevirtual 35, 3) := by decide +kernel
theorem dH_hasRoom_8 : decode cH_hasRoom 8 = .ok (.ifCond .eq 23, 3) := by decide +kernel
theorem dH_hasRoom_11 : decode cH_hasRoom 11 = .ok (.aload_n 0, 1) := by decide +kernel
theorem dH_hasRoom_12 : decode cH_hasRoom 12 = .ok (.getfield 15, 3) := by decide +kernel
theorem dH_hasRoom_15 : decode cH_hasRoom 15 = .ok (.iload_n 1, 1) := by decide +kernel
theorem dH_hasRoom_16 : decode cH_hasRoom 16 = .ok (.iaload, 1) := by decide +kernel
theorem dH_hasRoom_17 : decode cH_hasRoom 17 = .ok (.aload_n 0, 1) := by decide +kernel
theorem dH_hasRoom_18 : decode cH_hasRoom 18 = .ok (.getfield 21, 3) := by decide +kernel
theorem dH_hasRoom_21 : decode cH_hasRoom 21 = .ok (.getfield 41, 3) := by decide +kernel
theorem dH_hasRoom_24 : decode cH_hasRoom 24 = .ok (.if_icmp .ge 7, 3) := by decide +kernel
theorem dH_hasRoom_27 : decode cH_hasRoom 27 = .ok (.iconst 1, 1) := by decide +kernel
theorem dH_hasRoom_28 : decode cH_hasRoom 28 = .ok (.goto 4, 3) := by decide +kernel
theorem dH_hasRoom_31 : decode cH_hasRoom 31 = .ok (.iconst 0, 1) := by decide +kernel
theorem dH_hasRoom_32 : decode cH_hasRoom 32 = .ok (.ireturn, 1) := by decide +kernel
theorem dH_stow_0 : decode cH_stow 0 = .ok (.aload_n 0, 1) := by decide +kernel
theorem dH_stow_1 : decode cH_stow 1 = .ok (.getfield 9, 3) := by decide +kernel
theorem dH_stow_4 : decode cH_stow 4 = .ok (.iload_n 2, 1) := by decide +kernel
theorem dH_stow_5 : decode cH_stow 5 = .ok (.iconst 3, 1) := by decide +kernel
theorem dH_stow_6 : decode cH_stow 6 = .ok (.imul, 1) := by decide +kernel
theorem dH_stow_7 : decode cH_stow 7 = .ok (.aload_n 0, 1) := by decide +kernel
theorem dH_stow_8 : decode cH_stow 8 = .ok (.getfield 15, 3) := by decide +kernel
theorem dH_stow_11 : decode cH_stow 11 = .ok (.iload_n 2, 1) := by decide +kernel
theorem dH_stow_12 : decode cH_stow 12 = .ok (.iaload, 1) := by decide +kernel
theorem dH_stow_13 : decode cH_stow 13 = .ok (.iadd, 1) := by decide +kernel
theorem dH_stow_14 : decode cH_stow 14 = .ok (.iload_n 1, 1) := by decide +kernel
theorem dH_stow_15 : decode cH_stow 15 = .ok (.iastore, 1) := by decide +kernel
theorem dH_stow_16 : decode cH_stow 16 = .ok (.aload_n 0, 1) := by decide +kernel
theorem dH_stow_17 : decode cH_stow 17 = .ok (.getfield 15, 3) := by decide +kernel
theorem dH_stow_20 : decode cH_stow 20 = .ok (.iload_n 2, 1) := by decide +kernel
theorem dH_stow_21 : decode cH_stow 21 = .ok (.dup2, 1) := by decide +kernel
theorem dH_stow_22 : decode cH_stow 22 = .ok (.iaload, 1) := by decide +kernel
theorem dH_stow_23 : decode cH_stow 23 = .ok (.iconst 1, 1) := by decide +kernel
theorem dH_stow_24 : decode cH_stow 24 = .ok (.iadd, 1) := by decide +kernel
theorem dH_stow_25 : decode cH_stow 25 = .ok (.iastore, 1) := by decide +kernel
theorem dH_stow_26 : decode cH_stow 26 = .ok (.aload_n 0, 1) := by decide +kernel
theorem dH_stow_27 : decode cH_stow 27 = .ok (.getfield 18, 3) := by decide +kernel
theorem dH_stow_30 : decode cH_stow 30 = .ok (.iload_n 2, 1) := by decide +kernel
theorem dH_stow_31 : decode cH_stow 31 = .ok (.dup2, 1) := by decide +kernel
theorem dH_stow_32 : decode cH_stow 32 = .ok (.iaload, 1) := by decide +kernel
theorem dH_stow_33 : decode cH_stow 33 = .ok (.aload_n 0, 1) := by decide +kernel
theorem dH_stow_34 : decode cH_stow 34 = .ok (.getfield 21, 3) := by decide +kernel
theorem dH_stow_37 : decode cH_stow 37 = .ok (.getfield 44, 3) := by decide +kernel
theorem dH_stow_40 : decode cH_stow 40 = .ok (.iload_n 1, 1) := by decide +kernel
theorem dH_stow_41 : decode cH_stow 41 = .ok (.iaload, 1) := by decide +kernel
theorem dH_stow_42 : decode cH_stow 42 = .ok (.iadd, 1) := by decide +kernel
theorem dH_stow_43 : decode cH_stow 43 = .ok (.iastore, 1) := by decide +kernel
theorem dH_stow_44 : decode cH_stow 44 = .ok (.aload_n 0, 1) := by decide +kernel
theorem dH_stow_45 : decode cH_stow 45 = .ok (.dup, 1) := by decide +kernel
theorem dH_stow_46 : decode cH_stow 46 = .ok (.getfield 31, 3) := by decide +kernel
theorem dH_stow_49 : decode cH_stow 49 = .ok (.aload_n 0, 1) := by decide +kernel
theorem dH_stow_50 : decode cH_stow 50 = .ok (.getfield 21, 3) := by decide +kernel
theorem dH_stow_53 : decode cH_stow 53 = .ok (.getfield 44, 3) := by decide +kernel
theorem dH_stow_56 : decode cH_stow 56 = .ok (.iload_n 1, 1) := by decide +kernel
theorem dH_stow_57 : decode cH_stow 57 = .ok (.iaload, 1) := by decide +kernel
theorem dH_stow_58 : decode cH_stow 58 = .ok (.aload_n 0, 1) := by decide +kernel
theorem dH_stow_59 : decode cH_stow 59 = .ok (.getfield 15, 3) := by decide +kernel
theorem dH_stow_62 : decode cH_stow 62 = .ok (.iload_n 2, 1) := by decide +kernel
theorem dH_stow_63 : decode cH_stow 63 = .ok (.iaload, 1) := by decide +kernel
theorem dH_stow_64 : decode cH_stow 64 = .ok (.imul, 1) := by decide +kernel
theorem dH_stow_65 : decode cH_stow 65 = .ok (.iadd, 1) := by decide +kernel
theorem dH_stow_66 : decode cH_stow 66 = .ok (.putfield 31, 3) := by decide +kernel
theorem dH_stow_69 : decode cH_stow 69 = .ok (.return_, 1) := by decide +kernel
theorem dH_unstow_0 : decode cH_unstow 0 = .ok (.aload_n 0, 1) := by decide +kernel
theorem dH_unstow_1 : decode cH_unstow 1 = .ok (.dup, 1) := by decide +kernel
theorem dH_unstow_2 : decode cH_unstow 2 = .ok (.getfield 31, 3) := by decide +kernel
theorem dH_unstow_5 : decode cH_unstow 5 = .ok (.aload_n 0, 1) := by decide +kernel
theorem dH_unstow_6 : decode cH_unstow 6 = .ok (.getfield 21, 3) := by decide +kernel
theorem dH_unstow_9 : decode cH_unstow 9 = .ok (.getfield 44, 3) := by decide +kernel
theorem dH_unstow_12 : decode cH_unstow 12 = .ok (.iload_n 1, 1) := by decide +kernel
theorem dH_unstow_13 : decode cH_unstow 13 = .ok (.iaload, 1) := by decide +kernel
theorem dH_unstow_14 : decode cH_unstow 14 = .ok (.aload_n 0, 1) := by decide +kernel
theorem dH_unstow_15 : decode cH_unstow 15 = .ok (.getfield 15, 3) := by decide +kernel
theorem dH_unstow_18 : decode cH_unstow 18 = .ok (.iload_n 2, 1) := by decide +kernel
theorem dH_unstow_19 : decode cH_unstow 19 = .ok (.iaload, 1) := by decide +kernel
theorem dH_unstow_20 : decode cH_unstow 20 = .ok (.imul, 1) := by decide +kernel
theorem dH_unstow_21 : decode cH_unstow 21 = .ok (.isub, 1) := by decide +kernel
theorem dH_unstow_22 : decode cH_unstow 22 = .ok (.putfield 31, 3) := by decide +kernel
theorem dH_unstow_25 : decode cH_unstow 25 = .ok (.aload_n 0, 1) := by decide +kernel
theorem dH_unstow_26 : decode cH_unstow 26 = .ok (.getfield 18, 3) := by decide +kernel
theorem dH_unstow_29 : decode cH_unstow 29 = .ok (.iload_n 2, 1) := by decide +kernel
theorem dH_unstow_30 : decode cH_unstow 30 = .ok (.dup2, 1) := by decide +kernel
theorem dH_unstow_31 : decode cH_unstow 31 = .ok (.iaload, 1) := by decide +kernel
theorem dH_unstow_32 : decode cH_unstow 32 = .ok (.aload_n 0, 1) := by decide +kernel
theorem dH_unstow_33 : decode cH_unstow 33 = .ok (.getfield 21, 3) := by decide +kernel
theorem dH_unstow_36 : decode cH_unstow 36 = .ok (.getfield 44, 3) := by decide +kernel
theorem dH_unstow_39 : decode cH_unstow 39 = .ok (.iload_n 1, 1) := by decide +kernel
theorem dH_unstow_40 : decode cH_unstow 40 = .ok (.iaload, 1) := by decide +kernel
theorem dH_unstow_41 : decode cH_unstow 41 = .ok (.isub, 1) := by decide +kernel
theorem dH_unstow_42 : decode cH_unstow 42 = .ok (.iastore, 1) := by decide +kernel
theorem dH_unstow_43 : decode cH_unstow 43 = .ok (.aload_n 0, 1) := by decide +kernel
theorem dH_unstow_44 : decode cH_unstow 44 = .ok (.getfield 15, 3) := by decide +kernel
theorem dH_unstow_47 : decode cH_unstow 47 = .ok (.iload_n 2, 1) := by decide +kernel
theorem dH_unstow_48 : decode cH_unstow 48 = .ok (.dup2, 1) := by decide +kernel
theorem dH_unstow_49 : decode cH_unstow 49 = .ok (.iaload, 1) := by decide +kernel
theorem dH_unstow_50 : decode cH_unstow 50 = .ok (.iconst 1, 1) := by decide +kernel
theorem dH_unstow_51 : decode cH_unstow 51 = .ok (.isub, 1) := by decide +kernel
theorem dH_unstow_52 : decode cH_unstow 52 = .ok (.iastore, 1) := by decide +kernel
theorem dH_unstow_53 : decode cH_unstow 53 = .ok (.aload_n 0, 1) := by decide +kernel
theorem dH_unstow_54 : decode cH_unstow 54 = .ok (.getfield 9, 3) := by decide +kernel
theorem dH_unstow_57 : decode cH_unstow 57 = .ok (.iload_n 2, 1) := by decide +kernel
theorem dH_unstow_58 : decode cH_unstow 58 = .ok (.iconst 3, 1) := by decide +kernel
theorem dH_unstow_59 : decode cH_unstow 59 = .ok (.imul, 1) := by decide +kernel
theorem dH_unstow_60 : decode cH_unstow 60 = .ok (.aload_n 0, 1) := by decide +kernel
theorem dH_unstow_61 : decode cH_unstow 61 = .ok (.getfield 15, 3) := by decide +kernel
theorem dH_unstow_64 : decode cH_unstow 64 = .ok (.iload_n 2, 1) := by decide +kernel
theorem dH_unstow_65 : decode cH_unstow 65 = .ok (.iaload, 1) := by decide +kernel
theorem dH_unstow_66 : decode cH_unstow 66 = .ok (.iadd, 1) := by decide +kernel
theorem dH_unstow_67 : decode cH_unstow 67 = .ok (.iconst (-1), 1) := by decide +kernel
theorem dH_unstow_68 : decode cH_unstow 68 = .ok (.iastore, 1) := by decide +kernel
theorem dH_unstow_69 : decode cH_unstow 69 = .ok (.return_, 1) := by decide +kernel
theorem dH_does_0 : decode cH_does 0 = .ok (.aload_n 1, 1) := by decide +kernel
theorem dH_does_1 : decode cH_does 1 = .ok (.getfield 47, 3) := by decide +kernel
theorem dH_does_4 : decode cH_does 4 = .ok (.iload_n 2, 1) := by decide +kernel
theorem dH_does_5 : decode cH_does 5 = .ok (.iaload, 1) := by decide +kernel
theorem dH_does_6 : decode cH_does 6 = .ok (.istore_n 3, 1) := by decide +kernel
theorem dH_does_7 : decode cH_does 7 = .ok (.aload_n 1, 1) := by decide +kernel
theorem dH_does_8 : decode cH_does 8 = .ok (.iload_n 2, 1) := by decide +kernel
theorem dH_does_9 : decode cH_does 9 = .ok (.invokevirtual 52, 3) := by decide +kernel
theorem dH_does_12 : decode cH_does 12 = .ok (.ifCond .eq 17, 3) := by decide +kernel
theorem dH_does_15 : decode cH_does 15 = .ok (.aload_n 0, 1) := by decide +kernel
theorem dH_does_16 : decode cH_does 16 = .ok (.iload_n 3, 1) := by decide +kernel
theorem dH_does_17 : decode cH_does 17 = .ok (.aload_n 1, 1) := by decide +kernel
theorem dH_does_18 : decode cH_does 18 = .ok (.getfield 55, 3) := by decide +kernel
theorem dH_does_21 : decode cH_does 21 = .ok (.iload_n 2, 1) := by decide +kernel
theorem dH_does_22 : decode cH_does 22 = .ok (.iaload, 1) := by decide +kernel
theorem dH_does_23 : decode cH_does 23 = .ok (.invokevirtual 58, 3) := by decide +kernel
theorem dH_does_26 : decode cH_does 26 = .ok (.goto 14, 3) := by decide +kernel
theorem dH_does_29 : decode cH_does 29 = .ok (.aload_n 0, 1) := by decide +kernel
theorem dH_does_30 : decode cH_does 30 = .ok (.iload_n 3, 1) := by decide +kernel
theorem dH_does_31 : decode cH_does 31 = .ok (.aload_n 1, 1) := by decide +kernel
theorem dH_does_32 : decode cH_does 32 = .ok (.getfield 62, 3) := by decide +kernel
theorem dH_does_35 : decode cH_does 35 = .ok (.iload_n 2, 1) := by decide +kernel
theorem dH_does_36 : decode cH_does 36 = .ok (.iaload, 1) := by decide +kernel
theorem dH_does_37 : decode cH_does 37 = .ok (.invokevirtual 65, 3) := by decide +kernel
theorem dH_does_40 : decode cH_does 40 = .ok (.ireturn, 1) := by decide +kernel
theorem dH_loads_0 : decode cH_loads 0 = .ok (.aload_n 0, 1) := by decide +kernel
theorem dH_loads_1 : decode cH_loads 1 = .ok (.iload_n 2, 1) := by decide +kernel
theorem dH_loads_2 : decode cH_loads 2 = .ok (.invokevirtual 68, 3) := by decide +kernel
theorem dH_loads_5 : decode cH_loads 5 = .ok (.ifCond .eq 37, 3) := by decide +kernel
theorem dH_loads_8 : decode cH_loads 8 = .ok (.aload_n 0, 1) := by decide +kernel
theorem dH_loads_9 : decode cH_loads 9 = .ok (.iload_n 1, 1) := by decide +kernel
theorem dH_loads_10 : decode cH_loads 10 = .ok (.invokevirtual 71, 3) := by decide +kernel
theorem dH_loads_13 : decode cH_loads 13 = .ok (.ifCond .ne 29, 3) := by decide +kernel
theorem dH_loads_16 : decode cH_loads 16 = .ok (.aload_n 0, 1) := by decide +kernel
theorem dH_loads_17 : decode cH_loads 17 = .ok (.getfield 18, 3) := by decide +kernel
theorem dH_loads_20 : decode cH_loads 20 = .ok (.iload_n 2, 1) := by decide +kernel
theorem dH_loads_21 : decode cH_loads 21 = .ok (.iaload, 1) := by decide +kernel
theorem dH_loads_22 : decode cH_loads 22 = .ok (.aload_n 0, 1) := by decide +kernel
theorem dH_loads_23 : decode cH_loads 23 = .ok (.getfield 21, 3) := by decide +kernel
theorem dH_loads_26 : decode cH_loads 26 = .ok (.getfield 44, 3) := by decide +kernel
theorem dH_loads_29 : decode cH_loads 29 = .ok (.iload_n 1, 1) := by decide +kernel
theorem dH_loads_30 : decode cH_loads 30 = .ok (.iaload, 1) := by decide +kernel
theorem dH_loads_31 : decode cH_loads 31 = .ok (.iadd, 1) := by decide +kernel
theorem dH_loads_32 : decode cH_loads 32 = .ok (.aload_n 0, 1) := by decide +kernel
theorem dH_loads_33 : decode cH_loads 33 = .ok (.getfield 21, 3) := by decide +kernel
theorem dH_loads_36 : decode cH_loads 36 = .ok (.getfield 74, 3) := by decide +kernel
theorem dH_loads_39 : decode cH_loads 39 = .ok (.if_icmp .le 5, 3) := by decide +kernel
theorem dH_loads_42 : decode cH_loads 42 = .ok (.iconst 0, 1) := by decide +kernel
theorem dH_loads_43 : decode cH_loads 43 = .ok (.ireturn, 1) := by decide +kernel
theorem dH_loads_44 : decode cH_loads 44 = .ok (.aload_n 0, 1) := by decide +kernel
theorem dH_loads_45 : decode cH_loads 45 = .ok (.iload_n 1, 1) := by decide +kernel
theorem dH_loads_46 : decode cH_loads 46 = .ok (.iload_n 2, 1) := by decide +kernel
theorem dH_loads_47 : decode cH_loads 47 = .ok (.invokevirtual 77, 3) := by decide +kernel
theorem dH_loads_50 : decode cH_loads 50 = .ok (.iconst 1, 1) := by decide +kernel
theorem dH_loads_51 : decode cH_loads 51 = .ok (.ireturn, 1) := by decide +kernel
theorem dH_isAboard_0 : decode cH_isAboard 0 = .ok (.aload_n 0, 1) := by decide +kernel
theorem dH_isAboard_1 : decode cH_isAboard 1 = .ok (.invokevirtual 88, 3) := by decide +kernel
theorem dH_isAboard_4 : decode cH_isAboard 4 = .ok (.iload_n 1, 1) := by decide +kernel
theorem dH_isAboard_5 : decode cH_isAboard 5 = .ok (.ishr, 1) := by decide +kernel
theorem dH_isAboard_6 : decode cH_isAboard 6 = .ok (.iconst 1, 1) := by decide +kernel
theorem dH_isAboard_7 : decode cH_isAboard 7 = .ok (.iand, 1) := by decide +kernel
theorem dH_isAboard_8 : decode cH_isAboard 8 = .ok (.iconst 1, 1) := by decide +kernel
theorem dH_isAboard_9 : decode cH_isAboard 9 = .ok (.if_icmp .ne 7, 3) := by decide +kernel
theorem dH_isAboard_12 : decode cH_isAboard 12 = .ok (.iconst 1, 1) := by decide +kernel
theorem dH_isAboard_13 : decode cH_isAboard 13 = .ok (.goto 4, 3) := by decide +kernel
theorem dH_isAboard_16 : decode cH_isAboard 16 = .ok (.iconst 0, 1) := by decide +kernel
theorem dH_isAboard_17 : decode cH_isAboard 17 = .ok (.ireturn, 1) := by decide +kernel
theorem dH_aboard_0 : decode cH_aboard 0 = .ok (.iconst 0, 1) := by decide +kernel
theorem dH_aboard_1 : decode cH_aboard 1 = .ok (.istore_n 1, 1) := by decide +kernel
theorem dH_aboard_2 : decode cH_aboard 2 = .ok (.aload_n 0, 1) := by decide +kernel
theorem dH_aboard_3 : decode cH_aboard 3 = .ok (.getfield 9, 3) := by decide +kernel
theorem dH_aboard_6 : decode cH_aboard 6 = .ok (.astore_n 2, 1) := by decide +kernel
theorem dH_aboard_7 : decode cH_aboard 7 = .ok (.aload_n 2, 1) := by decide +kernel
theorem dH_aboard_8 : decode cH_aboard 8 = .ok (.arraylength, 1) := by decide +kernel
theorem dH_aboard_9 : decode cH_aboard 9 = .ok (.istore_n 3, 1) := by decide +kernel
theorem dH_aboard_10 : decode cH_aboard 10 = .ok (.iconst 0, 1) := by decide +kernel
theorem dH_aboard_11 : decode cH_aboard 11 = .ok (.istore 4, 2) := by decide +kernel
theorem dH_aboard_13 : decode cH_aboard 13 = .ok (.iload 4, 2) := by decide +kernel
theorem dH_aboard_15 : decode cH_aboard 15 = .ok (.iload_n 3, 1) := by decide +kernel
theorem dH_aboard_16 : decode cH_aboard 16 = .ok (.if_icmp .ge 28, 3) := by decide +kernel
theorem dH_aboard_19 : decode cH_aboard 19 = .ok (.aload_n 2, 1) := by decide +kernel
theorem dH_aboard_20 : decode cH_aboard 20 = .ok (.iload 4, 2) := by decide +kernel
theorem dH_aboard_22 : decode cH_aboard 22 = .ok (.iaload, 1) := by decide +kernel
theorem dH_aboard_23 : decode cH_aboard 23 = .ok (.istore 5, 2) := by decide +kernel
theorem dH_aboard_25 : decode cH_aboard 25 = .ok (.iload 5, 2) := by decide +kernel
theorem dH_aboard_27 : decode cH_aboard 27 = .ok (.iconst (-1), 1) := by decide +kernel
theorem dH_aboard_28 : decode cH_aboard 28 = .ok (.if_icmp .eq 10, 3) := by decide +kernel
theorem dH_aboard_31 : decode cH_aboard 31 = .ok (.iload_n 1, 1) := by decide +kernel
theorem dH_aboard_32 : decode cH_aboard 32 = .ok (.iconst 1, 1) := by decide +kernel
theorem dH_aboard_33 : decode cH_aboard 33 = .ok (.iload 5, 2) := by decide +kernel
theorem dH_aboard_35 : decode cH_aboard 35 = .ok (.ishl, 1) := by decide +kernel
theorem dH_aboard_36 : decode cH_aboard 36 = .ok (.ior, 1) := by decide +kernel
theorem dH_aboard_37 : decode cH_aboard 37 = .ok (.istore_n 1, 1) := by decide +kernel
theorem dH_aboard_38 : decode cH_aboard 38 = .ok (.iinc 4 1, 3) := by decide +kernel
theorem dH_aboard_41 : decode cH_aboard 41 = .ok (.goto (-28), 3) := by decide +kernel
theorem dH_aboard_44 : decode cH_aboard 44 = .ok (.iload_n 1, 1) := by decide +kernel
theorem dH_aboard_45 : decode cH_aboard 45 = .ok (.ireturn, 1) := by decide +kernel
theorem dH_unloads_0 : decode cH_unloads 0 = .ok (.aload_n 0, 1) := by decide +kernel
theorem dH_unloads_1 : decode cH_unloads 1 = .ok (.getfield 21, 3) := by decide +kernel
theorem dH_unloads_4 : decode cH_unloads 4 = .ok (.iload_n 2, 1) := by decide +kernel
theorem dH_unloads_5 : decode cH_unloads 5 = .ok (.invokevirtual 35, 3) := by decide +kernel
theorem dH_unloads_8 : decode cH_unloads 8 = .ok (.ifCond .eq 29, 3) := by decide +kernel
theorem dH_unloads_11 : decode cH_unloads 11 = .ok (.aload_n 0, 1) := by decide +kernel
theorem dH_unloads_12 : decode cH_unloads 12 = .ok (.getfield 15, 3) := by decide +kernel
theorem dH_unloads_15 : decode cH_unloads 15 = .ok (.iload_n 2, 1) := by decide +kernel
theorem dH_unloads_16 : decode cH_unloads 16 = .ok (.iaload, 1) := by decide +kernel
theorem dH_unloads_17 : decode cH_unloads 17 = .ok (.ifCond .eq 20, 3) := by decide +kernel
theorem dH_unloads_20 : decode cH_unloads 20 = .ok (.aload_n 0, 1) := by decide +kernel
theorem dH_unloads_21 : decode cH_unloads 21 = .ok (.iload_n 2, 1) := by decide +kernel
theorem dH_unloads_22 : decode cH_unloads 22 = .ok (.aload_n 0, 1) := by decide +kernel
theorem dH_unloads_23 : decode cH_unloads 23 = .ok (.getfield 15, 3) := by decide +kernel
theorem dH_unloads_26 : decode cH_unloads 26 = .ok (.iload_n 2, 1) := by decide +kernel
theorem dH_unloads_27 : decode cH_unloads 27 = .ok (.iaload, 1) := by decide +kernel
theorem dH_unloads_28 : decode cH_unloads 28 = .ok (.iconst 1, 1) := by decide +kernel
theorem dH_unloads_29 : decode cH_unloads 29 = .ok (.isub, 1) := by decide +kernel
theorem dH_unloads_30 : decode cH_unloads 30 = .ok (.invokevirtual 81, 3) := by decide +kernel
theorem dH_unloads_33 : decode cH_unloads 33 = .ok (.iload_n 1, 1) := by decide +kernel
theorem dH_unloads_34 : decode cH_unloads 34 = .ok (.if_icmp .eq 5, 3) := by decide +kernel
theorem dH_unloads_37 : decode cH_unloads 37 = .ok (.iconst 0, 1) := by decide +kernel
theorem dH_unloads_38 : decode cH_unloads 38 = .ok (.ireturn, 1) := by decide +kernel
theorem dH_unloads_39 : decode cH_unloads 39 = .ok (.aload_n 0, 1) := by decide +kernel
theorem dH_unloads_40 : decode cH_unloads 40 = .ok (.iload_n 1, 1) := by decide +kernel
theorem dH_unloads_41 : decode cH_unloads 41 = .ok (.iload_n 2, 1) := by decide +kernel
theorem dH_unloads_42 : decode cH_unloads 42 = .ok (.invokevirtual 85, 3) := by decide +kernel
theorem dH_unloads_45 : decode cH_unloads 45 = .ok (.iconst 1, 1) := by decide +kernel
theorem dH_unloads_46 : decode cH_unloads 46 = .ok (.ireturn, 1) := by decide +kernel
theorem dH_boxAt_0 : decode cH_boxAt 0 = .ok (.aload_n 0, 1) := by decide +kernel
theorem dH_boxAt_1 : decode cH_boxAt 1 = .ok (.getfield 9, 3) := by decide +kernel
theorem dH_boxAt_4 : decode cH_boxAt 4 = .ok (.iload_n 1, 1) := by decide +kernel
theorem dH_boxAt_5 : decode cH_boxAt 5 = .ok (.iconst 3, 1) := by decide +kernel
theorem dH_boxAt_6 : decode cH_boxAt 6 = .ok (.imul, 1) := by decide +kernel
theorem dH_boxAt_7 : decode cH_boxAt 7 = .ok (.iload_n 2, 1) := by decide +kernel
theorem dH_boxAt_8 : decode cH_boxAt 8 = .ok (.iadd, 1) := by decide +kernel
theorem dH_boxAt_9 : decode cH_boxAt 9 = .ok (.iaload, 1) := by decide +kernel
theorem dH_boxAt_10 : decode cH_boxAt 10 = .ok (.ireturn, 1) := by decide +kernel
theorem dH_mayDepart_0 : decode cH_mayDepart 0 = .ok (.aload_n 0, 1) := by decide +kernel
theorem dH_mayDepart_1 : decode cH_mayDepart 1 = .ok (.invokevirtual 88, 3) := by decide +kernel
theorem dH_mayDepart_4 : decode cH_mayDepart 4 = .ok (.aload_n 0, 1) := by decide +kernel
theorem dH_mayDepart_5 : decode cH_mayDepart 5 = .ok (.getfield 21, 3) := by decide +kernel
theorem dH_mayDepart_8 : decode cH_mayDepart 8 = .ok (.iload_n 1, 1) := by decide +kernel
theorem dH_mayDepart_9 : decode cH_mayDepart 9 = .ok (.invokevirtual 95, 3) := by decide +kernel
theorem dH_mayDepart_12 : decode cH_mayDepart 12 = .ok (.if_icmp .ne 14, 3) := by decide +kernel
theorem dH_mayDepart_15 : decode cH_mayDepart 15 = .ok (.aload_n 0, 1) := by decide +kernel
theorem dH_mayDepart_16 : decode cH_mayDepart 16 = .ok (.invokevirtual 99, 3) := by decide +kernel
theorem dH_mayDepart_19 : decode cH_mayDepart 19 = .ok (.ifCond .eq 7, 3) := by decide +kernel
theorem dH_mayDepart_22 : decode cH_mayDepart 22 = .ok (.iconst 1, 1) := by decide +kernel
theorem dH_mayDepart_23 : decode cH_mayDepart 23 = .ok (.goto 4, 3) := by decide +kernel
theorem dH_mayDepart_26 : decode cH_mayDepart 26 = .ok (.iconst 0, 1) := by decide +kernel
theorem dH_mayDepart_27 : decode cH_mayDepart 27 = .ok (.ireturn, 1) := by decide +kernel
theorem dP_init_0 : decode cP_init 0 = .ok (.aload_n 0, 1) := by decide +kernel
theorem dP_init_1 : decode cP_init 1 = .ok (.invokespecial 5, 3) := by decide +kernel
theorem dP_init_4 : decode cP_init 4 = .ok (.aload_n 0, 1) := by decide +kernel
theorem dP_init_5 : decode cP_init 5 = .ok (.sipush 2016, 3) := by decide +kernel
theorem dP_init_8 : decode cP_init 8 = .ok (.newarray .int, 2) := by decide +kernel
theorem dP_init_10 : decode cP_init 10 = .ok (.putfield 11, 3) := by decide +kernel
theorem dP_init_13 : decode cP_init 13 = .ok (.aload_n 0, 1) := by decide +kernel
theorem dP_init_14 : decode cP_init 14 = .ok (.sipush 2016, 3) := by decide +kernel
theorem dP_init_17 : decode cP_init 17 = .ok (.newarray .int, 2) := by decide +kernel
theorem dP_init_19 : decode cP_init 19 = .ok (.putfield 15, 3) := by decide +kernel
theorem dP_init_22 : decode cP_init 22 = .ok (.aload_n 0, 1) := by decide +kernel
theorem dP_init_23 : decode cP_init 23 = .ok (.iconst 3, 1) := by decide +kernel
theorem dP_init_24 : decode cP_init 24 = .ok (.newarray .int, 2) := by decide +kernel
theorem dP_init_26 : decode cP_init 26 = .ok (.putfield 18, 3) := by decide +kernel
theorem dP_init_29 : decode cP_init 29 = .ok (.aload_n 0, 1) := by decide +kernel
theorem dP_init_30 : decode cP_init 30 = .ok (.iconst 3, 1) := by decide +kernel
theorem dP_init_31 : decode cP_init 31 = .ok (.newarray .int, 2) := by decide +kernel
theorem dP_init_33 : decode cP_init 33 = .ok (.putfield 21, 3) := by decide +kernel
theorem dP_init_36 : decode cP_init 36 = .ok (.aload_n 0, 1) := by decide +kernel
theorem dP_init_37 : decode cP_init 37 = .ok (.iconst 3, 1) := by decide +kernel
theorem dP_init_38 : decode cP_init 38 = .ok (.newarray .int, 2) := by decide +kernel
theorem dP_init_40 : decode cP_init 40 = .ok (.putfield 24, 3) := by decide +kernel
theorem dP_init_43 : decode cP_init 43 = .ok (.aload_n 0, 1) := by decide +kernel
theorem dP_init_44 : decode cP_init 44 = .ok (.aload_n 1, 1) := by decide +kernel
theorem dP_init_45 : decode cP_init 45 = .ok (.putfield 27, 3) := by decide +kernel
theorem dP_init_48 : decode cP_init 48 = .ok (.aload_n 0, 1) := by decide +kernel
theorem dP_init_49 : decode cP_init 49 = .ok (.new 31, 3) := by decide +kernel
theorem dP_init_52 : decode cP_init 52 = .ok (.dup, 1) := by decide +kernel
theorem dP_init_53 : decode cP_init 53 = .ok (.aload_n 1, 1) := by decide +kernel
theorem dP_init_54 : decode cP_init 54 = .ok (.invokespecial 33, 3) := by decide +kernel
theorem dP_init_57 : decode cP_init 57 = .ok (.putfield 36, 3) := by decide +kernel
theorem dP_init_60 : decode cP_init 60 = .ok (.return_, 1) := by decide +kernel
theorem dP_listAll_0 : decode cP_listAll 0 = .ok (.aload_n 0, 1) := by decide +kernel
theorem dP_listAll_1 : decode cP_listAll 1 = .ok (.iconst 0, 1) := by decide +kernel
theorem dP_listAll_2 : decode cP_listAll 2 = .ok (.putfield 79, 3) := by decide +kernel
theorem dP_listAll_5 : decode cP_listAll 5 = .ok (.iconst 0, 1) := by decide +kernel
theorem dP_listAll_6 : decode cP_listAll 6 = .ok (.istore_n 1, 1) := by decide +kernel
theorem dP_listAll_7 : decode cP_listAll 7 = .ok (.iload_n 1, 1) := by decide +kernel
theorem dP_listAll_8 : decode cP_listAll 8 = .ok (.aload_n 0, 1) := by decide +kernel
theorem dP_listAll_9 : decode cP_listAll 9 = .ok (.getfield 27, 3) := by decide +kernel
theorem dP_listAll_12 : decode cP_listAll 12 = .ok (.invokevirtual 48, 3) := by decide +kernel
theorem dP_listAll_15 : decode cP_listAll 15 = .ok (.if_icmp .ge 98, 3) := by decide +kernel
theorem dP_listAll_18 : decode cP_listAll 18 = .ok (.iload_n 1, 1) := by decide +kernel
theorem dP_listAll_19 : decode cP_listAll 19 = .ok (.ifCond .le 31, 3) := by decide +kernel
theorem dP_listAll_22 : decode cP_listAll 22 = .ok (.aload_n 0, 1) := by decide +kernel
theorem dP_listAll_23 : decode cP_listAll 23 = .ok (.iload_n 1, 1) := by decide +kernel
theorem dP_listAll_24 : decode cP_listAll 24 = .ok (.iconst 1, 1) := by decide +kernel
theorem dP_listAll_25 : decode cP_listAll 25 = .ok (.isub, 1) := by decide +kernel
theorem dP_listAll_26 : decode cP_listAll 26 = .ok (.iload_n 1, 1) := by decide +kernel
theorem dP_listAll_27 : decode cP_listAll 27 = .ok (.invokevirtual 82, 3) := by decide +kernel
theorem dP_listAll_30 : decode cP_listAll 30 = .ok (.ifCond .eq 20, 3) := by decide +kernel
theorem dP_listAll_33 : decode cP_listAll 33 = .ok (.aload_n 0, 1) := by decide +kernel
theorem dP_listAll_34 : decode cP_listAll 34 = .ok (.getfield 18, 3) := by decide +kernel
theorem dP_listAll_37 : decode cP_listAll 37 = .ok (.iload_n 1, 1) := by decide +kernel
theorem dP_listAll_38 : decode cP_listAll 38 = .ok (.aload_n 0, 1) := by decide +kernel
theorem dP_listAll_39 : decode cP_listAll 39 = .ok (.getfield 18, 3) := by decide +kernel
theorem dP_listAll_42 : decode cP_listAll 42 = .ok (.iload_n 1, 1) := by decide +kernel
theorem dP_listAll_43 : decode cP_listAll 43 = .ok (.iconst 1, 1) := by decide +kernel
theorem dP_listAll_44 : decode cP_listAll 44 = .ok (.isub, 1) := by decide +kernel
theorem dP_listAll_45 : decode cP_listAll 45 = .ok (.iaload, 1) := by decide +kernel
theorem dP_listAll_46 : decode cP_listAll 46 = .ok (.iastore, 1) := by decide +kernel
theorem dP_listAll_47 : decode cP_listAll 47 = .ok (.goto 33, 3) := by decide +kernel
theorem dP_listAll_50 : decode cP_listAll 50 = .ok (.aload_n 0, 1) := by decide +kernel
theorem dP_listAll_51 : decode cP_listAll 51 = .ok (.getfield 18, 3) := by decide +kernel
theorem dP_listAll_54 : decode cP_listAll 54 = .ok (.iload_n 1, 1) := by decide +kernel
theorem dP_listAll_55 : decode cP_listAll 55 = .ok (.aload_n 0, 1) := by decide +kernel
theorem dP_listAll_56 : decode cP_listAll 56 = .ok (.getfield 79, 3) := by decide +kernel
theorem dP_listAll_59 : decode cP_listAll 59 = .ok (.iastore, 1) := by decide +kernel
theorem dP_listAll_60 : decode cP_listAll 60 = .ok (.aload_n 0, 1) := by decide +kernel
theorem dP_listAll_61 : decode cP_listAll 61 = .ok (.getfield 36, 3) := by decide +kernel
theorem dP_listAll_64 : decode cP_listAll 64 = .ok (.invokevirtual 86, 3) := by decide +kernel
theorem dP_listAll_67 : decode cP_listAll 67 = .ok (.aload_n 0, 1) := by decide +kernel
theorem dP_listAll_68 : decode cP_listAll 68 = .ok (.iconst 0, 1) := by decide +kernel
theorem dP_listAll_69 : decode cP_listAll 69 = .ok (.aload_n 0, 1) := by decide +kernel
theorem dP_listAll_70 : decode cP_listAll 70 = .ok (.getfield 27, 3) := by decide +kernel
theorem dP_listAll_73 : decode cP_listAll 73 = .ok (.iload_n 1, 1) := by decide +kernel
theorem dP_listAll_74 : decode cP_listAll 74 = .ok (.invokevirtual 89, 3) := by decide +kernel
theorem dP_listAll_77 : decode cP_listAll 77 = .ok (.invokevirtual 93, 3) := by decide +kernel
theorem dP_listAll_80 : decode cP_listAll 80 = .ok (.aload_n 0, 1) := by decide +kernel
theorem dP_listAll_81 : decode cP_listAll 81 = .ok (.getfield 21, 3) := by decide +kernel
theorem dP_listAll_84 : decode cP_listAll 84 = .ok (.iload_n 1, 1) := by decide +kernel
theorem dP_listAll_85 : decode cP_listAll 85 = .ok (.aload_n 0, 1) := by decide +kernel
theorem dP_listAll_86 : decode cP_listAll 86 = .ok (.getfield 79, 3) := by decide +kernel
theorem dP_listAll_89 : decode cP_listAll 89 = .ok (.iastore, 1) := by decide +kernel
theorem dP_listAll_90 : decode cP_listAll 90 = .ok (.aload_n 0, 1) := by decide +kernel
theorem dP_listAll_91 : decode cP_listAll 91 = .ok (.getfield 18, 3) := by decide +kernel
theorem dP_listAll_94 : decode cP_listAll 94 = .ok (.iload_n 1, 1) := by decide +kernel
theorem dP_listAll_95 : decode cP_listAll 95 = .ok (.iaload, 1) := by decide +kernel
theorem dP_listAll_96 : decode cP_listAll 96 = .ok (.aload_n 0, 1) := by decide +kernel
theorem dP_listAll_97 : decode cP_listAll 97 = .ok (.getfield 21, 3) := by decide +kernel
theorem dP_listAll_100 : decode cP_listAll 100 = .ok (.iload_n 1, 1) := by decide +kernel
theorem dP_listAll_101 : decode cP_listAll 101 = .ok (.iaload, 1) := by decide +kernel
theorem dP_listAll_102 : decode cP_listAll 102 = .ok (.if_icmp .ne 5, 3) := by decide +kernel
theorem dP_listAll_105 : decode cP_listAll 105 = .ok (.iconst 0, 1) := by decide +kernel
theorem dP_listAll_106 : decode cP_listAll 106 = .ok (.ireturn, 1) := by decide +kernel
theorem dP_listAll_107 : decode cP_listAll 107 = .ok (.iinc 1 1, 3) := by decide +kernel
theorem dP_listAll_110 : decode cP_listAll 110 = .ok (.goto (-103), 3) := by decide +kernel
theorem dP_listAll_113 : decode cP_listAll 113 = .ok (.iconst 1, 1) := by decide +kernel
theorem dP_listAll_114 : decode cP_listAll 114 = .ok (.ireturn, 1) := by decide +kernel
theorem dP_sameBoxes_0 : decode cP_sameBoxes 0 = .ok (.aload_n 0, 1) := by decide +kernel
theorem dP_sameBoxes_1 : decode cP_sameBoxes 1 = .ok (.getfield 27, 3) := by decide +kernel
theorem dP_sameBoxes_4 : decode cP_sameBoxes 4 = .ok (.iload_n 1, 1) := by decide +kernel
theorem dP_sameBoxes_5 : decode cP_sameBoxes 5 = .ok (.invokevirtual 89, 3) := by decide +kernel
theorem dP_sameBoxes_8 : decode cP_sameBoxes 8 = .ok (.aload_n 0, 1) := by decide +kernel
theorem dP_sameBoxes_9 : decode cP_sameBoxes 9 = .ok (.getfield 27, 3) := by decide +kernel
theorem dP_sameBoxes_12 : decode cP_sameBoxes 12 = .ok (.iload_n 2, 1) := by decide +kernel
theorem dP_sameBoxes_13 : decode cP_sameBoxes 13 = .ok (.invokevirtual 89, 3) := by decide +kernel
theorem dP_sameBoxes_16 : decode cP_sameBoxes 16 = .ok (.if_icmp .ne 7, 3) := by decide +kernel
theorem dP_sameBoxes_19 : decode cP_sameBoxes 19 = .ok (.iconst 1, 1) := by decide +kernel
theorem dP_sameBoxes_20 : decode cP_sameBoxes 20 = .ok (.goto 4, 3) := by decide +kernel
theorem dP_sameBoxes_23 : decode cP_sameBoxes 23 = .ok (.iconst 0, 1) := by decide +kernel
theorem dP_sameBoxes_24 : decode cP_sameBoxes 24 = .ok (.ireturn, 1) := by decide +kernel
theorem dP_listFrom_0 : decode cP_listFrom 0 = .ok (.aload_n 0, 1) := by decide +kernel
theorem dP_listFrom_1 : decode cP_listFrom 1 = .ok (.iload_n 1, 1) := by decide +kernel
theorem dP_listFrom_2 : decode cP_listFrom 2 = .ok (.iload_n 2, 1) := by decide +kernel
theorem dP_listFrom_3 : decode cP_listFrom 3 = .ok (.invokevirtual 97, 3) := by decide +kernel
theorem dP_listFrom_6 : decode cP_listFrom 6 = .ok (.aload_n 0, 1) := by decide +kernel
theorem dP_listFrom_7 : decode cP_listFrom 7 = .ok (.getfield 36, 3) := by decide +kernel
theorem dP_listFrom_10 : decode cP_listFrom 10 = .ok (.iload_n 1, 1) := by decide +kernel
theorem dP_listFrom_11 : decode cP_listFrom 11 = .ok (.invokevirtual 100, 3) := by decide +kernel
theorem dP_listFrom_14 : decode cP_listFrom 14 = .ok (.ifCond .eq 32, 3) := by decide +kernel
theorem dP_listFrom_17 : decode cP_listFrom 17 = .ok (.iconst 0, 1) := by decide +kernel
theorem dP_listFrom_18 : decode cP_listFrom 18 = .ok (.istore_n 3, 1) := by decide +kernel
theorem dP_listFrom_19 : decode cP_listFrom 19 = .ok (.iload_n 3, 1) := by decide +kernel
theorem dP_listFrom_20 : decode cP_listFrom 20 = .ok (.iconst 5, 1) := by decide +kernel
theorem dP_listFrom_21 : decode cP_listFrom 21 = .ok (.if_icmp .ge 25, 3) := by decide +kernel
theorem dP_listFrom_24 : decode cP_listFrom 24 = .ok (.iload_n 2, 1) := by decide +kernel
theorem dP_listFrom_25 : decode cP_listFrom 25 = .ok (.iload_n 3, 1) := by decide +kernel
theorem dP_listFrom_26 : decode cP_listFrom 26 = .ok (.ishr, 1) := by decide +kernel
theorem dP_listFrom_27 : decode cP_listFrom 27 = .ok (.iconst 1, 1) := by decide +kernel
theorem dP_listFrom_28 : decode cP_listFrom 28 = .ok (.iand, 1) := by decide +kernel
theorem dP_listFrom_29 : decode cP_listFrom 29 = .ok (.iconst 1, 1) := by decide +kernel
theorem dP_listFrom_30 : decode cP_listFrom 30 = .ok (.if_icmp .ne 10, 3) := by decide +kernel
theorem dP_listFrom_33 : decode cP_listFrom 33 = .ok (.aload_n 0, 1) := by decide +kernel
theorem dP_listFrom_34 : decode cP_listFrom 34 = .ok (.iload_n 3, 1) := by decide +kernel
theorem dP_listFrom_35 : decode cP_listFrom 35 = .ok (.iload_n 1, 1) := by decide +kernel
theorem dP_listFrom_36 : decode cP_listFrom 36 = .ok (.iload_n 2, 1) := by decide +kernel
theorem dP_listFrom_37 : decode cP_listFrom 37 = .ok (.invokevirtual 104, 3) := by decide +kernel
theorem dP_listFrom_40 : decode cP_listFrom 40 = .ok (.iinc 3 1, 3) := by decide +kernel
theorem dP_listFrom_43 : decode cP_listFrom 43 = .ok (.goto (-24), 3) := by decide +kernel
theorem dP_listFrom_46 : decode cP_listFrom 46 = .ok (.return_, 1) := by decide +kernel
theorem dP_listBehind_0 : decode cP_listBehind 0 = .ok (.iload_n 1, 1) := by decide +kernel
theorem dP_listBehind_1 : decode cP_listBehind 1 = .ok (.iconst 1, 1) := by decide +kernel
theorem dP_listBehind_2 : decode cP_listBehind 2 = .ok (.iadd, 1) := by decide +kernel
theorem dP_listBehind_3 : decode cP_listBehind 3 = .ok (.aload_n 0, 1) := by decide +kernel
theorem dP_listBehind_4 : decode cP_listBehind 4 = .ok (.getfield 27, 3) := by decide +kernel
theorem dP_listBehind_7 : decode cP_listBehind 7 = .ok (.getfield 59, 3) := by decide +kernel
theorem dP_listBehind_10 : decode cP_listBehind 10 = .ok (.if_icmp .ge 14, 3) := by decide +kernel
theorem dP_listBehind_13 : decode cP_listBehind 13 = .ok (.aload_n 0, 1) := by decide +kernel
theorem dP_listBehind_14 : decode cP_listBehind 14 = .ok (.iload_n 1, 1) := by decide +kernel
theorem dP_listBehind_15 : decode cP_listBehind 15 = .ok (.iconst 1, 1) := by decide +kernel
theorem dP_listBehind_16 : decode cP_listBehind 16 = .ok (.iadd, 1) := by decide +kernel
theorem dP_listBehind_17 : decode cP_listBehind 17 = .ok (.iload_n 2, 1) := by decide +kernel
theorem dP_listBehind_18 : decode cP_listBehind 18 = .ok (.invokevirtual 93, 3) := by decide +kernel
theorem dP_listBehind_21 : decode cP_listBehind 21 = .ok (.goto 53, 3) := by decide +kernel
theorem dP_listBehind_24 : decode cP_listBehind 24 = .ok (.iload_n 2, 1) := by decide +kernel
theorem dP_listBehind_25 : decode cP_listBehind 25 = .ok (.ifCond .ne 49, 3) := by decide +kernel
theorem dP_listBehind_28 : decode cP_listBehind 28 = .ok (.aload_n 0, 1) := by decide +kernel
theorem dP_listBehind_29 : decode cP_listBehind 29 = .ok (.getfield 79, 3) := by decide +kernel
theorem dP_listBehind_32 : decode cP_listBehind 32 = .ok (.sipush 2016, 3) := by decide +kernel
theorem dP_listBehind_35 : decode cP_listBehind 35 = .ok (.if_icmp .ge 39, 3) := by decide +kernel
theorem dP_listBehind_38 : decode cP_listBehind 38 = .ok (.aload_n 0, 1) := by decide +kernel
theorem dP_listBehind_39 : decode cP_listBehind 39 = .ok (.getfield 36, 3) := by decide +kernel
theorem dP_listBehind_42 : decode cP_listBehind 42 = .ok (.invokevirtual 108, 3) := by decide +kernel
theorem dP_listBehind_45 : decode cP_listBehind 45 = .ok (.ifCond .eq 29, 3) := by decide +kernel
theorem dP_listBehind_48 : decode cP_listBehind 48 = .ok (.aload_n 0, 1) := by decide +kernel
theorem dP_listBehind_49 : decode cP_listBehind 49 = .ok (.getfield 11, 3) := by decide +kernel
theorem dP_listBehind_52 : decode cP_listBehind 52 = .ok (.aload_n 0, 1) := by decide +kernel
theorem dP_listBehind_53 : decode cP_listBehind 53 = .ok (.getfield 79, 3) := by decide +kernel
theorem dP_listBehind_56 : decode cP_listBehind 56 = .ok (.aload_n 0, 1) := by decide +kernel
theorem dP_listBehind_57 : decode cP_listBehind 57 = .ok (.getfield 36, 3) := by decide +kernel
theorem dP_listBehind_60 : decode cP_listBehind 60 = .ok (.invokestatic 112, 3) := by decide +kernel
theorem dP_listBehind_63 : decode cP_listBehind 63 = .ok (.iastore, 1) := by decide +kernel
theorem dP_listBehind_64 : decode cP_listBehind 64 = .ok (.aload_n 0, 1) := by decide +kernel
theorem dP_listBehind_65 : decode cP_listBehind 65 = .ok (.dup, 1) := by decide +kernel
theorem dP_listBehind_66 : decode cP_listBehind 66 = .ok (.getfield 79, 3) := by decide +kernel
theorem dP_listBehind_69 : decode cP_listBehind 69 = .ok (.iconst 1, 1) := by decide +kernel
theorem dP_listBehind_70 : decode cP_listBehind 70 = .ok (.iadd, 1) := by decide +kernel
theorem dP_listBehind_71 : decode cP_listBehind 71 = .ok (.putfield 79, 3) := by decide +kernel
theorem dP_listBehind_74 : decode cP_listBehind 74 = .ok (.return_, 1) := by decide +kernel
theorem dP_listWith_0 : decode cP_listWith 0 = .ok (.aload_n 0, 1) := by decide +kernel
theorem dP_listWith_1 : decode cP_listWith 1 = .ok (.getfield 36, 3) := by decide +kernel
theorem dP_listWith_4 : decode cP_listWith 4 = .ok (.iload_n 1, 1) := by decide +kernel
theorem dP_listWith_5 : decode cP_listWith 5 = .ok (.iload_n 2, 1) := by decide +kernel
theorem dP_listWith_6 : decode cP_listWith 6 = .ok (.invokevirtual 116, 3) := by decide +kernel
theorem dP_listWith_9 : decode cP_listWith 9 = .ok (.aload_n 0, 1) := by decide +kernel
theorem dP_listWith_10 : decode cP_listWith 10 = .ok (.iload_n 2, 1) := by decide +kernel
theorem dP_listWith_11 : decode cP_listWith 11 = .ok (.iload_n 3, 1) := by decide +kernel
theorem dP_listWith_12 : decode cP_listWith 12 = .ok (.iconst 1, 1) := by decide +kernel
theorem dP_listWith_13 : decode cP_listWith 13 = .ok (.iload_n 1, 1) := by decide +kernel
theorem dP_listWith_14 : decode cP_listWith 14 = .ok (.ishl, 1) := by decide +kernel
theorem dP_listWith_15 : decode cP_listWith 15 = .ok (.iconst (-1), 1) := by decide +kernel
theorem dP_listWith_16 : decode cP_listWith 16 = .ok (.ixor, 1) := by decide +kernel
theorem dP_listWith_17 : decode cP_listWith 17 = .ok (.iand, 1) := by decide +kernel
theorem dP_listWith_18 : decode cP_listWith 18 = .ok (.invokevirtual 93, 3) := by decide +kernel
theorem dP_listWith_21 : decode cP_listWith 21 = .ok (.aload_n 0, 1) := by decide +kernel
theorem dP_listWith_22 : decode cP_listWith 22 = .ok (.getfield 36, 3) := by decide +kernel
theorem dP_listWith_25 : decode cP_listWith 25 = .ok (.iload_n 1, 1) := by decide +kernel
theorem dP_listWith_26 : decode cP_listWith 26 = .ok (.iload_n 2, 1) := by decide +kernel
theorem dP_listWith_27 : decode cP_listWith 27 = .ok (.invokevirtual 119, 3) := by decide +kernel
theorem dP_listWith_30 : decode cP_listWith 30 = .ok (.return_, 1) := by decide +kernel
theorem dP_chooseAll_0 : decode cP_chooseAll 0 = .ok (.aload_n 0, 1) := by decide +kernel
theorem dP_chooseAll_1 : decode cP_chooseAll 1 = .ok (.getfield 15, 3) := by decide +kernel
theorem dP_chooseAll_4 : decode cP_chooseAll 4 = .ok (.iconst 0, 1) := by decide +kernel
theorem dP_chooseAll_5 : decode cP_chooseAll 5 = .ok (.invokestatic 122, 3) := by decide +kernel
theorem dP_chooseAll_8 : decode cP_chooseAll 8 = .ok (.iconst 0, 1) := by decide +kernel
theorem dP_chooseAll_9 : decode cP_chooseAll 9 = .ok (.istore_n 1, 1) := by decide +kernel
theorem dP_chooseAll_10 : decode cP_chooseAll 10 = .ok (.iload_n 1, 1) := by decide +kernel
theorem dP_chooseAll_11 : decode cP_chooseAll 11 = .ok (.bipush 10, 2) := by decide +kernel
theorem dP_chooseAll_13 : decode cP_chooseAll 13 = .ok (.if_icmp .gt 21, 3) := by decide +kernel
theorem dP_chooseAll_16 : decode cP_chooseAll 16 = .ok (.aload_n 0, 1) := by decide +kernel
theorem dP_chooseAll_17 : decode cP_chooseAll 17 = .ok (.iconst 0, 1) := by decide +kernel
theorem dP_chooseAll_18 : decode cP_chooseAll 18 = .ok (.iconst 0, 1) := by decide +kernel
theorem dP_chooseAll_19 : decode cP_chooseAll 19 = .ok (.iload_n 1, 1) := by decide +kernel
theorem dP_chooseAll_20 : decode cP_chooseAll 20 = .ok (.invokevirtual 128, 3) := by decide +kernel
theorem dP_chooseAll_23 : decode cP_chooseAll 23 = .ok (.ifCond .eq 5, 3) := by decide +kernel
theorem dP_chooseAll_26 : decode cP_chooseAll 26 = .ok (.iload_n 1, 1) := by decide +kernel
theorem dP_chooseAll_27 : decode cP_chooseAll 27 = .ok (.ireturn, 1) := by decide +kernel
theorem dP_chooseAll_28 : decode cP_chooseAll 28 = .ok (.iinc 1 1, 3) := by decide +kernel
theorem dP_chooseAll_31 : decode cP_chooseAll 31 = .ok (.goto (-21), 3) := by decide +kernel
theorem dP_chooseAll_34 : decode cP_chooseAll 34 = .ok (.iconst (-1), 1) := by decide +kernel
theorem dP_chooseAll_35 : decode cP_chooseAll 35 = .ok (.ireturn, 1) := by decide +kernel
theorem dP_chooses_0 : decode cP_chooses 0 = .ok (.iload_n 1, 1) := by decide +kernel
theorem dP_chooses_1 : decode cP_chooses 1 = .ok (.ifCond .ne 7, 3) := by decide +kernel
theorem dP_chooses_4 : decode cP_chooses 4 = .ok (.iconst 0, 1) := by decide +kernel
theorem dP_chooses_5 : decode cP_chooses 5 = .ok (.goto 10, 3) := by decide +kernel
theorem dP_chooses_8 : decode cP_chooses 8 = .ok (.aload_n 0, 1) := by decide +kernel
theorem dP_chooses_9 : decode cP_chooses 9 = .ok (.iload_n 1, 1) := by decide +kernel
theorem dP_chooses_10 : decode cP_chooses 10 = .ok (.iconst 1, 1) := by decide +kernel
theorem dP_chooses_11 : decode cP_chooses 11 = .ok (.isub, 1) := by decide +kernel
theorem dP_chooses_12 : decode cP_chooses 12 = .ok (.invokevirtual 132, 3) := by decide +kernel
theorem dP_chooses_15 : decode cP_chooses 15 = .ok (.istore 4, 2) := by decide +kernel
theorem dP_chooses_17 : decode cP_chooses 17 = .ok (.aload_n 0, 1) := by decide +kernel
theorem dP_chooses_18 : decode cP_chooses 18 = .ok (.getfield 18, 3) := by decide +kernel
theorem dP_chooses_21 : decode cP_chooses 21 = .ok (.iload_n 1, 1) := by decide +kernel
theorem dP_chooses_22 : decode cP_chooses 22 = .ok (.iaload, 1) := by decide +kernel
theorem dP_chooses_23 : decode cP_chooses 23 = .ok (.istore 5, 2) := by decide +kernel
theorem dP_chooses_25 : decode cP_chooses 25 = .ok (.iload 5, 2) := by decide +kernel
theorem dP_chooses_27 : decode cP_chooses 27 = .ok (.aload_n 0, 1) := by decide +kernel
theorem dP_chooses_28 : decode cP_chooses 28 = .ok (.getfield 21, 3) := by decide +kernel
theorem dP_chooses_31 : decode cP_chooses 31 = .ok (.iload_n 1, 1) := by decide +kernel
theorem dP_chooses_32 : decode cP_chooses 32 = .ok (.iaload, 1) := by decide +kernel
theorem dP_chooses_33 : decode cP_chooses 33 = .ok (.if_icmp .ge 66, 3) := by decide +kernel
theorem dP_chooses_36 : decode cP_chooses 36 = .ok (.iload_n 3, 1) := by decide +kernel
theorem dP_chooses_37 : decode cP_chooses 37 = .ok (.iload 4, 2) := by decide +kernel
theorem dP_chooses_39 : decode cP_chooses 39 = .ok (.isub, 1) := by decide +kernel
theorem dP_chooses_40 : decode cP_chooses 40 = .ok (.iload_n 2, 1) := by decide +kernel
theorem dP_chooses_41 : decode cP_chooses 41 = .ok (.aload_n 0, 1) := by decide +kernel
theorem dP_chooses_42 : decode cP_chooses 42 = .ok (.getfield 11, 3) := by decide +kernel
theorem dP_chooses_45 : decode cP_chooses 45 = .ok (.iload 5, 2) := by decide +kernel
theorem dP_chooses_47 : decode cP_chooses 47 = .ok (.iaload, 1) := by decide +kernel
theorem dP_chooses_48 : decode cP_chooses 48 = .ok (.invokestatic 135, 3) := by decide +kernel
theorem dP_chooses_51 : decode cP_chooses 51 = .ok (.iadd, 1) := by decide +kernel
theorem dP_chooses_52 : decode cP_chooses 52 = .ok (.istore 6, 2) := by decide +kernel
theorem dP_chooses_54 : decode cP_chooses 54 = .ok (.aload_n 0, 1) := by decide +kernel
theorem dP_chooses_55 : decode cP_chooses 55 = .ok (.getfield 15, 3) := by decide +kernel
theorem dP_chooses_58 : decode cP_chooses 58 = .ok (.iload 5, 2) := by decide +kernel
theorem dP_chooses_60 : decode cP_chooses 60 = .ok (.iaload, 1) := by decide +kernel
theorem dP_chooses_61 : decode cP_chooses 61 = .ok (.iload 6, 2) := by decide +kernel
theorem dP_chooses_63 : decode cP_chooses 63 = .ok (.if_icmp .gt 30, 3) := by decide +kernel
theorem dP_chooses_66 : decode cP_chooses 66 = .ok (.aload_n 0, 1) := by decide +kernel
theorem dP_chooses_67 : decode cP_chooses 67 = .ok (.iload_n 1, 1) := by decide +kernel
theorem dP_chooses_68 : decode cP_chooses 68 = .ok (.iload 5, 2) := by decide +kernel
theorem dP_chooses_70 : decode cP_chooses 70 = .ok (.iload 6, 2) := by decide +kernel
theorem dP_chooses_72 : decode cP_chooses 72 = .ok (.invokevirtual 138, 3) := by decide +kernel
theorem dP_chooses_75 : decode cP_chooses 75 = .ok (.ifCond .eq 18, 3) := by decide +kernel
theorem dP_chooses_78 : decode cP_chooses 78 = .ok (.aload_n 0, 1) := by decide +kernel
theorem dP_chooses_79 : decode cP_chooses 79 = .ok (.getfield 24, 3) := by decide +kernel
theorem dP_chooses_82 : decode cP_chooses 82 = .ok (.iload_n 1, 1) := by decide +kernel
theorem dP_chooses_83 : decode cP_chooses 83 = .ok (.aload_n 0, 1) := by decide +kernel
theorem dP_chooses_84 : decode cP_chooses 84 = .ok (.getfield 11, 3) := by decide +kernel
theorem dP_chooses_87 : decode cP_chooses 87 = .ok (.iload 5, 2) := by decide +kernel
theorem dP_chooses_89 : decode cP_chooses 89 = .ok (.iaload, 1) := by decide +kernel
theorem dP_chooses_90 : decode cP_chooses 90 = .ok (.iastore, 1) := by decide +kernel
theorem dP_chooses_91 : decode cP_chooses 91 = .ok (.iconst 1, 1) := by decide +kernel
theorem dP_chooses_92 : decode cP_chooses 92 = .ok (.ireturn, 1) := by decide +kernel
theorem dP_chooses_93 : decode cP_chooses 93 = .ok (.iinc 5 1, 3) := by decide +kernel
theorem dP_chooses_96 : decode cP_chooses 96 = .ok (.goto (-71), 3) := by decide +kernel
theorem dP_chooses_99 : decode cP_chooses 99 = .ok (.iconst 0, 1) := by decide +kernel
theorem dP_chooses_100 : decode cP_chooses 100 = .ok (.ireturn, 1) := by decide +kernel
theorem dP_staying_0 : decode cP_staying 0 = .ok (.aload_n 0, 1) := by decide +kernel
theorem dP_staying_1 : decode cP_staying 1 = .ok (.getfield 27, 3) := by decide +kernel
theorem dP_staying_4 : decode cP_staying 4 = .ok (.iload_n 1, 1) := by decide +kernel
theorem dP_staying_5 : decode cP_staying 5 = .ok (.invokevirtual 89, 3) := by decide +kernel
theorem dP_staying_8 : decode cP_staying 8 = .ok (.aload_n 0, 1) := by decide +kernel
theorem dP_staying_9 : decode cP_staying 9 = .ok (.getfield 27, 3) := by decide +kernel
theorem dP_staying_12 : decode cP_staying 12 = .ok (.iload_n 1, 1) := by decide +kernel
theorem dP_staying_13 : decode cP_staying 13 = .ok (.iconst 1, 1) := by decide +kernel
theorem dP_staying_14 : decode cP_staying 14 = .ok (.iadd, 1) := by decide +kernel
theorem dP_staying_15 : decode cP_staying 15 = .ok (.invokevirtual 89, 3) := by decide +kernel
theorem dP_staying_18 : decode cP_staying 18 = .ok (.iand, 1) := by decide +kernel
theorem dP_staying_19 : decode cP_staying 19 = .ok (.invokestatic 141, 3) := by decide +kernel
theorem dP_staying_22 : decode cP_staying 22 = .ok (.ireturn, 1) := by decide +kernel
theorem dP_goesOn_0 : decode cP_goesOn 0 = .ok (.iload_n 1, 1) := by decide +kernel
theorem dP_goesOn_1 : decode cP_goesOn 1 = .ok (.iconst 1, 1) := by decide +kernel
theorem dP_goesOn_2 : decode cP_goesOn 2 = .ok (.iadd, 1) := by decide +kernel
theorem dP_goesOn_3 : decode cP_goesOn 3 = .ok (.aload_n 0, 1) := by decide +kernel
theorem dP_goesOn_4 : decode cP_goesOn 4 = .ok (.getfield 27, 3) := by decide +kernel
theorem dP_goesOn_7 : decode cP_goesOn 7 = .ok (.invokevirtual 48, 3) := by decide +kernel
theorem dP_goesOn_10 : decode cP_goesOn 10 = .ok (.if_icmp .ge 20, 3) := by decide +kernel
theorem dP_goesOn_13 : decode cP_goesOn 13 = .ok (.aload_n 0, 1) := by decide +kernel
theorem dP_goesOn_14 : decode cP_goesOn 14 = .ok (.iload_n 1, 1) := by decide +kernel
theorem dP_goesOn_15 : decode cP_goesOn 15 = .ok (.iconst 1, 1) := by decide +kernel
theorem dP_goesOn_16 : decode cP_goesOn 16 = .ok (.iadd, 1) := by decide +kernel
theorem dP_goesOn_17 : decode cP_goesOn 17 = .ok (.aload_n 0, 1) := by decide +kernel
theorem dP_goesOn_18 : decode cP_goesOn 18 = .ok (.getfield 11, 3) := by decide +kernel
theorem dP_goesOn_21 : decode cP_goesOn 21 = .ok (.iload_n 2, 1) := by decide +kernel
theorem dP_goesOn_22 : decode cP_goesOn 22 = .ok (.iaload, 1) := by decide +kernel
theorem dP_goesOn_23 : decode cP_goesOn 23 = .ok (.iload_n 3, 1) := by decide +kernel
theorem dP_goesOn_24 : decode cP_goesOn 24 = .ok (.invokevirtual 128, 3) := by decide +kernel
theorem dP_goesOn_27 : decode cP_goesOn 27 = .ok (.ifCond .eq 5, 3) := by decide +kernel
theorem dP_goesOn_30 : decode cP_goesOn 30 = .ok (.iconst 1, 1) := by decide +kernel
theorem dP_goesOn_31 : decode cP_goesOn 31 = .ok (.ireturn, 1) := by decide +kernel
theorem dP_goesOn_32 : decode cP_goesOn 32 = .ok (.aload_n 0, 1) := by decide +kernel
theorem dP_goesOn_33 : decode cP_goesOn 33 = .ok (.getfield 15, 3) := by decide +kernel
theorem dP_goesOn_36 : decode cP_goesOn 36 = .ok (.iload_n 2, 1) := by decide +kernel
theorem dP_goesOn_37 : decode cP_goesOn 37 = .ok (.iload_n 3, 1) := by decide +kernel
theorem dP_goesOn_38 : decode cP_goesOn 38 = .ok (.iconst 1, 1) := by decide +kernel
theorem dP_goesOn_39 : decode cP_goesOn 39 = .ok (.iadd, 1) := by decide +kernel
theorem dP_goesOn_40 : decode cP_goesOn 40 = .ok (.iastore, 1) := by decide +kernel
theorem dP_goesOn_41 : decode cP_goesOn 41 = .ok (.iconst 0, 1) := by decide +kernel
theorem dP_goesOn_42 : decode cP_goesOn 42 = .ok (.ireturn, 1) := by decide +kernel
theorem dP_writeInto_0 : decode cP_writeInto 0 = .ok (.iconst 0, 1) := by decide +kernel
theorem dP_writeInto_1 : decode cP_writeInto 1 = .ok (.istore_n 2, 1) := by decide +kernel
theorem dP_writeInto_2 : decode cP_writeInto 2 = .ok (.iconst 0, 1) := by decide +kernel
theorem dP_writeInto_3 : decode cP_writeInto 3 = .ok (.istore_n 3, 1) := by decide +kernel
theorem dP_writeInto_4 : decode cP_writeInto 4 = .ok (.iload_n 3, 1) := by decide +kernel
theorem dP_writeInto_5 : decode cP_writeInto 5 = .ok (.aload_n 0, 1) := by decide +kernel
theorem dP_writeInto_6 : decode cP_writeInto 6 = .ok (.getfield 27, 3) := by decide +kernel
theorem dP_writeInto_9 : decode cP_writeInto 9 = .ok (.getfield 42, 3) := by decide +kernel
theorem dP_writeInto_12 : decode cP_writeInto 12 = .ok (.if_icmp .ge 53, 3) := by decide +kernel
theorem dP_writeInto_15 : decode cP_writeInto 15 = .ok (.iload_n 3, 1) := by decide +kernel
theorem dP_writeInto_16 : decode cP_writeInto 16 = .ok (.aload_n 0, 1) := by decide +kernel
theorem dP_writeInto_17 : decode cP_writeInto 17 = .ok (.getfield 27, 3) := by decide +kernel
theorem dP_writeInto_20 : decode cP_writeInto 20 = .ok (.invokevirtual 48, 3) := by decide +kernel
theorem dP_writeInto_23 : decode cP_writeInto 23 = .ok (.if_icmp .ge 12, 3) := by decide +kernel
theorem dP_writeInto_26 : decode cP_writeInto 26 = .ok (.aload_n 0, 1) := by decide +kernel
theorem dP_writeInto_27 : decode cP_writeInto 27 = .ok (.getfield 24, 3) := by decide +kernel
theorem dP_writeInto_30 : decode cP_writeInto 30 = .ok (.iload_n 3, 1) := by decide +kernel
theorem dP_writeInto_31 : decode cP_writeInto 31 = .ok (.iaload, 1) := by decide +kernel
theorem dP_writeInto_32 : decode cP_writeInto 32 = .ok (.goto 4, 3) := by decide +kernel
theorem dP_writeInto_35 : decode cP_writeInto 35 = .ok (.iconst 0, 1) := by decide +kernel
theorem dP_writeInto_36 : decode cP_writeInto 36 = .ok (.istore 4, 2) := by decide +kernel
theorem dP_writeInto_38 : decode cP_writeInto 38 = .ok (.aload_n 0, 1) := by decide +kernel
theorem dP_writeInto_39 : decode cP_writeInto 39 = .ok (.aload_n 1, 1) := by decide +kernel
theorem dP_writeInto_40 : decode cP_writeInto 40 = .ok (.iload_n 3, 1) := by decide +kernel
theorem dP_writeInto_41 : decode cP_writeInto 41 = .ok (.iload_n 2, 1) := by decide +kernel
theorem dP_writeInto_42 : decode cP_writeInto 42 = .ok (.iload 4, 2) := by decide +kernel
theorem dP_writeInto_44 : decode cP_writeInto 44 = .ok (.invokevirtual 52, 3) := by decide +kernel
theorem dP_writeInto_47 : decode cP_writeInto 47 = .ok (.aload_n 0, 1) := by decide +kernel
theorem dP_writeInto_48 : decode cP_writeInto 48 = .ok (.aload_n 1, 1) := by decide +kernel
theorem dP_writeInto_49 : decode cP_writeInto 49 = .ok (.iload_n 3, 1) := by decide +kernel
theorem dP_writeInto_50 : decode cP_writeInto 50 = .ok (.iload_n 2, 1) := by decide +kernel
theorem dP_writeInto_51 : decode cP_writeInto 51 = .ok (.iload 4, 2) := by decide +kernel
theorem dP_writeInto_53 : decode cP_writeInto 53 = .ok (.invokevirtual 56, 3) := by decide +kernel
theorem dP_writeInto_56 : decode cP_writeInto 56 = .ok (.iload 4, 2) := by decide +kernel
theorem dP_writeInto_58 : decode cP_writeInto 58 = .ok (.istore_n 2, 1) := by decide +kernel
theorem dP_writeInto_59 : decode cP_writeInto 59 = .ok (.iinc 3 1, 3) := by decide +kernel
theorem dP_writeInto_62 : decode cP_writeInto 62 = .ok (.goto (-58), 3) := by decide +kernel
theorem dP_writeInto_65 : decode cP_writeInto 65 = .ok (.return_, 1) := by decide +kernel
theorem dP_writeTakenOff_0 : decode cP_writeTakenOff 0 = .ok (.iconst 0, 1) := by decide +kernel
theorem dP_writeTakenOff_1 : decode cP_writeTakenOff 1 = .ok (.istore 5, 2) := by decide +kernel
theorem dP_writeTakenOff_3 : decode cP_writeTakenOff 3 = .ok (.iload 5, 2) := by decide +kernel
theorem dP_writeTakenOff_5 : decode cP_writeTakenOff 5 = .ok (.aload_n 0, 1) := by decide +kernel
theorem dP_writeTakenOff_6 : decode cP_writeTakenOff 6 = .ok (.getfield 27, 3) := by decide +kernel
theorem dP_writeTakenOff_9 : decode cP_writeTakenOff 9 = .ok (.getfield 59, 3) := by decide +kernel
theorem dP_writeTakenOff_12 : decode cP_writeTakenOff 12 = .ok (.if_icmp .ge 58, 3) := by decide +kernel
theorem dP_writeTakenOff_15 : decode cP_writeTakenOff 15 = .ok (.iload 5, 2) := by decide +kernel
theorem dP_writeTakenOff_17 : decode cP_writeTakenOff 17 = .ok (.iload_n 3, 1) := by decide +kernel
theorem dP_writeTakenOff_18 : decode cP_writeTakenOff 18 = .ok (.iload 4, 2) := by decide +kernel
theorem dP_writeTakenOff_20 : decode cP_writeTakenOff 20 = .ok (.invokestatic 62, 3) := by decide +kernel
theorem dP_writeTakenOff_23 : decode cP_writeTakenOff 23 = .ok (.istore 6, 2) := by decide +kernel
theorem dP_writeTakenOff_25 : decode cP_writeTakenOff 25 = .ok (.iload_n 3, 1) := by decide +kernel
theorem dP_writeTakenOff_26 : decode cP_writeTakenOff 26 = .ok (.iload 5, 2) := by decide +kernel
theorem dP_writeTakenOff_28 : decode cP_writeTakenOff 28 = .ok (.invokestatic 66, 3) := by decide +kernel
theorem dP_writeTakenOff_31 : decode cP_writeTakenOff 31 = .ok (.iconst 1, 1) := by decide +kernel
theorem dP_writeTakenOff_32 : decode cP_writeTakenOff 32 = .ok (.isub, 1) := by decide +kernel
theorem dP_writeTakenOff_33 : decode cP_writeTakenOff 33 = .ok (.istore 7, 2) := by decide +kernel
theorem dP_writeTakenOff_35 : decode cP_writeTakenOff 35 = .ok (.iload 7, 2) := by decide +kernel
theorem dP_writeTakenOff_37 : decode cP_writeTakenOff 37 = .ok (.iload 6, 2) := by decide +kernel
theorem dP_writeTakenOff_39 : decode cP_writeTakenOff 39 = .ok (.if_icmp .lt 25, 3) := by decide +kernel
theorem dP_writeTakenOff_42 : decode cP_writeTakenOff 42 = .ok (.aload_n 1, 1) := by decide +kernel
theorem dP_writeTakenOff_43 : decode cP_writeTakenOff 43 = .ok (.iload_n 3, 1) := by decide +kernel
theorem dP_writeTakenOff_44 : decode cP_writeTakenOff 44 = .ok (.iload 5, 2) := by decide +kernel
theorem dP_writeTakenOff_46 : decode cP_writeTakenOff 46 = .ok (.iload 7, 2) := by decide +kernel
theorem dP_writeTakenOff_48 : decode cP_writeTakenOff 48 = .ok (.invokestatic 70, 3) := by decide +kernel
theorem dP_writeTakenOff_51 : decode cP_writeTakenOff 51 = .ok (.iload_n 2, 1) := by decide +kernel
theorem dP_writeTakenOff_52 : decode cP_writeTakenOff 52 = .ok (.iload 5, 2) := by decide +kernel
theorem dP_writeTakenOff_54 : decode cP_writeTakenOff 54 = .ok (.iconst (-1), 1) := by decide +kernel
theorem dP_writeTakenOff_55 : decode cP_writeTakenOff 55 = .ok (.invokevirtual 73, 3) := by decide +kernel
theorem dP_writeTakenOff_58 : decode cP_writeTakenOff 58 = .ok (.iinc 7 (-1), 3) := by decide +kernel
theorem dP_writeTakenOff_61 : decode cP_writeTakenOff 61 = .ok (.goto (-26), 3) := by decide +kernel
theorem dP_writeTakenOff_64 : decode cP_writeTakenOff 64 = .ok (.iinc 5 1, 3) := by decide +kernel
theorem dP_writeTakenOff_67 : decode cP_writeTakenOff 67 = .ok (.goto (-64), 3) := by decide +kernel
theorem dP_writeTakenOff_70 : decode cP_writeTakenOff 70 = .ok (.return_, 1) := by decide +kernel
theorem dP_writePutOn_0 : decode cP_writePutOn 0 = .ok (.iconst 0, 1) := by decide +kernel
theorem dP_writePutOn_1 : decode cP_writePutOn 1 = .ok (.istore 5, 2) := by decide +kernel
theorem dP_writePutOn_3 : decode cP_writePutOn 3 = .ok (.iload 5, 2) := by decide +kernel
theorem dP_writePutOn_5 : decode cP_writePutOn 5 = .ok (.aload_n 0, 1) := by decide +kernel
theorem dP_writePutOn_6 : decode cP_writePutOn 6 = .ok (.getfield 27, 3) := by decide +kernel
theorem dP_writePutOn_9 : decode cP_writePutOn 9 = .ok (.getfield 59, 3) := by decide +kernel
theorem dP_writePutOn_12 : decode cP_writePutOn 12 = .ok (.if_icmp .ge 58, 3) := by decide +kernel
theorem dP_writePutOn_15 : decode cP_writePutOn 15 = .ok (.iload 4, 2) := by decide +kernel
theorem dP_writePutOn_17 : decode cP_writePutOn 17 = .ok (.iload 5, 2) := by decide +kernel
theorem dP_writePutOn_19 : decode cP_writePutOn 19 = .ok (.invokestatic 66, 3) := by decide +kernel
theorem dP_writePutOn_22 : decode cP_writePutOn 22 = .ok (.istore 6, 2) := by decide +kernel
theorem dP_writePutOn_24 : decode cP_writePutOn 24 = .ok (.iload 5, 2) := by decide +kernel
theorem dP_writePutOn_26 : decode cP_writePutOn 26 = .ok (.iload_n 3, 1) := by decide +kernel
theorem dP_writePutOn_27 : decode cP_writePutOn 27 = .ok (.iload 4, 2) := by decide +kernel
theorem dP_writePutOn_29 : decode cP_writePutOn 29 = .ok (.invokestatic 62, 3) := by decide +kernel
theorem dP_writePutOn_32 : decode cP_writePutOn 32 = .ok (.istore 7, 2) := by decide +kernel
theorem dP_writePutOn_34 : decode cP_writePutOn 34 = .ok (.iload 7, 2) := by decide +kernel
theorem dP_writePutOn_36 : decode cP_writePutOn 36 = .ok (.iload 6, 2) := by decide +kernel
theorem dP_writePutOn_38 : decode cP_writePutOn 38 = .ok (.if_icmp .ge 26, 3) := by decide +kernel
theorem dP_writePutOn_41 : decode cP_writePutOn 41 = .ok (.aload_n 1, 1) := by decide +kernel
theorem dP_writePutOn_42 : decode cP_writePutOn 42 = .ok (.iload 4, 2) := by decide +kernel
theorem dP_writePutOn_44 : decode cP_writePutOn 44 = .ok (.iload 5, 2) := by decide +kernel
theorem dP_writePutOn_46 : decode cP_writePutOn 46 = .ok (.iload 7, 2) := by decide +kernel
theorem dP_writePutOn_48 : decode cP_writePutOn 48 = .ok (.invokestatic 70, 3) := by decide +kernel
theorem dP_writePutOn_51 : decode cP_writePutOn 51 = .ok (.iload_n 2, 1) := by decide +kernel
theorem dP_writePutOn_52 : decode cP_writePutOn 52 = .ok (.iconst (-1), 1) := by decide +kernel
theorem dP_writePutOn_53 : decode cP_writePutOn 53 = .ok (.iload 5, 2) := by decide +kernel
theorem dP_writePutOn_55 : decode cP_writePutOn 55 = .ok (.invokevirtual 73, 3) := by decide +kernel
theorem dP_writePutOn_58 : decode cP_writePutOn 58 = .ok (.iinc 7 1, 3) := by decide +kernel
theorem dP_writePutOn_61 : decode cP_writePutOn 61 = .ok (.goto (-27), 3) := by decide +kernel
theorem dP_writePutOn_64 : decode cP_writePutOn 64 = .ok (.iinc 5 1, 3) := by decide +kernel
theorem dP_writePutOn_67 : decode cP_writePutOn 67 = .ok (.goto (-64), 3) := by decide +kernel
theorem dP_writePutOn_70 : decode cP_writePutOn 70 = .ok (.return_, 1) := by decide +kernel
theorem dA_fill_0 : decode cA_fill 0 = .ok (.iconst 0, 1) := by decide +kernel
theorem dA_fill_1 : decode cA_fill 1 = .ok (.istore_n 2, 1) := by decide +kernel
theorem dA_fill_2 : decode cA_fill 2 = .ok (.aload_n 0, 1) := by decide +kernel
theorem dA_fill_3 : decode cA_fill 3 = .ok (.arraylength, 1) := by decide +kernel
theorem dA_fill_4 : decode cA_fill 4 = .ok (.istore_n 3, 1) := by decide +kernel
theorem dA_fill_5 : decode cA_fill 5 = .ok (.iload_n 2, 1) := by decide +kernel
theorem dA_fill_6 : decode cA_fill 6 = .ok (.iload_n 3, 1) := by decide +kernel
theorem dA_fill_7 : decode cA_fill 7 = .ok (.if_icmp .ge 13, 3) := by decide +kernel
theorem dA_fill_10 : decode cA_fill 10 = .ok (.aload_n 0, 1) := by decide +kernel
theorem dA_fill_11 : decode cA_fill 11 = .ok (.iload_n 2, 1) := by decide +kernel
theorem dA_fill_12 : decode cA_fill 12 = .ok (.iload_n 1, 1) := by decide +kernel
theorem dA_fill_13 : decode cA_fill 13 = .ok (.iastore, 1) := by decide +kernel
theorem dA_fill_14 : decode cA_fill 14 = .ok (.iinc 2 1, 3) := by decide +kernel
theorem dA_fill_17 : decode cA_fill 17 = .ok (.goto (-12), 3) := by decide +kernel
theorem dA_fill_20 : decode cA_fill 20 = .ok (.return_, 1) := by decide +kernel
theorem dI_bitCount_0 : decode cI_bitCount 0 = .ok (.iload_n 0, 1) := by decide +kernel
theorem dI_bitCount_1 : decode cI_bitCount 1 = .ok (.iload_n 0, 1) := by decide +kernel
theorem dI_bitCount_2 : decode cI_bitCount 2 = .ok (.iconst 1, 1) := by decide +kernel
theorem dI_bitCount_3 : decode cI_bitCount 3 = .ok (.iushr, 1) := by decide +kernel
theorem dI_bitCount_4 : decode cI_bitCount 4 = .ok (.ldc_w 265, 3) := by decide +kernel
theorem dI_bitCount_7 : decode cI_bitCount 7 = .ok (.iand, 1) := by decide +kernel
theorem dI_bitCount_8 : decode cI_bitCount 8 = .ok (.isub, 1) := by decide +kernel
theorem dI_bitCount_9 : decode cI_bitCount 9 = .ok (.istore_n 0, 1) := by decide +kernel
theorem dI_bitCount_10 : decode cI_bitCount 10 = .ok (.iload_n 0, 1) := by decide +kernel
theorem dI_bitCount_11 : decode cI_bitCount 11 = .ok (.ldc_w 266, 3) := by decide +kernel
theorem dI_bitCount_14 : decode cI_bitCount 14 = .ok (.iand, 1) := by decide +kernel
theorem dI_bitCount_15 : decode cI_bitCount 15 = .ok (.iload_n 0, 1) := by decide +kernel
theorem dI_bitCount_16 : decode cI_bitCount 16 = .ok (.iconst 2, 1) := by decide +kernel
theorem dI_bitCount_17 : decode cI_bitCount 17 = .ok (.iushr, 1) := by decide +kernel
theorem dI_bitCount_18 : decode cI_bitCount 18 = .ok (.ldc_w 266, 3) := by decide +kernel
theorem dI_bitCount_21 : decode cI_bitCount 21 = .ok (.iand, 1) := by decide +kernel
theorem dI_bitCount_22 : decode cI_bitCount 22 = .ok (.iadd, 1) := by decide +kernel
theorem dI_bitCount_23 : decode cI_bitCount 23 = .ok (.istore_n 0, 1) := by decide +kernel
theorem dI_bitCount_24 : decode cI_bitCount 24 = .ok (.iload_n 0, 1) := by decide +kernel
theorem dI_bitCount_25 : decode cI_bitCount 25 = .ok (.iload_n 0, 1) := by decide +kernel
theorem dI_bitCount_26 : decode cI_bitCount 26 = .ok (.iconst 4, 1) := by decide +kernel
theorem dI_bitCount_27 : decode cI_bitCount 27 = .ok (.iushr, 1) := by decide +kernel
theorem dI_bitCount_28 : decode cI_bitCount 28 = .ok (.iadd, 1) := by decide +kernel
theorem dI_bitCount_29 : decode cI_bitCount 29 = .ok (.ldc_w 267, 3) := by decide +kernel
theorem dI_bitCount_32 : decode cI_bitCount 32 = .ok (.iand, 1) := by decide +kernel
theorem dI_bitCount_33 : decode cI_bitCount 33 = .ok (.istore_n 0, 1) := by decide +kernel
theorem dI_bitCount_34 : decode cI_bitCount 34 = .ok (.iload_n 0, 1) := by decide +kernel
theorem dI_bitCount_35 : decode cI_bitCount 35 = .ok (.iload_n 0, 1) := by decide +kernel
theorem dI_bitCount_36 : decode cI_bitCount 36 = .ok (.bipush 8, 2) := by decide +kernel
theorem dI_bitCount_38 : decode cI_bitCount 38 = .ok (.iushr, 1) := by decide +kernel
theorem dI_bitCount_39 : decode cI_bitCount 39 = .ok (.iadd, 1) := by decide +kernel
theorem dI_bitCount_40 : decode cI_bitCount 40 = .ok (.istore_n 0, 1) := by decide +kernel
theorem dI_bitCount_41 : decode cI_bitCount 41 = .ok (.iload_n 0, 1) := by decide +kernel
theorem dI_bitCount_42 : decode cI_bitCount 42 = .ok (.iload_n 0, 1) := by decide +kernel
theorem dI_bitCount_43 : decode cI_bitCount 43 = .ok (.bipush 16, 2) := by decide +kernel
theorem dI_bitCount_45 : decode cI_bitCount 45 = .ok (.iushr, 1) := by decide +kernel
theorem dI_bitCount_46 : decode cI_bitCount 46 = .ok (.iadd, 1) := by decide +kernel
theorem dI_bitCount_47 : decode cI_bitCount 47 = .ok (.istore_n 0, 1) := by decide +kernel
theorem dI_bitCount_48 : decode cI_bitCount 48 = .ok (.iload_n 0, 1) := by decide +kernel
theorem dI_bitCount_49 : decode cI_bitCount 49 = .ok (.bipush 63, 2) := by decide +kernel
theorem dI_bitCount_51 : decode cI_bitCount 51 = .ok (.iand, 1) := by decide +kernel
theorem dI_bitCount_52 : decode cI_bitCount 52 = .ok (.ireturn, 1) := by decide +kernel
theorem dZ_abs_0 : decode cZ_abs 0 = .ok (.iload_n 0, 1) := by decide +kernel
theorem dZ_abs_1 : decode cZ_abs 1 = .ok (.ifCond .ge 8, 3) := by decide +kernel
theorem dZ_abs_4 : decode cZ_abs 4 = .ok (.iload_n 0, 1) := by decide +kernel
theorem dZ_abs_5 : decode cZ_abs 5 = .ok (.ineg, 1) := by decide +kernel
theorem dZ_abs_6 : decode cZ_abs 6 = .ok (.goto 4, 3) := by decide +kernel
theorem dZ_abs_9 : decode cZ_abs 9 = .ok (.iload_n 0, 1) := by decide +kernel
theorem dZ_abs_10 : decode cZ_abs 10 = .ok (.ireturn, 1) := by decide +kernel
theorem dZ_max_0 : decode cZ_max 0 = .ok (.iload_n 0, 1) := by decide +kernel
theorem dZ_max_1 : decode cZ_max 1 = .ok (.iload_n 1, 1) := by decide +kernel
theorem dZ_max_2 : decode cZ_max 2 = .ok (.if_icmp .lt 7, 3) := by decide +kernel
theorem dZ_max_5 : decode cZ_max 5 = .ok (.iload_n 0, 1) := by decide +kernel
theorem dZ_max_6 : decode cZ_max 6 = .ok (.goto 4, 3) := by decide +kernel
theorem dZ_max_9 : decode cZ_max 9 = .ok (.iload_n 1, 1) := by decide +kernel
theorem dZ_max_10 : decode cZ_max 10 = .ok (.ireturn, 1) := by decide +kernel
