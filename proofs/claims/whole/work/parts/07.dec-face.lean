/-! decode rows, by program -/
theorem dB_init_0 : decode cB_init 0 = .ok (.aload_n 0, 1) := by decide +kernel
theorem dB_init_1 : decode cB_init 1 = .ok (.invokespecial 3, 3) := by decide +kernel
theorem dB_init_4 : decode cB_init 4 = .ok (.new 9, 3) := by decide +kernel
theorem dB_init_7 : decode cB_init 7 = .ok (.dup, 1) := by decide +kernel
theorem dB_init_8 : decode cB_init 8 = .ok (.invokespecial 11, 3) := by decide +kernel
theorem dB_init_11 : decode cB_init 11 = .ok (.astore_n 1, 1) := by decide +kernel
theorem dB_init_12 : decode cB_init 12 = .ok (.aload_n 1, 1) := by decide +kernel
theorem dB_init_13 : decode cB_init 13 = .ok (.iconst 2, 1) := by decide +kernel
theorem dB_init_14 : decode cB_init 14 = .ok (.iconst 2, 1) := by decide +kernel
theorem dB_init_15 : decode cB_init 15 = .ok (.iconst 3, 1) := by decide +kernel
theorem dB_init_16 : decode cB_init 16 = .ok (.bipush 100, 2) := by decide +kernel
theorem dB_init_18 : decode cB_init 18 = .ok (.sipush 1000, 3) := by decide +kernel
theorem dB_init_21 : decode cB_init 21 = .ok (.sipush 1000, 3) := by decide +kernel
theorem dB_init_24 : decode cB_init 24 = .ok (.invokevirtual 12, 3) := by decide +kernel
theorem dB_init_27 : decode cB_init 27 = .ok (.aload_n 0, 1) := by decide +kernel
theorem dB_init_28 : decode cB_init 28 = .ok (.aload_n 1, 1) := by decide +kernel
theorem dB_init_29 : decode cB_init 29 = .ok (.putfield 16, 3) := by decide +kernel
theorem dB_init_32 : decode cB_init 32 = .ok (.aload_n 0, 1) := by decide +kernel
theorem dB_init_33 : decode cB_init 33 = .ok (.new 20, 3) := by decide +kernel
theorem dB_init_36 : decode cB_init 36 = .ok (.dup, 1) := by decide +kernel
theorem dB_init_37 : decode cB_init 37 = .ok (.aload_n 1, 1) := by decide +kernel
theorem dB_init_38 : decode cB_init 38 = .ok (.invokespecial 22, 3) := by decide +kernel
theorem dB_init_41 : decode cB_init 41 = .ok (.putfield 25, 3) := by decide +kernel
theorem dB_init_44 : decode cB_init 44 = .ok (.aload_n 0, 1) := by decide +kernel
theorem dB_init_45 : decode cB_init 45 = .ok (.new 20, 3) := by decide +kernel
theorem dB_init_48 : decode cB_init 48 = .ok (.dup, 1) := by decide +kernel
theorem dB_init_49 : decode cB_init 49 = .ok (.aload_n 1, 1) := by decide +kernel
theorem dB_init_50 : decode cB_init 50 = .ok (.invokespecial 22, 3) := by decide +kernel
theorem dB_init_53 : decode cB_init 53 = .ok (.putfield 29, 3) := by decide +kernel
theorem dB_init_56 : decode cB_init 56 = .ok (.aload_n 0, 1) := by decide +kernel
theorem dB_init_57 : decode cB_init 57 = .ok (.new 32, 3) := by decide +kernel
theorem dB_init_60 : decode cB_init 60 = .ok (.dup, 1) := by decide +kernel
theorem dB_init_61 : decode cB_init 61 = .ok (.invokespecial 34, 3) := by decide +kernel
theorem dB_init_64 : decode cB_init 64 = .ok (.putfield 35, 3) := by decide +kernel
theorem dB_init_67 : decode cB_init 67 = .ok (.aload_n 0, 1) := by decide +kernel
theorem dB_init_68 : decode cB_init 68 = .ok (.new 39, 3) := by decide +kernel
theorem dB_init_71 : decode cB_init 71 = .ok (.dup, 1) := by decide +kernel
theorem dB_init_72 : decode cB_init 72 = .ok (.aload_n 1, 1) := by decide +kernel
theorem dB_init_73 : decode cB_init 73 = .ok (.invokespecial 41, 3) := by decide +kernel
theorem dB_init_76 : decode cB_init 76 = .ok (.putfield 42, 3) := by decide +kernel
theorem dB_init_79 : decode cB_init 79 = .ok (.return_, 1) := by decide +kernel
theorem dB_plan_0 : decode cB_plan 0 = .ok (.aload_n 0, 1) := by decide +kernel
theorem dB_plan_1 : decode cB_plan 1 = .ok (.invokevirtual 54, 3) := by decide +kernel
theorem dB_plan_4 : decode cB_plan 4 = .ok (.aload_n 0, 1) := by decide +kernel
theorem dB_plan_5 : decode cB_plan 5 = .ok (.getfield 42, 3) := by decide +kernel
theorem dB_plan_8 : decode cB_plan 8 = .ok (.invokevirtual 85, 3) := by decide +kernel
theorem dB_plan_11 : decode cB_plan 11 = .ok (.ifCond .eq 13, 3) := by decide +kernel
theorem dB_plan_14 : decode cB_plan 14 = .ok (.aload_n 0, 1) := by decide +kernel
theorem dB_plan_15 : decode cB_plan 15 = .ok (.getfield 42, 3) := by decide +kernel
theorem dB_plan_18 : decode cB_plan 18 = .ok (.invokevirtual 89, 3) := by decide +kernel
theorem dB_plan_21 : decode cB_plan 21 = .ok (.goto 4, 3) := by decide +kernel
theorem dB_plan_24 : decode cB_plan 24 = .ok (.iconst (-1), 1) := by decide +kernel
theorem dB_plan_25 : decode cB_plan 25 = .ok (.istore_n 1, 1) := by decide +kernel
theorem dB_plan_26 : decode cB_plan 26 = .ok (.iload_n 1, 1) := by decide +kernel
theorem dB_plan_27 : decode cB_plan 27 = .ok (.iconst (-1), 1) := by decide +kernel
theorem dB_plan_28 : decode cB_plan 28 = .ok (.if_icmp .eq 19, 3) := by decide +kernel
theorem dB_plan_31 : decode cB_plan 31 = .ok (.aload_n 0, 1) := by decide +kernel
theorem dB_plan_32 : decode cB_plan 32 = .ok (.getfield 42, 3) := by decide +kernel
theorem dB_plan_35 : decode cB_plan 35 = .ok (.aload_n 0, 1) := by decide +kernel
theorem dB_plan_36 : decode cB_plan 36 = .ok (.getfield 35, 3) := by decide +kernel
theorem dB_plan_39 : decode cB_plan 39 = .ok (.invokevirtual 93, 3) := by decide +kernel
theorem dB_plan_42 : decode cB_plan 42 = .ok (.aload_n 0, 1) := by decide +kernel
theorem dB_plan_43 : decode cB_plan 43 = .ok (.iconst 1, 1) := by decide +kernel
theorem dB_plan_44 : decode cB_plan 44 = .ok (.putfield 97, 3) := by decide +kernel
theorem dB_plan_47 : decode cB_plan 47 = .ok (.iload_n 1, 1) := by decide +kernel
theorem dB_plan_48 : decode cB_plan 48 = .ok (.ireturn, 1) := by decide +kernel
theorem dB_dropPlan_0 : decode cB_dropPlan 0 = .ok (.aload_n 0, 1) := by decide +kernel
theorem dB_dropPlan_1 : decode cB_dropPlan 1 = .ok (.iconst 0, 1) := by decide +kernel
theorem dB_dropPlan_2 : decode cB_dropPlan 2 = .ok (.putfield 97, 3) := by decide +kernel
theorem dB_dropPlan_5 : decode cB_dropPlan 5 = .ok (.aload_n 0, 1) := by decide +kernel
theorem dB_dropPlan_6 : decode cB_dropPlan 6 = .ok (.getfield 35, 3) := by decide +kernel
theorem dB_dropPlan_9 : decode cB_dropPlan 9 = .ok (.invokevirtual 179, 3) := by decide +kernel
theorem dB_dropPlan_12 : decode cB_dropPlan 12 = .ok (.aload_n 0, 1) := by decide +kernel
theorem dB_dropPlan_13 : decode cB_dropPlan 13 = .ok (.getfield 25, 3) := by decide +kernel
theorem dB_dropPlan_16 : decode cB_dropPlan 16 = .ok (.invokevirtual 127, 3) := by decide +kernel
theorem dB_dropPlan_19 : decode cB_dropPlan 19 = .ok (.return_, 1) := by decide +kernel
theorem dB_within_0 : decode cB_within 0 = .ok (.iload_n 1, 1) := by decide +kernel
theorem dB_within_1 : decode cB_within 1 = .ok (.iload_n 0, 1) := by decide +kernel
theorem dB_within_2 : decode cB_within 2 = .ok (.if_icmp .gt 12, 3) := by decide +kernel
theorem dB_within_5 : decode cB_within 5 = .ok (.iload_n 0, 1) := by decide +kernel
theorem dB_within_6 : decode cB_within 6 = .ok (.iload_n 2, 1) := by decide +kernel
theorem dB_within_7 : decode cB_within 7 = .ok (.if_icmp .gt 7, 3) := by decide +kernel
theorem dB_within_10 : decode cB_within 10 = .ok (.iconst 1, 1) := by decide +kernel
theorem dB_within_11 : decode cB_within 11 = .ok (.goto 4, 3) := by decide +kernel
theorem dB_within_14 : decode cB_within 14 = .ok (.iconst 0, 1) := by decide +kernel
theorem dB_within_15 : decode cB_within 15 = .ok (.ireturn, 1) := by decide +kernel
theorem dB_moves_0 : decode cB_moves 0 = .ok (.aload_n 0, 1) := by decide +kernel
theorem dB_moves_1 : decode cB_moves 1 = .ok (.getfield 35, 3) := by decide +kernel
theorem dB_moves_4 : decode cB_moves 4 = .ok (.getfield 101, 3) := by decide +kernel
theorem dB_moves_7 : decode cB_moves 7 = .ok (.ireturn, 1) := by decide +kernel
theorem dB_bay_0 : decode cB_bay 0 = .ok (.iload_n 1, 1) := by decide +kernel
theorem dB_bay_1 : decode cB_bay 1 = .ok (.iconst 1, 1) := by decide +kernel
theorem dB_bay_2 : decode cB_bay 2 = .ok (.iconst 3, 1) := by decide +kernel
theorem dB_bay_3 : decode cB_bay 3 = .ok (.invokestatic 46, 3) := by decide +kernel
theorem dB_bay_6 : decode cB_bay 6 = .ok (.invokestatic 50, 3) := by decide +kernel
theorem dB_bay_9 : decode cB_bay 9 = .ok (.iload_n 2, 1) := by decide +kernel
theorem dB_bay_10 : decode cB_bay 10 = .ok (.iconst 1, 1) := by decide +kernel
theorem dB_bay_11 : decode cB_bay 11 = .ok (.iconst 3, 1) := by decide +kernel
theorem dB_bay_12 : decode cB_bay 12 = .ok (.invokestatic 46, 3) := by decide +kernel
theorem dB_bay_15 : decode cB_bay 15 = .ok (.invokestatic 50, 3) := by decide +kernel
theorem dB_bay_18 : decode cB_bay 18 = .ok (.iload_n 3, 1) := by decide +kernel
theorem dB_bay_19 : decode cB_bay 19 = .ok (.iconst 2, 1) := by decide +kernel
theorem dB_bay_20 : decode cB_bay 20 = .ok (.iconst 4, 1) := by decide +kernel
theorem dB_bay_21 : decode cB_bay 21 = .ok (.invokestatic 46, 3) := by decide +kernel
theorem dB_bay_24 : decode cB_bay 24 = .ok (.invokestatic 50, 3) := by decide +kernel
theorem dB_bay_27 : decode cB_bay 27 = .ok (.iload 4, 2) := by decide +kernel
theorem dB_bay_29 : decode cB_bay 29 = .ok (.iconst 1, 1) := by decide +kernel
theorem dB_bay_30 : decode cB_bay 30 = .ok (.sipush 200, 3) := by decide +kernel
theorem dB_bay_33 : decode cB_bay 33 = .ok (.invokestatic 46, 3) := by decide +kernel
theorem dB_bay_36 : decode cB_bay 36 = .ok (.invokestatic 50, 3) := by decide +kernel
theorem dB_bay_39 : decode cB_bay 39 = .ok (.iload 5, 2) := by decide +kernel
theorem dB_bay_41 : decode cB_bay 41 = .ok (.iconst 0, 1) := by decide +kernel
theorem dB_bay_42 : decode cB_bay 42 = .ok (.sipush 2000, 3) := by decide +kernel
theorem dB_bay_45 : decode cB_bay 45 = .ok (.invokestatic 46, 3) := by decide +kernel
theorem dB_bay_48 : decode cB_bay 48 = .ok (.invokestatic 50, 3) := by decide +kernel
theorem dB_bay_51 : decode cB_bay 51 = .ok (.iload 6, 2) := by decide +kernel
theorem dB_bay_53 : decode cB_bay 53 = .ok (.iconst 0, 1) := by decide +kernel
theorem dB_bay_54 : decode cB_bay 54 = .ok (.sipush 2000, 3) := by decide +kernel
theorem dB_bay_57 : decode cB_bay 57 = .ok (.invokestatic 46, 3) := by decide +kernel
theorem dB_bay_60 : decode cB_bay 60 = .ok (.invokestatic 50, 3) := by decide +kernel
theorem dB_bay_63 : decode cB_bay 63 = .ok (.aload_n 0, 1) := by decide +kernel
theorem dB_bay_64 : decode cB_bay 64 = .ok (.getfield 16, 3) := by decide +kernel
theorem dB_bay_67 : decode cB_bay 67 = .ok (.iload_n 1, 1) := by decide +kernel
theorem dB_bay_68 : decode cB_bay 68 = .ok (.iload_n 2, 1) := by decide +kernel
theorem dB_bay_69 : decode cB_bay 69 = .ok (.iload_n 3, 1) := by decide +kernel
theorem dB_bay_70 : decode cB_bay 70 = .ok (.iload 4, 2) := by decide +kernel
theorem dB_bay_72 : decode cB_bay 72 = .ok (.iload 5, 2) := by decide +kernel
theorem dB_bay_74 : decode cB_bay 74 = .ok (.iload 6, 2) := by decide +kernel
theorem dB_bay_76 : decode cB_bay 76 = .ok (.invokevirtual 12, 3) := by decide +kernel
theorem dB_bay_79 : decode cB_bay 79 = .ok (.aload_n 0, 1) := by decide +kernel
theorem dB_bay_80 : decode cB_bay 80 = .ok (.invokevirtual 54, 3) := by decide +kernel
theorem dB_bay_83 : decode cB_bay 83 = .ok (.return_, 1) := by decide +kernel
theorem dB_require_0 : decode cB_require 0 = .ok (.iload_n 0, 1) := by decide +kernel
theorem dB_require_1 : decode cB_require 1 = .ok (.ifCond .ne 11, 3) := by decide +kernel
theorem dB_require_4 : decode cB_require 4 = .ok (.new 121, 3) := by decide +kernel
theorem dB_require_7 : decode cB_require 7 = .ok (.dup, 1) := by decide +kernel
theorem dB_require_8 : decode cB_require 8 = .ok (.invokespecial 123, 3) := by decide +kernel
theorem dB_require_11 : decode cB_require 11 = .ok (.athrow, 1) := by decide +kernel
theorem dB_require_12 : decode cB_require 12 = .ok (.return_, 1) := by decide +kernel
theorem dB_plug_0 : decode cB_plug 0 = .ok (.aload_n 0, 1) := by decide +kernel
theorem dB_plug_1 : decode cB_plug 1 = .ok (.getfield 16, 3) := by decide +kernel
theorem dB_plug_4 : decode cB_plug 4 = .ok (.iload_n 1, 1) := by decide +kernel
theorem dB_plug_5 : decode cB_plug 5 = .ok (.invokevirtual 57, 3) := by decide +kernel
theorem dB_plug_8 : decode cB_plug 8 = .ok (.invokestatic 50, 3) := by decide +kernel
theorem dB_plug_11 : decode cB_plug 11 = .ok (.aload_n 0, 1) := by decide +kernel
theorem dB_plug_12 : decode cB_plug 12 = .ok (.getfield 16, 3) := by decide +kernel
theorem dB_plug_15 : decode cB_plug 15 = .ok (.getfield 61, 3) := by decide +kernel
theorem dB_plug_18 : decode cB_plug 18 = .ok (.iload_n 1, 1) := by decide +kernel
theorem dB_plug_19 : decode cB_plug 19 = .ok (.iload_n 2, 1) := by decide +kernel
theorem dB_plug_20 : decode cB_plug 20 = .ok (.bastore, 1) := by decide +kernel
theorem dB_plug_21 : decode cB_plug 21 = .ok (.aload_n 0, 1) := by decide +kernel
theorem dB_plug_22 : decode cB_plug 22 = .ok (.invokevirtual 54, 3) := by decide +kernel
theorem dB_plug_25 : decode cB_plug 25 = .ok (.return_, 1) := by decide +kernel
theorem dB_box_0 : decode cB_box 0 = .ok (.aload_n 0, 1) := by decide +kernel
theorem dB_box_1 : decode cB_box 1 = .ok (.getfield 16, 3) := by decide +kernel
theorem dB_box_4 : decode cB_box 4 = .ok (.iload_n 1, 1) := by decide +kernel
theorem dB_box_5 : decode cB_box 5 = .ok (.invokevirtual 65, 3) := by decide +kernel
theorem dB_box_8 : decode cB_box 8 = .ok (.ifCond .eq 23, 3) := by decide +kernel
theorem dB_box_11 : decode cB_box 11 = .ok (.aload_n 0, 1) := by decide +kernel
theorem dB_box_12 : decode cB_box 12 = .ok (.getfield 16, 3) := by decide +kernel
theorem dB_box_15 : decode cB_box 15 = .ok (.iload_n 2, 1) := by decide +kernel
theorem dB_box_16 : decode cB_box 16 = .ok (.invokevirtual 65, 3) := by decide +kernel
theorem dB_box_19 : decode cB_box 19 = .ok (.ifCond .eq 12, 3) := by decide +kernel
theorem dB_box_22 : decode cB_box 22 = .ok (.iload_n 1, 1) := by decide +kernel
theorem dB_box_23 : decode cB_box 23 = .ok (.iload_n 2, 1) := by decide +kernel
theorem dB_box_24 : decode cB_box 24 = .ok (.if_icmp .ge 7, 3) := by decide +kernel
theorem dB_box_27 : decode cB_box 27 = .ok (.iconst 1, 1) := by decide +kernel
theorem dB_box_28 : decode cB_box 28 = .ok (.goto 4, 3) := by decide +kernel
theorem dB_box_31 : decode cB_box 31 = .ok (.iconst 0, 1) := by decide +kernel
theorem dB_box_32 : decode cB_box 32 = .ok (.invokestatic 50, 3) := by decide +kernel
theorem dB_box_35 : decode cB_box 35 = .ok (.iload_n 3, 1) := by decide +kernel
theorem dB_box_36 : decode cB_box 36 = .ok (.iconst 1, 1) := by decide +kernel
theorem dB_box_37 : decode cB_box 37 = .ok (.bipush 40, 2) := by decide +kernel
theorem dB_box_39 : decode cB_box 39 = .ok (.invokestatic 46, 3) := by decide +kernel
theorem dB_box_42 : decode cB_box 42 = .ok (.invokestatic 50, 3) := by decide +kernel
theorem dB_box_45 : decode cB_box 45 = .ok (.iload 4, 2) := by decide +kernel
theorem dB_box_47 : decode cB_box 47 = .ok (.iconst 0, 1) := by decide +kernel
theorem dB_box_48 : decode cB_box 48 = .ok (.iconst 3, 1) := by decide +kernel
theorem dB_box_49 : decode cB_box 49 = .ok (.invokestatic 46, 3) := by decide +kernel
theorem dB_box_52 : decode cB_box 52 = .ok (.invokestatic 50, 3) := by decide +kernel
theorem dB_box_55 : decode cB_box 55 = .ok (.aload_n 0, 1) := by decide +kernel
theorem dB_box_56 : decode cB_box 56 = .ok (.getfield 16, 3) := by decide +kernel
theorem dB_box_59 : decode cB_box 59 = .ok (.getfield 68, 3) := by decide +kernel
theorem dB_box_62 : decode cB_box 62 = .ok (.iconst 5, 1) := by decide +kernel
theorem dB_box_63 : decode cB_box 63 = .ok (.if_icmp .lt 11, 3) := by decide +kernel
theorem dB_box_66 : decode cB_box 66 = .ok (.new 72, 3) := by decide +kernel
theorem dB_box_69 : decode cB_box 69 = .ok (.dup, 1) := by decide +kernel
theorem dB_box_70 : decode cB_box 70 = .ok (.invokespecial 74, 3) := by decide +kernel
theorem dB_box_73 : decode cB_box 73 = .ok (.athrow, 1) := by decide +kernel
theorem dB_box_74 : decode cB_box 74 = .ok (.aload_n 0, 1) := by decide +kernel
theorem dB_box_75 : decode cB_box 75 = .ok (.getfield 16, 3) := by decide +kernel
theorem dB_box_78 : decode cB_box 78 = .ok (.iload_n 1, 1) := by decide +kernel
theorem dB_box_79 : decode cB_box 79 = .ok (.iload_n 2, 1) := by decide +kernel
theorem dB_box_80 : decode cB_box 80 = .ok (.iload_n 3, 1) := by decide +kernel
theorem dB_box_81 : decode cB_box 81 = .ok (.iload 4, 2) := by decide +kernel
theorem dB_box_83 : decode cB_box 83 = .ok (.invokevirtual 75, 3) := by decide +kernel
theorem dB_box_86 : decode cB_box 86 = .ok (.istore 5, 2) := by decide +kernel
theorem dB_box_88 : decode cB_box 88 = .ok (.aload_n 0, 1) := by decide +kernel
theorem dB_box_89 : decode cB_box 89 = .ok (.invokevirtual 54, 3) := by decide +kernel
theorem dB_box_92 : decode cB_box 92 = .ok (.iload 5, 2) := by decide +kernel
theorem dB_box_94 : decode cB_box 94 = .ok (.ireturn, 1) := by decide +kernel
theorem dB_roll_0 : decode cB_roll 0 = .ok (.aload_n 0, 1) := by decide +kernel
theorem dB_roll_1 : decode cB_roll 1 = .ok (.getfield 16, 3) := by decide +kernel
theorem dB_roll_4 : decode cB_roll 4 = .ok (.iload_n 1, 1) := by decide +kernel
theorem dB_roll_5 : decode cB_roll 5 = .ok (.invokevirtual 79, 3) := by decide +kernel
theorem dB_roll_8 : decode cB_roll 8 = .ok (.invokestatic 50, 3) := by decide +kernel
theorem dB_roll_11 : decode cB_roll 11 = .ok (.aload_n 0, 1) := by decide +kernel
theorem dB_roll_12 : decode cB_roll 12 = .ok (.getfield 16, 3) := by decide +kernel
theorem dB_roll_15 : decode cB_roll 15 = .ok (.getfield 82, 3) := by decide +kernel
theorem dB_roll_18 : decode cB_roll 18 = .ok (.iload_n 1, 1) := by decide +kernel
theorem dB_roll_19 : decode cB_roll 19 = .ok (.iconst 1, 1) := by decide +kernel
theorem dB_roll_20 : decode cB_roll 20 = .ok (.bastore, 1) := by decide +kernel
theorem dB_roll_21 : decode cB_roll 21 = .ok (.aload_n 0, 1) := by decide +kernel
theorem dB_roll_22 : decode cB_roll 22 = .ok (.invokevirtual 54, 3) := by decide +kernel
theorem dB_roll_25 : decode cB_roll 25 = .ok (.return_, 1) := by decide +kernel
theorem dB_move_0 : decode cB_move 0 = .ok (.aload_n 0, 1) := by decide +kernel
theorem dB_move_1 : decode cB_move 1 = .ok (.iload_n 1, 1) := by decide +kernel
theorem dB_move_2 : decode cB_move 2 = .ok (.invokevirtual 104, 3) := by decide +kernel
theorem dB_move_5 : decode cB_move 5 = .ok (.iload_n 2, 1) := by decide +kernel
theorem dB_move_6 : decode cB_move 6 = .ok (.tableswitch 70 0 3 #[30, 40, 50, 60], 30) := by decide +kernel
theorem dB_move_36 : decode cB_move 36 = .ok (.aload_n 0, 1) := by decide +kernel
theorem dB_move_37 : decode cB_move 37 = .ok (.getfield 35, 3) := by decide +kernel
theorem dB_move_40 : decode cB_move 40 = .ok (.getfield 108, 3) := by decide +kernel
theorem dB_move_43 : decode cB_move 43 = .ok (.iload_n 1, 1) := by decide +kernel
theorem dB_move_44 : decode cB_move 44 = .ok (.iaload, 1) := by decide +kernel
theorem dB_move_45 : decode cB_move 45 = .ok (.ireturn, 1) := by decide +kernel
theorem dB_move_46 : decode cB_move 46 = .ok (.aload_n 0, 1) := by decide +kernel
theorem dB_move_47 : decode cB_move 47 = .ok (.getfield 35, 3) := by decide +kernel
theorem dB_move_50 : decode cB_move 50 = .ok (.getfield 112, 3) := by decide +kernel
theorem dB_move_53 : decode cB_move 53 = .ok (.iload_n 1, 1) := by decide +kernel
theorem dB_move_54 : decode cB_move 54 = .ok (.iaload, 1) := by decide +kernel
theorem dB_move_55 : decode cB_move 55 = .ok (.ireturn, 1) := by decide +kernel
theorem dB_move_56 : decode cB_move 56 = .ok (.aload_n 0, 1) := by decide +kernel
theorem dB_move_57 : decode cB_move 57 = .ok (.getfield 35, 3) := by decide +kernel
theorem dB_move_60 : decode cB_move 60 = .ok (.getfield 115, 3) := by decide +kernel
theorem dB_move_63 : decode cB_move 63 = .ok (.iload_n 1, 1) := by decide +kernel
theorem dB_move_64 : decode cB_move 64 = .ok (.iaload, 1) := by decide +kernel
theorem dB_move_65 : decode cB_move 65 = .ok (.ireturn, 1) := by decide +kernel
theorem dB_move_66 : decode cB_move 66 = .ok (.aload_n 0, 1) := by decide +kernel
theorem dB_move_67 : decode cB_move 67 = .ok (.getfield 35, 3) := by decide +kernel
theorem dB_move_70 : decode cB_move 70 = .ok (.getfield 118, 3) := by decide +kernel
theorem dB_move_73 : decode cB_move 73 = .ok (.iload_n 1, 1) := by decide +kernel
theorem dB_move_74 : decode cB_move 74 = .ok (.iaload, 1) := by decide +kernel
theorem dB_move_75 : decode cB_move 75 = .ok (.ireturn, 1) := by decide +kernel
theorem dB_move_76 : decode cB_move 76 = .ok (.new 121, 3) := by decide +kernel
theorem dB_move_79 : decode cB_move 79 = .ok (.dup, 1) := by decide +kernel
theorem dB_move_80 : decode cB_move 80 = .ok (.invokespecial 123, 3) := by decide +kernel
theorem dB_move_83 : decode cB_move 83 = .ok (.athrow, 1) := by decide +kernel
theorem dB_requireMove_0 : decode cB_requireMove 0 = .ok (.aload_n 0, 1) := by decide +kernel
theorem dB_requireMove_1 : decode cB_requireMove 1 = .ok (.getfield 35, 3) := by decide +kernel
theorem dB_requireMove_4 : decode cB_requireMove 4 = .ok (.iload_n 1, 1) := by decide +kernel
theorem dB_requireMove_5 : decode cB_requireMove 5 = .ok (.invokevirtual 180, 3) := by decide +kernel
theorem dB_requireMove_8 : decode cB_requireMove 8 = .ok (.ifCond .ne 11, 3) := by decide +kernel
theorem dB_requireMove_11 : decode cB_requireMove 11 = .ok (.new 183, 3) := by decide +kernel
theorem dB_requireMove_14 : decode cB_requireMove 14 = .ok (.dup, 1) := by decide +kernel
theorem dB_requireMove_15 : decode cB_requireMove 15 = .ok (.invokespecial 185, 3) := by decide +kernel
theorem dB_requireMove_18 : decode cB_requireMove 18 = .ok (.athrow, 1) := by decide +kernel
theorem dB_requireMove_19 : decode cB_requireMove 19 = .ok (.return_, 1) := by decide +kernel
theorem dB_hand_0 : decode cB_hand 0 = .ok (.aload_n 0, 1) := by decide +kernel
theorem dB_hand_1 : decode cB_hand 1 = .ok (.iload_n 1, 1) := by decide +kernel
theorem dB_hand_2 : decode cB_hand 2 = .ok (.invokevirtual 104, 3) := by decide +kernel
theorem dB_hand_5 : decode cB_hand 5 = .ok (.iload_n 2, 1) := by decide +kernel
theorem dB_hand_6 : decode cB_hand 6 = .ok (.iconst 0, 1) := by decide +kernel
theorem dB_hand_7 : decode cB_hand 7 = .ok (.iconst 2, 1) := by decide +kernel
theorem dB_hand_8 : decode cB_hand 8 = .ok (.invokestatic 46, 3) := by decide +kernel
theorem dB_hand_11 : decode cB_hand 11 = .ok (.ifCond .eq 18, 3) := by decide +kernel
theorem dB_hand_14 : decode cB_hand 14 = .ok (.aload_n 0, 1) := by decide +kernel
theorem dB_hand_15 : decode cB_hand 15 = .ok (.getfield 35, 3) := by decide +kernel
theorem dB_hand_18 : decode cB_hand 18 = .ok (.iload_n 1, 1) := by decide +kernel
theorem dB_hand_19 : decode cB_hand 19 = .ok (.invokevirtual 124, 3) := by decide +kernel
theorem dB_hand_22 : decode cB_hand 22 = .ok (.ifCond .eq 7, 3) := by decide +kernel
theorem dB_hand_25 : decode cB_hand 25 = .ok (.iconst 1, 1) := by decide +kernel
theorem dB_hand_26 : decode cB_hand 26 = .ok (.goto 4, 3) := by decide +kernel
theorem dB_hand_29 : decode cB_hand 29 = .ok (.iconst 0, 1) := by decide +kernel
theorem dB_hand_30 : decode cB_hand 30 = .ok (.invokestatic 50, 3) := by decide +kernel
theorem dB_hand_33 : decode cB_hand 33 = .ok (.aload_n 0, 1) := by decide +kernel
theorem dB_hand_34 : decode cB_hand 34 = .ok (.getfield 35, 3) := by decide +kernel
theorem dB_hand_37 : decode cB_hand 37 = .ok (.getfield 118, 3) := by decide +kernel
theorem dB_hand_40 : decode cB_hand 40 = .ok (.iload_n 1, 1) := by decide +kernel
theorem dB_hand_41 : decode cB_hand 41 = .ok (.iload_n 2, 1) := by decide +kernel
theorem dB_hand_42 : decode cB_hand 42 = .ok (.iastore, 1) := by decide +kernel
theorem dB_hand_43 : decode cB_hand 43 = .ok (.return_, 1) := by decide +kernel
theorem dB_replay_0 : decode cB_replay 0 = .ok (.iload_n 1, 1) := by decide +kernel
theorem dB_replay_1 : decode cB_replay 1 = .ok (.iconst 0, 1) := by decide +kernel
theorem dB_replay_2 : decode cB_replay 2 = .ok (.aload_n 0, 1) := by decide +kernel
theorem dB_replay_3 : decode cB_replay 3 = .ok (.getfield 35, 3) := by decide +kernel
theorem dB_replay_6 : decode cB_replay 6 = .ok (.getfield 101, 3) := by decide +kernel
theorem dB_replay_9 : decode cB_replay 9 = .ok (.invokestatic 46, 3) := by decide +kernel
theorem dB_replay_12 : decode cB_replay 12 = .ok (.invokestatic 50, 3) := by decide +kernel
theorem dB_replay_15 : decode cB_replay 15 = .ok (.aload_n 0, 1) := by decide +kernel
theorem dB_replay_16 : decode cB_replay 16 = .ok (.getfield 25, 3) := by decide +kernel
theorem dB_replay_19 : decode cB_replay 19 = .ok (.invokevirtual 127, 3) := by decide +kernel
theorem dB_replay_22 : decode cB_replay 22 = .ok (.iconst 0, 1) := by decide +kernel
theorem dB_replay_23 : decode cB_replay 23 = .ok (.istore_n 2, 1) := by decide +kernel
theorem dB_replay_24 : decode cB_replay 24 = .ok (.iload_n 2, 1) := by decide +kernel
theorem dB_replay_25 : decode cB_replay 25 = .ok (.iload_n 1, 1) := by decide +kernel
theorem dB_replay_26 : decode cB_replay 26 = .ok (.if_icmp .ge 24, 3) := by decide +kernel
theorem dB_replay_29 : decode cB_replay 29 = .ok (.aload_n 0, 1) := by decide +kernel
theorem dB_replay_30 : decode cB_replay 30 = .ok (.getfield 25, 3) := by decide +kernel
theorem dB_replay_33 : decode cB_replay 33 = .ok (.aload_n 0, 1) := by decide +kernel
theorem dB_replay_34 : decode cB_replay 34 = .ok (.getfield 35, 3) := by decide +kernel
theorem dB_replay_37 : decode cB_replay 37 = .ok (.iload_n 2, 1) := by decide +kernel
theorem dB_replay_38 : decode cB_replay 38 = .ok (.invokevirtual 130, 3) := by decide +kernel
theorem dB_replay_41 : decode cB_replay 41 = .ok (.ifCond .eq 9, 3) := by decide +kernel
theorem dB_replay_44 : decode cB_replay 44 = .ok (.iinc 2 1, 3) := by decide +kernel
theorem dB_replay_47 : decode cB_replay 47 = .ok (.goto (-23), 3) := by decide +kernel
theorem dB_replay_50 : decode cB_replay 50 = .ok (.iload_n 2, 1) := by decide +kernel
theorem dB_replay_51 : decode cB_replay 51 = .ok (.ireturn, 1) := by decide +kernel
theorem dB_slot_0 : decode cB_slot 0 = .ok (.aload_n 0, 1) := by decide +kernel
theorem dB_slot_1 : decode cB_slot 1 = .ok (.getfield 16, 3) := by decide +kernel
theorem dB_slot_4 : decode cB_slot 4 = .ok (.iload_n 1, 1) := by decide +kernel
theorem dB_slot_5 : decode cB_slot 5 = .ok (.invokevirtual 57, 3) := by decide +kernel
theorem dB_slot_8 : decode cB_slot 8 = .ok (.ifCond .eq 24, 3) := by decide +kernel
theorem dB_slot_11 : decode cB_slot 11 = .ok (.iload_n 2, 1) := by decide +kernel
theorem dB_slot_12 : decode cB_slot 12 = .ok (.iconst 0, 1) := by decide +kernel
theorem dB_slot_13 : decode cB_slot 13 = .ok (.aload_n 0, 1) := by decide +kernel
theorem dB_slot_14 : decode cB_slot 14 = .ok (.getfield 16, 3) := by decide +kernel
theorem dB_slot_17 : decode cB_slot 17 = .ok (.getfield 134, 3) := by decide +kernel
theorem dB_slot_20 : decode cB_slot 20 = .ok (.iconst 1, 1) := by decide +kernel
theorem dB_slot_21 : decode cB_slot 21 = .ok (.isub, 1) := by decide +kernel
theorem dB_slot_22 : decode cB_slot 22 = .ok (.invokestatic 46, 3) := by decide +kernel
theorem dB_slot_25 : decode cB_slot 25 = .ok (.ifCond .eq 7, 3) := by decide +kernel
theorem dB_slot_28 : decode cB_slot 28 = .ok (.iconst 1, 1) := by decide +kernel
theorem dB_slot_29 : decode cB_slot 29 = .ok (.goto 4, 3) := by decide +kernel
theorem dB_slot_32 : decode cB_slot 32 = .ok (.iconst 0, 1) := by decide +kernel
theorem dB_slot_33 : decode cB_slot 33 = .ok (.invokestatic 50, 3) := by decide +kernel
theorem dB_slot_36 : decode cB_slot 36 = .ok (.aload_n 0, 1) := by decide +kernel
theorem dB_slot_37 : decode cB_slot 37 = .ok (.getfield 25, 3) := by decide +kernel
theorem dB_slot_40 : decode cB_slot 40 = .ok (.iload_n 1, 1) := by decide +kernel
theorem dB_slot_41 : decode cB_slot 41 = .ok (.iload_n 2, 1) := by decide +kernel
theorem dB_slot_42 : decode cB_slot 42 = .ok (.invokevirtual 137, 3) := by decide +kernel
theorem dB_slot_45 : decode cB_slot 45 = .ok (.ireturn, 1) := by decide +kernel
theorem dB_moment_0 : decode cB_moment 0 = .ok (.iload_n 1, 1) := by decide +kernel
theorem dB_moment_1 : decode cB_moment 1 = .ok (.tableswitch 83 0 5 #[39, 47, 55, 55, 55, 67], 39) := by decide +kernel
theorem dB_moment_40 : decode cB_moment 40 = .ok (.aload_n 0, 1) := by decide +kernel
theorem dB_moment_41 : decode cB_moment 41 = .ok (.getfield 25, 3) := by decide +kernel
theorem dB_moment_44 : decode cB_moment 44 = .ok (.getfield 141, 3) := by decide +kernel
theorem dB_moment_47 : decode cB_moment 47 = .ok (.ireturn, 1) := by decide +kernel
theorem dB_moment_48 : decode cB_moment 48 = .ok (.aload_n 0, 1) := by decide +kernel
theorem dB_moment_49 : decode cB_moment 49 = .ok (.getfield 25, 3) := by decide +kernel
theorem dB_moment_52 : decode cB_moment 52 = .ok (.invokevirtual 144, 3) := by decide +kernel
theorem dB_moment_55 : decode cB_moment 55 = .ok (.ireturn, 1) := by decide +kernel
theorem dB_moment_56 : decode cB_moment 56 = .ok (.aload_n 0, 1) := by decide +kernel
theorem dB_moment_57 : decode cB_moment 57 = .ok (.getfield 25, 3) := by decide +kernel
theorem dB_moment_60 : decode cB_moment 60 = .ok (.getfield 147, 3) := by decide +kernel
theorem dB_moment_63 : decode cB_moment 63 = .ok (.iload_n 1, 1) := by decide +kernel
theorem dB_moment_64 : decode cB_moment 64 = .ok (.iconst 2, 1) := by decide +kernel
theorem dB_moment_65 : decode cB_moment 65 = .ok (.isub, 1) := by decide +kernel
theorem dB_moment_66 : decode cB_moment 66 = .ok (.iaload, 1) := by decide +kernel
theorem dB_moment_67 : decode cB_moment 67 = .ok (.ireturn, 1) := by decide +kernel
theorem dB_moment_68 : decode cB_moment 68 = .ok (.aload_n 0, 1) := by decide +kernel
theorem dB_moment_69 : decode cB_moment 69 = .ok (.getfield 25, 3) := by decide +kernel
theorem dB_moment_72 : decode cB_moment 72 = .ok (.invokevirtual 150, 3) := by decide +kernel
theorem dB_moment_75 : decode cB_moment 75 = .ok (.ifCond .eq 7, 3) := by decide +kernel
theorem dB_moment_78 : decode cB_moment 78 = .ok (.iconst 1, 1) := by decide +kernel
theorem dB_moment_79 : decode cB_moment 79 = .ok (.goto 4, 3) := by decide +kernel
theorem dB_moment_82 : decode cB_moment 82 = .ok (.iconst 0, 1) := by decide +kernel
theorem dB_moment_83 : decode cB_moment 83 = .ok (.ireturn, 1) := by decide +kernel
theorem dB_moment_84 : decode cB_moment 84 = .ok (.new 121, 3) := by decide +kernel
theorem dB_moment_87 : decode cB_moment 87 = .ok (.dup, 1) := by decide +kernel
theorem dB_moment_88 : decode cB_moment 88 = .ok (.invokespecial 123, 3) := by decide +kernel
theorem dB_moment_91 : decode cB_moment 91 = .ok (.athrow, 1) := by decide +kernel
theorem dB_verify_0 : decode cB_verify 0 = .ok (.aload_n 0, 1) := by decide +kernel
theorem dB_verify_1 : decode cB_verify 1 = .ok (.getfield 97, 3) := by decide +kernel
theorem dB_verify_4 : decode cB_verify 4 = .ok (.ifCond .ne 11, 3) := by decide +kernel
theorem dB_verify_7 : decode cB_verify 7 = .ok (.new 72, 3) := by decide +kernel
theorem dB_verify_10 : decode cB_verify 10 = .ok (.dup, 1) := by decide +kernel
theorem dB_verify_11 : decode cB_verify 11 = .ok (.invokespecial 74, 3) := by decide +kernel
theorem dB_verify_14 : decode cB_verify 14 = .ok (.athrow, 1) := by decide +kernel
theorem dB_verify_15 : decode cB_verify 15 = .ok (.aload_n 0, 1) := by decide +kernel
theorem dB_verify_16 : decode cB_verify 16 = .ok (.getfield 29, 3) := by decide +kernel
theorem dB_verify_19 : decode cB_verify 19 = .ok (.invokevirtual 127, 3) := by decide +kernel
theorem dB_verify_22 : decode cB_verify 22 = .ok (.iconst 0, 1) := by decide +kernel
theorem dB_verify_23 : decode cB_verify 23 = .ok (.istore_n 1, 1) := by decide +kernel
theorem dB_verify_24 : decode cB_verify 24 = .ok (.iconst 0, 1) := by decide +kernel
theorem dB_verify_25 : decode cB_verify 25 = .ok (.istore_n 2, 1) := by decide +kernel
theorem dB_verify_26 : decode cB_verify 26 = .ok (.iload_n 2, 1) := by decide +kernel
theorem dB_verify_27 : decode cB_verify 27 = .ok (.aload_n 0, 1) := by decide +kernel
theorem dB_verify_28 : decode cB_verify 28 = .ok (.getfield 16, 3) := by decide +kernel
theorem dB_verify_31 : decode cB_verify 31 = .ok (.getfield 153, 3) := by decide +kernel
theorem dB_verify_34 : decode cB_verify 34 = .ok (.if_icmp .ge 86, 3) := by decide +kernel
theorem dB_verify_37 : decode cB_verify 37 = .ok (.iload_n 1, 1) := by decide +kernel
theorem dB_verify_38 : decode cB_verify 38 = .ok (.aload_n 0, 1) := by decide +kernel
theorem dB_verify_39 : decode cB_verify 39 = .ok (.getfield 35, 3) := by decide +kernel
theorem dB_verify_42 : decode cB_verify 42 = .ok (.getfield 101, 3) := by decide +kernel
theorem dB_verify_45 : decode cB_verify 45 = .ok (.if_icmp .ge 41, 3) := by decide +kernel
theorem dB_verify_48 : decode cB_verify 48 = .ok (.aload_n 0, 1) := by decide +kernel
theorem dB_verify_49 : decode cB_verify 49 = .ok (.getfield 35, 3) := by decide +kernel
theorem dB_verify_52 : decode cB_verify 52 = .ok (.getfield 112, 3) := by decide +kernel
theorem dB_verify_55 : decode cB_verify 55 = .ok (.iload_n 1, 1) := by decide +kernel
theorem dB_verify_56 : decode cB_verify 56 = .ok (.iaload, 1) := by decide +kernel
theorem dB_verify_57 : decode cB_verify 57 = .ok (.iload_n 2, 1) := by decide +kernel
theorem dB_verify_58 : decode cB_verify 58 = .ok (.if_icmp .ne 28, 3) := by decide +kernel
theorem dB_verify_61 : decode cB_verify 61 = .ok (.aload_n 0, 1) := by decide +kernel
theorem dB_verify_62 : decode cB_verify 62 = .ok (.getfield 29, 3) := by decide +kernel
theorem dB_verify_65 : decode cB_verify 65 = .ok (.aload_n 0, 1) := by decide +kernel
theorem dB_verify_66 : decode cB_verify 66 = .ok (.getfield 35, 3) := by decide +kernel
theorem dB_verify_69 : decode cB_verify 69 = .ok (.iload_n 1, 1) := by decide +kernel
theorem dB_verify_70 : decode cB_verify 70 = .ok (.invokevirtual 130, 3) := by decide +kernel
theorem dB_verify_73 : decode cB_verify 73 = .ok (.ifCond .ne 7, 3) := by decide +kernel
theorem dB_verify_76 : decode cB_verify 76 = .ok (.iload_n 1, 1) := by decide +kernel
theorem dB_verify_77 : decode cB_verify 77 = .ok (.iconst 1, 1) := by decide +kernel
theorem dB_verify_78 : decode cB_verify 78 = .ok (.iadd, 1) := by decide +kernel
theorem dB_verify_79 : decode cB_verify 79 = .ok (.ireturn, 1) := by decide +kernel
theorem dB_verify_80 : decode cB_verify 80 = .ok (.iinc 1 1, 3) := by decide +kernel
theorem dB_verify_83 : decode cB_verify 83 = .ok (.goto (-46), 3) := by decide +kernel
theorem dB_verify_86 : decode cB_verify 86 = .ok (.iload_n 2, 1) := by decide +kernel
theorem dB_verify_87 : decode cB_verify 87 = .ok (.aload_n 0, 1) := by decide +kernel
theorem dB_verify_88 : decode cB_verify 88 = .ok (.getfield 16, 3) := by decide +kernel
theorem dB_verify_91 : decode cB_verify 91 = .ok (.invokevirtual 155, 3) := by decide +kernel
theorem dB_verify_94 : decode cB_verify 94 = .ok (.if_icmp .ge 20, 3) := by decide +kernel
theorem dB_verify_97 : decode cB_verify 97 = .ok (.aload_n 0, 1) := by decide +kernel
theorem dB_verify_98 : decode cB_verify 98 = .ok (.getfield 29, 3) := by decide +kernel
theorem dB_verify_101 : decode cB_verify 101 = .ok (.iload_n 2, 1) := by decide +kernel
theorem dB_verify_102 : decode cB_verify 102 = .ok (.invokevirtual 158, 3) := by decide +kernel
theorem dB_verify_105 : decode cB_verify 105 = .ok (.ifCond .ne 9, 3) := by decide +kernel
theorem dB_verify_108 : decode cB_verify 108 = .ok (.iload_n 1, 1) := by decide +kernel
theorem dB_verify_109 : decode cB_verify 109 = .ok (.iconst 1, 1) := by decide +kernel
theorem dB_verify_110 : decode cB_verify 110 = .ok (.invokestatic 161, 3) := by decide +kernel
theorem dB_verify_113 : decode cB_verify 113 = .ok (.ireturn, 1) := by decide +kernel
theorem dB_verify_114 : decode cB_verify 114 = .ok (.iinc 2 1, 3) := by decide +kernel
theorem dB_verify_117 : decode cB_verify 117 = .ok (.goto (-91), 3) := by decide +kernel
theorem dB_verify_120 : decode cB_verify 120 = .ok (.aload_n 0, 1) := by decide +kernel
theorem dB_verify_121 : decode cB_verify 121 = .ok (.getfield 29, 3) := by decide +kernel
theorem dB_verify_124 : decode cB_verify 124 = .ok (.invokevirtual 166, 3) := by decide +kernel
theorem dB_verify_127 : decode cB_verify 127 = .ok (.ifCond .ne 7, 3) := by decide +kernel
theorem dB_verify_130 : decode cB_verify 130 = .ok (.iconst 0, 1) := by decide +kernel
theorem dB_verify_131 : decode cB_verify 131 = .ok (.goto 12, 3) := by decide +kernel
theorem dB_verify_134 : decode cB_verify 134 = .ok (.aload_n 0, 1) := by decide +kernel
theorem dB_verify_135 : decode cB_verify 135 = .ok (.getfield 35, 3) := by decide +kernel
theorem dB_verify_138 : decode cB_verify 138 = .ok (.getfield 101, 3) := by decide +kernel
theorem dB_verify_141 : decode cB_verify 141 = .ok (.iconst 1, 1) := by decide +kernel
theorem dB_verify_142 : decode cB_verify 142 = .ok (.iadd, 1) := by decide +kernel
theorem dB_verify_143 : decode cB_verify 143 = .ok (.ireturn, 1) := by decide +kernel
theorem dB_report_0 : decode cB_report 0 = .ok (.aload_n 0, 1) := by decide +kernel
theorem dB_report_1 : decode cB_report 1 = .ok (.getfield 16, 3) := by decide +kernel
theorem dB_report_4 : decode cB_report 4 = .ok (.iload_n 1, 1) := by decide +kernel
theorem dB_report_5 : decode cB_report 5 = .ok (.invokevirtual 65, 3) := by decide +kernel
theorem dB_report_8 : decode cB_report 8 = .ok (.ifCond .eq 16, 3) := by decide +kernel
theorem dB_report_11 : decode cB_report 11 = .ok (.iload_n 2, 1) := by decide +kernel
theorem dB_report_12 : decode cB_report 12 = .ok (.iconst 0, 1) := by decide +kernel
theorem dB_report_13 : decode cB_report 13 = .ok (.iconst 2, 1) := by decide +kernel
theorem dB_report_14 : decode cB_report 14 = .ok (.invokestatic 46, 3) := by decide +kernel
theorem dB_report_17 : decode cB_report 17 = .ok (.ifCond .eq 7, 3) := by decide +kernel
theorem dB_report_20 : decode cB_report 20 = .ok (.iconst 1, 1) := by decide +kernel
theorem dB_report_21 : decode cB_report 21 = .ok (.goto 4, 3) := by decide +kernel
theorem dB_report_24 : decode cB_report 24 = .ok (.iconst 0, 1) := by decide +kernel
theorem dB_report_25 : decode cB_report 25 = .ok (.invokestatic 50, 3) := by decide +kernel
theorem dB_report_28 : decode cB_report 28 = .ok (.iconst 0, 1) := by decide +kernel
theorem dB_report_29 : decode cB_report 29 = .ok (.istore_n 3, 1) := by decide +kernel
theorem dB_report_30 : decode cB_report 30 = .ok (.iconst 0, 1) := by decide +kernel
theorem dB_report_31 : decode cB_report 31 = .ok (.istore 4, 2) := by decide +kernel
theorem dB_report_33 : decode cB_report 33 = .ok (.iload 4, 2) := by decide +kernel
theorem dB_report_35 : decode cB_report 35 = .ok (.aload_n 0, 1) := by decide +kernel
theorem dB_report_36 : decode cB_report 36 = .ok (.getfield 35, 3) := by decide +kernel
theorem dB_report_39 : decode cB_report 39 = .ok (.getfield 101, 3) := by decide +kernel
theorem dB_report_42 : decode cB_report 42 = .ok (.if_icmp .ge 36, 3) := by decide +kernel
theorem dB_report_45 : decode cB_report 45 = .ok (.aload_n 0, 1) := by decide +kernel
theorem dB_report_46 : decode cB_report 46 = .ok (.getfield 35, 3) := by decide +kernel
theorem dB_report_49 : decode cB_report 49 = .ok (.getfield 112, 3) := by decide +kernel
theorem dB_report_52 : decode cB_report 52 = .ok (.iload 4, 2) := by decide +kernel
theorem dB_report_54 : decode cB_report 54 = .ok (.iaload, 1) := by decide +kernel
theorem dB_report_55 : decode cB_report 55 = .ok (.iload_n 1, 1) := by decide +kernel
theorem dB_report_56 : decode cB_report 56 = .ok (.if_icmp .ne 16, 3) := by decide +kernel
theorem dB_report_59 : decode cB_report 59 = .ok (.aload_n 0, 1) := by decide +kernel
theorem dB_report_60 : decode cB_report 60 = .ok (.iload 4, 2) := by decide +kernel
theorem dB_report_62 : decode cB_report 62 = .ok (.iload_n 2, 1) := by decide +kernel
theorem dB_report_63 : decode cB_report 63 = .ok (.invokevirtual 169, 3) := by decide +kernel
theorem dB_report_66 : decode cB_report 66 = .ok (.ifCond .eq 6, 3) := by decide +kernel
theorem dB_report_69 : decode cB_report 69 = .ok (.iinc 3 1, 3) := by decide +kernel
theorem dB_report_72 : decode cB_report 72 = .ok (.iinc 4 1, 3) := by decide +kernel
theorem dB_report_75 : decode cB_report 75 = .ok (.goto (-42), 3) := by decide +kernel
theorem dB_report_78 : decode cB_report 78 = .ok (.iload_n 3, 1) := by decide +kernel
theorem dB_report_79 : decode cB_report 79 = .ok (.ireturn, 1) := by decide +kernel
theorem dB_isReported_0 : decode cB_isReported 0 = .ok (.aload_n 0, 1) := by decide +kernel
theorem dB_isReported_1 : decode cB_isReported 1 = .ok (.getfield 35, 3) := by decide +kernel
theorem dB_isReported_4 : decode cB_isReported 4 = .ok (.getfield 108, 3) := by decide +kernel
theorem dB_isReported_7 : decode cB_isReported 7 = .ok (.iload_n 1, 1) := by decide +kernel
theorem dB_isReported_8 : decode cB_isReported 8 = .ok (.iaload, 1) := by decide +kernel
theorem dB_isReported_9 : decode cB_isReported 9 = .ok (.istore_n 3, 1) := by decide +kernel
theorem dB_isReported_10 : decode cB_isReported 10 = .ok (.aload_n 0, 1) := by decide +kernel
theorem dB_isReported_11 : decode cB_isReported 11 = .ok (.getfield 35, 3) := by decide +kernel
theorem dB_isReported_14 : decode cB_isReported 14 = .ok (.getfield 112, 3) := by decide +kernel
theorem dB_isReported_17 : decode cB_isReported 17 = .ok (.iload_n 1, 1) := by decide +kernel
theorem dB_isReported_18 : decode cB_isReported 18 = .ok (.iaload, 1) := by decide +kernel
theorem dB_isReported_19 : decode cB_isReported 19 = .ok (.istore 4, 2) := by decide +kernel
theorem dB_isReported_21 : decode cB_isReported 21 = .ok (.iload_n 2, 1) := by decide +kernel
theorem dB_isReported_22 : decode cB_isReported 22 = .ok (.lookupswitch 88 #[(0, 26), (1, 57)], 26) := by decide +kernel
theorem dB_isReported_48 : decode cB_isReported 48 = .ok (.aload_n 0, 1) := by decide +kernel
theorem dB_isReported_49 : decode cB_isReported 49 = .ok (.getfield 35, 3) := by decide +kernel
theorem dB_isReported_52 : decode cB_isReported 52 = .ok (.iload_n 1, 1) := by decide +kernel
theorem dB_isReported_53 : decode cB_isReported 53 = .ok (.invokevirtual 124, 3) := by decide +kernel
theorem dB_isReported_56 : decode cB_isReported 56 = .ok (.ifCond .eq 21, 3) := by decide +kernel
theorem dB_isReported_59 : decode cB_isReported 59 = .ok (.aload_n 0, 1) := by decide +kernel
theorem dB_isReported_60 : decode cB_isReported 60 = .ok (.getfield 16, 3) := by decide +kernel
theorem dB_isReported_63 : decode cB_isReported 63 = .ok (.getfield 173, 3) := by decide +kernel
theorem dB_isReported_66 : decode cB_isReported 66 = .ok (.iload_n 3, 1) := by decide +kernel
theorem dB_isReported_67 : decode cB_isReported 67 = .ok (.iaload, 1) := by decide +kernel
theorem dB_isReported_68 : decode cB_isReported 68 = .ok (.iload 4, 2) := by decide +kernel
theorem dB_isReported_70 : decode cB_isReported 70 = .ok (.if_icmp .ne 7, 3) := by decide +kernel
theorem dB_isReported_73 : decode cB_isReported 73 = .ok (.iconst 1, 1) := by decide +kernel
theorem dB_isReported_74 : decode cB_isReported 74 = .ok (.goto 4, 3) := by decide +kernel
theorem dB_isReported_77 : decode cB_isReported 77 = .ok (.iconst 0, 1) := by decide +kernel
theorem dB_isReported_78 : decode cB_isReported 78 = .ok (.ireturn, 1) := by decide +kernel
theorem dB_isReported_79 : decode cB_isReported 79 = .ok (.aload_n 0, 1) := by decide +kernel
theorem dB_isReported_80 : decode cB_isReported 80 = .ok (.getfield 35, 3) := by decide +kernel
theorem dB_isReported_83 : decode cB_isReported 83 = .ok (.iload_n 1, 1) := by decide +kernel
theorem dB_isReported_84 : decode cB_isReported 84 = .ok (.invokevirtual 124, 3) := by decide +kernel
theorem dB_isReported_87 : decode cB_isReported 87 = .ok (.ifCond .ne 21, 3) := by decide +kernel
theorem dB_isReported_90 : decode cB_isReported 90 = .ok (.aload_n 0, 1) := by decide +kernel
theorem dB_isReported_91 : decode cB_isReported 91 = .ok (.getfield 16, 3) := by decide +kernel
theorem dB_isReported_94 : decode cB_isReported 94 = .ok (.getfield 176, 3) := by decide +kernel
theorem dB_isReported_97 : decode cB_isReported 97 = .ok (.iload_n 3, 1) := by decide +kernel
theorem dB_isReported_98 : decode cB_isReported 98 = .ok (.iaload, 1) := by decide +kernel
theorem dB_isReported_99 : decode cB_isReported 99 = .ok (.iload 4, 2) := by decide +kernel
theorem dB_isReported_101 : decode cB_isReported 101 = .ok (.if_icmp .ne 7, 3) := by decide +kernel
theorem dB_isReported_104 : decode cB_isReported 104 = .ok (.iconst 1, 1) := by decide +kernel
theorem dB_isReported_105 : decode cB_isReported 105 = .ok (.goto 4, 3) := by decide +kernel
theorem dB_isReported_108 : decode cB_isReported 108 = .ok (.iconst 0, 1) := by decide +kernel
theorem dB_isReported_109 : decode cB_isReported 109 = .ok (.ireturn, 1) := by decide +kernel
theorem dB_isReported_110 : decode cB_isReported 110 = .ok (.aload_n 0, 1) := by decide +kernel
theorem dB_isReported_111 : decode cB_isReported 111 = .ok (.getfield 35, 3) := by decide +kernel
theorem dB_isReported_114 : decode cB_isReported 114 = .ok (.iload_n 1, 1) := by decide +kernel
theorem dB_isReported_115 : decode cB_isReported 115 = .ok (.invokevirtual 124, 3) := by decide +kernel
theorem dB_isReported_118 : decode cB_isReported 118 = .ok (.ifCond .eq 21, 3) := by decide +kernel
theorem dB_isReported_121 : decode cB_isReported 121 = .ok (.aload_n 0, 1) := by decide +kernel
theorem dB_isReported_122 : decode cB_isReported 122 = .ok (.getfield 16, 3) := by decide +kernel
theorem dB_isReported_125 : decode cB_isReported 125 = .ok (.getfield 173, 3) := by decide +kernel
theorem dB_isReported_128 : decode cB_isReported 128 = .ok (.iload_n 3, 1) := by decide +kernel
theorem dB_isReported_129 : decode cB_isReported 129 = .ok (.iaload, 1) := by decide +kernel
theorem dB_isReported_130 : decode cB_isReported 130 = .ok (.iload 4, 2) := by decide +kernel
theorem dB_isReported_132 : decode cB_isReported 132 = .ok (.if_icmp .eq 7, 3) := by decide +kernel
theorem dB_isReported_135 : decode cB_isReported 135 = .ok (.iconst 1, 1) := by decide +kernel
theorem dB_isReported_136 : decode cB_isReported 136 = .ok (.goto 4, 3) := by decide +kernel
theorem dB_isReported_139 : decode cB_isReported 139 = .ok (.iconst 0, 1) := by decide +kernel
theorem dB_isReported_140 : decode cB_isReported 140 = .ok (.ireturn, 1) := by decide +kernel
