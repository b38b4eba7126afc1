/-! decode rows, by program -/
theorem dM_init_0 : decode cM_init 0 = .ok (.aload_n 0, 1) := by decide +kernel
theorem dM_init_1 : decode cM_init 1 = .ok (.invokespecial 1, 3) := by decide +kernel
theorem dM_init_4 : decode cM_init 4 = .ok (.aload_n 0, 1) := by decide +kernel
theorem dM_init_5 : decode cM_init 5 = .ok (.iconst 2, 1) := by decide +kernel
theorem dM_init_6 : decode cM_init 6 = .ok (.putfield 7, 3) := by decide +kernel
theorem dM_init_9 : decode cM_init 9 = .ok (.aload_n 0, 1) := by decide +kernel
theorem dM_init_10 : decode cM_init 10 = .ok (.iconst 2, 1) := by decide +kernel
theorem dM_init_11 : decode cM_init 11 = .ok (.putfield 13, 3) := by decide +kernel
theorem dM_init_14 : decode cM_init 14 = .ok (.aload_n 0, 1) := by decide +kernel
theorem dM_init_15 : decode cM_init 15 = .ok (.iconst 3, 1) := by decide +kernel
theorem dM_init_16 : decode cM_init 16 = .ok (.putfield 16, 3) := by decide +kernel
theorem dM_init_19 : decode cM_init 19 = .ok (.aload_n 0, 1) := by decide +kernel
theorem dM_init_20 : decode cM_init 20 = .ok (.bipush 100, 2) := by decide +kernel
theorem dM_init_22 : decode cM_init 22 = .ok (.putfield 19, 3) := by decide +kernel
theorem dM_init_25 : decode cM_init 25 = .ok (.aload_n 0, 1) := by decide +kernel
theorem dM_init_26 : decode cM_init 26 = .ok (.sipush 1000, 3) := by decide +kernel
theorem dM_init_29 : decode cM_init 29 = .ok (.putfield 22, 3) := by decide +kernel
theorem dM_init_32 : decode cM_init 32 = .ok (.aload_n 0, 1) := by decide +kernel
theorem dM_init_33 : decode cM_init 33 = .ok (.sipush 1000, 3) := by decide +kernel
theorem dM_init_36 : decode cM_init 36 = .ok (.putfield 25, 3) := by decide +kernel
theorem dM_init_39 : decode cM_init 39 = .ok (.aload_n 0, 1) := by decide +kernel
theorem dM_init_40 : decode cM_init 40 = .ok (.iconst 3, 1) := by decide +kernel
theorem dM_init_41 : decode cM_init 41 = .ok (.newarray .boolean, 2) := by decide +kernel
theorem dM_init_43 : decode cM_init 43 = .ok (.putfield 28, 3) := by decide +kernel
theorem dM_init_46 : decode cM_init 46 = .ok (.aload_n 0, 1) := by decide +kernel
theorem dM_init_47 : decode cM_init 47 = .ok (.iconst 5, 1) := by decide +kernel
theorem dM_init_48 : decode cM_init 48 = .ok (.newarray .int, 2) := by decide +kernel
theorem dM_init_50 : decode cM_init 50 = .ok (.putfield 32, 3) := by decide +kernel
theorem dM_init_53 : decode cM_init 53 = .ok (.aload_n 0, 1) := by decide +kernel
theorem dM_init_54 : decode cM_init 54 = .ok (.iconst 5, 1) := by decide +kernel
theorem dM_init_55 : decode cM_init 55 = .ok (.newarray .int, 2) := by decide +kernel
theorem dM_init_57 : decode cM_init 57 = .ok (.putfield 36, 3) := by decide +kernel
theorem dM_init_60 : decode cM_init 60 = .ok (.aload_n 0, 1) := by decide +kernel
theorem dM_init_61 : decode cM_init 61 = .ok (.iconst 5, 1) := by decide +kernel
theorem dM_init_62 : decode cM_init 62 = .ok (.newarray .int, 2) := by decide +kernel
theorem dM_init_64 : decode cM_init 64 = .ok (.putfield 39, 3) := by decide +kernel
theorem dM_init_67 : decode cM_init 67 = .ok (.aload_n 0, 1) := by decide +kernel
theorem dM_init_68 : decode cM_init 68 = .ok (.iconst 5, 1) := by decide +kernel
theorem dM_init_69 : decode cM_init 69 = .ok (.newarray .int, 2) := by decide +kernel
theorem dM_init_71 : decode cM_init 71 = .ok (.putfield 42, 3) := by decide +kernel
theorem dM_init_74 : decode cM_init 74 = .ok (.aload_n 0, 1) := by decide +kernel
theorem dM_init_75 : decode cM_init 75 = .ok (.iconst 5, 1) := by decide +kernel
theorem dM_init_76 : decode cM_init 76 = .ok (.newarray .boolean, 2) := by decide +kernel
theorem dM_init_78 : decode cM_init 78 = .ok (.putfield 45, 3) := by decide +kernel
theorem dM_init_81 : decode cM_init 81 = .ok (.aload_n 0, 1) := by decide +kernel
theorem dM_init_82 : decode cM_init 82 = .ok (.sipush 7800, 3) := by decide +kernel
theorem dM_init_85 : decode cM_init 85 = .ok (.newarray .int, 2) := by decide +kernel
theorem dM_init_87 : decode cM_init 87 = .ok (.putfield 48, 3) := by decide +kernel
theorem dM_init_90 : decode cM_init 90 = .ok (.aload_n 0, 1) := by decide +kernel
theorem dM_init_91 : decode cM_init 91 = .ok (.sipush 7800, 3) := by decide +kernel
theorem dM_init_94 : decode cM_init 94 = .ok (.newarray .int, 2) := by decide +kernel
theorem dM_init_96 : decode cM_init 96 = .ok (.putfield 51, 3) := by decide +kernel
theorem dM_init_99 : decode cM_init 99 = .ok (.aload_n 0, 1) := by decide +kernel
theorem dM_init_100 : decode cM_init 100 = .ok (.iconst 3, 1) := by decide +kernel
theorem dM_init_101 : decode cM_init 101 = .ok (.newarray .int, 2) := by decide +kernel
theorem dM_init_103 : decode cM_init 103 = .ok (.putfield 54, 3) := by decide +kernel
theorem dM_init_106 : decode cM_init 106 = .ok (.aload_n 0, 1) := by decide +kernel
theorem dM_init_107 : decode cM_init 107 = .ok (.bipush 9, 2) := by decide +kernel
theorem dM_init_109 : decode cM_init 109 = .ok (.newarray .int, 2) := by decide +kernel
theorem dM_init_111 : decode cM_init 111 = .ok (.putfield 57, 3) := by decide +kernel
theorem dM_init_114 : decode cM_init 114 = .ok (.aload_n 0, 1) := by decide +kernel
theorem dM_init_115 : decode cM_init 115 = .ok (.bipush 60, 2) := by decide +kernel
theorem dM_init_117 : decode cM_init 117 = .ok (.newarray .int, 2) := by decide +kernel
theorem dM_init_119 : decode cM_init 119 = .ok (.putfield 60, 3) := by decide +kernel
theorem dM_init_122 : decode cM_init 122 = .ok (.aload_n 0, 1) := by decide +kernel
theorem dM_init_123 : decode cM_init 123 = .ok (.bipush 60, 2) := by decide +kernel
theorem dM_init_125 : decode cM_init 125 = .ok (.newarray .int, 2) := by decide +kernel
theorem dM_init_127 : decode cM_init 127 = .ok (.putfield 63, 3) := by decide +kernel
theorem dM_init_130 : decode cM_init 130 = .ok (.aload_n 0, 1) := by decide +kernel
theorem dM_init_131 : decode cM_init 131 = .ok (.bipush 60, 2) := by decide +kernel
theorem dM_init_133 : decode cM_init 133 = .ok (.newarray .int, 2) := by decide +kernel
theorem dM_init_135 : decode cM_init 135 = .ok (.putfield 66, 3) := by decide +kernel
theorem dM_init_138 : decode cM_init 138 = .ok (.aload_n 0, 1) := by decide +kernel
theorem dM_init_139 : decode cM_init 139 = .ok (.bipush 60, 2) := by decide +kernel
theorem dM_init_141 : decode cM_init 141 = .ok (.newarray .int, 2) := by decide +kernel
theorem dM_init_143 : decode cM_init 143 = .ok (.putfield 69, 3) := by decide +kernel
theorem dM_init_146 : decode cM_init 146 = .ok (.aload_n 0, 1) := by decide +kernel
theorem dM_init_147 : decode cM_init 147 = .ok (.bipush 9, 2) := by decide +kernel
theorem dM_init_149 : decode cM_init 149 = .ok (.newarray .int, 2) := by decide +kernel
theorem dM_init_151 : decode cM_init 151 = .ok (.putfield 72, 3) := by decide +kernel
theorem dM_init_154 : decode cM_init 154 = .ok (.aload_n 0, 1) := by decide +kernel
theorem dM_init_155 : decode cM_init 155 = .ok (.bipush 9, 2) := by decide +kernel
theorem dM_init_157 : decode cM_init 157 = .ok (.newarray .int, 2) := by decide +kernel
theorem dM_init_159 : decode cM_init 159 = .ok (.putfield 75, 3) := by decide +kernel
theorem dM_init_162 : decode cM_init 162 = .ok (.aload_n 0, 1) := by decide +kernel
theorem dM_init_163 : decode cM_init 163 = .ok (.getfield 72, 3) := by decide +kernel
theorem dM_init_166 : decode cM_init 166 = .ok (.invokestatic 78, 3) := by decide +kernel
theorem dM_init_169 : decode cM_init 169 = .ok (.return_, 1) := by decide +kernel
theorem dM_empty_0 : decode cM_empty 0 = .ok (.iconst 0, 1) := by decide +kernel
theorem dM_empty_1 : decode cM_empty 1 = .ok (.istore_n 1, 1) := by decide +kernel
theorem dM_empty_2 : decode cM_empty 2 = .ok (.iload_n 1, 1) := by decide +kernel
theorem dM_empty_3 : decode cM_empty 3 = .ok (.bipush 9, 2) := by decide +kernel
theorem dM_empty_5 : decode cM_empty 5 = .ok (.if_icmp .ge 13, 3) := by decide +kernel
theorem dM_empty_8 : decode cM_empty 8 = .ok (.aload_n 0, 1) := by decide +kernel
theorem dM_empty_9 : decode cM_empty 9 = .ok (.iload_n 1, 1) := by decide +kernel
theorem dM_empty_10 : decode cM_empty 10 = .ok (.iconst (-1), 1) := by decide +kernel
theorem dM_empty_11 : decode cM_empty 11 = .ok (.iastore, 1) := by decide +kernel
theorem dM_empty_12 : decode cM_empty 12 = .ok (.iinc 1 1, 3) := by decide +kernel
theorem dM_empty_15 : decode cM_empty 15 = .ok (.goto (-13), 3) := by decide +kernel
theorem dM_empty_18 : decode cM_empty 18 = .ok (.return_, 1) := by decide +kernel
theorem dM_thrown_0 : decode cM_thrown 0 = .ok (.aload_n 0, 1) := by decide +kernel
theorem dM_thrown_1 : decode cM_thrown 1 = .ok (.getfield 82, 3) := by decide +kernel
theorem dM_thrown_4 : decode cM_thrown 4 = .ok (.ireturn, 1) := by decide +kernel
theorem dM_bay_0 : decode cM_bay 0 = .ok (.iload_n 1, 1) := by decide +kernel
theorem dM_bay_1 : decode cM_bay 1 = .ok (.iconst 1, 1) := by decide +kernel
theorem dM_bay_2 : decode cM_bay 2 = .ok (.iconst 3, 1) := by decide +kernel
theorem dM_bay_3 : decode cM_bay 3 = .ok (.invokestatic 92, 3) := by decide +kernel
theorem dM_bay_6 : decode cM_bay 6 = .ok (.ifCond .eq 61, 3) := by decide +kernel
theorem dM_bay_9 : decode cM_bay 9 = .ok (.iload_n 2, 1) := by decide +kernel
theorem dM_bay_10 : decode cM_bay 10 = .ok (.iconst 1, 1) := by decide +kernel
theorem dM_bay_11 : decode cM_bay 11 = .ok (.iconst 3, 1) := by decide +kernel
theorem dM_bay_12 : decode cM_bay 12 = .ok (.invokestatic 92, 3) := by decide +kernel
theorem dM_bay_15 : decode cM_bay 15 = .ok (.ifCond .eq 52, 3) := by decide +kernel
theorem dM_bay_18 : decode cM_bay 18 = .ok (.iload_n 3, 1) := by decide +kernel
theorem dM_bay_19 : decode cM_bay 19 = .ok (.iconst 2, 1) := by decide +kernel
theorem dM_bay_20 : decode cM_bay 20 = .ok (.iconst 4, 1) := by decide +kernel
theorem dM_bay_21 : decode cM_bay 21 = .ok (.invokestatic 92, 3) := by decide +kernel
theorem dM_bay_24 : decode cM_bay 24 = .ok (.ifCond .eq 43, 3) := by decide +kernel
theorem dM_bay_27 : decode cM_bay 27 = .ok (.iload 4, 2) := by decide +kernel
theorem dM_bay_29 : decode cM_bay 29 = .ok (.iconst 1, 1) := by decide +kernel
theorem dM_bay_30 : decode cM_bay 30 = .ok (.sipush 200, 3) := by decide +kernel
theorem dM_bay_33 : decode cM_bay 33 = .ok (.invokestatic 92, 3) := by decide +kernel
theorem dM_bay_36 : decode cM_bay 36 = .ok (.ifCond .eq 31, 3) := by decide +kernel
theorem dM_bay_39 : decode cM_bay 39 = .ok (.iload 5, 2) := by decide +kernel
theorem dM_bay_41 : decode cM_bay 41 = .ok (.iconst 0, 1) := by decide +kernel
theorem dM_bay_42 : decode cM_bay 42 = .ok (.sipush 2000, 3) := by decide +kernel
theorem dM_bay_45 : decode cM_bay 45 = .ok (.invokestatic 92, 3) := by decide +kernel
theorem dM_bay_48 : decode cM_bay 48 = .ok (.ifCond .eq 19, 3) := by decide +kernel
theorem dM_bay_51 : decode cM_bay 51 = .ok (.iload 6, 2) := by decide +kernel
theorem dM_bay_53 : decode cM_bay 53 = .ok (.iconst 0, 1) := by decide +kernel
theorem dM_bay_54 : decode cM_bay 54 = .ok (.sipush 2000, 3) := by decide +kernel
theorem dM_bay_57 : decode cM_bay 57 = .ok (.invokestatic 92, 3) := by decide +kernel
theorem dM_bay_60 : decode cM_bay 60 = .ok (.ifCond .eq 7, 3) := by decide +kernel
theorem dM_bay_63 : decode cM_bay 63 = .ok (.iconst 1, 1) := by decide +kernel
theorem dM_bay_64 : decode cM_bay 64 = .ok (.goto 4, 3) := by decide +kernel
theorem dM_bay_67 : decode cM_bay 67 = .ok (.iconst 0, 1) := by decide +kernel
theorem dM_bay_68 : decode cM_bay 68 = .ok (.istore 7, 2) := by decide +kernel
theorem dM_bay_70 : decode cM_bay 70 = .ok (.aload_n 0, 1) := by decide +kernel
theorem dM_bay_71 : decode cM_bay 71 = .ok (.iload 7, 2) := by decide +kernel
theorem dM_bay_73 : decode cM_bay 73 = .ok (.ifCond .ne 7, 3) := by decide +kernel
theorem dM_bay_76 : decode cM_bay 76 = .ok (.iconst 1, 1) := by decide +kernel
theorem dM_bay_77 : decode cM_bay 77 = .ok (.goto 4, 3) := by decide +kernel
theorem dM_bay_80 : decode cM_bay 80 = .ok (.iconst 0, 1) := by decide +kernel
theorem dM_bay_81 : decode cM_bay 81 = .ok (.iconst 0, 1) := by decide +kernel
theorem dM_bay_82 : decode cM_bay 82 = .ok (.invokevirtual 96, 3) := by decide +kernel
theorem dM_bay_85 : decode cM_bay 85 = .ok (.ifCond .eq 4, 3) := by decide +kernel
theorem dM_bay_88 : decode cM_bay 88 = .ok (.return_, 1) := by decide +kernel
theorem dM_bay_89 : decode cM_bay 89 = .ok (.aload_n 0, 1) := by decide +kernel
theorem dM_bay_90 : decode cM_bay 90 = .ok (.iload_n 1, 1) := by decide +kernel
theorem dM_bay_91 : decode cM_bay 91 = .ok (.putfield 7, 3) := by decide +kernel
theorem dM_bay_94 : decode cM_bay 94 = .ok (.aload_n 0, 1) := by decide +kernel
theorem dM_bay_95 : decode cM_bay 95 = .ok (.iload_n 2, 1) := by decide +kernel
theorem dM_bay_96 : decode cM_bay 96 = .ok (.putfield 13, 3) := by decide +kernel
theorem dM_bay_99 : decode cM_bay 99 = .ok (.aload_n 0, 1) := by decide +kernel
theorem dM_bay_100 : decode cM_bay 100 = .ok (.iload_n 3, 1) := by decide +kernel
theorem dM_bay_101 : decode cM_bay 101 = .ok (.putfield 16, 3) := by decide +kernel
theorem dM_bay_104 : decode cM_bay 104 = .ok (.aload_n 0, 1) := by decide +kernel
theorem dM_bay_105 : decode cM_bay 105 = .ok (.iload 4, 2) := by decide +kernel
theorem dM_bay_107 : decode cM_bay 107 = .ok (.putfield 19, 3) := by decide +kernel
theorem dM_bay_110 : decode cM_bay 110 = .ok (.aload_n 0, 1) := by decide +kernel
theorem dM_bay_111 : decode cM_bay 111 = .ok (.iload 5, 2) := by decide +kernel
theorem dM_bay_113 : decode cM_bay 113 = .ok (.putfield 22, 3) := by decide +kernel
theorem dM_bay_116 : decode cM_bay 116 = .ok (.aload_n 0, 1) := by decide +kernel
theorem dM_bay_117 : decode cM_bay 117 = .ok (.iload 6, 2) := by decide +kernel
theorem dM_bay_119 : decode cM_bay 119 = .ok (.putfield 25, 3) := by decide +kernel
theorem dM_bay_122 : decode cM_bay 122 = .ok (.aload_n 0, 1) := by decide +kernel
theorem dM_bay_123 : decode cM_bay 123 = .ok (.iconst 0, 1) := by decide +kernel
theorem dM_bay_124 : decode cM_bay 124 = .ok (.putfield 100, 3) := by decide +kernel
theorem dM_bay_127 : decode cM_bay 127 = .ok (.iconst 0, 1) := by decide +kernel
theorem dM_bay_128 : decode cM_bay 128 = .ok (.istore 8, 2) := by decide +kernel
theorem dM_bay_130 : decode cM_bay 130 = .ok (.iload 8, 2) := by decide +kernel
theorem dM_bay_132 : decode cM_bay 132 = .ok (.iconst 3, 1) := by decide +kernel
theorem dM_bay_133 : decode cM_bay 133 = .ok (.if_icmp .ge 17, 3) := by decide +kernel
theorem dM_bay_136 : decode cM_bay 136 = .ok (.aload_n 0, 1) := by decide +kernel
theorem dM_bay_137 : decode cM_bay 137 = .ok (.getfield 28, 3) := by decide +kernel
theorem dM_bay_140 : decode cM_bay 140 = .ok (.iload 8, 2) := by decide +kernel
theorem dM_bay_142 : decode cM_bay 142 = .ok (.iconst 0, 1) := by decide +kernel
theorem dM_bay_143 : decode cM_bay 143 = .ok (.bastore, 1) := by decide +kernel
theorem dM_bay_144 : decode cM_bay 144 = .ok (.iinc 8 1, 3) := by decide +kernel
theorem dM_bay_147 : decode cM_bay 147 = .ok (.goto (-17), 3) := by decide +kernel
theorem dM_bay_150 : decode cM_bay 150 = .ok (.aload_n 0, 1) := by decide +kernel
theorem dM_bay_151 : decode cM_bay 151 = .ok (.invokevirtual 103, 3) := by decide +kernel
theorem dM_bay_154 : decode cM_bay 154 = .ok (.return_, 1) := by decide +kernel
theorem dM_in_0 : decode cM_in 0 = .ok (.iload_n 0, 1) := by decide +kernel
theorem dM_in_1 : decode cM_in 1 = .ok (.iload_n 1, 1) := by decide +kernel
theorem dM_in_2 : decode cM_in 2 = .ok (.if_icmp .lt 12, 3) := by decide +kernel
theorem dM_in_5 : decode cM_in 5 = .ok (.iload_n 0, 1) := by decide +kernel
theorem dM_in_6 : decode cM_in 6 = .ok (.iload_n 2, 1) := by decide +kernel
theorem dM_in_7 : decode cM_in 7 = .ok (.if_icmp .gt 7, 3) := by decide +kernel
theorem dM_in_10 : decode cM_in 10 = .ok (.iconst 1, 1) := by decide +kernel
theorem dM_in_11 : decode cM_in 11 = .ok (.goto 4, 3) := by decide +kernel
theorem dM_in_14 : decode cM_in 14 = .ok (.iconst 0, 1) := by decide +kernel
theorem dM_in_15 : decode cM_in 15 = .ok (.ireturn, 1) := by decide +kernel
theorem dM_refuse_0 : decode cM_refuse 0 = .ok (.aload_n 0, 1) := by decide +kernel
theorem dM_refuse_1 : decode cM_refuse 1 = .ok (.iload_n 1, 1) := by decide +kernel
theorem dM_refuse_2 : decode cM_refuse 2 = .ok (.ifCond .eq 7, 3) := by decide +kernel
theorem dM_refuse_5 : decode cM_refuse 5 = .ok (.iconst 1, 1) := by decide +kernel
theorem dM_refuse_6 : decode cM_refuse 6 = .ok (.goto 12, 3) := by decide +kernel
theorem dM_refuse_9 : decode cM_refuse 9 = .ok (.iload_n 2, 1) := by decide +kernel
theorem dM_refuse_10 : decode cM_refuse 10 = .ok (.ifCond .eq 7, 3) := by decide +kernel
theorem dM_refuse_13 : decode cM_refuse 13 = .ok (.iconst 2, 1) := by decide +kernel
theorem dM_refuse_14 : decode cM_refuse 14 = .ok (.goto 4, 3) := by decide +kernel
theorem dM_refuse_17 : decode cM_refuse 17 = .ok (.iconst 0, 1) := by decide +kernel
theorem dM_refuse_18 : decode cM_refuse 18 = .ok (.putfield 82, 3) := by decide +kernel
theorem dM_refuse_21 : decode cM_refuse 21 = .ok (.aload_n 0, 1) := by decide +kernel
theorem dM_refuse_22 : decode cM_refuse 22 = .ok (.getfield 82, 3) := by decide +kernel
theorem dM_refuse_25 : decode cM_refuse 25 = .ok (.ifCond .le 7, 3) := by decide +kernel
theorem dM_refuse_28 : decode cM_refuse 28 = .ok (.iconst 1, 1) := by decide +kernel
theorem dM_refuse_29 : decode cM_refuse 29 = .ok (.goto 4, 3) := by decide +kernel
theorem dM_refuse_32 : decode cM_refuse 32 = .ok (.iconst 0, 1) := by decide +kernel
theorem dM_refuse_33 : decode cM_refuse 33 = .ok (.ireturn, 1) := by decide +kernel
theorem dM_noPlan_0 : decode cM_noPlan 0 = .ok (.aload_n 0, 1) := by decide +kernel
theorem dM_noPlan_1 : decode cM_noPlan 1 = .ok (.iconst 0, 1) := by decide +kernel
theorem dM_noPlan_2 : decode cM_noPlan 2 = .ok (.putfield 85, 3) := by decide +kernel
theorem dM_noPlan_5 : decode cM_noPlan 5 = .ok (.aload_n 0, 1) := by decide +kernel
theorem dM_noPlan_6 : decode cM_noPlan 6 = .ok (.iconst 0, 1) := by decide +kernel
theorem dM_noPlan_7 : decode cM_noPlan 7 = .ok (.putfield 89, 3) := by decide +kernel
theorem dM_noPlan_10 : decode cM_noPlan 10 = .ok (.aload_n 0, 1) := by decide +kernel
theorem dM_noPlan_11 : decode cM_noPlan 11 = .ok (.getfield 72, 3) := by decide +kernel
theorem dM_noPlan_14 : decode cM_noPlan 14 = .ok (.invokestatic 78, 3) := by decide +kernel
theorem dM_noPlan_17 : decode cM_noPlan 17 = .ok (.return_, 1) := by decide +kernel
theorem dM_plug_0 : decode cM_plug 0 = .ok (.aload_n 0, 1) := by decide +kernel
theorem dM_plug_1 : decode cM_plug 1 = .ok (.aload_n 0, 1) := by decide +kernel
theorem dM_plug_2 : decode cM_plug 2 = .ok (.iload_n 1, 1) := by decide +kernel
theorem dM_plug_3 : decode cM_plug 3 = .ok (.invokevirtual 106, 3) := by decide +kernel
theorem dM_plug_6 : decode cM_plug 6 = .ok (.ifCond .ne 7, 3) := by decide +kernel
theorem dM_plug_9 : decode cM_plug 9 = .ok (.iconst 1, 1) := by decide +kernel
theorem dM_plug_10 : decode cM_plug 10 = .ok (.goto 4, 3) := by decide +kernel
theorem dM_plug_13 : decode cM_plug 13 = .ok (.iconst 0, 1) := by decide +kernel
theorem dM_plug_14 : decode cM_plug 14 = .ok (.iconst 0, 1) := by decide +kernel
theorem dM_plug_15 : decode cM_plug 15 = .ok (.invokevirtual 96, 3) := by decide +kernel
theorem dM_plug_18 : decode cM_plug 18 = .ok (.ifCond .eq 4, 3) := by decide +kernel
theorem dM_plug_21 : decode cM_plug 21 = .ok (.return_, 1) := by decide +kernel
theorem dM_plug_22 : decode cM_plug 22 = .ok (.aload_n 0, 1) := by decide +kernel
theorem dM_plug_23 : decode cM_plug 23 = .ok (.getfield 28, 3) := by decide +kernel
theorem dM_plug_26 : decode cM_plug 26 = .ok (.iload_n 1, 1) := by decide +kernel
theorem dM_plug_27 : decode cM_plug 27 = .ok (.iload_n 2, 1) := by decide +kernel
theorem dM_plug_28 : decode cM_plug 28 = .ok (.bastore, 1) := by decide +kernel
theorem dM_plug_29 : decode cM_plug 29 = .ok (.aload_n 0, 1) := by decide +kernel
theorem dM_plug_30 : decode cM_plug 30 = .ok (.invokevirtual 103, 3) := by decide +kernel
theorem dM_plug_33 : decode cM_plug 33 = .ok (.return_, 1) := by decide +kernel
theorem dM_isStack_0 : decode cM_isStack 0 = .ok (.iload_n 1, 1) := by decide +kernel
theorem dM_isStack_1 : decode cM_isStack 1 = .ok (.iconst 0, 1) := by decide +kernel
theorem dM_isStack_2 : decode cM_isStack 2 = .ok (.aload_n 0, 1) := by decide +kernel
theorem dM_isStack_3 : decode cM_isStack 3 = .ok (.getfield 7, 3) := by decide +kernel
theorem dM_isStack_6 : decode cM_isStack 6 = .ok (.iconst 1, 1) := by decide +kernel
theorem dM_isStack_7 : decode cM_isStack 7 = .ok (.isub, 1) := by decide +kernel
theorem dM_isStack_8 : decode cM_isStack 8 = .ok (.invokestatic 92, 3) := by decide +kernel
theorem dM_isStack_11 : decode cM_isStack 11 = .ok (.ireturn, 1) := by decide +kernel
theorem dM_box_0 : decode cM_box 0 = .ok (.iload_n 1, 1) := by decide +kernel
theorem dM_box_1 : decode cM_box 1 = .ok (.iconst 0, 1) := by decide +kernel
theorem dM_box_2 : decode cM_box 2 = .ok (.aload_n 0, 1) := by decide +kernel
theorem dM_box_3 : decode cM_box 3 = .ok (.getfield 16, 3) := by decide +kernel
theorem dM_box_6 : decode cM_box 6 = .ok (.iconst 1, 1) := by decide +kernel
theorem dM_box_7 : decode cM_box 7 = .ok (.isub, 1) := by decide +kernel
theorem dM_box_8 : decode cM_box 8 = .ok (.invokestatic 92, 3) := by decide +kernel
theorem dM_box_11 : decode cM_box 11 = .ok (.ifCond .eq 46, 3) := by decide +kernel
theorem dM_box_14 : decode cM_box 14 = .ok (.iload_n 2, 1) := by decide +kernel
theorem dM_box_15 : decode cM_box 15 = .ok (.iconst 0, 1) := by decide +kernel
theorem dM_box_16 : decode cM_box 16 = .ok (.aload_n 0, 1) := by decide +kernel
theorem dM_box_17 : decode cM_box 17 = .ok (.getfield 16, 3) := by decide +kernel
theorem dM_box_20 : decode cM_box 20 = .ok (.iconst 1, 1) := by decide +kernel
theorem dM_box_21 : decode cM_box 21 = .ok (.isub, 1) := by decide +kernel
theorem dM_box_22 : decode cM_box 22 = .ok (.invokestatic 92, 3) := by decide +kernel
theorem dM_box_25 : decode cM_box 25 = .ok (.ifCond .eq 32, 3) := by decide +kernel
theorem dM_box_28 : decode cM_box 28 = .ok (.iload_n 1, 1) := by decide +kernel
theorem dM_box_29 : decode cM_box 29 = .ok (.iload_n 2, 1) := by decide +kernel
theorem dM_box_30 : decode cM_box 30 = .ok (.if_icmp .ge 27, 3) := by decide +kernel
theorem dM_box_33 : decode cM_box 33 = .ok (.iload_n 3, 1) := by decide +kernel
theorem dM_box_34 : decode cM_box 34 = .ok (.iconst 1, 1) := by decide +kernel
theorem dM_box_35 : decode cM_box 35 = .ok (.bipush 40, 2) := by decide +kernel
theorem dM_box_37 : decode cM_box 37 = .ok (.invokestatic 92, 3) := by decide +kernel
theorem dM_box_40 : decode cM_box 40 = .ok (.ifCond .eq 17, 3) := by decide +kernel
theorem dM_box_43 : decode cM_box 43 = .ok (.iload 4, 2) := by decide +kernel
theorem dM_box_45 : decode cM_box 45 = .ok (.iconst 0, 1) := by decide +kernel
theorem dM_box_46 : decode cM_box 46 = .ok (.iconst 3, 1) := by decide +kernel
theorem dM_box_47 : decode cM_box 47 = .ok (.invokestatic 92, 3) := by decide +kernel
theorem dM_box_50 : decode cM_box 50 = .ok (.ifCond .eq 7, 3) := by decide +kernel
theorem dM_box_53 : decode cM_box 53 = .ok (.iconst 1, 1) := by decide +kernel
theorem dM_box_54 : decode cM_box 54 = .ok (.goto 4, 3) := by decide +kernel
theorem dM_box_57 : decode cM_box 57 = .ok (.iconst 0, 1) := by decide +kernel
theorem dM_box_58 : decode cM_box 58 = .ok (.istore 5, 2) := by decide +kernel
theorem dM_box_60 : decode cM_box 60 = .ok (.aload_n 0, 1) := by decide +kernel
theorem dM_box_61 : decode cM_box 61 = .ok (.iload 5, 2) := by decide +kernel
theorem dM_box_63 : decode cM_box 63 = .ok (.ifCond .ne 7, 3) := by decide +kernel
theorem dM_box_66 : decode cM_box 66 = .ok (.iconst 1, 1) := by decide +kernel
theorem dM_box_67 : decode cM_box 67 = .ok (.goto 4, 3) := by decide +kernel
theorem dM_box_70 : decode cM_box 70 = .ok (.iconst 0, 1) := by decide +kernel
theorem dM_box_71 : decode cM_box 71 = .ok (.aload_n 0, 1) := by decide +kernel
theorem dM_box_72 : decode cM_box 72 = .ok (.getfield 100, 3) := by decide +kernel
theorem dM_box_75 : decode cM_box 75 = .ok (.iconst 5, 1) := by decide +kernel
theorem dM_box_76 : decode cM_box 76 = .ok (.if_icmp .ne 7, 3) := by decide +kernel
theorem dM_box_79 : decode cM_box 79 = .ok (.iconst 1, 1) := by decide +kernel
theorem dM_box_80 : decode cM_box 80 = .ok (.goto 4, 3) := by decide +kernel
theorem dM_box_83 : decode cM_box 83 = .ok (.iconst 0, 1) := by decide +kernel
theorem dM_box_84 : decode cM_box 84 = .ok (.invokevirtual 96, 3) := by decide +kernel
theorem dM_box_87 : decode cM_box 87 = .ok (.ifCond .eq 5, 3) := by decide +kernel
theorem dM_box_90 : decode cM_box 90 = .ok (.iconst 0, 1) := by decide +kernel
theorem dM_box_91 : decode cM_box 91 = .ok (.ireturn, 1) := by decide +kernel
theorem dM_box_92 : decode cM_box 92 = .ok (.aload_n 0, 1) := by decide +kernel
theorem dM_box_93 : decode cM_box 93 = .ok (.getfield 32, 3) := by decide +kernel
theorem dM_box_96 : decode cM_box 96 = .ok (.aload_n 0, 1) := by decide +kernel
theorem dM_box_97 : decode cM_box 97 = .ok (.getfield 100, 3) := by decide +kernel
theorem dM_box_100 : decode cM_box 100 = .ok (.iload_n 1, 1) := by decide +kernel
theorem dM_box_101 : decode cM_box 101 = .ok (.iastore, 1) := by decide +kernel
theorem dM_box_102 : decode cM_box 102 = .ok (.aload_n 0, 1) := by decide +kernel
theorem dM_box_103 : decode cM_box 103 = .ok (.getfield 36, 3) := by decide +kernel
theorem dM_box_106 : decode cM_box 106 = .ok (.aload_n 0, 1) := by decide +kernel
theorem dM_box_107 : decode cM_box 107 = .ok (.getfield 100, 3) := by decide +kernel
theorem dM_box_110 : decode cM_box 110 = .ok (.iload_n 2, 1) := by decide +kernel
theorem dM_box_111 : decode cM_box 111 = .ok (.iastore, 1) := by decide +kernel
theorem dM_box_112 : decode cM_box 112 = .ok (.aload_n 0, 1) := by decide +kernel
theorem dM_box_113 : decode cM_box 113 = .ok (.getfield 39, 3) := by decide +kernel
theorem dM_box_116 : decode cM_box 116 = .ok (.aload_n 0, 1) := by decide +kernel
theorem dM_box_117 : decode cM_box 117 = .ok (.getfield 100, 3) := by decide +kernel
theorem dM_box_120 : decode cM_box 120 = .ok (.iload_n 3, 1) := by decide +kernel
theorem dM_box_121 : decode cM_box 121 = .ok (.iastore, 1) := by decide +kernel
theorem dM_box_122 : decode cM_box 122 = .ok (.aload_n 0, 1) := by decide +kernel
theorem dM_box_123 : decode cM_box 123 = .ok (.getfield 42, 3) := by decide +kernel
theorem dM_box_126 : decode cM_box 126 = .ok (.aload_n 0, 1) := by decide +kernel
theorem dM_box_127 : decode cM_box 127 = .ok (.getfield 100, 3) := by decide +kernel
theorem dM_box_130 : decode cM_box 130 = .ok (.iload 4, 2) := by decide +kernel
theorem dM_box_132 : decode cM_box 132 = .ok (.iastore, 1) := by decide +kernel
theorem dM_box_133 : decode cM_box 133 = .ok (.aload_n 0, 1) := by decide +kernel
theorem dM_box_134 : decode cM_box 134 = .ok (.getfield 45, 3) := by decide +kernel
theorem dM_box_137 : decode cM_box 137 = .ok (.aload_n 0, 1) := by decide +kernel
theorem dM_box_138 : decode cM_box 138 = .ok (.getfield 100, 3) := by decide +kernel
theorem dM_box_141 : decode cM_box 141 = .ok (.iconst 0, 1) := by decide +kernel
theorem dM_box_142 : decode cM_box 142 = .ok (.bastore, 1) := by decide +kernel
theorem dM_box_143 : decode cM_box 143 = .ok (.aload_n 0, 1) := by decide +kernel
theorem dM_box_144 : decode cM_box 144 = .ok (.dup, 1) := by decide +kernel
theorem dM_box_145 : decode cM_box 145 = .ok (.getfield 100, 3) := by decide +kernel
theorem dM_box_148 : decode cM_box 148 = .ok (.iconst 1, 1) := by decide +kernel
theorem dM_box_149 : decode cM_box 149 = .ok (.iadd, 1) := by decide +kernel
theorem dM_box_150 : decode cM_box 150 = .ok (.putfield 100, 3) := by decide +kernel
theorem dM_box_153 : decode cM_box 153 = .ok (.aload_n 0, 1) := by decide +kernel
theorem dM_box_154 : decode cM_box 154 = .ok (.invokevirtual 103, 3) := by decide +kernel
theorem dM_box_157 : decode cM_box 157 = .ok (.aload_n 0, 1) := by decide +kernel
theorem dM_box_158 : decode cM_box 158 = .ok (.getfield 100, 3) := by decide +kernel
theorem dM_box_161 : decode cM_box 161 = .ok (.iconst 1, 1) := by decide +kernel
theorem dM_box_162 : decode cM_box 162 = .ok (.isub, 1) := by decide +kernel
theorem dM_box_163 : decode cM_box 163 = .ok (.ireturn, 1) := by decide +kernel
theorem dM_roll_0 : decode cM_roll 0 = .ok (.iload_n 1, 1) := by decide +kernel
theorem dM_roll_1 : decode cM_roll 1 = .ok (.iconst 0, 1) := by decide +kernel
theorem dM_roll_2 : decode cM_roll 2 = .ok (.aload_n 0, 1) := by decide +kernel
theorem dM_roll_3 : decode cM_roll 3 = .ok (.getfield 100, 3) := by decide +kernel
theorem dM_roll_6 : decode cM_roll 6 = .ok (.iconst 1, 1) := by decide +kernel
theorem dM_roll_7 : decode cM_roll 7 = .ok (.isub, 1) := by decide +kernel
theorem dM_roll_8 : decode cM_roll 8 = .ok (.invokestatic 92, 3) := by decide +kernel
theorem dM_roll_11 : decode cM_roll 11 = .ok (.istore_n 2, 1) := by decide +kernel
theorem dM_roll_12 : decode cM_roll 12 = .ok (.aload_n 0, 1) := by decide +kernel
theorem dM_roll_13 : decode cM_roll 13 = .ok (.iload_n 2, 1) := by decide +kernel
theorem dM_roll_14 : decode cM_roll 14 = .ok (.ifCond .eq 20, 3) := by decide +kernel
theorem dM_roll_17 : decode cM_roll 17 = .ok (.aload_n 0, 1) := by decide +kernel
theorem dM_roll_18 : decode cM_roll 18 = .ok (.getfield 45, 3) := by decide +kernel
theorem dM_roll_21 : decode cM_roll 21 = .ok (.iload_n 2, 1) := by decide +kernel
theorem dM_roll_22 : decode cM_roll 22 = .ok (.ifCond .eq 7, 3) := by decide +kernel
theorem dM_roll_25 : decode cM_roll 25 = .ok (.iload_n 1, 1) := by decide +kernel
theorem dM_roll_26 : decode cM_roll 26 = .ok (.goto 4, 3) := by decide +kernel
theorem dM_roll_29 : decode cM_roll 29 = .ok (.iconst 0, 1) := by decide +kernel
theorem dM_roll_30 : decode cM_roll 30 = .ok (.baload, 1) := by decide +kernel
theorem dM_roll_31 : decode cM_roll 31 = .ok (.ifCond .eq 7, 3) := by decide +kernel
theorem dM_roll_34 : decode cM_roll 34 = .ok (.iconst 1, 1) := by decide +kernel
theorem dM_roll_35 : decode cM_roll 35 = .ok (.goto 4, 3) := by decide +kernel
theorem dM_roll_38 : decode cM_roll 38 = .ok (.iconst 0, 1) := by decide +kernel
theorem dM_roll_39 : decode cM_roll 39 = .ok (.iconst 0, 1) := by decide +kernel
theorem dM_roll_40 : decode cM_roll 40 = .ok (.invokevirtual 96, 3) := by decide +kernel
theorem dM_roll_43 : decode cM_roll 43 = .ok (.ifCond .eq 4, 3) := by decide +kernel
theorem dM_roll_46 : decode cM_roll 46 = .ok (.return_, 1) := by decide +kernel
theorem dM_roll_47 : decode cM_roll 47 = .ok (.aload_n 0, 1) := by decide +kernel
theorem dM_roll_48 : decode cM_roll 48 = .ok (.getfield 45, 3) := by decide +kernel
theorem dM_roll_51 : decode cM_roll 51 = .ok (.iload_n 1, 1) := by decide +kernel
theorem dM_roll_52 : decode cM_roll 52 = .ok (.iconst 1, 1) := by decide +kernel
theorem dM_roll_53 : decode cM_roll 53 = .ok (.bastore, 1) := by decide +kernel
theorem dM_roll_54 : decode cM_roll 54 = .ok (.aload_n 0, 1) := by decide +kernel
theorem dM_roll_55 : decode cM_roll 55 = .ok (.invokevirtual 103, 3) := by decide +kernel
theorem dM_roll_58 : decode cM_roll 58 = .ok (.return_, 1) := by decide +kernel
theorem dM_plan_0 : decode cM_plan 0 = .ok (.aload_n 0, 1) := by decide +kernel
theorem dM_plan_1 : decode cM_plan 1 = .ok (.iconst 0, 1) := by decide +kernel
theorem dM_plan_2 : decode cM_plan 2 = .ok (.putfield 82, 3) := by decide +kernel
theorem dM_plan_5 : decode cM_plan 5 = .ok (.aload_n 0, 1) := by decide +kernel
theorem dM_plan_6 : decode cM_plan 6 = .ok (.invokevirtual 103, 3) := by decide +kernel
theorem dM_plan_9 : decode cM_plan 9 = .ok (.iconst 0, 1) := by decide +kernel
theorem dM_plan_10 : decode cM_plan 10 = .ok (.istore_n 1, 1) := by decide +kernel
theorem dM_plan_11 : decode cM_plan 11 = .ok (.iload_n 1, 1) := by decide +kernel
theorem dM_plan_12 : decode cM_plan 12 = .ok (.aload_n 0, 1) := by decide +kernel
theorem dM_plan_13 : decode cM_plan 13 = .ok (.getfield 16, 3) := by decide +kernel
theorem dM_plan_16 : decode cM_plan 16 = .ok (.iconst 1, 1) := by decide +kernel
theorem dM_plan_17 : decode cM_plan 17 = .ok (.isub, 1) := by decide +kernel
theorem dM_plan_18 : decode cM_plan 18 = .ok (.if_icmp .ge 14, 3) := by decide +kernel
theorem dM_plan_21 : decode cM_plan 21 = .ok (.aload_n 0, 1) := by decide +kernel
theorem dM_plan_22 : decode cM_plan 22 = .ok (.iload_n 1, 1) := by decide +kernel
theorem dM_plan_23 : decode cM_plan 23 = .ok (.invokevirtual 165, 3) := by decide +kernel
theorem dM_plan_26 : decode cM_plan 26 = .ok (.iinc 1 1, 3) := by decide +kernel
theorem dM_plan_29 : decode cM_plan 29 = .ok (.goto (-18), 3) := by decide +kernel
theorem dM_plan_32 : decode cM_plan 32 = .ok (.aload_n 0, 1) := by decide +kernel
theorem dM_plan_33 : decode cM_plan 33 = .ok (.getfield 16, 3) := by decide +kernel
theorem dM_plan_36 : decode cM_plan 36 = .ok (.iconst 2, 1) := by decide +kernel
theorem dM_plan_37 : decode cM_plan 37 = .ok (.isub, 1) := by decide +kernel
theorem dM_plan_38 : decode cM_plan 38 = .ok (.istore_n 1, 1) := by decide +kernel
theorem dM_plan_39 : decode cM_plan 39 = .ok (.iload_n 1, 1) := by decide +kernel
theorem dM_plan_40 : decode cM_plan 40 = .ok (.ifCond .lt 14, 3) := by decide +kernel
theorem dM_plan_43 : decode cM_plan 43 = .ok (.aload_n 0, 1) := by decide +kernel
theorem dM_plan_44 : decode cM_plan 44 = .ok (.iload_n 1, 1) := by decide +kernel
theorem dM_plan_45 : decode cM_plan 45 = .ok (.invokevirtual 169, 3) := by decide +kernel
theorem dM_plan_48 : decode cM_plan 48 = .ok (.iinc 1 (-1), 3) := by decide +kernel
theorem dM_plan_51 : decode cM_plan 51 = .ok (.goto (-12), 3) := by decide +kernel
theorem dM_plan_54 : decode cM_plan 54 = .ok (.iconst (-1), 1) := by decide +kernel
theorem dM_plan_55 : decode cM_plan 55 = .ok (.istore_n 1, 1) := by decide +kernel
theorem dM_plan_56 : decode cM_plan 56 = .ok (.iconst 0, 1) := by decide +kernel
theorem dM_plan_57 : decode cM_plan 57 = .ok (.istore_n 2, 1) := by decide +kernel
theorem dM_plan_58 : decode cM_plan 58 = .ok (.iload_n 2, 1) := by decide +kernel
theorem dM_plan_59 : decode cM_plan 59 = .ok (.aload_n 0, 1) := by decide +kernel
theorem dM_plan_60 : decode cM_plan 60 = .ok (.getfield 54, 3) := by decide +kernel
theorem dM_plan_63 : decode cM_plan 63 = .ok (.iconst 0, 1) := by decide +kernel
theorem dM_plan_64 : decode cM_plan 64 = .ok (.iaload, 1) := by decide +kernel
theorem dM_plan_65 : decode cM_plan 65 = .ok (.if_icmp .ge 43, 3) := by decide +kernel
theorem dM_plan_68 : decode cM_plan 68 = .ok (.aload_n 0, 1) := by decide +kernel
theorem dM_plan_69 : decode cM_plan 69 = .ok (.getfield 51, 3) := by decide +kernel
theorem dM_plan_72 : decode cM_plan 72 = .ok (.iload_n 2, 1) := by decide +kernel
theorem dM_plan_73 : decode cM_plan 73 = .ok (.iaload, 1) := by decide +kernel
theorem dM_plan_74 : decode cM_plan 74 = .ok (.ifCond .lt 26, 3) := by decide +kernel
theorem dM_plan_77 : decode cM_plan 77 = .ok (.iload_n 1, 1) := by decide +kernel
theorem dM_plan_78 : decode cM_plan 78 = .ok (.ifCond .lt 13, 3) := by decide +kernel
theorem dM_plan_81 : decode cM_plan 81 = .ok (.aload_n 0, 1) := by decide +kernel
theorem dM_plan_82 : decode cM_plan 82 = .ok (.getfield 51, 3) := by decide +kernel
theorem dM_plan_85 : decode cM_plan 85 = .ok (.iload_n 2, 1) := by decide +kernel
theorem dM_plan_86 : decode cM_plan 86 = .ok (.iaload, 1) := by decide +kernel
theorem dM_plan_87 : decode cM_plan 87 = .ok (.iload_n 1, 1) := by decide +kernel
theorem dM_plan_88 : decode cM_plan 88 = .ok (.if_icmp .ge 12, 3) := by decide +kernel
theorem dM_plan_91 : decode cM_plan 91 = .ok (.aload_n 0, 1) := by decide +kernel
theorem dM_plan_92 : decode cM_plan 92 = .ok (.getfield 51, 3) := by decide +kernel
theorem dM_plan_95 : decode cM_plan 95 = .ok (.iload_n 2, 1) := by decide +kernel
theorem dM_plan_96 : decode cM_plan 96 = .ok (.iaload, 1) := by decide +kernel
theorem dM_plan_97 : decode cM_plan 97 = .ok (.goto 4, 3) := by decide +kernel
theorem dM_plan_100 : decode cM_plan 100 = .ok (.iload_n 1, 1) := by decide +kernel
theorem dM_plan_101 : decode cM_plan 101 = .ok (.istore_n 1, 1) := by decide +kernel
theorem dM_plan_102 : decode cM_plan 102 = .ok (.iinc 2 1, 3) := by decide +kernel
theorem dM_plan_105 : decode cM_plan 105 = .ok (.goto (-47), 3) := by decide +kernel
theorem dM_plan_108 : decode cM_plan 108 = .ok (.iload_n 1, 1) := by decide +kernel
theorem dM_plan_109 : decode cM_plan 109 = .ok (.ifCond .ge 5, 3) := by decide +kernel
theorem dM_plan_112 : decode cM_plan 112 = .ok (.iconst (-1), 1) := by decide +kernel
theorem dM_plan_113 : decode cM_plan 113 = .ok (.ireturn, 1) := by decide +kernel
theorem dM_plan_114 : decode cM_plan 114 = .ok (.aload_n 0, 1) := by decide +kernel
theorem dM_plan_115 : decode cM_plan 115 = .ok (.iconst 1, 1) := by decide +kernel
theorem dM_plan_116 : decode cM_plan 116 = .ok (.putfield 85, 3) := by decide +kernel
theorem dM_plan_119 : decode cM_plan 119 = .ok (.iconst 0, 1) := by decide +kernel
theorem dM_plan_120 : decode cM_plan 120 = .ok (.istore_n 2, 1) := by decide +kernel
theorem dM_plan_121 : decode cM_plan 121 = .ok (.iload_n 1, 1) := by decide +kernel
theorem dM_plan_122 : decode cM_plan 122 = .ok (.istore_n 3, 1) := by decide +kernel
theorem dM_plan_123 : decode cM_plan 123 = .ok (.iconst 0, 1) := by decide +kernel
theorem dM_plan_124 : decode cM_plan 124 = .ok (.istore 4, 2) := by decide +kernel
theorem dM_plan_126 : decode cM_plan 126 = .ok (.iload 4, 2) := by decide +kernel
theorem dM_plan_128 : decode cM_plan 128 = .ok (.aload_n 0, 1) := by decide +kernel
theorem dM_plan_129 : decode cM_plan 129 = .ok (.getfield 16, 3) := by decide +kernel
theorem dM_plan_132 : decode cM_plan 132 = .ok (.iconst 1, 1) := by decide +kernel
theorem dM_plan_133 : decode cM_plan 133 = .ok (.isub, 1) := by decide +kernel
theorem dM_plan_134 : decode cM_plan 134 = .ok (.if_icmp .ge 49, 3) := by decide +kernel
theorem dM_plan_137 : decode cM_plan 137 = .ok (.aload_n 0, 1) := by decide +kernel
theorem dM_plan_138 : decode cM_plan 138 = .ok (.iload 4, 2) := by decide +kernel
theorem dM_plan_140 : decode cM_plan 140 = .ok (.iload_n 2, 1) := by decide +kernel
theorem dM_plan_141 : decode cM_plan 141 = .ok (.iload_n 3, 1) := by decide +kernel
theorem dM_plan_142 : decode cM_plan 142 = .ok (.invokevirtual 172, 3) := by decide +kernel
theorem dM_plan_145 : decode cM_plan 145 = .ok (.istore 5, 2) := by decide +kernel
theorem dM_plan_147 : decode cM_plan 147 = .ok (.aload_n 0, 1) := by decide +kernel
theorem dM_plan_148 : decode cM_plan 148 = .ok (.iload_n 2, 1) := by decide +kernel
theorem dM_plan_149 : decode cM_plan 149 = .ok (.aload_n 0, 1) := by decide +kernel
theorem dM_plan_150 : decode cM_plan 150 = .ok (.getfield 48, 3) := by decide +kernel
theorem dM_plan_153 : decode cM_plan 153 = .ok (.iload 5, 2) := by decide +kernel
theorem dM_plan_155 : decode cM_plan 155 = .ok (.iaload, 1) := by decide +kernel
theorem dM_plan_156 : decode cM_plan 156 = .ok (.iload 4, 2) := by decide +kernel
theorem dM_plan_158 : decode cM_plan 158 = .ok (.invokevirtual 175, 3) := by decide +kernel
theorem dM_plan_161 : decode cM_plan 161 = .ok (.aload_n 0, 1) := by decide +kernel
theorem dM_plan_162 : decode cM_plan 162 = .ok (.getfield 48, 3) := by decide +kernel
theorem dM_plan_165 : decode cM_plan 165 = .ok (.iload 5, 2) := by decide +kernel
theorem dM_plan_167 : decode cM_plan 167 = .ok (.iaload, 1) := by decide +kernel
theorem dM_plan_168 : decode cM_plan 168 = .ok (.istore_n 2, 1) := by decide +kernel
theorem dM_plan_169 : decode cM_plan 169 = .ok (.aload_n 0, 1) := by decide +kernel
theorem dM_plan_170 : decode cM_plan 170 = .ok (.getfield 51, 3) := by decide +kernel
theorem dM_plan_173 : decode cM_plan 173 = .ok (.iload 5, 2) := by decide +kernel
theorem dM_plan_175 : decode cM_plan 175 = .ok (.iaload, 1) := by decide +kernel
theorem dM_plan_176 : decode cM_plan 176 = .ok (.istore_n 3, 1) := by decide +kernel
theorem dM_plan_177 : decode cM_plan 177 = .ok (.iinc 4 1, 3) := by decide +kernel
theorem dM_plan_180 : decode cM_plan 180 = .ok (.goto (-54), 3) := by decide +kernel
theorem dM_plan_183 : decode cM_plan 183 = .ok (.aload_n 0, 1) := by decide +kernel
theorem dM_plan_184 : decode cM_plan 184 = .ok (.iload_n 2, 1) := by decide +kernel
theorem dM_plan_185 : decode cM_plan 185 = .ok (.iconst 0, 1) := by decide +kernel
theorem dM_plan_186 : decode cM_plan 186 = .ok (.aload_n 0, 1) := by decide +kernel
theorem dM_plan_187 : decode cM_plan 187 = .ok (.getfield 16, 3) := by decide +kernel
theorem dM_plan_190 : decode cM_plan 190 = .ok (.iconst 1, 1) := by decide +kernel
theorem dM_plan_191 : decode cM_plan 191 = .ok (.isub, 1) := by decide +kernel
theorem dM_plan_192 : decode cM_plan 192 = .ok (.invokevirtual 175, 3) := by decide +kernel
theorem dM_plan_195 : decode cM_plan 195 = .ok (.iload_n 1, 1) := by decide +kernel
theorem dM_plan_196 : decode cM_plan 196 = .ok (.ireturn, 1) := by decide +kernel
theorem dM_listAll_0 : decode cM_listAll 0 = .ok (.aload_n 0, 1) := by decide +kernel
theorem dM_listAll_1 : decode cM_listAll 1 = .ok (.getfield 54, 3) := by decide +kernel
theorem dM_listAll_4 : decode cM_listAll 4 = .ok (.iload_n 1, 1) := by decide +kernel
theorem dM_listAll_5 : decode cM_listAll 5 = .ok (.iconst 0, 1) := by decide +kernel
theorem dM_listAll_6 : decode cM_listAll 6 = .ok (.iastore, 1) := by decide +kernel
theorem dM_listAll_7 : decode cM_listAll 7 = .ok (.iconst 0, 1) := by decide +kernel
theorem dM_listAll_8 : decode cM_listAll 8 = .ok (.istore_n 2, 1) := by decide +kernel
theorem dM_listAll_9 : decode cM_listAll 9 = .ok (.aload_n 0, 1) := by decide +kernel
theorem dM_listAll_10 : decode cM_listAll 10 = .ok (.getfield 57, 3) := by decide +kernel
theorem dM_listAll_13 : decode cM_listAll 13 = .ok (.iconst 0, 1) := by decide +kernel
theorem dM_listAll_14 : decode cM_listAll 14 = .ok (.bipush (-2), 2) := by decide +kernel
theorem dM_listAll_16 : decode cM_listAll 16 = .ok (.iastore, 1) := by decide +kernel
theorem dM_listAll_17 : decode cM_listAll 17 = .ok (.iload_n 2, 1) := by decide +kernel
theorem dM_listAll_18 : decode cM_listAll 18 = .ok (.ifCond .lt 144, 3) := by decide +kernel
theorem dM_listAll_21 : decode cM_listAll 21 = .ok (.aload_n 0, 1) := by decide +kernel
theorem dM_listAll_22 : decode cM_listAll 22 = .ok (.getfield 57, 3) := by decide +kernel
theorem dM_listAll_25 : decode cM_listAll 25 = .ok (.iload_n 2, 1) := by decide +kernel
theorem dM_listAll_26 : decode cM_listAll 26 = .ok (.dup2, 1) := by decide +kernel
theorem dM_listAll_27 : decode cM_listAll 27 = .ok (.iaload, 1) := by decide +kernel
theorem dM_listAll_28 : decode cM_listAll 28 = .ok (.iconst 1, 1) := by decide +kernel
theorem dM_listAll_29 : decode cM_listAll 29 = .ok (.iadd, 1) := by decide +kernel
theorem dM_listAll_30 : decode cM_listAll 30 = .ok (.iastore, 1) := by decide +kernel
theorem dM_listAll_31 : decode cM_listAll 31 = .ok (.aload_n 0, 1) := by decide +kernel
theorem dM_listAll_32 : decode cM_listAll 32 = .ok (.getfield 57, 3) := by decide +kernel
theorem dM_listAll_35 : decode cM_listAll 35 = .ok (.iload_n 2, 1) := by decide +kernel
theorem dM_listAll_36 : decode cM_listAll 36 = .ok (.iaload, 1) := by decide +kernel
theorem dM_listAll_37 : decode cM_listAll 37 = .ok (.iconst 5, 1) := by decide +kernel
theorem dM_listAll_38 : decode cM_listAll 38 = .ok (.if_icmp .ge 31, 3) := by decide +kernel
theorem dM_listAll_41 : decode cM_listAll 41 = .ok (.aload_n 0, 1) := by decide +kernel
theorem dM_listAll_42 : decode cM_listAll 42 = .ok (.iload_n 2, 1) := by decide +kernel
theorem dM_listAll_43 : decode cM_listAll 43 = .ok (.aload_n 0, 1) := by decide +kernel
theorem dM_listAll_44 : decode cM_listAll 44 = .ok (.getfield 57, 3) := by decide +kernel
theorem dM_listAll_47 : decode cM_listAll 47 = .ok (.iload_n 2, 1) := by decide +kernel
theorem dM_listAll_48 : decode cM_listAll 48 = .ok (.iaload, 1) := by decide +kernel
theorem dM_listAll_49 : decode cM_listAll 49 = .ok (.iload_n 1, 1) := by decide +kernel
theorem dM_listAll_50 : decode cM_listAll 50 = .ok (.invokevirtual 132, 3) := by decide +kernel
theorem dM_listAll_53 : decode cM_listAll 53 = .ok (.ifCond .ne 16, 3) := by decide +kernel
theorem dM_listAll_56 : decode cM_listAll 56 = .ok (.aload_n 0, 1) := by decide +kernel
theorem dM_listAll_57 : decode cM_listAll 57 = .ok (.getfield 57, 3) := by decide +kernel
theorem dM_listAll_60 : decode cM_listAll 60 = .ok (.iload_n 2, 1) := by decide +kernel
theorem dM_listAll_61 : decode cM_listAll 61 = .ok (.dup2, 1) := by decide +kernel
theorem dM_listAll_62 : decode cM_listAll 62 = .ok (.iaload, 1) := by decide +kernel
theorem dM_listAll_63 : decode cM_listAll 63 = .ok (.iconst 1, 1) := by decide +kernel
theorem dM_listAll_64 : decode cM_listAll 64 = .ok (.iadd, 1) := by decide +kernel
theorem dM_listAll_65 : decode cM_listAll 65 = .ok (.iastore, 1) := by decide +kernel
theorem dM_listAll_66 : decode cM_listAll 66 = .ok (.goto (-35), 3) := by decide +kernel
theorem dM_listAll_69 : decode cM_listAll 69 = .ok (.aload_n 0, 1) := by decide +kernel
theorem dM_listAll_70 : decode cM_listAll 70 = .ok (.getfield 57, 3) := by decide +kernel
theorem dM_listAll_73 : decode cM_listAll 73 = .ok (.iload_n 2, 1) := by decide +kernel
theorem dM_listAll_74 : decode cM_listAll 74 = .ok (.iaload, 1) := by decide +kernel
theorem dM_listAll_75 : decode cM_listAll 75 = .ok (.iconst 5, 1) := by decide +kernel
theorem dM_listAll_76 : decode cM_listAll 76 = .ok (.if_icmp .ne 9, 3) := by decide +kernel
theorem dM_listAll_79 : decode cM_listAll 79 = .ok (.iinc 2 (-1), 3) := by decide +kernel
theorem dM_listAll_82 : decode cM_listAll 82 = .ok (.goto (-65), 3) := by decide +kernel
theorem dM_listAll_85 : decode cM_listAll 85 = .ok (.iload_n 2, 1) := by decide +kernel
theorem dM_listAll_86 : decode cM_listAll 86 = .ok (.bipush 8, 2) := by decide +kernel
theorem dM_listAll_88 : decode cM_listAll 88 = .ok (.if_icmp .ge 17, 3) := by decide +kernel
theorem dM_listAll_91 : decode cM_listAll 91 = .ok (.iinc 2 1, 3) := by decide +kernel
theorem dM_listAll_94 : decode cM_listAll 94 = .ok (.aload_n 0, 1) := by decide +kernel
theorem dM_listAll_95 : decode cM_listAll 95 = .ok (.getfield 57, 3) := by decide +kernel
theorem dM_listAll_98 : decode cM_listAll 98 = .ok (.iload_n 2, 1) := by decide +kernel
theorem dM_listAll_99 : decode cM_listAll 99 = .ok (.bipush (-2), 2) := by decide +kernel
theorem dM_listAll_101 : decode cM_listAll 101 = .ok (.iastore, 1) := by decide +kernel
theorem dM_listAll_102 : decode cM_listAll 102 = .ok (.goto (-85), 3) := by decide +kernel
theorem dM_listAll_105 : decode cM_listAll 105 = .ok (.aload_n 0, 1) := by decide +kernel
theorem dM_listAll_106 : decode cM_listAll 106 = .ok (.aload_n 0, 1) := by decide +kernel
theorem dM_listAll_107 : decode cM_listAll 107 = .ok (.getfield 57, 3) := by decide +kernel
theorem dM_listAll_110 : decode cM_listAll 110 = .ok (.iload_n 1, 1) := by decide +kernel
theorem dM_listAll_111 : decode cM_listAll 111 = .ok (.invokevirtual 135, 3) := by decide +kernel
theorem dM_listAll_114 : decode cM_listAll 114 = .ok (.ifCond .eq (-97), 3) := by decide +kernel
theorem dM_listAll_117 : decode cM_listAll 117 = .ok (.aload_n 0, 1) := by decide +kernel
theorem dM_listAll_118 : decode cM_listAll 118 = .ok (.aload_n 0, 1) := by decide +kernel
theorem dM_listAll_119 : decode cM_listAll 119 = .ok (.getfield 57, 3) := by decide +kernel
theorem dM_listAll_122 : decode cM_listAll 122 = .ok (.invokevirtual 139, 3) := by decide +kernel
theorem dM_listAll_125 : decode cM_listAll 125 = .ok (.ifCond .eq (-108), 3) := by decide +kernel
theorem dM_listAll_128 : decode cM_listAll 128 = .ok (.aload_n 0, 1) := by decide +kernel
theorem dM_listAll_129 : decode cM_listAll 129 = .ok (.getfield 48, 3) := by decide +kernel
theorem dM_listAll_132 : decode cM_listAll 132 = .ok (.sipush 2600, 3) := by decide +kernel
theorem dM_listAll_135 : decode cM_listAll 135 = .ok (.iload_n 1, 1) := by decide +kernel
theorem dM_listAll_136 : decode cM_listAll 136 = .ok (.imul, 1) := by decide +kernel
theorem dM_listAll_137 : decode cM_listAll 137 = .ok (.aload_n 0, 1) := by decide +kernel
theorem dM_listAll_138 : decode cM_listAll 138 = .ok (.getfield 54, 3) := by decide +kernel
theorem dM_listAll_141 : decode cM_listAll 141 = .ok (.iload_n 1, 1) := by decide +kernel
theorem dM_listAll_142 : decode cM_listAll 142 = .ok (.iaload, 1) := by decide +kernel
theorem dM_listAll_143 : decode cM_listAll 143 = .ok (.iadd, 1) := by decide +kernel
theorem dM_listAll_144 : decode cM_listAll 144 = .ok (.aload_n 0, 1) := by decide +kernel
theorem dM_listAll_145 : decode cM_listAll 145 = .ok (.invokevirtual 143, 3) := by decide +kernel
theorem dM_listAll_148 : decode cM_listAll 148 = .ok (.iastore, 1) := by decide +kernel
theorem dM_listAll_149 : decode cM_listAll 149 = .ok (.aload_n 0, 1) := by decide +kernel
theorem dM_listAll_150 : decode cM_listAll 150 = .ok (.getfield 54, 3) := by decide +kernel
theorem dM_listAll_153 : decode cM_listAll 153 = .ok (.iload_n 1, 1) := by decide +kernel
theorem dM_listAll_154 : decode cM_listAll 154 = .ok (.dup2, 1) := by decide +kernel
theorem dM_listAll_155 : decode cM_listAll 155 = .ok (.iaload, 1) := by decide +kernel
theorem dM_listAll_156 : decode cM_listAll 156 = .ok (.iconst 1, 1) := by decide +kernel
theorem dM_listAll_157 : decode cM_listAll 157 = .ok (.iadd, 1) := by decide +kernel
theorem dM_listAll_158 : decode cM_listAll 158 = .ok (.iastore, 1) := by decide +kernel
theorem dM_listAll_159 : decode cM_listAll 159 = .ok (.goto (-142), 3) := by decide +kernel
theorem dM_listAll_162 : decode cM_listAll 162 = .ok (.return_, 1) := by decide +kernel
theorem dM_may_0 : decode cM_may 0 = .ok (.iload_n 2, 1) := by decide +kernel
theorem dM_may_1 : decode cM_may 1 = .ok (.ifCond .ge 5, 3) := by decide +kernel
theorem dM_may_4 : decode cM_may 4 = .ok (.iconst 1, 1) := by decide +kernel
theorem dM_may_5 : decode cM_may 5 = .ok (.ireturn, 1) := by decide +kernel
theorem dM_may_6 : decode cM_may 6 = .ok (.iload_n 1, 1) := by decide +kernel
theorem dM_may_7 : decode cM_may 7 = .ok (.iconst 3, 1) := by decide +kernel
theorem dM_may_8 : decode cM_may 8 = .ok (.idiv, 1) := by decide +kernel
theorem dM_may_9 : decode cM_may 9 = .ok (.aload_n 0, 1) := by decide +kernel
theorem dM_may_10 : decode cM_may 10 = .ok (.getfield 7, 3) := by decide +kernel
theorem dM_may_13 : decode cM_may 13 = .ok (.if_icmp .ge 17, 3) := by decide +kernel
theorem dM_may_16 : decode cM_may 16 = .ok (.iload_n 1, 1) := by decide +kernel
theorem dM_may_17 : decode cM_may 17 = .ok (.iconst 3, 1) := by decide +kernel
theorem dM_may_18 : decode cM_may 18 = .ok (.irem, 1) := by decide +kernel
theorem dM_may_19 : decode cM_may 19 = .ok (.aload_n 0, 1) := by decide +kernel
theorem dM_may_20 : decode cM_may 20 = .ok (.getfield 13, 3) := by decide +kernel
theorem dM_may_23 : decode cM_may 23 = .ok (.if_icmp .ge 7, 3) := by decide +kernel
theorem dM_may_26 : decode cM_may 26 = .ok (.iconst 1, 1) := by decide +kernel
theorem dM_may_27 : decode cM_may 27 = .ok (.goto 4, 3) := by decide +kernel
theorem dM_may_30 : decode cM_may 30 = .ok (.iconst 0, 1) := by decide +kernel
theorem dM_may_31 : decode cM_may 31 = .ok (.istore 4, 2) := by decide +kernel
theorem dM_may_33 : decode cM_may 33 = .ok (.iload_n 1, 1) := by decide +kernel
theorem dM_may_34 : decode cM_may 34 = .ok (.iconst 3, 1) := by decide +kernel
theorem dM_may_35 : decode cM_may 35 = .ok (.irem, 1) := by decide +kernel
theorem dM_may_36 : decode cM_may 36 = .ok (.ifCond .eq 14, 3) := by decide +kernel
theorem dM_may_39 : decode cM_may 39 = .ok (.aload_n 0, 1) := by decide +kernel
theorem dM_may_40 : decode cM_may 40 = .ok (.getfield 57, 3) := by decide +kernel
theorem dM_may_43 : decode cM_may 43 = .ok (.iload_n 1, 1) := by decide +kernel
theorem dM_may_44 : decode cM_may 44 = .ok (.iconst 1, 1) := by decide +kernel
theorem dM_may_45 : decode cM_may 45 = .ok (.isub, 1) := by decide +kernel
theorem dM_may_46 : decode cM_may 46 = .ok (.iaload, 1) := by decide +kernel
theorem dM_may_47 : decode cM_may 47 = .ok (.ifCond .lt 7, 3) := by decide +kernel
theorem dM_may_50 : decode cM_may 50 = .ok (.iconst 1, 1) := by decide +kernel
theorem dM_may_51 : decode cM_may 51 = .ok (.goto 4, 3) := by decide +kernel
theorem dM_may_54 : decode cM_may 54 = .ok (.iconst 0, 1) := by decide +kernel
theorem dM_may_55 : decode cM_may 55 = .ok (.istore 5, 2) := by decide +kernel
theorem dM_may_57 : decode cM_may 57 = .ok (.iload 4, 2) := by decide +kernel
theorem dM_may_59 : decode cM_may 59 = .ok (.ifCond .eq 34, 3) := by decide +kernel
theorem dM_may_62 : decode cM_may 62 = .ok (.iload 5, 2) := by decide +kernel
theorem dM_may_64 : decode cM_may 64 = .ok (.ifCond .eq 29, 3) := by decide +kernel
theorem dM_may_67 : decode cM_may 67 = .ok (.aload_n 0, 1) := by decide +kernel
theorem dM_may_68 : decode cM_may 68 = .ok (.iload_n 2, 1) := by decide +kernel
theorem dM_may_69 : decode cM_may 69 = .ok (.iload_n 3, 1) := by decide +kernel
theorem dM_may_70 : decode cM_may 70 = .ok (.invokevirtual 125, 3) := by decide +kernel
theorem dM_may_73 : decode cM_may 73 = .ok (.ifCond .eq 20, 3) := by decide +kernel
theorem dM_may_76 : decode cM_may 76 = .ok (.aload_n 0, 1) := by decide +kernel
theorem dM_may_77 : decode cM_may 77 = .ok (.aload_n 0, 1) := by decide +kernel
theorem dM_may_78 : decode cM_may 78 = .ok (.getfield 57, 3) := by decide +kernel
theorem dM_may_81 : decode cM_may 81 = .ok (.iload_n 2, 1) := by decide +kernel
theorem dM_may_82 : decode cM_may 82 = .ok (.iload_n 1, 1) := by decide +kernel
theorem dM_may_83 : decode cM_may 83 = .ok (.invokevirtual 129, 3) := by decide +kernel
theorem dM_may_86 : decode cM_may 86 = .ok (.ifCond .ne 7, 3) := by decide +kernel
theorem dM_may_89 : decode cM_may 89 = .ok (.iconst 1, 1) := by decide +kernel
theorem dM_may_90 : decode cM_may 90 = .ok (.goto 4, 3) := by decide +kernel
theorem dM_may_93 : decode cM_may 93 = .ok (.iconst 0, 1) := by decide +kernel
theorem dM_may_94 : decode cM_may 94 = .ok (.ireturn, 1) := by decide +kernel
theorem dM_isAboard_0 : decode cM_isAboard 0 = .ok (.iload_n 1, 1) := by decide +kernel
theorem dM_isAboard_1 : decode cM_isAboard 1 = .ok (.aload_n 0, 1) := by decide +kernel
theorem dM_isAboard_2 : decode cM_isAboard 2 = .ok (.getfield 100, 3) := by decide +kernel
theorem dM_isAboard_5 : decode cM_isAboard 5 = .ok (.if_icmp .ge 36, 3) := by decide +kernel
theorem dM_isAboard_8 : decode cM_isAboard 8 = .ok (.aload_n 0, 1) := by decide +kernel
theorem dM_isAboard_9 : decode cM_isAboard 9 = .ok (.getfield 45, 3) := by decide +kernel
theorem dM_isAboard_12 : decode cM_isAboard 12 = .ok (.iload_n 1, 1) := by decide +kernel
theorem dM_isAboard_13 : decode cM_isAboard 13 = .ok (.baload, 1) := by decide +kernel
theorem dM_isAboard_14 : decode cM_isAboard 14 = .ok (.ifCond .ne 27, 3) := by decide +kernel
theorem dM_isAboard_17 : decode cM_isAboard 17 = .ok (.aload_n 0, 1) := by decide +kernel
theorem dM_isAboard_18 : decode cM_isAboard 18 = .ok (.getfield 32, 3) := by decide +kernel
theorem dM_isAboard_21 : decode cM_isAboard 21 = .ok (.iload_n 1, 1) := by decide +kernel
theorem dM_isAboard_22 : decode cM_isAboard 22 = .ok (.iaload, 1) := by decide +kernel
theorem dM_isAboard_23 : decode cM_isAboard 23 = .ok (.iload_n 2, 1) := by decide +kernel
theorem dM_isAboard_24 : decode cM_isAboard 24 = .ok (.if_icmp .gt 17, 3) := by decide +kernel
theorem dM_isAboard_27 : decode cM_isAboard 27 = .ok (.aload_n 0, 1) := by decide +kernel
theorem dM_isAboard_28 : decode cM_isAboard 28 = .ok (.getfield 36, 3) := by decide +kernel
theorem dM_isAboard_31 : decode cM_isAboard 31 = .ok (.iload_n 1, 1) := by decide +kernel
theorem dM_isAboard_32 : decode cM_isAboard 32 = .ok (.iaload, 1) := by decide +kernel
theorem dM_isAboard_33 : decode cM_isAboard 33 = .ok (.iload_n 2, 1) := by decide +kernel
theorem dM_isAboard_34 : decode cM_isAboard 34 = .ok (.if_icmp .le 7, 3) := by decide +kernel
theorem dM_isAboard_37 : decode cM_isAboard 37 = .ok (.iconst 1, 1) := by decide +kernel
theorem dM_isAboard_38 : decode cM_isAboard 38 = .ok (.goto 4, 3) := by decide +kernel
theorem dM_isAboard_41 : decode cM_isAboard 41 = .ok (.iconst 0, 1) := by decide +kernel
theorem dM_isAboard_42 : decode cM_isAboard 42 = .ok (.ireturn, 1) := by decide +kernel
theorem dM_isIn_0 : decode cM_isIn 0 = .ok (.iconst 0, 1) := by decide +kernel
theorem dM_isIn_1 : decode cM_isIn 1 = .ok (.istore 4, 2) := by decide +kernel
theorem dM_isIn_3 : decode cM_isIn 3 = .ok (.iconst 0, 1) := by decide +kernel
theorem dM_isIn_4 : decode cM_isIn 4 = .ok (.istore 5, 2) := by decide +kernel
theorem dM_isIn_6 : decode cM_isIn 6 = .ok (.iload 5, 2) := by decide +kernel
theorem dM_isIn_8 : decode cM_isIn 8 = .ok (.iload_n 3, 1) := by decide +kernel
theorem dM_isIn_9 : decode cM_isIn 9 = .ok (.if_icmp .ge 29, 3) := by decide +kernel
theorem dM_isIn_12 : decode cM_isIn 12 = .ok (.iload 4, 2) := by decide +kernel
theorem dM_isIn_14 : decode cM_isIn 14 = .ok (.ifCond .ne 11, 3) := by decide +kernel
theorem dM_isIn_17 : decode cM_isIn 17 = .ok (.aload_n 1, 1) := by decide +kernel
theorem dM_isIn_18 : decode cM_isIn 18 = .ok (.iload 5, 2) := by decide +kernel
theorem dM_isIn_20 : decode cM_isIn 20 = .ok (.iaload, 1) := by decide +kernel
theorem dM_isIn_21 : decode cM_isIn 21 = .ok (.iload_n 2, 1) := by decide +kernel
theorem dM_isIn_22 : decode cM_isIn 22 = .ok (.if_icmp .ne 7, 3) := by decide +kernel
theorem dM_isIn_25 : decode cM_isIn 25 = .ok (.iconst 1, 1) := by decide +kernel
theorem dM_isIn_26 : decode cM_isIn 26 = .ok (.goto 4, 3) := by decide +kernel
theorem dM_isIn_29 : decode cM_isIn 29 = .ok (.iconst 0, 1) := by decide +kernel
theorem dM_isIn_30 : decode cM_isIn 30 = .ok (.istore 4, 2) := by decide +kernel
theorem dM_isIn_32 : decode cM_isIn 32 = .ok (.iinc 5 1, 3) := by decide +kernel
theorem dM_isIn_35 : decode cM_isIn 35 = .ok (.goto (-29), 3) := by decide +kernel
theorem dM_isIn_38 : decode cM_isIn 38 = .ok (.iload 4, 2) := by decide +kernel
theorem dM_isIn_40 : decode cM_isIn 40 = .ok (.ireturn, 1) := by decide +kernel
theorem dM_hasAll_0 : decode cM_hasAll 0 = .ok (.iconst 1, 1) := by decide +kernel
theorem dM_hasAll_1 : decode cM_hasAll 1 = .ok (.istore_n 3, 1) := by decide +kernel
theorem dM_hasAll_2 : decode cM_hasAll 2 = .ok (.iconst 0, 1) := by decide +kernel
theorem dM_hasAll_3 : decode cM_hasAll 3 = .ok (.istore 4, 2) := by decide +kernel
theorem dM_hasAll_5 : decode cM_hasAll 5 = .ok (.iload 4, 2) := by decide +kernel
theorem dM_hasAll_7 : decode cM_hasAll 7 = .ok (.iconst 5, 1) := by decide +kernel
theorem dM_hasAll_8 : decode cM_hasAll 8 = .ok (.if_icmp .ge 38, 3) := by decide +kernel
theorem dM_hasAll_11 : decode cM_hasAll 11 = .ok (.iload_n 3, 1) := by decide +kernel
theorem dM_hasAll_12 : decode cM_hasAll 12 = .ok (.ifCond .eq 26, 3) := by decide +kernel
theorem dM_hasAll_15 : decode cM_hasAll 15 = .ok (.aload_n 0, 1) := by decide +kernel
theorem dM_hasAll_16 : decode cM_hasAll 16 = .ok (.iload 4, 2) := by decide +kernel
theorem dM_hasAll_18 : decode cM_hasAll 18 = .ok (.iload_n 2, 1) := by decide +kernel
theorem dM_hasAll_19 : decode cM_hasAll 19 = .ok (.invokevirtual 125, 3) := by decide +kernel
theorem dM_hasAll_22 : decode cM_hasAll 22 = .ok (.aload_n 0, 1) := by decide +kernel
theorem dM_hasAll_23 : decode cM_hasAll 23 = .ok (.aload_n 1, 1) := by decide +kernel
theorem dM_hasAll_24 : decode cM_hasAll 24 = .ok (.iload 4, 2) := by decide +kernel
theorem dM_hasAll_26 : decode cM_hasAll 26 = .ok (.bipush 9, 2) := by decide +kernel
theorem dM_hasAll_28 : decode cM_hasAll 28 = .ok (.invokevirtual 129, 3) := by decide +kernel
theorem dM_hasAll_31 : decode cM_hasAll 31 = .ok (.if_icmp .ne 7, 3) := by decide +kernel
theorem dM_hasAll_34 : decode cM_hasAll 34 = .ok (.iconst 1, 1) := by decide +kernel
theorem dM_hasAll_35 : decode cM_hasAll 35 = .ok (.goto 4, 3) := by decide +kernel
theorem dM_hasAll_38 : decode cM_hasAll 38 = .ok (.iconst 0, 1) := by decide +kernel
theorem dM_hasAll_39 : decode cM_hasAll 39 = .ok (.istore_n 3, 1) := by decide +kernel
theorem dM_hasAll_40 : decode cM_hasAll 40 = .ok (.iinc 4 1, 3) := by decide +kernel
theorem dM_hasAll_43 : decode cM_hasAll 43 = .ok (.goto (-38), 3) := by decide +kernel
theorem dM_hasAll_46 : decode cM_hasAll 46 = .ok (.iload_n 3, 1) := by decide +kernel
theorem dM_hasAll_47 : decode cM_hasAll 47 = .ok (.ireturn, 1) := by decide +kernel
theorem dM_isSound_0 : decode cM_isSound 0 = .ok (.aload_n 0, 1) := by decide +kernel
theorem dM_isSound_1 : decode cM_isSound 1 = .ok (.aload_n 1, 1) := by decide +kernel
theorem dM_isSound_2 : decode cM_isSound 2 = .ok (.invokevirtual 114, 3) := by decide +kernel
theorem dM_isSound_5 : decode cM_isSound 5 = .ok (.istore_n 2, 1) := by decide +kernel
theorem dM_isSound_6 : decode cM_isSound 6 = .ok (.aload_n 0, 1) := by decide +kernel
theorem dM_isSound_7 : decode cM_isSound 7 = .ok (.aload_n 1, 1) := by decide +kernel
theorem dM_isSound_8 : decode cM_isSound 8 = .ok (.invokevirtual 118, 3) := by decide +kernel
theorem dM_isSound_11 : decode cM_isSound 11 = .ok (.aload_n 0, 1) := by decide +kernel
theorem dM_isSound_12 : decode cM_isSound 12 = .ok (.getfield 22, 3) := by decide +kernel
theorem dM_isSound_15 : decode cM_isSound 15 = .ok (.if_icmp .gt 24, 3) := by decide +kernel
theorem dM_isSound_18 : decode cM_isSound 18 = .ok (.iload_n 2, 1) := by decide +kernel
theorem dM_isSound_19 : decode cM_isSound 19 = .ok (.aload_n 0, 1) := by decide +kernel
theorem dM_isSound_20 : decode cM_isSound 20 = .ok (.getfield 25, 3) := by decide +kernel
theorem dM_isSound_23 : decode cM_isSound 23 = .ok (.if_icmp .gt 16, 3) := by decide +kernel
theorem dM_isSound_26 : decode cM_isSound 26 = .ok (.iload_n 2, 1) := by decide +kernel
theorem dM_isSound_27 : decode cM_isSound 27 = .ok (.ineg, 1) := by decide +kernel
theorem dM_isSound_28 : decode cM_isSound 28 = .ok (.aload_n 0, 1) := by decide +kernel
theorem dM_isSound_29 : decode cM_isSound 29 = .ok (.getfield 25, 3) := by decide +kernel
theorem dM_isSound_32 : decode cM_isSound 32 = .ok (.if_icmp .gt 7, 3) := by decide +kernel
theorem dM_isSound_35 : decode cM_isSound 35 = .ok (.iconst 1, 1) := by decide +kernel
theorem dM_isSound_36 : decode cM_isSound 36 = .ok (.goto 4, 3) := by decide +kernel
theorem dM_isSound_39 : decode cM_isSound 39 = .ok (.iconst 0, 1) := by decide +kernel
theorem dM_isSound_40 : decode cM_isSound 40 = .ok (.istore_n 3, 1) := by decide +kernel
theorem dM_isSound_41 : decode cM_isSound 41 = .ok (.iconst 0, 1) := by decide +kernel
theorem dM_isSound_42 : decode cM_isSound 42 = .ok (.istore 4, 2) := by decide +kernel
theorem dM_isSound_44 : decode cM_isSound 44 = .ok (.iload 4, 2) := by decide +kernel
theorem dM_isSound_46 : decode cM_isSound 46 = .ok (.aload_n 0, 1) := by decide +kernel
theorem dM_isSound_47 : decode cM_isSound 47 = .ok (.getfield 7, 3) := by decide +kernel
theorem dM_isSound_50 : decode cM_isSound 50 = .ok (.if_icmp .ge 114, 3) := by decide +kernel
theorem dM_isSound_53 : decode cM_isSound 53 = .ok (.aload_n 0, 1) := by decide +kernel
theorem dM_isSound_54 : decode cM_isSound 54 = .ok (.aload_n 1, 1) := by decide +kernel
theorem dM_isSound_55 : decode cM_isSound 55 = .ok (.iload 4, 2) := by decide +kernel
theorem dM_isSound_57 : decode cM_isSound 57 = .ok (.iconst 1, 1) := by decide +kernel
theorem dM_isSound_58 : decode cM_isSound 58 = .ok (.isub, 1) := by decide +kernel
theorem dM_isSound_59 : decode cM_isSound 59 = .ok (.iconst 3, 1) := by decide +kernel
theorem dM_isSound_60 : decode cM_isSound 60 = .ok (.invokevirtual 121, 3) := by decide +kernel
theorem dM_isSound_63 : decode cM_isSound 63 = .ok (.ifCond .ne 27, 3) := by decide +kernel
theorem dM_isSound_66 : decode cM_isSound 66 = .ok (.aload_n 0, 1) := by decide +kernel
theorem dM_isSound_67 : decode cM_isSound 67 = .ok (.aload_n 1, 1) := by decide +kernel
theorem dM_isSound_68 : decode cM_isSound 68 = .ok (.iload 4, 2) := by decide +kernel
theorem dM_isSound_70 : decode cM_isSound 70 = .ok (.iconst 3, 1) := by decide +kernel
theorem dM_isSound_71 : decode cM_isSound 71 = .ok (.invokevirtual 121, 3) := by decide +kernel
theorem dM_isSound_74 : decode cM_isSound 74 = .ok (.ifCond .ne 16, 3) := by decide +kernel
theorem dM_isSound_77 : decode cM_isSound 77 = .ok (.aload_n 0, 1) := by decide +kernel
theorem dM_isSound_78 : decode cM_isSound 78 = .ok (.aload_n 1, 1) := by decide +kernel
theorem dM_isSound_79 : decode cM_isSound 79 = .ok (.iload 4, 2) := by decide +kernel
theorem dM_isSound_81 : decode cM_isSound 81 = .ok (.iconst 1, 1) := by decide +kernel
theorem dM_isSound_82 : decode cM_isSound 82 = .ok (.iadd, 1) := by decide +kernel
theorem dM_isSound_83 : decode cM_isSound 83 = .ok (.iconst 3, 1) := by decide +kernel
theorem dM_isSound_84 : decode cM_isSound 84 = .ok (.invokevirtual 121, 3) := by decide +kernel
theorem dM_isSound_87 : decode cM_isSound 87 = .ok (.ifCond .eq 7, 3) := by decide +kernel
theorem dM_isSound_90 : decode cM_isSound 90 = .ok (.iconst 1, 1) := by decide +kernel
theorem dM_isSound_91 : decode cM_isSound 91 = .ok (.goto 4, 3) := by decide +kernel
theorem dM_isSound_94 : decode cM_isSound 94 = .ok (.iconst 0, 1) := by decide +kernel
theorem dM_isSound_95 : decode cM_isSound 95 = .ok (.istore 5, 2) := by decide +kernel
theorem dM_isSound_97 : decode cM_isSound 97 = .ok (.iload_n 3, 1) := by decide +kernel
theorem dM_isSound_98 : decode cM_isSound 98 = .ok (.ifCond .eq 58, 3) := by decide +kernel
theorem dM_isSound_101 : decode cM_isSound 101 = .ok (.aload_n 0, 1) := by decide +kernel
theorem dM_isSound_102 : decode cM_isSound 102 = .ok (.aload_n 1, 1) := by decide +kernel
theorem dM_isSound_103 : decode cM_isSound 103 = .ok (.iload 4, 2) := by decide +kernel
theorem dM_isSound_105 : decode cM_isSound 105 = .ok (.invokevirtual 110, 3) := by decide +kernel
theorem dM_isSound_108 : decode cM_isSound 108 = .ok (.aload_n 0, 1) := by decide +kernel
theorem dM_isSound_109 : decode cM_isSound 109 = .ok (.getfield 19, 3) := by decide +kernel
theorem dM_isSound_112 : decode cM_isSound 112 = .ok (.if_icmp .gt 44, 3) := by decide +kernel
theorem dM_isSound_115 : decode cM_isSound 115 = .ok (.aload_n 0, 1) := by decide +kernel
theorem dM_isSound_116 : decode cM_isSound 116 = .ok (.getfield 28, 3) := by decide +kernel
theorem dM_isSound_119 : decode cM_isSound 119 = .ok (.iload 4, 2) := by decide +kernel
theorem dM_isSound_121 : decode cM_isSound 121 = .ok (.baload, 1) := by decide +kernel
theorem dM_isSound_122 : decode cM_isSound 122 = .ok (.ifCond .ne 14, 3) := by decide +kernel
theorem dM_isSound_125 : decode cM_isSound 125 = .ok (.aload_n 0, 1) := by decide +kernel
theorem dM_isSound_126 : decode cM_isSound 126 = .ok (.aload_n 1, 1) := by decide +kernel
theorem dM_isSound_127 : decode cM_isSound 127 = .ok (.iload 4, 2) := by decide +kernel
theorem dM_isSound_129 : decode cM_isSound 129 = .ok (.iconst 1, 1) := by decide +kernel
theorem dM_isSound_130 : decode cM_isSound 130 = .ok (.invokevirtual 121, 3) := by decide +kernel
theorem dM_isSound_133 : decode cM_isSound 133 = .ok (.ifCond .ne 23, 3) := by decide +kernel
theorem dM_isSound_136 : decode cM_isSound 136 = .ok (.iload 5, 2) := by decide +kernel
theorem dM_isSound_138 : decode cM_isSound 138 = .ok (.ifCond .eq 14, 3) := by decide +kernel
theorem dM_isSound_141 : decode cM_isSound 141 = .ok (.aload_n 0, 1) := by decide +kernel
theorem dM_isSound_142 : decode cM_isSound 142 = .ok (.aload_n 1, 1) := by decide +kernel
theorem dM_isSound_143 : decode cM_isSound 143 = .ok (.iload 4, 2) := by decide +kernel
theorem dM_isSound_145 : decode cM_isSound 145 = .ok (.iconst 2, 1) := by decide +kernel
theorem dM_isSound_146 : decode cM_isSound 146 = .ok (.invokevirtual 121, 3) := by decide +kernel
theorem dM_isSound_149 : decode cM_isSound 149 = .ok (.ifCond .ne 7, 3) := by decide +kernel
theorem dM_isSound_152 : decode cM_isSound 152 = .ok (.iconst 1, 1) := by decide +kernel
theorem dM_isSound_153 : decode cM_isSound 153 = .ok (.goto 4, 3) := by decide +kernel
theorem dM_isSound_156 : decode cM_isSound 156 = .ok (.iconst 0, 1) := by decide +kernel
theorem dM_isSound_157 : decode cM_isSound 157 = .ok (.istore_n 3, 1) := by decide +kernel
theorem dM_isSound_158 : decode cM_isSound 158 = .ok (.iinc 4 1, 3) := by decide +kernel
theorem dM_isSound_161 : decode cM_isSound 161 = .ok (.goto (-117), 3) := by decide +kernel
theorem dM_isSound_164 : decode cM_isSound 164 = .ok (.iload_n 3, 1) := by decide +kernel
theorem dM_isSound_165 : decode cM_isSound 165 = .ok (.ireturn, 1) := by decide +kernel
theorem dM_listOf_0 : decode cM_listOf 0 = .ok (.iconst 0, 1) := by decide +kernel
theorem dM_listOf_1 : decode cM_listOf 1 = .ok (.istore_n 2, 1) := by decide +kernel
theorem dM_listOf_2 : decode cM_listOf 2 = .ok (.iconst 0, 1) := by decide +kernel
theorem dM_listOf_3 : decode cM_listOf 3 = .ok (.istore_n 3, 1) := by decide +kernel
theorem dM_listOf_4 : decode cM_listOf 4 = .ok (.iload_n 3, 1) := by decide +kernel
theorem dM_listOf_5 : decode cM_listOf 5 = .ok (.aload_n 0, 1) := by decide +kernel
theorem dM_listOf_6 : decode cM_listOf 6 = .ok (.getfield 7, 3) := by decide +kernel
theorem dM_listOf_9 : decode cM_listOf 9 = .ok (.if_icmp .ge 29, 3) := by decide +kernel
theorem dM_listOf_12 : decode cM_listOf 12 = .ok (.iload_n 2, 1) := by decide +kernel
theorem dM_listOf_13 : decode cM_listOf 13 = .ok (.aload_n 0, 1) := by decide +kernel
theorem dM_listOf_14 : decode cM_listOf 14 = .ok (.aload_n 1, 1) := by decide +kernel
theorem dM_listOf_15 : decode cM_listOf 15 = .ok (.iload_n 3, 1) := by decide +kernel
theorem dM_listOf_16 : decode cM_listOf 16 = .ok (.invokevirtual 110, 3) := by decide +kernel
theorem dM_listOf_19 : decode cM_listOf 19 = .ok (.iconst 2, 1) := by decide +kernel
theorem dM_listOf_20 : decode cM_listOf 20 = .ok (.iload_n 3, 1) := by decide +kernel
theorem dM_listOf_21 : decode cM_listOf 21 = .ok (.imul, 1) := by decide +kernel
theorem dM_listOf_22 : decode cM_listOf 22 = .ok (.iconst 1, 1) := by decide +kernel
theorem dM_listOf_23 : decode cM_listOf 23 = .ok (.iadd, 1) := by decide +kernel
theorem dM_listOf_24 : decode cM_listOf 24 = .ok (.aload_n 0, 1) := by decide +kernel
theorem dM_listOf_25 : decode cM_listOf 25 = .ok (.getfield 7, 3) := by decide +kernel
theorem dM_listOf_28 : decode cM_listOf 28 = .ok (.isub, 1) := by decide +kernel
theorem dM_listOf_29 : decode cM_listOf 29 = .ok (.imul, 1) := by decide +kernel
theorem dM_listOf_30 : decode cM_listOf 30 = .ok (.iadd, 1) := by decide +kernel
theorem dM_listOf_31 : decode cM_listOf 31 = .ok (.istore_n 2, 1) := by decide +kernel
theorem dM_listOf_32 : decode cM_listOf 32 = .ok (.iinc 3 1, 3) := by decide +kernel
theorem dM_listOf_35 : decode cM_listOf 35 = .ok (.goto (-31), 3) := by decide +kernel
theorem dM_listOf_38 : decode cM_listOf 38 = .ok (.iload_n 2, 1) := by decide +kernel
theorem dM_listOf_39 : decode cM_listOf 39 = .ok (.ireturn, 1) := by decide +kernel
theorem dM_weightOf_0 : decode cM_weightOf 0 = .ok (.iconst 0, 1) := by decide +kernel
theorem dM_weightOf_1 : decode cM_weightOf 1 = .ok (.istore_n 3, 1) := by decide +kernel
theorem dM_weightOf_2 : decode cM_weightOf 2 = .ok (.iconst 0, 1) := by decide +kernel
theorem dM_weightOf_3 : decode cM_weightOf 3 = .ok (.istore 4, 2) := by decide +kernel
theorem dM_weightOf_5 : decode cM_weightOf 5 = .ok (.iload 4, 2) := by decide +kernel
theorem dM_weightOf_7 : decode cM_weightOf 7 = .ok (.iconst 3, 1) := by decide +kernel
theorem dM_weightOf_8 : decode cM_weightOf 8 = .ok (.if_icmp .ge 40, 3) := by decide +kernel
theorem dM_weightOf_11 : decode cM_weightOf 11 = .ok (.aload_n 1, 1) := by decide +kernel
theorem dM_weightOf_12 : decode cM_weightOf 12 = .ok (.iconst 3, 1) := by decide +kernel
theorem dM_weightOf_13 : decode cM_weightOf 13 = .ok (.iload_n 2, 1) := by decide +kernel
theorem dM_weightOf_14 : decode cM_weightOf 14 = .ok (.imul, 1) := by decide +kernel
theorem dM_weightOf_15 : decode cM_weightOf 15 = .ok (.iload 4, 2) := by decide +kernel
theorem dM_weightOf_17 : decode cM_weightOf 17 = .ok (.iadd, 1) := by decide +kernel
theorem dM_weightOf_18 : decode cM_weightOf 18 = .ok (.iaload, 1) := by decide +kernel
theorem dM_weightOf_19 : decode cM_weightOf 19 = .ok (.ifCond .lt 21, 3) := by decide +kernel
theorem dM_weightOf_22 : decode cM_weightOf 22 = .ok (.iload_n 3, 1) := by decide +kernel
theorem dM_weightOf_23 : decode cM_weightOf 23 = .ok (.aload_n 0, 1) := by decide +kernel
theorem dM_weightOf_24 : decode cM_weightOf 24 = .ok (.getfield 39, 3) := by decide +kernel
theorem dM_weightOf_27 : decode cM_weightOf 27 = .ok (.aload_n 1, 1) := by decide +kernel
theorem dM_weightOf_28 : decode cM_weightOf 28 = .ok (.iconst 3, 1) := by decide +kernel
theorem dM_weightOf_29 : decode cM_weightOf 29 = .ok (.iload_n 2, 1) := by decide +kernel
theorem dM_weightOf_30 : decode cM_weightOf 30 = .ok (.imul, 1) := by decide +kernel
theorem dM_weightOf_31 : decode cM_weightOf 31 = .ok (.iload 4, 2) := by decide +kernel
theorem dM_weightOf_33 : decode cM_weightOf 33 = .ok (.iadd, 1) := by decide +kernel
theorem dM_weightOf_34 : decode cM_weightOf 34 = .ok (.iaload, 1) := by decide +kernel
theorem dM_weightOf_35 : decode cM_weightOf 35 = .ok (.iaload, 1) := by decide +kernel
theorem dM_weightOf_36 : decode cM_weightOf 36 = .ok (.iadd, 1) := by decide +kernel
theorem dM_weightOf_37 : decode cM_weightOf 37 = .ok (.goto 4, 3) := by decide +kernel
theorem dM_weightOf_40 : decode cM_weightOf 40 = .ok (.iload_n 3, 1) := by decide +kernel
theorem dM_weightOf_41 : decode cM_weightOf 41 = .ok (.istore_n 3, 1) := by decide +kernel
theorem dM_weightOf_42 : decode cM_weightOf 42 = .ok (.iinc 4 1, 3) := by decide +kernel
theorem dM_weightOf_45 : decode cM_weightOf 45 = .ok (.goto (-40), 3) := by decide +kernel
theorem dM_weightOf_48 : decode cM_weightOf 48 = .ok (.iload_n 3, 1) := by decide +kernel
theorem dM_weightOf_49 : decode cM_weightOf 49 = .ok (.ireturn, 1) := by decide +kernel
theorem dM_verticalOf_0 : decode cM_verticalOf 0 = .ok (.iconst 0, 1) := by decide +kernel
theorem dM_verticalOf_1 : decode cM_verticalOf 1 = .ok (.istore_n 2, 1) := by decide +kernel
theorem dM_verticalOf_2 : decode cM_verticalOf 2 = .ok (.iconst 0, 1) := by decide +kernel
theorem dM_verticalOf_3 : decode cM_verticalOf 3 = .ok (.istore_n 3, 1) := by decide +kernel
theorem dM_verticalOf_4 : decode cM_verticalOf 4 = .ok (.iload_n 3, 1) := by decide +kernel
theorem dM_verticalOf_5 : decode cM_verticalOf 5 = .ok (.bipush 9, 2) := by decide +kernel
theorem dM_verticalOf_7 : decode cM_verticalOf 7 = .ok (.if_icmp .ge 36, 3) := by decide +kernel
theorem dM_verticalOf_10 : decode cM_verticalOf 10 = .ok (.aload_n 1, 1) := by decide +kernel
theorem dM_verticalOf_11 : decode cM_verticalOf 11 = .ok (.iload_n 3, 1) := by decide +kernel
theorem dM_verticalOf_12 : decode cM_verticalOf 12 = .ok (.iaload, 1) := by decide +kernel
theorem dM_verticalOf_13 : decode cM_verticalOf 13 = .ok (.ifCond .lt 22, 3) := by decide +kernel
theorem dM_verticalOf_16 : decode cM_verticalOf 16 = .ok (.iload_n 2, 1) := by decide +kernel
theorem dM_verticalOf_17 : decode cM_verticalOf 17 = .ok (.aload_n 0, 1) := by decide +kernel
theorem dM_verticalOf_18 : decode cM_verticalOf 18 = .ok (.getfield 39, 3) := by decide +kernel
theorem dM_verticalOf_21 : decode cM_verticalOf 21 = .ok (.aload_n 1, 1) := by decide +kernel
theorem dM_verticalOf_22 : decode cM_verticalOf 22 = .ok (.iload_n 3, 1) := by decide +kernel
theorem dM_verticalOf_23 : decode cM_verticalOf 23 = .ok (.iaload, 1) := by decide +kernel
theorem dM_verticalOf_24 : decode cM_verticalOf 24 = .ok (.iaload, 1) := by decide +kernel
theorem dM_verticalOf_25 : decode cM_verticalOf 25 = .ok (.iload_n 3, 1) := by decide +kernel
theorem dM_verticalOf_26 : decode cM_verticalOf 26 = .ok (.iconst 3, 1) := by decide +kernel
theorem dM_verticalOf_27 : decode cM_verticalOf 27 = .ok (.irem, 1) := by decide +kernel
theorem dM_verticalOf_28 : decode cM_verticalOf 28 = .ok (.iconst 1, 1) := by decide +kernel
theorem dM_verticalOf_29 : decode cM_verticalOf 29 = .ok (.iadd, 1) := by decide +kernel
theorem dM_verticalOf_30 : decode cM_verticalOf 30 = .ok (.imul, 1) := by decide +kernel
theorem dM_verticalOf_31 : decode cM_verticalOf 31 = .ok (.iadd, 1) := by decide +kernel
theorem dM_verticalOf_32 : decode cM_verticalOf 32 = .ok (.goto 4, 3) := by decide +kernel
theorem dM_verticalOf_35 : decode cM_verticalOf 35 = .ok (.iload_n 2, 1) := by decide +kernel
theorem dM_verticalOf_36 : decode cM_verticalOf 36 = .ok (.istore_n 2, 1) := by decide +kernel
theorem dM_verticalOf_37 : decode cM_verticalOf 37 = .ok (.iinc 3 1, 3) := by decide +kernel
theorem dM_verticalOf_40 : decode cM_verticalOf 40 = .ok (.goto (-36), 3) := by decide +kernel
theorem dM_verticalOf_43 : decode cM_verticalOf 43 = .ok (.iload_n 2, 1) := by decide +kernel
theorem dM_verticalOf_44 : decode cM_verticalOf 44 = .ok (.ireturn, 1) := by decide +kernel
theorem dM_hasKind_0 : decode cM_hasKind 0 = .ok (.iconst 0, 1) := by decide +kernel
theorem dM_hasKind_1 : decode cM_hasKind 1 = .ok (.istore 4, 2) := by decide +kernel
theorem dM_hasKind_3 : decode cM_hasKind 3 = .ok (.iconst 0, 1) := by decide +kernel
theorem dM_hasKind_4 : decode cM_hasKind 4 = .ok (.istore 5, 2) := by decide +kernel
theorem dM_hasKind_6 : decode cM_hasKind 6 = .ok (.iload 5, 2) := by decide +kernel
theorem dM_hasKind_8 : decode cM_hasKind 8 = .ok (.iconst 3, 1) := by decide +kernel
theorem dM_hasKind_9 : decode cM_hasKind 9 = .ok (.if_icmp .ge 58, 3) := by decide +kernel
theorem dM_hasKind_12 : decode cM_hasKind 12 = .ok (.iload_n 2, 1) := by decide +kernel
theorem dM_hasKind_13 : decode cM_hasKind 13 = .ok (.iconst 0, 1) := by decide +kernel
theorem dM_hasKind_14 : decode cM_hasKind 14 = .ok (.iconst 2, 1) := by decide +kernel
theorem dM_hasKind_15 : decode cM_hasKind 15 = .ok (.invokestatic 92, 3) := by decide +kernel
theorem dM_hasKind_18 : decode cM_hasKind 18 = .ok (.ifCond .eq 49, 3) := by decide +kernel
theorem dM_hasKind_21 : decode cM_hasKind 21 = .ok (.iload 4, 2) := by decide +kernel
theorem dM_hasKind_23 : decode cM_hasKind 23 = .ok (.ifCond .ne 31, 3) := by decide +kernel
theorem dM_hasKind_26 : decode cM_hasKind 26 = .ok (.aload_n 1, 1) := by decide +kernel
theorem dM_hasKind_27 : decode cM_hasKind 27 = .ok (.iconst 3, 1) := by decide +kernel
theorem dM_hasKind_28 : decode cM_hasKind 28 = .ok (.iload_n 2, 1) := by decide +kernel
theorem dM_hasKind_29 : decode cM_hasKind 29 = .ok (.imul, 1) := by decide +kernel
theorem dM_hasKind_30 : decode cM_hasKind 30 = .ok (.iload 5, 2) := by decide +kernel
theorem dM_hasKind_32 : decode cM_hasKind 32 = .ok (.iadd, 1) := by decide +kernel
theorem dM_hasKind_33 : decode cM_hasKind 33 = .ok (.iaload, 1) := by decide +kernel
theorem dM_hasKind_34 : decode cM_hasKind 34 = .ok (.ifCond .lt 24, 3) := by decide +kernel
theorem dM_hasKind_37 : decode cM_hasKind 37 = .ok (.aload_n 0, 1) := by decide +kernel
theorem dM_hasKind_38 : decode cM_hasKind 38 = .ok (.getfield 42, 3) := by decide +kernel
theorem dM_hasKind_41 : decode cM_hasKind 41 = .ok (.aload_n 1, 1) := by decide +kernel
theorem dM_hasKind_42 : decode cM_hasKind 42 = .ok (.iconst 3, 1) := by decide +kernel
theorem dM_hasKind_43 : decode cM_hasKind 43 = .ok (.iload_n 2, 1) := by decide +kernel
theorem dM_hasKind_44 : decode cM_hasKind 44 = .ok (.imul, 1) := by decide +kernel
theorem dM_hasKind_45 : decode cM_hasKind 45 = .ok (.iload 5, 2) := by decide +kernel
theorem dM_hasKind_47 : decode cM_hasKind 47 = .ok (.iadd, 1) := by decide +kernel
theorem dM_hasKind_48 : decode cM_hasKind 48 = .ok (.iaload, 1) := by decide +kernel
theorem dM_hasKind_49 : decode cM_hasKind 49 = .ok (.iaload, 1) := by decide +kernel
theorem dM_hasKind_50 : decode cM_hasKind 50 = .ok (.iload_n 3, 1) := by decide +kernel
theorem dM_hasKind_51 : decode cM_hasKind 51 = .ok (.if_icmp .ne 7, 3) := by decide +kernel
theorem dM_hasKind_54 : decode cM_hasKind 54 = .ok (.iconst 1, 1) := by decide +kernel
theorem dM_hasKind_55 : decode cM_hasKind 55 = .ok (.goto 4, 3) := by decide +kernel
theorem dM_hasKind_58 : decode cM_hasKind 58 = .ok (.iconst 0, 1) := by decide +kernel
theorem dM_hasKind_59 : decode cM_hasKind 59 = .ok (.istore 4, 2) := by decide +kernel
theorem dM_hasKind_61 : decode cM_hasKind 61 = .ok (.iinc 5 1, 3) := by decide +kernel
theorem dM_hasKind_64 : decode cM_hasKind 64 = .ok (.goto (-58), 3) := by decide +kernel
theorem dM_hasKind_67 : decode cM_hasKind 67 = .ok (.iload 4, 2) := by decide +kernel
theorem dM_hasKind_69 : decode cM_hasKind 69 = .ok (.ireturn, 1) := by decide +kernel
theorem dM_packed_0 : decode cM_packed 0 = .ok (.iconst 0, 1) := by decide +kernel
theorem dM_packed_1 : decode cM_packed 1 = .ok (.istore_n 1, 1) := by decide +kernel
theorem dM_packed_2 : decode cM_packed 2 = .ok (.iconst 0, 1) := by decide +kernel
theorem dM_packed_3 : decode cM_packed 3 = .ok (.istore_n 2, 1) := by decide +kernel
theorem dM_packed_4 : decode cM_packed 4 = .ok (.iload_n 2, 1) := by decide +kernel
theorem dM_packed_5 : decode cM_packed 5 = .ok (.bipush 9, 2) := by decide +kernel
theorem dM_packed_7 : decode cM_packed 7 = .ok (.if_icmp .ge 24, 3) := by decide +kernel
theorem dM_packed_10 : decode cM_packed 10 = .ok (.iload_n 1, 1) := by decide +kernel
theorem dM_packed_11 : decode cM_packed 11 = .ok (.aload_n 0, 1) := by decide +kernel
theorem dM_packed_12 : decode cM_packed 12 = .ok (.getfield 57, 3) := by decide +kernel
theorem dM_packed_15 : decode cM_packed 15 = .ok (.iload_n 2, 1) := by decide +kernel
theorem dM_packed_16 : decode cM_packed 16 = .ok (.iaload, 1) := by decide +kernel
theorem dM_packed_17 : decode cM_packed 17 = .ok (.iconst 1, 1) := by decide +kernel
theorem dM_packed_18 : decode cM_packed 18 = .ok (.iadd, 1) := by decide +kernel
theorem dM_packed_19 : decode cM_packed 19 = .ok (.iconst 3, 1) := by decide +kernel
theorem dM_packed_20 : decode cM_packed 20 = .ok (.iload_n 2, 1) := by decide +kernel
theorem dM_packed_21 : decode cM_packed 21 = .ok (.imul, 1) := by decide +kernel
theorem dM_packed_22 : decode cM_packed 22 = .ok (.ishl, 1) := by decide +kernel
theorem dM_packed_23 : decode cM_packed 23 = .ok (.ior, 1) := by decide +kernel
theorem dM_packed_24 : decode cM_packed 24 = .ok (.istore_n 1, 1) := by decide +kernel
theorem dM_packed_25 : decode cM_packed 25 = .ok (.iinc 2 1, 3) := by decide +kernel
theorem dM_packed_28 : decode cM_packed 28 = .ok (.goto (-24), 3) := by decide +kernel
theorem dM_packed_31 : decode cM_packed 31 = .ok (.iload_n 1, 1) := by decide +kernel
theorem dM_packed_32 : decode cM_packed 32 = .ok (.ireturn, 1) := by decide +kernel
theorem dM_reckon_0 : decode cM_reckon 0 = .ok (.sipush 2600, 3) := by decide +kernel
theorem dM_reckon_3 : decode cM_reckon 3 = .ok (.iload_n 1, 1) := by decide +kernel
theorem dM_reckon_4 : decode cM_reckon 4 = .ok (.imul, 1) := by decide +kernel
theorem dM_reckon_5 : decode cM_reckon 5 = .ok (.istore_n 2, 1) := by decide +kernel
theorem dM_reckon_6 : decode cM_reckon 6 = .ok (.iload_n 2, 1) := by decide +kernel
theorem dM_reckon_7 : decode cM_reckon 7 = .ok (.sipush 2600, 3) := by decide +kernel
theorem dM_reckon_10 : decode cM_reckon 10 = .ok (.iload_n 1, 1) := by decide +kernel
theorem dM_reckon_11 : decode cM_reckon 11 = .ok (.imul, 1) := by decide +kernel
theorem dM_reckon_12 : decode cM_reckon 12 = .ok (.aload_n 0, 1) := by decide +kernel
theorem dM_reckon_13 : decode cM_reckon 13 = .ok (.getfield 54, 3) := by decide +kernel
theorem dM_reckon_16 : decode cM_reckon 16 = .ok (.iload_n 1, 1) := by decide +kernel
theorem dM_reckon_17 : decode cM_reckon 17 = .ok (.iaload, 1) := by decide +kernel
theorem dM_reckon_18 : decode cM_reckon 18 = .ok (.iadd, 1) := by decide +kernel
theorem dM_reckon_19 : decode cM_reckon 19 = .ok (.if_icmp .ge 166, 3) := by decide +kernel
theorem dM_reckon_22 : decode cM_reckon 22 = .ok (.aload_n 0, 1) := by decide +kernel
theorem dM_reckon_23 : decode cM_reckon 23 = .ok (.getfield 51, 3) := by decide +kernel
theorem dM_reckon_26 : decode cM_reckon 26 = .ok (.iload_n 2, 1) := by decide +kernel
theorem dM_reckon_27 : decode cM_reckon 27 = .ok (.iload_n 1, 1) := by decide +kernel
theorem dM_reckon_28 : decode cM_reckon 28 = .ok (.aload_n 0, 1) := by decide +kernel
theorem dM_reckon_29 : decode cM_reckon 29 = .ok (.getfield 16, 3) := by decide +kernel
theorem dM_reckon_32 : decode cM_reckon 32 = .ok (.iconst 2, 1) := by decide +kernel
theorem dM_reckon_33 : decode cM_reckon 33 = .ok (.isub, 1) := by decide +kernel
theorem dM_reckon_34 : decode cM_reckon 34 = .ok (.if_icmp .ne 7, 3) := by decide +kernel
theorem dM_reckon_37 : decode cM_reckon 37 = .ok (.iconst 0, 1) := by decide +kernel
theorem dM_reckon_38 : decode cM_reckon 38 = .ok (.goto 4, 3) := by decide +kernel
theorem dM_reckon_41 : decode cM_reckon 41 = .ok (.iconst (-1), 1) := by decide +kernel
theorem dM_reckon_42 : decode cM_reckon 42 = .ok (.iastore, 1) := by decide +kernel
theorem dM_reckon_43 : decode cM_reckon 43 = .ok (.iconst 0, 1) := by decide +kernel
theorem dM_reckon_44 : decode cM_reckon 44 = .ok (.istore_n 3, 1) := by decide +kernel
theorem dM_reckon_45 : decode cM_reckon 45 = .ok (.iload_n 1, 1) := by decide +kernel
theorem dM_reckon_46 : decode cM_reckon 46 = .ok (.aload_n 0, 1) := by decide +kernel
theorem dM_reckon_47 : decode cM_reckon 47 = .ok (.getfield 16, 3) := by decide +kernel
theorem dM_reckon_50 : decode cM_reckon 50 = .ok (.iconst 2, 1) := by decide +kernel
theorem dM_reckon_51 : decode cM_reckon 51 = .ok (.isub, 1) := by decide +kernel
theorem dM_reckon_52 : decode cM_reckon 52 = .ok (.if_icmp .ge 127, 3) := by decide +kernel
theorem dM_reckon_55 : decode cM_reckon 55 = .ok (.iload_n 3, 1) := by decide +kernel
theorem dM_reckon_56 : decode cM_reckon 56 = .ok (.aload_n 0, 1) := by decide +kernel
theorem dM_reckon_57 : decode cM_reckon 57 = .ok (.getfield 54, 3) := by decide +kernel
theorem dM_reckon_60 : decode cM_reckon 60 = .ok (.iload_n 1, 1) := by decide +kernel
theorem dM_reckon_61 : decode cM_reckon 61 = .ok (.iconst 1, 1) := by decide +kernel
theorem dM_reckon_62 : decode cM_reckon 62 = .ok (.iadd, 1) := by decide +kernel
theorem dM_reckon_63 : decode cM_reckon 63 = .ok (.iaload, 1) := by decide +kernel
theorem dM_reckon_64 : decode cM_reckon 64 = .ok (.if_icmp .ge 115, 3) := by decide +kernel
theorem dM_reckon_67 : decode cM_reckon 67 = .ok (.sipush 2600, 3) := by decide +kernel
theorem dM_reckon_70 : decode cM_reckon 70 = .ok (.iload_n 1, 1) := by decide +kernel
theorem dM_reckon_71 : decode cM_reckon 71 = .ok (.iconst 1, 1) := by decide +kernel
theorem dM_reckon_72 : decode cM_reckon 72 = .ok (.iadd, 1) := by decide +kernel
theorem dM_reckon_73 : decode cM_reckon 73 = .ok (.imul, 1) := by decide +kernel
theorem dM_reckon_74 : decode cM_reckon 74 = .ok (.iload_n 3, 1) := by decide +kernel
theorem dM_reckon_75 : decode cM_reckon 75 = .ok (.iadd, 1) := by decide +kernel
theorem dM_reckon_76 : decode cM_reckon 76 = .ok (.istore 4, 2) := by decide +kernel
theorem dM_reckon_78 : decode cM_reckon 78 = .ok (.aload_n 0, 1) := by decide +kernel
theorem dM_reckon_79 : decode cM_reckon 79 = .ok (.getfield 51, 3) := by decide +kernel
theorem dM_reckon_82 : decode cM_reckon 82 = .ok (.iload 4, 2) := by decide +kernel
theorem dM_reckon_84 : decode cM_reckon 84 = .ok (.iaload, 1) := by decide +kernel
theorem dM_reckon_85 : decode cM_reckon 85 = .ok (.ifCond .ge 7, 3) := by decide +kernel
theorem dM_reckon_88 : decode cM_reckon 88 = .ok (.iconst (-1), 1) := by decide +kernel
theorem dM_reckon_89 : decode cM_reckon 89 = .ok (.goto 40, 3) := by decide +kernel
theorem dM_reckon_92 : decode cM_reckon 92 = .ok (.aload_n 0, 1) := by decide +kernel
theorem dM_reckon_93 : decode cM_reckon 93 = .ok (.getfield 51, 3) := by decide +kernel
theorem dM_reckon_96 : decode cM_reckon 96 = .ok (.iload 4, 2) := by decide +kernel
theorem dM_reckon_98 : decode cM_reckon 98 = .ok (.iaload, 1) := by decide +kernel
theorem dM_reckon_99 : decode cM_reckon 99 = .ok (.aload_n 0, 1) := by decide +kernel
theorem dM_reckon_100 : decode cM_reckon 100 = .ok (.getfield 51, 3) := by decide +kernel
theorem dM_reckon_103 : decode cM_reckon 103 = .ok (.iload_n 2, 1) := by decide +kernel
theorem dM_reckon_104 : decode cM_reckon 104 = .ok (.iaload, 1) := by decide +kernel
theorem dM_reckon_105 : decode cM_reckon 105 = .ok (.ifCond .ne 7, 3) := by decide +kernel
theorem dM_reckon_108 : decode cM_reckon 108 = .ok (.iconst 0, 1) := by decide +kernel
theorem dM_reckon_109 : decode cM_reckon 109 = .ok (.goto 19, 3) := by decide +kernel
theorem dM_reckon_112 : decode cM_reckon 112 = .ok (.aload_n 0, 1) := by decide +kernel
theorem dM_reckon_113 : decode cM_reckon 113 = .ok (.getfield 48, 3) := by decide +kernel
theorem dM_reckon_116 : decode cM_reckon 116 = .ok (.iload_n 2, 1) := by decide +kernel
theorem dM_reckon_117 : decode cM_reckon 117 = .ok (.iaload, 1) := by decide +kernel
theorem dM_reckon_118 : decode cM_reckon 118 = .ok (.aload_n 0, 1) := by decide +kernel
theorem dM_reckon_119 : decode cM_reckon 119 = .ok (.getfield 48, 3) := by decide +kernel
theorem dM_reckon_122 : decode cM_reckon 122 = .ok (.iload 4, 2) := by decide +kernel
theorem dM_reckon_124 : decode cM_reckon 124 = .ok (.iaload, 1) := by decide +kernel
theorem dM_reckon_125 : decode cM_reckon 125 = .ok (.invokestatic 158, 3) := by decide +kernel
theorem dM_reckon_128 : decode cM_reckon 128 = .ok (.iadd, 1) := by decide +kernel
theorem dM_reckon_129 : decode cM_reckon 129 = .ok (.istore 5, 2) := by decide +kernel
theorem dM_reckon_131 : decode cM_reckon 131 = .ok (.aload_n 0, 1) := by decide +kernel
theorem dM_reckon_132 : decode cM_reckon 132 = .ok (.getfield 51, 3) := by decide +kernel
theorem dM_reckon_135 : decode cM_reckon 135 = .ok (.iload_n 2, 1) := by decide +kernel
theorem dM_reckon_136 : decode cM_reckon 136 = .ok (.iload 5, 2) := by decide +kernel
theorem dM_reckon_138 : decode cM_reckon 138 = .ok (.ifCond .lt 28, 3) := by decide +kernel
theorem dM_reckon_141 : decode cM_reckon 141 = .ok (.aload_n 0, 1) := by decide +kernel
theorem dM_reckon_142 : decode cM_reckon 142 = .ok (.getfield 51, 3) := by decide +kernel
theorem dM_reckon_145 : decode cM_reckon 145 = .ok (.iload_n 2, 1) := by decide +kernel
theorem dM_reckon_146 : decode cM_reckon 146 = .ok (.iaload, 1) := by decide +kernel
theorem dM_reckon_147 : decode cM_reckon 147 = .ok (.ifCond .lt 14, 3) := by decide +kernel
theorem dM_reckon_150 : decode cM_reckon 150 = .ok (.iload 5, 2) := by decide +kernel
theorem dM_reckon_152 : decode cM_reckon 152 = .ok (.aload_n 0, 1) := by decide +kernel
theorem dM_reckon_153 : decode cM_reckon 153 = .ok (.getfield 51, 3) := by decide +kernel
theorem dM_reckon_156 : decode cM_reckon 156 = .ok (.iload_n 2, 1) := by decide +kernel
theorem dM_reckon_157 : decode cM_reckon 157 = .ok (.iaload, 1) := by decide +kernel
theorem dM_reckon_158 : decode cM_reckon 158 = .ok (.if_icmp .ge 8, 3) := by decide +kernel
theorem dM_reckon_161 : decode cM_reckon 161 = .ok (.iload 5, 2) := by decide +kernel
theorem dM_reckon_163 : decode cM_reckon 163 = .ok (.goto 9, 3) := by decide +kernel
theorem dM_reckon_166 : decode cM_reckon 166 = .ok (.aload_n 0, 1) := by decide +kernel
theorem dM_reckon_167 : decode cM_reckon 167 = .ok (.getfield 51, 3) := by decide +kernel
theorem dM_reckon_170 : decode cM_reckon 170 = .ok (.iload_n 2, 1) := by decide +kernel
theorem dM_reckon_171 : decode cM_reckon 171 = .ok (.iaload, 1) := by decide +kernel
theorem dM_reckon_172 : decode cM_reckon 172 = .ok (.iastore, 1) := by decide +kernel
theorem dM_reckon_173 : decode cM_reckon 173 = .ok (.iinc 3 1, 3) := by decide +kernel
theorem dM_reckon_176 : decode cM_reckon 176 = .ok (.goto (-131), 3) := by decide +kernel
theorem dM_reckon_179 : decode cM_reckon 179 = .ok (.iinc 2 1, 3) := by decide +kernel
theorem dM_reckon_182 : decode cM_reckon 182 = .ok (.goto (-176), 3) := by decide +kernel
theorem dM_reckon_185 : decode cM_reckon 185 = .ok (.return_, 1) := by decide +kernel
theorem dM_shifts_0 : decode cM_shifts 0 = .ok (.iconst 0, 1) := by decide +kernel
theorem dM_shifts_1 : decode cM_shifts 1 = .ok (.istore_n 2, 1) := by decide +kernel
theorem dM_shifts_2 : decode cM_shifts 2 = .ok (.iconst 0, 1) := by decide +kernel
theorem dM_shifts_3 : decode cM_shifts 3 = .ok (.istore_n 3, 1) := by decide +kernel
theorem dM_shifts_4 : decode cM_shifts 4 = .ok (.iload_n 3, 1) := by decide +kernel
theorem dM_shifts_5 : decode cM_shifts 5 = .ok (.iconst 3, 1) := by decide +kernel
theorem dM_shifts_6 : decode cM_shifts 6 = .ok (.if_icmp .ge 63, 3) := by decide +kernel
theorem dM_shifts_9 : decode cM_shifts 9 = .ok (.iload_n 0, 1) := by decide +kernel
theorem dM_shifts_10 : decode cM_shifts 10 = .ok (.iload_n 1, 1) := by decide +kernel
theorem dM_shifts_11 : decode cM_shifts 11 = .ok (.iload_n 3, 1) := by decide +kernel
theorem dM_shifts_12 : decode cM_shifts 12 = .ok (.invokestatic 151, 3) := by decide +kernel
theorem dM_shifts_15 : decode cM_shifts 15 = .ok (.istore 4, 2) := by decide +kernel
theorem dM_shifts_17 : decode cM_shifts 17 = .ok (.iload 4, 2) := by decide +kernel
theorem dM_shifts_19 : decode cM_shifts 19 = .ok (.iconst 3, 1) := by decide +kernel
theorem dM_shifts_20 : decode cM_shifts 20 = .ok (.if_icmp .ge 43, 3) := by decide +kernel
theorem dM_shifts_23 : decode cM_shifts 23 = .ok (.iload_n 0, 1) := by decide +kernel
theorem dM_shifts_24 : decode cM_shifts 24 = .ok (.iconst 3, 1) := by decide +kernel
theorem dM_shifts_25 : decode cM_shifts 25 = .ok (.iload_n 3, 1) := by decide +kernel
theorem dM_shifts_26 : decode cM_shifts 26 = .ok (.imul, 1) := by decide +kernel
theorem dM_shifts_27 : decode cM_shifts 27 = .ok (.iload 4, 2) := by decide +kernel
theorem dM_shifts_29 : decode cM_shifts 29 = .ok (.iadd, 1) := by decide +kernel
theorem dM_shifts_30 : decode cM_shifts 30 = .ok (.invokestatic 147, 3) := by decide +kernel
theorem dM_shifts_33 : decode cM_shifts 33 = .ok (.istore 5, 2) := by decide +kernel
theorem dM_shifts_35 : decode cM_shifts 35 = .ok (.iload 5, 2) := by decide +kernel
theorem dM_shifts_37 : decode cM_shifts 37 = .ok (.ifCond .lt 18, 3) := by decide +kernel
theorem dM_shifts_40 : decode cM_shifts 40 = .ok (.iload_n 1, 1) := by decide +kernel
theorem dM_shifts_41 : decode cM_shifts 41 = .ok (.iload 5, 2) := by decide +kernel
theorem dM_shifts_43 : decode cM_shifts 43 = .ok (.invokestatic 155, 3) := by decide +kernel
theorem dM_shifts_46 : decode cM_shifts 46 = .ok (.ifCond .eq 9, 3) := by decide +kernel
theorem dM_shifts_49 : decode cM_shifts 49 = .ok (.iload_n 2, 1) := by decide +kernel
theorem dM_shifts_50 : decode cM_shifts 50 = .ok (.iconst 1, 1) := by decide +kernel
theorem dM_shifts_51 : decode cM_shifts 51 = .ok (.iadd, 1) := by decide +kernel
theorem dM_shifts_52 : decode cM_shifts 52 = .ok (.goto 4, 3) := by decide +kernel
theorem dM_shifts_55 : decode cM_shifts 55 = .ok (.iload_n 2, 1) := by decide +kernel
theorem dM_shifts_56 : decode cM_shifts 56 = .ok (.istore_n 2, 1) := by decide +kernel
theorem dM_shifts_57 : decode cM_shifts 57 = .ok (.iinc 4 1, 3) := by decide +kernel
theorem dM_shifts_60 : decode cM_shifts 60 = .ok (.goto (-43), 3) := by decide +kernel
theorem dM_shifts_63 : decode cM_shifts 63 = .ok (.iinc 3 1, 3) := by decide +kernel
theorem dM_shifts_66 : decode cM_shifts 66 = .ok (.goto (-62), 3) := by decide +kernel
theorem dM_shifts_69 : decode cM_shifts 69 = .ok (.iload_n 2, 1) := by decide +kernel
theorem dM_shifts_70 : decode cM_shifts 70 = .ok (.ireturn, 1) := by decide +kernel
theorem dM_stays_0 : decode cM_stays 0 = .ok (.iconst 0, 1) := by decide +kernel
theorem dM_stays_1 : decode cM_stays 1 = .ok (.istore_n 3, 1) := by decide +kernel
theorem dM_stays_2 : decode cM_stays 2 = .ok (.iload_n 3, 1) := by decide +kernel
theorem dM_stays_3 : decode cM_stays 3 = .ok (.iconst 3, 1) := by decide +kernel
theorem dM_stays_4 : decode cM_stays 4 = .ok (.if_icmp .ge 42, 3) := by decide +kernel
theorem dM_stays_7 : decode cM_stays 7 = .ok (.iload_n 0, 1) := by decide +kernel
theorem dM_stays_8 : decode cM_stays 8 = .ok (.iconst 3, 1) := by decide +kernel
theorem dM_stays_9 : decode cM_stays 9 = .ok (.iload_n 2, 1) := by decide +kernel
theorem dM_stays_10 : decode cM_stays 10 = .ok (.imul, 1) := by decide +kernel
theorem dM_stays_11 : decode cM_stays 11 = .ok (.iload_n 3, 1) := by decide +kernel
theorem dM_stays_12 : decode cM_stays 12 = .ok (.iadd, 1) := by decide +kernel
theorem dM_stays_13 : decode cM_stays 13 = .ok (.invokestatic 147, 3) := by decide +kernel
theorem dM_stays_16 : decode cM_stays 16 = .ok (.ifCond .lt 30, 3) := by decide +kernel
theorem dM_stays_19 : decode cM_stays 19 = .ok (.iload_n 0, 1) := by decide +kernel
theorem dM_stays_20 : decode cM_stays 20 = .ok (.iconst 3, 1) := by decide +kernel
theorem dM_stays_21 : decode cM_stays 21 = .ok (.iload_n 2, 1) := by decide +kernel
theorem dM_stays_22 : decode cM_stays 22 = .ok (.imul, 1) := by decide +kernel
theorem dM_stays_23 : decode cM_stays 23 = .ok (.iload_n 3, 1) := by decide +kernel
theorem dM_stays_24 : decode cM_stays 24 = .ok (.iadd, 1) := by decide +kernel
theorem dM_stays_25 : decode cM_stays 25 = .ok (.invokestatic 147, 3) := by decide +kernel
theorem dM_stays_28 : decode cM_stays 28 = .ok (.iload_n 1, 1) := by decide +kernel
theorem dM_stays_29 : decode cM_stays 29 = .ok (.iconst 3, 1) := by decide +kernel
theorem dM_stays_30 : decode cM_stays 30 = .ok (.iload_n 2, 1) := by decide +kernel
theorem dM_stays_31 : decode cM_stays 31 = .ok (.imul, 1) := by decide +kernel
theorem dM_stays_32 : decode cM_stays 32 = .ok (.iload_n 3, 1) := by decide +kernel
theorem dM_stays_33 : decode cM_stays 33 = .ok (.iadd, 1) := by decide +kernel
theorem dM_stays_34 : decode cM_stays 34 = .ok (.invokestatic 147, 3) := by decide +kernel
theorem dM_stays_37 : decode cM_stays 37 = .ok (.if_icmp .ne 9, 3) := by decide +kernel
theorem dM_stays_40 : decode cM_stays 40 = .ok (.iinc 3 1, 3) := by decide +kernel
theorem dM_stays_43 : decode cM_stays 43 = .ok (.goto (-41), 3) := by decide +kernel
theorem dM_stays_46 : decode cM_stays 46 = .ok (.iload_n 3, 1) := by decide +kernel
theorem dM_stays_47 : decode cM_stays 47 = .ok (.ireturn, 1) := by decide +kernel
theorem dM_boxAt_0 : decode cM_boxAt 0 = .ok (.iload_n 0, 1) := by decide +kernel
theorem dM_boxAt_1 : decode cM_boxAt 1 = .ok (.iconst 3, 1) := by decide +kernel
theorem dM_boxAt_2 : decode cM_boxAt 2 = .ok (.iload_n 1, 1) := by decide +kernel
theorem dM_boxAt_3 : decode cM_boxAt 3 = .ok (.imul, 1) := by decide +kernel
theorem dM_boxAt_4 : decode cM_boxAt 4 = .ok (.ishr, 1) := by decide +kernel
theorem dM_boxAt_5 : decode cM_boxAt 5 = .ok (.bipush 7, 2) := by decide +kernel
theorem dM_boxAt_7 : decode cM_boxAt 7 = .ok (.iand, 1) := by decide +kernel
theorem dM_boxAt_8 : decode cM_boxAt 8 = .ok (.iconst 1, 1) := by decide +kernel
theorem dM_boxAt_9 : decode cM_boxAt 9 = .ok (.isub, 1) := by decide +kernel
theorem dM_boxAt_10 : decode cM_boxAt 10 = .ok (.ireturn, 1) := by decide +kernel
theorem dM_has_0 : decode cM_has 0 = .ok (.iconst 0, 1) := by decide +kernel
theorem dM_has_1 : decode cM_has 1 = .ok (.istore_n 2, 1) := by decide +kernel
theorem dM_has_2 : decode cM_has 2 = .ok (.iconst 0, 1) := by decide +kernel
theorem dM_has_3 : decode cM_has 3 = .ok (.istore_n 3, 1) := by decide +kernel
theorem dM_has_4 : decode cM_has 4 = .ok (.iload_n 3, 1) := by decide +kernel
theorem dM_has_5 : decode cM_has 5 = .ok (.bipush 9, 2) := by decide +kernel
theorem dM_has_7 : decode cM_has 7 = .ok (.if_icmp .ge 28, 3) := by decide +kernel
theorem dM_has_10 : decode cM_has 10 = .ok (.iload_n 2, 1) := by decide +kernel
theorem dM_has_11 : decode cM_has 11 = .ok (.ifCond .ne 12, 3) := by decide +kernel
theorem dM_has_14 : decode cM_has 14 = .ok (.iload_n 0, 1) := by decide +kernel
theorem dM_has_15 : decode cM_has 15 = .ok (.iload_n 3, 1) := by decide +kernel
theorem dM_has_16 : decode cM_has 16 = .ok (.invokestatic 147, 3) := by decide +kernel
theorem dM_has_19 : decode cM_has 19 = .ok (.iload_n 1, 1) := by decide +kernel
theorem dM_has_20 : decode cM_has 20 = .ok (.if_icmp .ne 7, 3) := by decide +kernel
theorem dM_has_23 : decode cM_has 23 = .ok (.iconst 1, 1) := by decide +kernel
theorem dM_has_24 : decode cM_has 24 = .ok (.goto 4, 3) := by decide +kernel
theorem dM_has_27 : decode cM_has 27 = .ok (.iconst 0, 1) := by decide +kernel
theorem dM_has_28 : decode cM_has 28 = .ok (.istore_n 2, 1) := by decide +kernel
theorem dM_has_29 : decode cM_has 29 = .ok (.iinc 3 1, 3) := by decide +kernel
theorem dM_has_32 : decode cM_has 32 = .ok (.goto (-28), 3) := by decide +kernel
theorem dM_has_35 : decode cM_has 35 = .ok (.iload_n 2, 1) := by decide +kernel
theorem dM_has_36 : decode cM_has 36 = .ok (.ireturn, 1) := by decide +kernel
theorem dM_choose_0 : decode cM_choose 0 = .ok (.sipush 2600, 3) := by decide +kernel
theorem dM_choose_3 : decode cM_choose 3 = .ok (.iload_n 1, 1) := by decide +kernel
theorem dM_choose_4 : decode cM_choose 4 = .ok (.imul, 1) := by decide +kernel
theorem dM_choose_5 : decode cM_choose 5 = .ok (.istore 4, 2) := by decide +kernel
theorem dM_choose_7 : decode cM_choose 7 = .ok (.aload_n 0, 1) := by decide +kernel
theorem dM_choose_8 : decode cM_choose 8 = .ok (.getfield 51, 3) := by decide +kernel
theorem dM_choose_11 : decode cM_choose 11 = .ok (.iload 4, 2) := by decide +kernel
theorem dM_choose_13 : decode cM_choose 13 = .ok (.iaload, 1) := by decide +kernel
theorem dM_choose_14 : decode cM_choose 14 = .ok (.ifCond .lt 26, 3) := by decide +kernel
theorem dM_choose_17 : decode cM_choose 17 = .ok (.aload_n 0, 1) := by decide +kernel
theorem dM_choose_18 : decode cM_choose 18 = .ok (.getfield 51, 3) := by decide +kernel
theorem dM_choose_21 : decode cM_choose 21 = .ok (.iload 4, 2) := by decide +kernel
theorem dM_choose_23 : decode cM_choose 23 = .ok (.iaload, 1) := by decide +kernel
theorem dM_choose_24 : decode cM_choose 24 = .ok (.iload_n 2, 1) := by decide +kernel
theorem dM_choose_25 : decode cM_choose 25 = .ok (.aload_n 0, 1) := by decide +kernel
theorem dM_choose_26 : decode cM_choose 26 = .ok (.getfield 48, 3) := by decide +kernel
theorem dM_choose_29 : decode cM_choose 29 = .ok (.iload 4, 2) := by decide +kernel
theorem dM_choose_31 : decode cM_choose 31 = .ok (.iaload, 1) := by decide +kernel
theorem dM_choose_32 : decode cM_choose 32 = .ok (.invokestatic 158, 3) := by decide +kernel
theorem dM_choose_35 : decode cM_choose 35 = .ok (.iadd, 1) := by decide +kernel
theorem dM_choose_36 : decode cM_choose 36 = .ok (.iload_n 3, 1) := by decide +kernel
theorem dM_choose_37 : decode cM_choose 37 = .ok (.if_icmp .eq 9, 3) := by decide +kernel
theorem dM_choose_40 : decode cM_choose 40 = .ok (.iinc 4 1, 3) := by decide +kernel
theorem dM_choose_43 : decode cM_choose 43 = .ok (.goto (-36), 3) := by decide +kernel
theorem dM_choose_46 : decode cM_choose 46 = .ok (.iload 4, 2) := by decide +kernel
theorem dM_choose_48 : decode cM_choose 48 = .ok (.ireturn, 1) := by decide +kernel
theorem dM_change_0 : decode cM_change 0 = .ok (.iconst 0, 1) := by decide +kernel
theorem dM_change_1 : decode cM_change 1 = .ok (.istore 4, 2) := by decide +kernel
theorem dM_change_3 : decode cM_change 3 = .ok (.iload 4, 2) := by decide +kernel
theorem dM_change_5 : decode cM_change 5 = .ok (.iconst 3, 1) := by decide +kernel
theorem dM_change_6 : decode cM_change 6 = .ok (.if_icmp .ge 63, 3) := by decide +kernel
theorem dM_change_9 : decode cM_change 9 = .ok (.iconst 2, 1) := by decide +kernel
theorem dM_change_10 : decode cM_change 10 = .ok (.istore 5, 2) := by decide +kernel
theorem dM_change_12 : decode cM_change 12 = .ok (.iload 5, 2) := by decide +kernel
theorem dM_change_14 : decode cM_change 14 = .ok (.iload_n 1, 1) := by decide +kernel
theorem dM_change_15 : decode cM_change 15 = .ok (.iload_n 2, 1) := by decide +kernel
theorem dM_change_16 : decode cM_change 16 = .ok (.iload 4, 2) := by decide +kernel
theorem dM_change_18 : decode cM_change 18 = .ok (.invokestatic 151, 3) := by decide +kernel
theorem dM_change_21 : decode cM_change 21 = .ok (.if_icmp .lt 42, 3) := by decide +kernel
theorem dM_change_24 : decode cM_change 24 = .ok (.iload_n 1, 1) := by decide +kernel
theorem dM_change_25 : decode cM_change 25 = .ok (.iconst 3, 1) := by decide +kernel
theorem dM_change_26 : decode cM_change 26 = .ok (.iload 4, 2) := by decide +kernel
theorem dM_change_28 : decode cM_change 28 = .ok (.imul, 1) := by decide +kernel
theorem dM_change_29 : decode cM_change 29 = .ok (.iload 5, 2) := by decide +kernel
theorem dM_change_31 : decode cM_change 31 = .ok (.iadd, 1) := by decide +kernel
theorem dM_change_32 : decode cM_change 32 = .ok (.invokestatic 147, 3) := by decide +kernel
theorem dM_change_35 : decode cM_change 35 = .ok (.ifCond .lt 22, 3) := by decide +kernel
theorem dM_change_38 : decode cM_change 38 = .ok (.aload_n 0, 1) := by decide +kernel
theorem dM_change_39 : decode cM_change 39 = .ok (.iload_n 1, 1) := by decide +kernel
theorem dM_change_40 : decode cM_change 40 = .ok (.iconst 3, 1) := by decide +kernel
theorem dM_change_41 : decode cM_change 41 = .ok (.iload 4, 2) := by decide +kernel
theorem dM_change_43 : decode cM_change 43 = .ok (.imul, 1) := by decide +kernel
theorem dM_change_44 : decode cM_change 44 = .ok (.iload 5, 2) := by decide +kernel
theorem dM_change_46 : decode cM_change 46 = .ok (.iadd, 1) := by decide +kernel
theorem dM_change_47 : decode cM_change 47 = .ok (.invokestatic 147, 3) := by decide +kernel
theorem dM_change_50 : decode cM_change 50 = .ok (.iload_n 3, 1) := by decide +kernel
theorem dM_change_51 : decode cM_change 51 = .ok (.iload 4, 2) := by decide +kernel
theorem dM_change_53 : decode cM_change 53 = .ok (.iconst (-1), 1) := by decide +kernel
theorem dM_change_54 : decode cM_change 54 = .ok (.invokevirtual 161, 3) := by decide +kernel
theorem dM_change_57 : decode cM_change 57 = .ok (.iinc 5 (-1), 3) := by decide +kernel
theorem dM_change_60 : decode cM_change 60 = .ok (.goto (-48), 3) := by decide +kernel
theorem dM_change_63 : decode cM_change 63 = .ok (.iinc 4 1, 3) := by decide +kernel
theorem dM_change_66 : decode cM_change 66 = .ok (.goto (-63), 3) := by decide +kernel
theorem dM_change_69 : decode cM_change 69 = .ok (.iconst 0, 1) := by decide +kernel
theorem dM_change_70 : decode cM_change 70 = .ok (.istore 4, 2) := by decide +kernel
theorem dM_change_72 : decode cM_change 72 = .ok (.iload 4, 2) := by decide +kernel
theorem dM_change_74 : decode cM_change 74 = .ok (.iconst 3, 1) := by decide +kernel
theorem dM_change_75 : decode cM_change 75 = .ok (.if_icmp .ge 63, 3) := by decide +kernel
theorem dM_change_78 : decode cM_change 78 = .ok (.iload_n 1, 1) := by decide +kernel
theorem dM_change_79 : decode cM_change 79 = .ok (.iload_n 2, 1) := by decide +kernel
theorem dM_change_80 : decode cM_change 80 = .ok (.iload 4, 2) := by decide +kernel
theorem dM_change_82 : decode cM_change 82 = .ok (.invokestatic 151, 3) := by decide +kernel
theorem dM_change_85 : decode cM_change 85 = .ok (.istore 5, 2) := by decide +kernel
theorem dM_change_87 : decode cM_change 87 = .ok (.iload 5, 2) := by decide +kernel
theorem dM_change_89 : decode cM_change 89 = .ok (.iconst 3, 1) := by decide +kernel
theorem dM_change_90 : decode cM_change 90 = .ok (.if_icmp .ge 42, 3) := by decide +kernel
theorem dM_change_93 : decode cM_change 93 = .ok (.iload_n 2, 1) := by decide +kernel
theorem dM_change_94 : decode cM_change 94 = .ok (.iconst 3, 1) := by decide +kernel
theorem dM_change_95 : decode cM_change 95 = .ok (.iload 4, 2) := by decide +kernel
theorem dM_change_97 : decode cM_change 97 = .ok (.imul, 1) := by decide +kernel
theorem dM_change_98 : decode cM_change 98 = .ok (.iload 5, 2) := by decide +kernel
theorem dM_change_100 : decode cM_change 100 = .ok (.iadd, 1) := by decide +kernel
theorem dM_change_101 : decode cM_change 101 = .ok (.invokestatic 147, 3) := by decide +kernel
theorem dM_change_104 : decode cM_change 104 = .ok (.ifCond .lt 22, 3) := by decide +kernel
theorem dM_change_107 : decode cM_change 107 = .ok (.aload_n 0, 1) := by decide +kernel
theorem dM_change_108 : decode cM_change 108 = .ok (.iload_n 2, 1) := by decide +kernel
theorem dM_change_109 : decode cM_change 109 = .ok (.iconst 3, 1) := by decide +kernel
theorem dM_change_110 : decode cM_change 110 = .ok (.iload 4, 2) := by decide +kernel
theorem dM_change_112 : decode cM_change 112 = .ok (.imul, 1) := by decide +kernel
theorem dM_change_113 : decode cM_change 113 = .ok (.iload 5, 2) := by decide +kernel
theorem dM_change_115 : decode cM_change 115 = .ok (.iadd, 1) := by decide +kernel
theorem dM_change_116 : decode cM_change 116 = .ok (.invokestatic 147, 3) := by decide +kernel
theorem dM_change_119 : decode cM_change 119 = .ok (.iload_n 3, 1) := by decide +kernel
theorem dM_change_120 : decode cM_change 120 = .ok (.iconst (-1), 1) := by decide +kernel
theorem dM_change_121 : decode cM_change 121 = .ok (.iload 4, 2) := by decide +kernel
theorem dM_change_123 : decode cM_change 123 = .ok (.invokevirtual 161, 3) := by decide +kernel
theorem dM_change_126 : decode cM_change 126 = .ok (.iinc 5 1, 3) := by decide +kernel
theorem dM_change_129 : decode cM_change 129 = .ok (.goto (-42), 3) := by decide +kernel
theorem dM_change_132 : decode cM_change 132 = .ok (.iinc 4 1, 3) := by decide +kernel
theorem dM_change_135 : decode cM_change 135 = .ok (.goto (-63), 3) := by decide +kernel
theorem dM_change_138 : decode cM_change 138 = .ok (.return_, 1) := by decide +kernel
theorem dM_add_0 : decode cM_add 0 = .ok (.aload_n 0, 1) := by decide +kernel
theorem dM_add_1 : decode cM_add 1 = .ok (.getfield 60, 3) := by decide +kernel
theorem dM_add_4 : decode cM_add 4 = .ok (.aload_n 0, 1) := by decide +kernel
theorem dM_add_5 : decode cM_add 5 = .ok (.getfield 89, 3) := by decide +kernel
theorem dM_add_8 : decode cM_add 8 = .ok (.iload_n 1, 1) := by decide +kernel
theorem dM_add_9 : decode cM_add 9 = .ok (.iastore, 1) := by decide +kernel
theorem dM_add_10 : decode cM_add 10 = .ok (.aload_n 0, 1) := by decide +kernel
theorem dM_add_11 : decode cM_add 11 = .ok (.getfield 63, 3) := by decide +kernel
theorem dM_add_14 : decode cM_add 14 = .ok (.aload_n 0, 1) := by decide +kernel
theorem dM_add_15 : decode cM_add 15 = .ok (.getfield 89, 3) := by decide +kernel
theorem dM_add_18 : decode cM_add 18 = .ok (.iload_n 2, 1) := by decide +kernel
theorem dM_add_19 : decode cM_add 19 = .ok (.iastore, 1) := by decide +kernel
theorem dM_add_20 : decode cM_add 20 = .ok (.aload_n 0, 1) := by decide +kernel
theorem dM_add_21 : decode cM_add 21 = .ok (.getfield 66, 3) := by decide +kernel
theorem dM_add_24 : decode cM_add 24 = .ok (.aload_n 0, 1) := by decide +kernel
theorem dM_add_25 : decode cM_add 25 = .ok (.getfield 89, 3) := by decide +kernel
theorem dM_add_28 : decode cM_add 28 = .ok (.iload_n 3, 1) := by decide +kernel
theorem dM_add_29 : decode cM_add 29 = .ok (.iastore, 1) := by decide +kernel
theorem dM_add_30 : decode cM_add 30 = .ok (.aload_n 0, 1) := by decide +kernel
theorem dM_add_31 : decode cM_add 31 = .ok (.getfield 69, 3) := by decide +kernel
theorem dM_add_34 : decode cM_add 34 = .ok (.aload_n 0, 1) := by decide +kernel
theorem dM_add_35 : decode cM_add 35 = .ok (.getfield 89, 3) := by decide +kernel
theorem dM_add_38 : decode cM_add 38 = .ok (.iload 4, 2) := by decide +kernel
theorem dM_add_40 : decode cM_add 40 = .ok (.iastore, 1) := by decide +kernel
theorem dM_add_41 : decode cM_add 41 = .ok (.aload_n 0, 1) := by decide +kernel
theorem dM_add_42 : decode cM_add 42 = .ok (.dup, 1) := by decide +kernel
theorem dM_add_43 : decode cM_add 43 = .ok (.getfield 89, 3) := by decide +kernel
theorem dM_add_46 : decode cM_add 46 = .ok (.iconst 1, 1) := by decide +kernel
theorem dM_add_47 : decode cM_add 47 = .ok (.iadd, 1) := by decide +kernel
theorem dM_add_48 : decode cM_add 48 = .ok (.putfield 89, 3) := by decide +kernel
theorem dM_add_51 : decode cM_add 51 = .ok (.return_, 1) := by decide +kernel
theorem dM_moves_0 : decode cM_moves 0 = .ok (.aload_n 0, 1) := by decide +kernel
theorem dM_moves_1 : decode cM_moves 1 = .ok (.iconst 0, 1) := by decide +kernel
theorem dM_moves_2 : decode cM_moves 2 = .ok (.putfield 82, 3) := by decide +kernel
theorem dM_moves_5 : decode cM_moves 5 = .ok (.aload_n 0, 1) := by decide +kernel
theorem dM_moves_6 : decode cM_moves 6 = .ok (.getfield 89, 3) := by decide +kernel
theorem dM_moves_9 : decode cM_moves 9 = .ok (.ireturn, 1) := by decide +kernel
theorem dM_move_0 : decode cM_move 0 = .ok (.iload_n 1, 1) := by decide +kernel
theorem dM_move_1 : decode cM_move 1 = .ok (.iconst 0, 1) := by decide +kernel
theorem dM_move_2 : decode cM_move 2 = .ok (.aload_n 0, 1) := by decide +kernel
theorem dM_move_3 : decode cM_move 3 = .ok (.getfield 89, 3) := by decide +kernel
theorem dM_move_6 : decode cM_move 6 = .ok (.iconst 1, 1) := by decide +kernel
theorem dM_move_7 : decode cM_move 7 = .ok (.isub, 1) := by decide +kernel
theorem dM_move_8 : decode cM_move 8 = .ok (.invokestatic 92, 3) := by decide +kernel
theorem dM_move_11 : decode cM_move 11 = .ok (.istore_n 3, 1) := by decide +kernel
theorem dM_move_12 : decode cM_move 12 = .ok (.aload_n 0, 1) := by decide +kernel
theorem dM_move_13 : decode cM_move 13 = .ok (.iload_n 3, 1) := by decide +kernel
theorem dM_move_14 : decode cM_move 14 = .ok (.ifCond .ne 7, 3) := by decide +kernel
theorem dM_move_17 : decode cM_move 17 = .ok (.iconst 1, 1) := by decide +kernel
theorem dM_move_18 : decode cM_move 18 = .ok (.goto 4, 3) := by decide +kernel
theorem dM_move_21 : decode cM_move 21 = .ok (.iconst 0, 1) := by decide +kernel
theorem dM_move_22 : decode cM_move 22 = .ok (.iload_n 3, 1) := by decide +kernel
theorem dM_move_23 : decode cM_move 23 = .ok (.ifCond .eq 16, 3) := by decide +kernel
theorem dM_move_26 : decode cM_move 26 = .ok (.iload_n 2, 1) := by decide +kernel
theorem dM_move_27 : decode cM_move 27 = .ok (.iconst 0, 1) := by decide +kernel
theorem dM_move_28 : decode cM_move 28 = .ok (.iconst 3, 1) := by decide +kernel
theorem dM_move_29 : decode cM_move 29 = .ok (.invokestatic 92, 3) := by decide +kernel
theorem dM_move_32 : decode cM_move 32 = .ok (.ifCond .ne 7, 3) := by decide +kernel
theorem dM_move_35 : decode cM_move 35 = .ok (.iconst 1, 1) := by decide +kernel
theorem dM_move_36 : decode cM_move 36 = .ok (.goto 4, 3) := by decide +kernel
theorem dM_move_39 : decode cM_move 39 = .ok (.iconst 0, 1) := by decide +kernel
theorem dM_move_40 : decode cM_move 40 = .ok (.invokevirtual 96, 3) := by decide +kernel
theorem dM_move_43 : decode cM_move 43 = .ok (.ifCond .eq 5, 3) := by decide +kernel
theorem dM_move_46 : decode cM_move 46 = .ok (.iconst 0, 1) := by decide +kernel
theorem dM_move_47 : decode cM_move 47 = .ok (.ireturn, 1) := by decide +kernel
theorem dM_move_48 : decode cM_move 48 = .ok (.iload_n 2, 1) := by decide +kernel
theorem dM_move_49 : decode cM_move 49 = .ok (.ifCond .ne 12, 3) := by decide +kernel
theorem dM_move_52 : decode cM_move 52 = .ok (.aload_n 0, 1) := by decide +kernel
theorem dM_move_53 : decode cM_move 53 = .ok (.getfield 60, 3) := by decide +kernel
theorem dM_move_56 : decode cM_move 56 = .ok (.iload_n 1, 1) := by decide +kernel
theorem dM_move_57 : decode cM_move 57 = .ok (.iaload, 1) := by decide +kernel
theorem dM_move_58 : decode cM_move 58 = .ok (.goto 37, 3) := by decide +kernel
theorem dM_move_61 : decode cM_move 61 = .ok (.iload_n 2, 1) := by decide +kernel
theorem dM_move_62 : decode cM_move 62 = .ok (.iconst 1, 1) := by decide +kernel
theorem dM_move_63 : decode cM_move 63 = .ok (.if_icmp .ne 12, 3) := by decide +kernel
theorem dM_move_66 : decode cM_move 66 = .ok (.aload_n 0, 1) := by decide +kernel
theorem dM_move_67 : decode cM_move 67 = .ok (.getfield 63, 3) := by decide +kernel
theorem dM_move_70 : decode cM_move 70 = .ok (.iload_n 1, 1) := by decide +kernel
theorem dM_move_71 : decode cM_move 71 = .ok (.iaload, 1) := by decide +kernel
theorem dM_move_72 : decode cM_move 72 = .ok (.goto 23, 3) := by decide +kernel
theorem dM_move_75 : decode cM_move 75 = .ok (.iload_n 2, 1) := by decide +kernel
theorem dM_move_76 : decode cM_move 76 = .ok (.iconst 2, 1) := by decide +kernel
theorem dM_move_77 : decode cM_move 77 = .ok (.if_icmp .ne 12, 3) := by decide +kernel
theorem dM_move_80 : decode cM_move 80 = .ok (.aload_n 0, 1) := by decide +kernel
theorem dM_move_81 : decode cM_move 81 = .ok (.getfield 66, 3) := by decide +kernel
theorem dM_move_84 : decode cM_move 84 = .ok (.iload_n 1, 1) := by decide +kernel
theorem dM_move_85 : decode cM_move 85 = .ok (.iaload, 1) := by decide +kernel
theorem dM_move_86 : decode cM_move 86 = .ok (.goto 9, 3) := by decide +kernel
theorem dM_move_89 : decode cM_move 89 = .ok (.aload_n 0, 1) := by decide +kernel
theorem dM_move_90 : decode cM_move 90 = .ok (.getfield 69, 3) := by decide +kernel
theorem dM_move_93 : decode cM_move 93 = .ok (.iload_n 1, 1) := by decide +kernel
theorem dM_move_94 : decode cM_move 94 = .ok (.iaload, 1) := by decide +kernel
theorem dM_move_95 : decode cM_move 95 = .ok (.ireturn, 1) := by decide +kernel
theorem dM_hand_0 : decode cM_hand 0 = .ok (.iload_n 1, 1) := by decide +kernel
theorem dM_hand_1 : decode cM_hand 1 = .ok (.iconst 0, 1) := by decide +kernel
theorem dM_hand_2 : decode cM_hand 2 = .ok (.aload_n 0, 1) := by decide +kernel
theorem dM_hand_3 : decode cM_hand 3 = .ok (.getfield 89, 3) := by decide +kernel
theorem dM_hand_6 : decode cM_hand 6 = .ok (.iconst 1, 1) := by decide +kernel
theorem dM_hand_7 : decode cM_hand 7 = .ok (.isub, 1) := by decide +kernel
theorem dM_hand_8 : decode cM_hand 8 = .ok (.invokestatic 92, 3) := by decide +kernel
theorem dM_hand_11 : decode cM_hand 11 = .ok (.istore_n 3, 1) := by decide +kernel
theorem dM_hand_12 : decode cM_hand 12 = .ok (.aload_n 0, 1) := by decide +kernel
theorem dM_hand_13 : decode cM_hand 13 = .ok (.iload_n 3, 1) := by decide +kernel
theorem dM_hand_14 : decode cM_hand 14 = .ok (.ifCond .ne 7, 3) := by decide +kernel
theorem dM_hand_17 : decode cM_hand 17 = .ok (.iconst 1, 1) := by decide +kernel
theorem dM_hand_18 : decode cM_hand 18 = .ok (.goto 4, 3) := by decide +kernel
theorem dM_hand_21 : decode cM_hand 21 = .ok (.iconst 0, 1) := by decide +kernel
theorem dM_hand_22 : decode cM_hand 22 = .ok (.iload_n 3, 1) := by decide +kernel
theorem dM_hand_23 : decode cM_hand 23 = .ok (.ifCond .eq 33, 3) := by decide +kernel
theorem dM_hand_26 : decode cM_hand 26 = .ok (.iload_n 2, 1) := by decide +kernel
theorem dM_hand_27 : decode cM_hand 27 = .ok (.iconst 0, 1) := by decide +kernel
theorem dM_hand_28 : decode cM_hand 28 = .ok (.iconst 2, 1) := by decide +kernel
theorem dM_hand_29 : decode cM_hand 29 = .ok (.invokestatic 92, 3) := by decide +kernel
theorem dM_hand_32 : decode cM_hand 32 = .ok (.ifCond .eq 20, 3) := by decide +kernel
theorem dM_hand_35 : decode cM_hand 35 = .ok (.aload_n 0, 1) := by decide +kernel
theorem dM_hand_36 : decode cM_hand 36 = .ok (.getfield 69, 3) := by decide +kernel
theorem dM_hand_39 : decode cM_hand 39 = .ok (.iload_n 3, 1) := by decide +kernel
theorem dM_hand_40 : decode cM_hand 40 = .ok (.ifCond .eq 7, 3) := by decide +kernel
theorem dM_hand_43 : decode cM_hand 43 = .ok (.iload_n 1, 1) := by decide +kernel
theorem dM_hand_44 : decode cM_hand 44 = .ok (.goto 4, 3) := by decide +kernel
theorem dM_hand_47 : decode cM_hand 47 = .ok (.iconst 0, 1) := by decide +kernel
theorem dM_hand_48 : decode cM_hand 48 = .ok (.iaload, 1) := by decide +kernel
theorem dM_hand_49 : decode cM_hand 49 = .ok (.ifCond .ge 7, 3) := by decide +kernel
theorem dM_hand_52 : decode cM_hand 52 = .ok (.iconst 1, 1) := by decide +kernel
theorem dM_hand_53 : decode cM_hand 53 = .ok (.goto 4, 3) := by decide +kernel
theorem dM_hand_56 : decode cM_hand 56 = .ok (.iconst 0, 1) := by decide +kernel
theorem dM_hand_57 : decode cM_hand 57 = .ok (.invokevirtual 96, 3) := by decide +kernel
theorem dM_hand_60 : decode cM_hand 60 = .ok (.ifCond .eq 4, 3) := by decide +kernel
theorem dM_hand_63 : decode cM_hand 63 = .ok (.return_, 1) := by decide +kernel
theorem dM_hand_64 : decode cM_hand 64 = .ok (.aload_n 0, 1) := by decide +kernel
theorem dM_hand_65 : decode cM_hand 65 = .ok (.getfield 69, 3) := by decide +kernel
theorem dM_hand_68 : decode cM_hand 68 = .ok (.iload_n 1, 1) := by decide +kernel
theorem dM_hand_69 : decode cM_hand 69 = .ok (.iload_n 2, 1) := by decide +kernel
theorem dM_hand_70 : decode cM_hand 70 = .ok (.iastore, 1) := by decide +kernel
theorem dM_hand_71 : decode cM_hand 71 = .ok (.return_, 1) := by decide +kernel
theorem dM_replay_0 : decode cM_replay 0 = .ok (.aload_n 0, 1) := by decide +kernel
theorem dM_replay_1 : decode cM_replay 1 = .ok (.iload_n 1, 1) := by decide +kernel
theorem dM_replay_2 : decode cM_replay 2 = .ok (.iconst 0, 1) := by decide +kernel
theorem dM_replay_3 : decode cM_replay 3 = .ok (.aload_n 0, 1) := by decide +kernel
theorem dM_replay_4 : decode cM_replay 4 = .ok (.getfield 89, 3) := by decide +kernel
theorem dM_replay_7 : decode cM_replay 7 = .ok (.invokestatic 92, 3) := by decide +kernel
theorem dM_replay_10 : decode cM_replay 10 = .ok (.ifCond .ne 7, 3) := by decide +kernel
theorem dM_replay_13 : decode cM_replay 13 = .ok (.iconst 1, 1) := by decide +kernel
theorem dM_replay_14 : decode cM_replay 14 = .ok (.goto 4, 3) := by decide +kernel
theorem dM_replay_17 : decode cM_replay 17 = .ok (.iconst 0, 1) := by decide +kernel
theorem dM_replay_18 : decode cM_replay 18 = .ok (.iconst 0, 1) := by decide +kernel
theorem dM_replay_19 : decode cM_replay 19 = .ok (.invokevirtual 96, 3) := by decide +kernel
theorem dM_replay_22 : decode cM_replay 22 = .ok (.ifCond .eq 5, 3) := by decide +kernel
theorem dM_replay_25 : decode cM_replay 25 = .ok (.iconst 0, 1) := by decide +kernel
theorem dM_replay_26 : decode cM_replay 26 = .ok (.ireturn, 1) := by decide +kernel
theorem dM_replay_27 : decode cM_replay 27 = .ok (.aload_n 0, 1) := by decide +kernel
theorem dM_replay_28 : decode cM_replay 28 = .ok (.getfield 72, 3) := by decide +kernel
theorem dM_replay_31 : decode cM_replay 31 = .ok (.invokestatic 78, 3) := by decide +kernel
theorem dM_replay_34 : decode cM_replay 34 = .ok (.iconst 0, 1) := by decide +kernel
theorem dM_replay_35 : decode cM_replay 35 = .ok (.istore_n 2, 1) := by decide +kernel
theorem dM_replay_36 : decode cM_replay 36 = .ok (.iload_n 2, 1) := by decide +kernel
theorem dM_replay_37 : decode cM_replay 37 = .ok (.iload_n 1, 1) := by decide +kernel
theorem dM_replay_38 : decode cM_replay 38 = .ok (.if_icmp .ge 21, 3) := by decide +kernel
theorem dM_replay_41 : decode cM_replay 41 = .ok (.aload_n 0, 1) := by decide +kernel
theorem dM_replay_42 : decode cM_replay 42 = .ok (.aload_n 0, 1) := by decide +kernel
theorem dM_replay_43 : decode cM_replay 43 = .ok (.getfield 72, 3) := by decide +kernel
theorem dM_replay_46 : decode cM_replay 46 = .ok (.iload_n 2, 1) := by decide +kernel
theorem dM_replay_47 : decode cM_replay 47 = .ok (.invokevirtual 182, 3) := by decide +kernel
theorem dM_replay_50 : decode cM_replay 50 = .ok (.ifCond .eq 9, 3) := by decide +kernel
theorem dM_replay_53 : decode cM_replay 53 = .ok (.iinc 2 1, 3) := by decide +kernel
theorem dM_replay_56 : decode cM_replay 56 = .ok (.goto (-20), 3) := by decide +kernel
theorem dM_replay_59 : decode cM_replay 59 = .ok (.iload_n 2, 1) := by decide +kernel
theorem dM_replay_60 : decode cM_replay 60 = .ok (.ireturn, 1) := by decide +kernel
theorem dM_act_0 : decode cM_act 0 = .ok (.aload_n 0, 1) := by decide +kernel
theorem dM_act_1 : decode cM_act 1 = .ok (.getfield 60, 3) := by decide +kernel
theorem dM_act_4 : decode cM_act 4 = .ok (.iload_n 2, 1) := by decide +kernel
theorem dM_act_5 : decode cM_act 5 = .ok (.iaload, 1) := by decide +kernel
theorem dM_act_6 : decode cM_act 6 = .ok (.istore_n 3, 1) := by decide +kernel
theorem dM_act_7 : decode cM_act 7 = .ok (.aload_n 0, 1) := by decide +kernel
theorem dM_act_8 : decode cM_act 8 = .ok (.getfield 66, 3) := by decide +kernel
theorem dM_act_11 : decode cM_act 11 = .ok (.iload_n 2, 1) := by decide +kernel
theorem dM_act_12 : decode cM_act 12 = .ok (.iaload, 1) := by decide +kernel
theorem dM_act_13 : decode cM_act 13 = .ok (.istore 4, 2) := by decide +kernel
theorem dM_act_15 : decode cM_act 15 = .ok (.iload 4, 2) := by decide +kernel
theorem dM_act_17 : decode cM_act 17 = .ok (.ifCond .lt 46, 3) := by decide +kernel
theorem dM_act_20 : decode cM_act 20 = .ok (.aload_n 0, 1) := by decide +kernel
theorem dM_act_21 : decode cM_act 21 = .ok (.aload_n 1, 1) := by decide +kernel
theorem dM_act_22 : decode cM_act 22 = .ok (.iload 4, 2) := by decide +kernel
theorem dM_act_24 : decode cM_act 24 = .ok (.invokevirtual 179, 3) := by decide +kernel
theorem dM_act_27 : decode cM_act 27 = .ok (.iconst 1, 1) := by decide +kernel
theorem dM_act_28 : decode cM_act 28 = .ok (.isub, 1) := by decide +kernel
theorem dM_act_29 : decode cM_act 29 = .ok (.istore 5, 2) := by decide +kernel
theorem dM_act_31 : decode cM_act 31 = .ok (.iload 5, 2) := by decide +kernel
theorem dM_act_33 : decode cM_act 33 = .ok (.ifCond .lt 16, 3) := by decide +kernel
theorem dM_act_36 : decode cM_act 36 = .ok (.aload_n 1, 1) := by decide +kernel
theorem dM_act_37 : decode cM_act 37 = .ok (.iconst 3, 1) := by decide +kernel
theorem dM_act_38 : decode cM_act 38 = .ok (.iload 4, 2) := by decide +kernel
theorem dM_act_40 : decode cM_act 40 = .ok (.imul, 1) := by decide +kernel
theorem dM_act_41 : decode cM_act 41 = .ok (.iload 5, 2) := by decide +kernel
theorem dM_act_43 : decode cM_act 43 = .ok (.iadd, 1) := by decide +kernel
theorem dM_act_44 : decode cM_act 44 = .ok (.iaload, 1) := by decide +kernel
theorem dM_act_45 : decode cM_act 45 = .ok (.iload_n 3, 1) := by decide +kernel
theorem dM_act_46 : decode cM_act 46 = .ok (.if_icmp .eq 5, 3) := by decide +kernel
theorem dM_act_49 : decode cM_act 49 = .ok (.iconst 0, 1) := by decide +kernel
theorem dM_act_50 : decode cM_act 50 = .ok (.ireturn, 1) := by decide +kernel
theorem dM_act_51 : decode cM_act 51 = .ok (.aload_n 1, 1) := by decide +kernel
theorem dM_act_52 : decode cM_act 52 = .ok (.iconst 3, 1) := by decide +kernel
theorem dM_act_53 : decode cM_act 53 = .ok (.iload 4, 2) := by decide +kernel
theorem dM_act_55 : decode cM_act 55 = .ok (.imul, 1) := by decide +kernel
theorem dM_act_56 : decode cM_act 56 = .ok (.iload 5, 2) := by decide +kernel
theorem dM_act_58 : decode cM_act 58 = .ok (.iadd, 1) := by decide +kernel
theorem dM_act_59 : decode cM_act 59 = .ok (.iconst (-1), 1) := by decide +kernel
theorem dM_act_60 : decode cM_act 60 = .ok (.iastore, 1) := by decide +kernel
theorem dM_act_61 : decode cM_act 61 = .ok (.iconst 1, 1) := by decide +kernel
theorem dM_act_62 : decode cM_act 62 = .ok (.ireturn, 1) := by decide +kernel
theorem dM_act_63 : decode cM_act 63 = .ok (.aload_n 0, 1) := by decide +kernel
theorem dM_act_64 : decode cM_act 64 = .ok (.getfield 69, 3) := by decide +kernel
theorem dM_act_67 : decode cM_act 67 = .ok (.iload_n 2, 1) := by decide +kernel
theorem dM_act_68 : decode cM_act 68 = .ok (.iaload, 1) := by decide +kernel
theorem dM_act_69 : decode cM_act 69 = .ok (.istore 5, 2) := by decide +kernel
theorem dM_act_71 : decode cM_act 71 = .ok (.aload_n 0, 1) := by decide +kernel
theorem dM_act_72 : decode cM_act 72 = .ok (.iload 5, 2) := by decide +kernel
theorem dM_act_74 : decode cM_act 74 = .ok (.invokevirtual 106, 3) := by decide +kernel
theorem dM_act_77 : decode cM_act 77 = .ok (.ifCond .eq 49, 3) := by decide +kernel
theorem dM_act_80 : decode cM_act 80 = .ok (.aload_n 0, 1) := by decide +kernel
theorem dM_act_81 : decode cM_act 81 = .ok (.aload_n 1, 1) := by decide +kernel
theorem dM_act_82 : decode cM_act 82 = .ok (.iload 5, 2) := by decide +kernel
theorem dM_act_84 : decode cM_act 84 = .ok (.invokevirtual 179, 3) := by decide +kernel
theorem dM_act_87 : decode cM_act 87 = .ok (.aload_n 0, 1) := by decide +kernel
theorem dM_act_88 : decode cM_act 88 = .ok (.getfield 13, 3) := by decide +kernel
theorem dM_act_91 : decode cM_act 91 = .ok (.if_icmp .eq 35, 3) := by decide +kernel
theorem dM_act_94 : decode cM_act 94 = .ok (.aload_n 0, 1) := by decide +kernel
theorem dM_act_95 : decode cM_act 95 = .ok (.aload_n 1, 1) := by decide +kernel
theorem dM_act_96 : decode cM_act 96 = .ok (.iload 5, 2) := by decide +kernel
theorem dM_act_98 : decode cM_act 98 = .ok (.invokevirtual 110, 3) := by decide +kernel
theorem dM_act_101 : decode cM_act 101 = .ok (.aload_n 0, 1) := by decide +kernel
theorem dM_act_102 : decode cM_act 102 = .ok (.getfield 39, 3) := by decide +kernel
theorem dM_act_105 : decode cM_act 105 = .ok (.iload_n 3, 1) := by decide +kernel
theorem dM_act_106 : decode cM_act 106 = .ok (.iaload, 1) := by decide +kernel
theorem dM_act_107 : decode cM_act 107 = .ok (.iadd, 1) := by decide +kernel
theorem dM_act_108 : decode cM_act 108 = .ok (.aload_n 0, 1) := by decide +kernel
theorem dM_act_109 : decode cM_act 109 = .ok (.getfield 19, 3) := by decide +kernel
theorem dM_act_112 : decode cM_act 112 = .ok (.if_icmp .gt 14, 3) := by decide +kernel
theorem dM_act_115 : decode cM_act 115 = .ok (.aload_n 0, 1) := by decide +kernel
theorem dM_act_116 : decode cM_act 116 = .ok (.aload_n 1, 1) := by decide +kernel
theorem dM_act_117 : decode cM_act 117 = .ok (.iload_n 3, 1) := by decide +kernel
theorem dM_act_118 : decode cM_act 118 = .ok (.bipush 9, 2) := by decide +kernel
theorem dM_act_120 : decode cM_act 120 = .ok (.invokevirtual 129, 3) := by decide +kernel
theorem dM_act_123 : decode cM_act 123 = .ok (.ifCond .eq 5, 3) := by decide +kernel
theorem dM_act_126 : decode cM_act 126 = .ok (.iconst 0, 1) := by decide +kernel
theorem dM_act_127 : decode cM_act 127 = .ok (.ireturn, 1) := by decide +kernel
theorem dM_act_128 : decode cM_act 128 = .ok (.aload_n 1, 1) := by decide +kernel
theorem dM_act_129 : decode cM_act 129 = .ok (.iconst 3, 1) := by decide +kernel
theorem dM_act_130 : decode cM_act 130 = .ok (.iload 5, 2) := by decide +kernel
theorem dM_act_132 : decode cM_act 132 = .ok (.imul, 1) := by decide +kernel
theorem dM_act_133 : decode cM_act 133 = .ok (.aload_n 0, 1) := by decide +kernel
theorem dM_act_134 : decode cM_act 134 = .ok (.aload_n 1, 1) := by decide +kernel
theorem dM_act_135 : decode cM_act 135 = .ok (.iload 5, 2) := by decide +kernel
theorem dM_act_137 : decode cM_act 137 = .ok (.invokevirtual 179, 3) := by decide +kernel
theorem dM_act_140 : decode cM_act 140 = .ok (.iadd, 1) := by decide +kernel
theorem dM_act_141 : decode cM_act 141 = .ok (.iload_n 3, 1) := by decide +kernel
theorem dM_act_142 : decode cM_act 142 = .ok (.iastore, 1) := by decide +kernel
theorem dM_act_143 : decode cM_act 143 = .ok (.iconst 1, 1) := by decide +kernel
theorem dM_act_144 : decode cM_act 144 = .ok (.ireturn, 1) := by decide +kernel
theorem dM_height_0 : decode cM_height 0 = .ok (.iconst 0, 1) := by decide +kernel
theorem dM_height_1 : decode cM_height 1 = .ok (.istore_n 3, 1) := by decide +kernel
theorem dM_height_2 : decode cM_height 2 = .ok (.iload_n 3, 1) := by decide +kernel
theorem dM_height_3 : decode cM_height 3 = .ok (.iconst 3, 1) := by decide +kernel
theorem dM_height_4 : decode cM_height 4 = .ok (.if_icmp .ge 19, 3) := by decide +kernel
theorem dM_height_7 : decode cM_height 7 = .ok (.aload_n 1, 1) := by decide +kernel
theorem dM_height_8 : decode cM_height 8 = .ok (.iconst 3, 1) := by decide +kernel
theorem dM_height_9 : decode cM_height 9 = .ok (.iload_n 2, 1) := by decide +kernel
theorem dM_height_10 : decode cM_height 10 = .ok (.imul, 1) := by decide +kernel
theorem dM_height_11 : decode cM_height 11 = .ok (.iload_n 3, 1) := by decide +kernel
theorem dM_height_12 : decode cM_height 12 = .ok (.iadd, 1) := by decide +kernel
theorem dM_height_13 : decode cM_height 13 = .ok (.iaload, 1) := by decide +kernel
theorem dM_height_14 : decode cM_height 14 = .ok (.ifCond .lt 9, 3) := by decide +kernel
theorem dM_height_17 : decode cM_height 17 = .ok (.iinc 3 1, 3) := by decide +kernel
theorem dM_height_20 : decode cM_height 20 = .ok (.goto (-18), 3) := by decide +kernel
theorem dM_height_23 : decode cM_height 23 = .ok (.iload_n 3, 1) := by decide +kernel
theorem dM_height_24 : decode cM_height 24 = .ok (.ireturn, 1) := by decide +kernel
theorem dM_slot_0 : decode cM_slot 0 = .ok (.aload_n 0, 1) := by decide +kernel
theorem dM_slot_1 : decode cM_slot 1 = .ok (.aload_n 0, 1) := by decide +kernel
theorem dM_slot_2 : decode cM_slot 2 = .ok (.iload_n 1, 1) := by decide +kernel
theorem dM_slot_3 : decode cM_slot 3 = .ok (.invokevirtual 106, 3) := by decide +kernel
theorem dM_slot_6 : decode cM_slot 6 = .ok (.ifCond .eq 17, 3) := by decide +kernel
theorem dM_slot_9 : decode cM_slot 9 = .ok (.iload_n 2, 1) := by decide +kernel
theorem dM_slot_10 : decode cM_slot 10 = .ok (.iconst 0, 1) := by decide +kernel
theorem dM_slot_11 : decode cM_slot 11 = .ok (.aload_n 0, 1) := by decide +kernel
theorem dM_slot_12 : decode cM_slot 12 = .ok (.getfield 13, 3) := by decide +kernel
theorem dM_slot_15 : decode cM_slot 15 = .ok (.iconst 1, 1) := by decide +kernel
theorem dM_slot_16 : decode cM_slot 16 = .ok (.isub, 1) := by decide +kernel
theorem dM_slot_17 : decode cM_slot 17 = .ok (.invokestatic 92, 3) := by decide +kernel
theorem dM_slot_20 : decode cM_slot 20 = .ok (.ifCond .ne 7, 3) := by decide +kernel
theorem dM_slot_23 : decode cM_slot 23 = .ok (.iconst 1, 1) := by decide +kernel
theorem dM_slot_24 : decode cM_slot 24 = .ok (.goto 4, 3) := by decide +kernel
theorem dM_slot_27 : decode cM_slot 27 = .ok (.iconst 0, 1) := by decide +kernel
theorem dM_slot_28 : decode cM_slot 28 = .ok (.iconst 0, 1) := by decide +kernel
theorem dM_slot_29 : decode cM_slot 29 = .ok (.invokevirtual 96, 3) := by decide +kernel
theorem dM_slot_32 : decode cM_slot 32 = .ok (.ifCond .eq 5, 3) := by decide +kernel
theorem dM_slot_35 : decode cM_slot 35 = .ok (.iconst 0, 1) := by decide +kernel
theorem dM_slot_36 : decode cM_slot 36 = .ok (.ireturn, 1) := by decide +kernel
theorem dM_slot_37 : decode cM_slot 37 = .ok (.aload_n 0, 1) := by decide +kernel
theorem dM_slot_38 : decode cM_slot 38 = .ok (.getfield 72, 3) := by decide +kernel
theorem dM_slot_41 : decode cM_slot 41 = .ok (.iconst 3, 1) := by decide +kernel
theorem dM_slot_42 : decode cM_slot 42 = .ok (.iload_n 1, 1) := by decide +kernel
theorem dM_slot_43 : decode cM_slot 43 = .ok (.imul, 1) := by decide +kernel
theorem dM_slot_44 : decode cM_slot 44 = .ok (.iload_n 2, 1) := by decide +kernel
theorem dM_slot_45 : decode cM_slot 45 = .ok (.iadd, 1) := by decide +kernel
theorem dM_slot_46 : decode cM_slot 46 = .ok (.iaload, 1) := by decide +kernel
theorem dM_slot_47 : decode cM_slot 47 = .ok (.ireturn, 1) := by decide +kernel
theorem dM_moment_0 : decode cM_moment 0 = .ok (.aload_n 0, 1) := by decide +kernel
theorem dM_moment_1 : decode cM_moment 1 = .ok (.iload_n 1, 1) := by decide +kernel
theorem dM_moment_2 : decode cM_moment 2 = .ok (.iconst 0, 1) := by decide +kernel
theorem dM_moment_3 : decode cM_moment 3 = .ok (.iconst 5, 1) := by decide +kernel
theorem dM_moment_4 : decode cM_moment 4 = .ok (.invokestatic 92, 3) := by decide +kernel
theorem dM_moment_7 : decode cM_moment 7 = .ok (.ifCond .ne 7, 3) := by decide +kernel
theorem dM_moment_10 : decode cM_moment 10 = .ok (.iconst 1, 1) := by decide +kernel
theorem dM_moment_11 : decode cM_moment 11 = .ok (.goto 4, 3) := by decide +kernel
theorem dM_moment_14 : decode cM_moment 14 = .ok (.iconst 0, 1) := by decide +kernel
theorem dM_moment_15 : decode cM_moment 15 = .ok (.iconst 0, 1) := by decide +kernel
theorem dM_moment_16 : decode cM_moment 16 = .ok (.invokevirtual 96, 3) := by decide +kernel
theorem dM_moment_19 : decode cM_moment 19 = .ok (.ifCond .eq 5, 3) := by decide +kernel
theorem dM_moment_22 : decode cM_moment 22 = .ok (.iconst 0, 1) := by decide +kernel
theorem dM_moment_23 : decode cM_moment 23 = .ok (.ireturn, 1) := by decide +kernel
theorem dM_moment_24 : decode cM_moment 24 = .ok (.iload_n 1, 1) := by decide +kernel
theorem dM_moment_25 : decode cM_moment 25 = .ok (.iconst 5, 1) := by decide +kernel
theorem dM_moment_26 : decode cM_moment 26 = .ok (.if_icmp .ne 20, 3) := by decide +kernel
theorem dM_moment_29 : decode cM_moment 29 = .ok (.aload_n 0, 1) := by decide +kernel
theorem dM_moment_30 : decode cM_moment 30 = .ok (.aload_n 0, 1) := by decide +kernel
theorem dM_moment_31 : decode cM_moment 31 = .ok (.getfield 72, 3) := by decide +kernel
theorem dM_moment_34 : decode cM_moment 34 = .ok (.invokevirtual 139, 3) := by decide +kernel
theorem dM_moment_37 : decode cM_moment 37 = .ok (.ifCond .eq 7, 3) := by decide +kernel
theorem dM_moment_40 : decode cM_moment 40 = .ok (.iconst 1, 1) := by decide +kernel
theorem dM_moment_41 : decode cM_moment 41 = .ok (.goto 4, 3) := by decide +kernel
theorem dM_moment_44 : decode cM_moment 44 = .ok (.iconst 0, 1) := by decide +kernel
theorem dM_moment_45 : decode cM_moment 45 = .ok (.ireturn, 1) := by decide +kernel
theorem dM_moment_46 : decode cM_moment 46 = .ok (.iload_n 1, 1) := by decide +kernel
theorem dM_moment_47 : decode cM_moment 47 = .ok (.ifCond .ne 14, 3) := by decide +kernel
theorem dM_moment_50 : decode cM_moment 50 = .ok (.aload_n 0, 1) := by decide +kernel
theorem dM_moment_51 : decode cM_moment 51 = .ok (.aload_n 0, 1) := by decide +kernel
theorem dM_moment_52 : decode cM_moment 52 = .ok (.getfield 72, 3) := by decide +kernel
theorem dM_moment_55 : decode cM_moment 55 = .ok (.invokevirtual 118, 3) := by decide +kernel
theorem dM_moment_58 : decode cM_moment 58 = .ok (.goto 30, 3) := by decide +kernel
theorem dM_moment_61 : decode cM_moment 61 = .ok (.iload_n 1, 1) := by decide +kernel
theorem dM_moment_62 : decode cM_moment 62 = .ok (.iconst 1, 1) := by decide +kernel
theorem dM_moment_63 : decode cM_moment 63 = .ok (.if_icmp .ne 14, 3) := by decide +kernel
theorem dM_moment_66 : decode cM_moment 66 = .ok (.aload_n 0, 1) := by decide +kernel
theorem dM_moment_67 : decode cM_moment 67 = .ok (.aload_n 0, 1) := by decide +kernel
theorem dM_moment_68 : decode cM_moment 68 = .ok (.getfield 72, 3) := by decide +kernel
theorem dM_moment_71 : decode cM_moment 71 = .ok (.invokevirtual 114, 3) := by decide +kernel
theorem dM_moment_74 : decode cM_moment 74 = .ok (.goto 14, 3) := by decide +kernel
theorem dM_moment_77 : decode cM_moment 77 = .ok (.aload_n 0, 1) := by decide +kernel
theorem dM_moment_78 : decode cM_moment 78 = .ok (.aload_n 0, 1) := by decide +kernel
theorem dM_moment_79 : decode cM_moment 79 = .ok (.getfield 72, 3) := by decide +kernel
theorem dM_moment_82 : decode cM_moment 82 = .ok (.iload_n 1, 1) := by decide +kernel
theorem dM_moment_83 : decode cM_moment 83 = .ok (.iconst 2, 1) := by decide +kernel
theorem dM_moment_84 : decode cM_moment 84 = .ok (.isub, 1) := by decide +kernel
theorem dM_moment_85 : decode cM_moment 85 = .ok (.invokevirtual 110, 3) := by decide +kernel
theorem dM_moment_88 : decode cM_moment 88 = .ok (.ireturn, 1) := by decide +kernel
theorem dM_verify_0 : decode cM_verify 0 = .ok (.aload_n 0, 1) := by decide +kernel
theorem dM_verify_1 : decode cM_verify 1 = .ok (.aload_n 0, 1) := by decide +kernel
theorem dM_verify_2 : decode cM_verify 2 = .ok (.getfield 85, 3) := by decide +kernel
theorem dM_verify_5 : decode cM_verify 5 = .ok (.ifCond .ne 7, 3) := by decide +kernel
theorem dM_verify_8 : decode cM_verify 8 = .ok (.iconst 1, 1) := by decide +kernel
theorem dM_verify_9 : decode cM_verify 9 = .ok (.goto 4, 3) := by decide +kernel
theorem dM_verify_12 : decode cM_verify 12 = .ok (.iconst 0, 1) := by decide +kernel
theorem dM_verify_13 : decode cM_verify 13 = .ok (.iconst 0, 1) := by decide +kernel
theorem dM_verify_14 : decode cM_verify 14 = .ok (.invokevirtual 96, 3) := by decide +kernel
theorem dM_verify_17 : decode cM_verify 17 = .ok (.ifCond .eq 5, 3) := by decide +kernel
theorem dM_verify_20 : decode cM_verify 20 = .ok (.iconst 0, 1) := by decide +kernel
theorem dM_verify_21 : decode cM_verify 21 = .ok (.ireturn, 1) := by decide +kernel
theorem dM_verify_22 : decode cM_verify 22 = .ok (.aload_n 0, 1) := by decide +kernel
theorem dM_verify_23 : decode cM_verify 23 = .ok (.getfield 75, 3) := by decide +kernel
theorem dM_verify_26 : decode cM_verify 26 = .ok (.invokestatic 78, 3) := by decide +kernel
theorem dM_verify_29 : decode cM_verify 29 = .ok (.iconst 0, 1) := by decide +kernel
theorem dM_verify_30 : decode cM_verify 30 = .ok (.istore_n 1, 1) := by decide +kernel
theorem dM_verify_31 : decode cM_verify 31 = .ok (.iconst 0, 1) := by decide +kernel
theorem dM_verify_32 : decode cM_verify 32 = .ok (.istore_n 2, 1) := by decide +kernel
theorem dM_verify_33 : decode cM_verify 33 = .ok (.iload_n 2, 1) := by decide +kernel
theorem dM_verify_34 : decode cM_verify 34 = .ok (.aload_n 0, 1) := by decide +kernel
theorem dM_verify_35 : decode cM_verify 35 = .ok (.getfield 16, 3) := by decide +kernel
theorem dM_verify_38 : decode cM_verify 38 = .ok (.if_icmp .ge 93, 3) := by decide +kernel
theorem dM_verify_41 : decode cM_verify 41 = .ok (.iload_n 1, 1) := by decide +kernel
theorem dM_verify_42 : decode cM_verify 42 = .ok (.aload_n 0, 1) := by decide +kernel
theorem dM_verify_43 : decode cM_verify 43 = .ok (.getfield 89, 3) := by decide +kernel
theorem dM_verify_46 : decode cM_verify 46 = .ok (.if_icmp .ge 35, 3) := by decide +kernel
theorem dM_verify_49 : decode cM_verify 49 = .ok (.aload_n 0, 1) := by decide +kernel
theorem dM_verify_50 : decode cM_verify 50 = .ok (.getfield 63, 3) := by decide +kernel
theorem dM_verify_53 : decode cM_verify 53 = .ok (.iload_n 1, 1) := by decide +kernel
theorem dM_verify_54 : decode cM_verify 54 = .ok (.iaload, 1) := by decide +kernel
theorem dM_verify_55 : decode cM_verify 55 = .ok (.iload_n 2, 1) := by decide +kernel
theorem dM_verify_56 : decode cM_verify 56 = .ok (.if_icmp .ne 25, 3) := by decide +kernel
theorem dM_verify_59 : decode cM_verify 59 = .ok (.aload_n 0, 1) := by decide +kernel
theorem dM_verify_60 : decode cM_verify 60 = .ok (.aload_n 0, 1) := by decide +kernel
theorem dM_verify_61 : decode cM_verify 61 = .ok (.getfield 75, 3) := by decide +kernel
theorem dM_verify_64 : decode cM_verify 64 = .ok (.iload_n 1, 1) := by decide +kernel
theorem dM_verify_65 : decode cM_verify 65 = .ok (.invokevirtual 182, 3) := by decide +kernel
theorem dM_verify_68 : decode cM_verify 68 = .ok (.ifCond .ne 7, 3) := by decide +kernel
theorem dM_verify_71 : decode cM_verify 71 = .ok (.iload_n 1, 1) := by decide +kernel
theorem dM_verify_72 : decode cM_verify 72 = .ok (.iconst 1, 1) := by decide +kernel
theorem dM_verify_73 : decode cM_verify 73 = .ok (.iadd, 1) := by decide +kernel
theorem dM_verify_74 : decode cM_verify 74 = .ok (.ireturn, 1) := by decide +kernel
theorem dM_verify_75 : decode cM_verify 75 = .ok (.iinc 1 1, 3) := by decide +kernel
theorem dM_verify_78 : decode cM_verify 78 = .ok (.goto (-37), 3) := by decide +kernel
theorem dM_verify_81 : decode cM_verify 81 = .ok (.iload_n 2, 1) := by decide +kernel
theorem dM_verify_82 : decode cM_verify 82 = .ok (.aload_n 0, 1) := by decide +kernel
theorem dM_verify_83 : decode cM_verify 83 = .ok (.getfield 16, 3) := by decide +kernel
theorem dM_verify_86 : decode cM_verify 86 = .ok (.iconst 1, 1) := by decide +kernel
theorem dM_verify_87 : decode cM_verify 87 = .ok (.isub, 1) := by decide +kernel
theorem dM_verify_88 : decode cM_verify 88 = .ok (.if_icmp .ge 37, 3) := by decide +kernel
theorem dM_verify_91 : decode cM_verify 91 = .ok (.aload_n 0, 1) := by decide +kernel
theorem dM_verify_92 : decode cM_verify 92 = .ok (.aload_n 0, 1) := by decide +kernel
theorem dM_verify_93 : decode cM_verify 93 = .ok (.getfield 75, 3) := by decide +kernel
theorem dM_verify_96 : decode cM_verify 96 = .ok (.invokevirtual 139, 3) := by decide +kernel
theorem dM_verify_99 : decode cM_verify 99 = .ok (.ifCond .eq 15, 3) := by decide +kernel
theorem dM_verify_102 : decode cM_verify 102 = .ok (.aload_n 0, 1) := by decide +kernel
theorem dM_verify_103 : decode cM_verify 103 = .ok (.aload_n 0, 1) := by decide +kernel
theorem dM_verify_104 : decode cM_verify 104 = .ok (.getfield 75, 3) := by decide +kernel
theorem dM_verify_107 : decode cM_verify 107 = .ok (.iload_n 2, 1) := by decide +kernel
theorem dM_verify_108 : decode cM_verify 108 = .ok (.invokevirtual 135, 3) := by decide +kernel
theorem dM_verify_111 : decode cM_verify 111 = .ok (.ifCond .ne 14, 3) := by decide +kernel
theorem dM_verify_114 : decode cM_verify 114 = .ok (.iload_n 1, 1) := by decide +kernel
theorem dM_verify_115 : decode cM_verify 115 = .ok (.iconst 1, 1) := by decide +kernel
theorem dM_verify_116 : decode cM_verify 116 = .ok (.if_icmp .ge 7, 3) := by decide +kernel
theorem dM_verify_119 : decode cM_verify 119 = .ok (.iconst 1, 1) := by decide +kernel
theorem dM_verify_120 : decode cM_verify 120 = .ok (.goto 4, 3) := by decide +kernel
theorem dM_verify_123 : decode cM_verify 123 = .ok (.iload_n 1, 1) := by decide +kernel
theorem dM_verify_124 : decode cM_verify 124 = .ok (.ireturn, 1) := by decide +kernel
theorem dM_verify_125 : decode cM_verify 125 = .ok (.iinc 2 1, 3) := by decide +kernel
theorem dM_verify_128 : decode cM_verify 128 = .ok (.goto (-95), 3) := by decide +kernel
theorem dM_verify_131 : decode cM_verify 131 = .ok (.iconst 0, 1) := by decide +kernel
theorem dM_verify_132 : decode cM_verify 132 = .ok (.istore_n 2, 1) := by decide +kernel
theorem dM_verify_133 : decode cM_verify 133 = .ok (.iload_n 2, 1) := by decide +kernel
theorem dM_verify_134 : decode cM_verify 134 = .ok (.bipush 9, 2) := by decide +kernel
theorem dM_verify_136 : decode cM_verify 136 = .ok (.if_icmp .ge 25, 3) := by decide +kernel
theorem dM_verify_139 : decode cM_verify 139 = .ok (.aload_n 0, 1) := by decide +kernel
theorem dM_verify_140 : decode cM_verify 140 = .ok (.getfield 75, 3) := by decide +kernel
theorem dM_verify_143 : decode cM_verify 143 = .ok (.iload_n 2, 1) := by decide +kernel
theorem dM_verify_144 : decode cM_verify 144 = .ok (.iaload, 1) := by decide +kernel
theorem dM_verify_145 : decode cM_verify 145 = .ok (.ifCond .lt 10, 3) := by decide +kernel
theorem dM_verify_148 : decode cM_verify 148 = .ok (.aload_n 0, 1) := by decide +kernel
theorem dM_verify_149 : decode cM_verify 149 = .ok (.getfield 89, 3) := by decide +kernel
theorem dM_verify_152 : decode cM_verify 152 = .ok (.iconst 1, 1) := by decide +kernel
theorem dM_verify_153 : decode cM_verify 153 = .ok (.iadd, 1) := by decide +kernel
theorem dM_verify_154 : decode cM_verify 154 = .ok (.ireturn, 1) := by decide +kernel
theorem dM_verify_155 : decode cM_verify 155 = .ok (.iinc 2 1, 3) := by decide +kernel
theorem dM_verify_158 : decode cM_verify 158 = .ok (.goto (-25), 3) := by decide +kernel
theorem dM_verify_161 : decode cM_verify 161 = .ok (.iconst 0, 1) := by decide +kernel
theorem dM_verify_162 : decode cM_verify 162 = .ok (.ireturn, 1) := by decide +kernel
theorem dM_report_0 : decode cM_report 0 = .ok (.aload_n 0, 1) := by decide +kernel
theorem dM_report_1 : decode cM_report 1 = .ok (.iload_n 1, 1) := by decide +kernel
theorem dM_report_2 : decode cM_report 2 = .ok (.iconst 0, 1) := by decide +kernel
theorem dM_report_3 : decode cM_report 3 = .ok (.aload_n 0, 1) := by decide +kernel
theorem dM_report_4 : decode cM_report 4 = .ok (.getfield 16, 3) := by decide +kernel
theorem dM_report_7 : decode cM_report 7 = .ok (.iconst 1, 1) := by decide +kernel
theorem dM_report_8 : decode cM_report 8 = .ok (.isub, 1) := by decide +kernel
theorem dM_report_9 : decode cM_report 9 = .ok (.invokestatic 92, 3) := by decide +kernel
theorem dM_report_12 : decode cM_report 12 = .ok (.ifCond .eq 12, 3) := by decide +kernel
theorem dM_report_15 : decode cM_report 15 = .ok (.iload_n 2, 1) := by decide +kernel
theorem dM_report_16 : decode cM_report 16 = .ok (.iconst 0, 1) := by decide +kernel
theorem dM_report_17 : decode cM_report 17 = .ok (.iconst 2, 1) := by decide +kernel
theorem dM_report_18 : decode cM_report 18 = .ok (.invokestatic 92, 3) := by decide +kernel
theorem dM_report_21 : decode cM_report 21 = .ok (.ifCond .ne 7, 3) := by decide +kernel
theorem dM_report_24 : decode cM_report 24 = .ok (.iconst 1, 1) := by decide +kernel
theorem dM_report_25 : decode cM_report 25 = .ok (.goto 4, 3) := by decide +kernel
theorem dM_report_28 : decode cM_report 28 = .ok (.iconst 0, 1) := by decide +kernel
theorem dM_report_29 : decode cM_report 29 = .ok (.iconst 0, 1) := by decide +kernel
theorem dM_report_30 : decode cM_report 30 = .ok (.invokevirtual 96, 3) := by decide +kernel
theorem dM_report_33 : decode cM_report 33 = .ok (.ifCond .eq 5, 3) := by decide +kernel
theorem dM_report_36 : decode cM_report 36 = .ok (.iconst 0, 1) := by decide +kernel
theorem dM_report_37 : decode cM_report 37 = .ok (.ireturn, 1) := by decide +kernel
theorem dM_report_38 : decode cM_report 38 = .ok (.iconst 0, 1) := by decide +kernel
theorem dM_report_39 : decode cM_report 39 = .ok (.istore_n 3, 1) := by decide +kernel
theorem dM_report_40 : decode cM_report 40 = .ok (.iconst 0, 1) := by decide +kernel
theorem dM_report_41 : decode cM_report 41 = .ok (.istore 4, 2) := by decide +kernel
theorem dM_report_43 : decode cM_report 43 = .ok (.iload 4, 2) := by decide +kernel
theorem dM_report_45 : decode cM_report 45 = .ok (.aload_n 0, 1) := by decide +kernel
theorem dM_report_46 : decode cM_report 46 = .ok (.getfield 89, 3) := by decide +kernel
theorem dM_report_49 : decode cM_report 49 = .ok (.if_icmp .ge 146, 3) := by decide +kernel
theorem dM_report_52 : decode cM_report 52 = .ok (.aload_n 0, 1) := by decide +kernel
theorem dM_report_53 : decode cM_report 53 = .ok (.getfield 69, 3) := by decide +kernel
theorem dM_report_56 : decode cM_report 56 = .ok (.iload 4, 2) := by decide +kernel
theorem dM_report_58 : decode cM_report 58 = .ok (.iaload, 1) := by decide +kernel
theorem dM_report_59 : decode cM_report 59 = .ok (.ifCond .lt 7, 3) := by decide +kernel
theorem dM_report_62 : decode cM_report 62 = .ok (.iconst 1, 1) := by decide +kernel
theorem dM_report_63 : decode cM_report 63 = .ok (.goto 4, 3) := by decide +kernel
theorem dM_report_66 : decode cM_report 66 = .ok (.iconst 0, 1) := by decide +kernel
theorem dM_report_67 : decode cM_report 67 = .ok (.istore 5, 2) := by decide +kernel
theorem dM_report_69 : decode cM_report 69 = .ok (.aload_n 0, 1) := by decide +kernel
theorem dM_report_70 : decode cM_report 70 = .ok (.getfield 32, 3) := by decide +kernel
theorem dM_report_73 : decode cM_report 73 = .ok (.aload_n 0, 1) := by decide +kernel
theorem dM_report_74 : decode cM_report 74 = .ok (.getfield 60, 3) := by decide +kernel
theorem dM_report_77 : decode cM_report 77 = .ok (.iload 4, 2) := by decide +kernel
theorem dM_report_79 : decode cM_report 79 = .ok (.iaload, 1) := by decide +kernel
theorem dM_report_80 : decode cM_report 80 = .ok (.iaload, 1) := by decide +kernel
theorem dM_report_81 : decode cM_report 81 = .ok (.iload_n 1, 1) := by decide +kernel
theorem dM_report_82 : decode cM_report 82 = .ok (.if_icmp .ne 7, 3) := by decide +kernel
theorem dM_report_85 : decode cM_report 85 = .ok (.iconst 1, 1) := by decide +kernel
theorem dM_report_86 : decode cM_report 86 = .ok (.goto 4, 3) := by decide +kernel
theorem dM_report_89 : decode cM_report 89 = .ok (.iconst 0, 1) := by decide +kernel
theorem dM_report_90 : decode cM_report 90 = .ok (.istore 6, 2) := by decide +kernel
theorem dM_report_92 : decode cM_report 92 = .ok (.iload_n 2, 1) := by decide +kernel
theorem dM_report_93 : decode cM_report 93 = .ok (.ifCond .ne 21, 3) := by decide +kernel
theorem dM_report_96 : decode cM_report 96 = .ok (.iload 5, 2) := by decide +kernel
theorem dM_report_98 : decode cM_report 98 = .ok (.ifCond .eq 12, 3) := by decide +kernel
theorem dM_report_101 : decode cM_report 101 = .ok (.iload 6, 2) := by decide +kernel
theorem dM_report_103 : decode cM_report 103 = .ok (.ifCond .eq 7, 3) := by decide +kernel
theorem dM_report_106 : decode cM_report 106 = .ok (.iconst 1, 1) := by decide +kernel
theorem dM_report_107 : decode cM_report 107 = .ok (.goto 56, 3) := by decide +kernel
theorem dM_report_110 : decode cM_report 110 = .ok (.iconst 0, 1) := by decide +kernel
theorem dM_report_111 : decode cM_report 111 = .ok (.goto 52, 3) := by decide +kernel
theorem dM_report_114 : decode cM_report 114 = .ok (.iload_n 2, 1) := by decide +kernel
theorem dM_report_115 : decode cM_report 115 = .ok (.iconst 1, 1) := by decide +kernel
theorem dM_report_116 : decode cM_report 116 = .ok (.if_icmp .ne 32, 3) := by decide +kernel
theorem dM_report_119 : decode cM_report 119 = .ok (.iload 5, 2) := by decide +kernel
theorem dM_report_121 : decode cM_report 121 = .ok (.ifCond .ne 23, 3) := by decide +kernel
theorem dM_report_124 : decode cM_report 124 = .ok (.aload_n 0, 1) := by decide +kernel
theorem dM_report_125 : decode cM_report 125 = .ok (.getfield 36, 3) := by decide +kernel
theorem dM_report_128 : decode cM_report 128 = .ok (.aload_n 0, 1) := by decide +kernel
theorem dM_report_129 : decode cM_report 129 = .ok (.getfield 60, 3) := by decide +kernel
theorem dM_report_132 : decode cM_report 132 = .ok (.iload 4, 2) := by decide +kernel
theorem dM_report_134 : decode cM_report 134 = .ok (.iaload, 1) := by decide +kernel
theorem dM_report_135 : decode cM_report 135 = .ok (.iaload, 1) := by decide +kernel
theorem dM_report_136 : decode cM_report 136 = .ok (.iload_n 1, 1) := by decide +kernel
theorem dM_report_137 : decode cM_report 137 = .ok (.if_icmp .ne 7, 3) := by decide +kernel
theorem dM_report_140 : decode cM_report 140 = .ok (.iconst 1, 1) := by decide +kernel
theorem dM_report_141 : decode cM_report 141 = .ok (.goto 22, 3) := by decide +kernel
theorem dM_report_144 : decode cM_report 144 = .ok (.iconst 0, 1) := by decide +kernel
theorem dM_report_145 : decode cM_report 145 = .ok (.goto 18, 3) := by decide +kernel
theorem dM_report_148 : decode cM_report 148 = .ok (.iload 5, 2) := by decide +kernel
theorem dM_report_150 : decode cM_report 150 = .ok (.ifCond .eq 12, 3) := by decide +kernel
theorem dM_report_153 : decode cM_report 153 = .ok (.iload 6, 2) := by decide +kernel
theorem dM_report_155 : decode cM_report 155 = .ok (.ifCond .ne 7, 3) := by decide +kernel
theorem dM_report_158 : decode cM_report 158 = .ok (.iconst 1, 1) := by decide +kernel
theorem dM_report_159 : decode cM_report 159 = .ok (.goto 4, 3) := by decide +kernel
theorem dM_report_162 : decode cM_report 162 = .ok (.iconst 0, 1) := by decide +kernel
theorem dM_report_163 : decode cM_report 163 = .ok (.istore 7, 2) := by decide +kernel
theorem dM_report_165 : decode cM_report 165 = .ok (.aload_n 0, 1) := by decide +kernel
theorem dM_report_166 : decode cM_report 166 = .ok (.getfield 63, 3) := by decide +kernel
theorem dM_report_169 : decode cM_report 169 = .ok (.iload 4, 2) := by decide +kernel
theorem dM_report_171 : decode cM_report 171 = .ok (.iaload, 1) := by decide +kernel
theorem dM_report_172 : decode cM_report 172 = .ok (.iload_n 1, 1) := by decide +kernel
theorem dM_report_173 : decode cM_report 173 = .ok (.if_icmp .ne 14, 3) := by decide +kernel
theorem dM_report_176 : decode cM_report 176 = .ok (.iload 7, 2) := by decide +kernel
theorem dM_report_178 : decode cM_report 178 = .ok (.ifCond .eq 9, 3) := by decide +kernel
theorem dM_report_181 : decode cM_report 181 = .ok (.iload_n 3, 1) := by decide +kernel
theorem dM_report_182 : decode cM_report 182 = .ok (.iconst 1, 1) := by decide +kernel
theorem dM_report_183 : decode cM_report 183 = .ok (.iadd, 1) := by decide +kernel
theorem dM_report_184 : decode cM_report 184 = .ok (.goto 4, 3) := by decide +kernel
theorem dM_report_187 : decode cM_report 187 = .ok (.iload_n 3, 1) := by decide +kernel
theorem dM_report_188 : decode cM_report 188 = .ok (.istore_n 3, 1) := by decide +kernel
theorem dM_report_189 : decode cM_report 189 = .ok (.iinc 4 1, 3) := by decide +kernel
theorem dM_report_192 : decode cM_report 192 = .ok (.goto (-149), 3) := by decide +kernel
theorem dM_report_195 : decode cM_report 195 = .ok (.iload_n 3, 1) := by decide +kernel
theorem dM_report_196 : decode cM_report 196 = .ok (.ireturn, 1) := by decide +kernel
