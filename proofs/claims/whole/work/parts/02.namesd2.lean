theorem dX8_melts_117 : decode cX8_melts 117 = .ok (.iastore, 1) := by decide +kernel
theorem dX8_melts_118 : decode cX8_melts 118 = .ok (.iinc 3 1, 3) := by decide +kernel
theorem dX8_melts_121 : decode cX8_melts 121 = .ok (.goto (-37), 3) := by decide +kernel
theorem dX8_melts_124 : decode cX8_melts 124 = .ok (.aload_n 0, 1) := by decide +kernel
theorem dX8_melts_125 : decode cX8_melts 125 = .ok (.getfield 16, 3) := by decide +kernel
theorem dX8_melts_128 : decode cX8_melts 128 = .ok (.bipush 43, 2) := by decide +kernel
theorem dX8_melts_130 : decode cX8_melts 130 = .ok (.dup2, 1) := by decide +kernel
theorem dX8_melts_131 : decode cX8_melts 131 = .ok (.iaload, 1) := by decide +kernel
theorem dX8_melts_132 : decode cX8_melts 132 = .ok (.iconst 1, 1) := by decide +kernel
theorem dX8_melts_133 : decode cX8_melts 133 = .ok (.isub, 1) := by decide +kernel
theorem dX8_melts_134 : decode cX8_melts 134 = .ok (.iastore, 1) := by decide +kernel
theorem dX8_melts_135 : decode cX8_melts 135 = .ok (.aload_n 0, 1) := by decide +kernel
theorem dX8_melts_136 : decode cX8_melts 136 = .ok (.iload_n 2, 1) := by decide +kernel
theorem dX8_melts_137 : decode cX8_melts 137 = .ok (.bipush 20, 2) := by decide +kernel
theorem dX8_melts_139 : decode cX8_melts 139 = .ok (.invokevirtual 92, 3) := by decide +kernel
theorem dX8_melts_142 : decode cX8_melts 142 = .ok (.ireturn, 1) := by decide +kernel
theorem dX8_meltDown_0 : decode cX8_meltDown 0 = .ok (.aload_n 0, 1) := by decide +kernel
theorem dX8_meltDown_1 : decode cX8_meltDown 1 = .ok (.invokevirtual 96, 3) := by decide +kernel
theorem dX8_meltDown_4 : decode cX8_meltDown 4 = .ok (.aload_n 0, 1) := by decide +kernel
theorem dX8_meltDown_5 : decode cX8_meltDown 5 = .ok (.aload_n 0, 1) := by decide +kernel
theorem dX8_meltDown_6 : decode cX8_meltDown 6 = .ok (.iload_n 1, 1) := by decide +kernel
theorem dX8_meltDown_7 : decode cX8_meltDown 7 = .ok (.iload_n 2, 1) := by decide +kernel
theorem dX8_meltDown_8 : decode cX8_meltDown 8 = .ok (.invokevirtual 155, 3) := by decide +kernel
theorem dX8_meltDown_11 : decode cX8_meltDown 11 = .ok (.invokevirtual 106, 3) := by decide +kernel
theorem dX8_meltDown_14 : decode cX8_meltDown 14 = .ok (.ireturn, 1) := by decide +kernel
theorem dX8_held_0 : decode cX8_held 0 = .ok (.iload_n 0, 1) := by decide +kernel
theorem dX8_held_1 : decode cX8_held 1 = .ok (.bipush 20, 2) := by decide +kernel
theorem dX8_held_3 : decode cX8_held 3 = .ok (.if_icmp .ge 8, 3) := by decide +kernel
theorem dX8_held_6 : decode cX8_held 6 = .ok (.bipush 20, 2) := by decide +kernel
theorem dX8_held_8 : decode cX8_held 8 = .ok (.goto 17, 3) := by decide +kernel
theorem dX8_held_11 : decode cX8_held 11 = .ok (.iload_n 0, 1) := by decide +kernel
theorem dX8_held_12 : decode cX8_held 12 = .ok (.sipush 1500, 3) := by decide +kernel
theorem dX8_held_15 : decode cX8_held 15 = .ok (.if_icmp .le 9, 3) := by decide +kernel
theorem dX8_held_18 : decode cX8_held 18 = .ok (.sipush 1500, 3) := by decide +kernel
theorem dX8_held_21 : decode cX8_held 21 = .ok (.goto 4, 3) := by decide +kernel
theorem dX8_held_24 : decode cX8_held 24 = .ok (.iload_n 0, 1) := by decide +kernel
theorem dX8_held_25 : decode cX8_held 25 = .ok (.ireturn, 1) := by decide +kernel
theorem dX8_passes_0 : decode cX8_passes 0 = .ok (.iload_n 1, 1) := by decide +kernel
theorem dX8_passes_1 : decode cX8_passes 1 = .ok (.iconst 1, 1) := by decide +kernel
theorem dX8_passes_2 : decode cX8_passes 2 = .ok (.sipush 200, 3) := by decide +kernel
theorem dX8_passes_5 : decode cX8_passes 5 = .ok (.invokestatic 67, 3) := by decide +kernel
theorem dX8_passes_8 : decode cX8_passes 8 = .ok (.ifCond .ne 9, 3) := by decide +kernel
theorem dX8_passes_11 : decode cX8_passes 11 = .ok (.aload_n 0, 1) := by decide +kernel
theorem dX8_passes_12 : decode cX8_passes 12 = .ok (.iconst 1, 1) := by decide +kernel
theorem dX8_passes_13 : decode cX8_passes 13 = .ok (.invokevirtual 89, 3) := by decide +kernel
theorem dX8_passes_16 : decode cX8_passes 16 = .ok (.ireturn, 1) := by decide +kernel
theorem dX8_passes_17 : decode cX8_passes 17 = .ok (.iconst 0, 1) := by decide +kernel
theorem dX8_passes_18 : decode cX8_passes 18 = .ok (.istore_n 2, 1) := by decide +kernel
theorem dX8_passes_19 : decode cX8_passes 19 = .ok (.iload_n 2, 1) := by decide +kernel
theorem dX8_passes_20 : decode cX8_passes 20 = .ok (.iload_n 1, 1) := by decide +kernel
theorem dX8_passes_21 : decode cX8_passes 21 = .ok (.if_icmp .ge 126, 3) := by decide +kernel
theorem dX8_passes_24 : decode cX8_passes 24 = .ok (.aload_n 0, 1) := by decide +kernel
theorem dX8_passes_25 : decode cX8_passes 25 = .ok (.getfield 16, 3) := by decide +kernel
theorem dX8_passes_28 : decode cX8_passes 28 = .ok (.iconst 0, 1) := by decide +kernel
theorem dX8_passes_29 : decode cX8_passes 29 = .ok (.dup2, 1) := by decide +kernel
theorem dX8_passes_30 : decode cX8_passes 30 = .ok (.iaload, 1) := by decide +kernel
theorem dX8_passes_31 : decode cX8_passes 31 = .ok (.iconst 1, 1) := by decide +kernel
theorem dX8_passes_32 : decode cX8_passes 32 = .ok (.iadd, 1) := by decide +kernel
theorem dX8_passes_33 : decode cX8_passes 33 = .ok (.iastore, 1) := by decide +kernel
theorem dX8_passes_34 : decode cX8_passes 34 = .ok (.iconst 0, 1) := by decide +kernel
theorem dX8_passes_35 : decode cX8_passes 35 = .ok (.istore_n 3, 1) := by decide +kernel
theorem dX8_passes_36 : decode cX8_passes 36 = .ok (.iload_n 3, 1) := by decide +kernel
theorem dX8_passes_37 : decode cX8_passes 37 = .ok (.iconst 3, 1) := by decide +kernel
theorem dX8_passes_38 : decode cX8_passes 38 = .ok (.if_icmp .ge 51, 3) := by decide +kernel
theorem dX8_passes_41 : decode cX8_passes 41 = .ok (.aload_n 0, 1) := by decide +kernel
theorem dX8_passes_42 : decode cX8_passes 42 = .ok (.getfield 16, 3) := by decide +kernel
theorem dX8_passes_45 : decode cX8_passes 45 = .ok (.iload_n 3, 1) := by decide +kernel
theorem dX8_passes_46 : decode cX8_passes 46 = .ok (.invokestatic 50, 3) := by decide +kernel
theorem dX8_passes_49 : decode cX8_passes 49 = .ok (.iconst 4, 1) := by decide +kernel
theorem dX8_passes_50 : decode cX8_passes 50 = .ok (.iadd, 1) := by decide +kernel
theorem dX8_passes_51 : decode cX8_passes 51 = .ok (.aload_n 0, 1) := by decide +kernel
theorem dX8_passes_52 : decode cX8_passes 52 = .ok (.getfield 16, 3) := by decide +kernel
theorem dX8_passes_55 : decode cX8_passes 55 = .ok (.iload_n 3, 1) := by decide +kernel
theorem dX8_passes_56 : decode cX8_passes 56 = .ok (.invokestatic 50, 3) := by decide +kernel
theorem dX8_passes_59 : decode cX8_passes 59 = .ok (.iconst 4, 1) := by decide +kernel
theorem dX8_passes_60 : decode cX8_passes 60 = .ok (.iadd, 1) := by decide +kernel
theorem dX8_passes_61 : decode cX8_passes 61 = .ok (.iaload, 1) := by decide +kernel
theorem dX8_passes_62 : decode cX8_passes 62 = .ok (.bipush 10, 2) := by decide +kernel
theorem dX8_passes_64 : decode cX8_passes 64 = .ok (.aload_n 0, 1) := by decide +kernel
theorem dX8_passes_65 : decode cX8_passes 65 = .ok (.getfield 16, 3) := by decide +kernel
theorem dX8_passes_68 : decode cX8_passes 68 = .ok (.iload_n 3, 1) := by decide +kernel
theorem dX8_passes_69 : decode cX8_passes 69 = .ok (.invokestatic 50, 3) := by decide +kernel
theorem dX8_passes_72 : decode cX8_passes 72 = .ok (.iconst 5, 1) := by decide +kernel
theorem dX8_passes_73 : decode cX8_passes 73 = .ok (.iadd, 1) := by decide +kernel
theorem dX8_passes_74 : decode cX8_passes 74 = .ok (.iaload, 1) := by decide +kernel
theorem dX8_passes_75 : decode cX8_passes 75 = .ok (.imul, 1) := by decide +kernel
theorem dX8_passes_76 : decode cX8_passes 76 = .ok (.iadd, 1) := by decide +kernel
theorem dX8_passes_77 : decode cX8_passes 77 = .ok (.iconst 5, 1) := by decide +kernel
theorem dX8_passes_78 : decode cX8_passes 78 = .ok (.isub, 1) := by decide +kernel
theorem dX8_passes_79 : decode cX8_passes 79 = .ok (.invokestatic 158, 3) := by decide +kernel
theorem dX8_passes_82 : decode cX8_passes 82 = .ok (.iastore, 1) := by decide +kernel
theorem dX8_passes_83 : decode cX8_passes 83 = .ok (.iinc 3 1, 3) := by decide +kernel
theorem dX8_passes_86 : decode cX8_passes 86 = .ok (.goto (-50), 3) := by decide +kernel
theorem dX8_passes_89 : decode cX8_passes 89 = .ok (.iconst 0, 1) := by decide +kernel
theorem dX8_passes_90 : decode cX8_passes 90 = .ok (.istore_n 3, 1) := by decide +kernel
theorem dX8_passes_91 : decode cX8_passes 91 = .ok (.iload_n 3, 1) := by decide +kernel
theorem dX8_passes_92 : decode cX8_passes 92 = .ok (.iconst 3, 1) := by decide +kernel
theorem dX8_passes_93 : decode cX8_passes 93 = .ok (.if_icmp .ge 48, 3) := by decide +kernel
theorem dX8_passes_96 : decode cX8_passes 96 = .ok (.aload_n 0, 1) := by decide +kernel
theorem dX8_passes_97 : decode cX8_passes 97 = .ok (.iload_n 3, 1) := by decide +kernel
theorem dX8_passes_98 : decode cX8_passes 98 = .ok (.invokestatic 54, 3) := by decide +kernel
theorem dX8_passes_101 : decode cX8_passes 101 = .ok (.invokevirtual 71, 3) := by decide +kernel
theorem dX8_passes_104 : decode cX8_passes 104 = .ok (.ifCond .le 31, 3) := by decide +kernel
theorem dX8_passes_107 : decode cX8_passes 107 = .ok (.aload_n 0, 1) := by decide +kernel
theorem dX8_passes_108 : decode cX8_passes 108 = .ok (.getfield 16, 3) := by decide +kernel
theorem dX8_passes_111 : decode cX8_passes 111 = .ok (.iload_n 3, 1) := by decide +kernel
theorem dX8_passes_112 : decode cX8_passes 112 = .ok (.invokestatic 54, 3) := by decide +kernel
theorem dX8_passes_115 : decode cX8_passes 115 = .ok (.iconst 4, 1) := by decide +kernel
theorem dX8_passes_116 : decode cX8_passes 116 = .ok (.iadd, 1) := by decide +kernel
theorem dX8_passes_117 : decode cX8_passes 117 = .ok (.aload_n 0, 1) := by decide +kernel
theorem dX8_passes_118 : decode cX8_passes 118 = .ok (.getfield 16, 3) := by decide +kernel
theorem dX8_passes_121 : decode cX8_passes 121 = .ok (.iload_n 3, 1) := by decide +kernel
theorem dX8_passes_122 : decode cX8_passes 122 = .ok (.invokestatic 54, 3) := by decide +kernel
theorem dX8_passes_125 : decode cX8_passes 125 = .ok (.iconst 4, 1) := by decide +kernel
theorem dX8_passes_126 : decode cX8_passes 126 = .ok (.iadd, 1) := by decide +kernel
theorem dX8_passes_127 : decode cX8_passes 127 = .ok (.iaload, 1) := by decide +kernel
theorem dX8_passes_128 : decode cX8_passes 128 = .ok (.bipush 10, 2) := by decide +kernel
theorem dX8_passes_130 : decode cX8_passes 130 = .ok (.isub, 1) := by decide +kernel
theorem dX8_passes_131 : decode cX8_passes 131 = .ok (.invokestatic 158, 3) := by decide +kernel
theorem dX8_passes_134 : decode cX8_passes 134 = .ok (.iastore, 1) := by decide +kernel
theorem dX8_passes_135 : decode cX8_passes 135 = .ok (.iinc 3 1, 3) := by decide +kernel
theorem dX8_passes_138 : decode cX8_passes 138 = .ok (.goto (-47), 3) := by decide +kernel
theorem dX8_passes_141 : decode cX8_passes 141 = .ok (.iinc 2 1, 3) := by decide +kernel
theorem dX8_passes_144 : decode cX8_passes 144 = .ok (.goto (-125), 3) := by decide +kernel
theorem dX8_passes_147 : decode cX8_passes 147 = .ok (.iconst 0, 1) := by decide +kernel
theorem dX8_passes_148 : decode cX8_passes 148 = .ok (.istore_n 2, 1) := by decide +kernel
theorem dX8_passes_149 : decode cX8_passes 149 = .ok (.iconst 0, 1) := by decide +kernel
theorem dX8_passes_150 : decode cX8_passes 150 = .ok (.istore_n 3, 1) := by decide +kernel
theorem dX8_passes_151 : decode cX8_passes 151 = .ok (.iload_n 3, 1) := by decide +kernel
theorem dX8_passes_152 : decode cX8_passes 152 = .ok (.iconst 3, 1) := by decide +kernel
theorem dX8_passes_153 : decode cX8_passes 153 = .ok (.if_icmp .ge 28, 3) := by decide +kernel
theorem dX8_passes_156 : decode cX8_passes 156 = .ok (.iload_n 2, 1) := by decide +kernel
theorem dX8_passes_157 : decode cX8_passes 157 = .ok (.aload_n 0, 1) := by decide +kernel
theorem dX8_passes_158 : decode cX8_passes 158 = .ok (.iload_n 3, 1) := by decide +kernel
theorem dX8_passes_159 : decode cX8_passes 159 = .ok (.invokestatic 50, 3) := by decide +kernel
theorem dX8_passes_162 : decode cX8_passes 162 = .ok (.invokevirtual 112, 3) := by decide +kernel
theorem dX8_passes_165 : decode cX8_passes 165 = .ok (.ifCond .eq 7, 3) := by decide +kernel
theorem dX8_passes_168 : decode cX8_passes 168 = .ok (.iconst 1, 1) := by decide +kernel
theorem dX8_passes_169 : decode cX8_passes 169 = .ok (.goto 4, 3) := by decide +kernel
theorem dX8_passes_172 : decode cX8_passes 172 = .ok (.iconst 0, 1) := by decide +kernel
theorem dX8_passes_173 : decode cX8_passes 173 = .ok (.iadd, 1) := by decide +kernel
theorem dX8_passes_174 : decode cX8_passes 174 = .ok (.istore_n 2, 1) := by decide +kernel
theorem dX8_passes_175 : decode cX8_passes 175 = .ok (.iinc 3 1, 3) := by decide +kernel
theorem dX8_passes_178 : decode cX8_passes 178 = .ok (.goto (-27), 3) := by decide +kernel
theorem dX8_passes_181 : decode cX8_passes 181 = .ok (.iload_n 2, 1) := by decide +kernel
theorem dX8_passes_182 : decode cX8_passes 182 = .ok (.ireturn, 1) := by decide +kernel
theorem dX8_advance_0 : decode cX8_advance 0 = .ok (.aload_n 0, 1) := by decide +kernel
theorem dX8_advance_1 : decode cX8_advance 1 = .ok (.invokevirtual 96, 3) := by decide +kernel
theorem dX8_advance_4 : decode cX8_advance 4 = .ok (.aload_n 0, 1) := by decide +kernel
theorem dX8_advance_5 : decode cX8_advance 5 = .ok (.aload_n 0, 1) := by decide +kernel
theorem dX8_advance_6 : decode cX8_advance 6 = .ok (.iload_n 1, 1) := by decide +kernel
theorem dX8_advance_7 : decode cX8_advance 7 = .ok (.invokevirtual 161, 3) := by decide +kernel
theorem dX8_advance_10 : decode cX8_advance 10 = .ok (.invokevirtual 106, 3) := by decide +kernel
theorem dX8_advance_13 : decode cX8_advance 13 = .ok (.ireturn, 1) := by decide +kernel
theorem dX8_tells_0 : decode cX8_tells 0 = .ok (.aload_n 0, 1) := by decide +kernel
theorem dX8_tells_1 : decode cX8_tells 1 = .ok (.iload_n 1, 1) := by decide +kernel
theorem dX8_tells_2 : decode cX8_tells 2 = .ok (.ifCond .ne 7, 3) := by decide +kernel
theorem dX8_tells_5 : decode cX8_tells 5 = .ok (.iconst 1, 1) := by decide +kernel
theorem dX8_tells_6 : decode cX8_tells 6 = .ok (.goto 15, 3) := by decide +kernel
theorem dX8_tells_9 : decode cX8_tells 9 = .ok (.iload_n 3, 1) := by decide +kernel
theorem dX8_tells_10 : decode cX8_tells 10 = .ok (.invokestatic 99, 3) := by decide +kernel
theorem dX8_tells_13 : decode cX8_tells 13 = .ok (.ifCond .ge 7, 3) := by decide +kernel
theorem dX8_tells_16 : decode cX8_tells 16 = .ok (.iconst 2, 1) := by decide +kernel
theorem dX8_tells_17 : decode cX8_tells 17 = .ok (.goto 4, 3) := by decide +kernel
theorem dX8_tells_20 : decode cX8_tells 20 = .ok (.iconst 0, 1) := by decide +kernel
theorem dX8_tells_21 : decode cX8_tells 21 = .ok (.putfield 57, 3) := by decide +kernel
theorem dX8_tells_24 : decode cX8_tells 24 = .ok (.aload_n 0, 1) := by decide +kernel
theorem dX8_tells_25 : decode cX8_tells 25 = .ok (.getfield 57, 3) := by decide +kernel
theorem dX8_tells_28 : decode cX8_tells 28 = .ok (.ifCond .ne 17, 3) := by decide +kernel
theorem dX8_tells_31 : decode cX8_tells 31 = .ok (.aload_n 0, 1) := by decide +kernel
theorem dX8_tells_32 : decode cX8_tells 32 = .ok (.getfield 16, 3) := by decide +kernel
theorem dX8_tells_35 : decode cX8_tells 35 = .ok (.iload_n 2, 1) := by decide +kernel
theorem dX8_tells_36 : decode cX8_tells 36 = .ok (.iload_n 3, 1) := by decide +kernel
theorem dX8_tells_37 : decode cX8_tells 37 = .ok (.invokestatic 99, 3) := by decide +kernel
theorem dX8_tells_40 : decode cX8_tells 40 = .ok (.iadd, 1) := by decide +kernel
theorem dX8_tells_41 : decode cX8_tells 41 = .ok (.iaload, 1) := by decide +kernel
theorem dX8_tells_42 : decode cX8_tells 42 = .ok (.goto 4, 3) := by decide +kernel
theorem dX8_tells_45 : decode cX8_tells 45 = .ok (.iconst 0, 1) := by decide +kernel
theorem dX8_tells_46 : decode cX8_tells 46 = .ok (.ireturn, 1) := by decide +kernel
theorem dX8_furnaceMass_0 : decode cX8_furnaceMass 0 = .ok (.aload_n 0, 1) := by decide +kernel
theorem dX8_furnaceMass_1 : decode cX8_furnaceMass 1 = .ok (.iload_n 1, 1) := by decide +kernel
theorem dX8_furnaceMass_2 : decode cX8_furnaceMass 2 = .ok (.invokestatic 85, 3) := by decide +kernel
theorem dX8_furnaceMass_5 : decode cX8_furnaceMass 5 = .ok (.iload_n 1, 1) := by decide +kernel
theorem dX8_furnaceMass_6 : decode cX8_furnaceMass 6 = .ok (.invokestatic 50, 3) := by decide +kernel
theorem dX8_furnaceMass_9 : decode cX8_furnaceMass 9 = .ok (.iload_n 2, 1) := by decide +kernel
theorem dX8_furnaceMass_10 : decode cX8_furnaceMass 10 = .ok (.invokevirtual 164, 3) := by decide +kernel
theorem dX8_furnaceMass_13 : decode cX8_furnaceMass 13 = .ok (.ireturn, 1) := by decide +kernel
theorem dX8_tellsMass_0 : decode cX8_tellsMass 0 = .ok (.aload_n 0, 1) := by decide +kernel
theorem dX8_tellsMass_1 : decode cX8_tellsMass 1 = .ok (.iload_n 1, 1) := by decide +kernel
theorem dX8_tellsMass_2 : decode cX8_tellsMass 2 = .ok (.ifCond .eq 7, 3) := by decide +kernel
theorem dX8_tellsMass_5 : decode cX8_tellsMass 5 = .ok (.iconst 0, 1) := by decide +kernel
theorem dX8_tellsMass_6 : decode cX8_tellsMass 6 = .ok (.goto 4, 3) := by decide +kernel
theorem dX8_tellsMass_9 : decode cX8_tellsMass 9 = .ok (.iconst 1, 1) := by decide +kernel
theorem dX8_tellsMass_10 : decode cX8_tellsMass 10 = .ok (.putfield 57, 3) := by decide +kernel
theorem dX8_tellsMass_13 : decode cX8_tellsMass 13 = .ok (.aload_n 0, 1) := by decide +kernel
theorem dX8_tellsMass_14 : decode cX8_tellsMass 14 = .ok (.getfield 57, 3) := by decide +kernel
theorem dX8_tellsMass_17 : decode cX8_tellsMass 17 = .ok (.ifCond .ne 11, 3) := by decide +kernel
theorem dX8_tellsMass_20 : decode cX8_tellsMass 20 = .ok (.aload_n 0, 1) := by decide +kernel
theorem dX8_tellsMass_21 : decode cX8_tellsMass 21 = .ok (.iload_n 2, 1) := by decide +kernel
theorem dX8_tellsMass_22 : decode cX8_tellsMass 22 = .ok (.invokevirtual 71, 3) := by decide +kernel
theorem dX8_tellsMass_25 : decode cX8_tellsMass 25 = .ok (.goto 4, 3) := by decide +kernel
theorem dX8_tellsMass_28 : decode cX8_tellsMass 28 = .ok (.iconst 0, 1) := by decide +kernel
theorem dX8_tellsMass_29 : decode cX8_tellsMass 29 = .ok (.ireturn, 1) := by decide +kernel
theorem dX8_tellsOne_0 : decode cX8_tellsOne 0 = .ok (.aload_n 0, 1) := by decide +kernel
theorem dX8_tellsOne_1 : decode cX8_tellsOne 1 = .ok (.iload_n 1, 1) := by decide +kernel
theorem dX8_tellsOne_2 : decode cX8_tellsOne 2 = .ok (.ifCond .eq 7, 3) := by decide +kernel
theorem dX8_tellsOne_5 : decode cX8_tellsOne 5 = .ok (.iconst 0, 1) := by decide +kernel
theorem dX8_tellsOne_6 : decode cX8_tellsOne 6 = .ok (.goto 4, 3) := by decide +kernel
theorem dX8_tellsOne_9 : decode cX8_tellsOne 9 = .ok (.iconst 1, 1) := by decide +kernel
theorem dX8_tellsOne_10 : decode cX8_tellsOne 10 = .ok (.putfield 57, 3) := by decide +kernel
theorem dX8_tellsOne_13 : decode cX8_tellsOne 13 = .ok (.aload_n 0, 1) := by decide +kernel
theorem dX8_tellsOne_14 : decode cX8_tellsOne 14 = .ok (.getfield 57, 3) := by decide +kernel
theorem dX8_tellsOne_17 : decode cX8_tellsOne 17 = .ok (.ifCond .ne 12, 3) := by decide +kernel
theorem dX8_tellsOne_20 : decode cX8_tellsOne 20 = .ok (.aload_n 0, 1) := by decide +kernel
theorem dX8_tellsOne_21 : decode cX8_tellsOne 21 = .ok (.getfield 16, 3) := by decide +kernel
theorem dX8_tellsOne_24 : decode cX8_tellsOne 24 = .ok (.iload_n 2, 1) := by decide +kernel
theorem dX8_tellsOne_25 : decode cX8_tellsOne 25 = .ok (.iaload, 1) := by decide +kernel
theorem dX8_tellsOne_26 : decode cX8_tellsOne 26 = .ok (.goto 4, 3) := by decide +kernel
theorem dX8_tellsOne_29 : decode cX8_tellsOne 29 = .ok (.iconst 0, 1) := by decide +kernel
theorem dX8_tellsOne_30 : decode cX8_tellsOne 30 = .ok (.ireturn, 1) := by decide +kernel
theorem dX8_furnaceTotal_0 : decode cX8_furnaceTotal 0 = .ok (.aload_n 0, 1) := by decide +kernel
theorem dX8_furnaceTotal_1 : decode cX8_furnaceTotal 1 = .ok (.iload_n 1, 1) := by decide +kernel
theorem dX8_furnaceTotal_2 : decode cX8_furnaceTotal 2 = .ok (.invokestatic 85, 3) := by decide +kernel
theorem dX8_furnaceTotal_5 : decode cX8_furnaceTotal 5 = .ok (.iload_n 1, 1) := by decide +kernel
theorem dX8_furnaceTotal_6 : decode cX8_furnaceTotal 6 = .ok (.invokestatic 50, 3) := by decide +kernel
theorem dX8_furnaceTotal_9 : decode cX8_furnaceTotal 9 = .ok (.invokevirtual 168, 3) := by decide +kernel
theorem dX8_furnaceTotal_12 : decode cX8_furnaceTotal 12 = .ok (.ireturn, 1) := by decide +kernel
theorem dX8_furnaceTemperature_0 : decode cX8_furnaceTemperature 0 = .ok (.aload_n 0, 1) := by decide +kernel
theorem dX8_furnaceTemperature_1 : decode cX8_furnaceTemperature 1 = .ok (.iload_n 1, 1) := by decide +kernel
theorem dX8_furnaceTemperature_2 : decode cX8_furnaceTemperature 2 = .ok (.invokestatic 85, 3) := by decide +kernel
theorem dX8_furnaceTemperature_5 : decode cX8_furnaceTemperature 5 = .ok (.iload_n 1, 1) := by decide +kernel
theorem dX8_furnaceTemperature_6 : decode cX8_furnaceTemperature 6 = .ok (.invokestatic 50, 3) := by decide +kernel
theorem dX8_furnaceTemperature_9 : decode cX8_furnaceTemperature 9 = .ok (.iconst 4, 1) := by decide +kernel
theorem dX8_furnaceTemperature_10 : decode cX8_furnaceTemperature 10 = .ok (.iadd, 1) := by decide +kernel
theorem dX8_furnaceTemperature_11 : decode cX8_furnaceTemperature 11 = .ok (.invokevirtual 172, 3) := by decide +kernel
theorem dX8_furnaceTemperature_14 : decode cX8_furnaceTemperature 14 = .ok (.ireturn, 1) := by decide +kernel
theorem dX8_fire_0 : decode cX8_fire 0 = .ok (.aload_n 0, 1) := by decide +kernel
theorem dX8_fire_1 : decode cX8_fire 1 = .ok (.iload_n 1, 1) := by decide +kernel
theorem dX8_fire_2 : decode cX8_fire 2 = .ok (.invokestatic 85, 3) := by decide +kernel
theorem dX8_fire_5 : decode cX8_fire 5 = .ok (.iload_n 1, 1) := by decide +kernel
theorem dX8_fire_6 : decode cX8_fire 6 = .ok (.invokestatic 50, 3) := by decide +kernel
theorem dX8_fire_9 : decode cX8_fire 9 = .ok (.iconst 5, 1) := by decide +kernel
theorem dX8_fire_10 : decode cX8_fire 10 = .ok (.iadd, 1) := by decide +kernel
theorem dX8_fire_11 : decode cX8_fire 11 = .ok (.invokevirtual 172, 3) := by decide +kernel
theorem dX8_fire_14 : decode cX8_fire 14 = .ok (.ireturn, 1) := by decide +kernel
theorem dX8_meltingPoint_0 : decode cX8_meltingPoint 0 = .ok (.aload_n 0, 1) := by decide +kernel
theorem dX8_meltingPoint_1 : decode cX8_meltingPoint 1 = .ok (.iload_n 1, 1) := by decide +kernel
theorem dX8_meltingPoint_2 : decode cX8_meltingPoint 2 = .ok (.invokestatic 85, 3) := by decide +kernel
theorem dX8_meltingPoint_5 : decode cX8_meltingPoint 5 = .ok (.ifCond .ne 7, 3) := by decide +kernel
theorem dX8_meltingPoint_8 : decode cX8_meltingPoint 8 = .ok (.iconst 1, 1) := by decide +kernel
theorem dX8_meltingPoint_9 : decode cX8_meltingPoint 9 = .ok (.goto 19, 3) := by decide +kernel
theorem dX8_meltingPoint_12 : decode cX8_meltingPoint 12 = .ok (.aload_n 0, 1) := by decide +kernel
theorem dX8_meltingPoint_13 : decode cX8_meltingPoint 13 = .ok (.iload_n 1, 1) := by decide +kernel
theorem dX8_meltingPoint_14 : decode cX8_meltingPoint 14 = .ok (.invokestatic 50, 3) := by decide +kernel
theorem dX8_meltingPoint_17 : decode cX8_meltingPoint 17 = .ok (.invokevirtual 71, 3) := by decide +kernel
theorem dX8_meltingPoint_20 : decode cX8_meltingPoint 20 = .ok (.ifCond .ne 7, 3) := by decide +kernel
theorem dX8_meltingPoint_23 : decode cX8_meltingPoint 23 = .ok (.iconst 2, 1) := by decide +kernel
theorem dX8_meltingPoint_24 : decode cX8_meltingPoint 24 = .ok (.goto 4, 3) := by decide +kernel
theorem dX8_meltingPoint_27 : decode cX8_meltingPoint 27 = .ok (.iconst 0, 1) := by decide +kernel
theorem dX8_meltingPoint_28 : decode cX8_meltingPoint 28 = .ok (.putfield 57, 3) := by decide +kernel
theorem dX8_meltingPoint_31 : decode cX8_meltingPoint 31 = .ok (.aload_n 0, 1) := by decide +kernel
theorem dX8_meltingPoint_32 : decode cX8_meltingPoint 32 = .ok (.getfield 57, 3) := by decide +kernel
theorem dX8_meltingPoint_35 : decode cX8_meltingPoint 35 = .ok (.ifCond .ne 14, 3) := by decide +kernel
theorem dX8_meltingPoint_38 : decode cX8_meltingPoint 38 = .ok (.aload_n 0, 1) := by decide +kernel
theorem dX8_meltingPoint_39 : decode cX8_meltingPoint 39 = .ok (.iload_n 1, 1) := by decide +kernel
theorem dX8_meltingPoint_40 : decode cX8_meltingPoint 40 = .ok (.invokestatic 50, 3) := by decide +kernel
theorem dX8_meltingPoint_43 : decode cX8_meltingPoint 43 = .ok (.invokevirtual 74, 3) := by decide +kernel
theorem dX8_meltingPoint_46 : decode cX8_meltingPoint 46 = .ok (.goto 4, 3) := by decide +kernel
theorem dX8_meltingPoint_49 : decode cX8_meltingPoint 49 = .ok (.iconst 0, 1) := by decide +kernel
theorem dX8_meltingPoint_50 : decode cX8_meltingPoint 50 = .ok (.ireturn, 1) := by decide +kernel
theorem dX8_meltingPointByDifferences_0 : decode cX8_meltingPointByDifferences 0 = .ok (.aload_n 0, 1) := by decide +kernel
theorem dX8_meltingPointByDifferences_1 : decode cX8_meltingPointByDifferences 1 = .ok (.iload_n 1, 1) := by decide +kernel
theorem dX8_meltingPointByDifferences_2 : decode cX8_meltingPointByDifferences 2 = .ok (.invokevirtual 175, 3) := by decide +kernel
theorem dX8_meltingPointByDifferences_5 : decode cX8_meltingPointByDifferences 5 = .ok (.ireturn, 1) := by decide +kernel
theorem dX8_isMolten_0 : decode cX8_isMolten 0 = .ok (.aload_n 0, 1) := by decide +kernel
theorem dX8_isMolten_1 : decode cX8_isMolten 1 = .ok (.iload_n 1, 1) := by decide +kernel
theorem dX8_isMolten_2 : decode cX8_isMolten 2 = .ok (.invokestatic 85, 3) := by decide +kernel
theorem dX8_isMolten_5 : decode cX8_isMolten 5 = .ok (.ifCond .eq 7, 3) := by decide +kernel
theorem dX8_isMolten_8 : decode cX8_isMolten 8 = .ok (.iconst 0, 1) := by decide +kernel
theorem dX8_isMolten_9 : decode cX8_isMolten 9 = .ok (.goto 4, 3) := by decide +kernel
theorem dX8_isMolten_12 : decode cX8_isMolten 12 = .ok (.iconst 1, 1) := by decide +kernel
theorem dX8_isMolten_13 : decode cX8_isMolten 13 = .ok (.putfield 57, 3) := by decide +kernel
theorem dX8_isMolten_16 : decode cX8_isMolten 16 = .ok (.aload_n 0, 1) := by decide +kernel
theorem dX8_isMolten_17 : decode cX8_isMolten 17 = .ok (.getfield 57, 3) := by decide +kernel
theorem dX8_isMolten_20 : decode cX8_isMolten 20 = .ok (.ifCond .ne 18, 3) := by decide +kernel
theorem dX8_isMolten_23 : decode cX8_isMolten 23 = .ok (.aload_n 0, 1) := by decide +kernel
theorem dX8_isMolten_24 : decode cX8_isMolten 24 = .ok (.iload_n 1, 1) := by decide +kernel
theorem dX8_isMolten_25 : decode cX8_isMolten 25 = .ok (.invokestatic 50, 3) := by decide +kernel
theorem dX8_isMolten_28 : decode cX8_isMolten 28 = .ok (.invokevirtual 112, 3) := by decide +kernel
theorem dX8_isMolten_31 : decode cX8_isMolten 31 = .ok (.ifCond .eq 7, 3) := by decide +kernel
theorem dX8_isMolten_34 : decode cX8_isMolten 34 = .ok (.iconst 1, 1) := by decide +kernel
theorem dX8_isMolten_35 : decode cX8_isMolten 35 = .ok (.goto 4, 3) := by decide +kernel
theorem dX8_isMolten_38 : decode cX8_isMolten 38 = .ok (.iconst 0, 1) := by decide +kernel
theorem dX8_isMolten_39 : decode cX8_isMolten 39 = .ok (.ireturn, 1) := by decide +kernel
theorem dX8_minutesUntilMolten_0 : decode cX8_minutesUntilMolten 0 = .ok (.iload_n 1, 1) := by decide +kernel
theorem dX8_minutesUntilMolten_1 : decode cX8_minutesUntilMolten 1 = .ok (.invokestatic 85, 3) := by decide +kernel
theorem dX8_minutesUntilMolten_4 : decode cX8_minutesUntilMolten 4 = .ok (.ifCond .ne 9, 3) := by decide +kernel
theorem dX8_minutesUntilMolten_7 : decode cX8_minutesUntilMolten 7 = .ok (.aload_n 0, 1) := by decide +kernel
theorem dX8_minutesUntilMolten_8 : decode cX8_minutesUntilMolten 8 = .ok (.iconst 1, 1) := by decide +kernel
theorem dX8_minutesUntilMolten_9 : decode cX8_minutesUntilMolten 9 = .ok (.invokevirtual 89, 3) := by decide +kernel
theorem dX8_minutesUntilMolten_12 : decode cX8_minutesUntilMolten 12 = .ok (.ireturn, 1) := by decide +kernel
theorem dX8_minutesUntilMolten_13 : decode cX8_minutesUntilMolten 13 = .ok (.iload_n 1, 1) := by decide +kernel
theorem dX8_minutesUntilMolten_14 : decode cX8_minutesUntilMolten 14 = .ok (.invokestatic 50, 3) := by decide +kernel
theorem dX8_minutesUntilMolten_17 : decode cX8_minutesUntilMolten 17 = .ok (.istore_n 2, 1) := by decide +kernel
theorem dX8_minutesUntilMolten_18 : decode cX8_minutesUntilMolten 18 = .ok (.iconst 0, 1) := by decide +kernel
theorem dX8_minutesUntilMolten_19 : decode cX8_minutesUntilMolten 19 = .ok (.istore_n 3, 1) := by decide +kernel
theorem dX8_minutesUntilMolten_20 : decode cX8_minutesUntilMolten 20 = .ok (.bipush 10, 2) := by decide +kernel
theorem dX8_minutesUntilMolten_22 : decode cX8_minutesUntilMolten 22 = .ok (.aload_n 0, 1) := by decide +kernel
theorem dX8_minutesUntilMolten_23 : decode cX8_minutesUntilMolten 23 = .ok (.getfield 16, 3) := by decide +kernel
theorem dX8_minutesUntilMolten_26 : decode cX8_minutesUntilMolten 26 = .ok (.iload_n 2, 1) := by decide +kernel
theorem dX8_minutesUntilMolten_27 : decode cX8_minutesUntilMolten 27 = .ok (.iconst 5, 1) := by decide +kernel
theorem dX8_minutesUntilMolten_28 : decode cX8_minutesUntilMolten 28 = .ok (.iadd, 1) := by decide +kernel
theorem dX8_minutesUntilMolten_29 : decode cX8_minutesUntilMolten 29 = .ok (.iaload, 1) := by decide +kernel
theorem dX8_minutesUntilMolten_30 : decode cX8_minutesUntilMolten 30 = .ok (.imul, 1) := by decide +kernel
theorem dX8_minutesUntilMolten_31 : decode cX8_minutesUntilMolten 31 = .ok (.iconst 5, 1) := by decide +kernel
theorem dX8_minutesUntilMolten_32 : decode cX8_minutesUntilMolten 32 = .ok (.isub, 1) := by decide +kernel
theorem dX8_minutesUntilMolten_33 : decode cX8_minutesUntilMolten 33 = .ok (.istore 4, 2) := by decide +kernel
theorem dX8_minutesUntilMolten_35 : decode cX8_minutesUntilMolten 35 = .ok (.aload_n 0, 1) := by decide +kernel
theorem dX8_minutesUntilMolten_36 : decode cX8_minutesUntilMolten 36 = .ok (.aload_n 0, 1) := by decide +kernel
theorem dX8_minutesUntilMolten_37 : decode cX8_minutesUntilMolten 37 = .ok (.iload_n 2, 1) := by decide +kernel
theorem dX8_minutesUntilMolten_38 : decode cX8_minutesUntilMolten 38 = .ok (.invokevirtual 71, 3) := by decide +kernel
theorem dX8_minutesUntilMolten_41 : decode cX8_minutesUntilMolten 41 = .ok (.ifCond .eq 22, 3) := by decide +kernel
theorem dX8_minutesUntilMolten_44 : decode cX8_minutesUntilMolten 44 = .ok (.aload_n 0, 1) := by decide +kernel
theorem dX8_minutesUntilMolten_45 : decode cX8_minutesUntilMolten 45 = .ok (.getfield 16, 3) := by decide +kernel
theorem dX8_minutesUntilMolten_48 : decode cX8_minutesUntilMolten 48 = .ok (.iload_n 2, 1) := by decide +kernel
theorem dX8_minutesUntilMolten_49 : decode cX8_minutesUntilMolten 49 = .ok (.iconst 5, 1) := by decide +kernel
theorem dX8_minutesUntilMolten_50 : decode cX8_minutesUntilMolten 50 = .ok (.iadd, 1) := by decide +kernel
theorem dX8_minutesUntilMolten_51 : decode cX8_minutesUntilMolten 51 = .ok (.iaload, 1) := by decide +kernel
theorem dX8_minutesUntilMolten_52 : decode cX8_minutesUntilMolten 52 = .ok (.ifCond .ne 15, 3) := by decide +kernel
theorem dX8_minutesUntilMolten_55 : decode cX8_minutesUntilMolten 55 = .ok (.aload_n 0, 1) := by decide +kernel
theorem dX8_minutesUntilMolten_56 : decode cX8_minutesUntilMolten 56 = .ok (.iload_n 2, 1) := by decide +kernel
theorem dX8_minutesUntilMolten_57 : decode cX8_minutesUntilMolten 57 = .ok (.invokevirtual 112, 3) := by decide +kernel
theorem dX8_minutesUntilMolten_60 : decode cX8_minutesUntilMolten 60 = .ok (.ifCond .ne 7, 3) := by decide +kernel
theorem dX8_minutesUntilMolten_63 : decode cX8_minutesUntilMolten 63 = .ok (.iconst 2, 1) := by decide +kernel
theorem dX8_minutesUntilMolten_64 : decode cX8_minutesUntilMolten 64 = .ok (.goto 4, 3) := by decide +kernel
theorem dX8_minutesUntilMolten_67 : decode cX8_minutesUntilMolten 67 = .ok (.iconst 0, 1) := by decide +kernel
theorem dX8_minutesUntilMolten_68 : decode cX8_minutesUntilMolten 68 = .ok (.putfield 57, 3) := by decide +kernel
theorem dX8_minutesUntilMolten_71 : decode cX8_minutesUntilMolten 71 = .ok (.aload_n 0, 1) := by decide +kernel
theorem dX8_minutesUntilMolten_72 : decode cX8_minutesUntilMolten 72 = .ok (.getfield 57, 3) := by decide +kernel
theorem dX8_minutesUntilMolten_75 : decode cX8_minutesUntilMolten 75 = .ok (.ifCond .ne 11, 3) := by decide +kernel
theorem dX8_minutesUntilMolten_78 : decode cX8_minutesUntilMolten 78 = .ok (.aload_n 0, 1) := by decide +kernel
theorem dX8_minutesUntilMolten_79 : decode cX8_minutesUntilMolten 79 = .ok (.iload_n 2, 1) := by decide +kernel
theorem dX8_minutesUntilMolten_80 : decode cX8_minutesUntilMolten 80 = .ok (.invokevirtual 112, 3) := by decide +kernel
theorem dX8_minutesUntilMolten_83 : decode cX8_minutesUntilMolten 83 = .ok (.ifCond .eq 5, 3) := by decide +kernel
theorem dX8_minutesUntilMolten_86 : decode cX8_minutesUntilMolten 86 = .ok (.iconst 0, 1) := by decide +kernel
theorem dX8_minutesUntilMolten_87 : decode cX8_minutesUntilMolten 87 = .ok (.ireturn, 1) := by decide +kernel
theorem dX8_minutesUntilMolten_88 : decode cX8_minutesUntilMolten 88 = .ok (.aload_n 0, 1) := by decide +kernel
theorem dX8_minutesUntilMolten_89 : decode cX8_minutesUntilMolten 89 = .ok (.getfield 16, 3) := by decide +kernel
theorem dX8_minutesUntilMolten_92 : decode cX8_minutesUntilMolten 92 = .ok (.iload_n 2, 1) := by decide +kernel
theorem dX8_minutesUntilMolten_93 : decode cX8_minutesUntilMolten 93 = .ok (.iconst 4, 1) := by decide +kernel
theorem dX8_minutesUntilMolten_94 : decode cX8_minutesUntilMolten 94 = .ok (.iadd, 1) := by decide +kernel
theorem dX8_minutesUntilMolten_95 : decode cX8_minutesUntilMolten 95 = .ok (.iaload, 1) := by decide +kernel
theorem dX8_minutesUntilMolten_96 : decode cX8_minutesUntilMolten 96 = .ok (.iload_n 3, 1) := by decide +kernel
theorem dX8_minutesUntilMolten_97 : decode cX8_minutesUntilMolten 97 = .ok (.iload 4, 2) := by decide +kernel
theorem dX8_minutesUntilMolten_99 : decode cX8_minutesUntilMolten 99 = .ok (.imul, 1) := by decide +kernel
theorem dX8_minutesUntilMolten_100 : decode cX8_minutesUntilMolten 100 = .ok (.iadd, 1) := by decide +kernel
theorem dX8_minutesUntilMolten_101 : decode cX8_minutesUntilMolten 101 = .ok (.aload_n 0, 1) := by decide +kernel
theorem dX8_minutesUntilMolten_102 : decode cX8_minutesUntilMolten 102 = .ok (.iload_n 2, 1) := by decide +kernel
theorem dX8_minutesUntilMolten_103 : decode cX8_minutesUntilMolten 103 = .ok (.invokevirtual 74, 3) := by decide +kernel
theorem dX8_minutesUntilMolten_106 : decode cX8_minutesUntilMolten 106 = .ok (.if_icmp .ge 9, 3) := by decide +kernel
theorem dX8_minutesUntilMolten_109 : decode cX8_minutesUntilMolten 109 = .ok (.iinc 3 1, 3) := by decide +kernel
theorem dX8_minutesUntilMolten_112 : decode cX8_minutesUntilMolten 112 = .ok (.goto (-24), 3) := by decide +kernel
theorem dX8_minutesUntilMolten_115 : decode cX8_minutesUntilMolten 115 = .ok (.iload_n 3, 1) := by decide +kernel
theorem dX8_minutesUntilMolten_116 : decode cX8_minutesUntilMolten 116 = .ok (.ireturn, 1) := by decide +kernel
theorem dX8_minutesUntilMoltenByDivision_0 : decode cX8_minutesUntilMoltenByDivision 0 = .ok (.aload_n 0, 1) := by decide +kernel
theorem dX8_minutesUntilMoltenByDivision_1 : decode cX8_minutesUntilMoltenByDivision 1 = .ok (.iload_n 1, 1) := by decide +kernel
theorem dX8_minutesUntilMoltenByDivision_2 : decode cX8_minutesUntilMoltenByDivision 2 = .ok (.invokevirtual 178, 3) := by decide +kernel
theorem dX8_minutesUntilMoltenByDivision_5 : decode cX8_minutesUntilMoltenByDivision 5 = .ok (.ireturn, 1) := by decide +kernel
theorem dX8_furnaceByTemperature_0 : decode cX8_furnaceByTemperature 0 = .ok (.aload_n 0, 1) := by decide +kernel
theorem dX8_furnaceByTemperature_1 : decode cX8_furnaceByTemperature 1 = .ok (.iconst 0, 1) := by decide +kernel
theorem dX8_furnaceByTemperature_2 : decode cX8_furnaceByTemperature 2 = .ok (.putfield 57, 3) := by decide +kernel
theorem dX8_furnaceByTemperature_5 : decode cX8_furnaceByTemperature 5 = .ok (.iconst 0, 1) := by decide +kernel
theorem dX8_furnaceByTemperature_6 : decode cX8_furnaceByTemperature 6 = .ok (.istore_n 2, 1) := by decide +kernel
theorem dX8_furnaceByTemperature_7 : decode cX8_furnaceByTemperature 7 = .ok (.iload_n 2, 1) := by decide +kernel
theorem dX8_furnaceByTemperature_8 : decode cX8_furnaceByTemperature 8 = .ok (.iconst 3, 1) := by decide +kernel
theorem dX8_furnaceByTemperature_9 : decode cX8_furnaceByTemperature 9 = .ok (.if_icmp .ge 113, 3) := by decide +kernel
theorem dX8_furnaceByTemperature_12 : decode cX8_furnaceByTemperature 12 = .ok (.iconst 0, 1) := by decide +kernel
theorem dX8_furnaceByTemperature_13 : decode cX8_furnaceByTemperature 13 = .ok (.istore_n 3, 1) := by decide +kernel
theorem dX8_furnaceByTemperature_14 : decode cX8_furnaceByTemperature 14 = .ok (.iconst 0, 1) := by decide +kernel
theorem dX8_furnaceByTemperature_15 : decode cX8_furnaceByTemperature 15 = .ok (.istore 4, 2) := by decide +kernel
theorem dX8_furnaceByTemperature_17 : decode cX8_furnaceByTemperature 17 = .ok (.iload 4, 2) := by decide +kernel
theorem dX8_furnaceByTemperature_19 : decode cX8_furnaceByTemperature 19 = .ok (.iconst 3, 1) := by decide +kernel
theorem dX8_furnaceByTemperature_20 : decode cX8_furnaceByTemperature 20 = .ok (.if_icmp .ge 89, 3) := by decide +kernel
theorem dX8_furnaceByTemperature_23 : decode cX8_furnaceByTemperature 23 = .ok (.aload_n 0, 1) := by decide +kernel
theorem dX8_furnaceByTemperature_24 : decode cX8_furnaceByTemperature 24 = .ok (.getfield 16, 3) := by decide +kernel
theorem dX8_furnaceByTemperature_27 : decode cX8_furnaceByTemperature 27 = .ok (.iload 4, 2) := by decide +kernel
theorem dX8_furnaceByTemperature_29 : decode cX8_furnaceByTemperature 29 = .ok (.invokestatic 50, 3) := by decide +kernel
theorem dX8_furnaceByTemperature_32 : decode cX8_furnaceByTemperature 32 = .ok (.iconst 4, 1) := by decide +kernel
theorem dX8_furnaceByTemperature_33 : decode cX8_furnaceByTemperature 33 = .ok (.iadd, 1) := by decide +kernel
theorem dX8_furnaceByTemperature_34 : decode cX8_furnaceByTemperature 34 = .ok (.iaload, 1) := by decide +kernel
theorem dX8_furnaceByTemperature_35 : decode cX8_furnaceByTemperature 35 = .ok (.aload_n 0, 1) := by decide +kernel
theorem dX8_furnaceByTemperature_36 : decode cX8_furnaceByTemperature 36 = .ok (.getfield 16, 3) := by decide +kernel
theorem dX8_furnaceByTemperature_39 : decode cX8_furnaceByTemperature 39 = .ok (.iload_n 2, 1) := by decide +kernel
theorem dX8_furnaceByTemperature_40 : decode cX8_furnaceByTemperature 40 = .ok (.invokestatic 50, 3) := by decide +kernel
theorem dX8_furnaceByTemperature_43 : decode cX8_furnaceByTemperature 43 = .ok (.iconst 4, 1) := by decide +kernel
theorem dX8_furnaceByTemperature_44 : decode cX8_furnaceByTemperature 44 = .ok (.iadd, 1) := by decide +kernel
theorem dX8_furnaceByTemperature_45 : decode cX8_furnaceByTemperature 45 = .ok (.iaload, 1) := by decide +kernel
theorem dX8_furnaceByTemperature_46 : decode cX8_furnaceByTemperature 46 = .ok (.isub, 1) := by decide +kernel
theorem dX8_furnaceByTemperature_47 : decode cX8_furnaceByTemperature 47 = .ok (.istore 5, 2) := by decide +kernel
theorem dX8_furnaceByTemperature_49 : decode cX8_furnaceByTemperature 49 = .ok (.iload 5, 2) := by decide +kernel
theorem dX8_furnaceByTemperature_51 : decode cX8_furnaceByTemperature 51 = .ok (.ifCond .eq 8, 3) := by decide +kernel
theorem dX8_furnaceByTemperature_54 : decode cX8_furnaceByTemperature 54 = .ok (.iload 5, 2) := by decide +kernel
theorem dX8_furnaceByTemperature_56 : decode cX8_furnaceByTemperature 56 = .ok (.goto 21, 3) := by decide +kernel
theorem dX8_furnaceByTemperature_59 : decode cX8_furnaceByTemperature 59 = .ok (.aload_n 0, 1) := by decide +kernel
theorem dX8_furnaceByTemperature_60 : decode cX8_furnaceByTemperature 60 = .ok (.iload 4, 2) := by decide +kernel
theorem dX8_furnaceByTemperature_62 : decode cX8_furnaceByTemperature 62 = .ok (.invokestatic 50, 3) := by decide +kernel
theorem dX8_furnaceByTemperature_65 : decode cX8_furnaceByTemperature 65 = .ok (.invokevirtual 71, 3) := by decide +kernel
theorem dX8_furnaceByTemperature_68 : decode cX8_furnaceByTemperature 68 = .ok (.aload_n 0, 1) := by decide +kernel
theorem dX8_furnaceByTemperature_69 : decode cX8_furnaceByTemperature 69 = .ok (.iload_n 2, 1) := by decide +kernel
theorem dX8_furnaceByTemperature_70 : decode cX8_furnaceByTemperature 70 = .ok (.invokestatic 50, 3) := by decide +kernel
theorem dX8_furnaceByTemperature_73 : decode cX8_furnaceByTemperature 73 = .ok (.invokevirtual 71, 3) := by decide +kernel
theorem dX8_furnaceByTemperature_76 : decode cX8_furnaceByTemperature 76 = .ok (.isub, 1) := by decide +kernel
theorem dX8_furnaceByTemperature_77 : decode cX8_furnaceByTemperature 77 = .ok (.istore 5, 2) := by decide +kernel
theorem dX8_furnaceByTemperature_79 : decode cX8_furnaceByTemperature 79 = .ok (.iload_n 3, 1) := by decide +kernel
theorem dX8_furnaceByTemperature_80 : decode cX8_furnaceByTemperature 80 = .ok (.iload 5, 2) := by decide +kernel
theorem dX8_furnaceByTemperature_82 : decode cX8_furnaceByTemperature 82 = .ok (.ifCond .gt 14, 3) := by decide +kernel
theorem dX8_furnaceByTemperature_85 : decode cX8_furnaceByTemperature 85 = .ok (.iload 5, 2) := by decide +kernel
theorem dX8_furnaceByTemperature_87 : decode cX8_furnaceByTemperature 87 = .ok (.ifCond .ne 13, 3) := by decide +kernel
theorem dX8_furnaceByTemperature_90 : decode cX8_furnaceByTemperature 90 = .ok (.iload 4, 2) := by decide +kernel
theorem dX8_furnaceByTemperature_92 : decode cX8_furnaceByTemperature 92 = .ok (.iload_n 2, 1) := by decide +kernel
theorem dX8_furnaceByTemperature_93 : decode cX8_furnaceByTemperature 93 = .ok (.if_icmp .ge 7, 3) := by decide +kernel
theorem dX8_furnaceByTemperature_96 : decode cX8_furnaceByTemperature 96 = .ok (.iconst 1, 1) := by decide +kernel
theorem dX8_furnaceByTemperature_97 : decode cX8_furnaceByTemperature 97 = .ok (.goto 4, 3) := by decide +kernel
theorem dX8_furnaceByTemperature_100 : decode cX8_furnaceByTemperature 100 = .ok (.iconst 0, 1) := by decide +kernel
theorem dX8_furnaceByTemperature_101 : decode cX8_furnaceByTemperature 101 = .ok (.iadd, 1) := by decide +kernel
theorem dX8_furnaceByTemperature_102 : decode cX8_furnaceByTemperature 102 = .ok (.istore_n 3, 1) := by decide +kernel
theorem dX8_furnaceByTemperature_103 : decode cX8_furnaceByTemperature 103 = .ok (.iinc 4 1, 3) := by decide +kernel
theorem dX8_furnaceByTemperature_106 : decode cX8_furnaceByTemperature 106 = .ok (.goto (-89), 3) := by decide +kernel
theorem dX8_furnaceByTemperature_109 : decode cX8_furnaceByTemperature 109 = .ok (.iload_n 3, 1) := by decide +kernel
theorem dX8_furnaceByTemperature_110 : decode cX8_furnaceByTemperature 110 = .ok (.iload_n 1, 1) := by decide +kernel
theorem dX8_furnaceByTemperature_111 : decode cX8_furnaceByTemperature 111 = .ok (.if_icmp .ne 5, 3) := by decide +kernel
theorem dX8_furnaceByTemperature_114 : decode cX8_furnaceByTemperature 114 = .ok (.iload_n 2, 1) := by decide +kernel
theorem dX8_furnaceByTemperature_115 : decode cX8_furnaceByTemperature 115 = .ok (.ireturn, 1) := by decide +kernel
theorem dX8_furnaceByTemperature_116 : decode cX8_furnaceByTemperature 116 = .ok (.iinc 2 1, 3) := by decide +kernel
theorem dX8_furnaceByTemperature_119 : decode cX8_furnaceByTemperature 119 = .ok (.goto (-112), 3) := by decide +kernel
theorem dX8_furnaceByTemperature_122 : decode cX8_furnaceByTemperature 122 = .ok (.aload_n 0, 1) := by decide +kernel
theorem dX8_furnaceByTemperature_123 : decode cX8_furnaceByTemperature 123 = .ok (.iconst 1, 1) := by decide +kernel
theorem dX8_furnaceByTemperature_124 : decode cX8_furnaceByTemperature 124 = .ok (.invokevirtual 89, 3) := by decide +kernel
theorem dX8_furnaceByTemperature_127 : decode cX8_furnaceByTemperature 127 = .ok (.ireturn, 1) := by decide +kernel
theorem dX8_ladleMass_0 : decode cX8_ladleMass 0 = .ok (.aload_n 0, 1) := by decide +kernel
theorem dX8_ladleMass_1 : decode cX8_ladleMass 1 = .ok (.iload_n 1, 1) := by decide +kernel
theorem dX8_ladleMass_2 : decode cX8_ladleMass 2 = .ok (.invokestatic 85, 3) := by decide +kernel
theorem dX8_ladleMass_5 : decode cX8_ladleMass 5 = .ok (.iload_n 1, 1) := by decide +kernel
theorem dX8_ladleMass_6 : decode cX8_ladleMass 6 = .ok (.invokestatic 54, 3) := by decide +kernel
theorem dX8_ladleMass_9 : decode cX8_ladleMass 9 = .ok (.iload_n 2, 1) := by decide +kernel
theorem dX8_ladleMass_10 : decode cX8_ladleMass 10 = .ok (.invokevirtual 164, 3) := by decide +kernel
theorem dX8_ladleMass_13 : decode cX8_ladleMass 13 = .ok (.ireturn, 1) := by decide +kernel
theorem dX8_ladleTotal_0 : decode cX8_ladleTotal 0 = .ok (.aload_n 0, 1) := by decide +kernel
theorem dX8_ladleTotal_1 : decode cX8_ladleTotal 1 = .ok (.iload_n 1, 1) := by decide +kernel
theorem dX8_ladleTotal_2 : decode cX8_ladleTotal 2 = .ok (.invokestatic 85, 3) := by decide +kernel
theorem dX8_ladleTotal_5 : decode cX8_ladleTotal 5 = .ok (.iload_n 1, 1) := by decide +kernel
theorem dX8_ladleTotal_6 : decode cX8_ladleTotal 6 = .ok (.invokestatic 54, 3) := by decide +kernel
theorem dX8_ladleTotal_9 : decode cX8_ladleTotal 9 = .ok (.invokevirtual 168, 3) := by decide +kernel
theorem dX8_ladleTotal_12 : decode cX8_ladleTotal 12 = .ok (.ireturn, 1) := by decide +kernel
theorem dX8_ladleTemperature_0 : decode cX8_ladleTemperature 0 = .ok (.aload_n 0, 1) := by decide +kernel
theorem dX8_ladleTemperature_1 : decode cX8_ladleTemperature 1 = .ok (.iload_n 1, 1) := by decide +kernel
theorem dX8_ladleTemperature_2 : decode cX8_ladleTemperature 2 = .ok (.invokestatic 85, 3) := by decide +kernel
theorem dX8_ladleTemperature_5 : decode cX8_ladleTemperature 5 = .ok (.iload_n 1, 1) := by decide +kernel
theorem dX8_ladleTemperature_6 : decode cX8_ladleTemperature 6 = .ok (.invokestatic 54, 3) := by decide +kernel
theorem dX8_ladleTemperature_9 : decode cX8_ladleTemperature 9 = .ok (.iconst 4, 1) := by decide +kernel
theorem dX8_ladleTemperature_10 : decode cX8_ladleTemperature 10 = .ok (.iadd, 1) := by decide +kernel
theorem dX8_ladleTemperature_11 : decode cX8_ladleTemperature 11 = .ok (.invokevirtual 172, 3) := by decide +kernel
theorem dX8_ladleTemperature_14 : decode cX8_ladleTemperature 14 = .ok (.ireturn, 1) := by decide +kernel
theorem dX8_pouringMinutes_0 : decode cX8_pouringMinutes 0 = .ok (.aload_n 0, 1) := by decide +kernel
theorem dX8_pouringMinutes_1 : decode cX8_pouringMinutes 1 = .ok (.iload_n 1, 1) := by decide +kernel
theorem dX8_pouringMinutes_2 : decode cX8_pouringMinutes 2 = .ok (.invokestatic 85, 3) := by decide +kernel
theorem dX8_pouringMinutes_5 : decode cX8_pouringMinutes 5 = .ok (.ifCond .ne 7, 3) := by decide +kernel
theorem dX8_pouringMinutes_8 : decode cX8_pouringMinutes 8 = .ok (.iconst 1, 1) := by decide +kernel
theorem dX8_pouringMinutes_9 : decode cX8_pouringMinutes 9 = .ok (.goto 19, 3) := by decide +kernel
theorem dX8_pouringMinutes_12 : decode cX8_pouringMinutes 12 = .ok (.aload_n 0, 1) := by decide +kernel
theorem dX8_pouringMinutes_13 : decode cX8_pouringMinutes 13 = .ok (.iload_n 1, 1) := by decide +kernel
theorem dX8_pouringMinutes_14 : decode cX8_pouringMinutes 14 = .ok (.invokestatic 54, 3) := by decide +kernel
theorem dX8_pouringMinutes_17 : decode cX8_pouringMinutes 17 = .ok (.invokevirtual 112, 3) := by decide +kernel
theorem dX8_pouringMinutes_20 : decode cX8_pouringMinutes 20 = .ok (.ifCond .eq 7, 3) := by decide +kernel
theorem dX8_pouringMinutes_23 : decode cX8_pouringMinutes 23 = .ok (.iconst 0, 1) := by decide +kernel
theorem dX8_pouringMinutes_24 : decode cX8_pouringMinutes 24 = .ok (.goto 4, 3) := by decide +kernel
theorem dX8_pouringMinutes_27 : decode cX8_pouringMinutes 27 = .ok (.iconst 2, 1) := by decide +kernel
theorem dX8_pouringMinutes_28 : decode cX8_pouringMinutes 28 = .ok (.putfield 57, 3) := by decide +kernel
theorem dX8_pouringMinutes_31 : decode cX8_pouringMinutes 31 = .ok (.aload_n 0, 1) := by decide +kernel
theorem dX8_pouringMinutes_32 : decode cX8_pouringMinutes 32 = .ok (.getfield 57, 3) := by decide +kernel
theorem dX8_pouringMinutes_35 : decode cX8_pouringMinutes 35 = .ok (.ifCond .ne 29, 3) := by decide +kernel
theorem dX8_pouringMinutes_38 : decode cX8_pouringMinutes 38 = .ok (.aload_n 0, 1) := by decide +kernel
theorem dX8_pouringMinutes_39 : decode cX8_pouringMinutes 39 = .ok (.getfield 16, 3) := by decide +kernel
theorem dX8_pouringMinutes_42 : decode cX8_pouringMinutes 42 = .ok (.iload_n 1, 1) := by decide +kernel
theorem dX8_pouringMinutes_43 : decode cX8_pouringMinutes 43 = .ok (.invokestatic 54, 3) := by decide +kernel
theorem dX8_pouringMinutes_46 : decode cX8_pouringMinutes 46 = .ok (.iconst 4, 1) := by decide +kernel
theorem dX8_pouringMinutes_47 : decode cX8_pouringMinutes 47 = .ok (.iadd, 1) := by decide +kernel
theorem dX8_pouringMinutes_48 : decode cX8_pouringMinutes 48 = .ok (.iaload, 1) := by decide +kernel
theorem dX8_pouringMinutes_49 : decode cX8_pouringMinutes 49 = .ok (.aload_n 0, 1) := by decide +kernel
theorem dX8_pouringMinutes_50 : decode cX8_pouringMinutes 50 = .ok (.iload_n 1, 1) := by decide +kernel
theorem dX8_pouringMinutes_51 : decode cX8_pouringMinutes 51 = .ok (.invokestatic 54, 3) := by decide +kernel
theorem dX8_pouringMinutes_54 : decode cX8_pouringMinutes 54 = .ok (.invokevirtual 74, 3) := by decide +kernel
theorem dX8_pouringMinutes_57 : decode cX8_pouringMinutes 57 = .ok (.isub, 1) := by decide +kernel
theorem dX8_pouringMinutes_58 : decode cX8_pouringMinutes 58 = .ok (.bipush 10, 2) := by decide +kernel
theorem dX8_pouringMinutes_60 : decode cX8_pouringMinutes 60 = .ok (.idiv, 1) := by decide +kernel
theorem dX8_pouringMinutes_61 : decode cX8_pouringMinutes 61 = .ok (.goto 4, 3) := by decide +kernel
theorem dX8_pouringMinutes_64 : decode cX8_pouringMinutes 64 = .ok (.iconst 0, 1) := by decide +kernel
theorem dX8_pouringMinutes_65 : decode cX8_pouringMinutes 65 = .ok (.ireturn, 1) := by decide +kernel
theorem dX8_mouldCount_0 : decode cX8_mouldCount 0 = .ok (.aload_n 0, 1) := by decide +kernel
theorem dX8_mouldCount_1 : decode cX8_mouldCount 1 = .ok (.iconst 0, 1) := by decide +kernel
theorem dX8_mouldCount_2 : decode cX8_mouldCount 2 = .ok (.putfield 57, 3) := by decide +kernel
theorem dX8_mouldCount_5 : decode cX8_mouldCount 5 = .ok (.aload_n 0, 1) := by decide +kernel
theorem dX8_mouldCount_6 : decode cX8_mouldCount 6 = .ok (.getfield 16, 3) := by decide +kernel
theorem dX8_mouldCount_9 : decode cX8_mouldCount 9 = .ok (.bipush 42, 2) := by decide +kernel
theorem dX8_mouldCount_11 : decode cX8_mouldCount 11 = .ok (.iaload, 1) := by decide +kernel
theorem dX8_mouldCount_12 : decode cX8_mouldCount 12 = .ok (.ireturn, 1) := by decide +kernel
theorem dX8_volume_0 : decode cX8_volume 0 = .ok (.aload_n 0, 1) := by decide +kernel
theorem dX8_volume_1 : decode cX8_volume 1 = .ok (.aload_n 0, 1) := by decide +kernel
theorem dX8_volume_2 : decode cX8_volume 2 = .ok (.iload_n 1, 1) := by decide +kernel
theorem dX8_volume_3 : decode cX8_volume 3 = .ok (.invokevirtual 140, 3) := by decide +kernel
theorem dX8_volume_6 : decode cX8_volume 6 = .ok (.iload_n 1, 1) := by decide +kernel
theorem dX8_volume_7 : decode cX8_volume 7 = .ok (.invokestatic 134, 3) := by decide +kernel
theorem dX8_volume_10 : decode cX8_volume 10 = .ok (.iconst 4, 1) := by decide +kernel
theorem dX8_volume_11 : decode cX8_volume 11 = .ok (.iadd, 1) := by decide +kernel
theorem dX8_volume_12 : decode cX8_volume 12 = .ok (.invokevirtual 172, 3) := by decide +kernel
theorem dX8_volume_15 : decode cX8_volume 15 = .ok (.ireturn, 1) := by decide +kernel
theorem dX8_isFilled_0 : decode cX8_isFilled 0 = .ok (.aload_n 0, 1) := by decide +kernel
theorem dX8_isFilled_1 : decode cX8_isFilled 1 = .ok (.aload_n 0, 1) := by decide +kernel
theorem dX8_isFilled_2 : decode cX8_isFilled 2 = .ok (.iload_n 1, 1) := by decide +kernel
theorem dX8_isFilled_3 : decode cX8_isFilled 3 = .ok (.invokevirtual 140, 3) := by decide +kernel
theorem dX8_isFilled_6 : decode cX8_isFilled 6 = .ok (.iload_n 1, 1) := by decide +kernel
theorem dX8_isFilled_7 : decode cX8_isFilled 7 = .ok (.invokestatic 134, 3) := by decide +kernel
theorem dX8_isFilled_10 : decode cX8_isFilled 10 = .ok (.iconst 5, 1) := by decide +kernel
theorem dX8_isFilled_11 : decode cX8_isFilled 11 = .ok (.iadd, 1) := by decide +kernel
theorem dX8_isFilled_12 : decode cX8_isFilled 12 = .ok (.invokevirtual 172, 3) := by decide +kernel
theorem dX8_isFilled_15 : decode cX8_isFilled 15 = .ok (.iconst 1, 1) := by decide +kernel
theorem dX8_isFilled_16 : decode cX8_isFilled 16 = .ok (.if_icmp .ne 7, 3) := by decide +kernel
theorem dX8_isFilled_19 : decode cX8_isFilled 19 = .ok (.iconst 1, 1) := by decide +kernel
theorem dX8_isFilled_20 : decode cX8_isFilled 20 = .ok (.goto 4, 3) := by decide +kernel
theorem dX8_isFilled_23 : decode cX8_isFilled 23 = .ok (.iconst 0, 1) := by decide +kernel
theorem dX8_isFilled_24 : decode cX8_isFilled 24 = .ok (.ireturn, 1) := by decide +kernel
theorem dX8_mouldMass_0 : decode cX8_mouldMass 0 = .ok (.aload_n 0, 1) := by decide +kernel
theorem dX8_mouldMass_1 : decode cX8_mouldMass 1 = .ok (.aload_n 0, 1) := by decide +kernel
theorem dX8_mouldMass_2 : decode cX8_mouldMass 2 = .ok (.iload_n 1, 1) := by decide +kernel
theorem dX8_mouldMass_3 : decode cX8_mouldMass 3 = .ok (.invokevirtual 140, 3) := by decide +kernel
theorem dX8_mouldMass_6 : decode cX8_mouldMass 6 = .ok (.iload_n 1, 1) := by decide +kernel
theorem dX8_mouldMass_7 : decode cX8_mouldMass 7 = .ok (.invokestatic 134, 3) := by decide +kernel
theorem dX8_mouldMass_10 : decode cX8_mouldMass 10 = .ok (.iload_n 2, 1) := by decide +kernel
theorem dX8_mouldMass_11 : decode cX8_mouldMass 11 = .ok (.invokevirtual 164, 3) := by decide +kernel
theorem dX8_mouldMass_14 : decode cX8_mouldMass 14 = .ok (.ireturn, 1) := by decide +kernel
theorem dX8_ingotCount_0 : decode cX8_ingotCount 0 = .ok (.aload_n 0, 1) := by decide +kernel
theorem dX8_ingotCount_1 : decode cX8_ingotCount 1 = .ok (.iconst 0, 1) := by decide +kernel
theorem dX8_ingotCount_2 : decode cX8_ingotCount 2 = .ok (.putfield 57, 3) := by decide +kernel
theorem dX8_ingotCount_5 : decode cX8_ingotCount 5 = .ok (.aload_n 0, 1) := by decide +kernel
theorem dX8_ingotCount_6 : decode cX8_ingotCount 6 = .ok (.getfield 16, 3) := by decide +kernel
theorem dX8_ingotCount_9 : decode cX8_ingotCount 9 = .ok (.bipush 43, 2) := by decide +kernel
theorem dX8_ingotCount_11 : decode cX8_ingotCount 11 = .ok (.iaload, 1) := by decide +kernel
theorem dX8_ingotCount_12 : decode cX8_ingotCount 12 = .ok (.ireturn, 1) := by decide +kernel
theorem dX8_ingotMass_0 : decode cX8_ingotMass 0 = .ok (.aload_n 0, 1) := by decide +kernel
theorem dX8_ingotMass_1 : decode cX8_ingotMass 1 = .ok (.aload_n 0, 1) := by decide +kernel
theorem dX8_ingotMass_2 : decode cX8_ingotMass 2 = .ok (.iload_n 1, 1) := by decide +kernel
theorem dX8_ingotMass_3 : decode cX8_ingotMass 3 = .ok (.invokevirtual 152, 3) := by decide +kernel
theorem dX8_ingotMass_6 : decode cX8_ingotMass 6 = .ok (.iload_n 1, 1) := by decide +kernel
theorem dX8_ingotMass_7 : decode cX8_ingotMass 7 = .ok (.invokestatic 146, 3) := by decide +kernel
theorem dX8_ingotMass_10 : decode cX8_ingotMass 10 = .ok (.iload_n 2, 1) := by decide +kernel
theorem dX8_ingotMass_11 : decode cX8_ingotMass 11 = .ok (.invokevirtual 164, 3) := by decide +kernel
theorem dX8_ingotMass_14 : decode cX8_ingotMass 14 = .ok (.ireturn, 1) := by decide +kernel
theorem dX8_shareOf_0 : decode cX8_shareOf 0 = .ok (.sipush 1000, 3) := by decide +kernel
theorem dX8_shareOf_3 : decode cX8_shareOf 3 = .ok (.aload_n 0, 1) := by decide +kernel
theorem dX8_shareOf_4 : decode cX8_shareOf 4 = .ok (.getfield 16, 3) := by decide +kernel
theorem dX8_shareOf_7 : decode cX8_shareOf 7 = .ok (.iload_n 1, 1) := by decide +kernel
theorem dX8_shareOf_8 : decode cX8_shareOf 8 = .ok (.invokestatic 146, 3) := by decide +kernel
theorem dX8_shareOf_11 : decode cX8_shareOf 11 = .ok (.iload_n 2, 1) := by decide +kernel
theorem dX8_shareOf_12 : decode cX8_shareOf 12 = .ok (.iadd, 1) := by decide +kernel
theorem dX8_shareOf_13 : decode cX8_shareOf 13 = .ok (.iaload, 1) := by decide +kernel
theorem dX8_shareOf_14 : decode cX8_shareOf 14 = .ok (.imul, 1) := by decide +kernel
theorem dX8_shareOf_15 : decode cX8_shareOf 15 = .ok (.aload_n 0, 1) := by decide +kernel
theorem dX8_shareOf_16 : decode cX8_shareOf 16 = .ok (.iload_n 1, 1) := by decide +kernel
theorem dX8_shareOf_17 : decode cX8_shareOf 17 = .ok (.invokestatic 146, 3) := by decide +kernel
theorem dX8_shareOf_20 : decode cX8_shareOf 20 = .ok (.invokevirtual 71, 3) := by decide +kernel
theorem dX8_shareOf_23 : decode cX8_shareOf 23 = .ok (.idiv, 1) := by decide +kernel
theorem dX8_shareOf_24 : decode cX8_shareOf 24 = .ok (.ireturn, 1) := by decide +kernel
theorem dX8_share_0 : decode cX8_share 0 = .ok (.aload_n 0, 1) := by decide +kernel
theorem dX8_share_1 : decode cX8_share 1 = .ok (.aload_n 0, 1) := by decide +kernel
theorem dX8_share_2 : decode cX8_share 2 = .ok (.iload_n 1, 1) := by decide +kernel
theorem dX8_share_3 : decode cX8_share 3 = .ok (.invokevirtual 152, 3) := by decide +kernel
theorem dX8_share_6 : decode cX8_share 6 = .ok (.ifCond .ne 7, 3) := by decide +kernel
theorem dX8_share_9 : decode cX8_share 9 = .ok (.iconst 1, 1) := by decide +kernel
theorem dX8_share_10 : decode cX8_share 10 = .ok (.goto 15, 3) := by decide +kernel
theorem dX8_share_13 : decode cX8_share 13 = .ok (.iload_n 2, 1) := by decide +kernel
theorem dX8_share_14 : decode cX8_share 14 = .ok (.invokestatic 99, 3) := by decide +kernel
theorem dX8_share_17 : decode cX8_share 17 = .ok (.ifCond .ge 7, 3) := by decide +kernel
theorem dX8_share_20 : decode cX8_share 20 = .ok (.iconst 2, 1) := by decide +kernel
theorem dX8_share_21 : decode cX8_share 21 = .ok (.goto 4, 3) := by decide +kernel
theorem dX8_share_24 : decode cX8_share 24 = .ok (.iconst 0, 1) := by decide +kernel
theorem dX8_share_25 : decode cX8_share 25 = .ok (.putfield 57, 3) := by decide +kernel
theorem dX8_share_28 : decode cX8_share 28 = .ok (.aload_n 0, 1) := by decide +kernel
theorem dX8_share_29 : decode cX8_share 29 = .ok (.getfield 57, 3) := by decide +kernel
theorem dX8_share_32 : decode cX8_share 32 = .ok (.ifCond .ne 15, 3) := by decide +kernel
theorem dX8_share_35 : decode cX8_share 35 = .ok (.aload_n 0, 1) := by decide +kernel
theorem dX8_share_36 : decode cX8_share 36 = .ok (.iload_n 1, 1) := by decide +kernel
theorem dX8_share_37 : decode cX8_share 37 = .ok (.iload_n 2, 1) := by decide +kernel
theorem dX8_share_38 : decode cX8_share 38 = .ok (.invokestatic 99, 3) := by decide +kernel
theorem dX8_share_41 : decode cX8_share 41 = .ok (.invokevirtual 181, 3) := by decide +kernel
theorem dX8_share_44 : decode cX8_share 44 = .ok (.goto 4, 3) := by decide +kernel
theorem dX8_share_47 : decode cX8_share 47 = .ok (.iconst 0, 1) := by decide +kernel
theorem dX8_share_48 : decode cX8_share 48 = .ok (.ireturn, 1) := by decide +kernel
theorem dX8_gradeOf_0 : decode cX8_gradeOf 0 = .ok (.aload_n 0, 1) := by decide +kernel
theorem dX8_gradeOf_1 : decode cX8_gradeOf 1 = .ok (.iload_n 1, 1) := by decide +kernel
theorem dX8_gradeOf_2 : decode cX8_gradeOf 2 = .ok (.iconst 3, 1) := by decide +kernel
theorem dX8_gradeOf_3 : decode cX8_gradeOf 3 = .ok (.invokevirtual 181, 3) := by decide +kernel
theorem dX8_gradeOf_6 : decode cX8_gradeOf 6 = .ok (.bipush 50, 2) := by decide +kernel
theorem dX8_gradeOf_8 : decode cX8_gradeOf 8 = .ok (.if_icmp .le 6, 3) := by decide +kernel
theorem dX8_gradeOf_11 : decode cX8_gradeOf 11 = .ok (.bipush 120, 2) := by decide +kernel
theorem dX8_gradeOf_13 : decode cX8_gradeOf 13 = .ok (.ireturn, 1) := by decide +kernel
theorem dX8_gradeOf_14 : decode cX8_gradeOf 14 = .ok (.aload_n 0, 1) := by decide +kernel
theorem dX8_gradeOf_15 : decode cX8_gradeOf 15 = .ok (.iload_n 1, 1) := by decide +kernel
theorem dX8_gradeOf_16 : decode cX8_gradeOf 16 = .ok (.iconst 0, 1) := by decide +kernel
theorem dX8_gradeOf_17 : decode cX8_gradeOf 17 = .ok (.invokevirtual 181, 3) := by decide +kernel
theorem dX8_gradeOf_20 : decode cX8_gradeOf 20 = .ok (.sipush 950, 3) := by decide +kernel
theorem dX8_gradeOf_23 : decode cX8_gradeOf 23 = .ok (.if_icmp .lt 6, 3) := by decide +kernel
theorem dX8_gradeOf_26 : decode cX8_gradeOf 26 = .ok (.bipush 99, 2) := by decide +kernel
theorem dX8_gradeOf_28 : decode cX8_gradeOf 28 = .ok (.ireturn, 1) := by decide +kernel
theorem dX8_gradeOf_29 : decode cX8_gradeOf 29 = .ok (.aload_n 0, 1) := by decide +kernel
theorem dX8_gradeOf_30 : decode cX8_gradeOf 30 = .ok (.iload_n 1, 1) := by decide +kernel
theorem dX8_gradeOf_31 : decode cX8_gradeOf 31 = .ok (.iconst 0, 1) := by decide +kernel
theorem dX8_gradeOf_32 : decode cX8_gradeOf 32 = .ok (.invokevirtual 181, 3) := by decide +kernel
theorem dX8_gradeOf_35 : decode cX8_gradeOf 35 = .ok (.sipush 800, 3) := by decide +kernel
theorem dX8_gradeOf_38 : decode cX8_gradeOf 38 = .ok (.if_icmp .lt 17, 3) := by decide +kernel
theorem dX8_gradeOf_41 : decode cX8_gradeOf 41 = .ok (.aload_n 0, 1) := by decide +kernel
theorem dX8_gradeOf_42 : decode cX8_gradeOf 42 = .ok (.iload_n 1, 1) := by decide +kernel
theorem dX8_gradeOf_43 : decode cX8_gradeOf 43 = .ok (.iconst 1, 1) := by decide +kernel
theorem dX8_gradeOf_44 : decode cX8_gradeOf 44 = .ok (.invokevirtual 181, 3) := by decide +kernel
theorem dX8_gradeOf_47 : decode cX8_gradeOf 47 = .ok (.bipush 100, 2) := by decide +kernel
theorem dX8_gradeOf_49 : decode cX8_gradeOf 49 = .ok (.if_icmp .lt 6, 3) := by decide +kernel
theorem dX8_gradeOf_52 : decode cX8_gradeOf 52 = .ok (.bipush 98, 2) := by decide +kernel
theorem dX8_gradeOf_54 : decode cX8_gradeOf 54 = .ok (.ireturn, 1) := by decide +kernel
theorem dX8_gradeOf_55 : decode cX8_gradeOf 55 = .ok (.aload_n 0, 1) := by decide +kernel
theorem dX8_gradeOf_56 : decode cX8_gradeOf 56 = .ok (.iload_n 1, 1) := by decide +kernel
theorem dX8_gradeOf_57 : decode cX8_gradeOf 57 = .ok (.iconst 1, 1) := by decide +kernel
theorem dX8_gradeOf_58 : decode cX8_gradeOf 58 = .ok (.invokevirtual 181, 3) := by decide +kernel
theorem dX8_gradeOf_61 : decode cX8_gradeOf 61 = .ok (.sipush 500, 3) := by decide +kernel
theorem dX8_gradeOf_64 : decode cX8_gradeOf 64 = .ok (.if_icmp .lt 20, 3) := by decide +kernel
theorem dX8_gradeOf_67 : decode cX8_gradeOf 67 = .ok (.aload_n 0, 1) := by decide +kernel
theorem dX8_gradeOf_68 : decode cX8_gradeOf 68 = .ok (.iload_n 1, 1) := by decide +kernel
theorem dX8_gradeOf_69 : decode cX8_gradeOf 69 = .ok (.iconst 2, 1) := by decide +kernel
theorem dX8_gradeOf_70 : decode cX8_gradeOf 70 = .ok (.invokevirtual 181, 3) := by decide +kernel
theorem dX8_gradeOf_73 : decode cX8_gradeOf 73 = .ok (.sipush 300, 3) := by decide +kernel
theorem dX8_gradeOf_76 : decode cX8_gradeOf 76 = .ok (.if_icmp .lt 8, 3) := by decide +kernel
theorem dX8_gradeOf_79 : decode cX8_gradeOf 79 = .ok (.bipush 115, 2) := by decide +kernel
theorem dX8_gradeOf_81 : decode cX8_gradeOf 81 = .ok (.goto 5, 3) := by decide +kernel
theorem dX8_gradeOf_84 : decode cX8_gradeOf 84 = .ok (.bipush 120, 2) := by decide +kernel
theorem dX8_gradeOf_86 : decode cX8_gradeOf 86 = .ok (.ireturn, 1) := by decide +kernel
theorem dX8_grade_0 : decode cX8_grade 0 = .ok (.aload_n 0, 1) := by decide +kernel
theorem dX8_grade_1 : decode cX8_grade 1 = .ok (.aload_n 0, 1) := by decide +kernel
theorem dX8_grade_2 : decode cX8_grade 2 = .ok (.iload_n 1, 1) := by decide +kernel
theorem dX8_grade_3 : decode cX8_grade 3 = .ok (.invokevirtual 152, 3) := by decide +kernel
theorem dX8_grade_6 : decode cX8_grade 6 = .ok (.ifCond .eq 7, 3) := by decide +kernel
theorem dX8_grade_9 : decode cX8_grade 9 = .ok (.iconst 0, 1) := by decide +kernel
theorem dX8_grade_10 : decode cX8_grade 10 = .ok (.goto 4, 3) := by decide +kernel
theorem dX8_grade_13 : decode cX8_grade 13 = .ok (.iconst 1, 1) := by decide +kernel
theorem dX8_grade_14 : decode cX8_grade 14 = .ok (.putfield 57, 3) := by decide +kernel
theorem dX8_grade_17 : decode cX8_grade 17 = .ok (.aload_n 0, 1) := by decide +kernel
theorem dX8_grade_18 : decode cX8_grade 18 = .ok (.getfield 57, 3) := by decide +kernel
theorem dX8_grade_21 : decode cX8_grade 21 = .ok (.ifCond .ne 12, 3) := by decide +kernel
theorem dX8_grade_24 : decode cX8_grade 24 = .ok (.aload_n 0, 1) := by decide +kernel
theorem dX8_grade_25 : decode cX8_grade 25 = .ok (.iload_n 1, 1) := by decide +kernel
theorem dX8_grade_26 : decode cX8_grade 26 = .ok (.invokevirtual 184, 3) := by decide +kernel
theorem dX8_grade_29 : decode cX8_grade 29 = .ok (.i2c, 1) := by decide +kernel
theorem dX8_grade_30 : decode cX8_grade 30 = .ok (.goto 5, 3) := by decide +kernel
theorem dX8_grade_33 : decode cX8_grade 33 = .ok (.bipush 97, 2) := by decide +kernel
theorem dX8_grade_35 : decode cX8_grade 35 = .ok (.ireturn, 1) := by decide +kernel
theorem dX8_ingotByMass_0 : decode cX8_ingotByMass 0 = .ok (.aload_n 0, 1) := by decide +kernel
theorem dX8_ingotByMass_1 : decode cX8_ingotByMass 1 = .ok (.iconst 0, 1) := by decide +kernel
theorem dX8_ingotByMass_2 : decode cX8_ingotByMass 2 = .ok (.putfield 57, 3) := by decide +kernel
theorem dX8_ingotByMass_5 : decode cX8_ingotByMass 5 = .ok (.iconst 0, 1) := by decide +kernel
theorem dX8_ingotByMass_6 : decode cX8_ingotByMass 6 = .ok (.istore_n 2, 1) := by decide +kernel
theorem dX8_ingotByMass_7 : decode cX8_ingotByMass 7 = .ok (.iload_n 2, 1) := by decide +kernel
theorem dX8_ingotByMass_8 : decode cX8_ingotByMass 8 = .ok (.aload_n 0, 1) := by decide +kernel
theorem dX8_ingotByMass_9 : decode cX8_ingotByMass 9 = .ok (.getfield 16, 3) := by decide +kernel
theorem dX8_ingotByMass_12 : decode cX8_ingotByMass 12 = .ok (.bipush 43, 2) := by decide +kernel
theorem dX8_ingotByMass_14 : decode cX8_ingotByMass 14 = .ok (.iaload, 1) := by decide +kernel
theorem dX8_ingotByMass_15 : decode cX8_ingotByMass 15 = .ok (.if_icmp .ge 115, 3) := by decide +kernel
theorem dX8_ingotByMass_18 : decode cX8_ingotByMass 18 = .ok (.iconst 0, 1) := by decide +kernel
theorem dX8_ingotByMass_19 : decode cX8_ingotByMass 19 = .ok (.istore_n 3, 1) := by decide +kernel
theorem dX8_ingotByMass_20 : decode cX8_ingotByMass 20 = .ok (.iconst 0, 1) := by decide +kernel
theorem dX8_ingotByMass_21 : decode cX8_ingotByMass 21 = .ok (.istore 4, 2) := by decide +kernel
theorem dX8_ingotByMass_23 : decode cX8_ingotByMass 23 = .ok (.iload 4, 2) := by decide +kernel
theorem dX8_ingotByMass_25 : decode cX8_ingotByMass 25 = .ok (.aload_n 0, 1) := by decide +kernel
theorem dX8_ingotByMass_26 : decode cX8_ingotByMass 26 = .ok (.getfield 16, 3) := by decide +kernel
theorem dX8_ingotByMass_29 : decode cX8_ingotByMass 29 = .ok (.bipush 43, 2) := by decide +kernel
theorem dX8_ingotByMass_31 : decode cX8_ingotByMass 31 = .ok (.iaload, 1) := by decide +kernel
theorem dX8_ingotByMass_32 : decode cX8_ingotByMass 32 = .ok (.if_icmp .ge 85, 3) := by decide +kernel
theorem dX8_ingotByMass_35 : decode cX8_ingotByMass 35 = .ok (.aload_n 0, 1) := by decide +kernel
theorem dX8_ingotByMass_36 : decode cX8_ingotByMass 36 = .ok (.iload 4, 2) := by decide +kernel
theorem dX8_ingotByMass_38 : decode cX8_ingotByMass 38 = .ok (.invokestatic 146, 3) := by decide +kernel
theorem dX8_ingotByMass_41 : decode cX8_ingotByMass 41 = .ok (.invokevirtual 71, 3) := by decide +kernel
theorem dX8_ingotByMass_44 : decode cX8_ingotByMass 44 = .ok (.aload_n 0, 1) := by decide +kernel
theorem dX8_ingotByMass_45 : decode cX8_ingotByMass 45 = .ok (.iload_n 2, 1) := by decide +kernel
theorem dX8_ingotByMass_46 : decode cX8_ingotByMass 46 = .ok (.invokestatic 146, 3) := by decide +kernel
theorem dX8_ingotByMass_49 : decode cX8_ingotByMass 49 = .ok (.invokevirtual 71, 3) := by decide +kernel
theorem dX8_ingotByMass_52 : decode cX8_ingotByMass 52 = .ok (.isub, 1) := by decide +kernel
theorem dX8_ingotByMass_53 : decode cX8_ingotByMass 53 = .ok (.istore 5, 2) := by decide +kernel
theorem dX8_ingotByMass_55 : decode cX8_ingotByMass 55 = .ok (.iload 5, 2) := by decide +kernel
theorem dX8_ingotByMass_57 : decode cX8_ingotByMass 57 = .ok (.ifCond .eq 8, 3) := by decide +kernel
theorem dX8_ingotByMass_60 : decode cX8_ingotByMass 60 = .ok (.iload 5, 2) := by decide +kernel
theorem dX8_ingotByMass_62 : decode cX8_ingotByMass 62 = .ok (.goto 23, 3) := by decide +kernel
theorem dX8_ingotByMass_65 : decode cX8_ingotByMass 65 = .ok (.aload_n 0, 1) := by decide +kernel
theorem dX8_ingotByMass_66 : decode cX8_ingotByMass 66 = .ok (.getfield 16, 3) := by decide +kernel
theorem dX8_ingotByMass_69 : decode cX8_ingotByMass 69 = .ok (.iload 4, 2) := by decide +kernel
theorem dX8_ingotByMass_71 : decode cX8_ingotByMass 71 = .ok (.invokestatic 146, 3) := by decide +kernel
theorem dX8_ingotByMass_74 : decode cX8_ingotByMass 74 = .ok (.iaload, 1) := by decide +kernel
theorem dX8_ingotByMass_75 : decode cX8_ingotByMass 75 = .ok (.aload_n 0, 1) := by decide +kernel
theorem dX8_ingotByMass_76 : decode cX8_ingotByMass 76 = .ok (.getfield 16, 3) := by decide +kernel
theorem dX8_ingotByMass_79 : decode cX8_ingotByMass 79 = .ok (.iload_n 2, 1) := by decide +kernel
theorem dX8_ingotByMass_80 : decode cX8_ingotByMass 80 = .ok (.invokestatic 146, 3) := by decide +kernel
theorem dX8_ingotByMass_83 : decode cX8_ingotByMass 83 = .ok (.iaload, 1) := by decide +kernel
theorem dX8_ingotByMass_84 : decode cX8_ingotByMass 84 = .ok (.isub, 1) := by decide +kernel
theorem dX8_ingotByMass_85 : decode cX8_ingotByMass 85 = .ok (.istore 5, 2) := by decide +kernel
theorem dX8_ingotByMass_87 : decode cX8_ingotByMass 87 = .ok (.iload_n 3, 1) := by decide +kernel
theorem dX8_ingotByMass_88 : decode cX8_ingotByMass 88 = .ok (.iload 5, 2) := by decide +kernel
theorem dX8_ingotByMass_90 : decode cX8_ingotByMass 90 = .ok (.ifCond .gt 14, 3) := by decide +kernel
theorem dX8_ingotByMass_93 : decode cX8_ingotByMass 93 = .ok (.iload 5, 2) := by decide +kernel
theorem dX8_ingotByMass_95 : decode cX8_ingotByMass 95 = .ok (.ifCond .ne 13, 3) := by decide +kernel
theorem dX8_ingotByMass_98 : decode cX8_ingotByMass 98 = .ok (.iload 4, 2) := by decide +kernel
theorem dX8_ingotByMass_100 : decode cX8_ingotByMass 100 = .ok (.iload_n 2, 1) := by decide +kernel
theorem dX8_ingotByMass_101 : decode cX8_ingotByMass 101 = .ok (.if_icmp .ge 7, 3) := by decide +kernel
theorem dX8_ingotByMass_104 : decode cX8_ingotByMass 104 = .ok (.iconst 1, 1) := by decide +kernel
theorem dX8_ingotByMass_105 : decode cX8_ingotByMass 105 = .ok (.goto 4, 3) := by decide +kernel
theorem dX8_ingotByMass_108 : decode cX8_ingotByMass 108 = .ok (.iconst 0, 1) := by decide +kernel
theorem dX8_ingotByMass_109 : decode cX8_ingotByMass 109 = .ok (.iadd, 1) := by decide +kernel
theorem dX8_ingotByMass_110 : decode cX8_ingotByMass 110 = .ok (.istore_n 3, 1) := by decide +kernel
theorem dX8_ingotByMass_111 : decode cX8_ingotByMass 111 = .ok (.iinc 4 1, 3) := by decide +kernel
theorem dX8_ingotByMass_114 : decode cX8_ingotByMass 114 = .ok (.goto (-91), 3) := by decide +kernel
theorem dX8_ingotByMass_117 : decode cX8_ingotByMass 117 = .ok (.iload_n 3, 1) := by decide +kernel
theorem dX8_ingotByMass_118 : decode cX8_ingotByMass 118 = .ok (.iload_n 1, 1) := by decide +kernel
theorem dX8_ingotByMass_119 : decode cX8_ingotByMass 119 = .ok (.if_icmp .ne 5, 3) := by decide +kernel
theorem dX8_ingotByMass_122 : decode cX8_ingotByMass 122 = .ok (.iload_n 2, 1) := by decide +kernel
theorem dX8_ingotByMass_123 : decode cX8_ingotByMass 123 = .ok (.ireturn, 1) := by decide +kernel
theorem dX8_ingotByMass_124 : decode cX8_ingotByMass 124 = .ok (.iinc 2 1, 3) := by decide +kernel
theorem dX8_ingotByMass_127 : decode cX8_ingotByMass 127 = .ok (.goto (-120), 3) := by decide +kernel
theorem dX8_ingotByMass_130 : decode cX8_ingotByMass 130 = .ok (.aload_n 0, 1) := by decide +kernel
theorem dX8_ingotByMass_131 : decode cX8_ingotByMass 131 = .ok (.iconst 1, 1) := by decide +kernel
theorem dX8_ingotByMass_132 : decode cX8_ingotByMass 132 = .ok (.invokevirtual 89, 3) := by decide +kernel
theorem dX8_ingotByMass_135 : decode cX8_ingotByMass 135 = .ok (.ireturn, 1) := by decide +kernel
theorem dX8_time_0 : decode cX8_time 0 = .ok (.aload_n 0, 1) := by decide +kernel
theorem dX8_time_1 : decode cX8_time 1 = .ok (.iconst 0, 1) := by decide +kernel
theorem dX8_time_2 : decode cX8_time 2 = .ok (.putfield 57, 3) := by decide +kernel
theorem dX8_time_5 : decode cX8_time 5 = .ok (.aload_n 0, 1) := by decide +kernel
theorem dX8_time_6 : decode cX8_time 6 = .ok (.getfield 16, 3) := by decide +kernel
theorem dX8_time_9 : decode cX8_time 9 = .ok (.iconst 0, 1) := by decide +kernel
theorem dX8_time_10 : decode cX8_time 10 = .ok (.iaload, 1) := by decide +kernel
theorem dX8_time_11 : decode cX8_time 11 = .ok (.ireturn, 1) := by decide +kernel
theorem dX8_account_0 : decode cX8_account 0 = .ok (.aload_n 0, 1) := by decide +kernel
theorem dX8_account_1 : decode cX8_account 1 = .ok (.iload_n 2, 1) := by decide +kernel
theorem dX8_account_2 : decode cX8_account 2 = .ok (.invokestatic 99, 3) := by decide +kernel
theorem dX8_account_5 : decode cX8_account 5 = .ok (.ifCond .ge 7, 3) := by decide +kernel
theorem dX8_account_8 : decode cX8_account 8 = .ok (.iconst 1, 1) := by decide +kernel
theorem dX8_account_9 : decode cX8_account 9 = .ok (.goto 4, 3) := by decide +kernel
theorem dX8_account_12 : decode cX8_account 12 = .ok (.iconst 0, 1) := by decide +kernel
theorem dX8_account_13 : decode cX8_account 13 = .ok (.putfield 57, 3) := by decide +kernel
theorem dX8_account_16 : decode cX8_account 16 = .ok (.aload_n 0, 1) := by decide +kernel
theorem dX8_account_17 : decode cX8_account 17 = .ok (.getfield 57, 3) := by decide +kernel
theorem dX8_account_20 : decode cX8_account 20 = .ok (.ifCond .ne 17, 3) := by decide +kernel
theorem dX8_account_23 : decode cX8_account 23 = .ok (.aload_n 0, 1) := by decide +kernel
theorem dX8_account_24 : decode cX8_account 24 = .ok (.getfield 16, 3) := by decide +kernel
theorem dX8_account_27 : decode cX8_account 27 = .ok (.iload_n 1, 1) := by decide +kernel
theorem dX8_account_28 : decode cX8_account 28 = .ok (.iload_n 2, 1) := by decide +kernel
theorem dX8_account_29 : decode cX8_account 29 = .ok (.invokestatic 99, 3) := by decide +kernel
theorem dX8_account_32 : decode cX8_account 32 = .ok (.iadd, 1) := by decide +kernel
theorem dX8_account_33 : decode cX8_account 33 = .ok (.iaload, 1) := by decide +kernel
theorem dX8_account_34 : decode cX8_account 34 = .ok (.goto 4, 3) := by decide +kernel
theorem dX8_account_37 : decode cX8_account 37 = .ok (.iconst 0, 1) := by decide +kernel
theorem dX8_account_38 : decode cX8_account 38 = .ok (.ireturn, 1) := by decide +kernel
theorem dX8_charged_0 : decode cX8_charged 0 = .ok (.aload_n 0, 1) := by decide +kernel
theorem dX8_charged_1 : decode cX8_charged 1 = .ok (.iconst 1, 1) := by decide +kernel
theorem dX8_charged_2 : decode cX8_charged 2 = .ok (.iload_n 1, 1) := by decide +kernel
theorem dX8_charged_3 : decode cX8_charged 3 = .ok (.invokevirtual 187, 3) := by decide +kernel
theorem dX8_charged_6 : decode cX8_charged 6 = .ok (.ireturn, 1) := by decide +kernel
theorem dX8_slag_0 : decode cX8_slag 0 = .ok (.aload_n 0, 1) := by decide +kernel
theorem dX8_slag_1 : decode cX8_slag 1 = .ok (.iconst 5, 1) := by decide +kernel
theorem dX8_slag_2 : decode cX8_slag 2 = .ok (.iload_n 1, 1) := by decide +kernel
theorem dX8_slag_3 : decode cX8_slag 3 = .ok (.invokevirtual 187, 3) := by decide +kernel
theorem dX8_slag_6 : decode cX8_slag 6 = .ok (.ireturn, 1) := by decide +kernel
theorem dX8_stock_0 : decode cX8_stock 0 = .ok (.aload_n 0, 1) := by decide +kernel
theorem dX8_stock_1 : decode cX8_stock 1 = .ok (.iload_n 1, 1) := by decide +kernel
theorem dX8_stock_2 : decode cX8_stock 2 = .ok (.invokestatic 99, 3) := by decide +kernel
theorem dX8_stock_5 : decode cX8_stock 5 = .ok (.ifCond .ge 7, 3) := by decide +kernel
theorem dX8_stock_8 : decode cX8_stock 8 = .ok (.iconst 1, 1) := by decide +kernel
theorem dX8_stock_9 : decode cX8_stock 9 = .ok (.goto 4, 3) := by decide +kernel
theorem dX8_stock_12 : decode cX8_stock 12 = .ok (.iconst 0, 1) := by decide +kernel
theorem dX8_stock_13 : decode cX8_stock 13 = .ok (.putfield 57, 3) := by decide +kernel
theorem dX8_stock_16 : decode cX8_stock 16 = .ok (.aload_n 0, 1) := by decide +kernel
theorem dX8_stock_17 : decode cX8_stock 17 = .ok (.getfield 57, 3) := by decide +kernel
theorem dX8_stock_20 : decode cX8_stock 20 = .ok (.ifCond .ne 29, 3) := by decide +kernel
theorem dX8_stock_23 : decode cX8_stock 23 = .ok (.aload_n 0, 1) := by decide +kernel
theorem dX8_stock_24 : decode cX8_stock 24 = .ok (.getfield 16, 3) := by decide +kernel
theorem dX8_stock_27 : decode cX8_stock 27 = .ok (.iconst 1, 1) := by decide +kernel
theorem dX8_stock_28 : decode cX8_stock 28 = .ok (.iload_n 1, 1) := by decide +kernel
theorem dX8_stock_29 : decode cX8_stock 29 = .ok (.invokestatic 99, 3) := by decide +kernel
theorem dX8_stock_32 : decode cX8_stock 32 = .ok (.iadd, 1) := by decide +kernel
theorem dX8_stock_33 : decode cX8_stock 33 = .ok (.iaload, 1) := by decide +kernel
theorem dX8_stock_34 : decode cX8_stock 34 = .ok (.aload_n 0, 1) := by decide +kernel
theorem dX8_stock_35 : decode cX8_stock 35 = .ok (.getfield 16, 3) := by decide +kernel
theorem dX8_stock_38 : decode cX8_stock 38 = .ok (.iconst 5, 1) := by decide +kernel
theorem dX8_stock_39 : decode cX8_stock 39 = .ok (.iload_n 1, 1) := by decide +kernel
theorem dX8_stock_40 : decode cX8_stock 40 = .ok (.invokestatic 99, 3) := by decide +kernel
theorem dX8_stock_43 : decode cX8_stock 43 = .ok (.iadd, 1) := by decide +kernel
theorem dX8_stock_44 : decode cX8_stock 44 = .ok (.iaload, 1) := by decide +kernel
theorem dX8_stock_45 : decode cX8_stock 45 = .ok (.isub, 1) := by decide +kernel
theorem dX8_stock_46 : decode cX8_stock 46 = .ok (.goto 4, 3) := by decide +kernel
theorem dX8_stock_49 : decode cX8_stock 49 = .ok (.iconst 0, 1) := by decide +kernel
theorem dX8_stock_50 : decode cX8_stock 50 = .ok (.ireturn, 1) := by decide +kernel
theorem dX8_stockByAccounts_0 : decode cX8_stockByAccounts 0 = .ok (.aload_n 0, 1) := by decide +kernel
theorem dX8_stockByAccounts_1 : decode cX8_stockByAccounts 1 = .ok (.iload_n 1, 1) := by decide +kernel
theorem dX8_stockByAccounts_2 : decode cX8_stockByAccounts 2 = .ok (.invokevirtual 190, 3) := by decide +kernel
theorem dX8_stockByAccounts_5 : decode cX8_stockByAccounts 5 = .ok (.ireturn, 1) := by decide +kernel
theorem dX8_meanTemperature_0 : decode cX8_meanTemperature 0 = .ok (.aload_n 0, 1) := by decide +kernel
theorem dX8_meanTemperature_1 : decode cX8_meanTemperature 1 = .ok (.iconst 0, 1) := by decide +kernel
theorem dX8_meanTemperature_2 : decode cX8_meanTemperature 2 = .ok (.putfield 57, 3) := by decide +kernel
theorem dX8_meanTemperature_5 : decode cX8_meanTemperature 5 = .ok (.iconst 0, 1) := by decide +kernel
theorem dX8_meanTemperature_6 : decode cX8_meanTemperature 6 = .ok (.istore_n 1, 1) := by decide +kernel
theorem dX8_meanTemperature_7 : decode cX8_meanTemperature 7 = .ok (.iconst 0, 1) := by decide +kernel
theorem dX8_meanTemperature_8 : decode cX8_meanTemperature 8 = .ok (.istore_n 2, 1) := by decide +kernel
theorem dX8_meanTemperature_9 : decode cX8_meanTemperature 9 = .ok (.iload_n 2, 1) := by decide +kernel
theorem dX8_meanTemperature_10 : decode cX8_meanTemperature 10 = .ok (.iconst 3, 1) := by decide +kernel
theorem dX8_meanTemperature_11 : decode cX8_meanTemperature 11 = .ok (.if_icmp .ge 23, 3) := by decide +kernel
theorem dX8_meanTemperature_14 : decode cX8_meanTemperature 14 = .ok (.iload_n 1, 1) := by decide +kernel
theorem dX8_meanTemperature_15 : decode cX8_meanTemperature 15 = .ok (.aload_n 0, 1) := by decide +kernel
theorem dX8_meanTemperature_16 : decode cX8_meanTemperature 16 = .ok (.getfield 16, 3) := by decide +kernel
theorem dX8_meanTemperature_19 : decode cX8_meanTemperature 19 = .ok (.iload_n 2, 1) := by decide +kernel
theorem dX8_meanTemperature_20 : decode cX8_meanTemperature 20 = .ok (.invokestatic 50, 3) := by decide +kernel
theorem dX8_meanTemperature_23 : decode cX8_meanTemperature 23 = .ok (.iconst 4, 1) := by decide +kernel
theorem dX8_meanTemperature_24 : decode cX8_meanTemperature 24 = .ok (.iadd, 1) := by decide +kernel
theorem dX8_meanTemperature_25 : decode cX8_meanTemperature 25 = .ok (.iaload, 1) := by decide +kernel
theorem dX8_meanTemperature_26 : decode cX8_meanTemperature 26 = .ok (.iadd, 1) := by decide +kernel
theorem dX8_meanTemperature_27 : decode cX8_meanTemperature 27 = .ok (.istore_n 1, 1) := by decide +kernel
theorem dX8_meanTemperature_28 : decode cX8_meanTemperature 28 = .ok (.iinc 2 1, 3) := by decide +kernel
theorem dX8_meanTemperature_31 : decode cX8_meanTemperature 31 = .ok (.goto (-22), 3) := by decide +kernel
theorem dX8_meanTemperature_34 : decode cX8_meanTemperature 34 = .ok (.iload_n 1, 1) := by decide +kernel
theorem dX8_meanTemperature_35 : decode cX8_meanTemperature 35 = .ok (.i2d, 1) := by decide +kernel
theorem dX8_meanTemperature_36 : decode cX8_meanTemperature 36 = .ok (.ldc2_w 194, 3) := by decide +kernel
theorem dX8_meanTemperature_39 : decode cX8_meanTemperature 39 = .ok (.ddiv, 1) := by decide +kernel
theorem dX8_meanTemperature_40 : decode cX8_meanTemperature 40 = .ok (.dreturn, 1) := by decide +kernel
theorem dX8_slagRate_0 : decode cX8_slagRate 0 = .ok (.aload_n 0, 1) := by decide +kernel
theorem dX8_slagRate_1 : decode cX8_slagRate 1 = .ok (.aload_n 0, 1) := by decide +kernel
theorem dX8_slagRate_2 : decode cX8_slagRate 2 = .ok (.iconst 1, 1) := by decide +kernel
theorem dX8_slagRate_3 : decode cX8_slagRate 3 = .ok (.invokevirtual 71, 3) := by decide +kernel
theorem dX8_slagRate_6 : decode cX8_slagRate 6 = .ok (.ifCond .ne 7, 3) := by decide +kernel
theorem dX8_slagRate_9 : decode cX8_slagRate 9 = .ok (.iconst 1, 1) := by decide +kernel
theorem dX8_slagRate_10 : decode cX8_slagRate 10 = .ok (.goto 4, 3) := by decide +kernel
theorem dX8_slagRate_13 : decode cX8_slagRate 13 = .ok (.iconst 0, 1) := by decide +kernel
theorem dX8_slagRate_14 : decode cX8_slagRate 14 = .ok (.putfield 57, 3) := by decide +kernel
theorem dX8_slagRate_17 : decode cX8_slagRate 17 = .ok (.aload_n 0, 1) := by decide +kernel
theorem dX8_slagRate_18 : decode cX8_slagRate 18 = .ok (.getfield 57, 3) := by decide +kernel
theorem dX8_slagRate_21 : decode cX8_slagRate 21 = .ok (.ifCond .ne 19, 3) := by decide +kernel
theorem dX8_slagRate_24 : decode cX8_slagRate 24 = .ok (.aload_n 0, 1) := by decide +kernel
theorem dX8_slagRate_25 : decode cX8_slagRate 25 = .ok (.iconst 5, 1) := by decide +kernel
theorem dX8_slagRate_26 : decode cX8_slagRate 26 = .ok (.invokevirtual 71, 3) := by decide +kernel
theorem dX8_slagRate_29 : decode cX8_slagRate 29 = .ok (.i2f, 1) := by decide +kernel
theorem dX8_slagRate_30 : decode cX8_slagRate 30 = .ok (.aload_n 0, 1) := by decide +kernel
theorem dX8_slagRate_31 : decode cX8_slagRate 31 = .ok (.iconst 1, 1) := by decide +kernel
theorem dX8_slagRate_32 : decode cX8_slagRate 32 = .ok (.invokevirtual 71, 3) := by decide +kernel
theorem dX8_slagRate_35 : decode cX8_slagRate 35 = .ok (.i2f, 1) := by decide +kernel
theorem dX8_slagRate_36 : decode cX8_slagRate 36 = .ok (.fdiv, 1) := by decide +kernel
theorem dX8_slagRate_37 : decode cX8_slagRate 37 = .ok (.goto 4, 3) := by decide +kernel
theorem dX8_slagRate_40 : decode cX8_slagRate 40 = .ok (.fconst 0, 1) := by decide +kernel
theorem dX8_slagRate_41 : decode cX8_slagRate 41 = .ok (.freturn, 1) := by decide +kernel
theorem dX8_isConsistent_0 : decode cX8_isConsistent 0 = .ok (.aload_n 0, 1) := by decide +kernel
theorem dX8_isConsistent_1 : decode cX8_isConsistent 1 = .ok (.iconst 0, 1) := by decide +kernel
theorem dX8_isConsistent_2 : decode cX8_isConsistent 2 = .ok (.putfield 57, 3) := by decide +kernel
theorem dX8_isConsistent_5 : decode cX8_isConsistent 5 = .ok (.iconst 0, 1) := by decide +kernel
theorem dX8_isConsistent_6 : decode cX8_isConsistent 6 = .ok (.istore_n 1, 1) := by decide +kernel
theorem dX8_isConsistent_7 : decode cX8_isConsistent 7 = .ok (.iconst 0, 1) := by decide +kernel
theorem dX8_isConsistent_8 : decode cX8_isConsistent 8 = .ok (.istore_n 2, 1) := by decide +kernel
theorem dX8_isConsistent_9 : decode cX8_isConsistent 9 = .ok (.iload_n 2, 1) := by decide +kernel
theorem dX8_isConsistent_10 : decode cX8_isConsistent 10 = .ok (.iconst 3, 1) := by decide +kernel
theorem dX8_isConsistent_11 : decode cX8_isConsistent 11 = .ok (.if_icmp .ge 29, 3) := by decide +kernel
theorem dX8_isConsistent_14 : decode cX8_isConsistent 14 = .ok (.iload_n 1, 1) := by decide +kernel
theorem dX8_isConsistent_15 : decode cX8_isConsistent 15 = .ok (.aload_n 0, 1) := by decide +kernel
theorem dX8_isConsistent_16 : decode cX8_isConsistent 16 = .ok (.iload_n 2, 1) := by decide +kernel
theorem dX8_isConsistent_17 : decode cX8_isConsistent 17 = .ok (.invokestatic 50, 3) := by decide +kernel
theorem dX8_isConsistent_20 : decode cX8_isConsistent 20 = .ok (.invokevirtual 71, 3) := by decide +kernel
theorem dX8_isConsistent_23 : decode cX8_isConsistent 23 = .ok (.aload_n 0, 1) := by decide +kernel
theorem dX8_isConsistent_24 : decode cX8_isConsistent 24 = .ok (.iload_n 2, 1) := by decide +kernel
theorem dX8_isConsistent_25 : decode cX8_isConsistent 25 = .ok (.invokestatic 54, 3) := by decide +kernel
theorem dX8_isConsistent_28 : decode cX8_isConsistent 28 = .ok (.invokevirtual 71, 3) := by decide +kernel
theorem dX8_isConsistent_31 : decode cX8_isConsistent 31 = .ok (.iadd, 1) := by decide +kernel
theorem dX8_isConsistent_32 : decode cX8_isConsistent 32 = .ok (.iadd, 1) := by decide +kernel
theorem dX8_isConsistent_33 : decode cX8_isConsistent 33 = .ok (.istore_n 1, 1) := by decide +kernel
theorem dX8_isConsistent_34 : decode cX8_isConsistent 34 = .ok (.iinc 2 1, 3) := by decide +kernel
theorem dX8_isConsistent_37 : decode cX8_isConsistent 37 = .ok (.goto (-28), 3) := by decide +kernel
theorem dX8_isConsistent_40 : decode cX8_isConsistent 40 = .ok (.iconst 0, 1) := by decide +kernel
theorem dX8_isConsistent_41 : decode cX8_isConsistent 41 = .ok (.istore_n 2, 1) := by decide +kernel
theorem dX8_isConsistent_42 : decode cX8_isConsistent 42 = .ok (.iload_n 2, 1) := by decide +kernel
theorem dX8_isConsistent_43 : decode cX8_isConsistent 43 = .ok (.aload_n 0, 1) := by decide +kernel
theorem dX8_isConsistent_44 : decode cX8_isConsistent 44 = .ok (.getfield 16, 3) := by decide +kernel
theorem dX8_isConsistent_47 : decode cX8_isConsistent 47 = .ok (.bipush 42, 2) := by decide +kernel
theorem dX8_isConsistent_49 : decode cX8_isConsistent 49 = .ok (.iaload, 1) := by decide +kernel
theorem dX8_isConsistent_50 : decode cX8_isConsistent 50 = .ok (.if_icmp .ge 20, 3) := by decide +kernel
theorem dX8_isConsistent_53 : decode cX8_isConsistent 53 = .ok (.iload_n 1, 1) := by decide +kernel
theorem dX8_isConsistent_54 : decode cX8_isConsistent 54 = .ok (.aload_n 0, 1) := by decide +kernel
theorem dX8_isConsistent_55 : decode cX8_isConsistent 55 = .ok (.iload_n 2, 1) := by decide +kernel
theorem dX8_isConsistent_56 : decode cX8_isConsistent 56 = .ok (.invokestatic 134, 3) := by decide +kernel
theorem dX8_isConsistent_59 : decode cX8_isConsistent 59 = .ok (.invokevirtual 71, 3) := by decide +kernel
theorem dX8_isConsistent_62 : decode cX8_isConsistent 62 = .ok (.iadd, 1) := by decide +kernel
theorem dX8_isConsistent_63 : decode cX8_isConsistent 63 = .ok (.istore_n 1, 1) := by decide +kernel
theorem dX8_isConsistent_64 : decode cX8_isConsistent 64 = .ok (.iinc 2 1, 3) := by decide +kernel
theorem dX8_isConsistent_67 : decode cX8_isConsistent 67 = .ok (.goto (-25), 3) := by decide +kernel
theorem dX8_isConsistent_70 : decode cX8_isConsistent 70 = .ok (.iconst 0, 1) := by decide +kernel
theorem dX8_isConsistent_71 : decode cX8_isConsistent 71 = .ok (.istore_n 2, 1) := by decide +kernel
theorem dX8_isConsistent_72 : decode cX8_isConsistent 72 = .ok (.iload_n 2, 1) := by decide +kernel
theorem dX8_isConsistent_73 : decode cX8_isConsistent 73 = .ok (.aload_n 0, 1) := by decide +kernel
theorem dX8_isConsistent_74 : decode cX8_isConsistent 74 = .ok (.getfield 16, 3) := by decide +kernel
theorem dX8_isConsistent_77 : decode cX8_isConsistent 77 = .ok (.bipush 43, 2) := by decide +kernel
theorem dX8_isConsistent_79 : decode cX8_isConsistent 79 = .ok (.iaload, 1) := by decide +kernel
theorem dX8_isConsistent_80 : decode cX8_isConsistent 80 = .ok (.if_icmp .ge 20, 3) := by decide +kernel
theorem dX8_isConsistent_83 : decode cX8_isConsistent 83 = .ok (.iload_n 1, 1) := by decide +kernel
theorem dX8_isConsistent_84 : decode cX8_isConsistent 84 = .ok (.aload_n 0, 1) := by decide +kernel
theorem dX8_isConsistent_85 : decode cX8_isConsistent 85 = .ok (.iload_n 2, 1) := by decide +kernel
theorem dX8_isConsistent_86 : decode cX8_isConsistent 86 = .ok (.invokestatic 146, 3) := by decide +kernel
theorem dX8_isConsistent_89 : decode cX8_isConsistent 89 = .ok (.invokevirtual 71, 3) := by decide +kernel
theorem dX8_isConsistent_92 : decode cX8_isConsistent 92 = .ok (.iadd, 1) := by decide +kernel
theorem dX8_isConsistent_93 : decode cX8_isConsistent 93 = .ok (.istore_n 1, 1) := by decide +kernel
theorem dX8_isConsistent_94 : decode cX8_isConsistent 94 = .ok (.iinc 2 1, 3) := by decide +kernel
theorem dX8_isConsistent_97 : decode cX8_isConsistent 97 = .ok (.goto (-25), 3) := by decide +kernel
theorem dX8_isConsistent_100 : decode cX8_isConsistent 100 = .ok (.iload_n 1, 1) := by decide +kernel
theorem dX8_isConsistent_101 : decode cX8_isConsistent 101 = .ok (.aload_n 0, 1) := by decide +kernel
theorem dX8_isConsistent_102 : decode cX8_isConsistent 102 = .ok (.iconst 1, 1) := by decide +kernel
theorem dX8_isConsistent_103 : decode cX8_isConsistent 103 = .ok (.invokevirtual 71, 3) := by decide +kernel
theorem dX8_isConsistent_106 : decode cX8_isConsistent 106 = .ok (.aload_n 0, 1) := by decide +kernel
theorem dX8_isConsistent_107 : decode cX8_isConsistent 107 = .ok (.iconst 5, 1) := by decide +kernel
theorem dX8_isConsistent_108 : decode cX8_isConsistent 108 = .ok (.invokevirtual 71, 3) := by decide +kernel
theorem dX8_isConsistent_111 : decode cX8_isConsistent 111 = .ok (.isub, 1) := by decide +kernel
theorem dX8_isConsistent_112 : decode cX8_isConsistent 112 = .ok (.if_icmp .ne 7, 3) := by decide +kernel
theorem dX8_isConsistent_115 : decode cX8_isConsistent 115 = .ok (.iconst 1, 1) := by decide +kernel
theorem dX8_isConsistent_116 : decode cX8_isConsistent 116 = .ok (.goto 4, 3) := by decide +kernel
theorem dX8_isConsistent_119 : decode cX8_isConsistent 119 = .ok (.iconst 0, 1) := by decide +kernel
theorem dX8_isConsistent_120 : decode cX8_isConsistent 120 = .ok (.ireturn, 1) := by decide +kernel
theorem dX8_letter_0 : decode cX8_letter 0 = .ok (.iload_n 0, 1) := by decide +kernel
theorem dX8_letter_1 : decode cX8_letter 1 = .ok (.ifCond .ne 8, 3) := by decide +kernel
theorem dX8_letter_4 : decode cX8_letter 4 = .ok (.bipush 99, 2) := by decide +kernel
theorem dX8_letter_6 : decode cX8_letter 6 = .ok (.goto 25, 3) := by decide +kernel
theorem dX8_letter_9 : decode cX8_letter 9 = .ok (.iload_n 0, 1) := by decide +kernel
theorem dX8_letter_10 : decode cX8_letter 10 = .ok (.iconst 1, 1) := by decide +kernel
theorem dX8_letter_11 : decode cX8_letter 11 = .ok (.if_icmp .ne 8, 3) := by decide +kernel
theorem dX8_letter_14 : decode cX8_letter 14 = .ok (.bipush 116, 2) := by decide +kernel
theorem dX8_letter_16 : decode cX8_letter 16 = .ok (.goto 15, 3) := by decide +kernel
theorem dX8_letter_19 : decode cX8_letter 19 = .ok (.iload_n 0, 1) := by decide +kernel
theorem dX8_letter_20 : decode cX8_letter 20 = .ok (.iconst 2, 1) := by decide +kernel
theorem dX8_letter_21 : decode cX8_letter 21 = .ok (.if_icmp .ne 8, 3) := by decide +kernel
theorem dX8_letter_24 : decode cX8_letter 24 = .ok (.bipush 108, 2) := by decide +kernel
theorem dX8_letter_26 : decode cX8_letter 26 = .ok (.goto 5, 3) := by decide +kernel
theorem dX8_letter_29 : decode cX8_letter 29 = .ok (.bipush 111, 2) := by decide +kernel
theorem dX8_letter_31 : decode cX8_letter 31 = .ok (.ireturn, 1) := by decide +kernel
theorem dX8_writes_0 : decode cX8_writes 0 = .ok (.aload_n 0, 1) := by decide +kernel
theorem dX8_writes_1 : decode cX8_writes 1 = .ok (.getfield 38, 3) := by decide +kernel
theorem dX8_writes_4 : decode cX8_writes 4 = .ok (.aload_n 0, 1) := by decide +kernel
theorem dX8_writes_5 : decode cX8_writes 5 = .ok (.getfield 196, 3) := by decide +kernel
theorem dX8_writes_8 : decode cX8_writes 8 = .ok (.iload_n 1, 1) := by decide +kernel
theorem dX8_writes_9 : decode cX8_writes 9 = .ok (.iastore, 1) := by decide +kernel
theorem dX8_writes_10 : decode cX8_writes 10 = .ok (.aload_n 0, 1) := by decide +kernel
theorem dX8_writes_11 : decode cX8_writes 11 = .ok (.dup, 1) := by decide +kernel
theorem dX8_writes_12 : decode cX8_writes 12 = .ok (.getfield 196, 3) := by decide +kernel
theorem dX8_writes_15 : decode cX8_writes 15 = .ok (.iconst 1, 1) := by decide +kernel
theorem dX8_writes_16 : decode cX8_writes 16 = .ok (.iadd, 1) := by decide +kernel
theorem dX8_writes_17 : decode cX8_writes 17 = .ok (.putfield 196, 3) := by decide +kernel
theorem dX8_writes_20 : decode cX8_writes 20 = .ok (.return_, 1) := by decide +kernel
theorem dX8_writesNumber_0 : decode cX8_writesNumber 0 = .ok (.iconst 1, 1) := by decide +kernel
theorem dX8_writesNumber_1 : decode cX8_writesNumber 1 = .ok (.istore_n 2, 1) := by decide +kernel
theorem dX8_writesNumber_2 : decode cX8_writesNumber 2 = .ok (.iload_n 1, 1) := by decide +kernel
theorem dX8_writesNumber_3 : decode cX8_writesNumber 3 = .ok (.iload_n 2, 1) := by decide +kernel
theorem dX8_writesNumber_4 : decode cX8_writesNumber 4 = .ok (.idiv, 1) := by decide +kernel
theorem dX8_writesNumber_5 : decode cX8_writesNumber 5 = .ok (.bipush 10, 2) := by decide +kernel
theorem dX8_writesNumber_7 : decode cX8_writesNumber 7 = .ok (.if_icmp .lt 11, 3) := by decide +kernel
theorem dX8_writesNumber_10 : decode cX8_writesNumber 10 = .ok (.iload_n 2, 1) := by decide +kernel
theorem dX8_writesNumber_11 : decode cX8_writesNumber 11 = .ok (.bipush 10, 2) := by decide +kernel
theorem dX8_writesNumber_13 : decode cX8_writesNumber 13 = .ok (.imul, 1) := by decide +kernel
theorem dX8_writesNumber_14 : decode cX8_writesNumber 14 = .ok (.istore_n 2, 1) := by decide +kernel
theorem dX8_writesNumber_15 : decode cX8_writesNumber 15 = .ok (.goto (-13), 3) := by decide +kernel
theorem dX8_writesNumber_18 : decode cX8_writesNumber 18 = .ok (.iload_n 2, 1) := by decide +kernel
theorem dX8_writesNumber_19 : decode cX8_writesNumber 19 = .ok (.ifCond .le 24, 3) := by decide +kernel
theorem dX8_writesNumber_22 : decode cX8_writesNumber 22 = .ok (.aload_n 0, 1) := by decide +kernel
theorem dX8_writesNumber_23 : decode cX8_writesNumber 23 = .ok (.bipush 48, 2) := by decide +kernel
theorem dX8_writesNumber_25 : decode cX8_writesNumber 25 = .ok (.iload_n 1, 1) := by decide +kernel
theorem dX8_writesNumber_26 : decode cX8_writesNumber 26 = .ok (.iload_n 2, 1) := by decide +kernel
theorem dX8_writesNumber_27 : decode cX8_writesNumber 27 = .ok (.idiv, 1) := by decide +kernel
theorem dX8_writesNumber_28 : decode cX8_writesNumber 28 = .ok (.bipush 10, 2) := by decide +kernel
theorem dX8_writesNumber_30 : decode cX8_writesNumber 30 = .ok (.irem, 1) := by decide +kernel
theorem dX8_writesNumber_31 : decode cX8_writesNumber 31 = .ok (.iadd, 1) := by decide +kernel
theorem dX8_writesNumber_32 : decode cX8_writesNumber 32 = .ok (.invokevirtual 199, 3) := by decide +kernel
theorem dX8_writesNumber_35 : decode cX8_writesNumber 35 = .ok (.iload_n 2, 1) := by decide +kernel
theorem dX8_writesNumber_36 : decode cX8_writesNumber 36 = .ok (.bipush 10, 2) := by decide +kernel
theorem dX8_writesNumber_38 : decode cX8_writesNumber 38 = .ok (.idiv, 1) := by decide +kernel
theorem dX8_writesNumber_39 : decode cX8_writesNumber 39 = .ok (.istore_n 2, 1) := by decide +kernel
theorem dX8_writesNumber_40 : decode cX8_writesNumber 40 = .ok (.goto (-22), 3) := by decide +kernel
theorem dX8_writesNumber_43 : decode cX8_writesNumber 43 = .ok (.return_, 1) := by decide +kernel
theorem dX8_renderFurnace_0 : decode cX8_renderFurnace 0 = .ok (.aload_n 0, 1) := by decide +kernel
theorem dX8_renderFurnace_1 : decode cX8_renderFurnace 1 = .ok (.iload_n 1, 1) := by decide +kernel
theorem dX8_renderFurnace_2 : decode cX8_renderFurnace 2 = .ok (.invokestatic 85, 3) := by decide +kernel
theorem dX8_renderFurnace_5 : decode cX8_renderFurnace 5 = .ok (.ifCond .eq 7, 3) := by decide +kernel
theorem dX8_renderFurnace_8 : decode cX8_renderFurnace 8 = .ok (.iconst 0, 1) := by decide +kernel
theorem dX8_renderFurnace_9 : decode cX8_renderFurnace 9 = .ok (.goto 4, 3) := by decide +kernel
theorem dX8_renderFurnace_12 : decode cX8_renderFurnace 12 = .ok (.iconst 1, 1) := by decide +kernel
theorem dX8_renderFurnace_13 : decode cX8_renderFurnace 13 = .ok (.putfield 57, 3) := by decide +kernel
theorem dX8_renderFurnace_16 : decode cX8_renderFurnace 16 = .ok (.aload_n 0, 1) := by decide +kernel
theorem dX8_renderFurnace_17 : decode cX8_renderFurnace 17 = .ok (.getfield 57, 3) := by decide +kernel
theorem dX8_renderFurnace_20 : decode cX8_renderFurnace 20 = .ok (.ifCond .eq 5, 3) := by decide +kernel
theorem dX8_renderFurnace_23 : decode cX8_renderFurnace 23 = .ok (.iconst 0, 1) := by decide +kernel
theorem dX8_renderFurnace_24 : decode cX8_renderFurnace 24 = .ok (.ireturn, 1) := by decide +kernel
theorem dX8_renderFurnace_25 : decode cX8_renderFurnace 25 = .ok (.iload_n 1, 1) := by decide +kernel
theorem dX8_renderFurnace_26 : decode cX8_renderFurnace 26 = .ok (.invokestatic 50, 3) := by decide +kernel
theorem dX8_renderFurnace_29 : decode cX8_renderFurnace 29 = .ok (.istore_n 2, 1) := by decide +kernel
theorem dX8_renderFurnace_30 : decode cX8_renderFurnace 30 = .ok (.aload_n 0, 1) := by decide +kernel
theorem dX8_renderFurnace_31 : decode cX8_renderFurnace 31 = .ok (.iconst 0, 1) := by decide +kernel
theorem dX8_renderFurnace_32 : decode cX8_renderFurnace 32 = .ok (.putfield 196, 3) := by decide +kernel
theorem dX8_renderFurnace_35 : decode cX8_renderFurnace 35 = .ok (.iconst 0, 1) := by decide +kernel
theorem dX8_renderFurnace_36 : decode cX8_renderFurnace 36 = .ok (.istore_n 3, 1) := by decide +kernel
theorem dX8_renderFurnace_37 : decode cX8_renderFurnace 37 = .ok (.iload_n 3, 1) := by decide +kernel
theorem dX8_renderFurnace_38 : decode cX8_renderFurnace 38 = .ok (.iconst 4, 1) := by decide +kernel
theorem dX8_renderFurnace_39 : decode cX8_renderFurnace 39 = .ok (.if_icmp .ge 43, 3) := by decide +kernel
theorem dX8_renderFurnace_42 : decode cX8_renderFurnace 42 = .ok (.aload_n 0, 1) := by decide +kernel
theorem dX8_renderFurnace_43 : decode cX8_renderFurnace 43 = .ok (.getfield 16, 3) := by decide +kernel
theorem dX8_renderFurnace_46 : decode cX8_renderFurnace 46 = .ok (.iload_n 2, 1) := by decide +kernel
theorem dX8_renderFurnace_47 : decode cX8_renderFurnace 47 = .ok (.iload_n 3, 1) := by decide +kernel
theorem dX8_renderFurnace_48 : decode cX8_renderFurnace 48 = .ok (.iadd, 1) := by decide +kernel
theorem dX8_renderFurnace_49 : decode cX8_renderFurnace 49 = .ok (.iaload, 1) := by decide +kernel
theorem dX8_renderFurnace_50 : decode cX8_renderFurnace 50 = .ok (.ifCond .ne 6, 3) := by decide +kernel
theorem dX8_renderFurnace_53 : decode cX8_renderFurnace 53 = .ok (.goto 23, 3) := by decide +kernel
theorem dX8_renderFurnace_56 : decode cX8_renderFurnace 56 = .ok (.aload_n 0, 1) := by decide +kernel
theorem dX8_renderFurnace_57 : decode cX8_renderFurnace 57 = .ok (.iload_n 3, 1) := by decide +kernel
theorem dX8_renderFurnace_58 : decode cX8_renderFurnace 58 = .ok (.invokestatic 202, 3) := by decide +kernel
theorem dX8_renderFurnace_61 : decode cX8_renderFurnace 61 = .ok (.invokevirtual 199, 3) := by decide +kernel
theorem dX8_renderFurnace_64 : decode cX8_renderFurnace 64 = .ok (.aload_n 0, 1) := by decide +kernel
theorem dX8_renderFurnace_65 : decode cX8_renderFurnace 65 = .ok (.aload_n 0, 1) := by decide +kernel
theorem dX8_renderFurnace_66 : decode cX8_renderFurnace 66 = .ok (.getfield 16, 3) := by decide +kernel
theorem dX8_renderFurnace_69 : decode cX8_renderFurnace 69 = .ok (.iload_n 2, 1) := by decide +kernel
theorem dX8_renderFurnace_70 : decode cX8_renderFurnace 70 = .ok (.iload_n 3, 1) := by decide +kernel
theorem dX8_renderFurnace_71 : decode cX8_renderFurnace 71 = .ok (.iadd, 1) := by decide +kernel
theorem dX8_renderFurnace_72 : decode cX8_renderFurnace 72 = .ok (.iaload, 1) := by decide +kernel
theorem dX8_renderFurnace_73 : decode cX8_renderFurnace 73 = .ok (.invokevirtual 205, 3) := by decide +kernel
theorem dX8_renderFurnace_76 : decode cX8_renderFurnace 76 = .ok (.iinc 3 1, 3) := by decide +kernel
theorem dX8_renderFurnace_79 : decode cX8_renderFurnace 79 = .ok (.goto (-42), 3) := by decide +kernel
theorem dX8_renderFurnace_82 : decode cX8_renderFurnace 82 = .ok (.aload_n 0, 1) := by decide +kernel
theorem dX8_renderFurnace_83 : decode cX8_renderFurnace 83 = .ok (.bipush 64, 2) := by decide +kernel
theorem dX8_renderFurnace_85 : decode cX8_renderFurnace 85 = .ok (.invokevirtual 199, 3) := by decide +kernel
theorem dX8_renderFurnace_88 : decode cX8_renderFurnace 88 = .ok (.aload_n 0, 1) := by decide +kernel
theorem dX8_renderFurnace_89 : decode cX8_renderFurnace 89 = .ok (.aload_n 0, 1) := by decide +kernel
theorem dX8_renderFurnace_90 : decode cX8_renderFurnace 90 = .ok (.getfield 16, 3) := by decide +kernel
theorem dX8_renderFurnace_93 : decode cX8_renderFurnace 93 = .ok (.iload_n 2, 1) := by decide +kernel
theorem dX8_renderFurnace_94 : decode cX8_renderFurnace 94 = .ok (.iconst 4, 1) := by decide +kernel
theorem dX8_renderFurnace_95 : decode cX8_renderFurnace 95 = .ok (.iadd, 1) := by decide +kernel
theorem dX8_renderFurnace_96 : decode cX8_renderFurnace 96 = .ok (.iaload, 1) := by decide +kernel
theorem dX8_renderFurnace_97 : decode cX8_renderFurnace 97 = .ok (.invokevirtual 205, 3) := by decide +kernel
theorem dX8_renderFurnace_100 : decode cX8_renderFurnace 100 = .ok (.aload_n 0, 1) := by decide +kernel
theorem dX8_renderFurnace_101 : decode cX8_renderFurnace 101 = .ok (.getfield 196, 3) := by decide +kernel
theorem dX8_renderFurnace_104 : decode cX8_renderFurnace 104 = .ok (.ireturn, 1) := by decide +kernel
theorem dX8_renderGrades_0 : decode cX8_renderGrades 0 = .ok (.aload_n 0, 1) := by decide +kernel
theorem dX8_renderGrades_1 : decode cX8_renderGrades 1 = .ok (.iconst 0, 1) := by decide +kernel
theorem dX8_renderGrades_2 : decode cX8_renderGrades 2 = .ok (.putfield 57, 3) := by decide +kernel
theorem dX8_renderGrades_5 : decode cX8_renderGrades 5 = .ok (.aload_n 0, 1) := by decide +kernel
theorem dX8_renderGrades_6 : decode cX8_renderGrades 6 = .ok (.iconst 0, 1) := by decide +kernel
theorem dX8_renderGrades_7 : decode cX8_renderGrades 7 = .ok (.putfield 196, 3) := by decide +kernel
theorem dX8_renderGrades_10 : decode cX8_renderGrades 10 = .ok (.iconst 0, 1) := by decide +kernel
theorem dX8_renderGrades_11 : decode cX8_renderGrades 11 = .ok (.istore_n 1, 1) := by decide +kernel
theorem dX8_renderGrades_12 : decode cX8_renderGrades 12 = .ok (.iload_n 1, 1) := by decide +kernel
theorem dX8_renderGrades_13 : decode cX8_renderGrades 13 = .ok (.aload_n 0, 1) := by decide +kernel
theorem dX8_renderGrades_14 : decode cX8_renderGrades 14 = .ok (.getfield 16, 3) := by decide +kernel
theorem dX8_renderGrades_17 : decode cX8_renderGrades 17 = .ok (.bipush 43, 2) := by decide +kernel
theorem dX8_renderGrades_19 : decode cX8_renderGrades 19 = .ok (.iaload, 1) := by decide +kernel
theorem dX8_renderGrades_20 : decode cX8_renderGrades 20 = .ok (.if_icmp .ge 18, 3) := by decide +kernel
theorem dX8_renderGrades_23 : decode cX8_renderGrades 23 = .ok (.aload_n 0, 1) := by decide +kernel
theorem dX8_renderGrades_24 : decode cX8_renderGrades 24 = .ok (.aload_n 0, 1) := by decide +kernel
theorem dX8_renderGrades_25 : decode cX8_renderGrades 25 = .ok (.iload_n 1, 1) := by decide +kernel
theorem dX8_renderGrades_26 : decode cX8_renderGrades 26 = .ok (.invokevirtual 184, 3) := by decide +kernel
theorem dX8_renderGrades_29 : decode cX8_renderGrades 29 = .ok (.invokevirtual 199, 3) := by decide +kernel
theorem dX8_renderGrades_32 : decode cX8_renderGrades 32 = .ok (.iinc 1 1, 3) := by decide +kernel
theorem dX8_renderGrades_35 : decode cX8_renderGrades 35 = .ok (.goto (-23), 3) := by decide +kernel
theorem dX8_renderGrades_38 : decode cX8_renderGrades 38 = .ok (.aload_n 0, 1) := by decide +kernel
theorem dX8_renderGrades_39 : decode cX8_renderGrades 39 = .ok (.getfield 196, 3) := by decide +kernel
theorem dX8_renderGrades_42 : decode cX8_renderGrades 42 = .ok (.ireturn, 1) := by decide +kernel
theorem dX8_outputAt_0 : decode cX8_outputAt 0 = .ok (.aload_n 0, 1) := by decide +kernel
theorem dX8_outputAt_1 : decode cX8_outputAt 1 = .ok (.iload_n 1, 1) := by decide +kernel
theorem dX8_outputAt_2 : decode cX8_outputAt 2 = .ok (.iconst 0, 1) := by decide +kernel
theorem dX8_outputAt_3 : decode cX8_outputAt 3 = .ok (.aload_n 0, 1) := by decide +kernel
theorem dX8_outputAt_4 : decode cX8_outputAt 4 = .ok (.getfield 196, 3) := by decide +kernel
theorem dX8_outputAt_7 : decode cX8_outputAt 7 = .ok (.iconst 1, 1) := by decide +kernel
theorem dX8_outputAt_8 : decode cX8_outputAt 8 = .ok (.isub, 1) := by decide +kernel
theorem dX8_outputAt_9 : decode cX8_outputAt 9 = .ok (.invokestatic 67, 3) := by decide +kernel
theorem dX8_outputAt_12 : decode cX8_outputAt 12 = .ok (.ifCond .eq 7, 3) := by decide +kernel
theorem dX8_outputAt_15 : decode cX8_outputAt 15 = .ok (.iconst 0, 1) := by decide +kernel
theorem dX8_outputAt_16 : decode cX8_outputAt 16 = .ok (.goto 4, 3) := by decide +kernel
theorem dX8_outputAt_19 : decode cX8_outputAt 19 = .ok (.iconst 1, 1) := by decide +kernel
theorem dX8_outputAt_20 : decode cX8_outputAt 20 = .ok (.putfield 57, 3) := by decide +kernel
theorem dX8_outputAt_23 : decode cX8_outputAt 23 = .ok (.aload_n 0, 1) := by decide +kernel
theorem dX8_outputAt_24 : decode cX8_outputAt 24 = .ok (.getfield 57, 3) := by decide +kernel
theorem dX8_outputAt_27 : decode cX8_outputAt 27 = .ok (.ifCond .ne 13, 3) := by decide +kernel
theorem dX8_outputAt_30 : decode cX8_outputAt 30 = .ok (.aload_n 0, 1) := by decide +kernel
theorem dX8_outputAt_31 : decode cX8_outputAt 31 = .ok (.getfield 38, 3) := by decide +kernel
theorem dX8_outputAt_34 : decode cX8_outputAt 34 = .ok (.iload_n 1, 1) := by decide +kernel
theorem dX8_outputAt_35 : decode cX8_outputAt 35 = .ok (.iaload, 1) := by decide +kernel
theorem dX8_outputAt_36 : decode cX8_outputAt 36 = .ok (.i2c, 1) := by decide +kernel
theorem dX8_outputAt_37 : decode cX8_outputAt 37 = .ok (.goto 5, 3) := by decide +kernel
theorem dX8_outputAt_40 : decode cX8_outputAt 40 = .ok (.bipush 97, 2) := by decide +kernel
theorem dX8_outputAt_42 : decode cX8_outputAt 42 = .ok (.ireturn, 1) := by decide +kernel
theorem dX8_type_0 : decode cX8_type 0 = .ok (.aload_n 0, 1) := by decide +kernel
theorem dX8_type_1 : decode cX8_type 1 = .ok (.iload_n 1, 1) := by decide +kernel
theorem dX8_type_2 : decode cX8_type 2 = .ok (.bipush 32, 2) := by decide +kernel
theorem dX8_type_4 : decode cX8_type 4 = .ok (.bipush 126, 2) := by decide +kernel
theorem dX8_type_6 : decode cX8_type 6 = .ok (.invokestatic 67, 3) := by decide +kernel
theorem dX8_type_9 : decode cX8_type 9 = .ok (.ifCond .ne 7, 3) := by decide +kernel
theorem dX8_type_12 : decode cX8_type 12 = .ok (.iconst 1, 1) := by decide +kernel
theorem dX8_type_13 : decode cX8_type 13 = .ok (.goto 17, 3) := by decide +kernel
theorem dX8_type_16 : decode cX8_type 16 = .ok (.aload_n 0, 1) := by decide +kernel
theorem dX8_type_17 : decode cX8_type 17 = .ok (.getfield 208, 3) := by decide +kernel
theorem dX8_type_20 : decode cX8_type 20 = .ok (.bipush 60, 2) := by decide +kernel
theorem dX8_type_22 : decode cX8_type 22 = .ok (.if_icmp .ne 7, 3) := by decide +kernel
theorem dX8_type_25 : decode cX8_type 25 = .ok (.iconst 2, 1) := by decide +kernel
theorem dX8_type_26 : decode cX8_type 26 = .ok (.goto 4, 3) := by decide +kernel
theorem dX8_type_29 : decode cX8_type 29 = .ok (.iconst 0, 1) := by decide +kernel
theorem dX8_type_30 : decode cX8_type 30 = .ok (.putfield 57, 3) := by decide +kernel
theorem dX8_type_33 : decode cX8_type 33 = .ok (.aload_n 0, 1) := by decide +kernel
theorem dX8_type_34 : decode cX8_type 34 = .ok (.getfield 57, 3) := by decide +kernel
theorem dX8_type_37 : decode cX8_type 37 = .ok (.ifCond .eq 5, 3) := by decide +kernel
theorem dX8_type_40 : decode cX8_type 40 = .ok (.iconst 0, 1) := by decide +kernel
theorem dX8_type_41 : decode cX8_type 41 = .ok (.ireturn, 1) := by decide +kernel
theorem dX8_type_42 : decode cX8_type 42 = .ok (.aload_n 0, 1) := by decide +kernel
theorem dX8_type_43 : decode cX8_type 43 = .ok (.getfield 35, 3) := by decide +kernel
theorem dX8_type_46 : decode cX8_type 46 = .ok (.aload_n 0, 1) := by decide +kernel
theorem dX8_type_47 : decode cX8_type 47 = .ok (.getfield 208, 3) := by decide +kernel
theorem dX8_type_50 : decode cX8_type 50 = .ok (.iload_n 1, 1) := by decide +kernel
theorem dX8_type_51 : decode cX8_type 51 = .ok (.iastore, 1) := by decide +kernel
theorem dX8_type_52 : decode cX8_type 52 = .ok (.aload_n 0, 1) := by decide +kernel
theorem dX8_type_53 : decode cX8_type 53 = .ok (.dup, 1) := by decide +kernel
theorem dX8_type_54 : decode cX8_type 54 = .ok (.getfield 208, 3) := by decide +kernel
theorem dX8_type_57 : decode cX8_type 57 = .ok (.iconst 1, 1) := by decide +kernel
theorem dX8_type_58 : decode cX8_type 58 = .ok (.iadd, 1) := by decide +kernel
theorem dX8_type_59 : decode cX8_type 59 = .ok (.putfield 208, 3) := by decide +kernel
theorem dX8_type_62 : decode cX8_type 62 = .ok (.aload_n 0, 1) := by decide +kernel
theorem dX8_type_63 : decode cX8_type 63 = .ok (.getfield 208, 3) := by decide +kernel
theorem dX8_type_66 : decode cX8_type 66 = .ok (.ireturn, 1) := by decide +kernel
theorem dX8_sign_0 : decode cX8_sign 0 = .ok (.aload_n 0, 1) := by decide +kernel
theorem dX8_sign_1 : decode cX8_sign 1 = .ok (.getfield 211, 3) := by decide +kernel
theorem dX8_sign_4 : decode cX8_sign 4 = .ok (.aload_n 0, 1) := by decide +kernel
theorem dX8_sign_5 : decode cX8_sign 5 = .ok (.getfield 214, 3) := by decide +kernel
theorem dX8_sign_8 : decode cX8_sign 8 = .ok (.if_icmp .ge 15, 3) := by decide +kernel
theorem dX8_sign_11 : decode cX8_sign 11 = .ok (.aload_n 0, 1) := by decide +kernel
theorem dX8_sign_12 : decode cX8_sign 12 = .ok (.getfield 35, 3) := by decide +kernel
theorem dX8_sign_15 : decode cX8_sign 15 = .ok (.aload_n 0, 1) := by decide +kernel
theorem dX8_sign_16 : decode cX8_sign 16 = .ok (.getfield 211, 3) := by decide +kernel
theorem dX8_sign_19 : decode cX8_sign 19 = .ok (.iaload, 1) := by decide +kernel
theorem dX8_sign_20 : decode cX8_sign 20 = .ok (.goto 4, 3) := by decide +kernel
theorem dX8_sign_23 : decode cX8_sign 23 = .ok (.iconst (-1), 1) := by decide +kernel
theorem dX8_sign_24 : decode cX8_sign 24 = .ok (.ireturn, 1) := by decide +kernel
theorem dX8_mark_0 : decode cX8_mark 0 = .ok (.aload_n 0, 1) := by decide +kernel
theorem dX8_mark_1 : decode cX8_mark 1 = .ok (.getfield 217, 3) := by decide +kernel
theorem dX8_mark_4 : decode cX8_mark 4 = .ok (.ifCond .eq 4, 3) := by decide +kernel
theorem dX8_mark_7 : decode cX8_mark 7 = .ok (.return_, 1) := by decide +kernel
theorem dX8_mark_8 : decode cX8_mark 8 = .ok (.aload_n 0, 1) := by decide +kernel
theorem dX8_mark_9 : decode cX8_mark 9 = .ok (.aload_n 0, 1) := by decide +kernel
theorem dX8_mark_10 : decode cX8_mark 10 = .ok (.invokevirtual 221, 3) := by decide +kernel
theorem dX8_mark_13 : decode cX8_mark 13 = .ok (.iload_n 1, 1) := by decide +kernel
theorem dX8_mark_14 : decode cX8_mark 14 = .ok (.if_icmp .eq 7, 3) := by decide +kernel
theorem dX8_mark_17 : decode cX8_mark 17 = .ok (.iconst 1, 1) := by decide +kernel
theorem dX8_mark_18 : decode cX8_mark 18 = .ok (.goto 4, 3) := by decide +kernel
theorem dX8_mark_21 : decode cX8_mark 21 = .ok (.iconst 0, 1) := by decide +kernel
theorem dX8_mark_22 : decode cX8_mark 22 = .ok (.putfield 217, 3) := by decide +kernel
theorem dX8_mark_25 : decode cX8_mark 25 = .ok (.aload_n 0, 1) := by decide +kernel
theorem dX8_mark_26 : decode cX8_mark 26 = .ok (.dup, 1) := by decide +kernel
theorem dX8_mark_27 : decode cX8_mark 27 = .ok (.getfield 211, 3) := by decide +kernel
theorem dX8_mark_30 : decode cX8_mark 30 = .ok (.aload_n 0, 1) := by decide +kernel
theorem dX8_mark_31 : decode cX8_mark 31 = .ok (.getfield 217, 3) := by decide +kernel
theorem dX8_mark_34 : decode cX8_mark 34 = .ok (.ifCond .eq 7, 3) := by decide +kernel
theorem dX8_mark_37 : decode cX8_mark 37 = .ok (.iconst 0, 1) := by decide +kernel
theorem dX8_mark_38 : decode cX8_mark 38 = .ok (.goto 4, 3) := by decide +kernel
theorem dX8_mark_41 : decode cX8_mark 41 = .ok (.iconst 1, 1) := by decide +kernel
theorem dX8_mark_42 : decode cX8_mark 42 = .ok (.iadd, 1) := by decide +kernel
theorem dX8_mark_43 : decode cX8_mark 43 = .ok (.putfield 211, 3) := by decide +kernel
theorem dX8_mark_46 : decode cX8_mark 46 = .ok (.return_, 1) := by decide +kernel
theorem dX8_digits_0 : decode cX8_digits 0 = .ok (.iconst 0, 1) := by decide +kernel
theorem dX8_digits_1 : decode cX8_digits 1 = .ok (.istore_n 2, 1) := by decide +kernel
theorem dX8_digits_2 : decode cX8_digits 2 = .ok (.iconst 0, 1) := by decide +kernel
theorem dX8_digits_3 : decode cX8_digits 3 = .ok (.istore_n 3, 1) := by decide +kernel
theorem dX8_digits_4 : decode cX8_digits 4 = .ok (.aload_n 0, 1) := by decide +kernel
theorem dX8_digits_5 : decode cX8_digits 5 = .ok (.getfield 217, 3) := by decide +kernel
theorem dX8_digits_8 : decode cX8_digits 8 = .ok (.ifCond .ne 51, 3) := by decide +kernel
theorem dX8_digits_11 : decode cX8_digits 11 = .ok (.iload_n 3, 1) := by decide +kernel
theorem dX8_digits_12 : decode cX8_digits 12 = .ok (.iload_n 1, 1) := by decide +kernel
theorem dX8_digits_13 : decode cX8_digits 13 = .ok (.if_icmp .ge 46, 3) := by decide +kernel
theorem dX8_digits_16 : decode cX8_digits 16 = .ok (.aload_n 0, 1) := by decide +kernel
theorem dX8_digits_17 : decode cX8_digits 17 = .ok (.invokevirtual 221, 3) := by decide +kernel
theorem dX8_digits_20 : decode cX8_digits 20 = .ok (.bipush 48, 2) := by decide +kernel
theorem dX8_digits_22 : decode cX8_digits 22 = .ok (.bipush 57, 2) := by decide +kernel
theorem dX8_digits_24 : decode cX8_digits 24 = .ok (.invokestatic 67, 3) := by decide +kernel
theorem dX8_digits_27 : decode cX8_digits 27 = .ok (.ifCond .eq 32, 3) := by decide +kernel
theorem dX8_digits_30 : decode cX8_digits 30 = .ok (.bipush 10, 2) := by decide +kernel
theorem dX8_digits_32 : decode cX8_digits 32 = .ok (.iload_n 2, 1) := by decide +kernel
theorem dX8_digits_33 : decode cX8_digits 33 = .ok (.imul, 1) := by decide +kernel
theorem dX8_digits_34 : decode cX8_digits 34 = .ok (.aload_n 0, 1) := by decide +kernel
theorem dX8_digits_35 : decode cX8_digits 35 = .ok (.invokevirtual 221, 3) := by decide +kernel
theorem dX8_digits_38 : decode cX8_digits 38 = .ok (.iadd, 1) := by decide +kernel
theorem dX8_digits_39 : decode cX8_digits 39 = .ok (.bipush 48, 2) := by decide +kernel
theorem dX8_digits_41 : decode cX8_digits 41 = .ok (.isub, 1) := by decide +kernel
theorem dX8_digits_42 : decode cX8_digits 42 = .ok (.istore_n 2, 1) := by decide +kernel
theorem dX8_digits_43 : decode cX8_digits 43 = .ok (.aload_n 0, 1) := by decide +kernel
theorem dX8_digits_44 : decode cX8_digits 44 = .ok (.dup, 1) := by decide +kernel
theorem dX8_digits_45 : decode cX8_digits 45 = .ok (.getfield 211, 3) := by decide +kernel
theorem dX8_digits_48 : decode cX8_digits 48 = .ok (.iconst 1, 1) := by decide +kernel
theorem dX8_digits_49 : decode cX8_digits 49 = .ok (.iadd, 1) := by decide +kernel
theorem dX8_digits_50 : decode cX8_digits 50 = .ok (.putfield 211, 3) := by decide +kernel
theorem dX8_digits_53 : decode cX8_digits 53 = .ok (.iinc 3 1, 3) := by decide +kernel
theorem dX8_digits_56 : decode cX8_digits 56 = .ok (.goto (-52), 3) := by decide +kernel
theorem dX8_digits_59 : decode cX8_digits 59 = .ok (.aload_n 0, 1) := by decide +kernel
theorem dX8_digits_60 : decode cX8_digits 60 = .ok (.dup, 1) := by decide +kernel
theorem dX8_digits_61 : decode cX8_digits 61 = .ok (.getfield 217, 3) := by decide +kernel
theorem dX8_digits_64 : decode cX8_digits 64 = .ok (.iload_n 3, 1) := by decide +kernel
theorem dX8_digits_65 : decode cX8_digits 65 = .ok (.ifCond .ne 7, 3) := by decide +kernel
theorem dX8_digits_68 : decode cX8_digits 68 = .ok (.iconst 1, 1) := by decide +kernel
theorem dX8_digits_69 : decode cX8_digits 69 = .ok (.goto 4, 3) := by decide +kernel
theorem dX8_digits_72 : decode cX8_digits 72 = .ok (.iconst 0, 1) := by decide +kernel
theorem dX8_digits_73 : decode cX8_digits 73 = .ok (.ior, 1) := by decide +kernel
theorem dX8_digits_74 : decode cX8_digits 74 = .ok (.putfield 217, 3) := by decide +kernel
theorem dX8_digits_77 : decode cX8_digits 77 = .ok (.iload_n 2, 1) := by decide +kernel
theorem dX8_digits_78 : decode cX8_digits 78 = .ok (.ireturn, 1) := by decide +kernel
theorem dX8_behind_0 : decode cX8_behind 0 = .ok (.aload_n 0, 1) := by decide +kernel
theorem dX8_behind_1 : decode cX8_behind 1 = .ok (.bipush 32, 2) := by decide +kernel
theorem dX8_behind_3 : decode cX8_behind 3 = .ok (.invokevirtual 224, 3) := by decide +kernel
theorem dX8_behind_6 : decode cX8_behind 6 = .ok (.aload_n 0, 1) := by decide +kernel
theorem dX8_behind_7 : decode cX8_behind 7 = .ok (.getfield 217, 3) := by decide +kernel
theorem dX8_behind_10 : decode cX8_behind 10 = .ok (.ifCond .eq 7, 3) := by decide +kernel
theorem dX8_behind_13 : decode cX8_behind 13 = .ok (.iconst 0, 1) := by decide +kernel
theorem dX8_behind_14 : decode cX8_behind 14 = .ok (.goto 8, 3) := by decide +kernel
theorem dX8_behind_17 : decode cX8_behind 17 = .ok (.aload_n 0, 1) := by decide +kernel
theorem dX8_behind_18 : decode cX8_behind 18 = .ok (.iload_n 1, 1) := by decide +kernel
theorem dX8_behind_19 : decode cX8_behind 19 = .ok (.invokevirtual 227, 3) := by decide +kernel
theorem dX8_behind_22 : decode cX8_behind 22 = .ok (.ireturn, 1) := by decide +kernel
theorem dX8_material_0 : decode cX8_material 0 = .ok (.aload_n 0, 1) := by decide +kernel
theorem dX8_material_1 : decode cX8_material 1 = .ok (.bipush 32, 2) := by decide +kernel
theorem dX8_material_3 : decode cX8_material 3 = .ok (.invokevirtual 224, 3) := by decide +kernel
theorem dX8_material_6 : decode cX8_material 6 = .ok (.aload_n 0, 1) := by decide +kernel
theorem dX8_material_7 : decode cX8_material 7 = .ok (.getfield 217, 3) := by decide +kernel
theorem dX8_material_10 : decode cX8_material 10 = .ok (.ifCond .eq 5, 3) := by decide +kernel
theorem dX8_material_13 : decode cX8_material 13 = .ok (.iconst 0, 1) := by decide +kernel
theorem dX8_material_14 : decode cX8_material 14 = .ok (.ireturn, 1) := by decide +kernel
theorem dX8_material_15 : decode cX8_material 15 = .ok (.aload_n 0, 1) := by decide +kernel
theorem dX8_material_16 : decode cX8_material 16 = .ok (.invokevirtual 221, 3) := by decide +kernel
theorem dX8_material_19 : decode cX8_material 19 = .ok (.invokestatic 99, 3) := by decide +kernel
theorem dX8_material_22 : decode cX8_material 22 = .ok (.istore_n 1, 1) := by decide +kernel
theorem dX8_material_23 : decode cX8_material 23 = .ok (.aload_n 0, 1) := by decide +kernel
theorem dX8_material_24 : decode cX8_material 24 = .ok (.iload_n 1, 1) := by decide +kernel
theorem dX8_material_25 : decode cX8_material 25 = .ok (.ifCond .ge 7, 3) := by decide +kernel
theorem dX8_material_28 : decode cX8_material 28 = .ok (.iconst 1, 1) := by decide +kernel
theorem dX8_material_29 : decode cX8_material 29 = .ok (.goto 4, 3) := by decide +kernel
theorem dX8_material_32 : decode cX8_material 32 = .ok (.iconst 0, 1) := by decide +kernel
theorem dX8_material_33 : decode cX8_material 33 = .ok (.putfield 217, 3) := by decide +kernel
theorem dX8_material_36 : decode cX8_material 36 = .ok (.aload_n 0, 1) := by decide +kernel
theorem dX8_material_37 : decode cX8_material 37 = .ok (.dup, 1) := by decide +kernel
theorem dX8_material_38 : decode cX8_material 38 = .ok (.getfield 211, 3) := by decide +kernel
theorem dX8_material_41 : decode cX8_material 41 = .ok (.aload_n 0, 1) := by decide +kernel
theorem dX8_material_42 : decode cX8_material 42 = .ok (.getfield 217, 3) := by decide +kernel
theorem dX8_material_45 : decode cX8_material 45 = .ok (.ifCond .eq 7, 3) := by decide +kernel
theorem dX8_material_48 : decode cX8_material 48 = .ok (.iconst 0, 1) := by decide +kernel
theorem dX8_material_49 : decode cX8_material 49 = .ok (.goto 4, 3) := by decide +kernel
theorem dX8_material_52 : decode cX8_material 52 = .ok (.iconst 1, 1) := by decide +kernel
theorem dX8_material_53 : decode cX8_material 53 = .ok (.iadd, 1) := by decide +kernel
theorem dX8_material_54 : decode cX8_material 54 = .ok (.putfield 211, 3) := by decide +kernel
theorem dX8_material_57 : decode cX8_material 57 = .ok (.iload_n 1, 1) := by decide +kernel
theorem dX8_material_58 : decode cX8_material 58 = .ok (.ireturn, 1) := by decide +kernel
theorem dX8_word_0 : decode cX8_word 0 = .ok (.iconst 0, 1) := by decide +kernel
theorem dX8_word_1 : decode cX8_word 1 = .ok (.istore_n 1, 1) := by decide +kernel
theorem dX8_word_2 : decode cX8_word 2 = .ok (.iload_n 1, 1) := by decide +kernel
theorem dX8_word_3 : decode cX8_word 3 = .ok (.bipush 10, 2) := by decide +kernel
theorem dX8_word_5 : decode cX8_word 5 = .ok (.if_icmp .ge 16, 3) := by decide +kernel
theorem dX8_word_8 : decode cX8_word 8 = .ok (.aload_n 0, 1) := by decide +kernel
theorem dX8_word_9 : decode cX8_word 9 = .ok (.getfield 41, 3) := by decide +kernel
theorem dX8_word_12 : decode cX8_word 12 = .ok (.iload_n 1, 1) := by decide +kernel
theorem dX8_word_13 : decode cX8_word 13 = .ok (.iconst 1, 1) := by decide +kernel
theorem dX8_word_14 : decode cX8_word 14 = .ok (.iastore, 1) := by decide +kernel
theorem dX8_word_15 : decode cX8_word 15 = .ok (.iinc 1 1, 3) := by decide +kernel
theorem dX8_word_18 : decode cX8_word 18 = .ok (.goto (-16), 3) := by decide +kernel
theorem dX8_word_21 : decode cX8_word 21 = .ok (.iconst 0, 1) := by decide +kernel
theorem dX8_word_22 : decode cX8_word 22 = .ok (.istore_n 1, 1) := by decide +kernel
theorem dX8_word_23 : decode cX8_word 23 = .ok (.iconst (-1), 1) := by decide +kernel
theorem dX8_word_24 : decode cX8_word 24 = .ok (.istore_n 2, 1) := by decide +kernel
theorem dX8_word_25 : decode cX8_word 25 = .ok (.iload_n 2, 1) := by decide +kernel
theorem dX8_word_26 : decode cX8_word 26 = .ok (.ifCond .ge 196, 3) := by decide +kernel
theorem dX8_word_29 : decode cX8_word 29 = .ok (.aload_n 0, 1) := by decide +kernel
theorem dX8_word_30 : decode cX8_word 30 = .ok (.getfield 217, 3) := by decide +kernel
theorem dX8_word_33 : decode cX8_word 33 = .ok (.ifCond .ne 189, 3) := by decide +kernel
theorem dX8_word_36 : decode cX8_word 36 = .ok (.iconst 0, 1) := by decide +kernel
theorem dX8_word_37 : decode cX8_word 37 = .ok (.istore_n 3, 1) := by decide +kernel
theorem dX8_word_38 : decode cX8_word 38 = .ok (.iconst 0, 1) := by decide +kernel
theorem dX8_word_39 : decode cX8_word 39 = .ok (.istore 4, 2) := by decide +kernel
theorem dX8_word_41 : decode cX8_word 41 = .ok (.iload 4, 2) := by decide +kernel
theorem dX8_word_43 : decode cX8_word 43 = .ok (.bipush 10, 2) := by decide +kernel
theorem dX8_word_45 : decode cX8_word 45 = .ok (.if_icmp .ge 85, 3) := by decide +kernel
theorem dX8_word_48 : decode cX8_word 48 = .ok (.aload_n 0, 1) := by decide +kernel
theorem dX8_word_49 : decode cX8_word 49 = .ok (.getfield 41, 3) := by decide +kernel
theorem dX8_word_52 : decode cX8_word 52 = .ok (.iload 4, 2) := by decide +kernel
theorem dX8_word_54 : decode cX8_word 54 = .ok (.dup2, 1) := by decide +kernel
theorem dX8_word_55 : decode cX8_word 55 = .ok (.iaload, 1) := by decide +kernel
theorem dX8_word_56 : decode cX8_word 56 = .ok (.aload_n 0, 1) := by decide +kernel
theorem dX8_word_57 : decode cX8_word 57 = .ok (.getfield 47, 3) := by decide +kernel
theorem dX8_word_60 : decode cX8_word 60 = .ok (.iload 4, 2) := by decide +kernel
theorem dX8_word_62 : decode cX8_word 62 = .ok (.iaload, 1) := by decide +kernel
theorem dX8_word_63 : decode cX8_word 63 = .ok (.iload_n 1, 1) := by decide +kernel
theorem dX8_word_64 : decode cX8_word 64 = .ok (.iadd, 1) := by decide +kernel
theorem dX8_word_65 : decode cX8_word 65 = .ok (.aload_n 0, 1) := by decide +kernel
theorem dX8_word_66 : decode cX8_word 66 = .ok (.getfield 47, 3) := by decide +kernel
theorem dX8_word_69 : decode cX8_word 69 = .ok (.iload 4, 2) := by decide +kernel
theorem dX8_word_71 : decode cX8_word 71 = .ok (.iconst 1, 1) := by decide +kernel
theorem dX8_word_72 : decode cX8_word 72 = .ok (.iadd, 1) := by decide +kernel
theorem dX8_word_73 : decode cX8_word 73 = .ok (.iaload, 1) := by decide +kernel
theorem dX8_word_74 : decode cX8_word 74 = .ok (.if_icmp .ge 28, 3) := by decide +kernel
theorem dX8_word_77 : decode cX8_word 77 = .ok (.aload_n 0, 1) := by decide +kernel
theorem dX8_word_78 : decode cX8_word 78 = .ok (.getfield 44, 3) := by decide +kernel
theorem dX8_word_81 : decode cX8_word 81 = .ok (.aload_n 0, 1) := by decide +kernel
theorem dX8_word_82 : decode cX8_word 82 = .ok (.getfield 47, 3) := by decide +kernel
theorem dX8_word_85 : decode cX8_word 85 = .ok (.iload 4, 2) := by decide +kernel
theorem dX8_word_87 : decode cX8_word 87 = .ok (.iaload, 1) := by decide +kernel
theorem dX8_word_88 : decode cX8_word 88 = .ok (.iload_n 1, 1) := by decide +kernel
theorem dX8_word_89 : decode cX8_word 89 = .ok (.iadd, 1) := by decide +kernel
theorem dX8_word_90 : decode cX8_word 90 = .ok (.iaload, 1) := by decide +kernel
theorem dX8_word_91 : decode cX8_word 91 = .ok (.aload_n 0, 1) := by decide +kernel
theorem dX8_word_92 : decode cX8_word 92 = .ok (.invokevirtual 221, 3) := by decide +kernel
theorem dX8_word_95 : decode cX8_word 95 = .ok (.if_icmp .ne 7, 3) := by decide +kernel
theorem dX8_word_98 : decode cX8_word 98 = .ok (.iconst 1, 1) := by decide +kernel
theorem dX8_word_99 : decode cX8_word 99 = .ok (.goto 4, 3) := by decide +kernel
theorem dX8_word_102 : decode cX8_word 102 = .ok (.iconst 0, 1) := by decide +kernel
theorem dX8_word_103 : decode cX8_word 103 = .ok (.iand, 1) := by decide +kernel
theorem dX8_word_104 : decode cX8_word 104 = .ok (.iastore, 1) := by decide +kernel
theorem dX8_word_105 : decode cX8_word 105 = .ok (.iload_n 3, 1) := by decide +kernel
theorem dX8_word_106 : decode cX8_word 106 = .ok (.aload_n 0, 1) := by decide +kernel
theorem dX8_word_107 : decode cX8_word 107 = .ok (.getfield 41, 3) := by decide +kernel
theorem dX8_word_110 : decode cX8_word 110 = .ok (.iload 4, 2) := by decide +kernel
theorem dX8_word_112 : decode cX8_word 112 = .ok (.iaload, 1) := by decide +kernel
theorem dX8_word_113 : decode cX8_word 113 = .ok (.iconst 1, 1) := by decide +kernel
theorem dX8_word_114 : decode cX8_word 114 = .ok (.if_icmp .ne 7, 3) := by decide +kernel
theorem dX8_word_117 : decode cX8_word 117 = .ok (.iconst 1, 1) := by decide +kernel
theorem dX8_word_118 : decode cX8_word 118 = .ok (.goto 4, 3) := by decide +kernel
theorem dX8_word_121 : decode cX8_word 121 = .ok (.iconst 0, 1) := by decide +kernel
theorem dX8_word_122 : decode cX8_word 122 = .ok (.ior, 1) := by decide +kernel
theorem dX8_word_123 : decode cX8_word 123 = .ok (.istore_n 3, 1) := by decide +kernel
theorem dX8_word_124 : decode cX8_word 124 = .ok (.iinc 4 1, 3) := by decide +kernel
theorem dX8_word_127 : decode cX8_word 127 = .ok (.goto (-86), 3) := by decide +kernel
theorem dX8_word_130 : decode cX8_word 130 = .ok (.aload_n 0, 1) := by decide +kernel
theorem dX8_word_131 : decode cX8_word 131 = .ok (.iload_n 3, 1) := by decide +kernel
theorem dX8_word_132 : decode cX8_word 132 = .ok (.ifCond .ne 7, 3) := by decide +kernel
theorem dX8_word_135 : decode cX8_word 135 = .ok (.iconst 1, 1) := by decide +kernel
theorem dX8_word_136 : decode cX8_word 136 = .ok (.goto 4, 3) := by decide +kernel
theorem dX8_word_139 : decode cX8_word 139 = .ok (.iconst 0, 1) := by decide +kernel
theorem dX8_word_140 : decode cX8_word 140 = .ok (.putfield 217, 3) := by decide +kernel
theorem dX8_word_143 : decode cX8_word 143 = .ok (.aload_n 0, 1) := by decide +kernel
theorem dX8_word_144 : decode cX8_word 144 = .ok (.dup, 1) := by decide +kernel
theorem dX8_word_145 : decode cX8_word 145 = .ok (.getfield 211, 3) := by decide +kernel
theorem dX8_word_148 : decode cX8_word 148 = .ok (.iload_n 3, 1) := by decide +kernel
theorem dX8_word_149 : decode cX8_word 149 = .ok (.ifCond .eq 7, 3) := by decide +kernel
theorem dX8_word_152 : decode cX8_word 152 = .ok (.iconst 1, 1) := by decide +kernel
theorem dX8_word_153 : decode cX8_word 153 = .ok (.goto 4, 3) := by decide +kernel
theorem dX8_word_156 : decode cX8_word 156 = .ok (.iconst 0, 1) := by decide +kernel
theorem dX8_word_157 : decode cX8_word 157 = .ok (.iadd, 1) := by decide +kernel
theorem dX8_word_158 : decode cX8_word 158 = .ok (.putfield 211, 3) := by decide +kernel
theorem dX8_word_161 : decode cX8_word 161 = .ok (.iinc 1 1, 3) := by decide +kernel
theorem dX8_word_164 : decode cX8_word 164 = .ok (.iconst 0, 1) := by decide +kernel
theorem dX8_word_165 : decode cX8_word 165 = .ok (.istore 4, 2) := by decide +kernel
theorem dX8_word_167 : decode cX8_word 167 = .ok (.iload 4, 2) := by decide +kernel
theorem dX8_word_169 : decode cX8_word 169 = .ok (.bipush 10, 2) := by decide +kernel
theorem dX8_word_171 : decode cX8_word 171 = .ok (.if_icmp .ge 48, 3) := by decide +kernel
theorem dX8_word_174 : decode cX8_word 174 = .ok (.aload_n 0, 1) := by decide +kernel
theorem dX8_word_175 : decode cX8_word 175 = .ok (.getfield 41, 3) := by decide +kernel
theorem dX8_word_178 : decode cX8_word 178 = .ok (.iload 4, 2) := by decide +kernel
theorem dX8_word_180 : decode cX8_word 180 = .ok (.iaload, 1) := by decide +kernel
theorem dX8_word_181 : decode cX8_word 181 = .ok (.iconst 1, 1) := by decide +kernel
theorem dX8_word_182 : decode cX8_word 182 = .ok (.if_icmp .ne 29, 3) := by decide +kernel
theorem dX8_word_185 : decode cX8_word 185 = .ok (.aload_n 0, 1) := by decide +kernel
theorem dX8_word_186 : decode cX8_word 186 = .ok (.getfield 47, 3) := by decide +kernel
theorem dX8_word_189 : decode cX8_word 189 = .ok (.iload 4, 2) := by decide +kernel
theorem dX8_word_191 : decode cX8_word 191 = .ok (.iaload, 1) := by decide +kernel
theorem dX8_word_192 : decode cX8_word 192 = .ok (.iload_n 1, 1) := by decide +kernel
theorem dX8_word_193 : decode cX8_word 193 = .ok (.iadd, 1) := by decide +kernel
theorem dX8_word_194 : decode cX8_word 194 = .ok (.aload_n 0, 1) := by decide +kernel
theorem dX8_word_195 : decode cX8_word 195 = .ok (.getfield 47, 3) := by decide +kernel
theorem dX8_word_198 : decode cX8_word 198 = .ok (.iload 4, 2) := by decide +kernel
theorem dX8_word_200 : decode cX8_word 200 = .ok (.iconst 1, 1) := by decide +kernel
theorem dX8_word_201 : decode cX8_word 201 = .ok (.iadd, 1) := by decide +kernel
theorem dX8_word_202 : decode cX8_word 202 = .ok (.iaload, 1) := by decide +kernel
theorem dX8_word_203 : decode cX8_word 203 = .ok (.if_icmp .ne 8, 3) := by decide +kernel
theorem dX8_word_206 : decode cX8_word 206 = .ok (.iload 4, 2) := by decide +kernel
theorem dX8_word_208 : decode cX8_word 208 = .ok (.goto 4, 3) := by decide +kernel
theorem dX8_word_211 : decode cX8_word 211 = .ok (.iload_n 2, 1) := by decide +kernel
theorem dX8_word_212 : decode cX8_word 212 = .ok (.istore_n 2, 1) := by decide +kernel
theorem dX8_word_213 : decode cX8_word 213 = .ok (.iinc 4 1, 3) := by decide +kernel
theorem dX8_word_216 : decode cX8_word 216 = .ok (.goto (-49), 3) := by decide +kernel
theorem dX8_word_219 : decode cX8_word 219 = .ok (.goto (-194), 3) := by decide +kernel
theorem dX8_word_222 : decode cX8_word 222 = .ok (.iload_n 2, 1) := by decide +kernel
theorem dX8_word_223 : decode cX8_word 223 = .ok (.ireturn, 1) := by decide +kernel
theorem dX8_does_0 : decode cX8_does 0 = .ok (.iload_n 1, 1) := by decide +kernel
theorem dX8_does_1 : decode cX8_does 1 = .ok (.tableswitch 115 0 8 #[51, 60, 67, 73, 82, 89, 95, 102, 108], 51) := by decide +kernel
theorem dX8_does_52 : decode cX8_does 52 = .ok (.aload_n 0, 1) := by decide +kernel
theorem dX8_does_53 : decode cX8_does 53 = .ok (.iload_n 2, 1) := by decide +kernel
theorem dX8_does_54 : decode cX8_does 54 = .ok (.iload_n 3, 1) := by decide +kernel
theorem dX8_does_55 : decode cX8_does 55 = .ok (.iload 4, 2) := by decide +kernel
theorem dX8_does_57 : decode cX8_does 57 = .ok (.invokevirtual 102, 3) := by decide +kernel
theorem dX8_does_60 : decode cX8_does 60 = .ok (.ireturn, 1) := by decide +kernel
theorem dX8_does_61 : decode cX8_does 61 = .ok (.aload_n 0, 1) := by decide +kernel
theorem dX8_does_62 : decode cX8_does 62 = .ok (.iload_n 2, 1) := by decide +kernel
theorem dX8_does_63 : decode cX8_does 63 = .ok (.iload_n 3, 1) := by decide +kernel
theorem dX8_does_64 : decode cX8_does 64 = .ok (.invokevirtual 109, 3) := by decide +kernel
theorem dX8_does_67 : decode cX8_does 67 = .ok (.ireturn, 1) := by decide +kernel
theorem dX8_does_68 : decode cX8_does 68 = .ok (.aload_n 0, 1) := by decide +kernel
theorem dX8_does_69 : decode cX8_does 69 = .ok (.iload_n 2, 1) := by decide +kernel
theorem dX8_does_70 : decode cX8_does 70 = .ok (.invokevirtual 115, 3) := by decide +kernel
theorem dX8_does_73 : decode cX8_does 73 = .ok (.ireturn, 1) := by decide +kernel
theorem dX8_does_74 : decode cX8_does 74 = .ok (.aload_n 0, 1) := by decide +kernel
theorem dX8_does_75 : decode cX8_does 75 = .ok (.iload_n 2, 1) := by decide +kernel
theorem dX8_does_76 : decode cX8_does 76 = .ok (.iload_n 3, 1) := by decide +kernel
theorem dX8_does_77 : decode cX8_does 77 = .ok (.iload 4, 2) := by decide +kernel
theorem dX8_does_79 : decode cX8_does 79 = .ok (.invokevirtual 125, 3) := by decide +kernel
theorem dX8_does_82 : decode cX8_does 82 = .ok (.ireturn, 1) := by decide +kernel
theorem dX8_does_83 : decode cX8_does 83 = .ok (.aload_n 0, 1) := by decide +kernel
theorem dX8_does_84 : decode cX8_does 84 = .ok (.iload_n 2, 1) := by decide +kernel
theorem dX8_does_85 : decode cX8_does 85 = .ok (.iload_n 3, 1) := by decide +kernel
theorem dX8_does_86 : decode cX8_does 86 = .ok (.invokevirtual 131, 3) := by decide +kernel
theorem dX8_does_89 : decode cX8_does 89 = .ok (.ireturn, 1) := by decide +kernel
theorem dX8_does_90 : decode cX8_does 90 = .ok (.aload_n 0, 1) := by decide +kernel
theorem dX8_does_91 : decode cX8_does 91 = .ok (.iload_n 2, 1) := by decide +kernel
theorem dX8_does_92 : decode cX8_does 92 = .ok (.invokevirtual 137, 3) := by decide +kernel
theorem dX8_does_95 : decode cX8_does 95 = .ok (.ireturn, 1) := by decide +kernel
theorem dX8_does_96 : decode cX8_does 96 = .ok (.aload_n 0, 1) := by decide +kernel
theorem dX8_does_97 : decode cX8_does 97 = .ok (.iload_n 2, 1) := by decide +kernel
theorem dX8_does_98 : decode cX8_does 98 = .ok (.iload_n 3, 1) := by decide +kernel
theorem dX8_does_99 : decode cX8_does 99 = .ok (.invokevirtual 143, 3) := by decide +kernel
theorem dX8_does_102 : decode cX8_does 102 = .ok (.ireturn, 1) := by decide +kernel
theorem dX8_does_103 : decode cX8_does 103 = .ok (.aload_n 0, 1) := by decide +kernel
theorem dX8_does_104 : decode cX8_does 104 = .ok (.iload_n 2, 1) := by decide +kernel
theorem dX8_does_105 : decode cX8_does 105 = .ok (.invokevirtual 149, 3) := by decide +kernel
theorem dX8_does_108 : decode cX8_does 108 = .ok (.ireturn, 1) := by decide +kernel
theorem dX8_does_109 : decode cX8_does 109 = .ok (.aload_n 0, 1) := by decide +kernel
theorem dX8_does_110 : decode cX8_does 110 = .ok (.iload_n 2, 1) := by decide +kernel
theorem dX8_does_111 : decode cX8_does 111 = .ok (.iload_n 3, 1) := by decide +kernel
theorem dX8_does_112 : decode cX8_does 112 = .ok (.invokevirtual 155, 3) := by decide +kernel
theorem dX8_does_115 : decode cX8_does 115 = .ok (.ireturn, 1) := by decide +kernel
theorem dX8_does_116 : decode cX8_does 116 = .ok (.aload_n 0, 1) := by decide +kernel
theorem dX8_does_117 : decode cX8_does 117 = .ok (.iload_n 2, 1) := by decide +kernel
theorem dX8_does_118 : decode cX8_does 118 = .ok (.invokevirtual 161, 3) := by decide +kernel
theorem dX8_does_121 : decode cX8_does 121 = .ok (.ireturn, 1) := by decide +kernel
theorem dX8_command_0 : decode cX8_command 0 = .ok (.aload_n 0, 1) := by decide +kernel
theorem dX8_command_1 : decode cX8_command 1 = .ok (.invokevirtual 230, 3) := by decide +kernel
theorem dX8_command_4 : decode cX8_command 4 = .ok (.istore_n 1, 1) := by decide +kernel
theorem dX8_command_5 : decode cX8_command 5 = .ok (.iconst 0, 1) := by decide +kernel
theorem dX8_command_6 : decode cX8_command 6 = .ok (.istore_n 2, 1) := by decide +kernel
theorem dX8_command_7 : decode cX8_command 7 = .ok (.iconst 0, 1) := by decide +kernel
theorem dX8_command_8 : decode cX8_command 8 = .ok (.istore_n 3, 1) := by decide +kernel
theorem dX8_command_9 : decode cX8_command 9 = .ok (.aload_n 0, 1) := by decide +kernel
theorem dX8_command_10 : decode cX8_command 10 = .ok (.getfield 217, 3) := by decide +kernel
theorem dX8_command_13 : decode cX8_command 13 = .ok (.ifCond .eq 4, 3) := by decide +kernel
theorem dX8_command_16 : decode cX8_command 16 = .ok (.return_, 1) := by decide +kernel
theorem dX8_command_17 : decode cX8_command 17 = .ok (.aload_n 0, 1) := by decide +kernel
theorem dX8_command_18 : decode cX8_command 18 = .ok (.iload_n 1, 1) := by decide +kernel
theorem dX8_command_19 : decode cX8_command 19 = .ok (.iconst 5, 1) := by decide +kernel
theorem dX8_command_20 : decode cX8_command 20 = .ok (.if_icmp .eq 9, 3) := by decide +kernel
theorem dX8_command_23 : decode cX8_command 23 = .ok (.iload_n 1, 1) := by decide +kernel
theorem dX8_command_24 : decode cX8_command 24 = .ok (.bipush 8, 2) := by decide +kernel
theorem dX8_command_26 : decode cX8_command 26 = .ok (.if_icmp .lt 7, 3) := by decide +kernel
theorem dX8_command_29 : decode cX8_command 29 = .ok (.iconst 3, 1) := by decide +kernel
theorem dX8_command_30 : decode cX8_command 30 = .ok (.goto 4, 3) := by decide +kernel
theorem dX8_command_33 : decode cX8_command 33 = .ok (.iconst 1, 1) := by decide +kernel
theorem dX8_command_34 : decode cX8_command 34 = .ok (.invokevirtual 227, 3) := by decide +kernel
theorem dX8_command_37 : decode cX8_command 37 = .ok (.istore 4, 2) := by decide +kernel
theorem dX8_command_39 : decode cX8_command 39 = .ok (.iload_n 1, 1) := by decide +kernel
theorem dX8_command_40 : decode cX8_command 40 = .ok (.ifCond .ne 15, 3) := by decide +kernel
theorem dX8_command_43 : decode cX8_command 43 = .ok (.aload_n 0, 1) := by decide +kernel
theorem dX8_command_44 : decode cX8_command 44 = .ok (.getfield 217, 3) := by decide +kernel
theorem dX8_command_47 : decode cX8_command 47 = .ok (.ifCond .ne 8, 3) := by decide +kernel
theorem dX8_command_50 : decode cX8_command 50 = .ok (.aload_n 0, 1) := by decide +kernel
theorem dX8_command_51 : decode cX8_command 51 = .ok (.invokevirtual 233, 3) := by decide +kernel
theorem dX8_command_54 : decode cX8_command 54 = .ok (.istore_n 2, 1) := by decide +kernel
theorem dX8_command_55 : decode cX8_command 55 = .ok (.iload_n 1, 1) := by decide +kernel
theorem dX8_command_56 : decode cX8_command 56 = .ok (.ifCond .ne 16, 3) := by decide +kernel
theorem dX8_command_59 : decode cX8_command 59 = .ok (.aload_n 0, 1) := by decide +kernel
theorem dX8_command_60 : decode cX8_command 60 = .ok (.getfield 217, 3) := by decide +kernel
theorem dX8_command_63 : decode cX8_command 63 = .ok (.ifCond .ne 9, 3) := by decide +kernel
theorem dX8_command_66 : decode cX8_command 66 = .ok (.aload_n 0, 1) := by decide +kernel
theorem dX8_command_67 : decode cX8_command 67 = .ok (.iconst 3, 1) := by decide +kernel
theorem dX8_command_68 : decode cX8_command 68 = .ok (.invokevirtual 227, 3) := by decide +kernel
theorem dX8_command_71 : decode cX8_command 71 = .ok (.istore_n 3, 1) := by decide +kernel
theorem dX8_command_72 : decode cX8_command 72 = .ok (.iload_n 1, 1) := by decide +kernel
theorem dX8_command_73 : decode cX8_command 73 = .ok (.iconst 1, 1) := by decide +kernel
theorem dX8_command_74 : decode cX8_command 74 = .ok (.if_icmp .eq 25, 3) := by decide +kernel
theorem dX8_command_77 : decode cX8_command 77 = .ok (.iload_n 1, 1) := by decide +kernel
theorem dX8_command_78 : decode cX8_command 78 = .ok (.iconst 3, 1) := by decide +kernel
theorem dX8_command_79 : decode cX8_command 79 = .ok (.if_icmp .eq 20, 3) := by decide +kernel
theorem dX8_command_82 : decode cX8_command 82 = .ok (.iload_n 1, 1) := by decide +kernel
theorem dX8_command_83 : decode cX8_command 83 = .ok (.iconst 4, 1) := by decide +kernel
theorem dX8_command_84 : decode cX8_command 84 = .ok (.if_icmp .eq 15, 3) := by decide +kernel
theorem dX8_command_87 : decode cX8_command 87 = .ok (.iload_n 1, 1) := by decide +kernel
theorem dX8_command_88 : decode cX8_command 88 = .ok (.bipush 6, 2) := by decide +kernel
theorem dX8_command_90 : decode cX8_command 90 = .ok (.if_icmp .eq 9, 3) := by decide +kernel
theorem dX8_command_93 : decode cX8_command 93 = .ok (.iload_n 1, 1) := by decide +kernel
theorem dX8_command_94 : decode cX8_command 94 = .ok (.bipush 8, 2) := by decide +kernel
theorem dX8_command_96 : decode cX8_command 96 = .ok (.if_icmp .ne 16, 3) := by decide +kernel
theorem dX8_command_99 : decode cX8_command 99 = .ok (.aload_n 0, 1) := by decide +kernel
theorem dX8_command_100 : decode cX8_command 100 = .ok (.getfield 217, 3) := by decide +kernel
theorem dX8_command_103 : decode cX8_command 103 = .ok (.ifCond .ne 9, 3) := by decide +kernel
theorem dX8_command_106 : decode cX8_command 106 = .ok (.aload_n 0, 1) := by decide +kernel
theorem dX8_command_107 : decode cX8_command 107 = .ok (.iconst 1, 1) := by decide +kernel
theorem dX8_command_108 : decode cX8_command 108 = .ok (.invokevirtual 236, 3) := by decide +kernel
theorem dX8_command_111 : decode cX8_command 111 = .ok (.istore_n 2, 1) := by decide +kernel
theorem dX8_command_112 : decode cX8_command 112 = .ok (.iload_n 1, 1) := by decide +kernel
theorem dX8_command_113 : decode cX8_command 113 = .ok (.iconst 3, 1) := by decide +kernel
theorem dX8_command_114 : decode cX8_command 114 = .ok (.if_icmp .ne 16, 3) := by decide +kernel
theorem dX8_command_117 : decode cX8_command 117 = .ok (.aload_n 0, 1) := by decide +kernel
theorem dX8_command_118 : decode cX8_command 118 = .ok (.getfield 217, 3) := by decide +kernel
theorem dX8_command_121 : decode cX8_command 121 = .ok (.ifCond .ne 9, 3) := by decide +kernel
theorem dX8_command_124 : decode cX8_command 124 = .ok (.aload_n 0, 1) := by decide +kernel
theorem dX8_command_125 : decode cX8_command 125 = .ok (.iconst 3, 1) := by decide +kernel
theorem dX8_command_126 : decode cX8_command 126 = .ok (.invokevirtual 236, 3) := by decide +kernel
theorem dX8_command_129 : decode cX8_command 129 = .ok (.istore_n 3, 1) := by decide +kernel
theorem dX8_command_130 : decode cX8_command 130 = .ok (.aload_n 0, 1) := by decide +kernel
theorem dX8_command_131 : decode cX8_command 131 = .ok (.getfield 217, 3) := by decide +kernel
theorem dX8_command_134 : decode cX8_command 134 = .ok (.ifCond .ne 10, 3) := by decide +kernel
theorem dX8_command_137 : decode cX8_command 137 = .ok (.aload_n 0, 1) := by decide +kernel
theorem dX8_command_138 : decode cX8_command 138 = .ok (.getfield 239, 3) := by decide +kernel
theorem dX8_command_141 : decode cX8_command 141 = .ok (.ifCond .ne 4, 3) := by decide +kernel
theorem dX8_command_144 : decode cX8_command 144 = .ok (.return_, 1) := by decide +kernel
theorem dX8_command_145 : decode cX8_command 145 = .ok (.aload_n 0, 1) := by decide +kernel
theorem dX8_command_146 : decode cX8_command 146 = .ok (.iload_n 1, 1) := by decide +kernel
theorem dX8_command_147 : decode cX8_command 147 = .ok (.iload 4, 2) := by decide +kernel
theorem dX8_command_149 : decode cX8_command 149 = .ok (.iload_n 2, 1) := by decide +kernel
theorem dX8_command_150 : decode cX8_command 150 = .ok (.iload_n 3, 1) := by decide +kernel
theorem dX8_command_151 : decode cX8_command 151 = .ok (.invokevirtual 242, 3) := by decide +kernel
theorem dX8_command_154 : decode cX8_command 154 = .ok (.istore 5, 2) := by decide +kernel
theorem dX8_command_156 : decode cX8_command 156 = .ok (.return_, 1) := by decide +kernel
theorem dX8_commands_0 : decode cX8_commands 0 = .ok (.aload_n 0, 1) := by decide +kernel
theorem dX8_commands_1 : decode cX8_commands 1 = .ok (.iconst 0, 1) := by decide +kernel
theorem dX8_commands_2 : decode cX8_commands 2 = .ok (.putfield 211, 3) := by decide +kernel
theorem dX8_commands_5 : decode cX8_commands 5 = .ok (.aload_n 0, 1) := by decide +kernel
theorem dX8_commands_6 : decode cX8_commands 6 = .ok (.iconst 0, 1) := by decide +kernel
theorem dX8_commands_7 : decode cX8_commands 7 = .ok (.putfield 217, 3) := by decide +kernel
theorem dX8_commands_10 : decode cX8_commands 10 = .ok (.iconst 1, 1) := by decide +kernel
theorem dX8_commands_11 : decode cX8_commands 11 = .ok (.istore_n 1, 1) := by decide +kernel
theorem dX8_commands_12 : decode cX8_commands 12 = .ok (.aload_n 0, 1) := by decide +kernel
theorem dX8_commands_13 : decode cX8_commands 13 = .ok (.invokevirtual 246, 3) := by decide +kernel
theorem dX8_commands_16 : decode cX8_commands 16 = .ok (.aload_n 0, 1) := by decide +kernel
theorem dX8_commands_17 : decode cX8_commands 17 = .ok (.getfield 217, 3) := by decide +kernel
theorem dX8_commands_20 : decode cX8_commands 20 = .ok (.ifCond .ne 44, 3) := by decide +kernel
theorem dX8_commands_23 : decode cX8_commands 23 = .ok (.aload_n 0, 1) := by decide +kernel
theorem dX8_commands_24 : decode cX8_commands 24 = .ok (.getfield 57, 3) := by decide +kernel
theorem dX8_commands_27 : decode cX8_commands 27 = .ok (.ifCond .ne 37, 3) := by decide +kernel
theorem dX8_commands_30 : decode cX8_commands 30 = .ok (.aload_n 0, 1) := by decide +kernel
theorem dX8_commands_31 : decode cX8_commands 31 = .ok (.getfield 211, 3) := by decide +kernel
theorem dX8_commands_34 : decode cX8_commands 34 = .ok (.aload_n 0, 1) := by decide +kernel
theorem dX8_commands_35 : decode cX8_commands 35 = .ok (.getfield 214, 3) := by decide +kernel
theorem dX8_commands_38 : decode cX8_commands 38 = .ok (.if_icmp .ge 26, 3) := by decide +kernel
theorem dX8_commands_41 : decode cX8_commands 41 = .ok (.aload_n 0, 1) := by decide +kernel
theorem dX8_commands_42 : decode cX8_commands 42 = .ok (.bipush 59, 2) := by decide +kernel
theorem dX8_commands_44 : decode cX8_commands 44 = .ok (.invokevirtual 224, 3) := by decide +kernel
theorem dX8_commands_47 : decode cX8_commands 47 = .ok (.aload_n 0, 1) := by decide +kernel
theorem dX8_commands_48 : decode cX8_commands 48 = .ok (.getfield 217, 3) := by decide +kernel
theorem dX8_commands_51 : decode cX8_commands 51 = .ok (.ifCond .ne 7, 3) := by decide +kernel
theorem dX8_commands_54 : decode cX8_commands 54 = .ok (.aload_n 0, 1) := by decide +kernel
theorem dX8_commands_55 : decode cX8_commands 55 = .ok (.invokevirtual 246, 3) := by decide +kernel
theorem dX8_commands_58 : decode cX8_commands 58 = .ok (.iinc 1 1, 3) := by decide +kernel
theorem dX8_commands_61 : decode cX8_commands 61 = .ok (.goto (-45), 3) := by decide +kernel
theorem dX8_commands_64 : decode cX8_commands 64 = .ok (.iload_n 1, 1) := by decide +kernel
theorem dX8_commands_65 : decode cX8_commands 65 = .ok (.ireturn, 1) := by decide +kernel
theorem dX8_runScript_0 : decode cX8_runScript 0 = .ok (.aload_n 0, 1) := by decide +kernel
theorem dX8_runScript_1 : decode cX8_runScript 1 = .ok (.invokevirtual 96, 3) := by decide +kernel
theorem dX8_runScript_4 : decode cX8_runScript 4 = .ok (.aload_n 0, 1) := by decide +kernel
theorem dX8_runScript_5 : decode cX8_runScript 5 = .ok (.aload_n 0, 1) := by decide +kernel
theorem dX8_runScript_6 : decode cX8_runScript 6 = .ok (.getfield 208, 3) := by decide +kernel
theorem dX8_runScript_9 : decode cX8_runScript 9 = .ok (.putfield 214, 3) := by decide +kernel
theorem dX8_runScript_12 : decode cX8_runScript 12 = .ok (.aload_n 0, 1) := by decide +kernel
theorem dX8_runScript_13 : decode cX8_runScript 13 = .ok (.iconst 0, 1) := by decide +kernel
theorem dX8_runScript_14 : decode cX8_runScript 14 = .ok (.putfield 208, 3) := by decide +kernel
theorem dX8_runScript_17 : decode cX8_runScript 17 = .ok (.aload_n 0, 1) := by decide +kernel
theorem dX8_runScript_18 : decode cX8_runScript 18 = .ok (.iconst 0, 1) := by decide +kernel
theorem dX8_runScript_19 : decode cX8_runScript 19 = .ok (.putfield 239, 3) := by decide +kernel
theorem dX8_runScript_22 : decode cX8_runScript 22 = .ok (.aload_n 0, 1) := by decide +kernel
theorem dX8_runScript_23 : decode cX8_runScript 23 = .ok (.invokevirtual 249, 3) := by decide +kernel
theorem dX8_runScript_26 : decode cX8_runScript 26 = .ok (.istore_n 1, 1) := by decide +kernel
theorem dX8_runScript_27 : decode cX8_runScript 27 = .ok (.aload_n 0, 1) := by decide +kernel
theorem dX8_runScript_28 : decode cX8_runScript 28 = .ok (.getfield 217, 3) := by decide +kernel
theorem dX8_runScript_31 : decode cX8_runScript 31 = .ok (.ifCond .eq 17, 3) := by decide +kernel
theorem dX8_runScript_34 : decode cX8_runScript 34 = .ok (.aload_n 0, 1) := by decide +kernel
theorem dX8_runScript_35 : decode cX8_runScript 35 = .ok (.aload_n 0, 1) := by decide +kernel
theorem dX8_runScript_36 : decode cX8_runScript 36 = .ok (.getfield 211, 3) := by decide +kernel
theorem dX8_runScript_39 : decode cX8_runScript 39 = .ok (.putfield 7, 3) := by decide +kernel
theorem dX8_runScript_42 : decode cX8_runScript 42 = .ok (.aload_n 0, 1) := by decide +kernel
theorem dX8_runScript_43 : decode cX8_runScript 43 = .ok (.iconst 1, 1) := by decide +kernel
theorem dX8_runScript_44 : decode cX8_runScript 44 = .ok (.invokevirtual 89, 3) := by decide +kernel
theorem dX8_runScript_47 : decode cX8_runScript 47 = .ok (.ireturn, 1) := by decide +kernel
theorem dX8_runScript_48 : decode cX8_runScript 48 = .ok (.aload_n 0, 1) := by decide +kernel
theorem dX8_runScript_49 : decode cX8_runScript 49 = .ok (.iconst 1, 1) := by decide +kernel
theorem dX8_runScript_50 : decode cX8_runScript 50 = .ok (.putfield 239, 3) := by decide +kernel
theorem dX8_runScript_53 : decode cX8_runScript 53 = .ok (.aload_n 0, 1) := by decide +kernel
theorem dX8_runScript_54 : decode cX8_runScript 54 = .ok (.invokevirtual 249, 3) := by decide +kernel
theorem dX8_runScript_57 : decode cX8_runScript 57 = .ok (.istore_n 1, 1) := by decide +kernel
theorem dX8_runScript_58 : decode cX8_runScript 58 = .ok (.aload_n 0, 1) := by decide +kernel
theorem dX8_runScript_59 : decode cX8_runScript 59 = .ok (.getfield 57, 3) := by decide +kernel
theorem dX8_runScript_62 : decode cX8_runScript 62 = .ok (.ifCond .eq 15, 3) := by decide +kernel
theorem dX8_runScript_65 : decode cX8_runScript 65 = .ok (.aload_n 0, 1) := by decide +kernel
theorem dX8_runScript_66 : decode cX8_runScript 66 = .ok (.iload_n 1, 1) := by decide +kernel
theorem dX8_runScript_67 : decode cX8_runScript 67 = .ok (.iconst 1, 1) := by decide +kernel
theorem dX8_runScript_68 : decode cX8_runScript 68 = .ok (.isub, 1) := by decide +kernel
theorem dX8_runScript_69 : decode cX8_runScript 69 = .ok (.putfield 13, 3) := by decide +kernel
theorem dX8_runScript_72 : decode cX8_runScript 72 = .ok (.aload_n 0, 1) := by decide +kernel
theorem dX8_runScript_73 : decode cX8_runScript 73 = .ok (.iconst 2, 1) := by decide +kernel
theorem dX8_runScript_74 : decode cX8_runScript 74 = .ok (.putfield 57, 3) := by decide +kernel
theorem dX8_runScript_77 : decode cX8_runScript 77 = .ok (.aload_n 0, 1) := by decide +kernel
theorem dX8_runScript_78 : decode cX8_runScript 78 = .ok (.iload_n 1, 1) := by decide +kernel
theorem dX8_runScript_79 : decode cX8_runScript 79 = .ok (.invokevirtual 106, 3) := by decide +kernel
theorem dX8_runScript_82 : decode cX8_runScript 82 = .ok (.ireturn, 1) := by decide +kernel
theorem dX8_errorPosition_0 : decode cX8_errorPosition 0 = .ok (.aload_n 0, 1) := by decide +kernel
theorem dX8_errorPosition_1 : decode cX8_errorPosition 1 = .ok (.aload_n 0, 1) := by decide +kernel
theorem dX8_errorPosition_2 : decode cX8_errorPosition 2 = .ok (.getfield 7, 3) := by decide +kernel
theorem dX8_errorPosition_5 : decode cX8_errorPosition 5 = .ok (.ifCond .ge 7, 3) := by decide +kernel
theorem dX8_errorPosition_8 : decode cX8_errorPosition 8 = .ok (.iconst 1, 1) := by decide +kernel
theorem dX8_errorPosition_9 : decode cX8_errorPosition 9 = .ok (.goto 4, 3) := by decide +kernel
theorem dX8_errorPosition_12 : decode cX8_errorPosition 12 = .ok (.iconst 0, 1) := by decide +kernel
theorem dX8_errorPosition_13 : decode cX8_errorPosition 13 = .ok (.putfield 57, 3) := by decide +kernel
theorem dX8_errorPosition_16 : decode cX8_errorPosition 16 = .ok (.aload_n 0, 1) := by decide +kernel
theorem dX8_errorPosition_17 : decode cX8_errorPosition 17 = .ok (.getfield 57, 3) := by decide +kernel
theorem dX8_errorPosition_20 : decode cX8_errorPosition 20 = .ok (.ifCond .ne 10, 3) := by decide +kernel
theorem dX8_errorPosition_23 : decode cX8_errorPosition 23 = .ok (.aload_n 0, 1) := by decide +kernel
theorem dX8_errorPosition_24 : decode cX8_errorPosition 24 = .ok (.getfield 7, 3) := by decide +kernel
theorem dX8_errorPosition_27 : decode cX8_errorPosition 27 = .ok (.goto 4, 3) := by decide +kernel
theorem dX8_errorPosition_30 : decode cX8_errorPosition 30 = .ok (.iconst 0, 1) := by decide +kernel
theorem dX8_errorPosition_31 : decode cX8_errorPosition 31 = .ok (.ireturn, 1) := by decide +kernel
theorem dX8_failedCommand_0 : decode cX8_failedCommand 0 = .ok (.aload_n 0, 1) := by decide +kernel
theorem dX8_failedCommand_1 : decode cX8_failedCommand 1 = .ok (.aload_n 0, 1) := by decide +kernel
theorem dX8_failedCommand_2 : decode cX8_failedCommand 2 = .ok (.getfield 13, 3) := by decide +kernel
theorem dX8_failedCommand_5 : decode cX8_failedCommand 5 = .ok (.ifCond .ge 7, 3) := by decide +kernel
theorem dX8_failedCommand_8 : decode cX8_failedCommand 8 = .ok (.iconst 1, 1) := by decide +kernel
theorem dX8_failedCommand_9 : decode cX8_failedCommand 9 = .ok (.goto 4, 3) := by decide +kernel
theorem dX8_failedCommand_12 : decode cX8_failedCommand 12 = .ok (.iconst 0, 1) := by decide +kernel
theorem dX8_failedCommand_13 : decode cX8_failedCommand 13 = .ok (.putfield 57, 3) := by decide +kernel
theorem dX8_failedCommand_16 : decode cX8_failedCommand 16 = .ok (.aload_n 0, 1) := by decide +kernel
theorem dX8_failedCommand_17 : decode cX8_failedCommand 17 = .ok (.getfield 57, 3) := by decide +kernel
theorem dX8_failedCommand_20 : decode cX8_failedCommand 20 = .ok (.ifCond .ne 10, 3) := by decide +kernel
theorem dX8_failedCommand_23 : decode cX8_failedCommand 23 = .ok (.aload_n 0, 1) := by decide +kernel
theorem dX8_failedCommand_24 : decode cX8_failedCommand 24 = .ok (.getfield 13, 3) := by decide +kernel
theorem dX8_failedCommand_27 : decode cX8_failedCommand 27 = .ok (.goto 4, 3) := by decide +kernel
theorem dX8_failedCommand_30 : decode cX8_failedCommand 30 = .ok (.iconst 0, 1) := by decide +kernel
theorem dX8_failedCommand_31 : decode cX8_failedCommand 31 = .ok (.ireturn, 1) := by decide +kernel
theorem dX8_undo_0 : decode cX8_undo 0 = .ok (.aload_n 0, 1) := by decide +kernel
theorem dX8_undo_1 : decode cX8_undo 1 = .ok (.aload_n 0, 1) := by decide +kernel
theorem dX8_undo_2 : decode cX8_undo 2 = .ok (.getfield 64, 3) := by decide +kernel
theorem dX8_undo_5 : decode cX8_undo 5 = .ok (.ifCond .ne 7, 3) := by decide +kernel
theorem dX8_undo_8 : decode cX8_undo 8 = .ok (.iconst 1, 1) := by decide +kernel
theorem dX8_undo_9 : decode cX8_undo 9 = .ok (.goto 4, 3) := by decide +kernel
theorem dX8_undo_12 : decode cX8_undo 12 = .ok (.iconst 0, 1) := by decide +kernel
theorem dX8_undo_13 : decode cX8_undo 13 = .ok (.putfield 57, 3) := by decide +kernel
theorem dX8_undo_16 : decode cX8_undo 16 = .ok (.aload_n 0, 1) := by decide +kernel
theorem dX8_undo_17 : decode cX8_undo 17 = .ok (.getfield 57, 3) := by decide +kernel
theorem dX8_undo_20 : decode cX8_undo 20 = .ok (.ifCond .eq 5, 3) := by decide +kernel
theorem dX8_undo_23 : decode cX8_undo 23 = .ok (.iconst 0, 1) := by decide +kernel
theorem dX8_undo_24 : decode cX8_undo 24 = .ok (.ireturn, 1) := by decide +kernel
theorem dX8_undo_25 : decode cX8_undo 25 = .ok (.aload_n 0, 1) := by decide +kernel
theorem dX8_undo_26 : decode cX8_undo 26 = .ok (.dup, 1) := by decide +kernel
theorem dX8_undo_27 : decode cX8_undo 27 = .ok (.getfield 64, 3) := by decide +kernel
theorem dX8_undo_30 : decode cX8_undo 30 = .ok (.iconst 1, 1) := by decide +kernel
theorem dX8_undo_31 : decode cX8_undo 31 = .ok (.isub, 1) := by decide +kernel
theorem dX8_undo_32 : decode cX8_undo 32 = .ok (.putfield 64, 3) := by decide +kernel
theorem dX8_undo_35 : decode cX8_undo 35 = .ok (.iconst 0, 1) := by decide +kernel
theorem dX8_undo_36 : decode cX8_undo 36 = .ok (.istore_n 1, 1) := by decide +kernel
theorem dX8_undo_37 : decode cX8_undo 37 = .ok (.iload_n 1, 1) := by decide +kernel
theorem dX8_undo_38 : decode cX8_undo 38 = .ok (.sipush 128, 3) := by decide +kernel
theorem dX8_undo_41 : decode cX8_undo 41 = .ok (.if_icmp .ge 30, 3) := by decide +kernel
theorem dX8_undo_44 : decode cX8_undo 44 = .ok (.aload_n 0, 1) := by decide +kernel
theorem dX8_undo_45 : decode cX8_undo 45 = .ok (.getfield 16, 3) := by decide +kernel
theorem dX8_undo_48 : decode cX8_undo 48 = .ok (.iload_n 1, 1) := by decide +kernel
theorem dX8_undo_49 : decode cX8_undo 49 = .ok (.aload_n 0, 1) := by decide +kernel
theorem dX8_undo_50 : decode cX8_undo 50 = .ok (.getfield 26, 3) := by decide +kernel
theorem dX8_undo_53 : decode cX8_undo 53 = .ok (.aload_n 0, 1) := by decide +kernel
theorem dX8_undo_54 : decode cX8_undo 54 = .ok (.getfield 64, 3) := by decide +kernel
theorem dX8_undo_57 : decode cX8_undo 57 = .ok (.sipush 128, 3) := by decide +kernel
theorem dX8_undo_60 : decode cX8_undo 60 = .ok (.imul, 1) := by decide +kernel
theorem dX8_undo_61 : decode cX8_undo 61 = .ok (.iload_n 1, 1) := by decide +kernel
theorem dX8_undo_62 : decode cX8_undo 62 = .ok (.iadd, 1) := by decide +kernel
theorem dX8_undo_63 : decode cX8_undo 63 = .ok (.iaload, 1) := by decide +kernel
theorem dX8_undo_64 : decode cX8_undo 64 = .ok (.iastore, 1) := by decide +kernel
theorem dX8_undo_65 : decode cX8_undo 65 = .ok (.iinc 1 1, 3) := by decide +kernel
theorem dX8_undo_68 : decode cX8_undo 68 = .ok (.goto (-31), 3) := by decide +kernel
theorem dX8_undo_71 : decode cX8_undo 71 = .ok (.aload_n 0, 1) := by decide +kernel
theorem dX8_undo_72 : decode cX8_undo 72 = .ok (.getfield 64, 3) := by decide +kernel
theorem dX8_undo_75 : decode cX8_undo 75 = .ok (.ireturn, 1) := by decide +kernel
theorem dX8_save_0 : decode cX8_save 0 = .ok (.aload_n 0, 1) := by decide +kernel
theorem dX8_save_1 : decode cX8_save 1 = .ok (.iconst 0, 1) := by decide +kernel
theorem dX8_save_2 : decode cX8_save 2 = .ok (.putfield 57, 3) := by decide +kernel
theorem dX8_save_5 : decode cX8_save 5 = .ok (.aload_n 0, 1) := by decide +kernel
theorem dX8_save_6 : decode cX8_save 6 = .ok (.getfield 23, 3) := by decide +kernel
theorem dX8_save_9 : decode cX8_save 9 = .ok (.aload_n 0, 1) := by decide +kernel
theorem dX8_save_10 : decode cX8_save 10 = .ok (.getfield 16, 3) := by decide +kernel
theorem dX8_save_13 : decode cX8_save 13 = .ok (.invokestatic 60, 3) := by decide +kernel
theorem dX8_save_16 : decode cX8_save 16 = .ok (.aload_n 0, 1) := by decide +kernel
theorem dX8_save_17 : decode cX8_save 17 = .ok (.iconst 1, 1) := by decide +kernel
theorem dX8_save_18 : decode cX8_save 18 = .ok (.putfield 252, 3) := by decide +kernel
theorem dX8_save_21 : decode cX8_save 21 = .ok (.aload_n 0, 1) := by decide +kernel
theorem dX8_save_22 : decode cX8_save 22 = .ok (.getfield 16, 3) := by decide +kernel
theorem dX8_save_25 : decode cX8_save 25 = .ok (.bipush 43, 2) := by decide +kernel
theorem dX8_save_27 : decode cX8_save 27 = .ok (.iaload, 1) := by decide +kernel
theorem dX8_save_28 : decode cX8_save 28 = .ok (.ireturn, 1) := by decide +kernel
theorem dX8_restore_0 : decode cX8_restore 0 = .ok (.aload_n 0, 1) := by decide +kernel
theorem dX8_restore_1 : decode cX8_restore 1 = .ok (.aload_n 0, 1) := by decide +kernel
theorem dX8_restore_2 : decode cX8_restore 2 = .ok (.getfield 252, 3) := by decide +kernel
theorem dX8_restore_5 : decode cX8_restore 5 = .ok (.ifCond .eq 7, 3) := by decide +kernel
theorem dX8_restore_8 : decode cX8_restore 8 = .ok (.iconst 0, 1) := by decide +kernel
theorem dX8_restore_9 : decode cX8_restore 9 = .ok (.goto 4, 3) := by decide +kernel
theorem dX8_restore_12 : decode cX8_restore 12 = .ok (.iconst 1, 1) := by decide +kernel
theorem dX8_restore_13 : decode cX8_restore 13 = .ok (.putfield 57, 3) := by decide +kernel
theorem dX8_restore_16 : decode cX8_restore 16 = .ok (.aload_n 0, 1) := by decide +kernel
theorem dX8_restore_17 : decode cX8_restore 17 = .ok (.getfield 57, 3) := by decide +kernel
theorem dX8_restore_20 : decode cX8_restore 20 = .ok (.ifCond .eq 5, 3) := by decide +kernel
theorem dX8_restore_23 : decode cX8_restore 23 = .ok (.iconst 0, 1) := by decide +kernel
theorem dX8_restore_24 : decode cX8_restore 24 = .ok (.ireturn, 1) := by decide +kernel
theorem dX8_restore_25 : decode cX8_restore 25 = .ok (.aload_n 0, 1) := by decide +kernel
theorem dX8_restore_26 : decode cX8_restore 26 = .ok (.getfield 16, 3) := by decide +kernel
theorem dX8_restore_29 : decode cX8_restore 29 = .ok (.aload_n 0, 1) := by decide +kernel
theorem dX8_restore_30 : decode cX8_restore 30 = .ok (.getfield 23, 3) := by decide +kernel
theorem dX8_restore_33 : decode cX8_restore 33 = .ok (.invokestatic 60, 3) := by decide +kernel
theorem dX8_restore_36 : decode cX8_restore 36 = .ok (.aload_n 0, 1) := by decide +kernel
theorem dX8_restore_37 : decode cX8_restore 37 = .ok (.iconst 0, 1) := by decide +kernel
theorem dX8_restore_38 : decode cX8_restore 38 = .ok (.putfield 64, 3) := by decide +kernel
theorem dX8_restore_41 : decode cX8_restore 41 = .ok (.aload_n 0, 1) := by decide +kernel
theorem dX8_restore_42 : decode cX8_restore 42 = .ok (.getfield 16, 3) := by decide +kernel
theorem dX8_restore_45 : decode cX8_restore 45 = .ok (.bipush 43, 2) := by decide +kernel
theorem dX8_restore_47 : decode cX8_restore 47 = .ok (.iaload, 1) := by decide +kernel
theorem dX8_restore_48 : decode cX8_restore 48 = .ok (.ireturn, 1) := by decide +kernel
