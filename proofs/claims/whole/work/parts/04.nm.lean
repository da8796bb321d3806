theorem dX1_init_0 : decode cX1_init 0 = .ok (.aload_n 0, 1) := by decide +kernel
theorem dX1_init_1 : decode cX1_init 1 = .ok (.invokespecial 1, 3) := by decide +kernel
theorem dX1_init_4 : decode cX1_init 4 = .ok (.aload_n 0, 1) := by decide +kernel
theorem dX1_init_5 : decode cX1_init 5 = .ok (.bipush 64, 2) := by decide +kernel
theorem dX1_init_7 : decode cX1_init 7 = .ok (.newarray .int, 2) := by decide +kernel
theorem dX1_init_9 : decode cX1_init 9 = .ok (.putfield 7, 3) := by decide +kernel
theorem dX1_init_12 : decode cX1_init 12 = .ok (.aload_n 0, 1) := by decide +kernel
theorem dX1_init_13 : decode cX1_init 13 = .ok (.bipush 64, 2) := by decide +kernel
theorem dX1_init_15 : decode cX1_init 15 = .ok (.newarray .int, 2) := by decide +kernel
theorem dX1_init_17 : decode cX1_init 17 = .ok (.putfield 13, 3) := by decide +kernel
theorem dX1_init_20 : decode cX1_init 20 = .ok (.aload_n 0, 1) := by decide +kernel
theorem dX1_init_21 : decode cX1_init 21 = .ok (.bipush 64, 2) := by decide +kernel
theorem dX1_init_23 : decode cX1_init 23 = .ok (.newarray .int, 2) := by decide +kernel
theorem dX1_init_25 : decode cX1_init 25 = .ok (.putfield 16, 3) := by decide +kernel
theorem dX1_init_28 : decode cX1_init 28 = .ok (.aload_n 0, 1) := by decide +kernel
theorem dX1_init_29 : decode cX1_init 29 = .ok (.iconst 4, 1) := by decide +kernel
theorem dX1_init_30 : decode cX1_init 30 = .ok (.newarray .int, 2) := by decide +kernel
theorem dX1_init_32 : decode cX1_init 32 = .ok (.putfield 19, 3) := by decide +kernel
theorem dX1_init_35 : decode cX1_init 35 = .ok (.aload_n 0, 1) := by decide +kernel
theorem dX1_init_36 : decode cX1_init 36 = .ok (.bipush 8, 2) := by decide +kernel
theorem dX1_init_38 : decode cX1_init 38 = .ok (.newarray .long, 2) := by decide +kernel
theorem dX1_init_40 : decode cX1_init 40 = .ok (.putfield 22, 3) := by decide +kernel
theorem dX1_init_43 : decode cX1_init 43 = .ok (.aload_n 0, 1) := by decide +kernel
theorem dX1_init_44 : decode cX1_init 44 = .ok (.bipush 8, 2) := by decide +kernel
theorem dX1_init_46 : decode cX1_init 46 = .ok (.newarray .boolean, 2) := by decide +kernel
theorem dX1_init_48 : decode cX1_init 48 = .ok (.putfield 26, 3) := by decide +kernel
theorem dX1_init_51 : decode cX1_init 51 = .ok (.aload_n 0, 1) := by decide +kernel
theorem dX1_init_52 : decode cX1_init 52 = .ok (.bipush 8, 2) := by decide +kernel
theorem dX1_init_54 : decode cX1_init 54 = .ok (.newarray .boolean, 2) := by decide +kernel
theorem dX1_init_56 : decode cX1_init 56 = .ok (.putfield 30, 3) := by decide +kernel
theorem dX1_init_59 : decode cX1_init 59 = .ok (.aload_n 0, 1) := by decide +kernel
theorem dX1_init_60 : decode cX1_init 60 = .ok (.bipush 8, 2) := by decide +kernel
theorem dX1_init_62 : decode cX1_init 62 = .ok (.newarray .int, 2) := by decide +kernel
theorem dX1_init_64 : decode cX1_init 64 = .ok (.putfield 33, 3) := by decide +kernel
theorem dX1_init_67 : decode cX1_init 67 = .ok (.aload_n 0, 1) := by decide +kernel
theorem dX1_init_68 : decode cX1_init 68 = .ok (.iconst 0, 1) := by decide +kernel
theorem dX1_init_69 : decode cX1_init 69 = .ok (.putfield 36, 3) := by decide +kernel
theorem dX1_init_72 : decode cX1_init 72 = .ok (.return_, 1) := by decide +kernel
theorem dX1_poke_0 : decode cX1_poke 0 = .ok (.iload_n 1, 1) := by decide +kernel
theorem dX1_poke_1 : decode cX1_poke 1 = .ok (.ifCond .lt 16, 3) := by decide +kernel
theorem dX1_poke_4 : decode cX1_poke 4 = .ok (.iload_n 1, 1) := by decide +kernel
theorem dX1_poke_5 : decode cX1_poke 5 = .ok (.bipush 63, 2) := by decide +kernel
theorem dX1_poke_7 : decode cX1_poke 7 = .ok (.if_icmp .gt 10, 3) := by decide +kernel
theorem dX1_poke_10 : decode cX1_poke 10 = .ok (.aload_n 0, 1) := by decide +kernel
theorem dX1_poke_11 : decode cX1_poke 11 = .ok (.getfield 36, 3) := by decide +kernel
theorem dX1_poke_14 : decode cX1_poke 14 = .ok (.ifCond .eq 5, 3) := by decide +kernel
theorem dX1_poke_17 : decode cX1_poke 17 = .ok (.iconst 0, 1) := by decide +kernel
theorem dX1_poke_18 : decode cX1_poke 18 = .ok (.ireturn, 1) := by decide +kernel
theorem dX1_poke_19 : decode cX1_poke 19 = .ok (.aload_n 0, 1) := by decide +kernel
theorem dX1_poke_20 : decode cX1_poke 20 = .ok (.getfield 7, 3) := by decide +kernel
theorem dX1_poke_23 : decode cX1_poke 23 = .ok (.iload_n 1, 1) := by decide +kernel
theorem dX1_poke_24 : decode cX1_poke 24 = .ok (.iload_n 2, 1) := by decide +kernel
theorem dX1_poke_25 : decode cX1_poke 25 = .ok (.iastore, 1) := by decide +kernel
theorem dX1_poke_26 : decode cX1_poke 26 = .ok (.iconst 1, 1) := by decide +kernel
theorem dX1_poke_27 : decode cX1_poke 27 = .ok (.ireturn, 1) := by decide +kernel
theorem dX1_begin_0 : decode cX1_begin 0 = .ok (.iload_n 1, 1) := by decide +kernel
theorem dX1_begin_1 : decode cX1_begin 1 = .ok (.ifCond .lt 27, 3) := by decide +kernel
theorem dX1_begin_4 : decode cX1_begin 4 = .ok (.iload_n 1, 1) := by decide +kernel
theorem dX1_begin_5 : decode cX1_begin 5 = .ok (.bipush 8, 2) := by decide +kernel
theorem dX1_begin_7 : decode cX1_begin 7 = .ok (.if_icmp .gt 21, 3) := by decide +kernel
theorem dX1_begin_10 : decode cX1_begin 10 = .ok (.iload_n 2, 1) := by decide +kernel
theorem dX1_begin_11 : decode cX1_begin 11 = .ok (.iconst 1, 1) := by decide +kernel
theorem dX1_begin_12 : decode cX1_begin 12 = .ok (.if_icmp .lt 16, 3) := by decide +kernel
theorem dX1_begin_15 : decode cX1_begin 15 = .ok (.iload_n 2, 1) := by decide +kernel
theorem dX1_begin_16 : decode cX1_begin 16 = .ok (.bipush 20, 2) := by decide +kernel
theorem dX1_begin_18 : decode cX1_begin 18 = .ok (.if_icmp .gt 10, 3) := by decide +kernel
theorem dX1_begin_21 : decode cX1_begin 21 = .ok (.aload_n 0, 1) := by decide +kernel
theorem dX1_begin_22 : decode cX1_begin 22 = .ok (.getfield 36, 3) := by decide +kernel
theorem dX1_begin_25 : decode cX1_begin 25 = .ok (.ifCond .eq 5, 3) := by decide +kernel
theorem dX1_begin_28 : decode cX1_begin 28 = .ok (.iconst 0, 1) := by decide +kernel
theorem dX1_begin_29 : decode cX1_begin 29 = .ok (.ireturn, 1) := by decide +kernel
theorem dX1_begin_30 : decode cX1_begin 30 = .ok (.aload_n 0, 1) := by decide +kernel
theorem dX1_begin_31 : decode cX1_begin 31 = .ok (.iload_n 1, 1) := by decide +kernel
theorem dX1_begin_32 : decode cX1_begin 32 = .ok (.putfield 40, 3) := by decide +kernel
theorem dX1_begin_35 : decode cX1_begin 35 = .ok (.aload_n 0, 1) := by decide +kernel
theorem dX1_begin_36 : decode cX1_begin 36 = .ok (.iload_n 2, 1) := by decide +kernel
theorem dX1_begin_37 : decode cX1_begin 37 = .ok (.putfield 43, 3) := by decide +kernel
theorem dX1_begin_40 : decode cX1_begin 40 = .ok (.aload_n 0, 1) := by decide +kernel
theorem dX1_begin_41 : decode cX1_begin 41 = .ok (.iconst 1, 1) := by decide +kernel
theorem dX1_begin_42 : decode cX1_begin 42 = .ok (.putfield 36, 3) := by decide +kernel
theorem dX1_begin_45 : decode cX1_begin 45 = .ok (.aload_n 0, 1) := by decide +kernel
theorem dX1_begin_46 : decode cX1_begin 46 = .ok (.iconst 1, 1) := by decide +kernel
theorem dX1_begin_47 : decode cX1_begin 47 = .ok (.putfield 46, 3) := by decide +kernel
theorem dX1_begin_50 : decode cX1_begin 50 = .ok (.aload_n 0, 1) := by decide +kernel
theorem dX1_begin_51 : decode cX1_begin 51 = .ok (.aload_n 0, 1) := by decide +kernel
theorem dX1_begin_52 : decode cX1_begin 52 = .ok (.getfield 49, 3) := by decide +kernel
theorem dX1_begin_55 : decode cX1_begin 55 = .ok (.putfield 53, 3) := by decide +kernel
theorem dX1_begin_58 : decode cX1_begin 58 = .ok (.iconst 0, 1) := by decide +kernel
theorem dX1_begin_59 : decode cX1_begin 59 = .ok (.istore_n 3, 1) := by decide +kernel
theorem dX1_begin_60 : decode cX1_begin 60 = .ok (.iload_n 3, 1) := by decide +kernel
theorem dX1_begin_61 : decode cX1_begin 61 = .ok (.bipush 8, 2) := by decide +kernel
theorem dX1_begin_63 : decode cX1_begin 63 = .ok (.if_icmp .ge 16, 3) := by decide +kernel
theorem dX1_begin_66 : decode cX1_begin 66 = .ok (.aload_n 0, 1) := by decide +kernel
theorem dX1_begin_67 : decode cX1_begin 67 = .ok (.getfield 26, 3) := by decide +kernel
theorem dX1_begin_70 : decode cX1_begin 70 = .ok (.iload_n 3, 1) := by decide +kernel
theorem dX1_begin_71 : decode cX1_begin 71 = .ok (.iconst 1, 1) := by decide +kernel
theorem dX1_begin_72 : decode cX1_begin 72 = .ok (.bastore, 1) := by decide +kernel
theorem dX1_begin_73 : decode cX1_begin 73 = .ok (.iinc 3 1, 3) := by decide +kernel
theorem dX1_begin_76 : decode cX1_begin 76 = .ok (.goto (-16), 3) := by decide +kernel
theorem dX1_begin_79 : decode cX1_begin 79 = .ok (.iconst 1, 1) := by decide +kernel
theorem dX1_begin_80 : decode cX1_begin 80 = .ok (.ireturn, 1) := by decide +kernel
theorem dX1_step_0 : decode cX1_step 0 = .ok (.aload_n 0, 1) := by decide +kernel
theorem dX1_step_1 : decode cX1_step 1 = .ok (.getfield 7, 3) := by decide +kernel
theorem dX1_step_4 : decode cX1_step 4 = .ok (.aload_n 0, 1) := by decide +kernel
theorem dX1_step_5 : decode cX1_step 5 = .ok (.getfield 56, 3) := by decide +kernel
theorem dX1_step_8 : decode cX1_step 8 = .ok (.iaload, 1) := by decide +kernel
theorem dX1_step_9 : decode cX1_step 9 = .ok (.istore_n 1, 1) := by decide +kernel
theorem dX1_step_10 : decode cX1_step 10 = .ok (.iload_n 1, 1) := by decide +kernel
theorem dX1_step_11 : decode cX1_step 11 = .ok (.iconst 3, 1) := by decide +kernel
theorem dX1_step_12 : decode cX1_step 12 = .ok (.ishr, 1) := by decide +kernel
theorem dX1_step_13 : decode cX1_step 13 = .ok (.iconst 3, 1) := by decide +kernel
theorem dX1_step_14 : decode cX1_step 14 = .ok (.iand, 1) := by decide +kernel
theorem dX1_step_15 : decode cX1_step 15 = .ok (.istore_n 2, 1) := by decide +kernel
theorem dX1_step_16 : decode cX1_step 16 = .ok (.iload_n 1, 1) := by decide +kernel
theorem dX1_step_17 : decode cX1_step 17 = .ok (.iconst 5, 1) := by decide +kernel
theorem dX1_step_18 : decode cX1_step 18 = .ok (.ishr, 1) := by decide +kernel
theorem dX1_step_19 : decode cX1_step 19 = .ok (.iconst 3, 1) := by decide +kernel
theorem dX1_step_20 : decode cX1_step 20 = .ok (.iand, 1) := by decide +kernel
theorem dX1_step_21 : decode cX1_step 21 = .ok (.istore_n 3, 1) := by decide +kernel
theorem dX1_step_22 : decode cX1_step 22 = .ok (.iload_n 1, 1) := by decide +kernel
theorem dX1_step_23 : decode cX1_step 23 = .ok (.bipush 7, 2) := by decide +kernel
theorem dX1_step_25 : decode cX1_step 25 = .ok (.ishr, 1) := by decide +kernel
theorem dX1_step_26 : decode cX1_step 26 = .ok (.bipush 127, 2) := by decide +kernel
theorem dX1_step_28 : decode cX1_step 28 = .ok (.iand, 1) := by decide +kernel
theorem dX1_step_29 : decode cX1_step 29 = .ok (.istore 4, 2) := by decide +kernel
theorem dX1_step_31 : decode cX1_step 31 = .ok (.aload_n 0, 1) := by decide +kernel
theorem dX1_step_32 : decode cX1_step 32 = .ok (.getfield 19, 3) := by decide +kernel
theorem dX1_step_35 : decode cX1_step 35 = .ok (.iload_n 3, 1) := by decide +kernel
theorem dX1_step_36 : decode cX1_step 36 = .ok (.iaload, 1) := by decide +kernel
theorem dX1_step_37 : decode cX1_step 37 = .ok (.iload 4, 2) := by decide +kernel
theorem dX1_step_39 : decode cX1_step 39 = .ok (.iadd, 1) := by decide +kernel
theorem dX1_step_40 : decode cX1_step 40 = .ok (.bipush 63, 2) := by decide +kernel
theorem dX1_step_42 : decode cX1_step 42 = .ok (.iand, 1) := by decide +kernel
theorem dX1_step_43 : decode cX1_step 43 = .ok (.istore 5, 2) := by decide +kernel
theorem dX1_step_45 : decode cX1_step 45 = .ok (.aload_n 0, 1) := by decide +kernel
theorem dX1_step_46 : decode cX1_step 46 = .ok (.getfield 56, 3) := by decide +kernel
theorem dX1_step_49 : decode cX1_step 49 = .ok (.iconst 1, 1) := by decide +kernel
theorem dX1_step_50 : decode cX1_step 50 = .ok (.iadd, 1) := by decide +kernel
theorem dX1_step_51 : decode cX1_step 51 = .ok (.bipush 63, 2) := by decide +kernel
theorem dX1_step_53 : decode cX1_step 53 = .ok (.iand, 1) := by decide +kernel
theorem dX1_step_54 : decode cX1_step 54 = .ok (.istore 6, 2) := by decide +kernel
theorem dX1_step_56 : decode cX1_step 56 = .ok (.iload_n 1, 1) := by decide +kernel
theorem dX1_step_57 : decode cX1_step 57 = .ok (.bipush 7, 2) := by decide +kernel
theorem dX1_step_59 : decode cX1_step 59 = .ok (.iand, 1) := by decide +kernel
theorem dX1_step_60 : decode cX1_step 60 = .ok (.tableswitch 183 0 6 #[44, 53, 64, 80, 120, 142, 164], 44) := by decide +kernel
theorem dX1_step_104 : decode cX1_step 104 = .ok (.aload_n 0, 1) := by decide +kernel
theorem dX1_step_105 : decode cX1_step 105 = .ok (.getfield 56, 3) := by decide +kernel
theorem dX1_step_108 : decode cX1_step 108 = .ok (.istore 6, 2) := by decide +kernel
theorem dX1_step_110 : decode cX1_step 110 = .ok (.goto 186, 3) := by decide +kernel
theorem dX1_step_113 : decode cX1_step 113 = .ok (.aload_n 0, 1) := by decide +kernel
theorem dX1_step_114 : decode cX1_step 114 = .ok (.getfield 19, 3) := by decide +kernel
theorem dX1_step_117 : decode cX1_step 117 = .ok (.iload_n 2, 1) := by decide +kernel
theorem dX1_step_118 : decode cX1_step 118 = .ok (.iload 4, 2) := by decide +kernel
theorem dX1_step_120 : decode cX1_step 120 = .ok (.iastore, 1) := by decide +kernel
theorem dX1_step_121 : decode cX1_step 121 = .ok (.goto 175, 3) := by decide +kernel
theorem dX1_step_124 : decode cX1_step 124 = .ok (.aload_n 0, 1) := by decide +kernel
theorem dX1_step_125 : decode cX1_step 125 = .ok (.getfield 19, 3) := by decide +kernel
theorem dX1_step_128 : decode cX1_step 128 = .ok (.iload_n 2, 1) := by decide +kernel
theorem dX1_step_129 : decode cX1_step 129 = .ok (.aload_n 0, 1) := by decide +kernel
theorem dX1_step_130 : decode cX1_step 130 = .ok (.getfield 7, 3) := by decide +kernel
theorem dX1_step_133 : decode cX1_step 133 = .ok (.iload 5, 2) := by decide +kernel
theorem dX1_step_135 : decode cX1_step 135 = .ok (.iaload, 1) := by decide +kernel
theorem dX1_step_136 : decode cX1_step 136 = .ok (.iastore, 1) := by decide +kernel
theorem dX1_step_137 : decode cX1_step 137 = .ok (.goto 159, 3) := by decide +kernel
theorem dX1_step_140 : decode cX1_step 140 = .ok (.aload_n 0, 1) := by decide +kernel
theorem dX1_step_141 : decode cX1_step 141 = .ok (.aload_n 0, 1) := by decide +kernel
theorem dX1_step_142 : decode cX1_step 142 = .ok (.getfield 49, 3) := by decide +kernel
theorem dX1_step_145 : decode cX1_step 145 = .ok (.lconst 1, 1) := by decide +kernel
theorem dX1_step_146 : decode cX1_step 146 = .ok (.ladd, 1) := by decide +kernel
theorem dX1_step_147 : decode cX1_step 147 = .ok (.putfield 49, 3) := by decide +kernel
theorem dX1_step_150 : decode cX1_step 150 = .ok (.aload_n 0, 1) := by decide +kernel
theorem dX1_step_151 : decode cX1_step 151 = .ok (.getfield 22, 3) := by decide +kernel
theorem dX1_step_154 : decode cX1_step 154 = .ok (.iload 5, 2) := by decide +kernel
theorem dX1_step_156 : decode cX1_step 156 = .ok (.bipush 8, 2) := by decide +kernel
theorem dX1_step_158 : decode cX1_step 158 = .ok (.idiv, 1) := by decide +kernel
theorem dX1_step_159 : decode cX1_step 159 = .ok (.aload_n 0, 1) := by decide +kernel
theorem dX1_step_160 : decode cX1_step 160 = .ok (.getfield 49, 3) := by decide +kernel
theorem dX1_step_163 : decode cX1_step 163 = .ok (.lastore, 1) := by decide +kernel
theorem dX1_step_164 : decode cX1_step 164 = .ok (.aload_n 0, 1) := by decide +kernel
theorem dX1_step_165 : decode cX1_step 165 = .ok (.getfield 7, 3) := by decide +kernel
theorem dX1_step_168 : decode cX1_step 168 = .ok (.iload 5, 2) := by decide +kernel
theorem dX1_step_170 : decode cX1_step 170 = .ok (.aload_n 0, 1) := by decide +kernel
theorem dX1_step_171 : decode cX1_step 171 = .ok (.getfield 19, 3) := by decide +kernel
theorem dX1_step_174 : decode cX1_step 174 = .ok (.iload_n 2, 1) := by decide +kernel
theorem dX1_step_175 : decode cX1_step 175 = .ok (.iaload, 1) := by decide +kernel
theorem dX1_step_176 : decode cX1_step 176 = .ok (.iastore, 1) := by decide +kernel
theorem dX1_step_177 : decode cX1_step 177 = .ok (.goto 119, 3) := by decide +kernel
theorem dX1_step_180 : decode cX1_step 180 = .ok (.aload_n 0, 1) := by decide +kernel
theorem dX1_step_181 : decode cX1_step 181 = .ok (.getfield 19, 3) := by decide +kernel
theorem dX1_step_184 : decode cX1_step 184 = .ok (.iload_n 2, 1) := by decide +kernel
theorem dX1_step_185 : decode cX1_step 185 = .ok (.aload_n 0, 1) := by decide +kernel
theorem dX1_step_186 : decode cX1_step 186 = .ok (.getfield 19, 3) := by decide +kernel
theorem dX1_step_189 : decode cX1_step 189 = .ok (.iload_n 2, 1) := by decide +kernel
theorem dX1_step_190 : decode cX1_step 190 = .ok (.iaload, 1) := by decide +kernel
theorem dX1_step_191 : decode cX1_step 191 = .ok (.aload_n 0, 1) := by decide +kernel
theorem dX1_step_192 : decode cX1_step 192 = .ok (.getfield 19, 3) := by decide +kernel
theorem dX1_step_195 : decode cX1_step 195 = .ok (.iload_n 3, 1) := by decide +kernel
theorem dX1_step_196 : decode cX1_step 196 = .ok (.iaload, 1) := by decide +kernel
theorem dX1_step_197 : decode cX1_step 197 = .ok (.iadd, 1) := by decide +kernel
theorem dX1_step_198 : decode cX1_step 198 = .ok (.iastore, 1) := by decide +kernel
theorem dX1_step_199 : decode cX1_step 199 = .ok (.goto 97, 3) := by decide +kernel
theorem dX1_step_202 : decode cX1_step 202 = .ok (.aload_n 0, 1) := by decide +kernel
theorem dX1_step_203 : decode cX1_step 203 = .ok (.getfield 19, 3) := by decide +kernel
theorem dX1_step_206 : decode cX1_step 206 = .ok (.iload_n 2, 1) := by decide +kernel
theorem dX1_step_207 : decode cX1_step 207 = .ok (.aload_n 0, 1) := by decide +kernel
theorem dX1_step_208 : decode cX1_step 208 = .ok (.getfield 19, 3) := by decide +kernel
theorem dX1_step_211 : decode cX1_step 211 = .ok (.iload_n 2, 1) := by decide +kernel
theorem dX1_step_212 : decode cX1_step 212 = .ok (.iaload, 1) := by decide +kernel
theorem dX1_step_213 : decode cX1_step 213 = .ok (.aload_n 0, 1) := by decide +kernel
theorem dX1_step_214 : decode cX1_step 214 = .ok (.getfield 19, 3) := by decide +kernel
theorem dX1_step_217 : decode cX1_step 217 = .ok (.iload_n 3, 1) := by decide +kernel
theorem dX1_step_218 : decode cX1_step 218 = .ok (.iaload, 1) := by decide +kernel
theorem dX1_step_219 : decode cX1_step 219 = .ok (.isub, 1) := by decide +kernel
theorem dX1_step_220 : decode cX1_step 220 = .ok (.iastore, 1) := by decide +kernel
theorem dX1_step_221 : decode cX1_step 221 = .ok (.goto 75, 3) := by decide +kernel
theorem dX1_step_224 : decode cX1_step 224 = .ok (.aload_n 0, 1) := by decide +kernel
theorem dX1_step_225 : decode cX1_step 225 = .ok (.getfield 19, 3) := by decide +kernel
theorem dX1_step_228 : decode cX1_step 228 = .ok (.iload_n 2, 1) := by decide +kernel
theorem dX1_step_229 : decode cX1_step 229 = .ok (.iaload, 1) := by decide +kernel
theorem dX1_step_230 : decode cX1_step 230 = .ok (.ifCond .eq 66, 3) := by decide +kernel
theorem dX1_step_233 : decode cX1_step 233 = .ok (.iload 4, 2) := by decide +kernel
theorem dX1_step_235 : decode cX1_step 235 = .ok (.bipush 63, 2) := by decide +kernel
theorem dX1_step_237 : decode cX1_step 237 = .ok (.iand, 1) := by decide +kernel
theorem dX1_step_238 : decode cX1_step 238 = .ok (.istore 6, 2) := by decide +kernel
theorem dX1_step_240 : decode cX1_step 240 = .ok (.goto 56, 3) := by decide +kernel
theorem dX1_step_243 : decode cX1_step 243 = .ok (.bipush 7, 2) := by decide +kernel
theorem dX1_step_245 : decode cX1_step 245 = .ok (.istore 7, 2) := by decide +kernel
theorem dX1_step_247 : decode cX1_step 247 = .ok (.iload 7, 2) := by decide +kernel
theorem dX1_step_249 : decode cX1_step 249 = .ok (.ifCond .le 25, 3) := by decide +kernel
theorem dX1_step_252 : decode cX1_step 252 = .ok (.aload_n 0, 1) := by decide +kernel
theorem dX1_step_253 : decode cX1_step 253 = .ok (.getfield 33, 3) := by decide +kernel
theorem dX1_step_256 : decode cX1_step 256 = .ok (.iload 7, 2) := by decide +kernel
theorem dX1_step_258 : decode cX1_step 258 = .ok (.aload_n 0, 1) := by decide +kernel
theorem dX1_step_259 : decode cX1_step 259 = .ok (.getfield 33, 3) := by decide +kernel
theorem dX1_step_262 : decode cX1_step 262 = .ok (.iload 7, 2) := by decide +kernel
theorem dX1_step_264 : decode cX1_step 264 = .ok (.iconst 1, 1) := by decide +kernel
theorem dX1_step_265 : decode cX1_step 265 = .ok (.isub, 1) := by decide +kernel
theorem dX1_step_266 : decode cX1_step 266 = .ok (.iaload, 1) := by decide +kernel
theorem dX1_step_267 : decode cX1_step 267 = .ok (.iastore, 1) := by decide +kernel
theorem dX1_step_268 : decode cX1_step 268 = .ok (.iinc 7 (-1), 3) := by decide +kernel
theorem dX1_step_271 : decode cX1_step 271 = .ok (.goto (-24), 3) := by decide +kernel
theorem dX1_step_274 : decode cX1_step 274 = .ok (.aload_n 0, 1) := by decide +kernel
theorem dX1_step_275 : decode cX1_step 275 = .ok (.getfield 33, 3) := by decide +kernel
theorem dX1_step_278 : decode cX1_step 278 = .ok (.iconst 0, 1) := by decide +kernel
theorem dX1_step_279 : decode cX1_step 279 = .ok (.aload_n 0, 1) := by decide +kernel
theorem dX1_step_280 : decode cX1_step 280 = .ok (.getfield 19, 3) := by decide +kernel
theorem dX1_step_283 : decode cX1_step 283 = .ok (.iload_n 2, 1) := by decide +kernel
theorem dX1_step_284 : decode cX1_step 284 = .ok (.iaload, 1) := by decide +kernel
theorem dX1_step_285 : decode cX1_step 285 = .ok (.iastore, 1) := by decide +kernel
theorem dX1_step_286 : decode cX1_step 286 = .ok (.aload_n 0, 1) := by decide +kernel
theorem dX1_step_287 : decode cX1_step 287 = .ok (.aload_n 0, 1) := by decide +kernel
theorem dX1_step_288 : decode cX1_step 288 = .ok (.getfield 59, 3) := by decide +kernel
theorem dX1_step_291 : decode cX1_step 291 = .ok (.iconst 1, 1) := by decide +kernel
theorem dX1_step_292 : decode cX1_step 292 = .ok (.iadd, 1) := by decide +kernel
theorem dX1_step_293 : decode cX1_step 293 = .ok (.putfield 59, 3) := by decide +kernel
theorem dX1_step_296 : decode cX1_step 296 = .ok (.aload_n 0, 1) := by decide +kernel
theorem dX1_step_297 : decode cX1_step 297 = .ok (.iload 6, 2) := by decide +kernel
theorem dX1_step_299 : decode cX1_step 299 = .ok (.putfield 56, 3) := by decide +kernel
theorem dX1_step_302 : decode cX1_step 302 = .ok (.return_, 1) := by decide +kernel
set_option maxRecDepth 20000 in
theorem ggX1_run_X1_step : GoodIn wsX1_run wsX1_step := goodIn_r _ [6, 7, 8, 9, 10, 11, 12, 13, 14, 15, 16, 17, 18, 19, 20, 21, 22, 23, 24, 25, 26, 27, 28, 29] (by decide +kernel) (by decide +kernel)
set_option maxRecDepth 20000 in
theorem gX1_run_X1_step : GoodIn wsX1_run (wsV RX1 62 RX1 yX1_step wsX1_step) := goodIn_app (goodIn_of _ (by decide +kernel)) ggX1_run_X1_step
theorem dX1_run_0 : decode cX1_run 0 = .ok (.iload_n 1, 1) := by decide +kernel
theorem dX1_run_1 : decode cX1_run 1 = .ok (.ifCond .lt 18, 3) := by decide +kernel
theorem dX1_run_4 : decode cX1_run 4 = .ok (.iload_n 1, 1) := by decide +kernel
theorem dX1_run_5 : decode cX1_run 5 = .ok (.sipush 1000, 3) := by decide +kernel
theorem dX1_run_8 : decode cX1_run 8 = .ok (.if_icmp .gt 11, 3) := by decide +kernel
theorem dX1_run_11 : decode cX1_run 11 = .ok (.aload_n 0, 1) := by decide +kernel
theorem dX1_run_12 : decode cX1_run 12 = .ok (.getfield 36, 3) := by decide +kernel
theorem dX1_run_15 : decode cX1_run 15 = .ok (.iconst 2, 1) := by decide +kernel
theorem dX1_run_16 : decode cX1_run 16 = .ok (.if_icmp .ne 5, 3) := by decide +kernel
theorem dX1_run_19 : decode cX1_run 19 = .ok (.iconst 0, 1) := by decide +kernel
theorem dX1_run_20 : decode cX1_run 20 = .ok (.ireturn, 1) := by decide +kernel
theorem dX1_run_21 : decode cX1_run 21 = .ok (.iconst 0, 1) := by decide +kernel
theorem dX1_run_22 : decode cX1_run 22 = .ok (.istore_n 2, 1) := by decide +kernel
theorem dX1_run_23 : decode cX1_run 23 = .ok (.iload_n 2, 1) := by decide +kernel
theorem dX1_run_24 : decode cX1_run 24 = .ok (.iload_n 1, 1) := by decide +kernel
theorem dX1_run_25 : decode cX1_run 25 = .ok (.if_icmp .ge 13, 3) := by decide +kernel
theorem dX1_run_28 : decode cX1_run 28 = .ok (.aload_n 0, 1) := by decide +kernel
theorem dX1_run_29 : decode cX1_run 29 = .ok (.invokevirtual 62, 3) := by decide +kernel
theorem dX1_run_32 : decode cX1_run 32 = .ok (.iinc 2 1, 3) := by decide +kernel
theorem dX1_run_35 : decode cX1_run 35 = .ok (.goto (-12), 3) := by decide +kernel
theorem dX1_run_38 : decode cX1_run 38 = .ok (.iload_n 1, 1) := by decide +kernel
theorem dX1_run_39 : decode cX1_run 39 = .ok (.ireturn, 1) := by decide +kernel
set_option maxRecDepth 20000 in
theorem ggX1_copy_X1_dirty : GoodIn wsX1_copy wsX1_dirty := goodIn_r _ [16, 1, 17, 11, 6, 18, 19, 20, 21, 22, 23, 24, 25, 26, 27, 28, 29, 30, 31, 32, 33] (by decide +kernel) (by decide +kernel)
set_option maxRecDepth 20000 in
theorem gX1_copy_X1_dirty : GoodIn wsX1_copy (wsV RX1 65 RX1 yX1_dirty wsX1_dirty) := goodIn_app (goodIn_of _ (by decide +kernel)) ggX1_copy_X1_dirty
theorem dX1_copy_0 : decode cX1_copy 0 = .ok (.aload_n 0, 1) := by decide +kernel
theorem dX1_copy_1 : decode cX1_copy 1 = .ok (.getfield 36, 3) := by decide +kernel
theorem dX1_copy_4 : decode cX1_copy 4 = .ok (.ifCond .eq 11, 3) := by decide +kernel
theorem dX1_copy_7 : decode cX1_copy 7 = .ok (.aload_n 0, 1) := by decide +kernel
theorem dX1_copy_8 : decode cX1_copy 8 = .ok (.getfield 36, 3) := by decide +kernel
theorem dX1_copy_11 : decode cX1_copy 11 = .ok (.iconst 3, 1) := by decide +kernel
theorem dX1_copy_12 : decode cX1_copy 12 = .ok (.if_icmp .ne 5, 3) := by decide +kernel
theorem dX1_copy_15 : decode cX1_copy 15 = .ok (.iconst (-1), 1) := by decide +kernel
theorem dX1_copy_16 : decode cX1_copy 16 = .ok (.ireturn, 1) := by decide +kernel
theorem dX1_copy_17 : decode cX1_copy 17 = .ok (.iconst 0, 1) := by decide +kernel
theorem dX1_copy_18 : decode cX1_copy 18 = .ok (.istore_n 1, 1) := by decide +kernel
theorem dX1_copy_19 : decode cX1_copy 19 = .ok (.iload_n 1, 1) := by decide +kernel
theorem dX1_copy_20 : decode cX1_copy 20 = .ok (.bipush 8, 2) := by decide +kernel
theorem dX1_copy_22 : decode cX1_copy 22 = .ok (.if_icmp .ge 63, 3) := by decide +kernel
theorem dX1_copy_25 : decode cX1_copy 25 = .ok (.aload_n 0, 1) := by decide +kernel
theorem dX1_copy_26 : decode cX1_copy 26 = .ok (.getfield 26, 3) := by decide +kernel
theorem dX1_copy_29 : decode cX1_copy 29 = .ok (.iload_n 1, 1) := by decide +kernel
theorem dX1_copy_30 : decode cX1_copy 30 = .ok (.baload, 1) := by decide +kernel
theorem dX1_copy_31 : decode cX1_copy 31 = .ok (.ifCond .eq 48, 3) := by decide +kernel
theorem dX1_copy_34 : decode cX1_copy 34 = .ok (.iconst 0, 1) := by decide +kernel
theorem dX1_copy_35 : decode cX1_copy 35 = .ok (.istore_n 2, 1) := by decide +kernel
theorem dX1_copy_36 : decode cX1_copy 36 = .ok (.iload_n 2, 1) := by decide +kernel
theorem dX1_copy_37 : decode cX1_copy 37 = .ok (.bipush 8, 2) := by decide +kernel
theorem dX1_copy_39 : decode cX1_copy 39 = .ok (.if_icmp .ge 31, 3) := by decide +kernel
theorem dX1_copy_42 : decode cX1_copy 42 = .ok (.aload_n 0, 1) := by decide +kernel
theorem dX1_copy_43 : decode cX1_copy 43 = .ok (.getfield 16, 3) := by decide +kernel
theorem dX1_copy_46 : decode cX1_copy 46 = .ok (.bipush 8, 2) := by decide +kernel
theorem dX1_copy_48 : decode cX1_copy 48 = .ok (.iload_n 1, 1) := by decide +kernel
theorem dX1_copy_49 : decode cX1_copy 49 = .ok (.imul, 1) := by decide +kernel
theorem dX1_copy_50 : decode cX1_copy 50 = .ok (.iload_n 2, 1) := by decide +kernel
theorem dX1_copy_51 : decode cX1_copy 51 = .ok (.iadd, 1) := by decide +kernel
theorem dX1_copy_52 : decode cX1_copy 52 = .ok (.aload_n 0, 1) := by decide +kernel
theorem dX1_copy_53 : decode cX1_copy 53 = .ok (.getfield 7, 3) := by decide +kernel
theorem dX1_copy_56 : decode cX1_copy 56 = .ok (.bipush 8, 2) := by decide +kernel
theorem dX1_copy_58 : decode cX1_copy 58 = .ok (.iload_n 1, 1) := by decide +kernel
theorem dX1_copy_59 : decode cX1_copy 59 = .ok (.imul, 1) := by decide +kernel
theorem dX1_copy_60 : decode cX1_copy 60 = .ok (.iload_n 2, 1) := by decide +kernel
theorem dX1_copy_61 : decode cX1_copy 61 = .ok (.iadd, 1) := by decide +kernel
theorem dX1_copy_62 : decode cX1_copy 62 = .ok (.iaload, 1) := by decide +kernel
theorem dX1_copy_63 : decode cX1_copy 63 = .ok (.iastore, 1) := by decide +kernel
theorem dX1_copy_64 : decode cX1_copy 64 = .ok (.iinc 2 1, 3) := by decide +kernel
theorem dX1_copy_67 : decode cX1_copy 67 = .ok (.goto (-31), 3) := by decide +kernel
theorem dX1_copy_70 : decode cX1_copy 70 = .ok (.aload_n 0, 1) := by decide +kernel
theorem dX1_copy_71 : decode cX1_copy 71 = .ok (.getfield 26, 3) := by decide +kernel
theorem dX1_copy_74 : decode cX1_copy 74 = .ok (.iload_n 1, 1) := by decide +kernel
theorem dX1_copy_75 : decode cX1_copy 75 = .ok (.iconst 0, 1) := by decide +kernel
theorem dX1_copy_76 : decode cX1_copy 76 = .ok (.bastore, 1) := by decide +kernel
theorem dX1_copy_77 : decode cX1_copy 77 = .ok (.iload_n 1, 1) := by decide +kernel
theorem dX1_copy_78 : decode cX1_copy 78 = .ok (.ireturn, 1) := by decide +kernel
theorem dX1_copy_79 : decode cX1_copy 79 = .ok (.iinc 1 1, 3) := by decide +kernel
theorem dX1_copy_82 : decode cX1_copy 82 = .ok (.goto (-63), 3) := by decide +kernel
theorem dX1_copy_85 : decode cX1_copy 85 = .ok (.aload_n 0, 1) := by decide +kernel
theorem dX1_copy_86 : decode cX1_copy 86 = .ok (.getfield 36, 3) := by decide +kernel
theorem dX1_copy_89 : decode cX1_copy 89 = .ok (.iconst 2, 1) := by decide +kernel
theorem dX1_copy_90 : decode cX1_copy 90 = .ok (.if_icmp .ne 37, 3) := by decide +kernel
theorem dX1_copy_93 : decode cX1_copy 93 = .ok (.aload_n 0, 1) := by decide +kernel
theorem dX1_copy_94 : decode cX1_copy 94 = .ok (.iconst 3, 1) := by decide +kernel
theorem dX1_copy_95 : decode cX1_copy 95 = .ok (.putfield 36, 3) := by decide +kernel
theorem dX1_copy_98 : decode cX1_copy 98 = .ok (.iconst 0, 1) := by decide +kernel
theorem dX1_copy_99 : decode cX1_copy 99 = .ok (.istore_n 1, 1) := by decide +kernel
theorem dX1_copy_100 : decode cX1_copy 100 = .ok (.iload_n 1, 1) := by decide +kernel
theorem dX1_copy_101 : decode cX1_copy 101 = .ok (.bipush 64, 2) := by decide +kernel
theorem dX1_copy_103 : decode cX1_copy 103 = .ok (.if_icmp .ge 21, 3) := by decide +kernel
theorem dX1_copy_106 : decode cX1_copy 106 = .ok (.aload_n 0, 1) := by decide +kernel
theorem dX1_copy_107 : decode cX1_copy 107 = .ok (.getfield 13, 3) := by decide +kernel
theorem dX1_copy_110 : decode cX1_copy 110 = .ok (.iload_n 1, 1) := by decide +kernel
theorem dX1_copy_111 : decode cX1_copy 111 = .ok (.aload_n 0, 1) := by decide +kernel
theorem dX1_copy_112 : decode cX1_copy 112 = .ok (.getfield 7, 3) := by decide +kernel
theorem dX1_copy_115 : decode cX1_copy 115 = .ok (.iload_n 1, 1) := by decide +kernel
theorem dX1_copy_116 : decode cX1_copy 116 = .ok (.iaload, 1) := by decide +kernel
theorem dX1_copy_117 : decode cX1_copy 117 = .ok (.iastore, 1) := by decide +kernel
theorem dX1_copy_118 : decode cX1_copy 118 = .ok (.iinc 1 1, 3) := by decide +kernel
theorem dX1_copy_121 : decode cX1_copy 121 = .ok (.goto (-21), 3) := by decide +kernel
theorem dX1_copy_124 : decode cX1_copy 124 = .ok (.bipush 34, 2) := by decide +kernel
theorem dX1_copy_126 : decode cX1_copy 126 = .ok (.ireturn, 1) := by decide +kernel
theorem dX1_copy_127 : decode cX1_copy 127 = .ok (.iconst 0, 1) := by decide +kernel
theorem dX1_copy_128 : decode cX1_copy 128 = .ok (.istore_n 1, 1) := by decide +kernel
theorem dX1_copy_129 : decode cX1_copy 129 = .ok (.iconst 0, 1) := by decide +kernel
theorem dX1_copy_130 : decode cX1_copy 130 = .ok (.istore_n 2, 1) := by decide +kernel
theorem dX1_copy_131 : decode cX1_copy 131 = .ok (.iload_n 2, 1) := by decide +kernel
theorem dX1_copy_132 : decode cX1_copy 132 = .ok (.bipush 8, 2) := by decide +kernel
theorem dX1_copy_134 : decode cX1_copy 134 = .ok (.if_icmp .ge 45, 3) := by decide +kernel
theorem dX1_copy_137 : decode cX1_copy 137 = .ok (.aload_n 0, 1) := by decide +kernel
theorem dX1_copy_138 : decode cX1_copy 138 = .ok (.getfield 26, 3) := by decide +kernel
theorem dX1_copy_141 : decode cX1_copy 141 = .ok (.iload_n 2, 1) := by decide +kernel
theorem dX1_copy_142 : decode cX1_copy 142 = .ok (.aload_n 0, 1) := by decide +kernel
theorem dX1_copy_143 : decode cX1_copy 143 = .ok (.iload_n 2, 1) := by decide +kernel
theorem dX1_copy_144 : decode cX1_copy 144 = .ok (.invokevirtual 65, 3) := by decide +kernel
theorem dX1_copy_147 : decode cX1_copy 147 = .ok (.bastore, 1) := by decide +kernel
theorem dX1_copy_148 : decode cX1_copy 148 = .ok (.aload_n 0, 1) := by decide +kernel
theorem dX1_copy_149 : decode cX1_copy 149 = .ok (.getfield 30, 3) := by decide +kernel
theorem dX1_copy_152 : decode cX1_copy 152 = .ok (.iload_n 2, 1) := by decide +kernel
theorem dX1_copy_153 : decode cX1_copy 153 = .ok (.aload_n 0, 1) := by decide +kernel
theorem dX1_copy_154 : decode cX1_copy 154 = .ok (.getfield 26, 3) := by decide +kernel
theorem dX1_copy_157 : decode cX1_copy 157 = .ok (.iload_n 2, 1) := by decide +kernel
theorem dX1_copy_158 : decode cX1_copy 158 = .ok (.baload, 1) := by decide +kernel
theorem dX1_copy_159 : decode cX1_copy 159 = .ok (.bastore, 1) := by decide +kernel
theorem dX1_copy_160 : decode cX1_copy 160 = .ok (.aload_n 0, 1) := by decide +kernel
theorem dX1_copy_161 : decode cX1_copy 161 = .ok (.getfield 26, 3) := by decide +kernel
theorem dX1_copy_164 : decode cX1_copy 164 = .ok (.iload_n 2, 1) := by decide +kernel
theorem dX1_copy_165 : decode cX1_copy 165 = .ok (.baload, 1) := by decide +kernel
theorem dX1_copy_166 : decode cX1_copy 166 = .ok (.ifCond .eq 7, 3) := by decide +kernel
theorem dX1_copy_169 : decode cX1_copy 169 = .ok (.iload_n 1, 1) := by decide +kernel
theorem dX1_copy_170 : decode cX1_copy 170 = .ok (.iconst 1, 1) := by decide +kernel
theorem dX1_copy_171 : decode cX1_copy 171 = .ok (.iadd, 1) := by decide +kernel
theorem dX1_copy_172 : decode cX1_copy 172 = .ok (.istore_n 1, 1) := by decide +kernel
theorem dX1_copy_173 : decode cX1_copy 173 = .ok (.iinc 2 1, 3) := by decide +kernel
theorem dX1_copy_176 : decode cX1_copy 176 = .ok (.goto (-45), 3) := by decide +kernel
theorem dX1_copy_179 : decode cX1_copy 179 = .ok (.iload_n 1, 1) := by decide +kernel
theorem dX1_copy_180 : decode cX1_copy 180 = .ok (.aload_n 0, 1) := by decide +kernel
theorem dX1_copy_181 : decode cX1_copy 181 = .ok (.getfield 40, 3) := by decide +kernel
theorem dX1_copy_184 : decode cX1_copy 184 = .ok (.if_icmp .le 14, 3) := by decide +kernel
theorem dX1_copy_187 : decode cX1_copy 187 = .ok (.aload_n 0, 1) := by decide +kernel
theorem dX1_copy_188 : decode cX1_copy 188 = .ok (.getfield 46, 3) := by decide +kernel
theorem dX1_copy_191 : decode cX1_copy 191 = .ok (.aload_n 0, 1) := by decide +kernel
theorem dX1_copy_192 : decode cX1_copy 192 = .ok (.getfield 43, 3) := by decide +kernel
theorem dX1_copy_195 : decode cX1_copy 195 = .ok (.if_icmp .ne 11, 3) := by decide +kernel
theorem dX1_copy_198 : decode cX1_copy 198 = .ok (.aload_n 0, 1) := by decide +kernel
theorem dX1_copy_199 : decode cX1_copy 199 = .ok (.iconst 2, 1) := by decide +kernel
theorem dX1_copy_200 : decode cX1_copy 200 = .ok (.putfield 36, 3) := by decide +kernel
theorem dX1_copy_203 : decode cX1_copy 203 = .ok (.bipush 33, 2) := by decide +kernel
theorem dX1_copy_205 : decode cX1_copy 205 = .ok (.ireturn, 1) := by decide +kernel
theorem dX1_copy_206 : decode cX1_copy 206 = .ok (.aload_n 0, 1) := by decide +kernel
theorem dX1_copy_207 : decode cX1_copy 207 = .ok (.aload_n 0, 1) := by decide +kernel
theorem dX1_copy_208 : decode cX1_copy 208 = .ok (.getfield 46, 3) := by decide +kernel
theorem dX1_copy_211 : decode cX1_copy 211 = .ok (.iconst 1, 1) := by decide +kernel
theorem dX1_copy_212 : decode cX1_copy 212 = .ok (.iadd, 1) := by decide +kernel
theorem dX1_copy_213 : decode cX1_copy 213 = .ok (.putfield 46, 3) := by decide +kernel
theorem dX1_copy_216 : decode cX1_copy 216 = .ok (.aload_n 0, 1) := by decide +kernel
theorem dX1_copy_217 : decode cX1_copy 217 = .ok (.aload_n 0, 1) := by decide +kernel
theorem dX1_copy_218 : decode cX1_copy 218 = .ok (.getfield 49, 3) := by decide +kernel
theorem dX1_copy_221 : decode cX1_copy 221 = .ok (.putfield 53, 3) := by decide +kernel
theorem dX1_copy_224 : decode cX1_copy 224 = .ok (.bipush 32, 2) := by decide +kernel
theorem dX1_copy_226 : decode cX1_copy 226 = .ok (.ireturn, 1) := by decide +kernel
theorem dX1_phase_0 : decode cX1_phase 0 = .ok (.aload_n 0, 1) := by decide +kernel
theorem dX1_phase_1 : decode cX1_phase 1 = .ok (.getfield 36, 3) := by decide +kernel
theorem dX1_phase_4 : decode cX1_phase 4 = .ok (.ireturn, 1) := by decide +kernel
theorem dX1_round_0 : decode cX1_round 0 = .ok (.aload_n 0, 1) := by decide +kernel
theorem dX1_round_1 : decode cX1_round 1 = .ok (.getfield 46, 3) := by decide +kernel
theorem dX1_round_4 : decode cX1_round 4 = .ok (.ireturn, 1) := by decide +kernel
theorem dX1_dirty_0 : decode cX1_dirty 0 = .ok (.iload_n 1, 1) := by decide +kernel
theorem dX1_dirty_1 : decode cX1_dirty 1 = .ok (.ifCond .lt 16, 3) := by decide +kernel
theorem dX1_dirty_4 : decode cX1_dirty 4 = .ok (.iload_n 1, 1) := by decide +kernel
theorem dX1_dirty_5 : decode cX1_dirty 5 = .ok (.bipush 7, 2) := by decide +kernel
theorem dX1_dirty_7 : decode cX1_dirty 7 = .ok (.if_icmp .gt 10, 3) := by decide +kernel
theorem dX1_dirty_10 : decode cX1_dirty 10 = .ok (.aload_n 0, 1) := by decide +kernel
theorem dX1_dirty_11 : decode cX1_dirty 11 = .ok (.getfield 36, 3) := by decide +kernel
theorem dX1_dirty_14 : decode cX1_dirty 14 = .ok (.ifCond .ne 5, 3) := by decide +kernel
theorem dX1_dirty_17 : decode cX1_dirty 17 = .ok (.iconst 0, 1) := by decide +kernel
theorem dX1_dirty_18 : decode cX1_dirty 18 = .ok (.ireturn, 1) := by decide +kernel
theorem dX1_dirty_19 : decode cX1_dirty 19 = .ok (.aload_n 0, 1) := by decide +kernel
theorem dX1_dirty_20 : decode cX1_dirty 20 = .ok (.getfield 36, 3) := by decide +kernel
theorem dX1_dirty_23 : decode cX1_dirty 23 = .ok (.iconst 1, 1) := by decide +kernel
theorem dX1_dirty_24 : decode cX1_dirty 24 = .ok (.if_icmp .ne 25, 3) := by decide +kernel
theorem dX1_dirty_27 : decode cX1_dirty 27 = .ok (.aload_n 0, 1) := by decide +kernel
theorem dX1_dirty_28 : decode cX1_dirty 28 = .ok (.getfield 22, 3) := by decide +kernel
theorem dX1_dirty_31 : decode cX1_dirty 31 = .ok (.iload_n 1, 1) := by decide +kernel
theorem dX1_dirty_32 : decode cX1_dirty 32 = .ok (.laload, 1) := by decide +kernel
theorem dX1_dirty_33 : decode cX1_dirty 33 = .ok (.aload_n 0, 1) := by decide +kernel
theorem dX1_dirty_34 : decode cX1_dirty 34 = .ok (.getfield 53, 3) := by decide +kernel
theorem dX1_dirty_37 : decode cX1_dirty 37 = .ok (.lcmp, 1) := by decide +kernel
theorem dX1_dirty_38 : decode cX1_dirty 38 = .ok (.ifCond .le 7, 3) := by decide +kernel
theorem dX1_dirty_41 : decode cX1_dirty 41 = .ok (.iconst 1, 1) := by decide +kernel
theorem dX1_dirty_42 : decode cX1_dirty 42 = .ok (.goto 13, 3) := by decide +kernel
theorem dX1_dirty_45 : decode cX1_dirty 45 = .ok (.iconst 0, 1) := by decide +kernel
theorem dX1_dirty_46 : decode cX1_dirty 46 = .ok (.goto 9, 3) := by decide +kernel
theorem dX1_dirty_49 : decode cX1_dirty 49 = .ok (.aload_n 0, 1) := by decide +kernel
theorem dX1_dirty_50 : decode cX1_dirty 50 = .ok (.getfield 30, 3) := by decide +kernel
theorem dX1_dirty_53 : decode cX1_dirty 53 = .ok (.iload_n 1, 1) := by decide +kernel
theorem dX1_dirty_54 : decode cX1_dirty 54 = .ok (.baload, 1) := by decide +kernel
theorem dX1_dirty_55 : decode cX1_dirty 55 = .ok (.ireturn, 1) := by decide +kernel
theorem dX1_waits_0 : decode cX1_waits 0 = .ok (.iload_n 1, 1) := by decide +kernel
theorem dX1_waits_1 : decode cX1_waits 1 = .ok (.ifCond .lt 22, 3) := by decide +kernel
theorem dX1_waits_4 : decode cX1_waits 4 = .ok (.iload_n 1, 1) := by decide +kernel
theorem dX1_waits_5 : decode cX1_waits 5 = .ok (.bipush 7, 2) := by decide +kernel
theorem dX1_waits_7 : decode cX1_waits 7 = .ok (.if_icmp .gt 16, 3) := by decide +kernel
theorem dX1_waits_10 : decode cX1_waits 10 = .ok (.aload_n 0, 1) := by decide +kernel
theorem dX1_waits_11 : decode cX1_waits 11 = .ok (.getfield 26, 3) := by decide +kernel
theorem dX1_waits_14 : decode cX1_waits 14 = .ok (.iload_n 1, 1) := by decide +kernel
theorem dX1_waits_15 : decode cX1_waits 15 = .ok (.baload, 1) := by decide +kernel
theorem dX1_waits_16 : decode cX1_waits 16 = .ok (.ifCond .eq 7, 3) := by decide +kernel
theorem dX1_waits_19 : decode cX1_waits 19 = .ok (.iconst 1, 1) := by decide +kernel
theorem dX1_waits_20 : decode cX1_waits 20 = .ok (.goto 4, 3) := by decide +kernel
theorem dX1_waits_23 : decode cX1_waits 23 = .ok (.iconst 0, 1) := by decide +kernel
theorem dX1_waits_24 : decode cX1_waits 24 = .ok (.ireturn, 1) := by decide +kernel
theorem dX1_source_0 : decode cX1_source 0 = .ok (.iload_n 1, 1) := by decide +kernel
theorem dX1_source_1 : decode cX1_source 1 = .ok (.ifCond .lt 9, 3) := by decide +kernel
theorem dX1_source_4 : decode cX1_source 4 = .ok (.iload_n 1, 1) := by decide +kernel
theorem dX1_source_5 : decode cX1_source 5 = .ok (.bipush 63, 2) := by decide +kernel
theorem dX1_source_7 : decode cX1_source 7 = .ok (.if_icmp .le 5, 3) := by decide +kernel
theorem dX1_source_10 : decode cX1_source 10 = .ok (.iconst 0, 1) := by decide +kernel
theorem dX1_source_11 : decode cX1_source 11 = .ok (.ireturn, 1) := by decide +kernel
theorem dX1_source_12 : decode cX1_source 12 = .ok (.aload_n 0, 1) := by decide +kernel
theorem dX1_source_13 : decode cX1_source 13 = .ok (.getfield 36, 3) := by decide +kernel
theorem dX1_source_16 : decode cX1_source 16 = .ok (.iconst 3, 1) := by decide +kernel
theorem dX1_source_17 : decode cX1_source 17 = .ok (.if_icmp .ne 12, 3) := by decide +kernel
theorem dX1_source_20 : decode cX1_source 20 = .ok (.aload_n 0, 1) := by decide +kernel
theorem dX1_source_21 : decode cX1_source 21 = .ok (.getfield 13, 3) := by decide +kernel
theorem dX1_source_24 : decode cX1_source 24 = .ok (.iload_n 1, 1) := by decide +kernel
theorem dX1_source_25 : decode cX1_source 25 = .ok (.iaload, 1) := by decide +kernel
theorem dX1_source_26 : decode cX1_source 26 = .ok (.goto 9, 3) := by decide +kernel
theorem dX1_source_29 : decode cX1_source 29 = .ok (.aload_n 0, 1) := by decide +kernel
theorem dX1_source_30 : decode cX1_source 30 = .ok (.getfield 7, 3) := by decide +kernel
theorem dX1_source_33 : decode cX1_source 33 = .ok (.iload_n 1, 1) := by decide +kernel
theorem dX1_source_34 : decode cX1_source 34 = .ok (.iaload, 1) := by decide +kernel
theorem dX1_source_35 : decode cX1_source 35 = .ok (.ireturn, 1) := by decide +kernel
theorem dX1_destination_0 : decode cX1_destination 0 = .ok (.iload_n 1, 1) := by decide +kernel
theorem dX1_destination_1 : decode cX1_destination 1 = .ok (.ifCond .lt 9, 3) := by decide +kernel
theorem dX1_destination_4 : decode cX1_destination 4 = .ok (.iload_n 1, 1) := by decide +kernel
theorem dX1_destination_5 : decode cX1_destination 5 = .ok (.bipush 63, 2) := by decide +kernel
theorem dX1_destination_7 : decode cX1_destination 7 = .ok (.if_icmp .le 5, 3) := by decide +kernel
theorem dX1_destination_10 : decode cX1_destination 10 = .ok (.iconst 0, 1) := by decide +kernel
theorem dX1_destination_11 : decode cX1_destination 11 = .ok (.ireturn, 1) := by decide +kernel
theorem dX1_destination_12 : decode cX1_destination 12 = .ok (.aload_n 0, 1) := by decide +kernel
theorem dX1_destination_13 : decode cX1_destination 13 = .ok (.getfield 36, 3) := by decide +kernel
theorem dX1_destination_16 : decode cX1_destination 16 = .ok (.iconst 3, 1) := by decide +kernel
theorem dX1_destination_17 : decode cX1_destination 17 = .ok (.if_icmp .ne 12, 3) := by decide +kernel
theorem dX1_destination_20 : decode cX1_destination 20 = .ok (.aload_n 0, 1) := by decide +kernel
theorem dX1_destination_21 : decode cX1_destination 21 = .ok (.getfield 7, 3) := by decide +kernel
theorem dX1_destination_24 : decode cX1_destination 24 = .ok (.iload_n 1, 1) := by decide +kernel
theorem dX1_destination_25 : decode cX1_destination 25 = .ok (.iaload, 1) := by decide +kernel
theorem dX1_destination_26 : decode cX1_destination 26 = .ok (.goto 9, 3) := by decide +kernel
theorem dX1_destination_29 : decode cX1_destination 29 = .ok (.aload_n 0, 1) := by decide +kernel
theorem dX1_destination_30 : decode cX1_destination 30 = .ok (.getfield 16, 3) := by decide +kernel
theorem dX1_destination_33 : decode cX1_destination 33 = .ok (.iload_n 1, 1) := by decide +kernel
theorem dX1_destination_34 : decode cX1_destination 34 = .ok (.iaload, 1) := by decide +kernel
theorem dX1_destination_35 : decode cX1_destination 35 = .ok (.ireturn, 1) := by decide +kernel
theorem dX1_register_0 : decode cX1_register 0 = .ok (.iload_n 1, 1) := by decide +kernel
theorem dX1_register_1 : decode cX1_register 1 = .ok (.ifCond .lt 8, 3) := by decide +kernel
theorem dX1_register_4 : decode cX1_register 4 = .ok (.iload_n 1, 1) := by decide +kernel
theorem dX1_register_5 : decode cX1_register 5 = .ok (.iconst 3, 1) := by decide +kernel
theorem dX1_register_6 : decode cX1_register 6 = .ok (.if_icmp .le 7, 3) := by decide +kernel
theorem dX1_register_9 : decode cX1_register 9 = .ok (.iconst 0, 1) := by decide +kernel
theorem dX1_register_10 : decode cX1_register 10 = .ok (.goto 9, 3) := by decide +kernel
theorem dX1_register_13 : decode cX1_register 13 = .ok (.aload_n 0, 1) := by decide +kernel
theorem dX1_register_14 : decode cX1_register 14 = .ok (.getfield 19, 3) := by decide +kernel
theorem dX1_register_17 : decode cX1_register 17 = .ok (.iload_n 1, 1) := by decide +kernel
theorem dX1_register_18 : decode cX1_register 18 = .ok (.iaload, 1) := by decide +kernel
theorem dX1_register_19 : decode cX1_register 19 = .ok (.ireturn, 1) := by decide +kernel
theorem dX1_pc_0 : decode cX1_pc 0 = .ok (.aload_n 0, 1) := by decide +kernel
theorem dX1_pc_1 : decode cX1_pc 1 = .ok (.getfield 56, 3) := by decide +kernel
theorem dX1_pc_4 : decode cX1_pc 4 = .ok (.ireturn, 1) := by decide +kernel
theorem dX1_shows_0 : decode cX1_shows 0 = .ok (.aload_n 0, 1) := by decide +kernel
theorem dX1_shows_1 : decode cX1_shows 1 = .ok (.getfield 59, 3) := by decide +kernel
theorem dX1_shows_4 : decode cX1_shows 4 = .ok (.ireturn, 1) := by decide +kernel
theorem dX1_shown_0 : decode cX1_shown 0 = .ok (.iload_n 1, 1) := by decide +kernel
theorem dX1_shown_1 : decode cX1_shown 1 = .ok (.ifCond .lt 17, 3) := by decide +kernel
theorem dX1_shown_4 : decode cX1_shown 4 = .ok (.iload_n 1, 1) := by decide +kernel
theorem dX1_shown_5 : decode cX1_shown 5 = .ok (.bipush 7, 2) := by decide +kernel
theorem dX1_shown_7 : decode cX1_shown 7 = .ok (.if_icmp .gt 11, 3) := by decide +kernel
theorem dX1_shown_10 : decode cX1_shown 10 = .ok (.iload_n 1, 1) := by decide +kernel
theorem dX1_shown_11 : decode cX1_shown 11 = .ok (.aload_n 0, 1) := by decide +kernel
theorem dX1_shown_12 : decode cX1_shown 12 = .ok (.getfield 59, 3) := by decide +kernel
theorem dX1_shown_15 : decode cX1_shown 15 = .ok (.if_icmp .lt 7, 3) := by decide +kernel
theorem dX1_shown_18 : decode cX1_shown 18 = .ok (.iconst 0, 1) := by decide +kernel
theorem dX1_shown_19 : decode cX1_shown 19 = .ok (.goto 9, 3) := by decide +kernel
theorem dX1_shown_22 : decode cX1_shown 22 = .ok (.aload_n 0, 1) := by decide +kernel
theorem dX1_shown_23 : decode cX1_shown 23 = .ok (.getfield 33, 3) := by decide +kernel
theorem dX1_shown_26 : decode cX1_shown 26 = .ok (.iload_n 1, 1) := by decide +kernel
theorem dX1_shown_27 : decode cX1_shown 27 = .ok (.iaload, 1) := by decide +kernel
theorem dX1_shown_28 : decode cX1_shown 28 = .ok (.ireturn, 1) := by decide +kernel
theorem dJ6_bitCount_0f7a4_0 : decode cJ6_bitCount_0f7a4 0 = .ok (.iload_n 0, 1) := by decide +kernel
theorem dJ6_bitCount_0f7a4_1 : decode cJ6_bitCount_0f7a4 1 = .ok (.iload_n 0, 1) := by decide +kernel
theorem dJ6_bitCount_0f7a4_2 : decode cJ6_bitCount_0f7a4 2 = .ok (.iconst 1, 1) := by decide +kernel
theorem dJ6_bitCount_0f7a4_3 : decode cJ6_bitCount_0f7a4 3 = .ok (.iushr, 1) := by decide +kernel
theorem dJ6_bitCount_0f7a4_4 : decode cJ6_bitCount_0f7a4 4 = .ok (.ldc_w 265, 3) := by decide +kernel
theorem dJ6_bitCount_0f7a4_7 : decode cJ6_bitCount_0f7a4 7 = .ok (.iand, 1) := by decide +kernel
theorem dJ6_bitCount_0f7a4_8 : decode cJ6_bitCount_0f7a4 8 = .ok (.isub, 1) := by decide +kernel
theorem dJ6_bitCount_0f7a4_9 : decode cJ6_bitCount_0f7a4 9 = .ok (.istore_n 0, 1) := by decide +kernel
theorem dJ6_bitCount_0f7a4_10 : decode cJ6_bitCount_0f7a4 10 = .ok (.iload_n 0, 1) := by decide +kernel
theorem dJ6_bitCount_0f7a4_11 : decode cJ6_bitCount_0f7a4 11 = .ok (.ldc_w 266, 3) := by decide +kernel
theorem dJ6_bitCount_0f7a4_14 : decode cJ6_bitCount_0f7a4 14 = .ok (.iand, 1) := by decide +kernel
theorem dJ6_bitCount_0f7a4_15 : decode cJ6_bitCount_0f7a4 15 = .ok (.iload_n 0, 1) := by decide +kernel
theorem dJ6_bitCount_0f7a4_16 : decode cJ6_bitCount_0f7a4 16 = .ok (.iconst 2, 1) := by decide +kernel
theorem dJ6_bitCount_0f7a4_17 : decode cJ6_bitCount_0f7a4 17 = .ok (.iushr, 1) := by decide +kernel
theorem dJ6_bitCount_0f7a4_18 : decode cJ6_bitCount_0f7a4 18 = .ok (.ldc_w 266, 3) := by decide +kernel
theorem dJ6_bitCount_0f7a4_21 : decode cJ6_bitCount_0f7a4 21 = .ok (.iand, 1) := by decide +kernel
theorem dJ6_bitCount_0f7a4_22 : decode cJ6_bitCount_0f7a4 22 = .ok (.iadd, 1) := by decide +kernel
theorem dJ6_bitCount_0f7a4_23 : decode cJ6_bitCount_0f7a4 23 = .ok (.istore_n 0, 1) := by decide +kernel
theorem dJ6_bitCount_0f7a4_24 : decode cJ6_bitCount_0f7a4 24 = .ok (.iload_n 0, 1) := by decide +kernel
theorem dJ6_bitCount_0f7a4_25 : decode cJ6_bitCount_0f7a4 25 = .ok (.iload_n 0, 1) := by decide +kernel
theorem dJ6_bitCount_0f7a4_26 : decode cJ6_bitCount_0f7a4 26 = .ok (.iconst 4, 1) := by decide +kernel
theorem dJ6_bitCount_0f7a4_27 : decode cJ6_bitCount_0f7a4 27 = .ok (.iushr, 1) := by decide +kernel
theorem dJ6_bitCount_0f7a4_28 : decode cJ6_bitCount_0f7a4 28 = .ok (.iadd, 1) := by decide +kernel
theorem dJ6_bitCount_0f7a4_29 : decode cJ6_bitCount_0f7a4 29 = .ok (.ldc_w 267, 3) := by decide +kernel
theorem dJ6_bitCount_0f7a4_32 : decode cJ6_bitCount_0f7a4 32 = .ok (.iand, 1) := by decide +kernel
theorem dJ6_bitCount_0f7a4_33 : decode cJ6_bitCount_0f7a4 33 = .ok (.istore_n 0, 1) := by decide +kernel
theorem dJ6_bitCount_0f7a4_34 : decode cJ6_bitCount_0f7a4 34 = .ok (.iload_n 0, 1) := by decide +kernel
theorem dJ6_bitCount_0f7a4_35 : decode cJ6_bitCount_0f7a4 35 = .ok (.iload_n 0, 1) := by decide +kernel
theorem dJ6_bitCount_0f7a4_36 : decode cJ6_bitCount_0f7a4 36 = .ok (.bipush 8, 2) := by decide +kernel
theorem dJ6_bitCount_0f7a4_38 : decode cJ6_bitCount_0f7a4 38 = .ok (.iushr, 1) := by decide +kernel
theorem dJ6_bitCount_0f7a4_39 : decode cJ6_bitCount_0f7a4 39 = .ok (.iadd, 1) := by decide +kernel
theorem dJ6_bitCount_0f7a4_40 : decode cJ6_bitCount_0f7a4 40 = .ok (.istore_n 0, 1) := by decide +kernel
theorem dJ6_bitCount_0f7a4_41 : decode cJ6_bitCount_0f7a4 41 = .ok (.iload_n 0, 1) := by decide +kernel
theorem dJ6_bitCount_0f7a4_42 : decode cJ6_bitCount_0f7a4 42 = .ok (.iload_n 0, 1) := by decide +kernel
theorem dJ6_bitCount_0f7a4_43 : decode cJ6_bitCount_0f7a4 43 = .ok (.bipush 16, 2) := by decide +kernel
theorem dJ6_bitCount_0f7a4_45 : decode cJ6_bitCount_0f7a4 45 = .ok (.iushr, 1) := by decide +kernel
theorem dJ6_bitCount_0f7a4_46 : decode cJ6_bitCount_0f7a4 46 = .ok (.iadd, 1) := by decide +kernel
theorem dJ6_bitCount_0f7a4_47 : decode cJ6_bitCount_0f7a4 47 = .ok (.istore_n 0, 1) := by decide +kernel
theorem dJ6_bitCount_0f7a4_48 : decode cJ6_bitCount_0f7a4 48 = .ok (.iload_n 0, 1) := by decide +kernel
theorem dJ6_bitCount_0f7a4_49 : decode cJ6_bitCount_0f7a4 49 = .ok (.bipush 63, 2) := by decide +kernel
theorem dJ6_bitCount_0f7a4_51 : decode cJ6_bitCount_0f7a4 51 = .ok (.iand, 1) := by decide +kernel
theorem dJ6_bitCount_0f7a4_52 : decode cJ6_bitCount_0f7a4 52 = .ok (.ireturn, 1) := by decide +kernel
