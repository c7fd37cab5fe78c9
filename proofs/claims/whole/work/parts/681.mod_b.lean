def k_Mod_commandOf_266 : List sp_I := [(.istore_n 3, 1, 3, 0, 0, 0), (.iinc 4 1, 3, 4, 0, 1, 0), (.goto (-42), 3, 228, 0, 0, 0)]
theorem e_Mod_commandOf_266 : sp_ok R_Mod b_Mod_commandOf 5 k_Mod_commandOf_266 266 = true := by decide +kernel
def k_Mod_commandOf_273 : List sp_I := [(.iload_n 3, 1, 3, 0, 0, 0), (.ifCond .eq 8, 3, 282, 0, 0, 0), (.bipush 11, 2, 0, 0, 11, 0), (.goto 4, 3, 283, 0, 0, 0)]
theorem e_Mod_commandOf_273 : sp_ok R_Mod b_Mod_commandOf 5 k_Mod_commandOf_273 273 = true := by decide +kernel
def k_Mod_commandOf_282 : List sp_I := [(.iconst 0, 1, 0, 0, 0, 0)]
theorem e_Mod_commandOf_282 : sp_ok R_Mod b_Mod_commandOf 5 k_Mod_commandOf_282 282 = true := by decide +kernel
theorem d_Mod_commandOf_2 : decode b_Mod_commandOf 2 = .ok (.invokevirtual 142, 3) := by decide +kernel
theorem d_Mod_commandOf_35 : decode b_Mod_commandOf 35 = .ok (.ireturn, 1) := by decide +kernel
theorem d_Mod_commandOf_65 : decode b_Mod_commandOf 65 = .ok (.ireturn, 1) := by decide +kernel
theorem d_Mod_commandOf_96 : decode b_Mod_commandOf 96 = .ok (.ireturn, 1) := by decide +kernel
theorem d_Mod_commandOf_128 : decode b_Mod_commandOf 128 = .ok (.ireturn, 1) := by decide +kernel
theorem d_Mod_commandOf_160 : decode b_Mod_commandOf 160 = .ok (.ireturn, 1) := by decide +kernel
theorem d_Mod_commandOf_192 : decode b_Mod_commandOf 192 = .ok (.ireturn, 1) := by decide +kernel
theorem d_Mod_commandOf_195 : decode b_Mod_commandOf 195 = .ok (.invokevirtual 136, 3) := by decide +kernel
theorem d_Mod_commandOf_255 : decode b_Mod_commandOf 255 = .ok (.invokestatic 180, 3) := by decide +kernel
theorem d_Mod_commandOf_283 : decode b_Mod_commandOf 283 = .ok (.ireturn, 1) := by decide +kernel
def k_Mod_flushLetter_0 : List sp_I := [(.ldc2_w 184, 3, 1034, 1, 0, 7380403027886170476), (.lstore_n 1, 1, 1, 0, 0, 0), (.iload_n 0, 1, 0, 0, 0, 0), (.bipush 8, 2, 0, 0, 8, 0), (.if_icmp .ne 8, 3, 15, 0, 0, 0), (.bipush 108, 2, 0, 0, 108, 0), (.goto 18, 3, 30, 0, 0, 0)]
theorem e_Mod_flushLetter_0 : sp_ok R_Mod b_Mod_flushLetter 3 k_Mod_flushLetter_0 0 = true := by decide +kernel
def k_Mod_flushLetter_15 : List sp_I := [(.lload_n 1, 1, 1, 0, 0, 0), (.bipush 8, 2, 0, 0, 8, 0), (.bipush 7, 2, 0, 0, 7, 0), (.iload_n 0, 1, 0, 0, 0, 0), (.isub, 1, 0, 0, 0, 0), (.imul, 1, 0, 0, 0, 0), (.lshr, 1, 0, 0, 0, 0), (.ldc2_w 55, 3, 993, 1, 0, 255), (.land, 1, 0, 0, 0, 0), (.l2i, 1, 0, 0, 0, 0), (.i2c, 1, 0, 0, 0, 0)]
theorem e_Mod_flushLetter_15 : sp_ok R_Mod b_Mod_flushLetter 3 k_Mod_flushLetter_15 15 = true := by decide +kernel
theorem d_Mod_flushLetter_30 : decode b_Mod_flushLetter 30 = .ok (.ireturn, 1) := by decide +kernel
def k_Mod_many_0 : List sp_I := [(.aload_n 0, 1, 0, 0, 0, 0), (.getfield 130, 3, 8, 21, 0, 923), (.iload_n 1, 1, 1, 0, 0, 0), (.if_icmp .eq 21, 3, 26, 0, 0, 0), (.aload_n 0, 1, 0, 0, 0, 0), (.getfield 130, 3, 8, 21, 0, 923), (.iload_n 1, 1, 1, 0, 0, 0), (.iconst 1, 1, 0, 0, 1, 0), (.iadd, 1, 0, 0, 0, 0), (.if_icmp .ne 15, 3, 30, 0, 0, 0), (.aload_n 0, 1, 0, 0, 0, 0), (.iload_n 1, 1, 1, 0, 0, 0)]
theorem e_Mod_many_0 : sp_ok R_Mod b_Mod_many 2 k_Mod_many_0 0 = true := by decide +kernel
def k_Mod_many_23 : List sp_I := [(.ifCond .eq 7, 3, 30, 0, 0, 0)]
theorem e_Mod_many_23 : sp_ok R_Mod b_Mod_many 2 k_Mod_many_23 23 = true := by decide +kernel
def k_Mod_many_26 : List sp_I := [(.iconst 1, 1, 0, 0, 1, 0), (.goto 4, 3, 31, 0, 0, 0)]
theorem e_Mod_many_26 : sp_ok R_Mod b_Mod_many 2 k_Mod_many_26 26 = true := by decide +kernel
def k_Mod_many_30 : List sp_I := [(.iconst 0, 1, 0, 0, 0, 0)]
theorem e_Mod_many_30 : sp_ok R_Mod b_Mod_many 2 k_Mod_many_30 30 = true := by decide +kernel
theorem d_Mod_many_20 : decode b_Mod_many 20 = .ok (.invokevirtual 186, 3) := by decide +kernel
theorem d_Mod_many_31 : decode b_Mod_many 31 = .ok (.ireturn, 1) := by decide +kernel
def k_Mod_isFormed_0 : List sp_I := [(.iload_n 1, 1, 1, 0, 0, 0), (.bipush 11, 2, 0, 0, 11, 0), (.if_icmp .ne 9, 3, 12, 0, 0, 0), (.aload_n 0, 1, 0, 0, 0, 0), (.iconst 1, 1, 0, 0, 1, 0)]
theorem e_Mod_isFormed_0 : sp_ok R_Mod b_Mod_isFormed 3 k_Mod_isFormed_0 0 = true := by decide +kernel
def k_Mod_isFormed_12 : List sp_I := [(.aload_n 0, 1, 0, 0, 0, 0), (.iconst 1, 1, 0, 0, 1, 0)]
theorem e_Mod_isFormed_12 : sp_ok R_Mod b_Mod_isFormed 3 k_Mod_isFormed_12 12 = true := by decide +kernel
def k_Mod_isFormed_17 : List sp_I := [(.lconst 0, 1, 0, 0, 0, 0), (.lcmp, 1, 0, 0, 0, 0), (.ifCond .le 7, 3, 26, 0, 0, 0), (.iconst 1, 1, 0, 0, 1, 0), (.goto 4, 3, 27, 0, 0, 0)]
theorem e_Mod_isFormed_17 : sp_ok R_Mod b_Mod_isFormed 3 k_Mod_isFormed_17 17 = true := by decide +kernel
def k_Mod_isFormed_26 : List sp_I := [(.iconst 0, 1, 0, 0, 0, 0)]
theorem e_Mod_isFormed_26 : sp_ok R_Mod b_Mod_isFormed 3 k_Mod_isFormed_26 26 = true := by decide +kernel
def k_Mod_isFormed_27 : List sp_I := [(.istore_n 2, 1, 2, 0, 0, 0), (.iload_n 1, 1, 1, 0, 0, 0), (.bipush 6, 2, 0, 0, 6, 0), (.if_icmp .gt 85, 3, 116, 0, 0, 0), (.iload_n 2, 1, 2, 0, 0, 0), (.ifCond .eq 34, 3, 69, 0, 0, 0), (.aload_n 0, 1, 0, 0, 0, 0), (.iconst 2, 1, 0, 0, 2, 0), (.iconst 0, 1, 0, 0, 0, 0)]
theorem e_Mod_isFormed_27 : sp_ok R_Mod b_Mod_isFormed 3 k_Mod_isFormed_27 27 = true := by decide +kernel
def k_Mod_isFormed_44 : List sp_I := [(.ifCond .lt 25, 3, 69, 0, 0, 0), (.aload_n 0, 1, 0, 0, 0, 0), (.iconst 3, 1, 0, 0, 3, 0)]
theorem e_Mod_isFormed_44 : sp_ok R_Mod b_Mod_isFormed 3 k_Mod_isFormed_44 44 = true := by decide +kernel
def k_Mod_isFormed_52 : List sp_I := [(.iconst (-1), 1, 0, 0, (-1), 0), (.if_icmp .eq 16, 3, 69, 0, 0, 0), (.aload_n 0, 1, 0, 0, 0, 0), (.iconst 4, 1, 0, 0, 4, 0), (.iconst 0, 1, 0, 0, 0, 0)]
theorem e_Mod_isFormed_52 : sp_ok R_Mod b_Mod_isFormed 3 k_Mod_isFormed_52 52 = true := by decide +kernel
def k_Mod_isFormed_62 : List sp_I := [(.ifCond .lt 7, 3, 69, 0, 0, 0), (.iconst 1, 1, 0, 0, 1, 0), (.goto 4, 3, 70, 0, 0, 0)]
theorem e_Mod_isFormed_62 : sp_ok R_Mod b_Mod_isFormed 3 k_Mod_isFormed_62 62 = true := by decide +kernel
def k_Mod_isFormed_69 : List sp_I := [(.iconst 0, 1, 0, 0, 0, 0)]
theorem e_Mod_isFormed_69 : sp_ok R_Mod b_Mod_isFormed 3 k_Mod_isFormed_69 69 = true := by decide +kernel
def k_Mod_isFormed_70 : List sp_I := [(.istore_n 2, 1, 2, 0, 0, 0), (.iload_n 2, 1, 2, 0, 0, 0), (.ifCond .eq 42, 3, 114, 0, 0, 0), (.iload_n 1, 1, 1, 0, 0, 0), (.bipush 6, 2, 0, 0, 6, 0), (.if_icmp .ne 24, 3, 102, 0, 0, 0), (.aload_n 0, 1, 0, 0, 0, 0), (.iconst 5, 1, 0, 0, 5, 0), (.iconst 0, 1, 0, 0, 0, 0)]
theorem e_Mod_isFormed_70 : sp_ok R_Mod b_Mod_isFormed 3 k_Mod_isFormed_70 70 = true := by decide +kernel
def k_Mod_isFormed_87 : List sp_I := [(.ifCond .lt 27, 3, 114, 0, 0, 0), (.aload_n 0, 1, 0, 0, 0, 0), (.bipush 6, 2, 0, 0, 6, 0)]
theorem e_Mod_isFormed_87 : sp_ok R_Mod b_Mod_isFormed 3 k_Mod_isFormed_87 87 = true := by decide +kernel
def k_Mod_isFormed_96 : List sp_I := [(.ifCond .eq 18, 3, 114, 0, 0, 0), (.goto 11, 3, 110, 0, 0, 0)]
theorem e_Mod_isFormed_96 : sp_ok R_Mod b_Mod_isFormed 3 k_Mod_isFormed_96 96 = true := by decide +kernel
def k_Mod_isFormed_102 : List sp_I := [(.aload_n 0, 1, 0, 0, 0, 0), (.iconst 5, 1, 0, 0, 5, 0)]
theorem e_Mod_isFormed_102 : sp_ok R_Mod b_Mod_isFormed 3 k_Mod_isFormed_102 102 = true := by decide +kernel
def k_Mod_isFormed_107 : List sp_I := [(.ifCond .eq 7, 3, 114, 0, 0, 0)]
theorem e_Mod_isFormed_107 : sp_ok R_Mod b_Mod_isFormed 3 k_Mod_isFormed_107 107 = true := by decide +kernel
def k_Mod_isFormed_110 : List sp_I := [(.iconst 1, 1, 0, 0, 1, 0), (.goto 4, 3, 115, 0, 0, 0)]
theorem e_Mod_isFormed_110 : sp_ok R_Mod b_Mod_isFormed 3 k_Mod_isFormed_110 110 = true := by decide +kernel
def k_Mod_isFormed_114 : List sp_I := [(.iconst 0, 1, 0, 0, 0, 0)]
theorem e_Mod_isFormed_114 : sp_ok R_Mod b_Mod_isFormed 3 k_Mod_isFormed_114 114 = true := by decide +kernel
def k_Mod_isFormed_116 : List sp_I := [(.iload_n 1, 1, 1, 0, 0, 0), (.bipush 7, 2, 0, 0, 7, 0), (.if_icmp .eq 9, 3, 128, 0, 0, 0), (.iload_n 1, 1, 1, 0, 0, 0), (.bipush 8, 2, 0, 0, 8, 0), (.if_icmp .ne 57, 3, 182, 0, 0, 0)]
theorem e_Mod_isFormed_116 : sp_ok R_Mod b_Mod_isFormed 3 k_Mod_isFormed_116 116 = true := by decide +kernel
def k_Mod_isFormed_128 : List sp_I := [(.iload_n 2, 1, 2, 0, 0, 0), (.ifCond .eq 51, 3, 180, 0, 0, 0), (.aload_n 0, 1, 0, 0, 0, 0), (.getfield 130, 3, 8, 21, 0, 923), (.iconst 5, 1, 0, 0, 5, 0), (.if_icmp .ge 43, 3, 180, 0, 0, 0), (.aload_n 0, 1, 0, 0, 0, 0), (.getfield 130, 3, 8, 21, 0, 923), (.iconst 3, 1, 0, 0, 3, 0), (.if_icmp .lt 13, 3, 158, 0, 0, 0), (.aload_n 0, 1, 0, 0, 0, 0), (.iconst 2, 1, 0, 0, 2, 0)]
theorem e_Mod_isFormed_128 : sp_ok R_Mod b_Mod_isFormed 3 k_Mod_isFormed_128 128 = true := by decide +kernel
def k_Mod_isFormed_153 : List sp_I := [(.lconst 0, 1, 0, 0, 0, 0), (.lcmp, 1, 0, 0, 0, 0), (.ifCond .le 25, 3, 180, 0, 0, 0)]
theorem e_Mod_isFormed_153 : sp_ok R_Mod b_Mod_isFormed 3 k_Mod_isFormed_153 153 = true := by decide +kernel
def k_Mod_isFormed_158 : List sp_I := [(.aload_n 0, 1, 0, 0, 0, 0), (.getfield 130, 3, 8, 21, 0, 923), (.iconst 4, 1, 0, 0, 4, 0), (.if_icmp .lt 13, 3, 176, 0, 0, 0), (.aload_n 0, 1, 0, 0, 0, 0), (.iconst 3, 1, 0, 0, 3, 0)]
theorem e_Mod_isFormed_158 : sp_ok R_Mod b_Mod_isFormed 3 k_Mod_isFormed_158 158 = true := by decide +kernel
def k_Mod_isFormed_171 : List sp_I := [(.lconst 0, 1, 0, 0, 0, 0), (.lcmp, 1, 0, 0, 0, 0), (.ifCond .le 7, 3, 180, 0, 0, 0)]
theorem e_Mod_isFormed_171 : sp_ok R_Mod b_Mod_isFormed 3 k_Mod_isFormed_171 171 = true := by decide +kernel
def k_Mod_isFormed_176 : List sp_I := [(.iconst 1, 1, 0, 0, 1, 0), (.goto 4, 3, 181, 0, 0, 0)]
theorem e_Mod_isFormed_176 : sp_ok R_Mod b_Mod_isFormed 3 k_Mod_isFormed_176 176 = true := by decide +kernel
def k_Mod_isFormed_180 : List sp_I := [(.iconst 0, 1, 0, 0, 0, 0)]
theorem e_Mod_isFormed_180 : sp_ok R_Mod b_Mod_isFormed 3 k_Mod_isFormed_180 180 = true := by decide +kernel
def k_Mod_isFormed_182 : List sp_I := [(.iload_n 1, 1, 1, 0, 0, 0), (.bipush 9, 2, 0, 0, 9, 0), (.if_icmp .ne 21, 3, 206, 0, 0, 0), (.iload_n 2, 1, 2, 0, 0, 0), (.ifCond .eq 15, 3, 204, 0, 0, 0), (.aload_n 0, 1, 0, 0, 0, 0), (.iconst 2, 1, 0, 0, 2, 0)]
theorem e_Mod_isFormed_182 : sp_ok R_Mod b_Mod_isFormed 3 k_Mod_isFormed_182 182 = true := by decide +kernel
def k_Mod_isFormed_197 : List sp_I := [(.ifCond .eq 7, 3, 204, 0, 0, 0), (.iconst 1, 1, 0, 0, 1, 0), (.goto 4, 3, 205, 0, 0, 0)]
theorem e_Mod_isFormed_197 : sp_ok R_Mod b_Mod_isFormed 3 k_Mod_isFormed_197 197 = true := by decide +kernel
def k_Mod_isFormed_204 : List sp_I := [(.iconst 0, 1, 0, 0, 0, 0)]
theorem e_Mod_isFormed_204 : sp_ok R_Mod b_Mod_isFormed 3 k_Mod_isFormed_204 204 = true := by decide +kernel
def k_Mod_isFormed_206 : List sp_I := [(.iload_n 2, 1, 2, 0, 0, 0), (.ifCond .eq 42, 3, 249, 0, 0, 0), (.iload_n 1, 1, 1, 0, 0, 0), (.bipush 10, 2, 0, 0, 10, 0), (.if_icmp .ne 15, 3, 228, 0, 0, 0), (.aload_n 0, 1, 0, 0, 0, 0), (.iconst 2, 1, 0, 0, 2, 0)]
theorem e_Mod_isFormed_206 : sp_ok R_Mod b_Mod_isFormed 3 k_Mod_isFormed_206 206 = true := by decide +kernel
def k_Mod_isFormed_221 : List sp_I := [(.iconst (-1), 1, 0, 0, (-1), 0), (.if_icmp .eq 27, 3, 249, 0, 0, 0), (.goto 12, 3, 237, 0, 0, 0)]
theorem e_Mod_isFormed_221 : sp_ok R_Mod b_Mod_isFormed 3 k_Mod_isFormed_221 221 = true := by decide +kernel
def k_Mod_isFormed_228 : List sp_I := [(.aload_n 0, 1, 0, 0, 0, 0), (.iconst 2, 1, 0, 0, 2, 0), (.iconst 0, 1, 0, 0, 0, 0)]
theorem e_Mod_isFormed_228 : sp_ok R_Mod b_Mod_isFormed 3 k_Mod_isFormed_228 228 = true := by decide +kernel
def k_Mod_isFormed_234 : List sp_I := [(.ifCond .lt 15, 3, 249, 0, 0, 0)]
theorem e_Mod_isFormed_234 : sp_ok R_Mod b_Mod_isFormed 3 k_Mod_isFormed_234 234 = true := by decide +kernel
def k_Mod_isFormed_237 : List sp_I := [(.aload_n 0, 1, 0, 0, 0, 0), (.iconst 3, 1, 0, 0, 3, 0)]
theorem e_Mod_isFormed_237 : sp_ok R_Mod b_Mod_isFormed 3 k_Mod_isFormed_237 237 = true := by decide +kernel
def k_Mod_isFormed_242 : List sp_I := [(.ifCond .eq 7, 3, 249, 0, 0, 0), (.iconst 1, 1, 0, 0, 1, 0), (.goto 4, 3, 250, 0, 0, 0)]
theorem e_Mod_isFormed_242 : sp_ok R_Mod b_Mod_isFormed 3 k_Mod_isFormed_242 242 = true := by decide +kernel
def k_Mod_isFormed_249 : List sp_I := [(.iconst 0, 1, 0, 0, 0, 0)]
theorem e_Mod_isFormed_249 : sp_ok R_Mod b_Mod_isFormed 3 k_Mod_isFormed_249 249 = true := by decide +kernel
theorem d_Mod_isFormed_8 : decode b_Mod_isFormed 8 = .ok (.invokevirtual 190, 3) := by decide +kernel
theorem d_Mod_isFormed_11 : decode b_Mod_isFormed 11 = .ok (.ireturn, 1) := by decide +kernel
theorem d_Mod_isFormed_14 : decode b_Mod_isFormed 14 = .ok (.invokevirtual 142, 3) := by decide +kernel
theorem d_Mod_isFormed_41 : decode b_Mod_isFormed 41 = .ok (.invokevirtual 152, 3) := by decide +kernel
theorem d_Mod_isFormed_49 : decode b_Mod_isFormed 49 = .ok (.invokevirtual 193, 3) := by decide +kernel
theorem d_Mod_isFormed_59 : decode b_Mod_isFormed 59 = .ok (.invokevirtual 152, 3) := by decide +kernel
theorem d_Mod_isFormed_84 : decode b_Mod_isFormed 84 = .ok (.invokevirtual 152, 3) := by decide +kernel
theorem d_Mod_isFormed_93 : decode b_Mod_isFormed 93 = .ok (.invokevirtual 190, 3) := by decide +kernel
theorem d_Mod_isFormed_104 : decode b_Mod_isFormed 104 = .ok (.invokevirtual 190, 3) := by decide +kernel
theorem d_Mod_isFormed_115 : decode b_Mod_isFormed 115 = .ok (.ireturn, 1) := by decide +kernel
theorem d_Mod_isFormed_150 : decode b_Mod_isFormed 150 = .ok (.invokevirtual 142, 3) := by decide +kernel
theorem d_Mod_isFormed_168 : decode b_Mod_isFormed 168 = .ok (.invokevirtual 142, 3) := by decide +kernel
theorem d_Mod_isFormed_181 : decode b_Mod_isFormed 181 = .ok (.ireturn, 1) := by decide +kernel
theorem d_Mod_isFormed_194 : decode b_Mod_isFormed 194 = .ok (.invokevirtual 190, 3) := by decide +kernel
theorem d_Mod_isFormed_205 : decode b_Mod_isFormed 205 = .ok (.ireturn, 1) := by decide +kernel
theorem d_Mod_isFormed_218 : decode b_Mod_isFormed 218 = .ok (.invokevirtual 193, 3) := by decide +kernel
theorem d_Mod_isFormed_231 : decode b_Mod_isFormed 231 = .ok (.invokevirtual 152, 3) := by decide +kernel
theorem d_Mod_isFormed_239 : decode b_Mod_isFormed 239 = .ok (.invokevirtual 190, 3) := by decide +kernel
theorem d_Mod_isFormed_250 : decode b_Mod_isFormed 250 = .ok (.ireturn, 1) := by decide +kernel
def k_Mod_find_0 : List sp_I := [(.iconst (-1), 1, 0, 0, (-1), 0), (.istore_n 3, 1, 3, 0, 0, 0), (.iconst 0, 1, 0, 0, 0, 0), (.istore 4, 2, 4, 0, 0, 0)]
theorem e_Mod_find_0 : sp_ok R_Mod b_Mod_find 5 k_Mod_find_0 0 = true := by decide +kernel
def k_Mod_find_5 : List sp_I := [(.iload 4, 2, 4, 0, 0, 0), (.aload_n 0, 1, 0, 0, 0, 0), (.getfield 196, 3, 8, 5, 0, 907), (.if_icmp .ge 28, 3, 39, 0, 0, 0), (.aload_n 0, 1, 0, 0, 0, 0), (.getfield 16, 3, 8, 6, 0, 908), (.iload 4, 2, 4, 0, 0, 0), (.laload, 1, 0, 0, 0, 0), (.lload_n 1, 1, 1, 0, 0, 0), (.lcmp, 1, 0, 0, 0, 0), (.ifCond .ne 8, 3, 31, 0, 0, 0), (.iload 4, 2, 4, 0, 0, 0), (.goto 4, 3, 32, 0, 0, 0)]
theorem e_Mod_find_5 : sp_ok R_Mod b_Mod_find 5 k_Mod_find_5 5 = true := by decide +kernel
def k_Mod_find_31 : List sp_I := [(.iload_n 3, 1, 3, 0, 0, 0)]
theorem e_Mod_find_31 : sp_ok R_Mod b_Mod_find 5 k_Mod_find_31 31 = true := by decide +kernel
def k_Mod_find_32 : List sp_I := [(.istore_n 3, 1, 3, 0, 0, 0), (.iinc 4 1, 3, 4, 0, 1, 0), (.goto (-31), 3, 5, 0, 0, 0)]
theorem e_Mod_find_32 : sp_ok R_Mod b_Mod_find 5 k_Mod_find_32 32 = true := by decide +kernel
def k_Mod_find_39 : List sp_I := [(.iload_n 3, 1, 3, 0, 0, 0)]
theorem e_Mod_find_39 : sp_ok R_Mod b_Mod_find 5 k_Mod_find_39 39 = true := by decide +kernel
theorem d_Mod_find_40 : decode b_Mod_find 40 = .ok (.ireturn, 1) := by decide +kernel
def k_Mod_lengthOf_0 : List sp_I := [(.iconst 0, 1, 0, 0, 0, 0), (.istore_n 2, 1, 2, 0, 0, 0), (.lload_n 0, 1, 0, 0, 0, 0), (.lstore_n 3, 1, 3, 0, 0, 0)]
theorem e_Mod_lengthOf_0 : sp_ok R_Mod b_Mod_lengthOf 5 k_Mod_lengthOf_0 0 = true := by decide +kernel
def k_Mod_lengthOf_4 : List sp_I := [(.lload_n 3, 1, 3, 0, 0, 0), (.lconst 0, 1, 0, 0, 0, 0), (.lcmp, 1, 0, 0, 0, 0), (.ifCond .le 14, 3, 21, 0, 0, 0), (.iinc 2 1, 3, 2, 0, 1, 0), (.lload_n 3, 1, 3, 0, 0, 0), (.bipush 8, 2, 0, 0, 8, 0), (.lshr, 1, 0, 0, 0, 0), (.lstore_n 3, 1, 3, 0, 0, 0), (.goto (-14), 3, 4, 0, 0, 0)]
theorem e_Mod_lengthOf_4 : sp_ok R_Mod b_Mod_lengthOf 5 k_Mod_lengthOf_4 4 = true := by decide +kernel
def k_Mod_lengthOf_21 : List sp_I := [(.iload_n 2, 1, 2, 0, 0, 0)]
theorem e_Mod_lengthOf_21 : sp_ok R_Mod b_Mod_lengthOf 5 k_Mod_lengthOf_21 21 = true := by decide +kernel
theorem d_Mod_lengthOf_22 : decode b_Mod_lengthOf 22 = .ok (.ireturn, 1) := by decide +kernel
def k_Mod_classOf_0 : List sp_I := [(.iload_n 0, 1, 0, 0, 0, 0), (.bipush 8, 2, 0, 0, 8, 0), (.if_icmp .gt 7, 3, 10, 0, 0, 0), (.iconst 0, 1, 0, 0, 0, 0), (.goto 24, 3, 31, 0, 0, 0)]
theorem e_Mod_classOf_0 : sp_ok R_Mod b_Mod_classOf 1 k_Mod_classOf_0 0 = true := by decide +kernel
def k_Mod_classOf_10 : List sp_I := [(.iload_n 0, 1, 0, 0, 0, 0), (.bipush 16, 2, 0, 0, 16, 0), (.if_icmp .gt 7, 3, 20, 0, 0, 0), (.iconst 1, 1, 0, 0, 1, 0), (.goto 14, 3, 31, 0, 0, 0)]
theorem e_Mod_classOf_10 : sp_ok R_Mod b_Mod_classOf 1 k_Mod_classOf_10 10 = true := by decide +kernel
def k_Mod_classOf_20 : List sp_I := [(.iload_n 0, 1, 0, 0, 0, 0), (.bipush 32, 2, 0, 0, 32, 0), (.if_icmp .gt 7, 3, 30, 0, 0, 0), (.iconst 2, 1, 0, 0, 2, 0), (.goto 4, 3, 31, 0, 0, 0)]
theorem e_Mod_classOf_20 : sp_ok R_Mod b_Mod_classOf 1 k_Mod_classOf_20 20 = true := by decide +kernel
def k_Mod_classOf_30 : List sp_I := [(.iconst 3, 1, 0, 0, 3, 0)]
theorem e_Mod_classOf_30 : sp_ok R_Mod b_Mod_classOf 1 k_Mod_classOf_30 30 = true := by decide +kernel
theorem d_Mod_classOf_31 : decode b_Mod_classOf 31 = .ok (.ireturn, 1) := by decide +kernel
def k_Mod_classAt_0 : List sp_I := [(.aload_n 0, 1, 0, 0, 0, 0), (.getfield 16, 3, 8, 6, 0, 908), (.iload_n 1, 1, 1, 0, 0, 0), (.laload, 1, 0, 0, 0, 0)]
theorem e_Mod_classAt_0 : sp_ok R_Mod b_Mod_classAt 3 k_Mod_classAt_0 0 = true := by decide +kernel
def k_Mod_classAt_9 : List sp_I := [(.istore_n 2, 1, 2, 0, 0, 0), (.iload_n 2, 1, 2, 0, 0, 0), (.aload_n 0, 1, 0, 0, 0, 0), (.getfield 24, 3, 8, 8, 0, 910), (.iload_n 1, 1, 1, 0, 0, 0), (.iaload, 1, 0, 0, 0, 0), (.iadd, 1, 0, 0, 0, 0)]
theorem e_Mod_classAt_9 : sp_ok R_Mod b_Mod_classAt 3 k_Mod_classAt_9 9 = true := by decide +kernel
theorem d_Mod_classAt_6 : decode b_Mod_classAt 6 = .ok (.invokestatic 199, 3) := by decide +kernel
theorem d_Mod_classAt_18 : decode b_Mod_classAt 18 = .ok (.invokestatic 203, 3) := by decide +kernel
theorem d_Mod_classAt_21 : decode b_Mod_classAt 21 = .ok (.ireturn, 1) := by decide +kernel
def k_Mod_itemsOf_0 : List sp_I := [(.iconst 0, 1, 0, 0, 0, 0), (.istore_n 2, 1, 2, 0, 0, 0), (.iconst 0, 1, 0, 0, 0, 0), (.istore_n 3, 1, 3, 0, 0, 0)]
theorem e_Mod_itemsOf_0 : sp_ok R_Mod b_Mod_itemsOf 4 k_Mod_itemsOf_0 0 = true := by decide +kernel
def k_Mod_itemsOf_4 : List sp_I := [(.iload_n 3, 1, 3, 0, 0, 0), (.aload_n 0, 1, 0, 0, 0, 0), (.getfield 196, 3, 8, 5, 0, 907), (.if_icmp .ge 26, 3, 35, 0, 0, 0), (.iload_n 2, 1, 2, 0, 0, 0), (.aload_n 0, 1, 0, 0, 0, 0), (.iload_n 3, 1, 3, 0, 0, 0)]
theorem e_Mod_itemsOf_4 : sp_ok R_Mod b_Mod_itemsOf 4 k_Mod_itemsOf_4 4 = true := by decide +kernel
def k_Mod_itemsOf_18 : List sp_I := [(.iload_n 1, 1, 1, 0, 0, 0), (.if_icmp .ne 7, 3, 26, 0, 0, 0), (.iconst 1, 1, 0, 0, 1, 0), (.goto 4, 3, 27, 0, 0, 0)]
theorem e_Mod_itemsOf_18 : sp_ok R_Mod b_Mod_itemsOf 4 k_Mod_itemsOf_18 18 = true := by decide +kernel
def k_Mod_itemsOf_26 : List sp_I := [(.iconst 0, 1, 0, 0, 0, 0)]
theorem e_Mod_itemsOf_26 : sp_ok R_Mod b_Mod_itemsOf 4 k_Mod_itemsOf_26 26 = true := by decide +kernel
def k_Mod_itemsOf_27 : List sp_I := [(.iadd, 1, 0, 0, 0, 0), (.istore_n 2, 1, 2, 0, 0, 0), (.iinc 3 1, 3, 3, 0, 1, 0), (.goto (-28), 3, 4, 0, 0, 0)]
theorem e_Mod_itemsOf_27 : sp_ok R_Mod b_Mod_itemsOf 4 k_Mod_itemsOf_27 27 = true := by decide +kernel
def k_Mod_itemsOf_35 : List sp_I := [(.iload_n 2, 1, 2, 0, 0, 0)]
theorem e_Mod_itemsOf_35 : sp_ok R_Mod b_Mod_itemsOf 4 k_Mod_itemsOf_35 35 = true := by decide +kernel
theorem d_Mod_itemsOf_15 : decode b_Mod_itemsOf 15 = .ok (.invokevirtual 206, 3) := by decide +kernel
theorem d_Mod_itemsOf_36 : decode b_Mod_itemsOf 36 = .ok (.ireturn, 1) := by decide +kernel
def k_Mod_freeChunks_0 : List sp_I := [(.bipush 8, 2, 0, 0, 8, 0), (.iload_n 1, 1, 1, 0, 0, 0), (.ishr, 1, 0, 0, 0, 0), (.aload_n 0, 1, 0, 0, 0, 0), (.getfield 39, 3, 8, 13, 0, 915), (.iload_n 1, 1, 1, 0, 0, 0), (.iaload, 1, 0, 0, 0, 0), (.imul, 1, 0, 0, 0, 0), (.aload_n 0, 1, 0, 0, 0, 0), (.iload_n 1, 1, 1, 0, 0, 0)]
theorem e_Mod_freeChunks_0 : sp_ok R_Mod b_Mod_freeChunks 2 k_Mod_freeChunks_0 0 = true := by decide +kernel
def k_Mod_freeChunks_16 : List sp_I := [(.isub, 1, 0, 0, 0, 0)]
theorem e_Mod_freeChunks_16 : sp_ok R_Mod b_Mod_freeChunks 2 k_Mod_freeChunks_16 16 = true := by decide +kernel
theorem d_Mod_freeChunks_13 : decode b_Mod_freeChunks 13 = .ok (.invokevirtual 209, 3) := by decide +kernel
theorem d_Mod_freeChunks_17 : decode b_Mod_freeChunks 17 = .ok (.ireturn, 1) := by decide +kernel
def k_Mod_freePages_0 : List sp_I := [(.bipush 6, 2, 0, 0, 6, 0), (.aload_n 0, 1, 0, 0, 0, 0), (.getfield 39, 3, 8, 13, 0, 915), (.iconst 0, 1, 0, 0, 0, 0), (.iaload, 1, 0, 0, 0, 0), (.isub, 1, 0, 0, 0, 0), (.aload_n 0, 1, 0, 0, 0, 0), (.getfield 39, 3, 8, 13, 0, 915), (.iconst 1, 1, 0, 0, 1, 0), (.iaload, 1, 0, 0, 0, 0), (.isub, 1, 0, 0, 0, 0), (.aload_n 0, 1, 0, 0, 0, 0), (.getfield 39, 3, 8, 13, 0, 915), (.iconst 2, 1, 0, 0, 2, 0), (.iaload, 1, 0, 0, 0, 0), (.isub, 1, 0, 0, 0, 0), (.aload_n 0, 1, 0, 0, 0, 0), (.getfield 39, 3, 8, 13, 0, 915), (.iconst 3, 1, 0, 0, 3, 0), (.iaload, 1, 0, 0, 0, 0), (.isub, 1, 0, 0, 0, 0)]
theorem e_Mod_freePages_0 : sp_ok R_Mod b_Mod_freePages 1 k_Mod_freePages_0 0 = true := by decide +kernel
theorem d_Mod_freePages_30 : decode b_Mod_freePages 30 = .ok (.ireturn, 1) := by decide +kernel
def k_Mod_use_0 : List sp_I := [(.aload_n 0, 1, 0, 0, 0, 0), (.dup, 1, 0, 0, 0, 0), (.getfield 212, 3, 8, 16, 0, 918), (.iconst 1, 1, 0, 0, 1, 0), (.iadd, 1, 0, 0, 0, 0), (.putfield 212, 3, 8, 16, 0, 918), (.aload_n 0, 1, 0, 0, 0, 0), (.getfield 36, 3, 8, 12, 0, 914), (.iload_n 1, 1, 1, 0, 0, 0), (.aload_n 0, 1, 0, 0, 0, 0), (.getfield 212, 3, 8, 16, 0, 918), (.iastore, 1, 0, 0, 0, 0)]
theorem e_Mod_use_0 : sp_ok R_Mod b_Mod_use 2 k_Mod_use_0 0 = true := by decide +kernel
theorem d_Mod_use_20 : decode b_Mod_use 20 = .ok (.return_, 1) := by decide +kernel
def k_Mod_takeAway_0 : List sp_I := [(.aload_n 0, 1, 0, 0, 0, 0), (.dup, 1, 0, 0, 0, 0), (.getfield 196, 3, 8, 5, 0, 907), (.iconst 1, 1, 0, 0, 1, 0), (.isub, 1, 0, 0, 0, 0), (.putfield 196, 3, 8, 5, 0, 907), (.aload_n 0, 1, 0, 0, 0, 0), (.getfield 16, 3, 8, 6, 0, 908), (.iload_n 1, 1, 1, 0, 0, 0), (.aload_n 0, 1, 0, 0, 0, 0), (.getfield 16, 3, 8, 6, 0, 908), (.aload_n 0, 1, 0, 0, 0, 0), (.getfield 196, 3, 8, 5, 0, 907), (.laload, 1, 0, 0, 0, 0), (.lastore, 1, 0, 0, 0, 0), (.aload_n 0, 1, 0, 0, 0, 0), (.getfield 20, 3, 8, 7, 0, 909), (.iload_n 1, 1, 1, 0, 0, 0), (.aload_n 0, 1, 0, 0, 0, 0), (.getfield 20, 3, 8, 7, 0, 909), (.aload_n 0, 1, 0, 0, 0, 0), (.getfield 196, 3, 8, 5, 0, 907), (.iaload, 1, 0, 0, 0, 0), (.iastore, 1, 0, 0, 0, 0), (.aload_n 0, 1, 0, 0, 0, 0), (.getfield 24, 3, 8, 8, 0, 910), (.iload_n 1, 1, 1, 0, 0, 0), (.aload_n 0, 1, 0, 0, 0, 0), (.getfield 24, 3, 8, 8, 0, 910), (.aload_n 0, 1, 0, 0, 0, 0), (.getfield 196, 3, 8, 5, 0, 907), (.iaload, 1, 0, 0, 0, 0), (.iastore, 1, 0, 0, 0, 0), (.aload_n 0, 1, 0, 0, 0, 0), (.getfield 30, 3, 8, 10, 0, 912), (.iload_n 1, 1, 1, 0, 0, 0), (.aload_n 0, 1, 0, 0, 0, 0), (.getfield 30, 3, 8, 10, 0, 912), (.aload_n 0, 1, 0, 0, 0, 0), (.getfield 196, 3, 8, 5, 0, 907), (.iaload, 1, 0, 0, 0, 0), (.iastore, 1, 0, 0, 0, 0), (.aload_n 0, 1, 0, 0, 0, 0), (.getfield 33, 3, 8, 11, 0, 913), (.iload_n 1, 1, 1, 0, 0, 0), (.aload_n 0, 1, 0, 0, 0, 0), (.getfield 33, 3, 8, 11, 0, 913), (.aload_n 0, 1, 0, 0, 0, 0), (.getfield 196, 3, 8, 5, 0, 907), (.iaload, 1, 0, 0, 0, 0), (.iastore, 1, 0, 0, 0, 0), (.aload_n 0, 1, 0, 0, 0, 0), (.getfield 36, 3, 8, 12, 0, 914), (.iload_n 1, 1, 1, 0, 0, 0), (.aload_n 0, 1, 0, 0, 0, 0), (.getfield 36, 3, 8, 12, 0, 914), (.aload_n 0, 1, 0, 0, 0, 0), (.getfield 196, 3, 8, 5, 0, 907), (.iaload, 1, 0, 0, 0, 0), (.iastore, 1, 0, 0, 0, 0), (.iconst 0, 1, 0, 0, 0, 0), (.istore_n 2, 1, 2, 0, 0, 0)]
theorem e_Mod_takeAway_0 : sp_ok R_Mod b_Mod_takeAway 3 k_Mod_takeAway_0 0 = true := by decide +kernel
def k_Mod_takeAway_102 : List sp_I := [(.iload_n 2, 1, 2, 0, 0, 0), (.bipush 64, 2, 0, 0, 64, 0), (.if_icmp .ge 34, 3, 139, 0, 0, 0), (.aload_n 0, 1, 0, 0, 0, 0), (.getfield 27, 3, 8, 9, 0, 911), (.bipush 64, 2, 0, 0, 64, 0), (.iload_n 1, 1, 1, 0, 0, 0), (.imul, 1, 0, 0, 0, 0), (.iload_n 2, 1, 2, 0, 0, 0), (.iadd, 1, 0, 0, 0, 0), (.aload_n 0, 1, 0, 0, 0, 0), (.getfield 27, 3, 8, 9, 0, 911), (.bipush 64, 2, 0, 0, 64, 0), (.aload_n 0, 1, 0, 0, 0, 0), (.getfield 196, 3, 8, 5, 0, 907), (.imul, 1, 0, 0, 0, 0), (.iload_n 2, 1, 2, 0, 0, 0), (.iadd, 1, 0, 0, 0, 0), (.caload, 1, 0, 0, 0, 0), (.castore, 1, 0, 0, 0, 0), (.iinc 2 1, 3, 2, 0, 1, 0), (.goto (-34), 3, 102, 0, 0, 0)]
theorem e_Mod_takeAway_102 : sp_ok R_Mod b_Mod_takeAway 3 k_Mod_takeAway_102 102 = true := by decide +kernel
theorem d_Mod_takeAway_139 : decode b_Mod_takeAway 139 = .ok (.return_, 1) := by decide +kernel
def k_Mod_evict_0 : List sp_I := [(.iconst (-1), 1, 0, 0, (-1), 0), (.istore_n 2, 1, 2, 0, 0, 0), (.iconst 0, 1, 0, 0, 0, 0), (.istore_n 3, 1, 3, 0, 0, 0)]
theorem e_Mod_evict_0 : sp_ok R_Mod b_Mod_evict 4 k_Mod_evict_0 0 = true := by decide +kernel
def k_Mod_evict_4 : List sp_I := [(.iload_n 3, 1, 3, 0, 0, 0), (.aload_n 0, 1, 0, 0, 0, 0), (.getfield 196, 3, 8, 5, 0, 907), (.if_icmp .ge 43, 3, 52, 0, 0, 0), (.aload_n 0, 1, 0, 0, 0, 0), (.iload_n 3, 1, 3, 0, 0, 0)]
theorem e_Mod_evict_4 : sp_ok R_Mod b_Mod_evict 4 k_Mod_evict_4 4 = true := by decide +kernel
def k_Mod_evict_17 : List sp_I := [(.iload_n 1, 1, 1, 0, 0, 0), (.if_icmp .ne 26, 3, 44, 0, 0, 0), (.iload_n 2, 1, 2, 0, 0, 0), (.ifCond .lt 18, 3, 40, 0, 0, 0), (.aload_n 0, 1, 0, 0, 0, 0), (.getfield 36, 3, 8, 12, 0, 914), (.iload_n 3, 1, 3, 0, 0, 0), (.iaload, 1, 0, 0, 0, 0), (.aload_n 0, 1, 0, 0, 0, 0), (.getfield 36, 3, 8, 12, 0, 914), (.iload_n 2, 1, 2, 0, 0, 0), (.iaload, 1, 0, 0, 0, 0), (.if_icmp .ge 7, 3, 44, 0, 0, 0)]
theorem e_Mod_evict_17 : sp_ok R_Mod b_Mod_evict 4 k_Mod_evict_17 17 = true := by decide +kernel
def k_Mod_evict_40 : List sp_I := [(.iload_n 3, 1, 3, 0, 0, 0), (.goto 4, 3, 45, 0, 0, 0)]
theorem e_Mod_evict_40 : sp_ok R_Mod b_Mod_evict 4 k_Mod_evict_40 40 = true := by decide +kernel
def k_Mod_evict_44 : List sp_I := [(.iload_n 2, 1, 2, 0, 0, 0)]
theorem e_Mod_evict_44 : sp_ok R_Mod b_Mod_evict 4 k_Mod_evict_44 44 = true := by decide +kernel
def k_Mod_evict_45 : List sp_I := [(.istore_n 2, 1, 2, 0, 0, 0), (.iinc 3 1, 3, 3, 0, 1, 0), (.goto (-45), 3, 4, 0, 0, 0)]
theorem e_Mod_evict_45 : sp_ok R_Mod b_Mod_evict 4 k_Mod_evict_45 45 = true := by decide +kernel
def k_Mod_evict_52 : List sp_I := [(.aload_n 0, 1, 0, 0, 0, 0), (.iload_n 2, 1, 2, 0, 0, 0)]
theorem e_Mod_evict_52 : sp_ok R_Mod b_Mod_evict 4 k_Mod_evict_52 52 = true := by decide +kernel
def k_Mod_evict_57 : List sp_I := [(.aload_n 0, 1, 0, 0, 0, 0), (.dup, 1, 0, 0, 0, 0), (.getfield 219, 3, 8, 17, 0, 919), (.iconst 1, 1, 0, 0, 1, 0), (.iadd, 1, 0, 0, 0, 0), (.putfield 219, 3, 8, 17, 0, 919)]
theorem e_Mod_evict_57 : sp_ok R_Mod b_Mod_evict 4 k_Mod_evict_57 57 = true := by decide +kernel
theorem d_Mod_evict_14 : decode b_Mod_evict 14 = .ok (.invokevirtual 206, 3) := by decide +kernel
theorem d_Mod_evict_54 : decode b_Mod_evict 54 = .ok (.invokevirtual 215, 3) := by decide +kernel
theorem d_Mod_evict_67 : decode b_Mod_evict 67 = .ok (.return_, 1) := by decide +kernel
def k_Mod_store_0 : List sp_I := [(.lload_n 1, 1, 1, 0, 0, 0)]
theorem e_Mod_store_0 : sp_ok R_Mod b_Mod_store 9 k_Mod_store_0 0 = true := by decide +kernel
def k_Mod_store_4 : List sp_I := [(.aload_n 0, 1, 0, 0, 0, 0), (.getfield 222, 3, 8, 25, 0, 927), (.iadd, 1, 0, 0, 0, 0), (.istore 5, 2, 5, 0, 0, 0), (.iload 5, 2, 5, 0, 0, 0)]
theorem e_Mod_store_4 : sp_ok R_Mod b_Mod_store 9 k_Mod_store_4 4 = true := by decide +kernel
def k_Mod_store_16 : List sp_I := [(.istore 6, 2, 6, 0, 0, 0), (.iload 5, 2, 5, 0, 0, 0), (.bipush 64, 2, 0, 0, 64, 0), (.if_icmp .le 9, 3, 31, 0, 0, 0), (.aload_n 0, 1, 0, 0, 0, 0)]
theorem e_Mod_store_16 : sp_ok R_Mod b_Mod_store 9 k_Mod_store_16 16 = true := by decide +kernel
def k_Mod_store_29 : List sp_I := [(.iconst 0, 1, 0, 0, 0, 0)]
theorem e_Mod_store_29 : sp_ok R_Mod b_Mod_store 9 k_Mod_store_29 29 = true := by decide +kernel
def k_Mod_store_31 : List sp_I := [(.aload_n 0, 1, 0, 0, 0, 0), (.getfield 39, 3, 8, 13, 0, 915), (.iload 6, 2, 6, 0, 0, 0), (.iaload, 1, 0, 0, 0, 0), (.ifCond .ne 16, 3, 54, 0, 0, 0), (.aload_n 0, 1, 0, 0, 0, 0)]
theorem e_Mod_store_31 : sp_ok R_Mod b_Mod_store 9 k_Mod_store_31 31 = true := by decide +kernel
def k_Mod_store_45 : List sp_I := [(.ifCond .ne 9, 3, 54, 0, 0, 0), (.aload_n 0, 1, 0, 0, 0, 0)]
theorem e_Mod_store_45 : sp_ok R_Mod b_Mod_store 9 k_Mod_store_45 45 = true := by decide +kernel
def k_Mod_store_52 : List sp_I := [(.iconst 0, 1, 0, 0, 0, 0)]
theorem e_Mod_store_52 : sp_ok R_Mod b_Mod_store 9 k_Mod_store_52 52 = true := by decide +kernel
def k_Mod_store_54 : List sp_I := [(.aload_n 0, 1, 0, 0, 0, 0), (.lload_n 1, 1, 1, 0, 0, 0)]
theorem e_Mod_store_54 : sp_ok R_Mod b_Mod_store 9 k_Mod_store_54 54 = true := by decide +kernel
def k_Mod_store_59 : List sp_I := [(.istore 7, 2, 7, 0, 0, 0), (.iload 7, 2, 7, 0, 0, 0), (.ifCond .lt 9, 3, 72, 0, 0, 0), (.aload_n 0, 1, 0, 0, 0, 0), (.iload 7, 2, 7, 0, 0, 0)]
theorem e_Mod_store_59 : sp_ok R_Mod b_Mod_store 9 k_Mod_store_59 59 = true := by decide +kernel
def k_Mod_store_72 : List sp_I := [(.aload_n 0, 1, 0, 0, 0, 0), (.iload 6, 2, 6, 0, 0, 0)]
theorem e_Mod_store_72 : sp_ok R_Mod b_Mod_store 9 k_Mod_store_72 72 = true := by decide +kernel
def k_Mod_store_78 : List sp_I := [(.ifCond .ne 24, 3, 102, 0, 0, 0), (.aload_n 0, 1, 0, 0, 0, 0)]
theorem e_Mod_store_78 : sp_ok R_Mod b_Mod_store 9 k_Mod_store_78 78 = true := by decide +kernel
def k_Mod_store_85 : List sp_I := [(.ifCond .le 17, 3, 102, 0, 0, 0), (.aload_n 0, 1, 0, 0, 0, 0), (.getfield 39, 3, 8, 13, 0, 915), (.iload 6, 2, 6, 0, 0, 0), (.dup2, 1, 0, 0, 0, 0), (.iaload, 1, 0, 0, 0, 0), (.iconst 1, 1, 0, 0, 1, 0), (.iadd, 1, 0, 0, 0, 0), (.iastore, 1, 0, 0, 0, 0), (.goto 18, 3, 117, 0, 0, 0)]
theorem e_Mod_store_85 : sp_ok R_Mod b_Mod_store 9 k_Mod_store_85 85 = true := by decide +kernel
def k_Mod_store_102 : List sp_I := [(.aload_n 0, 1, 0, 0, 0, 0), (.iload 6, 2, 6, 0, 0, 0)]
theorem e_Mod_store_102 : sp_ok R_Mod b_Mod_store 9 k_Mod_store_102 102 = true := by decide +kernel
def k_Mod_store_108 : List sp_I := [(.ifCond .ne 9, 3, 117, 0, 0, 0), (.aload_n 0, 1, 0, 0, 0, 0), (.iload 6, 2, 6, 0, 0, 0)]
theorem e_Mod_store_108 : sp_ok R_Mod b_Mod_store 9 k_Mod_store_108 108 = true := by decide +kernel
def k_Mod_store_117 : List sp_I := [(.aload_n 0, 1, 0, 0, 0, 0), (.getfield 16, 3, 8, 6, 0, 908), (.aload_n 0, 1, 0, 0, 0, 0), (.getfield 196, 3, 8, 5, 0, 907), (.lload_n 1, 1, 1, 0, 0, 0), (.lastore, 1, 0, 0, 0, 0), (.aload_n 0, 1, 0, 0, 0, 0), (.getfield 20, 3, 8, 7, 0, 909), (.aload_n 0, 1, 0, 0, 0, 0), (.getfield 196, 3, 8, 5, 0, 907), (.iload_n 3, 1, 3, 0, 0, 0), (.iastore, 1, 0, 0, 0, 0), (.aload_n 0, 1, 0, 0, 0, 0), (.getfield 24, 3, 8, 8, 0, 910), (.aload_n 0, 1, 0, 0, 0, 0), (.getfield 196, 3, 8, 5, 0, 907), (.aload_n 0, 1, 0, 0, 0, 0), (.getfield 222, 3, 8, 25, 0, 927), (.iastore, 1, 0, 0, 0, 0), (.aload_n 0, 1, 0, 0, 0, 0), (.getfield 33, 3, 8, 11, 0, 913), (.aload_n 0, 1, 0, 0, 0, 0), (.getfield 196, 3, 8, 5, 0, 907), (.iload 4, 2, 4, 0, 0, 0), (.iastore, 1, 0, 0, 0, 0), (.iconst 0, 1, 0, 0, 0, 0), (.istore 8, 2, 8, 0, 0, 0)]
theorem e_Mod_store_117 : sp_ok R_Mod b_Mod_store 9 k_Mod_store_117 117 = true := by decide +kernel
def k_Mod_store_164 : List sp_I := [(.iload 8, 2, 8, 0, 0, 0), (.aload_n 0, 1, 0, 0, 0, 0), (.getfield 222, 3, 8, 25, 0, 927), (.if_icmp .ge 31, 3, 201, 0, 0, 0), (.aload_n 0, 1, 0, 0, 0, 0), (.getfield 27, 3, 8, 9, 0, 911), (.bipush 64, 2, 0, 0, 64, 0), (.aload_n 0, 1, 0, 0, 0, 0), (.getfield 196, 3, 8, 5, 0, 907), (.imul, 1, 0, 0, 0, 0), (.iload 8, 2, 8, 0, 0, 0), (.iadd, 1, 0, 0, 0, 0), (.aload_n 0, 1, 0, 0, 0, 0), (.getfield 48, 3, 8, 26, 0, 928), (.iload 8, 2, 8, 0, 0, 0), (.caload, 1, 0, 0, 0, 0), (.castore, 1, 0, 0, 0, 0), (.iinc 8 1, 3, 8, 0, 1, 0), (.goto (-34), 3, 164, 0, 0, 0)]
theorem e_Mod_store_164 : sp_ok R_Mod b_Mod_store 9 k_Mod_store_164 164 = true := by decide +kernel
def k_Mod_store_201 : List sp_I := [(.aload_n 0, 1, 0, 0, 0, 0), (.dup, 1, 0, 0, 0, 0), (.getfield 244, 3, 8, 15, 0, 917), (.iconst 1, 1, 0, 0, 1, 0), (.iadd, 1, 0, 0, 0, 0), (.putfield 244, 3, 8, 15, 0, 917), (.aload_n 0, 1, 0, 0, 0, 0), (.getfield 30, 3, 8, 10, 0, 912), (.aload_n 0, 1, 0, 0, 0, 0), (.getfield 196, 3, 8, 5, 0, 907), (.aload_n 0, 1, 0, 0, 0, 0), (.getfield 244, 3, 8, 15, 0, 917), (.iastore, 1, 0, 0, 0, 0), (.aload_n 0, 1, 0, 0, 0, 0), (.dup, 1, 0, 0, 0, 0), (.getfield 196, 3, 8, 5, 0, 907), (.iconst 1, 1, 0, 0, 1, 0), (.iadd, 1, 0, 0, 0, 0), (.putfield 196, 3, 8, 5, 0, 907), (.aload_n 0, 1, 0, 0, 0, 0), (.aload_n 0, 1, 0, 0, 0, 0), (.getfield 196, 3, 8, 5, 0, 907), (.iconst 1, 1, 0, 0, 1, 0), (.isub, 1, 0, 0, 0, 0)]
theorem e_Mod_store_201 : sp_ok R_Mod b_Mod_store 9 k_Mod_store_201 201 = true := by decide +kernel
def k_Mod_store_244 : List sp_I := [(.iconst 1, 1, 0, 0, 1, 0)]
theorem e_Mod_store_244 : sp_ok R_Mod b_Mod_store 9 k_Mod_store_244 244 = true := by decide +kernel
theorem d_Mod_store_1 : decode b_Mod_store 1 = .ok (.invokestatic 199, 3) := by decide +kernel
theorem d_Mod_store_13 : decode b_Mod_store 13 = .ok (.invokestatic 203, 3) := by decide +kernel
theorem d_Mod_store_26 : decode b_Mod_store 26 = .ok (.invokevirtual 225, 3) := by decide +kernel
theorem d_Mod_store_30 : decode b_Mod_store 30 = .ok (.ireturn, 1) := by decide +kernel
theorem d_Mod_store_42 : decode b_Mod_store 42 = .ok (.invokevirtual 228, 3) := by decide +kernel
theorem d_Mod_store_49 : decode b_Mod_store 49 = .ok (.invokevirtual 232, 3) := by decide +kernel
theorem d_Mod_store_53 : decode b_Mod_store 53 = .ok (.ireturn, 1) := by decide +kernel
theorem d_Mod_store_56 : decode b_Mod_store 56 = .ok (.invokevirtual 235, 3) := by decide +kernel
theorem d_Mod_store_69 : decode b_Mod_store 69 = .ok (.invokevirtual 215, 3) := by decide +kernel
theorem d_Mod_store_75 : decode b_Mod_store 75 = .ok (.invokevirtual 238, 3) := by decide +kernel
theorem d_Mod_store_82 : decode b_Mod_store 82 = .ok (.invokevirtual 228, 3) := by decide +kernel
theorem d_Mod_store_105 : decode b_Mod_store 105 = .ok (.invokevirtual 238, 3) := by decide +kernel
theorem d_Mod_store_114 : decode b_Mod_store 114 = .ok (.invokevirtual 241, 3) := by decide +kernel
theorem d_Mod_store_241 : decode b_Mod_store 241 = .ok (.invokevirtual 247, 3) := by decide +kernel
theorem d_Mod_store_245 : decode b_Mod_store 245 = .ok (.ireturn, 1) := by decide +kernel
def k_Mod_endIf_0 : List sp_I := [(.iload_n 2, 1, 2, 0, 0, 0), (.ifCond .eq 18, 3, 19, 0, 0, 0), (.aload_n 0, 1, 0, 0, 0, 0), (.iload_n 1, 1, 1, 0, 0, 0)]
theorem e_Mod_endIf_0 : sp_ok R_Mod b_Mod_endIf 3 k_Mod_endIf_0 0 = true := by decide +kernel
def k_Mod_endIf_9 : List sp_I := [(.aload_n 0, 1, 0, 0, 0, 0), (.dup, 1, 0, 0, 0, 0), (.getfield 250, 3, 8, 18, 0, 920), (.iconst 1, 1, 0, 0, 1, 0), (.iadd, 1, 0, 0, 0, 0), (.putfield 250, 3, 8, 18, 0, 920)]
theorem e_Mod_endIf_9 : sp_ok R_Mod b_Mod_endIf 3 k_Mod_endIf_9 9 = true := by decide +kernel
theorem d_Mod_endIf_6 : decode b_Mod_endIf 6 = .ok (.invokevirtual 215, 3) := by decide +kernel
theorem d_Mod_endIf_19 : decode b_Mod_endIf 19 = .ok (.return_, 1) := by decide +kernel
def k_Mod_ready_0 : List sp_I := [(.aload_n 0, 1, 0, 0, 0, 0), (.getfield 48, 3, 8, 26, 0, 928), (.aload_n 0, 1, 0, 0, 0, 0), (.getfield 222, 3, 8, 25, 0, 927), (.iload_n 1, 1, 1, 0, 0, 0), (.castore, 1, 0, 0, 0, 0), (.aload_n 0, 1, 0, 0, 0, 0), (.dup, 1, 0, 0, 0, 0), (.getfield 222, 3, 8, 25, 0, 927), (.iconst 1, 1, 0, 0, 1, 0), (.iadd, 1, 0, 0, 0, 0), (.putfield 222, 3, 8, 25, 0, 927)]
theorem e_Mod_ready_0 : sp_ok R_Mod b_Mod_ready 2 k_Mod_ready_0 0 = true := by decide +kernel
theorem d_Mod_ready_20 : decode b_Mod_ready 20 = .ok (.return_, 1) := by decide +kernel
def k_Mod_readyOld_0 : List sp_I := [(.iconst 0, 1, 0, 0, 0, 0), (.istore_n 2, 1, 2, 0, 0, 0)]
theorem e_Mod_readyOld_0 : sp_ok R_Mod b_Mod_readyOld 3 k_Mod_readyOld_0 0 = true := by decide +kernel
def k_Mod_readyOld_2 : List sp_I := [(.iload_n 2, 1, 2, 0, 0, 0), (.aload_n 0, 1, 0, 0, 0, 0), (.getfield 24, 3, 8, 8, 0, 910), (.iload_n 1, 1, 1, 0, 0, 0), (.iaload, 1, 0, 0, 0, 0), (.if_icmp .ge 24, 3, 33, 0, 0, 0), (.aload_n 0, 1, 0, 0, 0, 0), (.aload_n 0, 1, 0, 0, 0, 0), (.getfield 27, 3, 8, 9, 0, 911), (.bipush 64, 2, 0, 0, 64, 0), (.iload_n 1, 1, 1, 0, 0, 0), (.imul, 1, 0, 0, 0, 0), (.iload_n 2, 1, 2, 0, 0, 0), (.iadd, 1, 0, 0, 0, 0), (.caload, 1, 0, 0, 0, 0)]
theorem e_Mod_readyOld_2 : sp_ok R_Mod b_Mod_readyOld 3 k_Mod_readyOld_2 2 = true := by decide +kernel
def k_Mod_readyOld_27 : List sp_I := [(.iinc 2 1, 3, 2, 0, 1, 0), (.goto (-28), 3, 2, 0, 0, 0)]
theorem e_Mod_readyOld_27 : sp_ok R_Mod b_Mod_readyOld 3 k_Mod_readyOld_27 27 = true := by decide +kernel
theorem d_Mod_readyOld_24 : decode b_Mod_readyOld 24 = .ok (.invokevirtual 253, 3) := by decide +kernel
theorem d_Mod_readyOld_33 : decode b_Mod_readyOld 33 = .ok (.return_, 1) := by decide +kernel
def k_Mod_readyNew_0 : List sp_I := [(.aload_n 0, 1, 0, 0, 0, 0), (.getfield 133, 3, 8, 24, 0, 926), (.iconst 1, 1, 0, 0, 1, 0), (.iadd, 1, 0, 0, 0, 0), (.istore_n 1, 1, 1, 0, 0, 0)]
theorem e_Mod_readyNew_0 : sp_ok R_Mod b_Mod_readyNew 2 k_Mod_readyNew_0 0 = true := by decide +kernel
def k_Mod_readyNew_7 : List sp_I := [(.iload_n 1, 1, 1, 0, 0, 0), (.aload_n 0, 1, 0, 0, 0, 0), (.getfield 57, 3, 8, 1, 0, 903), (.if_icmp .ge 19, 3, 31, 0, 0, 0), (.aload_n 0, 1, 0, 0, 0, 0), (.aload_n 0, 1, 0, 0, 0, 0), (.getfield 7, 3, 8, 2, 0, 904), (.iload_n 1, 1, 1, 0, 0, 0), (.caload, 1, 0, 0, 0, 0)]
theorem e_Mod_readyNew_7 : sp_ok R_Mod b_Mod_readyNew 2 k_Mod_readyNew_7 7 = true := by decide +kernel
def k_Mod_readyNew_25 : List sp_I := [(.iinc 1 1, 3, 1, 0, 1, 0), (.goto (-21), 3, 7, 0, 0, 0)]
theorem e_Mod_readyNew_25 : sp_ok R_Mod b_Mod_readyNew 2 k_Mod_readyNew_25 25 = true := by decide +kernel
theorem d_Mod_readyNew_22 : decode b_Mod_readyNew 22 = .ok (.invokevirtual 253, 3) := by decide +kernel
theorem d_Mod_readyNew_31 : decode b_Mod_readyNew 31 = .ok (.return_, 1) := by decide +kernel
def k_Mod_timeOf_0 : List sp_I := [(.iload_n 1, 1, 1, 0, 0, 0), (.ifCond .gt 7, 3, 8, 0, 0, 0), (.iconst 0, 1, 0, 0, 0, 0), (.goto 9, 3, 14, 0, 0, 0)]
theorem e_Mod_timeOf_0 : sp_ok R_Mod b_Mod_timeOf 2 k_Mod_timeOf_0 0 = true := by decide +kernel
def k_Mod_timeOf_8 : List sp_I := [(.aload_n 0, 1, 0, 0, 0, 0), (.getfield 256, 3, 8, 14, 0, 916), (.iload_n 1, 1, 1, 0, 0, 0), (.iadd, 1, 0, 0, 0, 0)]
theorem e_Mod_timeOf_8 : sp_ok R_Mod b_Mod_timeOf 2 k_Mod_timeOf_8 8 = true := by decide +kernel
theorem d_Mod_timeOf_14 : decode b_Mod_timeOf 14 = .ok (.ireturn, 1) := by decide +kernel
def k_Mod_doStore_0 : List sp_I := [(.aload_n 0, 1, 0, 0, 0, 0), (.iconst 1, 1, 0, 0, 1, 0)]
theorem e_Mod_doStore_0 : sp_ok R_Mod b_Mod_doStore 9 k_Mod_doStore_0 0 = true := by decide +kernel
def k_Mod_doStore_5 : List sp_I := [(.lstore_n 2, 1, 2, 0, 0, 0), (.aload_n 0, 1, 0, 0, 0, 0), (.lload_n 2, 1, 2, 0, 0, 0)]
theorem e_Mod_doStore_5 : sp_ok R_Mod b_Mod_doStore 9 k_Mod_doStore_5 5 = true := by decide +kernel
def k_Mod_doStore_11 : List sp_I := [(.istore 4, 2, 4, 0, 0, 0), (.iload_n 1, 1, 1, 0, 0, 0), (.bipush 6, 2, 0, 0, 6, 0), (.if_icmp .ne 44, 3, 60, 0, 0, 0), (.iload 4, 2, 4, 0, 0, 0), (.ifCond .lt 19, 3, 40, 0, 0, 0), (.aload_n 0, 1, 0, 0, 0, 0), (.getfield 30, 3, 8, 10, 0, 912), (.iload 4, 2, 4, 0, 0, 0), (.iaload, 1, 0, 0, 0, 0), (.aload_n 0, 1, 0, 0, 0, 0), (.iconst 5, 1, 0, 0, 5, 0), (.iconst 0, 1, 0, 0, 0, 0)]
theorem e_Mod_doStore_11 : sp_ok R_Mod b_Mod_doStore 9 k_Mod_doStore_11 11 = true := by decide +kernel
def k_Mod_doStore_37 : List sp_I := [(.if_icmp .eq 23, 3, 60, 0, 0, 0)]
theorem e_Mod_doStore_37 : sp_ok R_Mod b_Mod_doStore 9 k_Mod_doStore_37 37 = true := by decide +kernel
def k_Mod_doStore_40 : List sp_I := [(.iload 4, 2, 4, 0, 0, 0), (.ifCond .ge 10, 3, 52, 0, 0, 0), (.aload_n 0, 1, 0, 0, 0, 0)]
theorem e_Mod_doStore_40 : sp_ok R_Mod b_Mod_doStore 9 k_Mod_doStore_40 40 = true := by decide +kernel
def k_Mod_doStore_49 : List sp_I := [(.goto 10, 3, 59, 0, 0, 0)]
theorem e_Mod_doStore_49 : sp_ok R_Mod b_Mod_doStore 9 k_Mod_doStore_49 49 = true := by decide +kernel
def k_Mod_doStore_52 : List sp_I := [(.aload_n 0, 1, 0, 0, 0, 0), (.ldc2_w 262, 3, 1109, 1, 0, 76245489636435)]
theorem e_Mod_doStore_52 : sp_ok R_Mod b_Mod_doStore 9 k_Mod_doStore_52 52 = true := by decide +kernel
def k_Mod_doStore_60 : List sp_I := [(.iload_n 1, 1, 1, 0, 0, 0), (.iconst 2, 1, 0, 0, 2, 0), (.if_icmp .ne 8, 3, 70, 0, 0, 0), (.iload 4, 2, 4, 0, 0, 0), (.ifCond .ge 19, 3, 86, 0, 0, 0)]
theorem e_Mod_doStore_60 : sp_ok R_Mod b_Mod_doStore 9 k_Mod_doStore_60 60 = true := by decide +kernel
def k_Mod_doStore_70 : List sp_I := [(.iload_n 1, 1, 1, 0, 0, 0), (.iconst 2, 1, 0, 0, 2, 0), (.if_icmp .le 20, 3, 92, 0, 0, 0), (.iload_n 1, 1, 1, 0, 0, 0), (.bipush 6, 2, 0, 0, 6, 0), (.if_icmp .ge 14, 3, 92, 0, 0, 0), (.iload 4, 2, 4, 0, 0, 0), (.ifCond .ge 9, 3, 92, 0, 0, 0)]
theorem e_Mod_doStore_70 : sp_ok R_Mod b_Mod_doStore 9 k_Mod_doStore_70 70 = true := by decide +kernel
def k_Mod_doStore_86 : List sp_I := [(.aload_n 0, 1, 0, 0, 0, 0), (.iconst 0, 1, 0, 0, 0, 0)]
theorem e_Mod_doStore_86 : sp_ok R_Mod b_Mod_doStore 9 k_Mod_doStore_86 86 = true := by decide +kernel
def k_Mod_doStore_92 : List sp_I := [(.iload_n 1, 1, 1, 0, 0, 0), (.iconst 4, 1, 0, 0, 4, 0), (.if_icmp .eq 8, 3, 102, 0, 0, 0), (.iload_n 1, 1, 1, 0, 0, 0), (.iconst 5, 1, 0, 0, 5, 0), (.if_icmp .ne 7, 3, 106, 0, 0, 0)]
theorem e_Mod_doStore_92 : sp_ok R_Mod b_Mod_doStore 9 k_Mod_doStore_92 92 = true := by decide +kernel
def k_Mod_doStore_102 : List sp_I := [(.iconst 1, 1, 0, 0, 1, 0), (.goto 4, 3, 107, 0, 0, 0)]
theorem e_Mod_doStore_102 : sp_ok R_Mod b_Mod_doStore 9 k_Mod_doStore_102 102 = true := by decide +kernel
def k_Mod_doStore_106 : List sp_I := [(.iconst 0, 1, 0, 0, 0, 0)]
theorem e_Mod_doStore_106 : sp_ok R_Mod b_Mod_doStore 9 k_Mod_doStore_106 106 = true := by decide +kernel
def k_Mod_doStore_107 : List sp_I := [(.istore 5, 2, 5, 0, 0, 0), (.aload_n 0, 1, 0, 0, 0, 0), (.iconst 0, 1, 0, 0, 0, 0), (.putfield 222, 3, 8, 25, 0, 927), (.iload_n 1, 1, 1, 0, 0, 0), (.iconst 4, 1, 0, 0, 4, 0), (.if_icmp .ne 9, 3, 125, 0, 0, 0), (.aload_n 0, 1, 0, 0, 0, 0), (.iload 4, 2, 4, 0, 0, 0)]
theorem e_Mod_doStore_107 : sp_ok R_Mod b_Mod_doStore 9 k_Mod_doStore_107 107 = true := by decide +kernel
def k_Mod_doStore_125 : List sp_I := [(.aload_n 0, 1, 0, 0, 0, 0)]
theorem e_Mod_doStore_125 : sp_ok R_Mod b_Mod_doStore 9 k_Mod_doStore_125 125 = true := by decide +kernel
def k_Mod_doStore_129 : List sp_I := [(.iload_n 1, 1, 1, 0, 0, 0), (.iconst 5, 1, 0, 0, 5, 0), (.if_icmp .ne 9, 3, 140, 0, 0, 0), (.aload_n 0, 1, 0, 0, 0, 0), (.iload 4, 2, 4, 0, 0, 0)]
theorem e_Mod_doStore_129 : sp_ok R_Mod b_Mod_doStore 9 k_Mod_doStore_129 129 = true := by decide +kernel
def k_Mod_doStore_140 : List sp_I := [(.aload_n 0, 1, 0, 0, 0, 0), (.iconst 3, 1, 0, 0, 3, 0)]
theorem e_Mod_doStore_140 : sp_ok R_Mod b_Mod_doStore 9 k_Mod_doStore_140 140 = true := by decide +kernel
def k_Mod_doStore_145 : List sp_I := [(.istore 6, 2, 6, 0, 0, 0), (.iload 5, 2, 5, 0, 0, 0), (.ifCond .eq 13, 3, 162, 0, 0, 0), (.aload_n 0, 1, 0, 0, 0, 0), (.getfield 20, 3, 8, 7, 0, 909), (.iload 4, 2, 4, 0, 0, 0), (.iaload, 1, 0, 0, 0, 0), (.goto 9, 3, 168, 0, 0, 0)]
theorem e_Mod_doStore_145 : sp_ok R_Mod b_Mod_doStore 9 k_Mod_doStore_145 145 = true := by decide +kernel
def k_Mod_doStore_162 : List sp_I := [(.aload_n 0, 1, 0, 0, 0, 0), (.iconst 2, 1, 0, 0, 2, 0), (.iconst 0, 1, 0, 0, 0, 0)]
theorem e_Mod_doStore_162 : sp_ok R_Mod b_Mod_doStore 9 k_Mod_doStore_162 162 = true := by decide +kernel
def k_Mod_doStore_168 : List sp_I := [(.istore 7, 2, 7, 0, 0, 0), (.iload 5, 2, 5, 0, 0, 0), (.ifCond .eq 13, 3, 185, 0, 0, 0), (.aload_n 0, 1, 0, 0, 0, 0), (.getfield 33, 3, 8, 11, 0, 913), (.iload 4, 2, 4, 0, 0, 0), (.iaload, 1, 0, 0, 0, 0), (.goto 9, 3, 191, 0, 0, 0)]
theorem e_Mod_doStore_168 : sp_ok R_Mod b_Mod_doStore 9 k_Mod_doStore_168 168 = true := by decide +kernel
def k_Mod_doStore_185 : List sp_I := [(.aload_n 0, 1, 0, 0, 0, 0), (.iload 6, 2, 6, 0, 0, 0)]
theorem e_Mod_doStore_185 : sp_ok R_Mod b_Mod_doStore 9 k_Mod_doStore_185 185 = true := by decide +kernel
def k_Mod_doStore_191 : List sp_I := [(.istore 8, 2, 8, 0, 0, 0), (.aload_n 0, 1, 0, 0, 0, 0), (.lload_n 2, 1, 2, 0, 0, 0), (.iload 7, 2, 7, 0, 0, 0), (.iload 8, 2, 8, 0, 0, 0)]
theorem e_Mod_doStore_191 : sp_ok R_Mod b_Mod_doStore 9 k_Mod_doStore_191 191 = true := by decide +kernel
def k_Mod_doStore_202 : List sp_I := [(.ifCond .eq 35, 3, 237, 0, 0, 0), (.aload_n 0, 1, 0, 0, 0, 0), (.aload_n 0, 1, 0, 0, 0, 0), (.getfield 196, 3, 8, 5, 0, 907), (.iconst 1, 1, 0, 0, 1, 0), (.isub, 1, 0, 0, 0, 0), (.iload 5, 2, 5, 0, 0, 0), (.ifCond .ne 14, 3, 228, 0, 0, 0), (.iload 6, 2, 6, 0, 0, 0), (.bipush (-2), 2, 0, 0, (-2), 0), (.if_icmp .ne 7, 3, 228, 0, 0, 0), (.iconst 1, 1, 0, 0, 1, 0), (.goto 4, 3, 229, 0, 0, 0)]
theorem e_Mod_doStore_202 : sp_ok R_Mod b_Mod_doStore 9 k_Mod_doStore_202 202 = true := by decide +kernel
def k_Mod_doStore_228 : List sp_I := [(.iconst 0, 1, 0, 0, 0, 0)]
theorem e_Mod_doStore_228 : sp_ok R_Mod b_Mod_doStore 9 k_Mod_doStore_228 228 = true := by decide +kernel
def k_Mod_doStore_232 : List sp_I := [(.aload_n 0, 1, 0, 0, 0, 0), (.iconst 1, 1, 0, 0, 1, 0)]
theorem e_Mod_doStore_232 : sp_ok R_Mod b_Mod_doStore 9 k_Mod_doStore_232 232 = true := by decide +kernel
theorem d_Mod_doStore_2 : decode b_Mod_doStore 2 = .ok (.invokevirtual 142, 3) := by decide +kernel
theorem d_Mod_doStore_8 : decode b_Mod_doStore 8 = .ok (.invokevirtual 235, 3) := by decide +kernel
theorem d_Mod_doStore_34 : decode b_Mod_doStore 34 = .ok (.invokevirtual 152, 3) := by decide +kernel
theorem d_Mod_doStore_46 : decode b_Mod_doStore 46 = .ok (.invokevirtual 259, 3) := by decide +kernel
theorem d_Mod_doStore_56 : decode b_Mod_doStore 56 = .ok (.invokevirtual 70, 3) := by decide +kernel
theorem d_Mod_doStore_59 : decode b_Mod_doStore 59 = .ok (.return_, 1) := by decide +kernel
theorem d_Mod_doStore_88 : decode b_Mod_doStore 88 = .ok (.invokevirtual 264, 3) := by decide +kernel
theorem d_Mod_doStore_91 : decode b_Mod_doStore 91 = .ok (.return_, 1) := by decide +kernel
theorem d_Mod_doStore_122 : decode b_Mod_doStore 122 = .ok (.invokevirtual 268, 3) := by decide +kernel
theorem d_Mod_doStore_126 : decode b_Mod_doStore 126 = .ok (.invokevirtual 271, 3) := by decide +kernel
theorem d_Mod_doStore_137 : decode b_Mod_doStore 137 = .ok (.invokevirtual 268, 3) := by decide +kernel
theorem d_Mod_doStore_142 : decode b_Mod_doStore 142 = .ok (.invokevirtual 193, 3) := by decide +kernel
theorem d_Mod_doStore_165 : decode b_Mod_doStore 165 = .ok (.invokevirtual 152, 3) := by decide +kernel
theorem d_Mod_doStore_188 : decode b_Mod_doStore 188 = .ok (.invokevirtual 274, 3) := by decide +kernel
theorem d_Mod_doStore_199 : decode b_Mod_doStore 199 = .ok (.invokevirtual 277, 3) := by decide +kernel
theorem d_Mod_doStore_229 : decode b_Mod_doStore 229 = .ok (.invokevirtual 281, 3) := by decide +kernel
theorem d_Mod_doStore_234 : decode b_Mod_doStore 234 = .ok (.invokevirtual 264, 3) := by decide +kernel
theorem d_Mod_doStore_237 : decode b_Mod_doStore 237 = .ok (.return_, 1) := by decide +kernel
def k_Mod_sayItem_0 : List sp_I := [(.aload_n 0, 1, 0, 0, 0, 0), (.ldc2_w 285, 3, 1202, 1, 0, 94838453519648)]
theorem e_Mod_sayItem_0 : sp_ok R_Mod b_Mod_sayItem 4 k_Mod_sayItem_0 0 = true := by decide +kernel
def k_Mod_sayItem_7 : List sp_I := [(.aload_n 0, 1, 0, 0, 0, 0), (.aload_n 0, 1, 0, 0, 0, 0), (.getfield 16, 3, 8, 6, 0, 908), (.iload_n 1, 1, 1, 0, 0, 0), (.laload, 1, 0, 0, 0, 0)]
theorem e_Mod_sayItem_7 : sp_ok R_Mod b_Mod_sayItem 4 k_Mod_sayItem_7 7 = true := by decide +kernel
def k_Mod_sayItem_17 : List sp_I := [(.aload_n 0, 1, 0, 0, 0, 0), (.bipush 32, 2, 0, 0, 32, 0)]
theorem e_Mod_sayItem_17 : sp_ok R_Mod b_Mod_sayItem 4 k_Mod_sayItem_17 17 = true := by decide +kernel
def k_Mod_sayItem_23 : List sp_I := [(.aload_n 0, 1, 0, 0, 0, 0), (.aload_n 0, 1, 0, 0, 0, 0), (.getfield 20, 3, 8, 7, 0, 909), (.iload_n 1, 1, 1, 0, 0, 0), (.iaload, 1, 0, 0, 0, 0)]
theorem e_Mod_sayItem_23 : sp_ok R_Mod b_Mod_sayItem 4 k_Mod_sayItem_23 23 = true := by decide +kernel
def k_Mod_sayItem_33 : List sp_I := [(.aload_n 0, 1, 0, 0, 0, 0), (.bipush 32, 2, 0, 0, 32, 0)]
theorem e_Mod_sayItem_33 : sp_ok R_Mod b_Mod_sayItem 4 k_Mod_sayItem_33 33 = true := by decide +kernel
