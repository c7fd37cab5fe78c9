/-! The law: its blocks. -/
abbrev b_Law_law : ByteArray := code
def k_Law_reply_0 : List sp_I := [(.aload_n 2, 1, 2, 0, 0, 0), (.iconst 0, 1, 0, 0, 0, 0), (.aload_n 0, 1, 0, 0, 0, 0), (.iload_n 1, 1, 1, 0, 0, 0)]
theorem e_Law_reply_0 : sp_ok R_Law b_Law_reply 4 k_Law_reply_0 0 = true := by decide +kernel
def k_Law_reply_7 : List sp_I := [(.i2l, 1, 0, 0, 0, 0), (.lastore, 1, 0, 0, 0, 0), (.goto 6, 3, 15, 0, 0, 0)]
theorem e_Law_reply_7 : sp_ok R_Law b_Law_reply 4 k_Law_reply_7 7 = true := by decide +kernel
def k_Law_reply_15 : List sp_I := [(.iconst 0, 1, 0, 0, 0, 0)]
theorem e_Law_reply_15 : sp_ok R_Law b_Law_reply 4 k_Law_reply_15 15 = true := by decide +kernel
theorem d_Law_reply_4 : decode b_Law_reply 4 = .ok (.invokevirtual 7, 3) := by decide +kernel
theorem d_Law_reply_14 : decode b_Law_reply 14 = .ok (.ireturn, 1) := by decide +kernel
theorem d_Law_reply_16 : decode b_Law_reply 16 = .ok (.ireturn, 1) := by decide +kernel
def k_Law_tick_0 : List sp_I := [(.aload_n 0, 1, 0, 0, 0, 0), (.iload_n 1, 1, 1, 0, 0, 0)]
theorem e_Law_tick_0 : sp_ok R_Law b_Law_tick 3 k_Law_tick_0 0 = true := by decide +kernel
def k_Law_tick_5 : List sp_I := [(.goto 6, 3, 11, 0, 0, 0)]
theorem e_Law_tick_5 : sp_ok R_Law b_Law_tick 3 k_Law_tick_5 5 = true := by decide +kernel
def k_Law_tick_11 : List sp_I := [(.iconst 0, 1, 0, 0, 0, 0)]
theorem e_Law_tick_11 : sp_ok R_Law b_Law_tick 3 k_Law_tick_11 11 = true := by decide +kernel
theorem d_Law_tick_2 : decode b_Law_tick 2 = .ok (.invokevirtual 15, 3) := by decide +kernel
theorem d_Law_tick_10 : decode b_Law_tick 10 = .ok (.ireturn, 1) := by decide +kernel
theorem d_Law_tick_12 : decode b_Law_tick 12 = .ok (.ireturn, 1) := by decide +kernel
def k_Law_slab_0 : List sp_I := [(.aload_n 3, 1, 3, 0, 0, 0), (.iconst 0, 1, 0, 0, 0, 0), (.aload_n 0, 1, 0, 0, 0, 0), (.iload_n 1, 1, 1, 0, 0, 0), (.iload_n 2, 1, 2, 0, 0, 0)]
theorem e_Law_slab_0 : sp_ok R_Law b_Law_slab 5 k_Law_slab_0 0 = true := by decide +kernel
def k_Law_slab_8 : List sp_I := [(.i2l, 1, 0, 0, 0, 0), (.lastore, 1, 0, 0, 0, 0), (.goto 7, 3, 17, 0, 0, 0)]
theorem e_Law_slab_8 : sp_ok R_Law b_Law_slab 5 k_Law_slab_8 8 = true := by decide +kernel
def k_Law_slab_17 : List sp_I := [(.iconst 0, 1, 0, 0, 0, 0)]
theorem e_Law_slab_17 : sp_ok R_Law b_Law_slab 5 k_Law_slab_17 17 = true := by decide +kernel
theorem d_Law_slab_5 : decode b_Law_slab 5 = .ok (.invokevirtual 21, 3) := by decide +kernel
theorem d_Law_slab_16 : decode b_Law_slab 16 = .ok (.ireturn, 1) := by decide +kernel
theorem d_Law_slab_18 : decode b_Law_slab 18 = .ok (.ireturn, 1) := by decide +kernel
def k_Law_order_0 : List sp_I := [(.aload_n 3, 1, 3, 0, 0, 0), (.iconst 0, 1, 0, 0, 0, 0), (.aload_n 0, 1, 0, 0, 0, 0), (.iload_n 1, 1, 1, 0, 0, 0), (.iload_n 2, 1, 2, 0, 0, 0)]
theorem e_Law_order_0 : sp_ok R_Law b_Law_order 5 k_Law_order_0 0 = true := by decide +kernel
def k_Law_order_8 : List sp_I := [(.i2l, 1, 0, 0, 0, 0), (.lastore, 1, 0, 0, 0, 0), (.goto 11, 3, 21, 0, 0, 0)]
theorem e_Law_order_8 : sp_ok R_Law b_Law_order 5 k_Law_order_8 8 = true := by decide +kernel
def k_Law_order_17 : List sp_I := [(.astore 4, 2, 4, 0, 0, 0), (.iconst 2, 1, 0, 0, 2, 0)]
theorem e_Law_order_17 : sp_ok R_Law b_Law_order 5 k_Law_order_17 17 = true := by decide +kernel
def k_Law_order_21 : List sp_I := [(.iconst 0, 1, 0, 0, 0, 0)]
theorem e_Law_order_21 : sp_ok R_Law b_Law_order 5 k_Law_order_21 21 = true := by decide +kernel
theorem d_Law_order_5 : decode b_Law_order 5 = .ok (.invokevirtual 25, 3) := by decide +kernel
theorem d_Law_order_16 : decode b_Law_order 16 = .ok (.ireturn, 1) := by decide +kernel
theorem d_Law_order_20 : decode b_Law_order 20 = .ok (.ireturn, 1) := by decide +kernel
theorem d_Law_order_22 : decode b_Law_order 22 = .ok (.ireturn, 1) := by decide +kernel
def k_Law_figure_0 : List sp_I := [(.aload_n 2, 1, 2, 0, 0, 0), (.iconst 0, 1, 0, 0, 0, 0), (.aload_n 0, 1, 0, 0, 0, 0), (.iload_n 1, 1, 1, 0, 0, 0)]
theorem e_Law_figure_0 : sp_ok R_Law b_Law_figure 4 k_Law_figure_0 0 = true := by decide +kernel
def k_Law_figure_7 : List sp_I := [(.i2l, 1, 0, 0, 0, 0), (.lastore, 1, 0, 0, 0, 0), (.goto 6, 3, 15, 0, 0, 0)]
theorem e_Law_figure_7 : sp_ok R_Law b_Law_figure 4 k_Law_figure_7 7 = true := by decide +kernel
def k_Law_figure_15 : List sp_I := [(.iconst 0, 1, 0, 0, 0, 0)]
theorem e_Law_figure_15 : sp_ok R_Law b_Law_figure 4 k_Law_figure_15 15 = true := by decide +kernel
theorem d_Law_figure_4 : decode b_Law_figure 4 = .ok (.invokevirtual 28, 3) := by decide +kernel
theorem d_Law_figure_14 : decode b_Law_figure 14 = .ok (.ireturn, 1) := by decide +kernel
theorem d_Law_figure_16 : decode b_Law_figure 16 = .ok (.ireturn, 1) := by decide +kernel
def k_Law_law_3 : List sp_I := [(.dup, 1, 0, 0, 0, 0)]
theorem e_Law_law_3 : sp_ok R_Law b_Law_law 7 k_Law_law_3 3 = true := by decide +kernel
def k_Law_law_7 : List sp_I := [(.astore_n 1, 1, 1, 0, 0, 0)]
theorem e_Law_law_7 : sp_ok R_Law b_Law_law 7 k_Law_law_7 7 = true := by decide +kernel
def k_Law_law_11 : List sp_I := [(.dup, 1, 0, 0, 0, 0)]
theorem e_Law_law_11 : sp_ok R_Law b_Law_law 7 k_Law_law_11 11 = true := by decide +kernel
def k_Law_law_15 : List sp_I := [(.astore_n 2, 1, 2, 0, 0, 0), (.iconst 1, 1, 0, 0, 1, 0)]
theorem e_Law_law_15 : sp_ok R_Law b_Law_law 7 k_Law_law_15 15 = true := by decide +kernel
def k_Law_law_19 : List sp_I := [(.astore_n 3, 1, 3, 0, 0, 0), (.iconst 0, 1, 0, 0, 0, 0), (.istore 4, 2, 4, 0, 0, 0)]
theorem e_Law_law_19 : sp_ok R_Law b_Law_law 7 k_Law_law_19 19 = true := by decide +kernel
def k_Law_law_23 : List sp_I := [(.iload 4, 2, 4, 0, 0, 0), (.aload_n 0, 1, 0, 0, 0, 0)]
theorem e_Law_law_23 : sp_ok R_Law b_Law_law 7 k_Law_law_23 23 = true := by decide +kernel
def k_Law_law_27 : List sp_I := [(.iconst 3, 1, 0, 0, 3, 0), (.isub, 1, 0, 0, 0, 0), (.if_icmp .gt 428, 3, 457, 0, 0, 0), (.aload_n 0, 1, 0, 0, 0, 0), (.iload 4, 2, 4, 0, 0, 0)]
theorem e_Law_law_27 : sp_ok R_Law b_Law_law 7 k_Law_law_27 27 = true := by decide +kernel
def k_Law_law_36 : List sp_I := [(.bipush 7, 2, 0, 0, 7, 0), (.iand, 1, 0, 0, 0, 0)]
theorem e_Law_law_36 : sp_ok R_Law b_Law_law 7 k_Law_law_36 36 = true := by decide +kernel
def k_Law_law_84 : List sp_I := [(.aload_n 1, 1, 1, 0, 0, 0), (.aload_n 0, 1, 0, 0, 0, 0), (.iload 4, 2, 4, 0, 0, 0), (.iconst 1, 1, 0, 0, 1, 0), (.iadd, 1, 0, 0, 0, 0)]
theorem e_Law_law_84 : sp_ok R_Law b_Law_law 7 k_Law_law_84 84 = true := by decide +kernel
def k_Law_law_91 : List sp_I := [(.i2l, 1, 0, 0, 0, 0), (.bipush 32, 2, 0, 0, 32, 0), (.lshl, 1, 0, 0, 0, 0), (.aload_n 0, 1, 0, 0, 0, 0), (.iload 4, 2, 4, 0, 0, 0), (.iconst 2, 1, 0, 0, 2, 0), (.iadd, 1, 0, 0, 0, 0)]
theorem e_Law_law_91 : sp_ok R_Law b_Law_law 7 k_Law_law_91 91 = true := by decide +kernel
def k_Law_law_101 : List sp_I := [(.i2l, 1, 0, 0, 0, 0), (.ldc2_w 36, 3, 1256, 1, 0, 4294967295), (.land, 1, 0, 0, 0, 0), (.lor, 1, 0, 0, 0, 0)]
theorem e_Law_law_101 : sp_ok R_Law b_Law_law 7 k_Law_law_101 101 = true := by decide +kernel
def k_Law_law_110 : List sp_I := [(.aload_n 2, 1, 2, 0, 0, 0), (.aload_n 0, 1, 0, 0, 0, 0), (.iload 4, 2, 4, 0, 0, 0), (.iconst 1, 1, 0, 0, 1, 0), (.iadd, 1, 0, 0, 0, 0)]
theorem e_Law_law_110 : sp_ok R_Law b_Law_law 7 k_Law_law_110 110 = true := by decide +kernel
def k_Law_law_117 : List sp_I := [(.i2l, 1, 0, 0, 0, 0), (.bipush 32, 2, 0, 0, 32, 0), (.lshl, 1, 0, 0, 0, 0), (.aload_n 0, 1, 0, 0, 0, 0), (.iload 4, 2, 4, 0, 0, 0), (.iconst 2, 1, 0, 0, 2, 0), (.iadd, 1, 0, 0, 0, 0)]
theorem e_Law_law_117 : sp_ok R_Law b_Law_law 7 k_Law_law_117 117 = true := by decide +kernel
def k_Law_law_127 : List sp_I := [(.i2l, 1, 0, 0, 0, 0), (.ldc2_w 36, 3, 1256, 1, 0, 4294967295), (.land, 1, 0, 0, 0, 0), (.lor, 1, 0, 0, 0, 0)]
theorem e_Law_law_127 : sp_ok R_Law b_Law_law 7 k_Law_law_127 127 = true := by decide +kernel
def k_Law_law_136 : List sp_I := [(.if_icmp .eq 315, 3, 451, 0, 0, 0), (.iconst 0, 1, 0, 0, 0, 0)]
theorem e_Law_law_136 : sp_ok R_Law b_Law_law 7 k_Law_law_136 136 = true := by decide +kernel
def k_Law_law_141 : List sp_I := [(.aload_n 1, 1, 1, 0, 0, 0)]
theorem e_Law_law_141 : sp_ok R_Law b_Law_law 7 k_Law_law_141 141 = true := by decide +kernel
def k_Law_law_145 : List sp_I := [(.aload_n 2, 1, 2, 0, 0, 0)]
theorem e_Law_law_145 : sp_ok R_Law b_Law_law 7 k_Law_law_145 145 = true := by decide +kernel
def k_Law_law_149 : List sp_I := [(.if_icmp .eq 302, 3, 451, 0, 0, 0), (.iconst 0, 1, 0, 0, 0, 0)]
theorem e_Law_law_149 : sp_ok R_Law b_Law_law 7 k_Law_law_149 149 = true := by decide +kernel
def k_Law_law_154 : List sp_I := [(.aload_n 1, 1, 1, 0, 0, 0)]
theorem e_Law_law_154 : sp_ok R_Law b_Law_law 7 k_Law_law_154 154 = true := by decide +kernel
def k_Law_law_158 : List sp_I := [(.aload_n 2, 1, 2, 0, 0, 0)]
theorem e_Law_law_158 : sp_ok R_Law b_Law_law 7 k_Law_law_158 158 = true := by decide +kernel
def k_Law_law_162 : List sp_I := [(.if_icmp .eq 289, 3, 451, 0, 0, 0), (.iconst 0, 1, 0, 0, 0, 0)]
theorem e_Law_law_162 : sp_ok R_Law b_Law_law 7 k_Law_law_162 162 = true := by decide +kernel
def k_Law_law_167 : List sp_I := [(.aload_n 1, 1, 1, 0, 0, 0), (.aload_n 0, 1, 0, 0, 0, 0), (.iload 4, 2, 4, 0, 0, 0), (.iconst 1, 1, 0, 0, 1, 0), (.iadd, 1, 0, 0, 0, 0)]
theorem e_Law_law_167 : sp_ok R_Law b_Law_law 7 k_Law_law_167 167 = true := by decide +kernel
def k_Law_law_174 : List sp_I := [(.aload_n 3, 1, 3, 0, 0, 0)]
theorem e_Law_law_174 : sp_ok R_Law b_Law_law 7 k_Law_law_174 174 = true := by decide +kernel
def k_Law_law_178 : List sp_I := [(.istore 5, 2, 5, 0, 0, 0), (.aload_n 2, 1, 2, 0, 0, 0), (.aload_n 0, 1, 0, 0, 0, 0), (.iload 4, 2, 4, 0, 0, 0), (.iconst 1, 1, 0, 0, 1, 0), (.iadd, 1, 0, 0, 0, 0)]
theorem e_Law_law_178 : sp_ok R_Law b_Law_law 7 k_Law_law_178 178 = true := by decide +kernel
def k_Law_law_190 : List sp_I := [(.istore 6, 2, 6, 0, 0, 0), (.aload_n 2, 1, 2, 0, 0, 0)]
theorem e_Law_law_190 : sp_ok R_Law b_Law_law 7 k_Law_law_190 190 = true := by decide +kernel
def k_Law_law_196 : List sp_I := [(.iload 5, 2, 5, 0, 0, 0), (.if_icmp .eq 5, 3, 203, 0, 0, 0), (.iconst 0, 1, 0, 0, 0, 0)]
theorem e_Law_law_196 : sp_ok R_Law b_Law_law 7 k_Law_law_196 196 = true := by decide +kernel
def k_Law_law_203 : List sp_I := [(.iload 5, 2, 5, 0, 0, 0), (.ifCond .ne 15, 3, 220, 0, 0, 0), (.aload_n 3, 1, 3, 0, 0, 0), (.iconst 0, 1, 0, 0, 0, 0), (.laload, 1, 0, 0, 0, 0), (.iload 6, 2, 6, 0, 0, 0), (.i2l, 1, 0, 0, 0, 0), (.lcmp, 1, 0, 0, 0, 0), (.ifCond .eq 5, 3, 220, 0, 0, 0), (.iconst 0, 1, 0, 0, 0, 0)]
theorem e_Law_law_203 : sp_ok R_Law b_Law_law 7 k_Law_law_203 203 = true := by decide +kernel
def k_Law_law_220 : List sp_I := [(.goto 231, 3, 451, 0, 0, 0)]
theorem e_Law_law_220 : sp_ok R_Law b_Law_law 7 k_Law_law_220 220 = true := by decide +kernel
def k_Law_law_223 : List sp_I := [(.aload_n 1, 1, 1, 0, 0, 0), (.aload_n 0, 1, 0, 0, 0, 0), (.iload 4, 2, 4, 0, 0, 0), (.iconst 1, 1, 0, 0, 1, 0), (.iadd, 1, 0, 0, 0, 0)]
theorem e_Law_law_223 : sp_ok R_Law b_Law_law 7 k_Law_law_223 223 = true := by decide +kernel
def k_Law_law_233 : List sp_I := [(.istore 5, 2, 5, 0, 0, 0), (.aload_n 2, 1, 2, 0, 0, 0), (.aload_n 0, 1, 0, 0, 0, 0), (.iload 4, 2, 4, 0, 0, 0), (.iconst 1, 1, 0, 0, 1, 0), (.iadd, 1, 0, 0, 0, 0)]
theorem e_Law_law_233 : sp_ok R_Law b_Law_law 7 k_Law_law_233 233 = true := by decide +kernel
def k_Law_law_245 : List sp_I := [(.aload_n 2, 1, 2, 0, 0, 0)]
theorem e_Law_law_245 : sp_ok R_Law b_Law_law 7 k_Law_law_245 245 = true := by decide +kernel
def k_Law_law_249 : List sp_I := [(.iload 5, 2, 5, 0, 0, 0), (.if_icmp .eq 5, 3, 256, 0, 0, 0), (.iconst 0, 1, 0, 0, 0, 0)]
theorem e_Law_law_249 : sp_ok R_Law b_Law_law 7 k_Law_law_249 249 = true := by decide +kernel
def k_Law_law_256 : List sp_I := [(.goto 195, 3, 451, 0, 0, 0)]
theorem e_Law_law_256 : sp_ok R_Law b_Law_law 7 k_Law_law_256 256 = true := by decide +kernel
def k_Law_law_259 : List sp_I := [(.aload_n 1, 1, 1, 0, 0, 0), (.aload_n 0, 1, 0, 0, 0, 0), (.iload 4, 2, 4, 0, 0, 0), (.iconst 1, 1, 0, 0, 1, 0), (.iadd, 1, 0, 0, 0, 0)]
theorem e_Law_law_259 : sp_ok R_Law b_Law_law 7 k_Law_law_259 259 = true := by decide +kernel
def k_Law_law_266 : List sp_I := [(.aload_n 0, 1, 0, 0, 0, 0), (.iload 4, 2, 4, 0, 0, 0), (.iconst 2, 1, 0, 0, 2, 0), (.iadd, 1, 0, 0, 0, 0)]
theorem e_Law_law_266 : sp_ok R_Law b_Law_law 7 k_Law_law_266 266 = true := by decide +kernel
def k_Law_law_272 : List sp_I := [(.aload_n 3, 1, 3, 0, 0, 0)]
theorem e_Law_law_272 : sp_ok R_Law b_Law_law 7 k_Law_law_272 272 = true := by decide +kernel
def k_Law_law_276 : List sp_I := [(.istore 5, 2, 5, 0, 0, 0), (.aload_n 2, 1, 2, 0, 0, 0), (.aload_n 0, 1, 0, 0, 0, 0), (.iload 4, 2, 4, 0, 0, 0), (.iconst 1, 1, 0, 0, 1, 0), (.iadd, 1, 0, 0, 0, 0)]
theorem e_Law_law_276 : sp_ok R_Law b_Law_law 7 k_Law_law_276 276 = true := by decide +kernel
def k_Law_law_285 : List sp_I := [(.aload_n 0, 1, 0, 0, 0, 0), (.iload 4, 2, 4, 0, 0, 0), (.iconst 2, 1, 0, 0, 2, 0), (.iadd, 1, 0, 0, 0, 0)]
theorem e_Law_law_285 : sp_ok R_Law b_Law_law 7 k_Law_law_285 285 = true := by decide +kernel
def k_Law_law_294 : List sp_I := [(.istore 6, 2, 6, 0, 0, 0), (.aload_n 2, 1, 2, 0, 0, 0)]
theorem e_Law_law_294 : sp_ok R_Law b_Law_law 7 k_Law_law_294 294 = true := by decide +kernel
def k_Law_law_300 : List sp_I := [(.iload 5, 2, 5, 0, 0, 0), (.if_icmp .eq 5, 3, 307, 0, 0, 0), (.iconst 0, 1, 0, 0, 0, 0)]
theorem e_Law_law_300 : sp_ok R_Law b_Law_law 7 k_Law_law_300 300 = true := by decide +kernel
def k_Law_law_307 : List sp_I := [(.iload 5, 2, 5, 0, 0, 0), (.ifCond .ne 15, 3, 324, 0, 0, 0), (.aload_n 3, 1, 3, 0, 0, 0), (.iconst 0, 1, 0, 0, 0, 0), (.laload, 1, 0, 0, 0, 0), (.iload 6, 2, 6, 0, 0, 0), (.i2l, 1, 0, 0, 0, 0), (.lcmp, 1, 0, 0, 0, 0), (.ifCond .eq 5, 3, 324, 0, 0, 0), (.iconst 0, 1, 0, 0, 0, 0)]
theorem e_Law_law_307 : sp_ok R_Law b_Law_law 7 k_Law_law_307 307 = true := by decide +kernel
def k_Law_law_324 : List sp_I := [(.goto 127, 3, 451, 0, 0, 0)]
theorem e_Law_law_324 : sp_ok R_Law b_Law_law 7 k_Law_law_324 324 = true := by decide +kernel
def k_Law_law_327 : List sp_I := [(.aload_n 1, 1, 1, 0, 0, 0), (.aload_n 0, 1, 0, 0, 0, 0), (.iload 4, 2, 4, 0, 0, 0), (.iconst 1, 1, 0, 0, 1, 0), (.iadd, 1, 0, 0, 0, 0)]
theorem e_Law_law_327 : sp_ok R_Law b_Law_law 7 k_Law_law_327 327 = true := by decide +kernel
def k_Law_law_334 : List sp_I := [(.aload_n 0, 1, 0, 0, 0, 0), (.iload 4, 2, 4, 0, 0, 0), (.iconst 2, 1, 0, 0, 2, 0), (.iadd, 1, 0, 0, 0, 0)]
theorem e_Law_law_334 : sp_ok R_Law b_Law_law 7 k_Law_law_334 334 = true := by decide +kernel
def k_Law_law_340 : List sp_I := [(.aload_n 3, 1, 3, 0, 0, 0)]
theorem e_Law_law_340 : sp_ok R_Law b_Law_law 7 k_Law_law_340 340 = true := by decide +kernel
def k_Law_law_344 : List sp_I := [(.istore 5, 2, 5, 0, 0, 0), (.aload_n 2, 1, 2, 0, 0, 0), (.aload_n 0, 1, 0, 0, 0, 0), (.iload 4, 2, 4, 0, 0, 0), (.iconst 1, 1, 0, 0, 1, 0), (.iadd, 1, 0, 0, 0, 0)]
theorem e_Law_law_344 : sp_ok R_Law b_Law_law 7 k_Law_law_344 344 = true := by decide +kernel
def k_Law_law_353 : List sp_I := [(.aload_n 0, 1, 0, 0, 0, 0), (.iload 4, 2, 4, 0, 0, 0), (.iconst 2, 1, 0, 0, 2, 0), (.iadd, 1, 0, 0, 0, 0)]
theorem e_Law_law_353 : sp_ok R_Law b_Law_law 7 k_Law_law_353 353 = true := by decide +kernel
def k_Law_law_362 : List sp_I := [(.istore 6, 2, 6, 0, 0, 0), (.aload_n 2, 1, 2, 0, 0, 0)]
theorem e_Law_law_362 : sp_ok R_Law b_Law_law 7 k_Law_law_362 362 = true := by decide +kernel
def k_Law_law_368 : List sp_I := [(.iload 5, 2, 5, 0, 0, 0), (.if_icmp .eq 5, 3, 375, 0, 0, 0), (.iconst 0, 1, 0, 0, 0, 0)]
theorem e_Law_law_368 : sp_ok R_Law b_Law_law 7 k_Law_law_368 368 = true := by decide +kernel
def k_Law_law_375 : List sp_I := [(.iload 5, 2, 5, 0, 0, 0), (.ifCond .ne 15, 3, 392, 0, 0, 0), (.aload_n 3, 1, 3, 0, 0, 0), (.iconst 0, 1, 0, 0, 0, 0), (.laload, 1, 0, 0, 0, 0), (.iload 6, 2, 6, 0, 0, 0), (.i2l, 1, 0, 0, 0, 0), (.lcmp, 1, 0, 0, 0, 0), (.ifCond .eq 5, 3, 392, 0, 0, 0), (.iconst 0, 1, 0, 0, 0, 0)]
theorem e_Law_law_375 : sp_ok R_Law b_Law_law 7 k_Law_law_375 375 = true := by decide +kernel
def k_Law_law_392 : List sp_I := [(.goto 59, 3, 451, 0, 0, 0)]
theorem e_Law_law_392 : sp_ok R_Law b_Law_law 7 k_Law_law_392 392 = true := by decide +kernel
def k_Law_law_395 : List sp_I := [(.aload_n 1, 1, 1, 0, 0, 0), (.aload_n 0, 1, 0, 0, 0, 0), (.iload 4, 2, 4, 0, 0, 0), (.iconst 1, 1, 0, 0, 1, 0), (.iadd, 1, 0, 0, 0, 0)]
theorem e_Law_law_395 : sp_ok R_Law b_Law_law 7 k_Law_law_395 395 = true := by decide +kernel
def k_Law_law_402 : List sp_I := [(.aload_n 3, 1, 3, 0, 0, 0)]
theorem e_Law_law_402 : sp_ok R_Law b_Law_law 7 k_Law_law_402 402 = true := by decide +kernel
def k_Law_law_406 : List sp_I := [(.istore 5, 2, 5, 0, 0, 0), (.aload_n 2, 1, 2, 0, 0, 0), (.aload_n 0, 1, 0, 0, 0, 0), (.iload 4, 2, 4, 0, 0, 0), (.iconst 1, 1, 0, 0, 1, 0), (.iadd, 1, 0, 0, 0, 0)]
theorem e_Law_law_406 : sp_ok R_Law b_Law_law 7 k_Law_law_406 406 = true := by decide +kernel
def k_Law_law_418 : List sp_I := [(.istore 6, 2, 6, 0, 0, 0), (.aload_n 2, 1, 2, 0, 0, 0)]
theorem e_Law_law_418 : sp_ok R_Law b_Law_law 7 k_Law_law_418 418 = true := by decide +kernel
def k_Law_law_424 : List sp_I := [(.iload 5, 2, 5, 0, 0, 0), (.if_icmp .eq 5, 3, 431, 0, 0, 0), (.iconst 0, 1, 0, 0, 0, 0)]
theorem e_Law_law_424 : sp_ok R_Law b_Law_law 7 k_Law_law_424 424 = true := by decide +kernel
def k_Law_law_431 : List sp_I := [(.iload 5, 2, 5, 0, 0, 0), (.ifCond .ne 15, 3, 448, 0, 0, 0), (.aload_n 3, 1, 3, 0, 0, 0), (.iconst 0, 1, 0, 0, 0, 0), (.laload, 1, 0, 0, 0, 0), (.iload 6, 2, 6, 0, 0, 0), (.i2l, 1, 0, 0, 0, 0), (.lcmp, 1, 0, 0, 0, 0), (.ifCond .eq 5, 3, 448, 0, 0, 0), (.iconst 0, 1, 0, 0, 0, 0)]
theorem e_Law_law_431 : sp_ok R_Law b_Law_law 7 k_Law_law_431 431 = true := by decide +kernel
def k_Law_law_448 : List sp_I := [(.goto 3, 3, 451, 0, 0, 0)]
theorem e_Law_law_448 : sp_ok R_Law b_Law_law 7 k_Law_law_448 448 = true := by decide +kernel
def k_Law_law_451 : List sp_I := [(.iinc 4 3, 3, 4, 0, 3, 0), (.goto (-431), 3, 23, 0, 0, 0)]
theorem e_Law_law_451 : sp_ok R_Law b_Law_law 7 k_Law_law_451 451 = true := by decide +kernel
def k_Law_law_457 : List sp_I := [(.iconst 1, 1, 0, 0, 1, 0)]
theorem e_Law_law_457 : sp_ok R_Law b_Law_law 7 k_Law_law_457 457 = true := by decide +kernel
theorem d_Law_law_0 : decode b_Law_law 0 = .ok (.new 8, 3) := by decide +kernel
theorem d_Law_law_4 : decode b_Law_law 4 = .ok (.invokespecial 32, 3) := by decide +kernel
theorem d_Law_law_8 : decode b_Law_law 8 = .ok (.new 33, 3) := by decide +kernel
theorem d_Law_law_12 : decode b_Law_law 12 = .ok (.invokespecial 35, 3) := by decide +kernel
theorem d_Law_law_17 : decode b_Law_law 17 = .ok (.newarray .long, 2) := by decide +kernel
theorem d_Law_law_26 : decode b_Law_law 26 = .ok (.arraylength, 1) := by decide +kernel
theorem d_Law_law_35 : decode b_Law_law 35 = .ok (.iaload, 1) := by decide +kernel
theorem d_Law_law_39 : decode b_Law_law 39 = .ok (.tableswitch 412 0 7 #[45, 102, 115, 128, 184, 220, 288, 356], 45) := by decide +kernel
theorem d_Law_law_90 : decode b_Law_law 90 = .ok (.iaload, 1) := by decide +kernel
theorem d_Law_law_100 : decode b_Law_law 100 = .ok (.iaload, 1) := by decide +kernel
theorem d_Law_law_107 : decode b_Law_law 107 = .ok (.invokevirtual 38, 3) := by decide +kernel
theorem d_Law_law_116 : decode b_Law_law 116 = .ok (.iaload, 1) := by decide +kernel
theorem d_Law_law_126 : decode b_Law_law 126 = .ok (.iaload, 1) := by decide +kernel
theorem d_Law_law_133 : decode b_Law_law 133 = .ok (.invokevirtual 42, 3) := by decide +kernel
theorem d_Law_law_140 : decode b_Law_law 140 = .ok (.ireturn, 1) := by decide +kernel
theorem d_Law_law_142 : decode b_Law_law 142 = .ok (.invokevirtual 43, 3) := by decide +kernel
theorem d_Law_law_146 : decode b_Law_law 146 = .ok (.invokevirtual 47, 3) := by decide +kernel
theorem d_Law_law_153 : decode b_Law_law 153 = .ok (.ireturn, 1) := by decide +kernel
theorem d_Law_law_155 : decode b_Law_law 155 = .ok (.invokevirtual 48, 3) := by decide +kernel
theorem d_Law_law_159 : decode b_Law_law 159 = .ok (.invokevirtual 51, 3) := by decide +kernel
theorem d_Law_law_166 : decode b_Law_law 166 = .ok (.ireturn, 1) := by decide +kernel
theorem d_Law_law_173 : decode b_Law_law 173 = .ok (.iaload, 1) := by decide +kernel
theorem d_Law_law_175 : decode b_Law_law 175 = .ok (.invokestatic 52, 3) := by decide +kernel
theorem d_Law_law_186 : decode b_Law_law 186 = .ok (.iaload, 1) := by decide +kernel
theorem d_Law_law_187 : decode b_Law_law 187 = .ok (.invokevirtual 57, 3) := by decide +kernel
theorem d_Law_law_193 : decode b_Law_law 193 = .ok (.invokevirtual 58, 3) := by decide +kernel
theorem d_Law_law_202 : decode b_Law_law 202 = .ok (.ireturn, 1) := by decide +kernel
theorem d_Law_law_219 : decode b_Law_law 219 = .ok (.ireturn, 1) := by decide +kernel
theorem d_Law_law_229 : decode b_Law_law 229 = .ok (.iaload, 1) := by decide +kernel
theorem d_Law_law_230 : decode b_Law_law 230 = .ok (.invokestatic 61, 3) := by decide +kernel
theorem d_Law_law_241 : decode b_Law_law 241 = .ok (.iaload, 1) := by decide +kernel
theorem d_Law_law_242 : decode b_Law_law 242 = .ok (.invokevirtual 64, 3) := by decide +kernel
theorem d_Law_law_246 : decode b_Law_law 246 = .ok (.invokevirtual 58, 3) := by decide +kernel
theorem d_Law_law_255 : decode b_Law_law 255 = .ok (.ireturn, 1) := by decide +kernel
theorem d_Law_law_265 : decode b_Law_law 265 = .ok (.iaload, 1) := by decide +kernel
theorem d_Law_law_271 : decode b_Law_law 271 = .ok (.iaload, 1) := by decide +kernel
theorem d_Law_law_273 : decode b_Law_law 273 = .ok (.invokestatic 65, 3) := by decide +kernel
theorem d_Law_law_284 : decode b_Law_law 284 = .ok (.iaload, 1) := by decide +kernel
theorem d_Law_law_290 : decode b_Law_law 290 = .ok (.iaload, 1) := by decide +kernel
theorem d_Law_law_291 : decode b_Law_law 291 = .ok (.invokevirtual 68, 3) := by decide +kernel
theorem d_Law_law_297 : decode b_Law_law 297 = .ok (.invokevirtual 58, 3) := by decide +kernel
theorem d_Law_law_306 : decode b_Law_law 306 = .ok (.ireturn, 1) := by decide +kernel
theorem d_Law_law_323 : decode b_Law_law 323 = .ok (.ireturn, 1) := by decide +kernel
theorem d_Law_law_333 : decode b_Law_law 333 = .ok (.iaload, 1) := by decide +kernel
theorem d_Law_law_339 : decode b_Law_law 339 = .ok (.iaload, 1) := by decide +kernel
theorem d_Law_law_341 : decode b_Law_law 341 = .ok (.invokestatic 69, 3) := by decide +kernel
theorem d_Law_law_352 : decode b_Law_law 352 = .ok (.iaload, 1) := by decide +kernel
theorem d_Law_law_358 : decode b_Law_law 358 = .ok (.iaload, 1) := by decide +kernel
theorem d_Law_law_359 : decode b_Law_law 359 = .ok (.invokevirtual 71, 3) := by decide +kernel
theorem d_Law_law_365 : decode b_Law_law 365 = .ok (.invokevirtual 58, 3) := by decide +kernel
theorem d_Law_law_374 : decode b_Law_law 374 = .ok (.ireturn, 1) := by decide +kernel
theorem d_Law_law_391 : decode b_Law_law 391 = .ok (.ireturn, 1) := by decide +kernel
theorem d_Law_law_401 : decode b_Law_law 401 = .ok (.iaload, 1) := by decide +kernel
theorem d_Law_law_403 : decode b_Law_law 403 = .ok (.invokestatic 72, 3) := by decide +kernel
theorem d_Law_law_414 : decode b_Law_law 414 = .ok (.iaload, 1) := by decide +kernel
theorem d_Law_law_415 : decode b_Law_law 415 = .ok (.invokevirtual 74, 3) := by decide +kernel
theorem d_Law_law_421 : decode b_Law_law 421 = .ok (.invokevirtual 58, 3) := by decide +kernel
theorem d_Law_law_430 : decode b_Law_law 430 = .ok (.ireturn, 1) := by decide +kernel
theorem d_Law_law_447 : decode b_Law_law 447 = .ok (.ireturn, 1) := by decide +kernel
theorem d_Law_law_458 : decode b_Law_law 458 = .ok (.ireturn, 1) := by decide +kernel

def k_Law_reply_12 : List sp_I := [(.astore_n 3, 1, 3, 0, 0, 0), (.iconst 1, 1, 0, 0, 1, 0)]
theorem e_Law_reply_12 : sp_ok R_Law b_Law_reply 4 k_Law_reply_12 12 = true := by decide +kernel
def k_Law_tick_8 : List sp_I := [(.astore_n 2, 1, 2, 0, 0, 0), (.iconst 1, 1, 0, 0, 1, 0)]
theorem e_Law_tick_8 : sp_ok R_Law b_Law_tick 3 k_Law_tick_8 8 = true := by decide +kernel
def k_Law_slab_13 : List sp_I := [(.astore 4, 2, 4, 0, 0, 0), (.iconst 1, 1, 0, 0, 1, 0)]
theorem e_Law_slab_13 : sp_ok R_Law b_Law_slab 5 k_Law_slab_13 13 = true := by decide +kernel
def k_Law_order_13 : List sp_I := [(.astore 4, 2, 4, 0, 0, 0), (.iconst 1, 1, 0, 0, 1, 0)]
theorem e_Law_order_13 : sp_ok R_Law b_Law_order 5 k_Law_order_13 13 = true := by decide +kernel
def k_Law_figure_12 : List sp_I := [(.astore_n 3, 1, 3, 0, 0, 0), (.iconst 1, 1, 0, 0, 1, 0)]
theorem e_Law_figure_12 : sp_ok R_Law b_Law_figure 4 k_Law_figure_12 12 = true := by decide +kernel
/-- the words that a call of a static method with handlers needs -/
def sp_wSW (own : String) (index : Nat) (y : MethodName) (cc' : ByteArray) (maxL : Nat) (ret' : Option FieldType) (hh : List (Nat × Nat × Nat × Nat)) (n : Nat) (ps : List Nat) : Bool :=
  decide (y.cls ≠ "java/lang/invoke/MethodHandle") && decide (y.cls ≠ "java/lang/invoke/VarHandle") && decide ((parseMethodDescriptor y.desc).map (fun d => d.parameters.length) = some n) && sp_in (ps.getD 0 0) (Cond.methodLink own index y) && sp_in (ps.getD 1 0) (Cond.static y) && sp_in (ps.getD 2 0) (Cond.initialized y.cls) && sp_in (ps.getD 3 0) (Cond.codeWith y cc' maxL ret' hh)
theorem w_Law_7 : sp_wV R_Law 7 R_SP y_SP_reply b_SP_reply 2 (some .char) 1 [737, 738, 739, 67, 740] = true := by decide +kernel
theorem w_Law_15 : sp_wV R_Law 15 R_SP y_SP_tick b_SP_tick 2 none 1 [808, 809, 810, 67, 811] = true := by decide +kernel
theorem w_Law_21 : sp_wV R_Law 21 R_SP y_SP_slab b_SP_slab 4 (some .int) 2 [835, 836, 837, 67, 838] = true := by decide +kernel
theorem w_Law_25 : sp_wV R_Law 25 R_SP y_SP_order b_SP_order 4 (some .int) 2 [849, 850, 851, 67, 852] = true := by decide +kernel
theorem w_Law_28 : sp_wV R_Law 28 R_SP y_SP_figure b_SP_figure 2 (some .int) 1 [860, 861, 862, 67, 863] = true := by decide +kernel
theorem n_Law_8 : sp_wN R_Law 8 R_SP 4 [89, 90, 67] = true := by decide +kernel
theorem w_Law_32 : sp_wI R_Law 32 y_SP_init b_SP_init 1 0 [91, 92, 67, 93] = true := by decide +kernel
theorem n_Law_33 : sp_wN R_Law 33 R_Mod 27 [896, 897, 76] = true := by decide +kernel
theorem w_Law_35 : sp_wI R_Law 35 y_Mod_init b_Mod_init 1 0 [898, 899, 76, 900] = true := by decide +kernel
theorem w_Law_38 : sp_wV R_Law 38 R_SP y_SP_write b_SP_write 6 (some .boolean) 1 [264, 265, 266, 67, 267] = true := by decide +kernel
theorem w_Law_42 : sp_wV R_Law 42 R_Mod y_Mod_write b_Mod_write 6 (some .boolean) 1 [989, 990, 991, 76, 992] = true := by decide +kernel
theorem w_Law_43 : sp_wV R_Law 43 R_SP y_SP_wipe b_SP_wipe 2 (some .int) 0 [282, 283, 284, 67, 285] = true := by decide +kernel
theorem w_Law_47 : sp_wV R_Law 47 R_Mod y_Mod_wipe b_Mod_wipe 2 (some .int) 0 [994, 995, 996, 76, 997] = true := by decide +kernel
theorem w_Law_48 : sp_wV R_Law 48 R_SP y_SP_send b_SP_send 1 (some .int) 0 [290, 291, 292, 67, 293] = true := by decide +kernel
theorem w_Law_51 : sp_wV R_Law 51 R_Mod y_Mod_send b_Mod_send 3 (some .int) 0 [998, 999, 1000, 76, 1001] = true := by decide +kernel
theorem w_Law_52 : sp_wSW R_Law 52 y_Law_reply b_Law_reply 4 (some .int) [(0, 9, 12, 13)] 3 [733, 734, 66, 735] = true := by decide +kernel
theorem w_Law_57 : sp_wV R_Law 57 R_Mod y_Mod_reply b_Mod_reply 2 (some .char) 1 [1235, 1236, 1237, 76, 1238] = true := by decide +kernel
theorem w_Law_58 : sp_wV R_Law 58 R_Mod y_Mod_thrown b_Mod_thrown 1 (some .int) 0 [985, 986, 987, 76, 988] = true := by decide +kernel
theorem w_Law_61 : sp_wSW R_Law 61 y_Law_tick b_Law_tick 3 (some .int) [(0, 5, 8, 19)] 2 [804, 805, 66, 806] = true := by decide +kernel
theorem w_Law_64 : sp_wV R_Law 64 R_Mod y_Mod_tick b_Mod_tick 3 none 1 [1239, 1240, 1241, 76, 1242] = true := by decide +kernel
theorem w_Law_65 : sp_wSW R_Law 65 y_Law_slab b_Law_slab 5 (some .int) [(0, 10, 13, 19)] 4 [832, 833, 66, 834] = true := by decide +kernel
theorem w_Law_68 : sp_wV R_Law 68 R_Mod y_Mod_slab b_Mod_slab 3 (some .int) 2 [1244, 1245, 1246, 76, 1247] = true := by decide +kernel
theorem w_Law_69 : sp_wSW R_Law 69 y_Law_order b_Law_order 5 (some .int) [(0, 10, 13, 19), (0, 10, 17, 13)] 4 [846, 847, 66, 848] = true := by decide +kernel
theorem w_Law_71 : sp_wV R_Law 71 R_Mod y_Mod_order b_Mod_order 6 (some .int) 2 [1248, 1249, 1250, 76, 1251] = true := by decide +kernel
theorem w_Law_72 : sp_wSW R_Law 72 y_Law_figure b_Law_figure 4 (some .int) [(0, 9, 12, 19)] 3 [857, 858, 66, 859] = true := by decide +kernel
theorem w_Law_74 : sp_wV R_Law 74 R_Mod y_Mod_figure b_Mod_figure 2 (some .int) 1 [1252, 1253, 1254, 76, 1255] = true := by decide +kernel
