def k_Mod_init_0 : List sp_I := [(.aload_n 0, 1, 0, 0, 0, 0)]
theorem e_Mod_init_0 : sp_ok R_Mod b_Mod_init 1 k_Mod_init_0 0 = true := by decide +kernel
def k_Mod_init_4 : List sp_I := [(.aload_n 0, 1, 0, 0, 0, 0), (.sipush 140, 3, 0, 0, 140, 0)]
theorem e_Mod_init_4 : sp_ok R_Mod b_Mod_init 1 k_Mod_init_4 4 = true := by decide +kernel
def k_Mod_init_13 : List sp_I := [(.aload_n 0, 1, 0, 0, 0, 0), (.sipush 600, 3, 0, 0, 600, 0)]
theorem e_Mod_init_13 : sp_ok R_Mod b_Mod_init 1 k_Mod_init_13 13 = true := by decide +kernel
def k_Mod_init_22 : List sp_I := [(.aload_n 0, 1, 0, 0, 0, 0), (.bipush 48, 2, 0, 0, 48, 0)]
theorem e_Mod_init_22 : sp_ok R_Mod b_Mod_init 1 k_Mod_init_22 22 = true := by decide +kernel
def k_Mod_init_30 : List sp_I := [(.aload_n 0, 1, 0, 0, 0, 0), (.bipush 48, 2, 0, 0, 48, 0)]
theorem e_Mod_init_30 : sp_ok R_Mod b_Mod_init 1 k_Mod_init_30 30 = true := by decide +kernel
def k_Mod_init_38 : List sp_I := [(.aload_n 0, 1, 0, 0, 0, 0), (.bipush 48, 2, 0, 0, 48, 0)]
theorem e_Mod_init_38 : sp_ok R_Mod b_Mod_init 1 k_Mod_init_38 38 = true := by decide +kernel
def k_Mod_init_46 : List sp_I := [(.aload_n 0, 1, 0, 0, 0, 0), (.sipush 3072, 3, 0, 0, 3072, 0)]
theorem e_Mod_init_46 : sp_ok R_Mod b_Mod_init 1 k_Mod_init_46 46 = true := by decide +kernel
def k_Mod_init_55 : List sp_I := [(.aload_n 0, 1, 0, 0, 0, 0), (.bipush 48, 2, 0, 0, 48, 0)]
theorem e_Mod_init_55 : sp_ok R_Mod b_Mod_init 1 k_Mod_init_55 55 = true := by decide +kernel
def k_Mod_init_63 : List sp_I := [(.aload_n 0, 1, 0, 0, 0, 0), (.bipush 48, 2, 0, 0, 48, 0)]
theorem e_Mod_init_63 : sp_ok R_Mod b_Mod_init 1 k_Mod_init_63 63 = true := by decide +kernel
def k_Mod_init_71 : List sp_I := [(.aload_n 0, 1, 0, 0, 0, 0), (.bipush 48, 2, 0, 0, 48, 0)]
theorem e_Mod_init_71 : sp_ok R_Mod b_Mod_init 1 k_Mod_init_71 71 = true := by decide +kernel
def k_Mod_init_79 : List sp_I := [(.aload_n 0, 1, 0, 0, 0, 0), (.iconst 4, 1, 0, 0, 4, 0)]
theorem e_Mod_init_79 : sp_ok R_Mod b_Mod_init 1 k_Mod_init_79 79 = true := by decide +kernel
def k_Mod_init_86 : List sp_I := [(.aload_n 0, 1, 0, 0, 0, 0), (.bipush 72, 2, 0, 0, 72, 0)]
theorem e_Mod_init_86 : sp_ok R_Mod b_Mod_init 1 k_Mod_init_86 86 = true := by decide +kernel
def k_Mod_init_94 : List sp_I := [(.aload_n 0, 1, 0, 0, 0, 0), (.bipush 72, 2, 0, 0, 72, 0)]
theorem e_Mod_init_94 : sp_ok R_Mod b_Mod_init 1 k_Mod_init_94 94 = true := by decide +kernel
def k_Mod_init_102 : List sp_I := [(.aload_n 0, 1, 0, 0, 0, 0), (.sipush 300, 3, 0, 0, 300, 0)]
theorem e_Mod_init_102 : sp_ok R_Mod b_Mod_init 1 k_Mod_init_102 102 = true := by decide +kernel
theorem d_Mod_init_1 : decode b_Mod_init 1 = .ok (.invokespecial 1, 3) := by decide +kernel
theorem d_Mod_init_8 : decode b_Mod_init 8 = .ok (.newarray .char, 2) := by decide +kernel
theorem d_Mod_init_10 : decode b_Mod_init 10 = .ok (.putfield 7, 3) := by decide +kernel
theorem d_Mod_init_17 : decode b_Mod_init 17 = .ok (.newarray .char, 2) := by decide +kernel
theorem d_Mod_init_19 : decode b_Mod_init 19 = .ok (.putfield 13, 3) := by decide +kernel
theorem d_Mod_init_25 : decode b_Mod_init 25 = .ok (.newarray .long, 2) := by decide +kernel
theorem d_Mod_init_27 : decode b_Mod_init 27 = .ok (.putfield 16, 3) := by decide +kernel
theorem d_Mod_init_33 : decode b_Mod_init 33 = .ok (.newarray .int, 2) := by decide +kernel
theorem d_Mod_init_35 : decode b_Mod_init 35 = .ok (.putfield 20, 3) := by decide +kernel
theorem d_Mod_init_41 : decode b_Mod_init 41 = .ok (.newarray .int, 2) := by decide +kernel
theorem d_Mod_init_43 : decode b_Mod_init 43 = .ok (.putfield 24, 3) := by decide +kernel
theorem d_Mod_init_50 : decode b_Mod_init 50 = .ok (.newarray .char, 2) := by decide +kernel
theorem d_Mod_init_52 : decode b_Mod_init 52 = .ok (.putfield 27, 3) := by decide +kernel
theorem d_Mod_init_58 : decode b_Mod_init 58 = .ok (.newarray .int, 2) := by decide +kernel
theorem d_Mod_init_60 : decode b_Mod_init 60 = .ok (.putfield 30, 3) := by decide +kernel
theorem d_Mod_init_66 : decode b_Mod_init 66 = .ok (.newarray .int, 2) := by decide +kernel
theorem d_Mod_init_68 : decode b_Mod_init 68 = .ok (.putfield 33, 3) := by decide +kernel
theorem d_Mod_init_74 : decode b_Mod_init 74 = .ok (.newarray .int, 2) := by decide +kernel
theorem d_Mod_init_76 : decode b_Mod_init 76 = .ok (.putfield 36, 3) := by decide +kernel
theorem d_Mod_init_81 : decode b_Mod_init 81 = .ok (.newarray .int, 2) := by decide +kernel
theorem d_Mod_init_83 : decode b_Mod_init 83 = .ok (.putfield 39, 3) := by decide +kernel
theorem d_Mod_init_89 : decode b_Mod_init 89 = .ok (.newarray .int, 2) := by decide +kernel
theorem d_Mod_init_91 : decode b_Mod_init 91 = .ok (.putfield 42, 3) := by decide +kernel
theorem d_Mod_init_97 : decode b_Mod_init 97 = .ok (.newarray .int, 2) := by decide +kernel
theorem d_Mod_init_99 : decode b_Mod_init 99 = .ok (.putfield 45, 3) := by decide +kernel
theorem d_Mod_init_106 : decode b_Mod_init 106 = .ok (.newarray .char, 2) := by decide +kernel
theorem d_Mod_init_108 : decode b_Mod_init 108 = .ok (.putfield 48, 3) := by decide +kernel
theorem d_Mod_init_111 : decode b_Mod_init 111 = .ok (.return_, 1) := by decide +kernel
def k_Mod_thrown_0 : List sp_I := [(.aload_n 0, 1, 0, 0, 0, 0), (.getfield 51, 3, 8, 0, 0, 902)]
theorem e_Mod_thrown_0 : sp_ok R_Mod b_Mod_thrown 1 k_Mod_thrown_0 0 = true := by decide +kernel
theorem d_Mod_thrown_4 : decode b_Mod_thrown 4 = .ok (.ireturn, 1) := by decide +kernel
def k_Mod_write_0 : List sp_I := [(.aload_n 0, 1, 0, 0, 0, 0), (.iconst 0, 1, 0, 0, 0, 0), (.putfield 51, 3, 8, 0, 0, 902), (.iconst 0, 1, 0, 0, 0, 0), (.istore_n 3, 1, 3, 0, 0, 0), (.iconst 0, 1, 0, 0, 0, 0), (.istore 4, 2, 4, 0, 0, 0)]
theorem e_Mod_write_0 : sp_ok R_Mod b_Mod_write 6 k_Mod_write_0 0 = true := by decide +kernel
def k_Mod_write_10 : List sp_I := [(.iload 4, 2, 4, 0, 0, 0), (.bipush 8, 2, 0, 0, 8, 0), (.if_icmp .ge 64, 3, 78, 0, 0, 0), (.lload_n 1, 1, 1, 0, 0, 0), (.bipush 8, 2, 0, 0, 8, 0), (.iload 4, 2, 4, 0, 0, 0), (.imul, 1, 0, 0, 0, 0), (.lshr, 1, 0, 0, 0, 0), (.ldc2_w 55, 3, 993, 1, 0, 255), (.land, 1, 0, 0, 0, 0), (.l2i, 1, 0, 0, 0, 0), (.istore 5, 2, 5, 0, 0, 0), (.iload 5, 2, 5, 0, 0, 0), (.ifCond .eq 26, 3, 59, 0, 0, 0), (.iload 5, 2, 5, 0, 0, 0), (.bipush 10, 2, 0, 0, 10, 0), (.if_icmp .eq 19, 3, 59, 0, 0, 0), (.iload 5, 2, 5, 0, 0, 0), (.bipush 32, 2, 0, 0, 32, 0), (.if_icmp .lt 10, 3, 57, 0, 0, 0), (.iload 5, 2, 5, 0, 0, 0), (.bipush 126, 2, 0, 0, 126, 0), (.if_icmp .le 5, 3, 59, 0, 0, 0)]
theorem e_Mod_write_10 : sp_ok R_Mod b_Mod_write 6 k_Mod_write_10 10 = true := by decide +kernel
def k_Mod_write_57 : List sp_I := [(.iconst 0, 1, 0, 0, 0, 0)]
theorem e_Mod_write_57 : sp_ok R_Mod b_Mod_write 6 k_Mod_write_57 57 = true := by decide +kernel
def k_Mod_write_59 : List sp_I := [(.iload_n 3, 1, 3, 0, 0, 0), (.iload 5, 2, 5, 0, 0, 0), (.ifCond .ne 7, 3, 69, 0, 0, 0), (.iconst 0, 1, 0, 0, 0, 0), (.goto 4, 3, 70, 0, 0, 0)]
theorem e_Mod_write_59 : sp_ok R_Mod b_Mod_write 6 k_Mod_write_59 59 = true := by decide +kernel
def k_Mod_write_69 : List sp_I := [(.iconst 1, 1, 0, 0, 1, 0)]
theorem e_Mod_write_69 : sp_ok R_Mod b_Mod_write 6 k_Mod_write_69 69 = true := by decide +kernel
def k_Mod_write_70 : List sp_I := [(.iadd, 1, 0, 0, 0, 0), (.istore_n 3, 1, 3, 0, 0, 0), (.iinc 4 1, 3, 4, 0, 1, 0), (.goto (-65), 3, 10, 0, 0, 0)]
theorem e_Mod_write_70 : sp_ok R_Mod b_Mod_write 6 k_Mod_write_70 70 = true := by decide +kernel
def k_Mod_write_78 : List sp_I := [(.aload_n 0, 1, 0, 0, 0, 0), (.getfield 57, 3, 8, 1, 0, 903), (.iload_n 3, 1, 3, 0, 0, 0), (.iadd, 1, 0, 0, 0, 0), (.sipush 140, 3, 0, 0, 140, 0), (.if_icmp .le 5, 3, 92, 0, 0, 0), (.iconst 0, 1, 0, 0, 0, 0)]
theorem e_Mod_write_78 : sp_ok R_Mod b_Mod_write 6 k_Mod_write_78 78 = true := by decide +kernel
def k_Mod_write_92 : List sp_I := [(.iconst 0, 1, 0, 0, 0, 0), (.istore 4, 2, 4, 0, 0, 0)]
theorem e_Mod_write_92 : sp_ok R_Mod b_Mod_write 6 k_Mod_write_92 92 = true := by decide +kernel
def k_Mod_write_95 : List sp_I := [(.iload 4, 2, 4, 0, 0, 0), (.bipush 8, 2, 0, 0, 8, 0), (.if_icmp .ge 50, 3, 149, 0, 0, 0), (.lload_n 1, 1, 1, 0, 0, 0), (.bipush 8, 2, 0, 0, 8, 0), (.iload 4, 2, 4, 0, 0, 0), (.imul, 1, 0, 0, 0, 0), (.lshr, 1, 0, 0, 0, 0), (.ldc2_w 55, 3, 993, 1, 0, 255), (.land, 1, 0, 0, 0, 0), (.l2i, 1, 0, 0, 0, 0), (.istore 5, 2, 5, 0, 0, 0), (.iload 5, 2, 5, 0, 0, 0), (.ifCond .eq 25, 3, 143, 0, 0, 0), (.aload_n 0, 1, 0, 0, 0, 0), (.getfield 7, 3, 8, 2, 0, 904), (.aload_n 0, 1, 0, 0, 0, 0), (.getfield 57, 3, 8, 1, 0, 903), (.iload 5, 2, 5, 0, 0, 0), (.i2c, 1, 0, 0, 0, 0), (.castore, 1, 0, 0, 0, 0), (.aload_n 0, 1, 0, 0, 0, 0), (.dup, 1, 0, 0, 0, 0), (.getfield 57, 3, 8, 1, 0, 903), (.iconst 1, 1, 0, 0, 1, 0), (.iadd, 1, 0, 0, 0, 0), (.putfield 57, 3, 8, 1, 0, 903)]
theorem e_Mod_write_95 : sp_ok R_Mod b_Mod_write 6 k_Mod_write_95 95 = true := by decide +kernel
def k_Mod_write_143 : List sp_I := [(.iinc 4 1, 3, 4, 0, 1, 0), (.goto (-51), 3, 95, 0, 0, 0)]
theorem e_Mod_write_143 : sp_ok R_Mod b_Mod_write 6 k_Mod_write_143 143 = true := by decide +kernel
def k_Mod_write_149 : List sp_I := [(.iconst 1, 1, 0, 0, 1, 0)]
theorem e_Mod_write_149 : sp_ok R_Mod b_Mod_write 6 k_Mod_write_149 149 = true := by decide +kernel
theorem d_Mod_write_58 : decode b_Mod_write 58 = .ok (.ireturn, 1) := by decide +kernel
theorem d_Mod_write_91 : decode b_Mod_write 91 = .ok (.ireturn, 1) := by decide +kernel
theorem d_Mod_write_150 : decode b_Mod_write 150 = .ok (.ireturn, 1) := by decide +kernel
def k_Mod_wipe_0 : List sp_I := [(.aload_n 0, 1, 0, 0, 0, 0), (.iconst 0, 1, 0, 0, 0, 0), (.putfield 51, 3, 8, 0, 0, 902), (.aload_n 0, 1, 0, 0, 0, 0), (.getfield 57, 3, 8, 1, 0, 903), (.istore_n 1, 1, 1, 0, 0, 0), (.aload_n 0, 1, 0, 0, 0, 0), (.iconst 0, 1, 0, 0, 0, 0), (.putfield 57, 3, 8, 1, 0, 903), (.iload_n 1, 1, 1, 0, 0, 0)]
theorem e_Mod_wipe_0 : sp_ok R_Mod b_Mod_wipe 2 k_Mod_wipe_0 0 = true := by decide +kernel
theorem d_Mod_wipe_16 : decode b_Mod_wipe 16 = .ok (.ireturn, 1) := by decide +kernel
def k_Mod_say_0 : List sp_I := [(.aload_n 0, 1, 0, 0, 0, 0), (.getfield 13, 3, 8, 4, 0, 906), (.aload_n 0, 1, 0, 0, 0, 0), (.getfield 60, 3, 8, 3, 0, 905), (.iload_n 1, 1, 1, 0, 0, 0), (.castore, 1, 0, 0, 0, 0), (.aload_n 0, 1, 0, 0, 0, 0), (.dup, 1, 0, 0, 0, 0), (.getfield 60, 3, 8, 3, 0, 905), (.iconst 1, 1, 0, 0, 1, 0), (.iadd, 1, 0, 0, 0, 0), (.putfield 60, 3, 8, 3, 0, 905)]
theorem e_Mod_say_0 : sp_ok R_Mod b_Mod_say 2 k_Mod_say_0 0 = true := by decide +kernel
theorem d_Mod_say_20 : decode b_Mod_say 20 = .ok (.return_, 1) := by decide +kernel
def k_Mod_sayNumber_0 : List sp_I := [(.ldc 63, 2, 1207, 1, 100000000, 0), (.istore_n 2, 1, 2, 0, 0, 0)]
theorem e_Mod_sayNumber_0 : sp_ok R_Mod b_Mod_sayNumber 3 k_Mod_sayNumber_0 0 = true := by decide +kernel
def k_Mod_sayNumber_3 : List sp_I := [(.iload_n 2, 1, 2, 0, 0, 0), (.iconst 1, 1, 0, 0, 1, 0), (.if_icmp .le 16, 3, 21, 0, 0, 0), (.iload_n 1, 1, 1, 0, 0, 0), (.iload_n 2, 1, 2, 0, 0, 0), (.if_icmp .ge 11, 3, 21, 0, 0, 0), (.iload_n 2, 1, 2, 0, 0, 0), (.bipush 10, 2, 0, 0, 10, 0), (.idiv, 1, 0, 0, 0, 0), (.istore_n 2, 1, 2, 0, 0, 0), (.goto (-15), 3, 3, 0, 0, 0)]
theorem e_Mod_sayNumber_3 : sp_ok R_Mod b_Mod_sayNumber 3 k_Mod_sayNumber_3 3 = true := by decide +kernel
def k_Mod_sayNumber_21 : List sp_I := [(.iload_n 2, 1, 2, 0, 0, 0), (.ifCond .le 25, 3, 47, 0, 0, 0), (.aload_n 0, 1, 0, 0, 0, 0), (.bipush 48, 2, 0, 0, 48, 0), (.iload_n 1, 1, 1, 0, 0, 0), (.iload_n 2, 1, 2, 0, 0, 0), (.idiv, 1, 0, 0, 0, 0), (.bipush 10, 2, 0, 0, 10, 0), (.irem, 1, 0, 0, 0, 0), (.iadd, 1, 0, 0, 0, 0), (.i2c, 1, 0, 0, 0, 0)]
theorem e_Mod_sayNumber_21 : sp_ok R_Mod b_Mod_sayNumber 3 k_Mod_sayNumber_21 21 = true := by decide +kernel
def k_Mod_sayNumber_39 : List sp_I := [(.iload_n 2, 1, 2, 0, 0, 0), (.bipush 10, 2, 0, 0, 10, 0), (.idiv, 1, 0, 0, 0, 0), (.istore_n 2, 1, 2, 0, 0, 0), (.goto (-23), 3, 21, 0, 0, 0)]
theorem e_Mod_sayNumber_39 : sp_ok R_Mod b_Mod_sayNumber 3 k_Mod_sayNumber_39 39 = true := by decide +kernel
theorem d_Mod_sayNumber_36 : decode b_Mod_sayNumber 36 = .ok (.invokevirtual 64, 3) := by decide +kernel
theorem d_Mod_sayNumber_47 : decode b_Mod_sayNumber 47 = .ok (.return_, 1) := by decide +kernel
def k_Mod_sayText_0 : List sp_I := [(.bipush 7, 2, 0, 0, 7, 0), (.istore_n 3, 1, 3, 0, 0, 0)]
theorem e_Mod_sayText_0 : sp_ok R_Mod b_Mod_sayText 5 k_Mod_sayText_0 0 = true := by decide +kernel
def k_Mod_sayText_3 : List sp_I := [(.iload_n 3, 1, 3, 0, 0, 0), (.ifCond .lt 34, 3, 38, 0, 0, 0), (.lload_n 1, 1, 1, 0, 0, 0), (.bipush 8, 2, 0, 0, 8, 0), (.iload_n 3, 1, 3, 0, 0, 0), (.imul, 1, 0, 0, 0, 0), (.lshr, 1, 0, 0, 0, 0), (.ldc2_w 55, 3, 993, 1, 0, 255), (.land, 1, 0, 0, 0, 0), (.l2i, 1, 0, 0, 0, 0), (.istore 4, 2, 4, 0, 0, 0), (.iload 4, 2, 4, 0, 0, 0), (.ifCond .eq 10, 3, 32, 0, 0, 0), (.aload_n 0, 1, 0, 0, 0, 0), (.iload 4, 2, 4, 0, 0, 0), (.i2c, 1, 0, 0, 0, 0)]
theorem e_Mod_sayText_3 : sp_ok R_Mod b_Mod_sayText 5 k_Mod_sayText_3 3 = true := by decide +kernel
def k_Mod_sayText_32 : List sp_I := [(.iinc 3 (-1), 3, 3, 0, (-1), 0), (.goto (-32), 3, 3, 0, 0, 0)]
theorem e_Mod_sayText_32 : sp_ok R_Mod b_Mod_sayText 5 k_Mod_sayText_32 32 = true := by decide +kernel
theorem d_Mod_sayText_29 : decode b_Mod_sayText 29 = .ok (.invokevirtual 64, 3) := by decide +kernel
theorem d_Mod_sayText_38 : decode b_Mod_sayText 38 = .ok (.return_, 1) := by decide +kernel
def k_Mod_sayClient_0 : List sp_I := [(.aload_n 0, 1, 0, 0, 0, 0), (.ldc2_w 68, 3, 1080, 1, 0, 4849331460786904901)]
theorem e_Mod_sayClient_0 : sp_ok R_Mod b_Mod_sayClient 1 k_Mod_sayClient_0 0 = true := by decide +kernel
def k_Mod_sayClient_7 : List sp_I := [(.aload_n 0, 1, 0, 0, 0, 0), (.ldc2_w 74, 3, 1081, 1, 0, 353568248352)]
theorem e_Mod_sayClient_7 : sp_ok R_Mod b_Mod_sayClient 1 k_Mod_sayClient_7 7 = true := by decide +kernel
theorem d_Mod_sayClient_4 : decode b_Mod_sayClient 4 = .ok (.invokevirtual 70, 3) := by decide +kernel
theorem d_Mod_sayClient_11 : decode b_Mod_sayClient 11 = .ok (.invokevirtual 70, 3) := by decide +kernel
theorem d_Mod_sayClient_14 : decode b_Mod_sayClient 14 = .ok (.return_, 1) := by decide +kernel
def k_Mod_sayServer_0 : List sp_I := [(.aload_n 0, 1, 0, 0, 0, 0), (.ldc2_w 76, 3, 1150, 1, 0, 6000292609024745285)]
theorem e_Mod_sayServer_0 : sp_ok R_Mod b_Mod_sayServer 1 k_Mod_sayServer_0 0 = true := by decide +kernel
def k_Mod_sayServer_7 : List sp_I := [(.aload_n 0, 1, 0, 0, 0, 0), (.ldc2_w 74, 3, 1081, 1, 0, 353568248352)]
theorem e_Mod_sayServer_7 : sp_ok R_Mod b_Mod_sayServer 1 k_Mod_sayServer_7 7 = true := by decide +kernel
theorem d_Mod_sayServer_4 : decode b_Mod_sayServer 4 = .ok (.invokevirtual 70, 3) := by decide +kernel
theorem d_Mod_sayServer_11 : decode b_Mod_sayServer 11 = .ok (.invokevirtual 70, 3) := by decide +kernel
theorem d_Mod_sayServer_14 : decode b_Mod_sayServer 14 = .ok (.return_, 1) := by decide +kernel
def k_Mod_sayError_0 : List sp_I := [(.aload_n 0, 1, 0, 0, 0, 0), (.ldc2_w 78, 3, 1039, 1, 0, 297733869394)]
theorem e_Mod_sayError_0 : sp_ok R_Mod b_Mod_sayError 1 k_Mod_sayError_0 0 = true := by decide +kernel
theorem d_Mod_sayError_4 : decode b_Mod_sayError 4 = .ok (.invokevirtual 70, 3) := by decide +kernel
theorem d_Mod_sayError_7 : decode b_Mod_sayError 7 = .ok (.return_, 1) := by decide +kernel
def k_Mod_badFormat_0 : List sp_I := [(.aload_n 0, 1, 0, 0, 0, 0)]
theorem e_Mod_badFormat_0 : sp_ok R_Mod b_Mod_badFormat 1 k_Mod_badFormat_0 0 = true := by decide +kernel
def k_Mod_badFormat_4 : List sp_I := [(.aload_n 0, 1, 0, 0, 0, 0), (.ldc2_w 83, 3, 1082, 1, 0, 7089057378727849325)]
theorem e_Mod_badFormat_4 : sp_ok R_Mod b_Mod_badFormat 1 k_Mod_badFormat_4 4 = true := by decide +kernel
def k_Mod_badFormat_11 : List sp_I := [(.aload_n 0, 1, 0, 0, 0, 0), (.ldc2_w 85, 3, 1083, 1, 0, 7020658959537761893)]
theorem e_Mod_badFormat_11 : sp_ok R_Mod b_Mod_badFormat 1 k_Mod_badFormat_11 11 = true := by decide +kernel
def k_Mod_badFormat_18 : List sp_I := [(.aload_n 0, 1, 0, 0, 0, 0), (.ldc2_w 87, 3, 1084, 1, 0, 9119828101914996)]
theorem e_Mod_badFormat_18 : sp_ok R_Mod b_Mod_badFormat 1 k_Mod_badFormat_18 18 = true := by decide +kernel
theorem d_Mod_badFormat_1 : decode b_Mod_badFormat 1 = .ok (.invokevirtual 80, 3) := by decide +kernel
theorem d_Mod_badFormat_8 : decode b_Mod_badFormat 8 = .ok (.invokevirtual 70, 3) := by decide +kernel
theorem d_Mod_badFormat_15 : decode b_Mod_badFormat 15 = .ok (.invokevirtual 70, 3) := by decide +kernel
theorem d_Mod_badFormat_22 : decode b_Mod_badFormat 22 = .ok (.invokevirtual 70, 3) := by decide +kernel
theorem d_Mod_badFormat_25 : decode b_Mod_badFormat 25 = .ok (.return_, 1) := by decide +kernel
def k_Mod_badChunk_0 : List sp_I := [(.aload_n 0, 1, 0, 0, 0, 0)]
theorem e_Mod_badChunk_0 : sp_ok R_Mod b_Mod_badChunk 1 k_Mod_badChunk_0 0 = true := by decide +kernel
def k_Mod_badChunk_4 : List sp_I := [(.aload_n 0, 1, 0, 0, 0, 0), (.ldc2_w 89, 3, 1089, 1, 0, 7089057378743710817)]
theorem e_Mod_badChunk_4 : sp_ok R_Mod b_Mod_badChunk 1 k_Mod_badChunk_4 4 = true := by decide +kernel
def k_Mod_badChunk_11 : List sp_I := [(.aload_n 0, 1, 0, 0, 0, 0), (.ldc2_w 91, 3, 1090, 1, 0, 35611326377579)]
theorem e_Mod_badChunk_11 : sp_ok R_Mod b_Mod_badChunk 1 k_Mod_badChunk_11 11 = true := by decide +kernel
theorem d_Mod_badChunk_1 : decode b_Mod_badChunk 1 = .ok (.invokevirtual 80, 3) := by decide +kernel
theorem d_Mod_badChunk_8 : decode b_Mod_badChunk 8 = .ok (.invokevirtual 70, 3) := by decide +kernel
theorem d_Mod_badChunk_15 : decode b_Mod_badChunk 15 = .ok (.invokevirtual 70, 3) := by decide +kernel
theorem d_Mod_badChunk_18 : decode b_Mod_badChunk 18 = .ok (.return_, 1) := by decide +kernel
def k_Mod_tooLarge_0 : List sp_I := [(.aload_n 0, 1, 0, 0, 0, 0)]
theorem e_Mod_tooLarge_0 : sp_ok R_Mod b_Mod_tooLarge 1 k_Mod_tooLarge_0 0 = true := by decide +kernel
def k_Mod_tooLarge_4 : List sp_I := [(.aload_n 0, 1, 0, 0, 0, 0), (.ldc2_w 96, 3, 1151, 1, 0, 122468482507636)]
theorem e_Mod_tooLarge_4 : sp_ok R_Mod b_Mod_tooLarge 1 k_Mod_tooLarge_4 4 = true := by decide +kernel
def k_Mod_tooLarge_11 : List sp_I := [(.aload_n 0, 1, 0, 0, 0, 0), (.ldc2_w 98, 3, 1152, 1, 0, 2338616629588156786)]
theorem e_Mod_tooLarge_11 : sp_ok R_Mod b_Mod_tooLarge 1 k_Mod_tooLarge_11 11 = true := by decide +kernel
def k_Mod_tooLarge_18 : List sp_I := [(.aload_n 0, 1, 0, 0, 0, 0), (.ldc2_w 100, 3, 1153, 1, 0, 7450396782882857059)]
theorem e_Mod_tooLarge_18 : sp_ok R_Mod b_Mod_tooLarge 1 k_Mod_tooLarge_18 18 = true := by decide +kernel
def k_Mod_tooLarge_25 : List sp_I := [(.aload_n 0, 1, 0, 0, 0, 0), (.ldc2_w 102, 3, 1154, 1, 0, 1633904741)]
theorem e_Mod_tooLarge_25 : sp_ok R_Mod b_Mod_tooLarge 1 k_Mod_tooLarge_25 25 = true := by decide +kernel
theorem d_Mod_tooLarge_1 : decode b_Mod_tooLarge 1 = .ok (.invokevirtual 93, 3) := by decide +kernel
theorem d_Mod_tooLarge_8 : decode b_Mod_tooLarge 8 = .ok (.invokevirtual 70, 3) := by decide +kernel
theorem d_Mod_tooLarge_15 : decode b_Mod_tooLarge 15 = .ok (.invokevirtual 70, 3) := by decide +kernel
theorem d_Mod_tooLarge_22 : decode b_Mod_tooLarge 22 = .ok (.invokevirtual 70, 3) := by decide +kernel
theorem d_Mod_tooLarge_29 : decode b_Mod_tooLarge 29 = .ok (.invokevirtual 70, 3) := by decide +kernel
theorem d_Mod_tooLarge_32 : decode b_Mod_tooLarge 32 = .ok (.return_, 1) := by decide +kernel
def k_Mod_outOfMemory_0 : List sp_I := [(.aload_n 0, 1, 0, 0, 0, 0)]
theorem e_Mod_outOfMemory_0 : sp_ok R_Mod b_Mod_outOfMemory 1 k_Mod_outOfMemory_0 0 = true := by decide +kernel
def k_Mod_outOfMemory_4 : List sp_I := [(.aload_n 0, 1, 0, 0, 0, 0), (.ldc2_w 104, 3, 1163, 1, 0, 8031453193141887085)]
theorem e_Mod_outOfMemory_4 : sp_ok R_Mod b_Mod_outOfMemory 1 k_Mod_outOfMemory_4 4 = true := by decide +kernel
def k_Mod_outOfMemory_11 : List sp_I := [(.aload_n 0, 1, 0, 0, 0, 0), (.ldc2_w 106, 3, 1164, 1, 0, 111520695613728)]
theorem e_Mod_outOfMemory_11 : sp_ok R_Mod b_Mod_outOfMemory 1 k_Mod_outOfMemory_11 11 = true := by decide +kernel
def k_Mod_outOfMemory_18 : List sp_I := [(.aload_n 0, 1, 0, 0, 0, 0), (.ldc2_w 108, 3, 1165, 1, 0, 8319396948845946656)]
theorem e_Mod_outOfMemory_18 : sp_ok R_Mod b_Mod_outOfMemory 1 k_Mod_outOfMemory_18 18 = true := by decide +kernel
def k_Mod_outOfMemory_25 : List sp_I := [(.aload_n 0, 1, 0, 0, 0, 0), (.ldc2_w 96, 3, 1151, 1, 0, 122468482507636)]
theorem e_Mod_outOfMemory_25 : sp_ok R_Mod b_Mod_outOfMemory 1 k_Mod_outOfMemory_25 25 = true := by decide +kernel
theorem d_Mod_outOfMemory_1 : decode b_Mod_outOfMemory 1 = .ok (.invokevirtual 93, 3) := by decide +kernel
theorem d_Mod_outOfMemory_8 : decode b_Mod_outOfMemory 8 = .ok (.invokevirtual 70, 3) := by decide +kernel
theorem d_Mod_outOfMemory_15 : decode b_Mod_outOfMemory 15 = .ok (.invokevirtual 70, 3) := by decide +kernel
theorem d_Mod_outOfMemory_22 : decode b_Mod_outOfMemory 22 = .ok (.invokevirtual 70, 3) := by decide +kernel
theorem d_Mod_outOfMemory_29 : decode b_Mod_outOfMemory 29 = .ok (.invokevirtual 70, 3) := by decide +kernel
theorem d_Mod_outOfMemory_32 : decode b_Mod_outOfMemory 32 = .ok (.return_, 1) := by decide +kernel
def k_Mod_noNumber_0 : List sp_I := [(.aload_n 0, 1, 0, 0, 0, 0)]
theorem e_Mod_noNumber_0 : sp_ok R_Mod b_Mod_noNumber 1 k_Mod_noNumber_0 0 = true := by decide +kernel
def k_Mod_noNumber_4 : List sp_I := [(.aload_n 0, 1, 0, 0, 0, 0), (.ldc2_w 110, 3, 1228, 1, 0, 7161126303091138665)]
theorem e_Mod_noNumber_4 : sp_ok R_Mod b_Mod_noNumber 1 k_Mod_noNumber_4 4 = true := by decide +kernel
def k_Mod_noNumber_11 : List sp_I := [(.aload_n 0, 1, 0, 0, 0, 0), (.ldc2_w 112, 3, 1229, 1, 0, 7954327146819055220)]
theorem e_Mod_noNumber_11 : sp_ok R_Mod b_Mod_noNumber 1 k_Mod_noNumber_11 11 = true := by decide +kernel
def k_Mod_noNumber_18 : List sp_I := [(.aload_n 0, 1, 0, 0, 0, 0), (.ldc2_w 114, 3, 1230, 1, 0, 2337212215077462898)]
theorem e_Mod_noNumber_18 : sp_ok R_Mod b_Mod_noNumber 1 k_Mod_noNumber_18 18 = true := by decide +kernel
def k_Mod_noNumber_25 : List sp_I := [(.aload_n 0, 1, 0, 0, 0, 0), (.ldc2_w 116, 3, 1231, 1, 0, 7308609295361273455)]
theorem e_Mod_noNumber_25 : sp_ok R_Mod b_Mod_noNumber 1 k_Mod_noNumber_25 25 = true := by decide +kernel
def k_Mod_noNumber_32 : List sp_I := [(.aload_n 0, 1, 0, 0, 0, 0), (.ldc2_w 118, 3, 1232, 1, 0, 7939123168749646441)]
theorem e_Mod_noNumber_32 : sp_ok R_Mod b_Mod_noNumber 1 k_Mod_noNumber_32 32 = true := by decide +kernel
def k_Mod_noNumber_39 : List sp_I := [(.aload_n 0, 1, 0, 0, 0, 0), (.ldc2_w 120, 3, 1233, 1, 0, 27901715507082597)]
theorem e_Mod_noNumber_39 : sp_ok R_Mod b_Mod_noNumber 1 k_Mod_noNumber_39 39 = true := by decide +kernel
theorem d_Mod_noNumber_1 : decode b_Mod_noNumber 1 = .ok (.invokevirtual 80, 3) := by decide +kernel
theorem d_Mod_noNumber_8 : decode b_Mod_noNumber 8 = .ok (.invokevirtual 70, 3) := by decide +kernel
theorem d_Mod_noNumber_15 : decode b_Mod_noNumber 15 = .ok (.invokevirtual 70, 3) := by decide +kernel
theorem d_Mod_noNumber_22 : decode b_Mod_noNumber 22 = .ok (.invokevirtual 70, 3) := by decide +kernel
theorem d_Mod_noNumber_29 : decode b_Mod_noNumber 29 = .ok (.invokevirtual 70, 3) := by decide +kernel
theorem d_Mod_noNumber_36 : decode b_Mod_noNumber 36 = .ok (.invokevirtual 70, 3) := by decide +kernel
theorem d_Mod_noNumber_43 : decode b_Mod_noNumber 43 = .ok (.invokevirtual 70, 3) := by decide +kernel
theorem d_Mod_noNumber_46 : decode b_Mod_noNumber 46 = .ok (.return_, 1) := by decide +kernel
def k_Mod_stored_0 : List sp_I := [(.iload_n 1, 1, 1, 0, 0, 0), (.ifCond .ne 10, 3, 11, 0, 0, 0), (.aload_n 0, 1, 0, 0, 0, 0), (.ldc2_w 122, 3, 1114, 1, 0, 1313821791)]
theorem e_Mod_stored_0 : sp_ok R_Mod b_Mod_stored 2 k_Mod_stored_0 0 = true := by decide +kernel
def k_Mod_stored_11 : List sp_I := [(.aload_n 0, 1, 0, 0, 0, 0), (.ldc2_w 124, 3, 1115, 1, 0, 91621573150020)]
theorem e_Mod_stored_11 : sp_ok R_Mod b_Mod_stored 2 k_Mod_stored_11 11 = true := by decide +kernel
theorem d_Mod_stored_8 : decode b_Mod_stored 8 = .ok (.invokevirtual 70, 3) := by decide +kernel
theorem d_Mod_stored_15 : decode b_Mod_stored 15 = .ok (.invokevirtual 70, 3) := by decide +kernel
theorem d_Mod_stored_18 : decode b_Mod_stored 18 = .ok (.return_, 1) := by decide +kernel
def k_Mod_notFound_0 : List sp_I := [(.aload_n 0, 1, 0, 0, 0, 0), (.ldc2_w 126, 3, 1107, 1, 0, 5642821626296751438)]
theorem e_Mod_notFound_0 : sp_ok R_Mod b_Mod_notFound 1 k_Mod_notFound_0 0 = true := by decide +kernel
def k_Mod_notFound_7 : List sp_I := [(.aload_n 0, 1, 0, 0, 0, 0), (.ldc2_w 128, 3, 1108, 1, 0, 68)]
theorem e_Mod_notFound_7 : sp_ok R_Mod b_Mod_notFound 1 k_Mod_notFound_7 7 = true := by decide +kernel
theorem d_Mod_notFound_4 : decode b_Mod_notFound 4 = .ok (.invokevirtual 70, 3) := by decide +kernel
theorem d_Mod_notFound_11 : decode b_Mod_notFound 11 = .ok (.invokevirtual 70, 3) := by decide +kernel
theorem d_Mod_notFound_14 : decode b_Mod_notFound 14 = .ok (.return_, 1) := by decide +kernel
def k_Mod_findWords_0 : List sp_I := [(.aload_n 0, 1, 0, 0, 0, 0), (.iconst 0, 1, 0, 0, 0, 0), (.putfield 130, 3, 8, 21, 0, 923), (.aload_n 0, 1, 0, 0, 0, 0), (.iconst 0, 1, 0, 0, 0, 0), (.putfield 133, 3, 8, 24, 0, 926)]
theorem e_Mod_findWords_0 : sp_ok R_Mod b_Mod_findWords 2 k_Mod_findWords_0 0 = true := by decide +kernel
def k_Mod_findWords_10 : List sp_I := [(.aload_n 0, 1, 0, 0, 0, 0), (.getfield 133, 3, 8, 24, 0, 926), (.aload_n 0, 1, 0, 0, 0, 0), (.getfield 57, 3, 8, 1, 0, 903), (.if_icmp .ge 131, 3, 149, 0, 0, 0), (.aload_n 0, 1, 0, 0, 0, 0), (.getfield 7, 3, 8, 2, 0, 904), (.aload_n 0, 1, 0, 0, 0, 0), (.getfield 133, 3, 8, 24, 0, 926), (.caload, 1, 0, 0, 0, 0), (.bipush 10, 2, 0, 0, 10, 0), (.if_icmp .eq 117, 3, 149, 0, 0, 0), (.aload_n 0, 1, 0, 0, 0, 0), (.getfield 7, 3, 8, 2, 0, 904), (.aload_n 0, 1, 0, 0, 0, 0), (.getfield 133, 3, 8, 24, 0, 926), (.caload, 1, 0, 0, 0, 0), (.bipush 32, 2, 0, 0, 32, 0), (.if_icmp .eq 30, 3, 76, 0, 0, 0), (.aload_n 0, 1, 0, 0, 0, 0), (.getfield 133, 3, 8, 24, 0, 926), (.ifCond .eq 19, 3, 72, 0, 0, 0), (.aload_n 0, 1, 0, 0, 0, 0), (.getfield 7, 3, 8, 2, 0, 904), (.aload_n 0, 1, 0, 0, 0, 0), (.getfield 133, 3, 8, 24, 0, 926), (.iconst 1, 1, 0, 0, 1, 0), (.isub, 1, 0, 0, 0, 0), (.caload, 1, 0, 0, 0, 0), (.bipush 32, 2, 0, 0, 32, 0), (.if_icmp .ne 7, 3, 76, 0, 0, 0)]
theorem e_Mod_findWords_10 : sp_ok R_Mod b_Mod_findWords 2 k_Mod_findWords_10 10 = true := by decide +kernel
def k_Mod_findWords_72 : List sp_I := [(.iconst 1, 1, 0, 0, 1, 0), (.goto 4, 3, 77, 0, 0, 0)]
theorem e_Mod_findWords_72 : sp_ok R_Mod b_Mod_findWords 2 k_Mod_findWords_72 72 = true := by decide +kernel
def k_Mod_findWords_76 : List sp_I := [(.iconst 0, 1, 0, 0, 0, 0)]
theorem e_Mod_findWords_76 : sp_ok R_Mod b_Mod_findWords 2 k_Mod_findWords_76 76 = true := by decide +kernel
def k_Mod_findWords_77 : List sp_I := [(.istore_n 1, 1, 1, 0, 0, 0), (.iload_n 1, 1, 1, 0, 0, 0), (.ifCond .eq 26, 3, 105, 0, 0, 0), (.aload_n 0, 1, 0, 0, 0, 0), (.getfield 42, 3, 8, 22, 0, 924), (.aload_n 0, 1, 0, 0, 0, 0), (.getfield 130, 3, 8, 21, 0, 923), (.aload_n 0, 1, 0, 0, 0, 0), (.getfield 133, 3, 8, 24, 0, 926), (.iastore, 1, 0, 0, 0, 0), (.aload_n 0, 1, 0, 0, 0, 0), (.dup, 1, 0, 0, 0, 0), (.getfield 130, 3, 8, 21, 0, 923), (.iconst 1, 1, 0, 0, 1, 0), (.iadd, 1, 0, 0, 0, 0), (.putfield 130, 3, 8, 21, 0, 923)]
theorem e_Mod_findWords_77 : sp_ok R_Mod b_Mod_findWords 2 k_Mod_findWords_77 77 = true := by decide +kernel
def k_Mod_findWords_105 : List sp_I := [(.aload_n 0, 1, 0, 0, 0, 0), (.getfield 7, 3, 8, 2, 0, 904), (.aload_n 0, 1, 0, 0, 0, 0), (.getfield 133, 3, 8, 24, 0, 926), (.caload, 1, 0, 0, 0, 0), (.bipush 32, 2, 0, 0, 32, 0), (.if_icmp .eq 20, 3, 136, 0, 0, 0), (.aload_n 0, 1, 0, 0, 0, 0), (.getfield 45, 3, 8, 23, 0, 925), (.aload_n 0, 1, 0, 0, 0, 0), (.getfield 130, 3, 8, 21, 0, 923), (.iconst 1, 1, 0, 0, 1, 0), (.isub, 1, 0, 0, 0, 0), (.aload_n 0, 1, 0, 0, 0, 0), (.getfield 133, 3, 8, 24, 0, 926), (.iconst 1, 1, 0, 0, 1, 0), (.iadd, 1, 0, 0, 0, 0), (.iastore, 1, 0, 0, 0, 0)]
theorem e_Mod_findWords_105 : sp_ok R_Mod b_Mod_findWords 2 k_Mod_findWords_105 105 = true := by decide +kernel
def k_Mod_findWords_136 : List sp_I := [(.aload_n 0, 1, 0, 0, 0, 0), (.dup, 1, 0, 0, 0, 0), (.getfield 133, 3, 8, 24, 0, 926), (.iconst 1, 1, 0, 0, 1, 0), (.iadd, 1, 0, 0, 0, 0), (.putfield 133, 3, 8, 24, 0, 926), (.goto (-136), 3, 10, 0, 0, 0)]
theorem e_Mod_findWords_136 : sp_ok R_Mod b_Mod_findWords 2 k_Mod_findWords_136 136 = true := by decide +kernel
theorem d_Mod_findWords_149 : decode b_Mod_findWords 149 = .ok (.return_, 1) := by decide +kernel
def k_Mod_wordLength_0 : List sp_I := [(.iload_n 1, 1, 1, 0, 0, 0), (.aload_n 0, 1, 0, 0, 0, 0), (.getfield 130, 3, 8, 21, 0, 923), (.if_icmp .ge 19, 3, 24, 0, 0, 0), (.aload_n 0, 1, 0, 0, 0, 0), (.getfield 45, 3, 8, 23, 0, 925), (.iload_n 1, 1, 1, 0, 0, 0), (.iaload, 1, 0, 0, 0, 0), (.aload_n 0, 1, 0, 0, 0, 0), (.getfield 42, 3, 8, 22, 0, 924), (.iload_n 1, 1, 1, 0, 0, 0), (.iaload, 1, 0, 0, 0, 0), (.isub, 1, 0, 0, 0, 0), (.goto 4, 3, 25, 0, 0, 0)]
theorem e_Mod_wordLength_0 : sp_ok R_Mod b_Mod_wordLength 2 k_Mod_wordLength_0 0 = true := by decide +kernel
def k_Mod_wordLength_24 : List sp_I := [(.iconst 0, 1, 0, 0, 0, 0)]
theorem e_Mod_wordLength_24 : sp_ok R_Mod b_Mod_wordLength 2 k_Mod_wordLength_24 24 = true := by decide +kernel
theorem d_Mod_wordLength_25 : decode b_Mod_wordLength 25 = .ok (.ireturn, 1) := by decide +kernel
def k_Mod_text_0 : List sp_I := [(.aload_n 0, 1, 0, 0, 0, 0), (.iload_n 1, 1, 1, 0, 0, 0)]
theorem e_Mod_text_0 : sp_ok R_Mod b_Mod_text 6 k_Mod_text_0 0 = true := by decide +kernel
def k_Mod_text_5 : List sp_I := [(.istore_n 2, 1, 2, 0, 0, 0), (.iload_n 2, 1, 2, 0, 0, 0), (.ifCond .eq 9, 3, 16, 0, 0, 0), (.iload_n 2, 1, 2, 0, 0, 0), (.bipush 8, 2, 0, 0, 8, 0), (.if_icmp .le 9, 3, 22, 0, 0, 0)]
theorem e_Mod_text_5 : sp_ok R_Mod b_Mod_text 6 k_Mod_text_5 5 = true := by decide +kernel
def k_Mod_text_16 : List sp_I := [(.ldc2_w 140, 3, 1018, 1, 0, (-1)), (.goto 4, 3, 23, 0, 0, 0)]
theorem e_Mod_text_16 : sp_ok R_Mod b_Mod_text 6 k_Mod_text_16 16 = true := by decide +kernel
def k_Mod_text_22 : List sp_I := [(.lconst 0, 1, 0, 0, 0, 0)]
theorem e_Mod_text_22 : sp_ok R_Mod b_Mod_text 6 k_Mod_text_22 22 = true := by decide +kernel
def k_Mod_text_23 : List sp_I := [(.lstore_n 3, 1, 3, 0, 0, 0), (.iconst 0, 1, 0, 0, 0, 0), (.istore 5, 2, 5, 0, 0, 0)]
theorem e_Mod_text_23 : sp_ok R_Mod b_Mod_text 6 k_Mod_text_23 23 = true := by decide +kernel
def k_Mod_text_27 : List sp_I := [(.iload 5, 2, 5, 0, 0, 0), (.iload_n 2, 1, 2, 0, 0, 0), (.if_icmp .ge 36, 3, 66, 0, 0, 0), (.lload_n 3, 1, 3, 0, 0, 0), (.lconst 0, 1, 0, 0, 0, 0), (.lcmp, 1, 0, 0, 0, 0), (.ifCond .lt 30, 3, 66, 0, 0, 0), (.lload_n 3, 1, 3, 0, 0, 0), (.bipush 8, 2, 0, 0, 8, 0), (.lshl, 1, 0, 0, 0, 0), (.aload_n 0, 1, 0, 0, 0, 0), (.getfield 7, 3, 8, 2, 0, 904), (.aload_n 0, 1, 0, 0, 0, 0), (.getfield 42, 3, 8, 22, 0, 924), (.iload_n 1, 1, 1, 0, 0, 0), (.iaload, 1, 0, 0, 0, 0), (.iload 5, 2, 5, 0, 0, 0), (.iadd, 1, 0, 0, 0, 0), (.caload, 1, 0, 0, 0, 0), (.i2l, 1, 0, 0, 0, 0), (.lor, 1, 0, 0, 0, 0), (.lstore_n 3, 1, 3, 0, 0, 0), (.iinc 5 1, 3, 5, 0, 1, 0), (.goto (-36), 3, 27, 0, 0, 0)]
theorem e_Mod_text_27 : sp_ok R_Mod b_Mod_text 6 k_Mod_text_27 27 = true := by decide +kernel
def k_Mod_text_66 : List sp_I := [(.lload_n 3, 1, 3, 0, 0, 0)]
theorem e_Mod_text_66 : sp_ok R_Mod b_Mod_text 6 k_Mod_text_66 66 = true := by decide +kernel
theorem d_Mod_text_2 : decode b_Mod_text 2 = .ok (.invokevirtual 136, 3) := by decide +kernel
theorem d_Mod_text_67 : decode b_Mod_text 67 = .ok (.lreturn, 1) := by decide +kernel
def k_Mod_isQuiet_0 : List sp_I := [(.aload_n 0, 1, 0, 0, 0, 0), (.iload_n 1, 1, 1, 0, 0, 0)]
theorem e_Mod_isQuiet_0 : sp_ok R_Mod b_Mod_isQuiet 2 k_Mod_isQuiet_0 0 = true := by decide +kernel
def k_Mod_isQuiet_5 : List sp_I := [(.ldc2_w 146, 3, 1060, 1, 0, 31084784556993657), (.lcmp, 1, 0, 0, 0, 0), (.ifCond .ne 7, 3, 16, 0, 0, 0), (.iconst 1, 1, 0, 0, 1, 0), (.goto 4, 3, 17, 0, 0, 0)]
theorem e_Mod_isQuiet_5 : sp_ok R_Mod b_Mod_isQuiet 2 k_Mod_isQuiet_5 5 = true := by decide +kernel
def k_Mod_isQuiet_16 : List sp_I := [(.iconst 0, 1, 0, 0, 0, 0)]
theorem e_Mod_isQuiet_16 : sp_ok R_Mod b_Mod_isQuiet 2 k_Mod_isQuiet_16 16 = true := by decide +kernel
theorem d_Mod_isQuiet_2 : decode b_Mod_isQuiet 2 = .ok (.invokevirtual 142, 3) := by decide +kernel
theorem d_Mod_isQuiet_17 : decode b_Mod_isQuiet 17 = .ok (.ireturn, 1) := by decide +kernel
def k_Mod_isDigit_0 : List sp_I := [(.iload_n 0, 1, 0, 0, 0, 0), (.bipush 48, 2, 0, 0, 48, 0), (.if_icmp .lt 13, 3, 16, 0, 0, 0), (.iload_n 0, 1, 0, 0, 0, 0), (.bipush 57, 2, 0, 0, 57, 0), (.if_icmp .gt 7, 3, 16, 0, 0, 0), (.iconst 1, 1, 0, 0, 1, 0), (.goto 4, 3, 17, 0, 0, 0)]
theorem e_Mod_isDigit_0 : sp_ok R_Mod b_Mod_isDigit 1 k_Mod_isDigit_0 0 = true := by decide +kernel
def k_Mod_isDigit_16 : List sp_I := [(.iconst 0, 1, 0, 0, 0, 0)]
theorem e_Mod_isDigit_16 : sp_ok R_Mod b_Mod_isDigit 1 k_Mod_isDigit_16 16 = true := by decide +kernel
theorem d_Mod_isDigit_17 : decode b_Mod_isDigit 17 = .ok (.ireturn, 1) := by decide +kernel
def k_Mod_numberIn_0 : List sp_I := [(.aload_n 0, 1, 0, 0, 0, 0), (.iload_n 1, 1, 1, 0, 0, 0)]
theorem e_Mod_numberIn_0 : sp_ok R_Mod b_Mod_numberIn 7 k_Mod_numberIn_0 0 = true := by decide +kernel
def k_Mod_numberIn_5 : List sp_I := [(.iload_n 2, 1, 2, 0, 0, 0), (.isub, 1, 0, 0, 0, 0), (.istore_n 3, 1, 3, 0, 0, 0), (.iload_n 3, 1, 3, 0, 0, 0), (.iconst 1, 1, 0, 0, 1, 0), (.if_icmp .lt 9, 3, 19, 0, 0, 0), (.iload_n 3, 1, 3, 0, 0, 0), (.bipush 9, 2, 0, 0, 9, 0), (.if_icmp .le 7, 3, 23, 0, 0, 0)]
theorem e_Mod_numberIn_5 : sp_ok R_Mod b_Mod_numberIn 7 k_Mod_numberIn_5 5 = true := by decide +kernel
def k_Mod_numberIn_19 : List sp_I := [(.iconst (-1), 1, 0, 0, (-1), 0), (.goto 4, 3, 24, 0, 0, 0)]
theorem e_Mod_numberIn_19 : sp_ok R_Mod b_Mod_numberIn 7 k_Mod_numberIn_19 19 = true := by decide +kernel
def k_Mod_numberIn_23 : List sp_I := [(.iconst 0, 1, 0, 0, 0, 0)]
theorem e_Mod_numberIn_23 : sp_ok R_Mod b_Mod_numberIn 7 k_Mod_numberIn_23 23 = true := by decide +kernel
def k_Mod_numberIn_24 : List sp_I := [(.istore 4, 2, 4, 0, 0, 0), (.iconst 0, 1, 0, 0, 0, 0), (.istore 5, 2, 5, 0, 0, 0)]
theorem e_Mod_numberIn_24 : sp_ok R_Mod b_Mod_numberIn 7 k_Mod_numberIn_24 24 = true := by decide +kernel
def k_Mod_numberIn_29 : List sp_I := [(.iload 5, 2, 5, 0, 0, 0), (.iload_n 3, 1, 3, 0, 0, 0), (.if_icmp .ge 57, 3, 89, 0, 0, 0), (.iload 4, 2, 4, 0, 0, 0), (.ifCond .lt 52, 3, 89, 0, 0, 0), (.aload_n 0, 1, 0, 0, 0, 0), (.getfield 7, 3, 8, 2, 0, 904), (.aload_n 0, 1, 0, 0, 0, 0), (.getfield 42, 3, 8, 22, 0, 924), (.iload_n 1, 1, 1, 0, 0, 0), (.iaload, 1, 0, 0, 0, 0), (.iload_n 2, 1, 2, 0, 0, 0), (.iadd, 1, 0, 0, 0, 0), (.iload 5, 2, 5, 0, 0, 0), (.iadd, 1, 0, 0, 0, 0), (.caload, 1, 0, 0, 0, 0), (.istore 6, 2, 6, 0, 0, 0), (.iload 6, 2, 6, 0, 0, 0)]
theorem e_Mod_numberIn_29 : sp_ok R_Mod b_Mod_numberIn 7 k_Mod_numberIn_29 29 = true := by decide +kernel
def k_Mod_numberIn_63 : List sp_I := [(.ifCond .eq 17, 3, 80, 0, 0, 0), (.bipush 10, 2, 0, 0, 10, 0), (.iload 4, 2, 4, 0, 0, 0), (.imul, 1, 0, 0, 0, 0), (.iload 6, 2, 6, 0, 0, 0), (.iadd, 1, 0, 0, 0, 0), (.bipush 48, 2, 0, 0, 48, 0), (.isub, 1, 0, 0, 0, 0), (.goto 4, 3, 81, 0, 0, 0)]
theorem e_Mod_numberIn_63 : sp_ok R_Mod b_Mod_numberIn 7 k_Mod_numberIn_63 63 = true := by decide +kernel
def k_Mod_numberIn_80 : List sp_I := [(.iconst (-1), 1, 0, 0, (-1), 0)]
theorem e_Mod_numberIn_80 : sp_ok R_Mod b_Mod_numberIn 7 k_Mod_numberIn_80 80 = true := by decide +kernel
def k_Mod_numberIn_81 : List sp_I := [(.istore 4, 2, 4, 0, 0, 0), (.iinc 5 1, 3, 5, 0, 1, 0), (.goto (-57), 3, 29, 0, 0, 0)]
theorem e_Mod_numberIn_81 : sp_ok R_Mod b_Mod_numberIn 7 k_Mod_numberIn_81 81 = true := by decide +kernel
def k_Mod_numberIn_89 : List sp_I := [(.iload 4, 2, 4, 0, 0, 0)]
theorem e_Mod_numberIn_89 : sp_ok R_Mod b_Mod_numberIn 7 k_Mod_numberIn_89 89 = true := by decide +kernel
theorem d_Mod_numberIn_2 : decode b_Mod_numberIn 2 = .ok (.invokevirtual 136, 3) := by decide +kernel
theorem d_Mod_numberIn_60 : decode b_Mod_numberIn 60 = .ok (.invokestatic 148, 3) := by decide +kernel
theorem d_Mod_numberIn_91 : decode b_Mod_numberIn 91 = .ok (.ireturn, 1) := by decide +kernel
def k_Mod_liveIn_0 : List sp_I := [(.aload_n 0, 1, 0, 0, 0, 0), (.iload_n 1, 1, 1, 0, 0, 0)]
theorem e_Mod_liveIn_0 : sp_ok R_Mod b_Mod_liveIn 4 k_Mod_liveIn_0 0 = true := by decide +kernel
def k_Mod_liveIn_5 : List sp_I := [(.ifCond .le 23, 3, 28, 0, 0, 0), (.aload_n 0, 1, 0, 0, 0, 0), (.getfield 7, 3, 8, 2, 0, 904), (.aload_n 0, 1, 0, 0, 0, 0), (.getfield 42, 3, 8, 22, 0, 924), (.iload_n 1, 1, 1, 0, 0, 0), (.iaload, 1, 0, 0, 0, 0), (.caload, 1, 0, 0, 0, 0), (.bipush 45, 2, 0, 0, 45, 0), (.if_icmp .ne 7, 3, 28, 0, 0, 0), (.iconst 1, 1, 0, 0, 1, 0), (.goto 4, 3, 29, 0, 0, 0)]
theorem e_Mod_liveIn_5 : sp_ok R_Mod b_Mod_liveIn 4 k_Mod_liveIn_5 5 = true := by decide +kernel
def k_Mod_liveIn_28 : List sp_I := [(.iconst 0, 1, 0, 0, 0, 0)]
theorem e_Mod_liveIn_28 : sp_ok R_Mod b_Mod_liveIn 4 k_Mod_liveIn_28 28 = true := by decide +kernel
def k_Mod_liveIn_29 : List sp_I := [(.istore_n 2, 1, 2, 0, 0, 0), (.aload_n 0, 1, 0, 0, 0, 0), (.iload_n 1, 1, 1, 0, 0, 0), (.iload_n 2, 1, 2, 0, 0, 0), (.ifCond .eq 7, 3, 40, 0, 0, 0), (.iconst 1, 1, 0, 0, 1, 0), (.goto 4, 3, 41, 0, 0, 0)]
theorem e_Mod_liveIn_29 : sp_ok R_Mod b_Mod_liveIn 4 k_Mod_liveIn_29 29 = true := by decide +kernel
def k_Mod_liveIn_40 : List sp_I := [(.iconst 0, 1, 0, 0, 0, 0)]
theorem e_Mod_liveIn_40 : sp_ok R_Mod b_Mod_liveIn 4 k_Mod_liveIn_40 40 = true := by decide +kernel
def k_Mod_liveIn_44 : List sp_I := [(.istore_n 3, 1, 3, 0, 0, 0), (.iload_n 3, 1, 3, 0, 0, 0), (.ifCond .lt 12, 3, 58, 0, 0, 0), (.iload_n 2, 1, 2, 0, 0, 0), (.ifCond .eq 8, 3, 58, 0, 0, 0), (.bipush (-2), 2, 0, 0, (-2), 0), (.goto 4, 3, 59, 0, 0, 0)]
theorem e_Mod_liveIn_44 : sp_ok R_Mod b_Mod_liveIn 4 k_Mod_liveIn_44 44 = true := by decide +kernel
def k_Mod_liveIn_58 : List sp_I := [(.iload_n 3, 1, 3, 0, 0, 0)]
theorem e_Mod_liveIn_58 : sp_ok R_Mod b_Mod_liveIn 4 k_Mod_liveIn_58 58 = true := by decide +kernel
theorem d_Mod_liveIn_2 : decode b_Mod_liveIn 2 = .ok (.invokevirtual 136, 3) := by decide +kernel
theorem d_Mod_liveIn_41 : decode b_Mod_liveIn 41 = .ok (.invokevirtual 152, 3) := by decide +kernel
theorem d_Mod_liveIn_59 : decode b_Mod_liveIn 59 = .ok (.ireturn, 1) := by decide +kernel
def k_Mod_commandOf_0 : List sp_I := [(.aload_n 0, 1, 0, 0, 0, 0), (.iconst 0, 1, 0, 0, 0, 0)]
theorem e_Mod_commandOf_0 : sp_ok R_Mod b_Mod_commandOf 5 k_Mod_commandOf_0 0 = true := by decide +kernel
def k_Mod_commandOf_5 : List sp_I := [(.lstore_n 1, 1, 1, 0, 0, 0), (.lload_n 1, 1, 1, 0, 0, 0), (.ldc2_w 156, 3, 1019, 1, 0, 7562612), (.lcmp, 1, 0, 0, 0, 0), (.ifCond .eq 11, 3, 22, 0, 0, 0), (.lload_n 1, 1, 1, 0, 0, 0), (.ldc2_w 158, 3, 1020, 1, 0, 6382692), (.lcmp, 1, 0, 0, 0, 0), (.ifCond .ne 17, 3, 36, 0, 0, 0)]
theorem e_Mod_commandOf_5 : sp_ok R_Mod b_Mod_commandOf 5 k_Mod_commandOf_5 5 = true := by decide +kernel
def k_Mod_commandOf_22 : List sp_I := [(.lload_n 1, 1, 1, 0, 0, 0), (.ldc2_w 156, 3, 1019, 1, 0, 7562612), (.lcmp, 1, 0, 0, 0, 0), (.ifCond .ne 7, 3, 34, 0, 0, 0), (.iconst 1, 1, 0, 0, 1, 0), (.goto 4, 3, 35, 0, 0, 0)]
theorem e_Mod_commandOf_22 : sp_ok R_Mod b_Mod_commandOf 5 k_Mod_commandOf_22 22 = true := by decide +kernel
def k_Mod_commandOf_34 : List sp_I := [(.iconst 2, 1, 0, 0, 2, 0)]
theorem e_Mod_commandOf_34 : sp_ok R_Mod b_Mod_commandOf 5 k_Mod_commandOf_34 34 = true := by decide +kernel
def k_Mod_commandOf_36 : List sp_I := [(.lload_n 1, 1, 1, 0, 0, 0), (.ldc2_w 160, 3, 1021, 1, 0, 32199680874079077), (.lcmp, 1, 0, 0, 0, 0), (.ifCond .eq 11, 3, 52, 0, 0, 0), (.lload_n 1, 1, 1, 0, 0, 0), (.ldc2_w 162, 3, 1022, 1, 0, 107135549927012), (.lcmp, 1, 0, 0, 0, 0), (.ifCond .ne 17, 3, 66, 0, 0, 0)]
theorem e_Mod_commandOf_36 : sp_ok R_Mod b_Mod_commandOf 5 k_Mod_commandOf_36 36 = true := by decide +kernel
def k_Mod_commandOf_52 : List sp_I := [(.lload_n 1, 1, 1, 0, 0, 0), (.ldc2_w 160, 3, 1021, 1, 0, 32199680874079077), (.lcmp, 1, 0, 0, 0, 0), (.ifCond .ne 7, 3, 64, 0, 0, 0), (.iconst 3, 1, 0, 0, 3, 0), (.goto 4, 3, 65, 0, 0, 0)]
theorem e_Mod_commandOf_52 : sp_ok R_Mod b_Mod_commandOf 5 k_Mod_commandOf_52 52 = true := by decide +kernel
def k_Mod_commandOf_64 : List sp_I := [(.iconst 4, 1, 0, 0, 4, 0)]
theorem e_Mod_commandOf_64 : sp_ok R_Mod b_Mod_commandOf 5 k_Mod_commandOf_64 64 = true := by decide +kernel
def k_Mod_commandOf_66 : List sp_I := [(.lload_n 1, 1, 1, 0, 0, 0), (.ldc2_w 164, 3, 1023, 1, 0, 31650977394552420), (.lcmp, 1, 0, 0, 0, 0), (.ifCond .eq 11, 3, 82, 0, 0, 0), (.lload_n 1, 1, 1, 0, 0, 0), (.ldc2_w 166, 3, 1024, 1, 0, 6513011), (.lcmp, 1, 0, 0, 0, 0), (.ifCond .ne 18, 3, 97, 0, 0, 0)]
theorem e_Mod_commandOf_66 : sp_ok R_Mod b_Mod_commandOf 5 k_Mod_commandOf_66 66 = true := by decide +kernel
def k_Mod_commandOf_82 : List sp_I := [(.lload_n 1, 1, 1, 0, 0, 0), (.ldc2_w 166, 3, 1024, 1, 0, 6513011), (.lcmp, 1, 0, 0, 0, 0), (.ifCond .ne 8, 3, 95, 0, 0, 0), (.bipush 6, 2, 0, 0, 6, 0), (.goto 4, 3, 96, 0, 0, 0)]
theorem e_Mod_commandOf_82 : sp_ok R_Mod b_Mod_commandOf 5 k_Mod_commandOf_82 82 = true := by decide +kernel
def k_Mod_commandOf_95 : List sp_I := [(.iconst 5, 1, 0, 0, 5, 0)]
theorem e_Mod_commandOf_95 : sp_ok R_Mod b_Mod_commandOf 5 k_Mod_commandOf_95 95 = true := by decide +kernel
def k_Mod_commandOf_97 : List sp_I := [(.lload_n 1, 1, 1, 0, 0, 0), (.ldc2_w 168, 3, 1025, 1, 0, 6776180), (.lcmp, 1, 0, 0, 0, 0), (.ifCond .eq 11, 3, 113, 0, 0, 0), (.lload_n 1, 1, 1, 0, 0, 0), (.ldc2_w 170, 3, 1026, 1, 0, 1734702195), (.lcmp, 1, 0, 0, 0, 0), (.ifCond .ne 19, 3, 129, 0, 0, 0)]
theorem e_Mod_commandOf_97 : sp_ok R_Mod b_Mod_commandOf 5 k_Mod_commandOf_97 97 = true := by decide +kernel
def k_Mod_commandOf_113 : List sp_I := [(.lload_n 1, 1, 1, 0, 0, 0), (.ldc2_w 168, 3, 1025, 1, 0, 6776180), (.lcmp, 1, 0, 0, 0, 0), (.ifCond .ne 8, 3, 126, 0, 0, 0), (.bipush 7, 2, 0, 0, 7, 0), (.goto 5, 3, 128, 0, 0, 0)]
theorem e_Mod_commandOf_113 : sp_ok R_Mod b_Mod_commandOf 5 k_Mod_commandOf_113 113 = true := by decide +kernel
def k_Mod_commandOf_126 : List sp_I := [(.bipush 8, 2, 0, 0, 8, 0)]
theorem e_Mod_commandOf_126 : sp_ok R_Mod b_Mod_commandOf 5 k_Mod_commandOf_126 126 = true := by decide +kernel
def k_Mod_commandOf_129 : List sp_I := [(.lload_n 1, 1, 1, 0, 0, 0), (.ldc2_w 172, 3, 1027, 1, 0, 110386773062757), (.lcmp, 1, 0, 0, 0, 0), (.ifCond .eq 11, 3, 145, 0, 0, 0), (.lload_n 1, 1, 1, 0, 0, 0), (.ldc2_w 174, 3, 1028, 1, 0, 500086170472), (.lcmp, 1, 0, 0, 0, 0), (.ifCond .ne 19, 3, 161, 0, 0, 0)]
theorem e_Mod_commandOf_129 : sp_ok R_Mod b_Mod_commandOf 5 k_Mod_commandOf_129 129 = true := by decide +kernel
def k_Mod_commandOf_145 : List sp_I := [(.lload_n 1, 1, 1, 0, 0, 0), (.ldc2_w 174, 3, 1028, 1, 0, 500086170472), (.lcmp, 1, 0, 0, 0, 0), (.ifCond .ne 8, 3, 158, 0, 0, 0), (.bipush 10, 2, 0, 0, 10, 0), (.goto 5, 3, 160, 0, 0, 0)]
theorem e_Mod_commandOf_145 : sp_ok R_Mod b_Mod_commandOf 5 k_Mod_commandOf_145 145 = true := by decide +kernel
def k_Mod_commandOf_158 : List sp_I := [(.bipush 9, 2, 0, 0, 9, 0)]
theorem e_Mod_commandOf_158 : sp_ok R_Mod b_Mod_commandOf 5 k_Mod_commandOf_158 158 = true := by decide +kernel
def k_Mod_commandOf_161 : List sp_I := [(.lload_n 1, 1, 1, 0, 0, 0), (.ldc2_w 176, 3, 1029, 1, 0, 1768842098), (.lcmp, 1, 0, 0, 0, 0), (.ifCond .eq 11, 3, 177, 0, 0, 0), (.lload_n 1, 1, 1, 0, 0, 0), (.ldc2_w 178, 3, 1030, 1, 0, 1684366194), (.lcmp, 1, 0, 0, 0, 0), (.ifCond .ne 19, 3, 193, 0, 0, 0)]
theorem e_Mod_commandOf_161 : sp_ok R_Mod b_Mod_commandOf 5 k_Mod_commandOf_161 161 = true := by decide +kernel
def k_Mod_commandOf_177 : List sp_I := [(.lload_n 1, 1, 1, 0, 0, 0), (.ldc2_w 176, 3, 1029, 1, 0, 1768842098), (.lcmp, 1, 0, 0, 0, 0), (.ifCond .ne 8, 3, 190, 0, 0, 0), (.bipush 12, 2, 0, 0, 12, 0), (.goto 5, 3, 192, 0, 0, 0)]
theorem e_Mod_commandOf_177 : sp_ok R_Mod b_Mod_commandOf 5 k_Mod_commandOf_177 177 = true := by decide +kernel
def k_Mod_commandOf_190 : List sp_I := [(.bipush 13, 2, 0, 0, 13, 0)]
theorem e_Mod_commandOf_190 : sp_ok R_Mod b_Mod_commandOf 5 k_Mod_commandOf_190 190 = true := by decide +kernel
def k_Mod_commandOf_193 : List sp_I := [(.aload_n 0, 1, 0, 0, 0, 0), (.iconst 0, 1, 0, 0, 0, 0)]
theorem e_Mod_commandOf_193 : sp_ok R_Mod b_Mod_commandOf 5 k_Mod_commandOf_193 193 = true := by decide +kernel
def k_Mod_commandOf_198 : List sp_I := [(.bipush 9, 2, 0, 0, 9, 0), (.if_icmp .ne 23, 3, 223, 0, 0, 0), (.aload_n 0, 1, 0, 0, 0, 0), (.getfield 7, 3, 8, 2, 0, 904), (.aload_n 0, 1, 0, 0, 0, 0), (.getfield 42, 3, 8, 22, 0, 924), (.iconst 0, 1, 0, 0, 0, 0), (.iaload, 1, 0, 0, 0, 0), (.caload, 1, 0, 0, 0, 0), (.bipush 102, 2, 0, 0, 102, 0), (.if_icmp .ne 7, 3, 223, 0, 0, 0), (.iconst 1, 1, 0, 0, 1, 0), (.goto 4, 3, 224, 0, 0, 0)]
theorem e_Mod_commandOf_198 : sp_ok R_Mod b_Mod_commandOf 5 k_Mod_commandOf_198 198 = true := by decide +kernel
def k_Mod_commandOf_223 : List sp_I := [(.iconst 0, 1, 0, 0, 0, 0)]
theorem e_Mod_commandOf_223 : sp_ok R_Mod b_Mod_commandOf 5 k_Mod_commandOf_223 223 = true := by decide +kernel
def k_Mod_commandOf_224 : List sp_I := [(.istore_n 3, 1, 3, 0, 0, 0), (.iconst 0, 1, 0, 0, 0, 0), (.istore 4, 2, 4, 0, 0, 0)]
theorem e_Mod_commandOf_224 : sp_ok R_Mod b_Mod_commandOf 5 k_Mod_commandOf_224 224 = true := by decide +kernel
def k_Mod_commandOf_228 : List sp_I := [(.iload 4, 2, 4, 0, 0, 0), (.bipush 9, 2, 0, 0, 9, 0), (.if_icmp .ge 41, 3, 273, 0, 0, 0), (.iload_n 3, 1, 3, 0, 0, 0), (.ifCond .eq 37, 3, 273, 0, 0, 0), (.aload_n 0, 1, 0, 0, 0, 0), (.getfield 7, 3, 8, 2, 0, 904), (.aload_n 0, 1, 0, 0, 0, 0), (.getfield 42, 3, 8, 22, 0, 924), (.iconst 0, 1, 0, 0, 0, 0), (.iaload, 1, 0, 0, 0, 0), (.iload 4, 2, 4, 0, 0, 0), (.iadd, 1, 0, 0, 0, 0), (.caload, 1, 0, 0, 0, 0), (.iload 4, 2, 4, 0, 0, 0)]
theorem e_Mod_commandOf_228 : sp_ok R_Mod b_Mod_commandOf 5 k_Mod_commandOf_228 228 = true := by decide +kernel
def k_Mod_commandOf_258 : List sp_I := [(.if_icmp .ne 7, 3, 265, 0, 0, 0), (.iconst 1, 1, 0, 0, 1, 0), (.goto 4, 3, 266, 0, 0, 0)]
theorem e_Mod_commandOf_258 : sp_ok R_Mod b_Mod_commandOf 5 k_Mod_commandOf_258 258 = true := by decide +kernel
def k_Mod_commandOf_265 : List sp_I := [(.iconst 0, 1, 0, 0, 0, 0)]
theorem e_Mod_commandOf_265 : sp_ok R_Mod b_Mod_commandOf 5 k_Mod_commandOf_265 265 = true := by decide +kernel
