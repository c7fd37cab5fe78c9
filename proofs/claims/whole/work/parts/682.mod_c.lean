def k_Mod_sayItem_39 : List sp_I := [(.aload_n 0, 1, 0, 0, 0, 0), (.aload_n 0, 1, 0, 0, 0, 0), (.getfield 24, 3, 8, 8, 0, 910), (.iload_n 1, 1, 1, 0, 0, 0), (.iaload, 1, 0, 0, 0, 0)]
theorem e_Mod_sayItem_39 : sp_ok R_Mod b_Mod_sayItem 4 k_Mod_sayItem_39 39 = true := by decide +kernel
def k_Mod_sayItem_49 : List sp_I := [(.iload_n 2, 1, 2, 0, 0, 0), (.ifCond .eq 19, 3, 69, 0, 0, 0), (.aload_n 0, 1, 0, 0, 0, 0), (.bipush 32, 2, 0, 0, 32, 0)]
theorem e_Mod_sayItem_49 : sp_ok R_Mod b_Mod_sayItem 4 k_Mod_sayItem_49 49 = true := by decide +kernel
def k_Mod_sayItem_59 : List sp_I := [(.aload_n 0, 1, 0, 0, 0, 0), (.aload_n 0, 1, 0, 0, 0, 0), (.getfield 30, 3, 8, 10, 0, 912), (.iload_n 1, 1, 1, 0, 0, 0), (.iaload, 1, 0, 0, 0, 0)]
theorem e_Mod_sayItem_59 : sp_ok R_Mod b_Mod_sayItem 4 k_Mod_sayItem_59 59 = true := by decide +kernel
def k_Mod_sayItem_69 : List sp_I := [(.aload_n 0, 1, 0, 0, 0, 0), (.bipush 10, 2, 0, 0, 10, 0)]
theorem e_Mod_sayItem_69 : sp_ok R_Mod b_Mod_sayItem 4 k_Mod_sayItem_69 69 = true := by decide +kernel
def k_Mod_sayItem_75 : List sp_I := [(.iconst 0, 1, 0, 0, 0, 0), (.istore_n 3, 1, 3, 0, 0, 0)]
theorem e_Mod_sayItem_75 : sp_ok R_Mod b_Mod_sayItem 4 k_Mod_sayItem_75 75 = true := by decide +kernel
def k_Mod_sayItem_77 : List sp_I := [(.iload_n 3, 1, 3, 0, 0, 0), (.aload_n 0, 1, 0, 0, 0, 0), (.getfield 24, 3, 8, 8, 0, 910), (.iload_n 1, 1, 1, 0, 0, 0), (.iaload, 1, 0, 0, 0, 0), (.if_icmp .ge 24, 3, 108, 0, 0, 0), (.aload_n 0, 1, 0, 0, 0, 0), (.aload_n 0, 1, 0, 0, 0, 0), (.getfield 27, 3, 8, 9, 0, 911), (.bipush 64, 2, 0, 0, 64, 0), (.iload_n 1, 1, 1, 0, 0, 0), (.imul, 1, 0, 0, 0, 0), (.iload_n 3, 1, 3, 0, 0, 0), (.iadd, 1, 0, 0, 0, 0), (.caload, 1, 0, 0, 0, 0)]
theorem e_Mod_sayItem_77 : sp_ok R_Mod b_Mod_sayItem 4 k_Mod_sayItem_77 77 = true := by decide +kernel
def k_Mod_sayItem_102 : List sp_I := [(.iinc 3 1, 3, 3, 0, 1, 0), (.goto (-28), 3, 77, 0, 0, 0)]
theorem e_Mod_sayItem_102 : sp_ok R_Mod b_Mod_sayItem 4 k_Mod_sayItem_102 102 = true := by decide +kernel
def k_Mod_sayItem_108 : List sp_I := [(.aload_n 0, 1, 0, 0, 0, 0), (.bipush 10, 2, 0, 0, 10, 0)]
theorem e_Mod_sayItem_108 : sp_ok R_Mod b_Mod_sayItem 4 k_Mod_sayItem_108 108 = true := by decide +kernel
theorem d_Mod_sayItem_4 : decode b_Mod_sayItem 4 = .ok (.invokevirtual 70, 3) := by decide +kernel
theorem d_Mod_sayItem_14 : decode b_Mod_sayItem 14 = .ok (.invokevirtual 70, 3) := by decide +kernel
theorem d_Mod_sayItem_20 : decode b_Mod_sayItem 20 = .ok (.invokevirtual 64, 3) := by decide +kernel
theorem d_Mod_sayItem_30 : decode b_Mod_sayItem 30 = .ok (.invokevirtual 287, 3) := by decide +kernel
theorem d_Mod_sayItem_36 : decode b_Mod_sayItem 36 = .ok (.invokevirtual 64, 3) := by decide +kernel
theorem d_Mod_sayItem_46 : decode b_Mod_sayItem 46 = .ok (.invokevirtual 287, 3) := by decide +kernel
theorem d_Mod_sayItem_56 : decode b_Mod_sayItem 56 = .ok (.invokevirtual 64, 3) := by decide +kernel
theorem d_Mod_sayItem_66 : decode b_Mod_sayItem 66 = .ok (.invokevirtual 287, 3) := by decide +kernel
theorem d_Mod_sayItem_72 : decode b_Mod_sayItem 72 = .ok (.invokevirtual 64, 3) := by decide +kernel
theorem d_Mod_sayItem_99 : decode b_Mod_sayItem 99 = .ok (.invokevirtual 64, 3) := by decide +kernel
theorem d_Mod_sayItem_111 : decode b_Mod_sayItem 111 = .ok (.invokevirtual 64, 3) := by decide +kernel
theorem d_Mod_sayItem_114 : decode b_Mod_sayItem 114 = .ok (.return_, 1) := by decide +kernel
def k_Mod_doGet_0 : List sp_I := [(.iconst 1, 1, 0, 0, 1, 0), (.istore_n 2, 1, 2, 0, 0, 0)]
theorem e_Mod_doGet_0 : sp_ok R_Mod b_Mod_doGet 4 k_Mod_doGet_0 0 = true := by decide +kernel
def k_Mod_doGet_2 : List sp_I := [(.iload_n 2, 1, 2, 0, 0, 0), (.aload_n 0, 1, 0, 0, 0, 0), (.getfield 130, 3, 8, 21, 0, 923), (.if_icmp .ge 57, 3, 64, 0, 0, 0), (.aload_n 0, 1, 0, 0, 0, 0), (.aload_n 0, 1, 0, 0, 0, 0), (.iload_n 2, 1, 2, 0, 0, 0)]
theorem e_Mod_doGet_2 : sp_ok R_Mod b_Mod_doGet 4 k_Mod_doGet_2 2 = true := by decide +kernel
def k_Mod_doGet_19 : List sp_I := [(.istore_n 3, 1, 3, 0, 0, 0), (.iload_n 3, 1, 3, 0, 0, 0), (.ifCond .lt 27, 3, 48, 0, 0, 0), (.aload_n 0, 1, 0, 0, 0, 0), (.dup, 1, 0, 0, 0, 0), (.getfield 290, 3, 8, 19, 0, 921), (.iconst 1, 1, 0, 0, 1, 0), (.iadd, 1, 0, 0, 0, 0), (.putfield 290, 3, 8, 19, 0, 921), (.aload_n 0, 1, 0, 0, 0, 0), (.iload_n 3, 1, 3, 0, 0, 0)]
theorem e_Mod_doGet_19 : sp_ok R_Mod b_Mod_doGet 4 k_Mod_doGet_19 19 = true := by decide +kernel
def k_Mod_doGet_39 : List sp_I := [(.aload_n 0, 1, 0, 0, 0, 0), (.iload_n 3, 1, 3, 0, 0, 0), (.iload_n 1, 1, 1, 0, 0, 0)]
theorem e_Mod_doGet_39 : sp_ok R_Mod b_Mod_doGet 4 k_Mod_doGet_39 39 = true := by decide +kernel
def k_Mod_doGet_45 : List sp_I := [(.goto 13, 3, 58, 0, 0, 0)]
theorem e_Mod_doGet_45 : sp_ok R_Mod b_Mod_doGet 4 k_Mod_doGet_45 45 = true := by decide +kernel
def k_Mod_doGet_48 : List sp_I := [(.aload_n 0, 1, 0, 0, 0, 0), (.dup, 1, 0, 0, 0, 0), (.getfield 296, 3, 8, 20, 0, 922), (.iconst 1, 1, 0, 0, 1, 0), (.iadd, 1, 0, 0, 0, 0), (.putfield 296, 3, 8, 20, 0, 922)]
theorem e_Mod_doGet_48 : sp_ok R_Mod b_Mod_doGet 4 k_Mod_doGet_48 48 = true := by decide +kernel
def k_Mod_doGet_58 : List sp_I := [(.iinc 2 1, 3, 2, 0, 1, 0), (.goto (-59), 3, 2, 0, 0, 0)]
theorem e_Mod_doGet_58 : sp_ok R_Mod b_Mod_doGet 4 k_Mod_doGet_58 58 = true := by decide +kernel
def k_Mod_doGet_64 : List sp_I := [(.aload_n 0, 1, 0, 0, 0, 0), (.ldc2_w 299, 3, 1208, 1, 0, 4542020)]
theorem e_Mod_doGet_64 : sp_ok R_Mod b_Mod_doGet 4 k_Mod_doGet_64 64 = true := by decide +kernel
theorem d_Mod_doGet_13 : decode b_Mod_doGet 13 = .ok (.invokevirtual 142, 3) := by decide +kernel
theorem d_Mod_doGet_16 : decode b_Mod_doGet 16 = .ok (.invokevirtual 235, 3) := by decide +kernel
theorem d_Mod_doGet_36 : decode b_Mod_doGet 36 = .ok (.invokevirtual 247, 3) := by decide +kernel
theorem d_Mod_doGet_42 : decode b_Mod_doGet 42 = .ok (.invokevirtual 293, 3) := by decide +kernel
theorem d_Mod_doGet_68 : decode b_Mod_doGet 68 = .ok (.invokevirtual 70, 3) := by decide +kernel
theorem d_Mod_doGet_71 : decode b_Mod_doGet 71 = .ok (.return_, 1) := by decide +kernel
def k_Mod_doTouch_0 : List sp_I := [(.aload_n 0, 1, 0, 0, 0, 0), (.iconst 2, 1, 0, 0, 2, 0)]
theorem e_Mod_doTouch_0 : sp_ok R_Mod b_Mod_doTouch 3 k_Mod_doTouch_0 0 = true := by decide +kernel
def k_Mod_doTouch_5 : List sp_I := [(.istore_n 2, 1, 2, 0, 0, 0), (.aload_n 0, 1, 0, 0, 0, 0), (.getfield 33, 3, 8, 11, 0, 913), (.iload_n 1, 1, 1, 0, 0, 0), (.aload_n 0, 1, 0, 0, 0, 0), (.iload_n 2, 1, 2, 0, 0, 0)]
theorem e_Mod_doTouch_5 : sp_ok R_Mod b_Mod_doTouch 3 k_Mod_doTouch_5 5 = true := by decide +kernel
def k_Mod_doTouch_16 : List sp_I := [(.iastore, 1, 0, 0, 0, 0), (.aload_n 0, 1, 0, 0, 0, 0), (.iload_n 1, 1, 1, 0, 0, 0)]
theorem e_Mod_doTouch_16 : sp_ok R_Mod b_Mod_doTouch 3 k_Mod_doTouch_16 16 = true := by decide +kernel
def k_Mod_doTouch_22 : List sp_I := [(.aload_n 0, 1, 0, 0, 0, 0), (.iload_n 1, 1, 1, 0, 0, 0), (.iload_n 2, 1, 2, 0, 0, 0), (.bipush (-2), 2, 0, 0, (-2), 0), (.if_icmp .ne 7, 3, 34, 0, 0, 0), (.iconst 1, 1, 0, 0, 1, 0), (.goto 4, 3, 35, 0, 0, 0)]
theorem e_Mod_doTouch_22 : sp_ok R_Mod b_Mod_doTouch 3 k_Mod_doTouch_22 22 = true := by decide +kernel
def k_Mod_doTouch_34 : List sp_I := [(.iconst 0, 1, 0, 0, 0, 0)]
theorem e_Mod_doTouch_34 : sp_ok R_Mod b_Mod_doTouch 3 k_Mod_doTouch_34 34 = true := by decide +kernel
def k_Mod_doTouch_38 : List sp_I := [(.aload_n 0, 1, 0, 0, 0, 0), (.ldc2_w 301, 3, 1219, 1, 0, 23731125663319364)]
theorem e_Mod_doTouch_38 : sp_ok R_Mod b_Mod_doTouch 3 k_Mod_doTouch_38 38 = true := by decide +kernel
theorem d_Mod_doTouch_2 : decode b_Mod_doTouch 2 = .ok (.invokevirtual 193, 3) := by decide +kernel
theorem d_Mod_doTouch_13 : decode b_Mod_doTouch 13 = .ok (.invokevirtual 274, 3) := by decide +kernel
theorem d_Mod_doTouch_19 : decode b_Mod_doTouch 19 = .ok (.invokevirtual 247, 3) := by decide +kernel
theorem d_Mod_doTouch_35 : decode b_Mod_doTouch 35 = .ok (.invokevirtual 281, 3) := by decide +kernel
theorem d_Mod_doTouch_42 : decode b_Mod_doTouch 42 = .ok (.invokevirtual 70, 3) := by decide +kernel
theorem d_Mod_doTouch_45 : decode b_Mod_doTouch 45 = .ok (.return_, 1) := by decide +kernel
def k_Mod_doCount_0 : List sp_I := [(.aload_n 0, 1, 0, 0, 0, 0), (.getfield 24, 3, 8, 8, 0, 910), (.iload_n 1, 1, 1, 0, 0, 0), (.iaload, 1, 0, 0, 0, 0), (.iconst 1, 1, 0, 0, 1, 0), (.if_icmp .lt 14, 3, 21, 0, 0, 0), (.aload_n 0, 1, 0, 0, 0, 0), (.getfield 24, 3, 8, 8, 0, 910), (.iload_n 1, 1, 1, 0, 0, 0), (.iaload, 1, 0, 0, 0, 0), (.bipush 9, 2, 0, 0, 9, 0), (.if_icmp .le 7, 3, 25, 0, 0, 0)]
theorem e_Mod_doCount_0 : sp_ok R_Mod b_Mod_doCount 7 k_Mod_doCount_0 0 = true := by decide +kernel
def k_Mod_doCount_21 : List sp_I := [(.iconst (-1), 1, 0, 0, (-1), 0), (.goto 4, 3, 26, 0, 0, 0)]
theorem e_Mod_doCount_21 : sp_ok R_Mod b_Mod_doCount 7 k_Mod_doCount_21 21 = true := by decide +kernel
def k_Mod_doCount_25 : List sp_I := [(.iconst 0, 1, 0, 0, 0, 0)]
theorem e_Mod_doCount_25 : sp_ok R_Mod b_Mod_doCount 7 k_Mod_doCount_25 25 = true := by decide +kernel
def k_Mod_doCount_26 : List sp_I := [(.istore_n 3, 1, 3, 0, 0, 0), (.iconst 0, 1, 0, 0, 0, 0), (.istore 4, 2, 4, 0, 0, 0)]
theorem e_Mod_doCount_26 : sp_ok R_Mod b_Mod_doCount 7 k_Mod_doCount_26 26 = true := by decide +kernel
def k_Mod_doCount_30 : List sp_I := [(.iload 4, 2, 4, 0, 0, 0), (.aload_n 0, 1, 0, 0, 0, 0), (.getfield 24, 3, 8, 8, 0, 910), (.iload_n 1, 1, 1, 0, 0, 0), (.iaload, 1, 0, 0, 0, 0), (.if_icmp .ge 50, 3, 88, 0, 0, 0), (.iload_n 3, 1, 3, 0, 0, 0), (.ifCond .lt 46, 3, 88, 0, 0, 0), (.aload_n 0, 1, 0, 0, 0, 0), (.getfield 27, 3, 8, 9, 0, 911), (.bipush 64, 2, 0, 0, 64, 0), (.iload_n 1, 1, 1, 0, 0, 0), (.imul, 1, 0, 0, 0, 0), (.iload 4, 2, 4, 0, 0, 0), (.iadd, 1, 0, 0, 0, 0), (.caload, 1, 0, 0, 0, 0), (.istore 5, 2, 5, 0, 0, 0), (.iload 5, 2, 5, 0, 0, 0)]
theorem e_Mod_doCount_30 : sp_ok R_Mod b_Mod_doCount 7 k_Mod_doCount_30 30 = true := by decide +kernel
def k_Mod_doCount_64 : List sp_I := [(.ifCond .eq 16, 3, 80, 0, 0, 0), (.bipush 10, 2, 0, 0, 10, 0), (.iload_n 3, 1, 3, 0, 0, 0), (.imul, 1, 0, 0, 0, 0), (.iload 5, 2, 5, 0, 0, 0), (.iadd, 1, 0, 0, 0, 0), (.bipush 48, 2, 0, 0, 48, 0), (.isub, 1, 0, 0, 0, 0), (.goto 4, 3, 81, 0, 0, 0)]
theorem e_Mod_doCount_64 : sp_ok R_Mod b_Mod_doCount 7 k_Mod_doCount_64 64 = true := by decide +kernel
def k_Mod_doCount_80 : List sp_I := [(.iconst (-1), 1, 0, 0, (-1), 0)]
theorem e_Mod_doCount_80 : sp_ok R_Mod b_Mod_doCount 7 k_Mod_doCount_80 80 = true := by decide +kernel
def k_Mod_doCount_81 : List sp_I := [(.istore_n 3, 1, 3, 0, 0, 0), (.iinc 4 1, 3, 4, 0, 1, 0), (.goto (-55), 3, 30, 0, 0, 0)]
theorem e_Mod_doCount_81 : sp_ok R_Mod b_Mod_doCount 7 k_Mod_doCount_81 81 = true := by decide +kernel
def k_Mod_doCount_88 : List sp_I := [(.iload_n 3, 1, 3, 0, 0, 0), (.ifCond .ge 8, 3, 97, 0, 0, 0), (.aload_n 0, 1, 0, 0, 0, 0)]
theorem e_Mod_doCount_88 : sp_ok R_Mod b_Mod_doCount 7 k_Mod_doCount_88 88 = true := by decide +kernel
def k_Mod_doCount_97 : List sp_I := [(.aload_n 0, 1, 0, 0, 0, 0), (.iconst 2, 1, 0, 0, 2, 0), (.iconst 0, 1, 0, 0, 0, 0)]
theorem e_Mod_doCount_97 : sp_ok R_Mod b_Mod_doCount 7 k_Mod_doCount_97 97 = true := by decide +kernel
def k_Mod_doCount_103 : List sp_I := [(.istore 4, 2, 4, 0, 0, 0), (.iload_n 2, 1, 2, 0, 0, 0), (.ifCond .eq 14, 3, 120, 0, 0, 0), (.iload_n 3, 1, 3, 0, 0, 0), (.iload 4, 2, 4, 0, 0, 0), (.iadd, 1, 0, 0, 0, 0)]
theorem e_Mod_doCount_103 : sp_ok R_Mod b_Mod_doCount 7 k_Mod_doCount_103 103 = true := by decide +kernel
def k_Mod_doCount_116 : List sp_I := [(.irem, 1, 0, 0, 0, 0), (.goto 17, 3, 134, 0, 0, 0)]
theorem e_Mod_doCount_116 : sp_ok R_Mod b_Mod_doCount 7 k_Mod_doCount_116 116 = true := by decide +kernel
def k_Mod_doCount_120 : List sp_I := [(.iload_n 3, 1, 3, 0, 0, 0), (.iload 4, 2, 4, 0, 0, 0), (.if_icmp .ge 7, 3, 130, 0, 0, 0), (.iconst 0, 1, 0, 0, 0, 0), (.goto 7, 3, 134, 0, 0, 0)]
theorem e_Mod_doCount_120 : sp_ok R_Mod b_Mod_doCount 7 k_Mod_doCount_120 120 = true := by decide +kernel
def k_Mod_doCount_130 : List sp_I := [(.iload_n 3, 1, 3, 0, 0, 0), (.iload 4, 2, 4, 0, 0, 0), (.isub, 1, 0, 0, 0, 0)]
theorem e_Mod_doCount_130 : sp_ok R_Mod b_Mod_doCount 7 k_Mod_doCount_130 130 = true := by decide +kernel
def k_Mod_doCount_134 : List sp_I := [(.istore 5, 2, 5, 0, 0, 0), (.aload_n 0, 1, 0, 0, 0, 0), (.iconst 0, 1, 0, 0, 0, 0), (.putfield 222, 3, 8, 25, 0, 927), (.ldc 63, 2, 1207, 1, 100000000, 0), (.istore 6, 2, 6, 0, 0, 0)]
theorem e_Mod_doCount_134 : sp_ok R_Mod b_Mod_doCount 7 k_Mod_doCount_134 134 = true := by decide +kernel
def k_Mod_doCount_145 : List sp_I := [(.iload 6, 2, 6, 0, 0, 0), (.iconst 1, 1, 0, 0, 1, 0), (.if_icmp .le 20, 3, 168, 0, 0, 0), (.iload 5, 2, 5, 0, 0, 0), (.iload 6, 2, 6, 0, 0, 0), (.if_icmp .ge 13, 3, 168, 0, 0, 0), (.iload 6, 2, 6, 0, 0, 0), (.bipush 10, 2, 0, 0, 10, 0), (.idiv, 1, 0, 0, 0, 0), (.istore 6, 2, 6, 0, 0, 0), (.goto (-20), 3, 145, 0, 0, 0)]
theorem e_Mod_doCount_145 : sp_ok R_Mod b_Mod_doCount 7 k_Mod_doCount_145 145 = true := by decide +kernel
def k_Mod_doCount_168 : List sp_I := [(.iload 6, 2, 6, 0, 0, 0), (.ifCond .le 29, 3, 199, 0, 0, 0), (.aload_n 0, 1, 0, 0, 0, 0), (.bipush 48, 2, 0, 0, 48, 0), (.iload 5, 2, 5, 0, 0, 0), (.iload 6, 2, 6, 0, 0, 0), (.idiv, 1, 0, 0, 0, 0), (.bipush 10, 2, 0, 0, 10, 0), (.irem, 1, 0, 0, 0, 0), (.iadd, 1, 0, 0, 0, 0), (.i2c, 1, 0, 0, 0, 0)]
theorem e_Mod_doCount_168 : sp_ok R_Mod b_Mod_doCount 7 k_Mod_doCount_168 168 = true := by decide +kernel
def k_Mod_doCount_189 : List sp_I := [(.iload 6, 2, 6, 0, 0, 0), (.bipush 10, 2, 0, 0, 10, 0), (.idiv, 1, 0, 0, 0, 0), (.istore 6, 2, 6, 0, 0, 0), (.goto (-28), 3, 168, 0, 0, 0)]
theorem e_Mod_doCount_189 : sp_ok R_Mod b_Mod_doCount 7 k_Mod_doCount_189 189 = true := by decide +kernel
def k_Mod_doCount_199 : List sp_I := [(.aload_n 0, 1, 0, 0, 0, 0), (.aload_n 0, 1, 0, 0, 0, 0), (.getfield 16, 3, 8, 6, 0, 908), (.iload_n 1, 1, 1, 0, 0, 0), (.laload, 1, 0, 0, 0, 0), (.aload_n 0, 1, 0, 0, 0, 0), (.getfield 20, 3, 8, 7, 0, 909), (.iload_n 1, 1, 1, 0, 0, 0), (.iaload, 1, 0, 0, 0, 0), (.aload_n 0, 1, 0, 0, 0, 0), (.getfield 33, 3, 8, 11, 0, 913), (.iload_n 1, 1, 1, 0, 0, 0), (.iaload, 1, 0, 0, 0, 0)]
theorem e_Mod_doCount_199 : sp_ok R_Mod b_Mod_doCount 7 k_Mod_doCount_199 199 = true := by decide +kernel
def k_Mod_doCount_221 : List sp_I := [(.ifCond .eq 9, 3, 230, 0, 0, 0), (.aload_n 0, 1, 0, 0, 0, 0), (.iload 5, 2, 5, 0, 0, 0)]
theorem e_Mod_doCount_221 : sp_ok R_Mod b_Mod_doCount 7 k_Mod_doCount_221 221 = true := by decide +kernel
theorem d_Mod_doCount_61 : decode b_Mod_doCount 61 = .ok (.invokestatic 148, 3) := by decide +kernel
theorem d_Mod_doCount_93 : decode b_Mod_doCount 93 = .ok (.invokevirtual 303, 3) := by decide +kernel
theorem d_Mod_doCount_96 : decode b_Mod_doCount 96 = .ok (.return_, 1) := by decide +kernel
theorem d_Mod_doCount_100 : decode b_Mod_doCount 100 = .ok (.invokevirtual 152, 3) := by decide +kernel
theorem d_Mod_doCount_113 : decode b_Mod_doCount 113 = .ok (.ldc_w 306, 3) := by decide +kernel
theorem d_Mod_doCount_186 : decode b_Mod_doCount 186 = .ok (.invokevirtual 253, 3) := by decide +kernel
theorem d_Mod_doCount_218 : decode b_Mod_doCount 218 = .ok (.invokevirtual 277, 3) := by decide +kernel
theorem d_Mod_doCount_227 : decode b_Mod_doCount 227 = .ok (.invokevirtual 287, 3) := by decide +kernel
theorem d_Mod_doCount_230 : decode b_Mod_doCount 230 = .ok (.return_, 1) := by decide +kernel
def k_Mod_doOther_0 : List sp_I := [(.aload_n 0, 1, 0, 0, 0, 0), (.aload_n 0, 1, 0, 0, 0, 0), (.iconst 1, 1, 0, 0, 1, 0)]
theorem e_Mod_doOther_0 : sp_ok R_Mod b_Mod_doOther 3 k_Mod_doOther_0 0 = true := by decide +kernel
def k_Mod_doOther_9 : List sp_I := [(.istore_n 2, 1, 2, 0, 0, 0), (.iload_n 2, 1, 2, 0, 0, 0), (.ifCond .ge 10, 3, 21, 0, 0, 0), (.aload_n 0, 1, 0, 0, 0, 0)]
theorem e_Mod_doOther_9 : sp_ok R_Mod b_Mod_doOther 3 k_Mod_doOther_9 9 = true := by decide +kernel
def k_Mod_doOther_18 : List sp_I := [(.goto 54, 3, 72, 0, 0, 0)]
theorem e_Mod_doOther_18 : sp_ok R_Mod b_Mod_doOther 3 k_Mod_doOther_18 18 = true := by decide +kernel
def k_Mod_doOther_21 : List sp_I := [(.iload_n 1, 1, 1, 0, 0, 0), (.bipush 9, 2, 0, 0, 9, 0), (.if_icmp .ne 18, 3, 42, 0, 0, 0), (.aload_n 0, 1, 0, 0, 0, 0), (.iload_n 2, 1, 2, 0, 0, 0)]
theorem e_Mod_doOther_21 : sp_ok R_Mod b_Mod_doOther 3 k_Mod_doOther_21 21 = true := by decide +kernel
def k_Mod_doOther_32 : List sp_I := [(.aload_n 0, 1, 0, 0, 0, 0), (.ldc2_w 307, 3, 1214, 1, 0, 19216492299306308)]
theorem e_Mod_doOther_32 : sp_ok R_Mod b_Mod_doOther 3 k_Mod_doOther_32 32 = true := by decide +kernel
def k_Mod_doOther_39 : List sp_I := [(.goto 33, 3, 72, 0, 0, 0)]
theorem e_Mod_doOther_39 : sp_ok R_Mod b_Mod_doOther 3 k_Mod_doOther_39 39 = true := by decide +kernel
def k_Mod_doOther_42 : List sp_I := [(.iload_n 1, 1, 1, 0, 0, 0), (.bipush 10, 2, 0, 0, 10, 0), (.if_icmp .ne 11, 3, 56, 0, 0, 0), (.aload_n 0, 1, 0, 0, 0, 0), (.iload_n 2, 1, 2, 0, 0, 0)]
theorem e_Mod_doOther_42 : sp_ok R_Mod b_Mod_doOther 3 k_Mod_doOther_42 42 = true := by decide +kernel
def k_Mod_doOther_53 : List sp_I := [(.goto 19, 3, 72, 0, 0, 0)]
theorem e_Mod_doOther_53 : sp_ok R_Mod b_Mod_doOther 3 k_Mod_doOther_53 53 = true := by decide +kernel
def k_Mod_doOther_56 : List sp_I := [(.aload_n 0, 1, 0, 0, 0, 0), (.iload_n 2, 1, 2, 0, 0, 0), (.iload_n 1, 1, 1, 0, 0, 0), (.bipush 12, 2, 0, 0, 12, 0), (.if_icmp .ne 7, 3, 68, 0, 0, 0), (.iconst 1, 1, 0, 0, 1, 0), (.goto 4, 3, 69, 0, 0, 0)]
theorem e_Mod_doOther_56 : sp_ok R_Mod b_Mod_doOther 3 k_Mod_doOther_56 56 = true := by decide +kernel
def k_Mod_doOther_68 : List sp_I := [(.iconst 0, 1, 0, 0, 0, 0)]
theorem e_Mod_doOther_68 : sp_ok R_Mod b_Mod_doOther 3 k_Mod_doOther_68 68 = true := by decide +kernel
theorem d_Mod_doOther_3 : decode b_Mod_doOther 3 = .ok (.invokevirtual 142, 3) := by decide +kernel
theorem d_Mod_doOther_6 : decode b_Mod_doOther 6 = .ok (.invokevirtual 235, 3) := by decide +kernel
theorem d_Mod_doOther_15 : decode b_Mod_doOther 15 = .ok (.invokevirtual 259, 3) := by decide +kernel
theorem d_Mod_doOther_29 : decode b_Mod_doOther 29 = .ok (.invokevirtual 215, 3) := by decide +kernel
theorem d_Mod_doOther_36 : decode b_Mod_doOther 36 = .ok (.invokevirtual 70, 3) := by decide +kernel
theorem d_Mod_doOther_50 : decode b_Mod_doOther 50 = .ok (.invokevirtual 309, 3) := by decide +kernel
theorem d_Mod_doOther_69 : decode b_Mod_doOther 69 = .ok (.invokevirtual 312, 3) := by decide +kernel
theorem d_Mod_doOther_72 : decode b_Mod_doOther 72 = .ok (.return_, 1) := by decide +kernel
def k_Mod_act_0 : List sp_I := [(.iload_n 1, 1, 1, 0, 0, 0), (.bipush 7, 2, 0, 0, 7, 0), (.if_icmp .eq 75, 3, 78, 0, 0, 0), (.iload_n 1, 1, 1, 0, 0, 0), (.bipush 8, 2, 0, 0, 8, 0), (.if_icmp .eq 69, 3, 78, 0, 0, 0), (.aload_n 0, 1, 0, 0, 0, 0), (.aload_n 0, 1, 0, 0, 0, 0), (.getfield 130, 3, 8, 21, 0, 923), (.iconst 1, 1, 0, 0, 1, 0), (.isub, 1, 0, 0, 0, 0)]
theorem e_Mod_act_0 : sp_ok R_Mod b_Mod_act 3 k_Mod_act_0 0 = true := by decide +kernel
def k_Mod_act_22 : List sp_I := [(.ifCond .eq 56, 3, 78, 0, 0, 0), (.aload_n 0, 1, 0, 0, 0, 0), (.getfield 130, 3, 8, 21, 0, 923), (.iload_n 1, 1, 1, 0, 0, 0), (.bipush 11, 2, 0, 0, 11, 0), (.if_icmp .ne 7, 3, 39, 0, 0, 0), (.iconst 1, 1, 0, 0, 1, 0), (.goto 35, 3, 71, 0, 0, 0)]
theorem e_Mod_act_22 : sp_ok R_Mod b_Mod_act 3 k_Mod_act_22 22 = true := by decide +kernel
def k_Mod_act_39 : List sp_I := [(.iload_n 1, 1, 1, 0, 0, 0), (.bipush 6, 2, 0, 0, 6, 0), (.if_icmp .gt 18, 3, 60, 0, 0, 0), (.iload_n 1, 1, 1, 0, 0, 0), (.bipush 6, 2, 0, 0, 6, 0), (.if_icmp .ne 8, 3, 56, 0, 0, 0), (.bipush 6, 2, 0, 0, 6, 0), (.goto 18, 3, 71, 0, 0, 0)]
theorem e_Mod_act_39 : sp_ok R_Mod b_Mod_act 3 k_Mod_act_39 39 = true := by decide +kernel
def k_Mod_act_56 : List sp_I := [(.iconst 5, 1, 0, 0, 5, 0), (.goto 14, 3, 71, 0, 0, 0)]
theorem e_Mod_act_56 : sp_ok R_Mod b_Mod_act 3 k_Mod_act_56 56 = true := by decide +kernel
def k_Mod_act_60 : List sp_I := [(.iload_n 1, 1, 1, 0, 0, 0), (.bipush 9, 2, 0, 0, 9, 0), (.if_icmp .ne 7, 3, 70, 0, 0, 0), (.iconst 2, 1, 0, 0, 2, 0), (.goto 4, 3, 71, 0, 0, 0)]
theorem e_Mod_act_60 : sp_ok R_Mod b_Mod_act 3 k_Mod_act_60 60 = true := by decide +kernel
def k_Mod_act_70 : List sp_I := [(.iconst 3, 1, 0, 0, 3, 0)]
theorem e_Mod_act_70 : sp_ok R_Mod b_Mod_act 3 k_Mod_act_70 70 = true := by decide +kernel
def k_Mod_act_71 : List sp_I := [(.if_icmp .le 7, 3, 78, 0, 0, 0), (.iconst 1, 1, 0, 0, 1, 0), (.goto 4, 3, 79, 0, 0, 0)]
theorem e_Mod_act_71 : sp_ok R_Mod b_Mod_act 3 k_Mod_act_71 71 = true := by decide +kernel
def k_Mod_act_78 : List sp_I := [(.iconst 0, 1, 0, 0, 0, 0)]
theorem e_Mod_act_78 : sp_ok R_Mod b_Mod_act 3 k_Mod_act_78 78 = true := by decide +kernel
def k_Mod_act_79 : List sp_I := [(.istore_n 2, 1, 2, 0, 0, 0), (.iload_n 1, 1, 1, 0, 0, 0), (.bipush 6, 2, 0, 0, 6, 0), (.if_icmp .gt 11, 3, 94, 0, 0, 0), (.aload_n 0, 1, 0, 0, 0, 0), (.iload_n 1, 1, 1, 0, 0, 0)]
theorem e_Mod_act_79 : sp_ok R_Mod b_Mod_act 3 k_Mod_act_79 79 = true := by decide +kernel
def k_Mod_act_91 : List sp_I := [(.goto 59, 3, 150, 0, 0, 0)]
theorem e_Mod_act_91 : sp_ok R_Mod b_Mod_act 3 k_Mod_act_91 91 = true := by decide +kernel
def k_Mod_act_94 : List sp_I := [(.iload_n 1, 1, 1, 0, 0, 0), (.bipush 7, 2, 0, 0, 7, 0), (.if_icmp .eq 9, 3, 106, 0, 0, 0), (.iload_n 1, 1, 1, 0, 0, 0), (.bipush 8, 2, 0, 0, 8, 0), (.if_icmp .ne 21, 3, 124, 0, 0, 0)]
theorem e_Mod_act_94 : sp_ok R_Mod b_Mod_act 3 k_Mod_act_94 94 = true := by decide +kernel
def k_Mod_act_106 : List sp_I := [(.aload_n 0, 1, 0, 0, 0, 0), (.iload_n 1, 1, 1, 0, 0, 0), (.bipush 8, 2, 0, 0, 8, 0), (.if_icmp .ne 7, 3, 117, 0, 0, 0), (.iconst 1, 1, 0, 0, 1, 0), (.goto 4, 3, 118, 0, 0, 0)]
theorem e_Mod_act_106 : sp_ok R_Mod b_Mod_act 3 k_Mod_act_106 106 = true := by decide +kernel
def k_Mod_act_117 : List sp_I := [(.iconst 0, 1, 0, 0, 0, 0)]
theorem e_Mod_act_117 : sp_ok R_Mod b_Mod_act 3 k_Mod_act_117 117 = true := by decide +kernel
def k_Mod_act_121 : List sp_I := [(.goto 29, 3, 150, 0, 0, 0)]
theorem e_Mod_act_121 : sp_ok R_Mod b_Mod_act 3 k_Mod_act_121 121 = true := by decide +kernel
def k_Mod_act_124 : List sp_I := [(.iload_n 1, 1, 1, 0, 0, 0), (.bipush 11, 2, 0, 0, 11, 0), (.if_icmp .ne 18, 3, 145, 0, 0, 0), (.aload_n 0, 1, 0, 0, 0, 0), (.iconst 0, 1, 0, 0, 0, 0), (.putfield 196, 3, 8, 5, 0, 907), (.aload_n 0, 1, 0, 0, 0, 0), (.ldc2_w 321, 3, 1209, 1, 0, 20299)]
theorem e_Mod_act_124 : sp_ok R_Mod b_Mod_act 3 k_Mod_act_124 124 = true := by decide +kernel
def k_Mod_act_142 : List sp_I := [(.goto 8, 3, 150, 0, 0, 0)]
theorem e_Mod_act_142 : sp_ok R_Mod b_Mod_act 3 k_Mod_act_142 142 = true := by decide +kernel
def k_Mod_act_145 : List sp_I := [(.aload_n 0, 1, 0, 0, 0, 0), (.iload_n 1, 1, 1, 0, 0, 0)]
theorem e_Mod_act_145 : sp_ok R_Mod b_Mod_act 3 k_Mod_act_145 145 = true := by decide +kernel
def k_Mod_act_150 : List sp_I := [(.aload_n 0, 1, 0, 0, 0, 0), (.iload_n 2, 1, 2, 0, 0, 0), (.ifCond .eq 7, 3, 159, 0, 0, 0), (.iconst 0, 1, 0, 0, 0, 0), (.goto 7, 3, 163, 0, 0, 0)]
theorem e_Mod_act_150 : sp_ok R_Mod b_Mod_act 3 k_Mod_act_150 150 = true := by decide +kernel
def k_Mod_act_159 : List sp_I := [(.aload_n 0, 1, 0, 0, 0, 0), (.getfield 60, 3, 8, 3, 0, 905)]
theorem e_Mod_act_159 : sp_ok R_Mod b_Mod_act 3 k_Mod_act_159 159 = true := by decide +kernel
def k_Mod_act_163 : List sp_I := [(.putfield 60, 3, 8, 3, 0, 905)]
theorem e_Mod_act_163 : sp_ok R_Mod b_Mod_act 3 k_Mod_act_163 163 = true := by decide +kernel
theorem d_Mod_act_19 : decode b_Mod_act 19 = .ok (.invokevirtual 186, 3) := by decide +kernel
theorem d_Mod_act_88 : decode b_Mod_act 88 = .ok (.invokevirtual 315, 3) := by decide +kernel
theorem d_Mod_act_118 : decode b_Mod_act 118 = .ok (.invokevirtual 318, 3) := by decide +kernel
theorem d_Mod_act_139 : decode b_Mod_act 139 = .ok (.invokevirtual 70, 3) := by decide +kernel
theorem d_Mod_act_147 : decode b_Mod_act 147 = .ok (.invokevirtual 323, 3) := by decide +kernel
theorem d_Mod_act_166 : decode b_Mod_act 166 = .ok (.return_, 1) := by decide +kernel
def k_Mod_send_0 : List sp_I := [(.aload_n 0, 1, 0, 0, 0, 0), (.iconst 0, 1, 0, 0, 0, 0), (.putfield 51, 3, 8, 0, 0, 902), (.aload_n 0, 1, 0, 0, 0, 0), (.iconst 0, 1, 0, 0, 0, 0), (.putfield 60, 3, 8, 3, 0, 905), (.aload_n 0, 1, 0, 0, 0, 0)]
theorem e_Mod_send_0 : sp_ok R_Mod b_Mod_send 3 k_Mod_send_0 0 = true := by decide +kernel
def k_Mod_send_14 : List sp_I := [(.aload_n 0, 1, 0, 0, 0, 0)]
theorem e_Mod_send_14 : sp_ok R_Mod b_Mod_send 3 k_Mod_send_14 14 = true := by decide +kernel
def k_Mod_send_18 : List sp_I := [(.istore_n 1, 1, 1, 0, 0, 0), (.aload_n 0, 1, 0, 0, 0, 0), (.getfield 133, 3, 8, 24, 0, 926), (.aload_n 0, 1, 0, 0, 0, 0), (.getfield 57, 3, 8, 1, 0, 903), (.if_icmp .ge 7, 3, 34, 0, 0, 0), (.iconst 1, 1, 0, 0, 1, 0), (.goto 4, 3, 35, 0, 0, 0)]
theorem e_Mod_send_18 : sp_ok R_Mod b_Mod_send 3 k_Mod_send_18 18 = true := by decide +kernel
def k_Mod_send_34 : List sp_I := [(.iconst 0, 1, 0, 0, 0, 0)]
theorem e_Mod_send_34 : sp_ok R_Mod b_Mod_send 3 k_Mod_send_34 34 = true := by decide +kernel
def k_Mod_send_35 : List sp_I := [(.istore_n 2, 1, 2, 0, 0, 0), (.iload_n 1, 1, 1, 0, 0, 0), (.ifCond .ne 10, 3, 47, 0, 0, 0), (.aload_n 0, 1, 0, 0, 0, 0)]
theorem e_Mod_send_35 : sp_ok R_Mod b_Mod_send 3 k_Mod_send_35 35 = true := by decide +kernel
def k_Mod_send_44 : List sp_I := [(.goto 67, 3, 111, 0, 0, 0)]
theorem e_Mod_send_44 : sp_ok R_Mod b_Mod_send 3 k_Mod_send_44 44 = true := by decide +kernel
def k_Mod_send_47 : List sp_I := [(.aload_n 0, 1, 0, 0, 0, 0), (.iload_n 1, 1, 1, 0, 0, 0)]
theorem e_Mod_send_47 : sp_ok R_Mod b_Mod_send 3 k_Mod_send_47 47 = true := by decide +kernel
def k_Mod_send_52 : List sp_I := [(.ifCond .ne 10, 3, 62, 0, 0, 0), (.aload_n 0, 1, 0, 0, 0, 0)]
theorem e_Mod_send_52 : sp_ok R_Mod b_Mod_send 3 k_Mod_send_52 52 = true := by decide +kernel
def k_Mod_send_59 : List sp_I := [(.goto 52, 3, 111, 0, 0, 0)]
theorem e_Mod_send_59 : sp_ok R_Mod b_Mod_send 3 k_Mod_send_59 59 = true := by decide +kernel
def k_Mod_send_62 : List sp_I := [(.iload_n 1, 1, 1, 0, 0, 0), (.bipush 6, 2, 0, 0, 6, 0), (.if_icmp .gt 30, 3, 95, 0, 0, 0), (.iload_n 2, 1, 2, 0, 0, 0), (.ifCond .eq 30, 3, 99, 0, 0, 0), (.aload_n 0, 1, 0, 0, 0, 0), (.getfield 57, 3, 8, 1, 0, 903), (.aload_n 0, 1, 0, 0, 0, 0), (.getfield 133, 3, 8, 24, 0, 926), (.isub, 1, 0, 0, 0, 0), (.iconst 1, 1, 0, 0, 1, 0), (.isub, 1, 0, 0, 0, 0), (.aload_n 0, 1, 0, 0, 0, 0), (.iconst 4, 1, 0, 0, 4, 0), (.iconst 0, 1, 0, 0, 0, 0)]
theorem e_Mod_send_62 : sp_ok R_Mod b_Mod_send 3 k_Mod_send_62 62 = true := by decide +kernel
def k_Mod_send_89 : List sp_I := [(.if_icmp .eq 17, 3, 106, 0, 0, 0), (.goto 7, 3, 99, 0, 0, 0)]
theorem e_Mod_send_89 : sp_ok R_Mod b_Mod_send 3 k_Mod_send_89 89 = true := by decide +kernel
def k_Mod_send_95 : List sp_I := [(.iload_n 2, 1, 2, 0, 0, 0), (.ifCond .eq 10, 3, 106, 0, 0, 0)]
theorem e_Mod_send_95 : sp_ok R_Mod b_Mod_send 3 k_Mod_send_95 95 = true := by decide +kernel
def k_Mod_send_99 : List sp_I := [(.aload_n 0, 1, 0, 0, 0, 0)]
theorem e_Mod_send_99 : sp_ok R_Mod b_Mod_send 3 k_Mod_send_99 99 = true := by decide +kernel
def k_Mod_send_103 : List sp_I := [(.goto 8, 3, 111, 0, 0, 0)]
theorem e_Mod_send_103 : sp_ok R_Mod b_Mod_send 3 k_Mod_send_103 103 = true := by decide +kernel
def k_Mod_send_106 : List sp_I := [(.aload_n 0, 1, 0, 0, 0, 0), (.iload_n 1, 1, 1, 0, 0, 0)]
theorem e_Mod_send_106 : sp_ok R_Mod b_Mod_send 3 k_Mod_send_106 106 = true := by decide +kernel
def k_Mod_send_111 : List sp_I := [(.aload_n 0, 1, 0, 0, 0, 0), (.iconst 0, 1, 0, 0, 0, 0), (.putfield 57, 3, 8, 1, 0, 903), (.aload_n 0, 1, 0, 0, 0, 0), (.getfield 60, 3, 8, 3, 0, 905)]
theorem e_Mod_send_111 : sp_ok R_Mod b_Mod_send 3 k_Mod_send_111 111 = true := by decide +kernel
theorem d_Mod_send_11 : decode b_Mod_send 11 = .ok (.invokevirtual 326, 3) := by decide +kernel
theorem d_Mod_send_15 : decode b_Mod_send 15 = .ok (.invokevirtual 329, 3) := by decide +kernel
theorem d_Mod_send_41 : decode b_Mod_send 41 = .ok (.invokevirtual 332, 3) := by decide +kernel
theorem d_Mod_send_49 : decode b_Mod_send 49 = .ok (.invokevirtual 335, 3) := by decide +kernel
theorem d_Mod_send_56 : decode b_Mod_send 56 = .ok (.invokevirtual 338, 3) := by decide +kernel
theorem d_Mod_send_86 : decode b_Mod_send 86 = .ok (.invokevirtual 152, 3) := by decide +kernel
theorem d_Mod_send_100 : decode b_Mod_send 100 = .ok (.invokevirtual 341, 3) := by decide +kernel
theorem d_Mod_send_108 : decode b_Mod_send 108 = .ok (.invokevirtual 344, 3) := by decide +kernel
theorem d_Mod_send_120 : decode b_Mod_send 120 = .ok (.ireturn, 1) := by decide +kernel
def k_Mod_reply_0 : List sp_I := [(.aload_n 0, 1, 0, 0, 0, 0), (.iload_n 1, 1, 1, 0, 0, 0), (.ifCond .lt 11, 3, 13, 0, 0, 0), (.iload_n 1, 1, 1, 0, 0, 0), (.aload_n 0, 1, 0, 0, 0, 0), (.getfield 60, 3, 8, 3, 0, 905), (.if_icmp .lt 7, 3, 17, 0, 0, 0)]
theorem e_Mod_reply_0 : sp_ok R_Mod b_Mod_reply 2 k_Mod_reply_0 0 = true := by decide +kernel
def k_Mod_reply_13 : List sp_I := [(.iconst 1, 1, 0, 0, 1, 0), (.goto 4, 3, 18, 0, 0, 0)]
theorem e_Mod_reply_13 : sp_ok R_Mod b_Mod_reply 2 k_Mod_reply_13 13 = true := by decide +kernel
def k_Mod_reply_17 : List sp_I := [(.iconst 0, 1, 0, 0, 0, 0)]
theorem e_Mod_reply_17 : sp_ok R_Mod b_Mod_reply 2 k_Mod_reply_17 17 = true := by decide +kernel
def k_Mod_reply_18 : List sp_I := [(.putfield 51, 3, 8, 0, 0, 902), (.aload_n 0, 1, 0, 0, 0, 0), (.getfield 51, 3, 8, 0, 0, 902), (.ifCond .ne 12, 3, 37, 0, 0, 0), (.aload_n 0, 1, 0, 0, 0, 0), (.getfield 13, 3, 8, 4, 0, 906), (.iload_n 1, 1, 1, 0, 0, 0), (.caload, 1, 0, 0, 0, 0), (.goto 4, 3, 38, 0, 0, 0)]
theorem e_Mod_reply_18 : sp_ok R_Mod b_Mod_reply 2 k_Mod_reply_18 18 = true := by decide +kernel
def k_Mod_reply_37 : List sp_I := [(.iconst 0, 1, 0, 0, 0, 0)]
theorem e_Mod_reply_37 : sp_ok R_Mod b_Mod_reply 2 k_Mod_reply_37 37 = true := by decide +kernel
theorem d_Mod_reply_38 : decode b_Mod_reply 38 = .ok (.ireturn, 1) := by decide +kernel
def k_Mod_tick_0 : List sp_I := [(.aload_n 0, 1, 0, 0, 0, 0), (.iload_n 1, 1, 1, 0, 0, 0), (.ifCond .lt 10, 3, 12, 0, 0, 0), (.iload_n 1, 1, 1, 0, 0, 0)]
theorem e_Mod_tick_0 : sp_ok R_Mod b_Mod_tick 3 k_Mod_tick_0 0 = true := by decide +kernel
def k_Mod_tick_9 : List sp_I := [(.if_icmp .le 7, 3, 16, 0, 0, 0)]
theorem e_Mod_tick_9 : sp_ok R_Mod b_Mod_tick 3 k_Mod_tick_9 9 = true := by decide +kernel
def k_Mod_tick_12 : List sp_I := [(.iconst 1, 1, 0, 0, 1, 0), (.goto 4, 3, 17, 0, 0, 0)]
theorem e_Mod_tick_12 : sp_ok R_Mod b_Mod_tick 3 k_Mod_tick_12 12 = true := by decide +kernel
def k_Mod_tick_16 : List sp_I := [(.iconst 0, 1, 0, 0, 0, 0)]
theorem e_Mod_tick_16 : sp_ok R_Mod b_Mod_tick 3 k_Mod_tick_16 16 = true := by decide +kernel
def k_Mod_tick_17 : List sp_I := [(.putfield 51, 3, 8, 0, 0, 902), (.aload_n 0, 1, 0, 0, 0, 0), (.getfield 51, 3, 8, 0, 0, 902), (.ifCond .le 4, 3, 28, 0, 0, 0)]
theorem e_Mod_tick_17 : sp_ok R_Mod b_Mod_tick 3 k_Mod_tick_17 17 = true := by decide +kernel
def k_Mod_tick_28 : List sp_I := [(.aload_n 0, 1, 0, 0, 0, 0), (.dup, 1, 0, 0, 0, 0), (.getfield 256, 3, 8, 14, 0, 916), (.iload_n 1, 1, 1, 0, 0, 0), (.iadd, 1, 0, 0, 0, 0), (.putfield 256, 3, 8, 14, 0, 916), (.aload_n 0, 1, 0, 0, 0, 0), (.getfield 196, 3, 8, 5, 0, 907), (.iconst 1, 1, 0, 0, 1, 0), (.isub, 1, 0, 0, 0, 0), (.istore_n 2, 1, 2, 0, 0, 0)]
theorem e_Mod_tick_28 : sp_ok R_Mod b_Mod_tick 3 k_Mod_tick_28 28 = true := by decide +kernel
def k_Mod_tick_45 : List sp_I := [(.iload_n 2, 1, 2, 0, 0, 0), (.ifCond .lt 41, 3, 87, 0, 0, 0), (.aload_n 0, 1, 0, 0, 0, 0), (.iload_n 2, 1, 2, 0, 0, 0), (.aload_n 0, 1, 0, 0, 0, 0), (.getfield 33, 3, 8, 11, 0, 913), (.iload_n 2, 1, 2, 0, 0, 0), (.iaload, 1, 0, 0, 0, 0), (.ifCond .le 20, 3, 77, 0, 0, 0), (.aload_n 0, 1, 0, 0, 0, 0), (.getfield 33, 3, 8, 11, 0, 913), (.iload_n 2, 1, 2, 0, 0, 0), (.iaload, 1, 0, 0, 0, 0), (.aload_n 0, 1, 0, 0, 0, 0), (.getfield 256, 3, 8, 14, 0, 916), (.if_icmp .gt 7, 3, 77, 0, 0, 0), (.iconst 1, 1, 0, 0, 1, 0), (.goto 4, 3, 78, 0, 0, 0)]
theorem e_Mod_tick_45 : sp_ok R_Mod b_Mod_tick 3 k_Mod_tick_45 45 = true := by decide +kernel
def k_Mod_tick_77 : List sp_I := [(.iconst 0, 1, 0, 0, 0, 0)]
theorem e_Mod_tick_77 : sp_ok R_Mod b_Mod_tick 3 k_Mod_tick_77 77 = true := by decide +kernel
def k_Mod_tick_81 : List sp_I := [(.iinc 2 (-1), 3, 2, 0, (-1), 0), (.goto (-39), 3, 45, 0, 0, 0)]
theorem e_Mod_tick_81 : sp_ok R_Mod b_Mod_tick 3 k_Mod_tick_81 81 = true := by decide +kernel
theorem d_Mod_tick_6 : decode b_Mod_tick 6 = .ok (.ldc_w 347, 3) := by decide +kernel
theorem d_Mod_tick_27 : decode b_Mod_tick 27 = .ok (.return_, 1) := by decide +kernel
theorem d_Mod_tick_78 : decode b_Mod_tick 78 = .ok (.invokevirtual 281, 3) := by decide +kernel
theorem d_Mod_tick_87 : decode b_Mod_tick 87 = .ok (.return_, 1) := by decide +kernel
def k_Mod_slab_0 : List sp_I := [(.aload_n 0, 1, 0, 0, 0, 0), (.iload_n 1, 1, 1, 0, 0, 0), (.ifCond .lt 17, 3, 19, 0, 0, 0), (.iload_n 1, 1, 1, 0, 0, 0), (.iconst 3, 1, 0, 0, 3, 0), (.if_icmp .gt 12, 3, 19, 0, 0, 0), (.iload_n 2, 1, 2, 0, 0, 0), (.ifCond .lt 8, 3, 19, 0, 0, 0), (.iload_n 2, 1, 2, 0, 0, 0), (.iconst 2, 1, 0, 0, 2, 0), (.if_icmp .le 7, 3, 23, 0, 0, 0)]
theorem e_Mod_slab_0 : sp_ok R_Mod b_Mod_slab 3 k_Mod_slab_0 0 = true := by decide +kernel
def k_Mod_slab_19 : List sp_I := [(.iconst 1, 1, 0, 0, 1, 0), (.goto 4, 3, 24, 0, 0, 0)]
theorem e_Mod_slab_19 : sp_ok R_Mod b_Mod_slab 3 k_Mod_slab_19 19 = true := by decide +kernel
def k_Mod_slab_23 : List sp_I := [(.iconst 0, 1, 0, 0, 0, 0)]
theorem e_Mod_slab_23 : sp_ok R_Mod b_Mod_slab 3 k_Mod_slab_23 23 = true := by decide +kernel
def k_Mod_slab_24 : List sp_I := [(.putfield 51, 3, 8, 0, 0, 902), (.aload_n 0, 1, 0, 0, 0, 0), (.getfield 51, 3, 8, 0, 0, 902), (.ifCond .le 7, 3, 38, 0, 0, 0), (.iconst 0, 1, 0, 0, 0, 0), (.goto 34, 3, 69, 0, 0, 0)]
theorem e_Mod_slab_24 : sp_ok R_Mod b_Mod_slab 3 k_Mod_slab_24 24 = true := by decide +kernel
def k_Mod_slab_38 : List sp_I := [(.iload_n 2, 1, 2, 0, 0, 0), (.ifCond .ne 12, 3, 51, 0, 0, 0), (.aload_n 0, 1, 0, 0, 0, 0), (.getfield 39, 3, 8, 13, 0, 915), (.iload_n 1, 1, 1, 0, 0, 0), (.iaload, 1, 0, 0, 0, 0), (.goto 21, 3, 69, 0, 0, 0)]
theorem e_Mod_slab_38 : sp_ok R_Mod b_Mod_slab 3 k_Mod_slab_38 38 = true := by decide +kernel
def k_Mod_slab_51 : List sp_I := [(.iload_n 2, 1, 2, 0, 0, 0), (.iconst 1, 1, 0, 0, 1, 0), (.if_icmp .ne 11, 3, 64, 0, 0, 0), (.aload_n 0, 1, 0, 0, 0, 0), (.iload_n 1, 1, 1, 0, 0, 0)]
theorem e_Mod_slab_51 : sp_ok R_Mod b_Mod_slab 3 k_Mod_slab_51 51 = true := by decide +kernel
def k_Mod_slab_61 : List sp_I := [(.goto 8, 3, 69, 0, 0, 0)]
theorem e_Mod_slab_61 : sp_ok R_Mod b_Mod_slab 3 k_Mod_slab_61 61 = true := by decide +kernel
def k_Mod_slab_64 : List sp_I := [(.aload_n 0, 1, 0, 0, 0, 0), (.iload_n 1, 1, 1, 0, 0, 0)]
theorem e_Mod_slab_64 : sp_ok R_Mod b_Mod_slab 3 k_Mod_slab_64 64 = true := by decide +kernel
theorem d_Mod_slab_58 : decode b_Mod_slab 58 = .ok (.invokevirtual 209, 3) := by decide +kernel
theorem d_Mod_slab_66 : decode b_Mod_slab 66 = .ok (.invokevirtual 238, 3) := by decide +kernel
theorem d_Mod_slab_69 : decode b_Mod_slab 69 = .ok (.ireturn, 1) := by decide +kernel
def k_Mod_order_0 : List sp_I := [(.aload_n 0, 1, 0, 0, 0, 0), (.iload_n 1, 1, 1, 0, 0, 0), (.ifCond .lt 8, 3, 10, 0, 0, 0), (.iload_n 1, 1, 1, 0, 0, 0), (.iconst 3, 1, 0, 0, 3, 0), (.if_icmp .le 7, 3, 14, 0, 0, 0)]
theorem e_Mod_order_0 : sp_ok R_Mod b_Mod_order 6 k_Mod_order_0 0 = true := by decide +kernel
def k_Mod_order_10 : List sp_I := [(.iconst 1, 1, 0, 0, 1, 0), (.goto 4, 3, 15, 0, 0, 0)]
theorem e_Mod_order_10 : sp_ok R_Mod b_Mod_order 6 k_Mod_order_10 10 = true := by decide +kernel
def k_Mod_order_14 : List sp_I := [(.iconst 0, 1, 0, 0, 0, 0)]
theorem e_Mod_order_14 : sp_ok R_Mod b_Mod_order 6 k_Mod_order_14 14 = true := by decide +kernel
def k_Mod_order_15 : List sp_I := [(.putfield 51, 3, 8, 0, 0, 902), (.aload_n 0, 1, 0, 0, 0, 0), (.getfield 51, 3, 8, 0, 0, 902), (.ifCond .le 5, 3, 27, 0, 0, 0), (.iconst 0, 1, 0, 0, 0, 0)]
theorem e_Mod_order_15 : sp_ok R_Mod b_Mod_order 6 k_Mod_order_15 15 = true := by decide +kernel
def k_Mod_order_27 : List sp_I := [(.iconst 0, 1, 0, 0, 0, 0), (.istore_n 3, 1, 3, 0, 0, 0)]
theorem e_Mod_order_27 : sp_ok R_Mod b_Mod_order 6 k_Mod_order_27 27 = true := by decide +kernel
def k_Mod_order_29 : List sp_I := [(.iload_n 3, 1, 3, 0, 0, 0), (.aload_n 0, 1, 0, 0, 0, 0), (.getfield 196, 3, 8, 5, 0, 907), (.if_icmp .ge 88, 3, 122, 0, 0, 0), (.iconst 0, 1, 0, 0, 0, 0), (.istore 4, 2, 4, 0, 0, 0), (.iconst 0, 1, 0, 0, 0, 0), (.istore 5, 2, 5, 0, 0, 0)]
theorem e_Mod_order_29 : sp_ok R_Mod b_Mod_order 6 k_Mod_order_29 29 = true := by decide +kernel
def k_Mod_order_43 : List sp_I := [(.iload 5, 2, 5, 0, 0, 0), (.aload_n 0, 1, 0, 0, 0, 0), (.getfield 196, 3, 8, 5, 0, 907), (.if_icmp .ge 45, 3, 94, 0, 0, 0), (.iload 4, 2, 4, 0, 0, 0), (.aload_n 0, 1, 0, 0, 0, 0), (.iload 5, 2, 5, 0, 0, 0)]
theorem e_Mod_order_43 : sp_ok R_Mod b_Mod_order 6 k_Mod_order_43 43 = true := by decide +kernel
def k_Mod_order_60 : List sp_I := [(.iload_n 1, 1, 1, 0, 0, 0), (.if_icmp .ne 23, 3, 84, 0, 0, 0), (.aload_n 0, 1, 0, 0, 0, 0), (.getfield 36, 3, 8, 12, 0, 914), (.iload 5, 2, 5, 0, 0, 0), (.iaload, 1, 0, 0, 0, 0), (.aload_n 0, 1, 0, 0, 0, 0), (.getfield 36, 3, 8, 12, 0, 914), (.iload_n 3, 1, 3, 0, 0, 0), (.iaload, 1, 0, 0, 0, 0), (.if_icmp .le 7, 3, 84, 0, 0, 0), (.iconst 1, 1, 0, 0, 1, 0), (.goto 4, 3, 85, 0, 0, 0)]
theorem e_Mod_order_60 : sp_ok R_Mod b_Mod_order 6 k_Mod_order_60 60 = true := by decide +kernel
def k_Mod_order_84 : List sp_I := [(.iconst 0, 1, 0, 0, 0, 0)]
theorem e_Mod_order_84 : sp_ok R_Mod b_Mod_order 6 k_Mod_order_84 84 = true := by decide +kernel
def k_Mod_order_85 : List sp_I := [(.iadd, 1, 0, 0, 0, 0), (.istore 4, 2, 4, 0, 0, 0), (.iinc 5 1, 3, 5, 0, 1, 0), (.goto (-48), 3, 43, 0, 0, 0)]
theorem e_Mod_order_85 : sp_ok R_Mod b_Mod_order 6 k_Mod_order_85 85 = true := by decide +kernel
def k_Mod_order_94 : List sp_I := [(.aload_n 0, 1, 0, 0, 0, 0), (.iload_n 3, 1, 3, 0, 0, 0)]
theorem e_Mod_order_94 : sp_ok R_Mod b_Mod_order 6 k_Mod_order_94 94 = true := by decide +kernel
def k_Mod_order_99 : List sp_I := [(.iload_n 1, 1, 1, 0, 0, 0), (.if_icmp .ne 16, 3, 116, 0, 0, 0), (.iload 4, 2, 4, 0, 0, 0), (.iload_n 2, 1, 2, 0, 0, 0), (.if_icmp .ne 10, 3, 116, 0, 0, 0), (.aload_n 0, 1, 0, 0, 0, 0), (.getfield 30, 3, 8, 10, 0, 912), (.iload_n 3, 1, 3, 0, 0, 0), (.iaload, 1, 0, 0, 0, 0)]
theorem e_Mod_order_99 : sp_ok R_Mod b_Mod_order 6 k_Mod_order_99 99 = true := by decide +kernel
def k_Mod_order_116 : List sp_I := [(.iinc 3 1, 3, 3, 0, 1, 0), (.goto (-90), 3, 29, 0, 0, 0)]
theorem e_Mod_order_116 : sp_ok R_Mod b_Mod_order 6 k_Mod_order_116 116 = true := by decide +kernel
def k_Mod_order_122 : List sp_I := [(.aload_n 0, 1, 0, 0, 0, 0), (.iconst 2, 1, 0, 0, 2, 0), (.putfield 51, 3, 8, 0, 0, 902), (.iconst 0, 1, 0, 0, 0, 0)]
theorem e_Mod_order_122 : sp_ok R_Mod b_Mod_order 6 k_Mod_order_122 122 = true := by decide +kernel
theorem d_Mod_order_26 : decode b_Mod_order 26 = .ok (.ireturn, 1) := by decide +kernel
theorem d_Mod_order_57 : decode b_Mod_order 57 = .ok (.invokevirtual 206, 3) := by decide +kernel
theorem d_Mod_order_96 : decode b_Mod_order 96 = .ok (.invokevirtual 206, 3) := by decide +kernel
theorem d_Mod_order_115 : decode b_Mod_order 115 = .ok (.ireturn, 1) := by decide +kernel
theorem d_Mod_order_128 : decode b_Mod_order 128 = .ok (.ireturn, 1) := by decide +kernel
def k_Mod_figure_0 : List sp_I := [(.aload_n 0, 1, 0, 0, 0, 0), (.iload_n 1, 1, 1, 0, 0, 0), (.ifCond .lt 9, 3, 11, 0, 0, 0), (.iload_n 1, 1, 1, 0, 0, 0), (.bipush 8, 2, 0, 0, 8, 0), (.if_icmp .le 7, 3, 15, 0, 0, 0)]
theorem e_Mod_figure_0 : sp_ok R_Mod b_Mod_figure 2 k_Mod_figure_0 0 = true := by decide +kernel
def k_Mod_figure_11 : List sp_I := [(.iconst 1, 1, 0, 0, 1, 0), (.goto 4, 3, 16, 0, 0, 0)]
theorem e_Mod_figure_11 : sp_ok R_Mod b_Mod_figure 2 k_Mod_figure_11 11 = true := by decide +kernel
def k_Mod_figure_15 : List sp_I := [(.iconst 0, 1, 0, 0, 0, 0)]
theorem e_Mod_figure_15 : sp_ok R_Mod b_Mod_figure 2 k_Mod_figure_15 15 = true := by decide +kernel
def k_Mod_figure_16 : List sp_I := [(.putfield 51, 3, 8, 0, 0, 902), (.iload_n 1, 1, 1, 0, 0, 0)]
theorem e_Mod_figure_16 : sp_ok R_Mod b_Mod_figure 2 k_Mod_figure_16 16 = true := by decide +kernel
def k_Mod_figure_72 : List sp_I := [(.aload_n 0, 1, 0, 0, 0, 0), (.getfield 196, 3, 8, 5, 0, 907)]
theorem e_Mod_figure_72 : sp_ok R_Mod b_Mod_figure 2 k_Mod_figure_72 72 = true := by decide +kernel
def k_Mod_figure_77 : List sp_I := [(.aload_n 0, 1, 0, 0, 0, 0)]
theorem e_Mod_figure_77 : sp_ok R_Mod b_Mod_figure 2 k_Mod_figure_77 77 = true := by decide +kernel
def k_Mod_figure_82 : List sp_I := [(.aload_n 0, 1, 0, 0, 0, 0), (.getfield 256, 3, 8, 14, 0, 916)]
theorem e_Mod_figure_82 : sp_ok R_Mod b_Mod_figure 2 k_Mod_figure_82 82 = true := by decide +kernel
def k_Mod_figure_87 : List sp_I := [(.aload_n 0, 1, 0, 0, 0, 0), (.getfield 244, 3, 8, 15, 0, 917)]
theorem e_Mod_figure_87 : sp_ok R_Mod b_Mod_figure 2 k_Mod_figure_87 87 = true := by decide +kernel
def k_Mod_figure_92 : List sp_I := [(.aload_n 0, 1, 0, 0, 0, 0), (.getfield 219, 3, 8, 17, 0, 919)]
theorem e_Mod_figure_92 : sp_ok R_Mod b_Mod_figure 2 k_Mod_figure_92 92 = true := by decide +kernel
def k_Mod_figure_97 : List sp_I := [(.aload_n 0, 1, 0, 0, 0, 0), (.getfield 250, 3, 8, 18, 0, 920)]
theorem e_Mod_figure_97 : sp_ok R_Mod b_Mod_figure 2 k_Mod_figure_97 97 = true := by decide +kernel
def k_Mod_figure_102 : List sp_I := [(.aload_n 0, 1, 0, 0, 0, 0), (.getfield 290, 3, 8, 19, 0, 921)]
theorem e_Mod_figure_102 : sp_ok R_Mod b_Mod_figure 2 k_Mod_figure_102 102 = true := by decide +kernel
def k_Mod_figure_107 : List sp_I := [(.aload_n 0, 1, 0, 0, 0, 0), (.getfield 296, 3, 8, 20, 0, 922)]
theorem e_Mod_figure_107 : sp_ok R_Mod b_Mod_figure 2 k_Mod_figure_107 107 = true := by decide +kernel
def k_Mod_figure_112 : List sp_I := [(.aload_n 0, 1, 0, 0, 0, 0), (.getfield 57, 3, 8, 1, 0, 903)]
theorem e_Mod_figure_112 : sp_ok R_Mod b_Mod_figure 2 k_Mod_figure_112 112 = true := by decide +kernel
def k_Mod_figure_117 : List sp_I := [(.iconst 0, 1, 0, 0, 0, 0)]
theorem e_Mod_figure_117 : sp_ok R_Mod b_Mod_figure 2 k_Mod_figure_117 117 = true := by decide +kernel
theorem d_Mod_figure_20 : decode b_Mod_figure 20 = .ok (.tableswitch 97 0 8 #[52, 57, 62, 67, 72, 77, 82, 87, 92], 52) := by decide +kernel
theorem d_Mod_figure_76 : decode b_Mod_figure 76 = .ok (.ireturn, 1) := by decide +kernel
theorem d_Mod_figure_78 : decode b_Mod_figure 78 = .ok (.invokevirtual 228, 3) := by decide +kernel
theorem d_Mod_figure_81 : decode b_Mod_figure 81 = .ok (.ireturn, 1) := by decide +kernel
theorem d_Mod_figure_86 : decode b_Mod_figure 86 = .ok (.ireturn, 1) := by decide +kernel
theorem d_Mod_figure_91 : decode b_Mod_figure 91 = .ok (.ireturn, 1) := by decide +kernel
theorem d_Mod_figure_96 : decode b_Mod_figure 96 = .ok (.ireturn, 1) := by decide +kernel
theorem d_Mod_figure_101 : decode b_Mod_figure 101 = .ok (.ireturn, 1) := by decide +kernel
theorem d_Mod_figure_106 : decode b_Mod_figure 106 = .ok (.ireturn, 1) := by decide +kernel
theorem d_Mod_figure_111 : decode b_Mod_figure 111 = .ok (.ireturn, 1) := by decide +kernel
theorem d_Mod_figure_116 : decode b_Mod_figure 116 = .ok (.ireturn, 1) := by decide +kernel
theorem d_Mod_figure_118 : decode b_Mod_figure 118 = .ok (.ireturn, 1) := by decide +kernel
