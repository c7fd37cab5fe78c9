def k_Clerk_init_0 : List sp_I := [(.aload_n 0, 1, 0, 0, 0, 0)]
theorem e_Clerk_init_0 : sp_ok R_Clerk b_Clerk_init 4 k_Clerk_init_0 0 = true := by decide +kernel
def k_Clerk_init_4 : List sp_I := [(.aload_n 0, 1, 0, 0, 0, 0), (.aload_n 1, 1, 1, 0, 0, 0)]
theorem e_Clerk_init_4 : sp_ok R_Clerk b_Clerk_init 4 k_Clerk_init_4 4 = true := by decide +kernel
def k_Clerk_init_9 : List sp_I := [(.aload_n 0, 1, 0, 0, 0, 0), (.aload_n 2, 1, 2, 0, 0, 0)]
theorem e_Clerk_init_9 : sp_ok R_Clerk b_Clerk_init 4 k_Clerk_init_9 9 = true := by decide +kernel
def k_Clerk_init_14 : List sp_I := [(.aload_n 0, 1, 0, 0, 0, 0), (.aload_n 3, 1, 3, 0, 0, 0)]
theorem e_Clerk_init_14 : sp_ok R_Clerk b_Clerk_init 4 k_Clerk_init_14 14 = true := by decide +kernel
def k_Clerk_init_19 : List sp_I := [(.aload_n 0, 1, 0, 0, 0, 0)]
theorem e_Clerk_init_19 : sp_ok R_Clerk b_Clerk_init 4 k_Clerk_init_19 19 = true := by decide +kernel
def k_Clerk_init_23 : List sp_I := [(.dup, 1, 0, 0, 0, 0), (.aload_n 1, 1, 1, 0, 0, 0)]
theorem e_Clerk_init_23 : sp_ok R_Clerk b_Clerk_init 4 k_Clerk_init_23 23 = true := by decide +kernel
def k_Clerk_init_31 : List sp_I := [(.aload_n 0, 1, 0, 0, 0, 0)]
theorem e_Clerk_init_31 : sp_ok R_Clerk b_Clerk_init 4 k_Clerk_init_31 31 = true := by decide +kernel
def k_Clerk_init_35 : List sp_I := [(.dup, 1, 0, 0, 0, 0)]
theorem e_Clerk_init_35 : sp_ok R_Clerk b_Clerk_init 4 k_Clerk_init_35 35 = true := by decide +kernel
def k_Clerk_init_42 : List sp_I := [(.aload_n 0, 1, 0, 0, 0, 0), (.iconst 0, 1, 0, 0, 0, 0), (.putfield 36, 3, 6, 5, 0, 234), (.aload_n 0, 1, 0, 0, 0, 0), (.iconst 0, 1, 0, 0, 0, 0), (.putfield 40, 3, 6, 6, 0, 235)]
theorem e_Clerk_init_42 : sp_ok R_Clerk b_Clerk_init 4 k_Clerk_init_42 42 = true := by decide +kernel
theorem d_Clerk_init_1 : decode b_Clerk_init 1 = .ok (.invokespecial 1, 3) := by decide +kernel
theorem d_Clerk_init_6 : decode b_Clerk_init 6 = .ok (.putfield 7, 3) := by decide +kernel
theorem d_Clerk_init_11 : decode b_Clerk_init 11 = .ok (.putfield 13, 3) := by decide +kernel
theorem d_Clerk_init_16 : decode b_Clerk_init 16 = .ok (.putfield 16, 3) := by decide +kernel
theorem d_Clerk_init_20 : decode b_Clerk_init 20 = .ok (.new 20, 3) := by decide +kernel
theorem d_Clerk_init_25 : decode b_Clerk_init 25 = .ok (.invokespecial 22, 3) := by decide +kernel
theorem d_Clerk_init_28 : decode b_Clerk_init 28 = .ok (.putfield 25, 3) := by decide +kernel
theorem d_Clerk_init_32 : decode b_Clerk_init 32 = .ok (.new 29, 3) := by decide +kernel
theorem d_Clerk_init_36 : decode b_Clerk_init 36 = .ok (.invokespecial 31, 3) := by decide +kernel
theorem d_Clerk_init_39 : decode b_Clerk_init 39 = .ok (.putfield 32, 3) := by decide +kernel
theorem d_Clerk_init_52 : decode b_Clerk_init 52 = .ok (.return_, 1) := by decide +kernel
def k_Clerk_hits_0 : List sp_I := [(.aload_n 0, 1, 0, 0, 0, 0), (.getfield 36, 3, 6, 5, 0, 234)]
theorem e_Clerk_hits_0 : sp_ok R_Clerk b_Clerk_hits 1 k_Clerk_hits_0 0 = true := by decide +kernel
theorem d_Clerk_hits_4 : decode b_Clerk_hits 4 = .ok (.ireturn, 1) := by decide +kernel
def k_Clerk_misses_0 : List sp_I := [(.aload_n 0, 1, 0, 0, 0, 0), (.getfield 40, 3, 6, 6, 0, 235)]
theorem e_Clerk_misses_0 : sp_ok R_Clerk b_Clerk_misses 1 k_Clerk_misses_0 0 = true := by decide +kernel
theorem d_Clerk_misses_4 : decode b_Clerk_misses 4 = .ok (.ireturn, 1) := by decide +kernel
def k_Clerk_understands_0 : List sp_I := [(.aload_n 0, 1, 0, 0, 0, 0), (.getfield 25, 3, 6, 3, 0, 232)]
theorem e_Clerk_understands_0 : sp_ok R_Clerk b_Clerk_understands 2 k_Clerk_understands_0 0 = true := by decide +kernel
def k_Clerk_understands_7 : List sp_I := [(.aload_n 0, 1, 0, 0, 0, 0), (.getfield 25, 3, 6, 3, 0, 232)]
theorem e_Clerk_understands_7 : sp_ok R_Clerk b_Clerk_understands 2 k_Clerk_understands_7 7 = true := by decide +kernel
def k_Clerk_understands_14 : List sp_I := [(.astore_n 1, 1, 1, 0, 0, 0), (.aload_n 0, 1, 0, 0, 0, 0), (.getfield 13, 3, 6, 1, 0, 230), (.aload_n 1, 1, 1, 0, 0, 0)]
theorem e_Clerk_understands_14 : sp_ok R_Clerk b_Clerk_understands 2 k_Clerk_understands_14 14 = true := by decide +kernel
def k_Clerk_understands_23 : List sp_I := [(.aload_n 1, 1, 1, 0, 0, 0)]
theorem e_Clerk_understands_23 : sp_ok R_Clerk b_Clerk_understands 2 k_Clerk_understands_23 23 = true := by decide +kernel
theorem d_Clerk_understands_4 : decode b_Clerk_understands 4 = .ok (.invokevirtual 43, 3) := by decide +kernel
theorem d_Clerk_understands_11 : decode b_Clerk_understands 11 = .ok (.invokevirtual 46, 3) := by decide +kernel
theorem d_Clerk_understands_20 : decode b_Clerk_understands 20 = .ok (.invokevirtual 50, 3) := by decide +kernel
theorem d_Clerk_understands_24 : decode b_Clerk_understands 24 = .ok (.invokevirtual 56, 3) := by decide +kernel
theorem d_Clerk_understands_27 : decode b_Clerk_understands 27 = .ok (.ireturn, 1) := by decide +kernel
def k_Clerk_obey_3 : List sp_I := [(.aload_n 0, 1, 0, 0, 0, 0), (.getfield 25, 3, 6, 3, 0, 232)]
theorem e_Clerk_obey_3 : sp_ok R_Clerk b_Clerk_obey 1 k_Clerk_obey_3 3 = true := by decide +kernel
def k_Clerk_obey_13 : List sp_I := [(.iaload, 1, 0, 0, 0, 0)]
theorem e_Clerk_obey_13 : sp_ok R_Clerk b_Clerk_obey 1 k_Clerk_obey_13 13 = true := by decide +kernel
def k_Clerk_obey_48 : List sp_I := [(.aload_n 0, 1, 0, 0, 0, 0)]
theorem e_Clerk_obey_48 : sp_ok R_Clerk b_Clerk_obey 1 k_Clerk_obey_48 48 = true := by decide +kernel
def k_Clerk_obey_52 : List sp_I := [(.goto 40, 3, 92, 0, 0, 0)]
theorem e_Clerk_obey_52 : sp_ok R_Clerk b_Clerk_obey 1 k_Clerk_obey_52 52 = true := by decide +kernel
def k_Clerk_obey_55 : List sp_I := [(.aload_n 0, 1, 0, 0, 0, 0)]
theorem e_Clerk_obey_55 : sp_ok R_Clerk b_Clerk_obey 1 k_Clerk_obey_55 55 = true := by decide +kernel
def k_Clerk_obey_59 : List sp_I := [(.goto 33, 3, 92, 0, 0, 0)]
theorem e_Clerk_obey_59 : sp_ok R_Clerk b_Clerk_obey 1 k_Clerk_obey_59 59 = true := by decide +kernel
def k_Clerk_obey_62 : List sp_I := [(.aload_n 0, 1, 0, 0, 0, 0)]
theorem e_Clerk_obey_62 : sp_ok R_Clerk b_Clerk_obey 1 k_Clerk_obey_62 62 = true := by decide +kernel
def k_Clerk_obey_66 : List sp_I := [(.goto 26, 3, 92, 0, 0, 0)]
theorem e_Clerk_obey_66 : sp_ok R_Clerk b_Clerk_obey 1 k_Clerk_obey_66 66 = true := by decide +kernel
def k_Clerk_obey_69 : List sp_I := [(.aload_n 0, 1, 0, 0, 0, 0), (.getfield 16, 3, 6, 2, 0, 231)]
theorem e_Clerk_obey_69 : sp_ok R_Clerk b_Clerk_obey 1 k_Clerk_obey_69 69 = true := by decide +kernel
def k_Clerk_obey_76 : List sp_I := [(.aload_n 0, 1, 0, 0, 0, 0), (.getfield 13, 3, 6, 1, 0, 230)]
theorem e_Clerk_obey_76 : sp_ok R_Clerk b_Clerk_obey 1 k_Clerk_obey_76 76 = true := by decide +kernel
def k_Clerk_obey_85 : List sp_I := [(.goto 7, 3, 92, 0, 0, 0)]
theorem e_Clerk_obey_85 : sp_ok R_Clerk b_Clerk_obey 1 k_Clerk_obey_85 85 = true := by decide +kernel
def k_Clerk_obey_88 : List sp_I := [(.aload_n 0, 1, 0, 0, 0, 0)]
theorem e_Clerk_obey_88 : sp_ok R_Clerk b_Clerk_obey 1 k_Clerk_obey_88 88 = true := by decide +kernel
def k_Clerk_obey_92 : List sp_I := [(.aload_n 0, 1, 0, 0, 0, 0), (.getfield 25, 3, 6, 3, 0, 232)]
theorem e_Clerk_obey_92 : sp_ok R_Clerk b_Clerk_obey 1 k_Clerk_obey_92 92 = true := by decide +kernel
def k_Clerk_obey_99 : List sp_I := [(.ifCond .eq 10, 3, 109, 0, 0, 0), (.aload_n 0, 1, 0, 0, 0, 0), (.getfield 13, 3, 6, 1, 0, 230)]
theorem e_Clerk_obey_99 : sp_ok R_Clerk b_Clerk_obey 1 k_Clerk_obey_99 99 = true := by decide +kernel
theorem d_Clerk_obey_0 : decode b_Clerk_obey 0 = .ok (.getstatic 62, 3) := by decide +kernel
theorem d_Clerk_obey_7 : decode b_Clerk_obey 7 = .ok (.invokevirtual 68, 3) := by decide +kernel
theorem d_Clerk_obey_10 : decode b_Clerk_obey 10 = .ok (.invokevirtual 72, 3) := by decide +kernel
theorem d_Clerk_obey_14 : decode b_Clerk_obey 14 = .ok (.tableswitch 74 1 5 #[34, 34, 41, 48, 55], 34) := by decide +kernel
theorem d_Clerk_obey_49 : decode b_Clerk_obey 49 = .ok (.invokevirtual 78, 3) := by decide +kernel
theorem d_Clerk_obey_56 : decode b_Clerk_obey 56 = .ok (.invokevirtual 81, 3) := by decide +kernel
theorem d_Clerk_obey_63 : decode b_Clerk_obey 63 = .ok (.invokevirtual 84, 3) := by decide +kernel
theorem d_Clerk_obey_73 : decode b_Clerk_obey 73 = .ok (.invokevirtual 87, 3) := by decide +kernel
theorem d_Clerk_obey_80 : decode b_Clerk_obey 80 = .ok (.ldc 92, 2) := by decide +kernel
theorem d_Clerk_obey_82 : decode b_Clerk_obey 82 = .ok (.invokevirtual 50, 3) := by decide +kernel
theorem d_Clerk_obey_89 : decode b_Clerk_obey 89 = .ok (.invokevirtual 94, 3) := by decide +kernel
theorem d_Clerk_obey_96 : decode b_Clerk_obey 96 = .ok (.invokevirtual 97, 3) := by decide +kernel
theorem d_Clerk_obey_106 : decode b_Clerk_obey 106 = .ok (.invokevirtual 100, 3) := by decide +kernel
theorem d_Clerk_obey_109 : decode b_Clerk_obey 109 = .ok (.return_, 1) := by decide +kernel
def k_Clerk_find_0 : List sp_I := [(.aload_n 0, 1, 0, 0, 0, 0), (.getfield 16, 3, 6, 2, 0, 231), (.aload_n 0, 1, 0, 0, 0, 0), (.getfield 7, 3, 6, 0, 0, 229), (.aload_n 0, 1, 0, 0, 0, 0), (.getfield 25, 3, 6, 3, 0, 232), (.iload_n 1, 1, 1, 0, 0, 0)]
theorem e_Clerk_find_0 : sp_ok R_Clerk b_Clerk_find 2 k_Clerk_find_0 0 = true := by decide +kernel
def k_Clerk_find_16 : List sp_I := [(.aload_n 0, 1, 0, 0, 0, 0), (.getfield 25, 3, 6, 3, 0, 232), (.iload_n 1, 1, 1, 0, 0, 0)]
theorem e_Clerk_find_16 : sp_ok R_Clerk b_Clerk_find 2 k_Clerk_find_16 16 = true := by decide +kernel
theorem d_Clerk_find_13 : decode b_Clerk_find 13 = .ok (.invokevirtual 103, 3) := by decide +kernel
theorem d_Clerk_find_21 : decode b_Clerk_find 21 = .ok (.invokevirtual 107, 3) := by decide +kernel
theorem d_Clerk_find_24 : decode b_Clerk_find 24 = .ok (.invokevirtual 110, 3) := by decide +kernel
theorem d_Clerk_find_27 : decode b_Clerk_find 27 = .ok (.areturn, 1) := by decide +kernel
def k_Clerk_showAll_0 : List sp_I := [(.iconst 1, 1, 0, 0, 1, 0), (.istore_n 1, 1, 1, 0, 0, 0)]
theorem e_Clerk_showAll_0 : sp_ok R_Clerk b_Clerk_showAll 3 k_Clerk_showAll_0 0 = true := by decide +kernel
def k_Clerk_showAll_2 : List sp_I := [(.iload_n 1, 1, 1, 0, 0, 0), (.aload_n 0, 1, 0, 0, 0, 0), (.getfield 25, 3, 6, 3, 0, 232)]
theorem e_Clerk_showAll_2 : sp_ok R_Clerk b_Clerk_showAll 3 k_Clerk_showAll_2 2 = true := by decide +kernel
def k_Clerk_showAll_10 : List sp_I := [(.if_icmp .ge 55, 3, 65, 0, 0, 0), (.aload_n 0, 1, 0, 0, 0, 0), (.iload_n 1, 1, 1, 0, 0, 0)]
theorem e_Clerk_showAll_10 : sp_ok R_Clerk b_Clerk_showAll 3 k_Clerk_showAll_10 10 = true := by decide +kernel
def k_Clerk_showAll_18 : List sp_I := [(.astore_n 2, 1, 2, 0, 0, 0), (.aload_n 2, 1, 2, 0, 0, 0), (.ifnonnull 16, 3, 36, 0, 0, 0), (.aload_n 0, 1, 0, 0, 0, 0), (.dup, 1, 0, 0, 0, 0), (.getfield 40, 3, 6, 6, 0, 235), (.iconst 1, 1, 0, 0, 1, 0), (.iadd, 1, 0, 0, 0, 0), (.putfield 40, 3, 6, 6, 0, 235), (.goto 26, 3, 59, 0, 0, 0)]
theorem e_Clerk_showAll_18 : sp_ok R_Clerk b_Clerk_showAll 3 k_Clerk_showAll_18 18 = true := by decide +kernel
def k_Clerk_showAll_36 : List sp_I := [(.aload_n 0, 1, 0, 0, 0, 0), (.dup, 1, 0, 0, 0, 0), (.getfield 36, 3, 6, 5, 0, 234), (.iconst 1, 1, 0, 0, 1, 0), (.iadd, 1, 0, 0, 0, 0), (.putfield 36, 3, 6, 5, 0, 234), (.aload_n 2, 1, 2, 0, 0, 0), (.getfield 120, 3, 1, 0, 0, 686), (.aload_n 2, 1, 2, 0, 0, 0)]
theorem e_Clerk_showAll_36 : sp_ok R_Clerk b_Clerk_showAll 3 k_Clerk_showAll_36 36 = true := by decide +kernel
def k_Clerk_showAll_54 : List sp_I := [(.aload_n 0, 1, 0, 0, 0, 0), (.aload_n 2, 1, 2, 0, 0, 0)]
theorem e_Clerk_showAll_54 : sp_ok R_Clerk b_Clerk_showAll 3 k_Clerk_showAll_54 54 = true := by decide +kernel
def k_Clerk_showAll_59 : List sp_I := [(.iinc 1 1, 3, 1, 0, 1, 0), (.goto (-60), 3, 2, 0, 0, 0)]
theorem e_Clerk_showAll_59 : sp_ok R_Clerk b_Clerk_showAll 3 k_Clerk_showAll_59 59 = true := by decide +kernel
def k_Clerk_showAll_65 : List sp_I := [(.aload_n 0, 1, 0, 0, 0, 0), (.getfield 13, 3, 6, 1, 0, 230)]
theorem e_Clerk_showAll_65 : sp_ok R_Clerk b_Clerk_showAll 3 k_Clerk_showAll_65 65 = true := by decide +kernel
theorem d_Clerk_showAll_7 : decode b_Clerk_showAll 7 = .ok (.invokevirtual 114, 3) := by decide +kernel
theorem d_Clerk_showAll_15 : decode b_Clerk_showAll 15 = .ok (.invokevirtual 117, 3) := by decide +kernel
theorem d_Clerk_showAll_51 : decode b_Clerk_showAll 51 = .ok (.invokevirtual 126, 3) := by decide +kernel
theorem d_Clerk_showAll_56 : decode b_Clerk_showAll 56 = .ok (.invokevirtual 132, 3) := by decide +kernel
theorem d_Clerk_showAll_69 : decode b_Clerk_showAll 69 = .ok (.ldc 135, 2) := by decide +kernel
theorem d_Clerk_showAll_71 : decode b_Clerk_showAll 71 = .ok (.invokevirtual 50, 3) := by decide +kernel
theorem d_Clerk_showAll_74 : decode b_Clerk_showAll 74 = .ok (.return_, 1) := by decide +kernel
def k_Clerk_show_0 : List sp_I := [(.aload_n 0, 1, 0, 0, 0, 0), (.getfield 13, 3, 6, 1, 0, 230)]
theorem e_Clerk_show_0 : sp_ok R_Clerk b_Clerk_show 2 k_Clerk_show_0 0 = true := by decide +kernel
def k_Clerk_show_9 : List sp_I := [(.aload_n 1, 1, 1, 0, 0, 0), (.aload_n 0, 1, 0, 0, 0, 0), (.getfield 13, 3, 6, 1, 0, 230)]
theorem e_Clerk_show_9 : sp_ok R_Clerk b_Clerk_show 2 k_Clerk_show_9 9 = true := by decide +kernel
def k_Clerk_show_17 : List sp_I := [(.aload_n 0, 1, 0, 0, 0, 0), (.getfield 13, 3, 6, 1, 0, 230), (.bipush 32, 2, 0, 0, 32, 0)]
theorem e_Clerk_show_17 : sp_ok R_Clerk b_Clerk_show 2 k_Clerk_show_17 17 = true := by decide +kernel
def k_Clerk_show_26 : List sp_I := [(.aload_n 0, 1, 0, 0, 0, 0), (.getfield 13, 3, 6, 1, 0, 230), (.aload_n 1, 1, 1, 0, 0, 0), (.getfield 146, 3, 1, 1, 0, 689)]
theorem e_Clerk_show_26 : sp_ok R_Clerk b_Clerk_show 2 k_Clerk_show_26 26 = true := by decide +kernel
def k_Clerk_show_37 : List sp_I := [(.aload_n 0, 1, 0, 0, 0, 0), (.getfield 13, 3, 6, 1, 0, 230), (.bipush 32, 2, 0, 0, 32, 0)]
theorem e_Clerk_show_37 : sp_ok R_Clerk b_Clerk_show 2 k_Clerk_show_37 37 = true := by decide +kernel
def k_Clerk_show_46 : List sp_I := [(.aload_n 0, 1, 0, 0, 0, 0), (.getfield 13, 3, 6, 1, 0, 230), (.aload_n 1, 1, 1, 0, 0, 0)]
theorem e_Clerk_show_46 : sp_ok R_Clerk b_Clerk_show 2 k_Clerk_show_46 46 = true := by decide +kernel
def k_Clerk_show_57 : List sp_I := [(.aload_n 0, 1, 0, 0, 0, 0), (.getfield 25, 3, 6, 3, 0, 232)]
theorem e_Clerk_show_57 : sp_ok R_Clerk b_Clerk_show 2 k_Clerk_show_57 57 = true := by decide +kernel
def k_Clerk_show_70 : List sp_I := [(.aload_n 0, 1, 0, 0, 0, 0), (.getfield 13, 3, 6, 1, 0, 230), (.bipush 32, 2, 0, 0, 32, 0)]
theorem e_Clerk_show_70 : sp_ok R_Clerk b_Clerk_show 2 k_Clerk_show_70 70 = true := by decide +kernel
def k_Clerk_show_79 : List sp_I := [(.aload_n 0, 1, 0, 0, 0, 0), (.getfield 13, 3, 6, 1, 0, 230), (.aload_n 1, 1, 1, 0, 0, 0), (.getfield 160, 3, 1, 2, 0, 692)]
theorem e_Clerk_show_79 : sp_ok R_Clerk b_Clerk_show 2 k_Clerk_show_79 79 = true := by decide +kernel
def k_Clerk_show_90 : List sp_I := [(.aload_n 0, 1, 0, 0, 0, 0), (.getfield 13, 3, 6, 1, 0, 230), (.bipush 10, 2, 0, 0, 10, 0)]
theorem e_Clerk_show_90 : sp_ok R_Clerk b_Clerk_show 2 k_Clerk_show_90 90 = true := by decide +kernel
def k_Clerk_show_99 : List sp_I := [(.aload_n 1, 1, 1, 0, 0, 0), (.aload_n 0, 1, 0, 0, 0, 0), (.getfield 13, 3, 6, 1, 0, 230)]
theorem e_Clerk_show_99 : sp_ok R_Clerk b_Clerk_show 2 k_Clerk_show_99 99 = true := by decide +kernel
def k_Clerk_show_107 : List sp_I := [(.aload_n 0, 1, 0, 0, 0, 0), (.getfield 13, 3, 6, 1, 0, 230), (.bipush 10, 2, 0, 0, 10, 0)]
theorem e_Clerk_show_107 : sp_ok R_Clerk b_Clerk_show 2 k_Clerk_show_107 107 = true := by decide +kernel
theorem d_Clerk_show_4 : decode b_Clerk_show 4 = .ok (.ldc 137, 2) := by decide +kernel
theorem d_Clerk_show_6 : decode b_Clerk_show 6 = .ok (.invokevirtual 50, 3) := by decide +kernel
theorem d_Clerk_show_14 : decode b_Clerk_show 14 = .ok (.invokevirtual 139, 3) := by decide +kernel
theorem d_Clerk_show_23 : decode b_Clerk_show 23 = .ok (.invokevirtual 142, 3) := by decide +kernel
theorem d_Clerk_show_34 : decode b_Clerk_show 34 = .ok (.invokevirtual 149, 3) := by decide +kernel
theorem d_Clerk_show_43 : decode b_Clerk_show 43 = .ok (.invokevirtual 142, 3) := by decide +kernel
theorem d_Clerk_show_51 : decode b_Clerk_show 51 = .ok (.invokevirtual 153, 3) := by decide +kernel
theorem d_Clerk_show_54 : decode b_Clerk_show 54 = .ok (.invokevirtual 149, 3) := by decide +kernel
theorem d_Clerk_show_61 : decode b_Clerk_show 61 = .ok (.invokevirtual 68, 3) := by decide +kernel
theorem d_Clerk_show_64 : decode b_Clerk_show 64 = .ok (.getstatic 156, 3) := by decide +kernel
theorem d_Clerk_show_67 : decode b_Clerk_show 67 = .ok (.if_acmp .ne 23, 3) := by decide +kernel
theorem d_Clerk_show_76 : decode b_Clerk_show 76 = .ok (.invokevirtual 142, 3) := by decide +kernel
theorem d_Clerk_show_87 : decode b_Clerk_show 87 = .ok (.invokevirtual 149, 3) := by decide +kernel
theorem d_Clerk_show_96 : decode b_Clerk_show 96 = .ok (.invokevirtual 142, 3) := by decide +kernel
theorem d_Clerk_show_104 : decode b_Clerk_show 104 = .ok (.invokevirtual 163, 3) := by decide +kernel
theorem d_Clerk_show_113 : decode b_Clerk_show 113 = .ok (.invokevirtual 142, 3) := by decide +kernel
theorem d_Clerk_show_116 : decode b_Clerk_show 116 = .ok (.return_, 1) := by decide +kernel
def k_Clerk_delete_0 : List sp_I := [(.aload_n 0, 1, 0, 0, 0, 0), (.iconst 1, 1, 0, 0, 1, 0)]
theorem e_Clerk_delete_0 : sp_ok R_Clerk b_Clerk_delete 2 k_Clerk_delete_0 0 = true := by decide +kernel
def k_Clerk_delete_5 : List sp_I := [(.astore_n 1, 1, 1, 0, 0, 0), (.aload_n 0, 1, 0, 0, 0, 0), (.getfield 16, 3, 6, 2, 0, 231), (.aload_n 1, 1, 1, 0, 0, 0)]
theorem e_Clerk_delete_5 : sp_ok R_Clerk b_Clerk_delete 2 k_Clerk_delete_5 5 = true := by decide +kernel
def k_Clerk_delete_14 : List sp_I := [(.aload_n 0, 1, 0, 0, 0, 0), (.getfield 13, 3, 6, 1, 0, 230), (.aload_n 1, 1, 1, 0, 0, 0), (.ifnonnull 8, 3, 27, 0, 0, 0)]
theorem e_Clerk_delete_14 : sp_ok R_Clerk b_Clerk_delete 2 k_Clerk_delete_14 14 = true := by decide +kernel
def k_Clerk_delete_24 : List sp_I := [(.goto 5, 3, 29, 0, 0, 0)]
theorem e_Clerk_delete_24 : sp_ok R_Clerk b_Clerk_delete 2 k_Clerk_delete_24 24 = true := by decide +kernel
theorem d_Clerk_delete_2 : decode b_Clerk_delete 2 = .ok (.invokevirtual 117, 3) := by decide +kernel
theorem d_Clerk_delete_11 : decode b_Clerk_delete 11 = .ok (.invokevirtual 166, 3) := by decide +kernel
theorem d_Clerk_delete_22 : decode b_Clerk_delete 22 = .ok (.ldc 169, 2) := by decide +kernel
theorem d_Clerk_delete_27 : decode b_Clerk_delete 27 = .ok (.ldc 171, 2) := by decide +kernel
theorem d_Clerk_delete_29 : decode b_Clerk_delete 29 = .ok (.invokevirtual 50, 3) := by decide +kernel
theorem d_Clerk_delete_32 : decode b_Clerk_delete 32 = .ok (.return_, 1) := by decide +kernel
def k_Clerk_touch_0 : List sp_I := [(.aload_n 0, 1, 0, 0, 0, 0), (.iconst 1, 1, 0, 0, 1, 0)]
theorem e_Clerk_touch_0 : sp_ok R_Clerk b_Clerk_touch 2 k_Clerk_touch_0 0 = true := by decide +kernel
def k_Clerk_touch_5 : List sp_I := [(.astore_n 1, 1, 1, 0, 0, 0), (.aload_n 1, 1, 1, 0, 0, 0), (.ifnonnull 15, 3, 22, 0, 0, 0), (.aload_n 0, 1, 0, 0, 0, 0), (.getfield 13, 3, 6, 1, 0, 230)]
theorem e_Clerk_touch_5 : sp_ok R_Clerk b_Clerk_touch 2 k_Clerk_touch_5 5 = true := by decide +kernel
def k_Clerk_touch_19 : List sp_I := [(.goto 28, 3, 47, 0, 0, 0)]
theorem e_Clerk_touch_19 : sp_ok R_Clerk b_Clerk_touch 2 k_Clerk_touch_19 19 = true := by decide +kernel
def k_Clerk_touch_22 : List sp_I := [(.aload_n 0, 1, 0, 0, 0, 0), (.getfield 16, 3, 6, 2, 0, 231), (.aload_n 1, 1, 1, 0, 0, 0), (.aload_n 0, 1, 0, 0, 0, 0), (.getfield 25, 3, 6, 3, 0, 232), (.iconst 2, 1, 0, 0, 2, 0)]
theorem e_Clerk_touch_22 : sp_ok R_Clerk b_Clerk_touch 2 k_Clerk_touch_22 22 = true := by decide +kernel
def k_Clerk_touch_38 : List sp_I := [(.aload_n 0, 1, 0, 0, 0, 0), (.getfield 13, 3, 6, 1, 0, 230)]
theorem e_Clerk_touch_38 : sp_ok R_Clerk b_Clerk_touch 2 k_Clerk_touch_38 38 = true := by decide +kernel
theorem d_Clerk_touch_2 : decode b_Clerk_touch 2 = .ok (.invokevirtual 117, 3) := by decide +kernel
theorem d_Clerk_touch_14 : decode b_Clerk_touch 14 = .ok (.ldc 169, 2) := by decide +kernel
theorem d_Clerk_touch_16 : decode b_Clerk_touch 16 = .ok (.invokevirtual 50, 3) := by decide +kernel
theorem d_Clerk_touch_32 : decode b_Clerk_touch 32 = .ok (.invokevirtual 173, 3) := by decide +kernel
theorem d_Clerk_touch_35 : decode b_Clerk_touch 35 = .ok (.invokevirtual 176, 3) := by decide +kernel
theorem d_Clerk_touch_42 : decode b_Clerk_touch 42 = .ok (.ldc 179, 2) := by decide +kernel
theorem d_Clerk_touch_44 : decode b_Clerk_touch 44 = .ok (.invokevirtual 50, 3) := by decide +kernel
theorem d_Clerk_touch_47 : decode b_Clerk_touch 47 = .ok (.return_, 1) := by decide +kernel
def k_Clerk_store_0 : List sp_I := [(.aload_n 0, 1, 0, 0, 0, 0), (.iconst 1, 1, 0, 0, 1, 0)]
theorem e_Clerk_store_0 : sp_ok R_Clerk b_Clerk_store 4 k_Clerk_store_0 0 = true := by decide +kernel
def k_Clerk_store_5 : List sp_I := [(.astore_n 1, 1, 1, 0, 0, 0), (.aload_n 0, 1, 0, 0, 0, 0), (.aload_n 1, 1, 1, 0, 0, 0)]
theorem e_Clerk_store_5 : sp_ok R_Clerk b_Clerk_store 4 k_Clerk_store_5 5 = true := by decide +kernel
def k_Clerk_store_11 : List sp_I := [(.astore_n 2, 1, 2, 0, 0, 0), (.aload_n 2, 1, 2, 0, 0, 0)]
theorem e_Clerk_store_11 : sp_ok R_Clerk b_Clerk_store 4 k_Clerk_store_11 11 = true := by decide +kernel
def k_Clerk_store_16 : List sp_I := [(.ifCond .ne 12, 3, 28, 0, 0, 0), (.aload_n 0, 1, 0, 0, 0, 0), (.getfield 13, 3, 6, 1, 0, 230), (.aload_n 2, 1, 2, 0, 0, 0)]
theorem e_Clerk_store_16 : sp_ok R_Clerk b_Clerk_store 4 k_Clerk_store_16 16 = true := by decide +kernel
def k_Clerk_store_28 : List sp_I := [(.aload_n 1, 1, 1, 0, 0, 0), (.ifnull 24, 3, 53, 0, 0, 0), (.aload_n 0, 1, 0, 0, 0, 0), (.getfield 25, 3, 6, 3, 0, 232)]
theorem e_Clerk_store_28 : sp_ok R_Clerk b_Clerk_store 4 k_Clerk_store_28 28 = true := by decide +kernel
def k_Clerk_store_42 : List sp_I := [(.ifCond .eq 11, 3, 53, 0, 0, 0), (.aload_n 0, 1, 0, 0, 0, 0), (.aload_n 1, 1, 1, 0, 0, 0)]
theorem e_Clerk_store_42 : sp_ok R_Clerk b_Clerk_store 4 k_Clerk_store_42 42 = true := by decide +kernel
def k_Clerk_store_50 : List sp_I := [(.goto 7, 3, 57, 0, 0, 0)]
theorem e_Clerk_store_50 : sp_ok R_Clerk b_Clerk_store 4 k_Clerk_store_50 50 = true := by decide +kernel
def k_Clerk_store_53 : List sp_I := [(.aload_n 0, 1, 0, 0, 0, 0)]
theorem e_Clerk_store_53 : sp_ok R_Clerk b_Clerk_store 4 k_Clerk_store_53 53 = true := by decide +kernel
def k_Clerk_store_57 : List sp_I := [(.aload_n 0, 1, 0, 0, 0, 0), (.getfield 16, 3, 6, 2, 0, 231), (.aload_n 0, 1, 0, 0, 0, 0), (.getfield 32, 3, 6, 4, 0, 233)]
theorem e_Clerk_store_57 : sp_ok R_Clerk b_Clerk_store 4 k_Clerk_store_57 57 = true := by decide +kernel
def k_Clerk_store_71 : List sp_I := [(.astore_n 3, 1, 3, 0, 0, 0), (.aload_n 3, 1, 3, 0, 0, 0)]
theorem e_Clerk_store_71 : sp_ok R_Clerk b_Clerk_store 4 k_Clerk_store_71 71 = true := by decide +kernel
def k_Clerk_store_76 : List sp_I := [(.ifCond .ne 12, 3, 88, 0, 0, 0), (.aload_n 0, 1, 0, 0, 0, 0), (.getfield 13, 3, 6, 1, 0, 230), (.aload_n 3, 1, 3, 0, 0, 0)]
theorem e_Clerk_store_76 : sp_ok R_Clerk b_Clerk_store 4 k_Clerk_store_76 76 = true := by decide +kernel
def k_Clerk_store_88 : List sp_I := [(.aload_n 0, 1, 0, 0, 0, 0), (.getfield 16, 3, 6, 2, 0, 231), (.aload_n 0, 1, 0, 0, 0, 0), (.getfield 32, 3, 6, 4, 0, 233), (.aload_n 1, 1, 1, 0, 0, 0)]
theorem e_Clerk_store_88 : sp_ok R_Clerk b_Clerk_store 4 k_Clerk_store_88 88 = true := by decide +kernel
def k_Clerk_store_100 : List sp_I := [(.aload_n 0, 1, 0, 0, 0, 0), (.getfield 25, 3, 6, 3, 0, 232)]
theorem e_Clerk_store_100 : sp_ok R_Clerk b_Clerk_store 4 k_Clerk_store_100 100 = true := by decide +kernel
def k_Clerk_store_110 : List sp_I := [(.ifCond .eq 15, 3, 125, 0, 0, 0), (.aload_n 0, 1, 0, 0, 0, 0), (.getfield 13, 3, 6, 1, 0, 230)]
theorem e_Clerk_store_110 : sp_ok R_Clerk b_Clerk_store 4 k_Clerk_store_110 110 = true := by decide +kernel
def k_Clerk_store_122 : List sp_I := [(.goto 28, 3, 150, 0, 0, 0)]
theorem e_Clerk_store_122 : sp_ok R_Clerk b_Clerk_store 4 k_Clerk_store_122 122 = true := by decide +kernel
def k_Clerk_store_125 : List sp_I := [(.aload_n 0, 1, 0, 0, 0, 0), (.getfield 13, 3, 6, 1, 0, 230), (.aload_n 0, 1, 0, 0, 0, 0), (.getfield 32, 3, 6, 4, 0, 233), (.getfield 211, 3, 5, 1, 0, 213), (.iconst 0, 1, 0, 0, 0, 0), (.aload_n 0, 1, 0, 0, 0, 0), (.getfield 32, 3, 6, 4, 0, 233), (.getfield 211, 3, 5, 1, 0, 213)]
theorem e_Clerk_store_125 : sp_ok R_Clerk b_Clerk_store 4 k_Clerk_store_125 125 = true := by decide +kernel
theorem d_Clerk_store_2 : decode b_Clerk_store 2 = .ok (.invokevirtual 117, 3) := by decide +kernel
theorem d_Clerk_store_8 : decode b_Clerk_store 8 = .ok (.invokevirtual 181, 3) := by decide +kernel
theorem d_Clerk_store_13 : decode b_Clerk_store 13 = .ok (.invokevirtual 56, 3) := by decide +kernel
theorem d_Clerk_store_24 : decode b_Clerk_store 24 = .ok (.invokevirtual 50, 3) := by decide +kernel
theorem d_Clerk_store_27 : decode b_Clerk_store 27 = .ok (.return_, 1) := by decide +kernel
theorem d_Clerk_store_36 : decode b_Clerk_store 36 = .ok (.invokevirtual 68, 3) := by decide +kernel
theorem d_Clerk_store_39 : decode b_Clerk_store 39 = .ok (.getfield 185, 3) := by decide +kernel
theorem d_Clerk_store_47 : decode b_Clerk_store 47 = .ok (.invokevirtual 189, 3) := by decide +kernel
theorem d_Clerk_store_54 : decode b_Clerk_store 54 = .ok (.invokevirtual 192, 3) := by decide +kernel
theorem d_Clerk_store_65 : decode b_Clerk_store 65 = .ok (.invokevirtual 195, 3) := by decide +kernel
theorem d_Clerk_store_68 : decode b_Clerk_store 68 = .ok (.invokevirtual 198, 3) := by decide +kernel
theorem d_Clerk_store_73 : decode b_Clerk_store 73 = .ok (.invokevirtual 56, 3) := by decide +kernel
theorem d_Clerk_store_84 : decode b_Clerk_store 84 = .ok (.invokevirtual 50, 3) := by decide +kernel
theorem d_Clerk_store_87 : decode b_Clerk_store 87 = .ok (.return_, 1) := by decide +kernel
theorem d_Clerk_store_97 : decode b_Clerk_store 97 = .ok (.invokevirtual 202, 3) := by decide +kernel
theorem d_Clerk_store_104 : decode b_Clerk_store 104 = .ok (.invokevirtual 68, 3) := by decide +kernel
theorem d_Clerk_store_107 : decode b_Clerk_store 107 = .ok (.getfield 206, 3) := by decide +kernel
theorem d_Clerk_store_117 : decode b_Clerk_store 117 = .ok (.ldc 209, 2) := by decide +kernel
theorem d_Clerk_store_119 : decode b_Clerk_store 119 = .ok (.invokevirtual 50, 3) := by decide +kernel
theorem d_Clerk_store_144 : decode b_Clerk_store 144 = .ok (.invokevirtual 214, 3) := by decide +kernel
theorem d_Clerk_store_147 : decode b_Clerk_store 147 = .ok (.invokevirtual 216, 3) := by decide +kernel
theorem d_Clerk_store_150 : decode b_Clerk_store 150 = .ok (.return_, 1) := by decide +kernel
def k_Clerk_obstacle_3 : List sp_I := [(.aload_n 0, 1, 0, 0, 0, 0), (.getfield 25, 3, 6, 3, 0, 232)]
theorem e_Clerk_obstacle_3 : sp_ok R_Clerk b_Clerk_obstacle 2 k_Clerk_obstacle_3 3 = true := by decide +kernel
def k_Clerk_obstacle_13 : List sp_I := [(.iaload, 1, 0, 0, 0, 0)]
theorem e_Clerk_obstacle_13 : sp_ok R_Clerk b_Clerk_obstacle 2 k_Clerk_obstacle_13 13 = true := by decide +kernel
def k_Clerk_obstacle_55 : List sp_I := [(.aload_n 1, 1, 1, 0, 0, 0), (.ifnonnull 8, 3, 64, 0, 0, 0)]
theorem e_Clerk_obstacle_55 : sp_ok R_Clerk b_Clerk_obstacle 2 k_Clerk_obstacle_55 55 = true := by decide +kernel
def k_Clerk_obstacle_61 : List sp_I := [(.goto 5, 3, 66, 0, 0, 0)]
theorem e_Clerk_obstacle_61 : sp_ok R_Clerk b_Clerk_obstacle 2 k_Clerk_obstacle_61 61 = true := by decide +kernel
def k_Clerk_obstacle_67 : List sp_I := [(.aload_n 1, 1, 1, 0, 0, 0), (.ifnonnull 8, 3, 76, 0, 0, 0)]
theorem e_Clerk_obstacle_67 : sp_ok R_Clerk b_Clerk_obstacle 2 k_Clerk_obstacle_67 67 = true := by decide +kernel
def k_Clerk_obstacle_73 : List sp_I := [(.goto 5, 3, 78, 0, 0, 0)]
theorem e_Clerk_obstacle_73 : sp_ok R_Clerk b_Clerk_obstacle 2 k_Clerk_obstacle_73 73 = true := by decide +kernel
def k_Clerk_obstacle_79 : List sp_I := [(.aload_n 1, 1, 1, 0, 0, 0), (.ifnonnull 6, 3, 86, 0, 0, 0)]
theorem e_Clerk_obstacle_79 : sp_ok R_Clerk b_Clerk_obstacle 2 k_Clerk_obstacle_79 79 = true := by decide +kernel
def k_Clerk_obstacle_86 : List sp_I := [(.aload_n 1, 1, 1, 0, 0, 0), (.getfield 160, 3, 1, 2, 0, 692), (.aload_n 0, 1, 0, 0, 0, 0), (.getfield 25, 3, 6, 3, 0, 232), (.iconst 5, 1, 0, 0, 5, 0)]
theorem e_Clerk_obstacle_86 : sp_ok R_Clerk b_Clerk_obstacle 2 k_Clerk_obstacle_86 86 = true := by decide +kernel
def k_Clerk_obstacle_98 : List sp_I := [(.if_icmp .ne 8, 3, 106, 0, 0, 0)]
theorem e_Clerk_obstacle_98 : sp_ok R_Clerk b_Clerk_obstacle 2 k_Clerk_obstacle_98 98 = true := by decide +kernel
def k_Clerk_obstacle_103 : List sp_I := [(.goto 5, 3, 108, 0, 0, 0)]
theorem e_Clerk_obstacle_103 : sp_ok R_Clerk b_Clerk_obstacle 2 k_Clerk_obstacle_103 103 = true := by decide +kernel
def k_Clerk_obstacle_109 : List sp_I := [(.aload_n 1, 1, 1, 0, 0, 0), (.ifnonnull 6, 3, 116, 0, 0, 0)]
theorem e_Clerk_obstacle_109 : sp_ok R_Clerk b_Clerk_obstacle 2 k_Clerk_obstacle_109 109 = true := by decide +kernel
def k_Clerk_obstacle_116 : List sp_I := [(.aload_n 1, 1, 1, 0, 0, 0)]
theorem e_Clerk_obstacle_116 : sp_ok R_Clerk b_Clerk_obstacle 2 k_Clerk_obstacle_116 116 = true := by decide +kernel
def k_Clerk_obstacle_120 : List sp_I := [(.ifCond .eq 8, 3, 128, 0, 0, 0)]
theorem e_Clerk_obstacle_120 : sp_ok R_Clerk b_Clerk_obstacle 2 k_Clerk_obstacle_120 120 = true := by decide +kernel
def k_Clerk_obstacle_125 : List sp_I := [(.goto 5, 3, 130, 0, 0, 0)]
theorem e_Clerk_obstacle_125 : sp_ok R_Clerk b_Clerk_obstacle 2 k_Clerk_obstacle_125 125 = true := by decide +kernel
theorem d_Clerk_obstacle_0 : decode b_Clerk_obstacle 0 = .ok (.getstatic 62, 3) := by decide +kernel
theorem d_Clerk_obstacle_7 : decode b_Clerk_obstacle 7 = .ok (.invokevirtual 68, 3) := by decide +kernel
theorem d_Clerk_obstacle_10 : decode b_Clerk_obstacle 10 = .ok (.invokevirtual 72, 3) := by decide +kernel
theorem d_Clerk_obstacle_14 : decode b_Clerk_obstacle 14 = .ok (.tableswitch 95 6 11 #[38, 41, 53, 53, 53, 65], 38) := by decide +kernel
theorem d_Clerk_obstacle_52 : decode b_Clerk_obstacle 52 = .ok (.ldc 220, 2) := by decide +kernel
theorem d_Clerk_obstacle_54 : decode b_Clerk_obstacle 54 = .ok (.areturn, 1) := by decide +kernel
theorem d_Clerk_obstacle_59 : decode b_Clerk_obstacle 59 = .ok (.ldc 220, 2) := by decide +kernel
theorem d_Clerk_obstacle_64 : decode b_Clerk_obstacle 64 = .ok (.ldc 222, 2) := by decide +kernel
theorem d_Clerk_obstacle_66 : decode b_Clerk_obstacle 66 = .ok (.areturn, 1) := by decide +kernel
theorem d_Clerk_obstacle_71 : decode b_Clerk_obstacle 71 = .ok (.ldc 222, 2) := by decide +kernel
theorem d_Clerk_obstacle_76 : decode b_Clerk_obstacle 76 = .ok (.ldc 220, 2) := by decide +kernel
theorem d_Clerk_obstacle_78 : decode b_Clerk_obstacle 78 = .ok (.areturn, 1) := by decide +kernel
theorem d_Clerk_obstacle_83 : decode b_Clerk_obstacle 83 = .ok (.ldc 169, 2) := by decide +kernel
theorem d_Clerk_obstacle_85 : decode b_Clerk_obstacle 85 = .ok (.areturn, 1) := by decide +kernel
theorem d_Clerk_obstacle_95 : decode b_Clerk_obstacle 95 = .ok (.invokevirtual 224, 3) := by decide +kernel
theorem d_Clerk_obstacle_101 : decode b_Clerk_obstacle 101 = .ok (.ldc 220, 2) := by decide +kernel
theorem d_Clerk_obstacle_106 : decode b_Clerk_obstacle 106 = .ok (.ldc 227, 2) := by decide +kernel
theorem d_Clerk_obstacle_108 : decode b_Clerk_obstacle 108 = .ok (.areturn, 1) := by decide +kernel
theorem d_Clerk_obstacle_113 : decode b_Clerk_obstacle 113 = .ok (.ldc 169, 2) := by decide +kernel
theorem d_Clerk_obstacle_115 : decode b_Clerk_obstacle 115 = .ok (.areturn, 1) := by decide +kernel
theorem d_Clerk_obstacle_117 : decode b_Clerk_obstacle 117 = .ok (.invokevirtual 229, 3) := by decide +kernel
theorem d_Clerk_obstacle_123 : decode b_Clerk_obstacle 123 = .ok (.ldc 220, 2) := by decide +kernel
theorem d_Clerk_obstacle_128 : decode b_Clerk_obstacle 128 = .ok (.ldc 232, 2) := by decide +kernel
theorem d_Clerk_obstacle_130 : decode b_Clerk_obstacle 130 = .ok (.areturn, 1) := by decide +kernel
def k_Clerk_prepareNew_0 : List sp_I := [(.aload_n 0, 1, 0, 0, 0, 0), (.aload_n 0, 1, 0, 0, 0, 0), (.getfield 25, 3, 6, 3, 0, 232), (.iconst 2, 1, 0, 0, 2, 0)]
theorem e_Clerk_prepareNew_0 : sp_ok R_Clerk b_Clerk_prepareNew 1 k_Clerk_prepareNew_0 0 = true := by decide +kernel
def k_Clerk_prepareNew_9 : List sp_I := [(.aload_n 0, 1, 0, 0, 0, 0), (.getfield 16, 3, 6, 2, 0, 231), (.aload_n 0, 1, 0, 0, 0, 0), (.getfield 25, 3, 6, 3, 0, 232), (.iconst 3, 1, 0, 0, 3, 0)]
theorem e_Clerk_prepareNew_9 : sp_ok R_Clerk b_Clerk_prepareNew 1 k_Clerk_prepareNew_9 9 = true := by decide +kernel
def k_Clerk_prepareNew_27 : List sp_I := [(.aload_n 0, 1, 0, 0, 0, 0)]
theorem e_Clerk_prepareNew_27 : sp_ok R_Clerk b_Clerk_prepareNew 1 k_Clerk_prepareNew_27 27 = true := by decide +kernel
theorem d_Clerk_prepareNew_6 : decode b_Clerk_prepareNew 6 = .ok (.invokevirtual 224, 3) := by decide +kernel
theorem d_Clerk_prepareNew_18 : decode b_Clerk_prepareNew 18 = .ok (.invokevirtual 173, 3) := by decide +kernel
theorem d_Clerk_prepareNew_21 : decode b_Clerk_prepareNew 21 = .ok (.invokevirtual 234, 3) := by decide +kernel
theorem d_Clerk_prepareNew_24 : decode b_Clerk_prepareNew 24 = .ok (.invokevirtual 237, 3) := by decide +kernel
theorem d_Clerk_prepareNew_28 : decode b_Clerk_prepareNew 28 = .ok (.invokevirtual 241, 3) := by decide +kernel
theorem d_Clerk_prepareNew_31 : decode b_Clerk_prepareNew 31 = .ok (.return_, 1) := by decide +kernel
def k_Clerk_prepareChange_0 : List sp_I := [(.aload_n 0, 1, 0, 0, 0, 0), (.aload_n 1, 1, 1, 0, 0, 0), (.getfield 146, 3, 1, 1, 0, 689), (.aload_n 1, 1, 1, 0, 0, 0), (.getfield 244, 3, 1, 3, 0, 695)]
theorem e_Clerk_prepareChange_0 : sp_ok R_Clerk b_Clerk_prepareChange 2 k_Clerk_prepareChange_0 0 = true := by decide +kernel
def k_Clerk_prepareChange_15 : List sp_I := [(.aload_n 0, 1, 0, 0, 0, 0), (.getfield 25, 3, 6, 3, 0, 232)]
theorem e_Clerk_prepareChange_15 : sp_ok R_Clerk b_Clerk_prepareChange 2 k_Clerk_prepareChange_15 15 = true := by decide +kernel
def k_Clerk_prepareChange_25 : List sp_I := [(.iaload, 1, 0, 0, 0, 0)]
theorem e_Clerk_prepareChange_25 : sp_ok R_Clerk b_Clerk_prepareChange 2 k_Clerk_prepareChange_25 25 = true := by decide +kernel
def k_Clerk_prepareChange_56 : List sp_I := [(.aload_n 1, 1, 1, 0, 0, 0), (.aload_n 0, 1, 0, 0, 0, 0), (.getfield 32, 3, 6, 4, 0, 233), (.getfield 211, 3, 5, 1, 0, 213)]
theorem e_Clerk_prepareChange_56 : sp_ok R_Clerk b_Clerk_prepareChange 2 k_Clerk_prepareChange_56 56 = true := by decide +kernel
def k_Clerk_prepareChange_67 : List sp_I := [(.aload_n 0, 1, 0, 0, 0, 0)]
theorem e_Clerk_prepareChange_67 : sp_ok R_Clerk b_Clerk_prepareChange 2 k_Clerk_prepareChange_67 67 = true := by decide +kernel
def k_Clerk_prepareChange_71 : List sp_I := [(.goto 77, 3, 148, 0, 0, 0)]
theorem e_Clerk_prepareChange_71 : sp_ok R_Clerk b_Clerk_prepareChange 2 k_Clerk_prepareChange_71 71 = true := by decide +kernel
def k_Clerk_prepareChange_74 : List sp_I := [(.aload_n 0, 1, 0, 0, 0, 0)]
theorem e_Clerk_prepareChange_74 : sp_ok R_Clerk b_Clerk_prepareChange 2 k_Clerk_prepareChange_74 74 = true := by decide +kernel
def k_Clerk_prepareChange_78 : List sp_I := [(.aload_n 1, 1, 1, 0, 0, 0), (.aload_n 0, 1, 0, 0, 0, 0), (.getfield 32, 3, 6, 4, 0, 233), (.getfield 211, 3, 5, 1, 0, 213)]
theorem e_Clerk_prepareChange_78 : sp_ok R_Clerk b_Clerk_prepareChange 2 k_Clerk_prepareChange_78 78 = true := by decide +kernel
def k_Clerk_prepareChange_89 : List sp_I := [(.goto 59, 3, 148, 0, 0, 0)]
theorem e_Clerk_prepareChange_89 : sp_ok R_Clerk b_Clerk_prepareChange 2 k_Clerk_prepareChange_89 89 = true := by decide +kernel
def k_Clerk_prepareChange_92 : List sp_I := [(.aload_n 0, 1, 0, 0, 0, 0), (.getfield 32, 3, 6, 4, 0, 233), (.getfield 211, 3, 5, 1, 0, 213), (.aload_n 1, 1, 1, 0, 0, 0)]
theorem e_Clerk_prepareChange_92 : sp_ok R_Clerk b_Clerk_prepareChange 2 k_Clerk_prepareChange_92 92 = true := by decide +kernel
def k_Clerk_prepareChange_103 : List sp_I := [(.aload_n 0, 1, 0, 0, 0, 0), (.getfield 25, 3, 6, 3, 0, 232), (.iconst 2, 1, 0, 0, 2, 0)]
theorem e_Clerk_prepareChange_103 : sp_ok R_Clerk b_Clerk_prepareChange 2 k_Clerk_prepareChange_103 103 = true := by decide +kernel
def k_Clerk_prepareChange_111 : List sp_I := [(.iadd, 1, 0, 0, 0, 0), (.ldc 249, 2, 630, 1, 1000000000, 0), (.irem, 1, 0, 0, 0, 0)]
theorem e_Clerk_prepareChange_111 : sp_ok R_Clerk b_Clerk_prepareChange 2 k_Clerk_prepareChange_111 111 = true := by decide +kernel
def k_Clerk_prepareChange_118 : List sp_I := [(.goto 30, 3, 148, 0, 0, 0)]
theorem e_Clerk_prepareChange_118 : sp_ok R_Clerk b_Clerk_prepareChange 2 k_Clerk_prepareChange_118 118 = true := by decide +kernel
def k_Clerk_prepareChange_121 : List sp_I := [(.aload_n 0, 1, 0, 0, 0, 0), (.getfield 32, 3, 6, 4, 0, 233), (.getfield 211, 3, 5, 1, 0, 213), (.aload_n 1, 1, 1, 0, 0, 0)]
theorem e_Clerk_prepareChange_121 : sp_ok R_Clerk b_Clerk_prepareChange 2 k_Clerk_prepareChange_121 121 = true := by decide +kernel
def k_Clerk_prepareChange_132 : List sp_I := [(.aload_n 0, 1, 0, 0, 0, 0), (.getfield 25, 3, 6, 3, 0, 232), (.iconst 2, 1, 0, 0, 2, 0)]
theorem e_Clerk_prepareChange_132 : sp_ok R_Clerk b_Clerk_prepareChange 2 k_Clerk_prepareChange_132 132 = true := by decide +kernel
def k_Clerk_prepareChange_140 : List sp_I := [(.isub, 1, 0, 0, 0, 0), (.iconst 0, 1, 0, 0, 0, 0)]
theorem e_Clerk_prepareChange_140 : sp_ok R_Clerk b_Clerk_prepareChange 2 k_Clerk_prepareChange_140 140 = true := by decide +kernel
theorem d_Clerk_prepareChange_9 : decode b_Clerk_prepareChange 9 = .ok (.invokevirtual 237, 3) := by decide +kernel
theorem d_Clerk_prepareChange_12 : decode b_Clerk_prepareChange 12 = .ok (.getstatic 62, 3) := by decide +kernel
theorem d_Clerk_prepareChange_19 : decode b_Clerk_prepareChange 19 = .ok (.invokevirtual 68, 3) := by decide +kernel
theorem d_Clerk_prepareChange_22 : decode b_Clerk_prepareChange 22 = .ok (.invokevirtual 72, 3) := by decide +kernel
theorem d_Clerk_prepareChange_26 : decode b_Clerk_prepareChange 26 = .ok (.tableswitch 95 9 12 #[30, 48, 95, 66], 30) := by decide +kernel
theorem d_Clerk_prepareChange_64 : decode b_Clerk_prepareChange 64 = .ok (.invokevirtual 163, 3) := by decide +kernel
theorem d_Clerk_prepareChange_68 : decode b_Clerk_prepareChange 68 = .ok (.invokevirtual 241, 3) := by decide +kernel
theorem d_Clerk_prepareChange_75 : decode b_Clerk_prepareChange 75 = .ok (.invokevirtual 241, 3) := by decide +kernel
theorem d_Clerk_prepareChange_86 : decode b_Clerk_prepareChange 86 = .ok (.invokevirtual 163, 3) := by decide +kernel
theorem d_Clerk_prepareChange_100 : decode b_Clerk_prepareChange 100 = .ok (.invokevirtual 247, 3) := by decide +kernel
theorem d_Clerk_prepareChange_108 : decode b_Clerk_prepareChange 108 = .ok (.invokevirtual 224, 3) := by decide +kernel
theorem d_Clerk_prepareChange_115 : decode b_Clerk_prepareChange 115 = .ok (.invokevirtual 149, 3) := by decide +kernel
theorem d_Clerk_prepareChange_129 : decode b_Clerk_prepareChange 129 = .ok (.invokevirtual 247, 3) := by decide +kernel
theorem d_Clerk_prepareChange_137 : decode b_Clerk_prepareChange 137 = .ok (.invokevirtual 224, 3) := by decide +kernel
theorem d_Clerk_prepareChange_142 : decode b_Clerk_prepareChange 142 = .ok (.invokestatic 250, 3) := by decide +kernel
theorem d_Clerk_prepareChange_145 : decode b_Clerk_prepareChange 145 = .ok (.invokevirtual 149, 3) := by decide +kernel
theorem d_Clerk_prepareChange_148 : decode b_Clerk_prepareChange 148 = .ok (.return_, 1) := by decide +kernel
def k_Clerk_beginDraft_0 : List sp_I := [(.aload_n 0, 1, 0, 0, 0, 0), (.getfield 32, 3, 6, 4, 0, 233), (.getfield 256, 3, 5, 0, 0, 210)]
theorem e_Clerk_beginDraft_0 : sp_ok R_Clerk b_Clerk_beginDraft 3 k_Clerk_beginDraft_0 0 = true := by decide +kernel
def k_Clerk_beginDraft_10 : List sp_I := [(.aload_n 0, 1, 0, 0, 0, 0), (.getfield 32, 3, 6, 4, 0, 233), (.getfield 256, 3, 5, 0, 0, 210), (.aload_n 0, 1, 0, 0, 0, 0), (.getfield 7, 3, 6, 0, 0, 229), (.aload_n 0, 1, 0, 0, 0, 0), (.getfield 25, 3, 6, 3, 0, 232), (.iconst 1, 1, 0, 0, 1, 0)]
theorem e_Clerk_beginDraft_10 : sp_ok R_Clerk b_Clerk_beginDraft 3 k_Clerk_beginDraft_10 10 = true := by decide +kernel
def k_Clerk_beginDraft_29 : List sp_I := [(.aload_n 0, 1, 0, 0, 0, 0), (.getfield 25, 3, 6, 3, 0, 232), (.iconst 1, 1, 0, 0, 1, 0)]
theorem e_Clerk_beginDraft_29 : sp_ok R_Clerk b_Clerk_beginDraft 3 k_Clerk_beginDraft_29 29 = true := by decide +kernel
def k_Clerk_beginDraft_40 : List sp_I := [(.aload_n 0, 1, 0, 0, 0, 0), (.getfield 32, 3, 6, 4, 0, 233), (.getfield 211, 3, 5, 1, 0, 213)]
theorem e_Clerk_beginDraft_40 : sp_ok R_Clerk b_Clerk_beginDraft 3 k_Clerk_beginDraft_40 40 = true := by decide +kernel
def k_Clerk_beginDraft_50 : List sp_I := [(.aload_n 0, 1, 0, 0, 0, 0), (.getfield 32, 3, 6, 4, 0, 233), (.iload_n 1, 1, 1, 0, 0, 0), (.putfield 259, 3, 5, 2, 0, 216), (.aload_n 0, 1, 0, 0, 0, 0), (.getfield 32, 3, 6, 4, 0, 233), (.iload_n 2, 1, 2, 0, 0, 0), (.putfield 260, 3, 5, 3, 0, 219)]
theorem e_Clerk_beginDraft_50 : sp_ok R_Clerk b_Clerk_beginDraft 3 k_Clerk_beginDraft_50 50 = true := by decide +kernel
theorem d_Clerk_beginDraft_7 : decode b_Clerk_beginDraft 7 = .ok (.invokevirtual 100, 3) := by decide +kernel
theorem d_Clerk_beginDraft_26 : decode b_Clerk_beginDraft 26 = .ok (.invokevirtual 103, 3) := by decide +kernel
theorem d_Clerk_beginDraft_34 : decode b_Clerk_beginDraft 34 = .ok (.invokevirtual 107, 3) := by decide +kernel
theorem d_Clerk_beginDraft_37 : decode b_Clerk_beginDraft 37 = .ok (.invokevirtual 216, 3) := by decide +kernel
theorem d_Clerk_beginDraft_47 : decode b_Clerk_beginDraft 47 = .ok (.invokevirtual 100, 3) := by decide +kernel
theorem d_Clerk_beginDraft_66 : decode b_Clerk_beginDraft 66 = .ok (.return_, 1) := by decide +kernel
def k_Clerk_addDataOfLine_0 : List sp_I := [(.aload_n 0, 1, 0, 0, 0, 0), (.getfield 32, 3, 6, 4, 0, 233), (.getfield 211, 3, 5, 1, 0, 213), (.aload_n 0, 1, 0, 0, 0, 0), (.getfield 7, 3, 6, 0, 0, 229), (.aload_n 0, 1, 0, 0, 0, 0), (.getfield 25, 3, 6, 3, 0, 232)]
theorem e_Clerk_addDataOfLine_0 : sp_ok R_Clerk b_Clerk_addDataOfLine 1 k_Clerk_addDataOfLine_0 0 = true := by decide +kernel
def k_Clerk_addDataOfLine_18 : List sp_I := [(.aload_n 0, 1, 0, 0, 0, 0), (.getfield 25, 3, 6, 3, 0, 232)]
theorem e_Clerk_addDataOfLine_18 : sp_ok R_Clerk b_Clerk_addDataOfLine 1 k_Clerk_addDataOfLine_18 18 = true := by decide +kernel
theorem d_Clerk_addDataOfLine_15 : decode b_Clerk_addDataOfLine 15 = .ok (.invokevirtual 261, 3) := by decide +kernel
theorem d_Clerk_addDataOfLine_22 : decode b_Clerk_addDataOfLine 22 = .ok (.invokevirtual 264, 3) := by decide +kernel
theorem d_Clerk_addDataOfLine_25 : decode b_Clerk_addDataOfLine 25 = .ok (.invokevirtual 216, 3) := by decide +kernel
theorem d_Clerk_addDataOfLine_28 : decode b_Clerk_addDataOfLine 28 = .ok (.return_, 1) := by decide +kernel
theorem w_Clerk_1 : sp_wO R_Clerk 1 [170, 95, 96] = true := by decide +kernel
theorem f_Clerk_7 : sp_wF R_Clerk 7 6 0 1 229 = true := by decide +kernel
theorem f_Clerk_13 : sp_wF R_Clerk 13 6 1 1 230 = true := by decide +kernel
theorem f_Clerk_16 : sp_wF R_Clerk 16 6 2 1 231 = true := by decide +kernel
theorem n_Clerk_20 : sp_wN R_Clerk 20 R_Command 6 [171, 172, 72] = true := by decide +kernel
theorem w_Clerk_22 : sp_wI R_Clerk 22 y_Command_init b_Command_init 2 1 [173, 174, 72, 175] = true := by decide +kernel
theorem f_Clerk_25 : sp_wF R_Clerk 25 6 3 1 232 = true := by decide +kernel
theorem n_Clerk_29 : sp_wN R_Clerk 29 R_Draft 4 [199, 200, 75] = true := by decide +kernel
theorem w_Clerk_31 : sp_wI R_Clerk 31 y_Draft_init b_Draft_init 1 0 [201, 202, 75, 203] = true := by decide +kernel
theorem f_Clerk_32 : sp_wF R_Clerk 32 6 4 1 233 = true := by decide +kernel
theorem w_Clerk_43 : sp_wV R_Clerk 43 R_Command y_Command_read b_Command_read 1 none 0 [298, 299, 300, 72, 301] = true := by decide +kernel
theorem w_Clerk_46 : sp_wV R_Clerk 46 R_Command y_Command_fault b_Command_fault 1 (some (.object "java/lang/String")) 0 [381, 382, 383, 72, 384] = true := by decide +kernel
theorem w_Clerk_50 : sp_wV R_Clerk 50 R_Text y_Text_addWritten b_Text_addWritten 3 none 1 [445, 446, 447, 68, 448] = true := by decide +kernel
theorem w_Clerk_56 : sp_wV R_Clerk 56 R_String y_String_isEmpty b_String_isEmpty 1 (some .boolean) 0 [450, 451, 452, 77, 453] = true := by decide +kernel
theorem w_Clerk_68 : sp_wV R_Clerk 68 R_Command y_Command_verb b_Command_verb 1 (some (.object "SlabPantry$Verb")) 0 [460, 461, 462, 72, 463] = true := by decide +kernel
theorem w_Clerk_78 : sp_wV R_Clerk 78 R_Clerk y_Clerk_showAll b_Clerk_showAll 3 none 0 [470, 472, 7, 71, 473] = true := by decide +kernel
theorem w_Clerk_81 : sp_wV R_Clerk 81 R_Clerk y_Clerk_delete b_Clerk_delete 2 none 0 [540, 542, 12, 71, 543] = true := by decide +kernel
theorem w_Clerk_84 : sp_wV R_Clerk 84 R_Clerk y_Clerk_touch b_Clerk_touch 2 none 0 [554, 556, 13, 71, 557] = true := by decide +kernel
theorem w_Clerk_87 : sp_wV R_Clerk 87 R_Memory y_Memory_takeAllAway b_Memory_takeAllAway 6 none 0 [577, 578, 579, 69, 580] = true := by decide +kernel
theorem w_Clerk_94 : sp_wV R_Clerk 94 R_Clerk y_Clerk_store b_Clerk_store 4 none 0 [591, 593, 15, 71, 594] = true := by decide +kernel
theorem w_Clerk_97 : sp_wV R_Clerk 97 R_Command y_Command_hasNoreply b_Command_hasNoreply 2 (some .boolean) 0 [732, 404, 405, 72, 406] = true := by decide +kernel
theorem w_Clerk_100 : sp_wV R_Clerk 100 R_Text y_Text_clear b_Text_clear 1 none 0 [617, 287, 288, 68, 289] = true := by decide +kernel
theorem w_Clerk_103 : sp_wV R_Clerk 103 R_Command y_Command_start b_Command_start 2 (some .int) 1 [482, 322, 323, 72, 324] = true := by decide +kernel
theorem w_Clerk_107 : sp_wV R_Clerk 107 R_Command y_Command_length b_Command_length 2 (some .int) 1 [483, 326, 327, 72, 328] = true := by decide +kernel
theorem w_Clerk_110 : sp_wV R_Clerk 110 R_Memory y_Memory_find b_Memory_find 9 (some (.object "SlabPantry$Chunk")) 3 [484, 485, 486, 69, 487] = true := by decide +kernel
theorem w_Clerk_114 : sp_wV R_Clerk 114 R_Command y_Command_words b_Command_words 1 (some .int) 0 [474, 475, 476, 72, 477] = true := by decide +kernel
theorem w_Clerk_117 : sp_wV R_Clerk 117 R_Clerk y_Clerk_find b_Clerk_find 2 (some (.object "SlabPantry$Chunk")) 1 [478, 480, 8, 71, 481] = true := by decide +kernel
theorem w_Clerk_126 : sp_wV R_Clerk 126 R_Shelf y_Shelf_bringToFront b_Shelf_bringToFront 2 none 1 [497, 498, 499, 70, 500] = true := by decide +kernel
theorem w_Clerk_132 : sp_wV R_Clerk 132 R_Clerk y_Clerk_show b_Clerk_show 2 none 1 [509, 511, 11, 71, 512] = true := by decide +kernel
theorem w_Clerk_139 : sp_wV R_Clerk 139 R_Chunk y_Chunk_addKeyTo b_Chunk_addKeyTo 2 none 1 [514, 515, 516, 83, 517] = true := by decide +kernel
theorem w_Clerk_142 : sp_wV R_Clerk 142 R_Text y_Text_add b_Text_add 2 none 1 [522, 279, 280, 68, 281] = true := by decide +kernel
theorem w_Clerk_149 : sp_wV R_Clerk 149 R_Text y_Text_addNumber b_Text_addNumber 3 none 1 [523, 524, 525, 68, 526] = true := by decide +kernel
theorem w_Clerk_153 : sp_wV R_Clerk 153 R_Chunk y_Chunk_dataLength b_Chunk_dataLength 1 (some .int) 0 [528, 529, 530, 83, 531] = true := by decide +kernel
theorem w_Clerk_163 : sp_wV R_Clerk 163 R_Chunk y_Chunk_addDataTo b_Chunk_addDataTo 2 none 1 [534, 535, 536, 83, 537] = true := by decide +kernel
theorem w_Clerk_166 : sp_wV R_Clerk 166 R_Memory y_Memory_takeAway b_Memory_takeAway 2 none 1 [544, 545, 546, 69, 547] = true := by decide +kernel
theorem w_Clerk_173 : sp_wV R_Clerk 173 R_Command y_Command_life b_Command_life 2 (some .int) 1 [558, 559, 560, 72, 561] = true := by decide +kernel
theorem w_Clerk_176 : sp_wV R_Clerk 176 R_Memory y_Memory_touch b_Memory_touch 3 none 2 [562, 563, 564, 69, 565] = true := by decide +kernel
theorem w_Clerk_181 : sp_wV R_Clerk 181 R_Clerk y_Clerk_obstacle b_Clerk_obstacle 2 (some (.object "java/lang/String")) 1 [595, 597, 16, 71, 598] = true := by decide +kernel
theorem w_Clerk_189 : sp_wV R_Clerk 189 R_Clerk y_Clerk_prepareChange b_Clerk_prepareChange 2 none 1 [609, 611, 17, 71, 612] = true := by decide +kernel
theorem w_Clerk_192 : sp_wV R_Clerk 192 R_Clerk y_Clerk_prepareNew b_Clerk_prepareNew 1 none 0 [634, 636, 20, 71, 637] = true := by decide +kernel
theorem w_Clerk_195 : sp_wV R_Clerk 195 R_Draft y_Draft_size b_Draft_size 1 (some .int) 0 [639, 640, 641, 75, 642] = true := by decide +kernel
theorem w_Clerk_198 : sp_wV R_Clerk 198 R_Memory y_Memory_refusal b_Memory_refusal 3 (some (.object "java/lang/String")) 1 [644, 645, 646, 69, 647] = true := by decide +kernel
theorem w_Clerk_202 : sp_wV R_Clerk 202 R_Memory y_Memory_put b_Memory_put 5 none 2 [663, 664, 665, 69, 666] = true := by decide +kernel
theorem w_Clerk_214 : sp_wV R_Clerk 214 R_Text y_Text_length b_Text_length 1 (some .int) 0 [731, 275, 276, 68, 277] = true := by decide +kernel
theorem w_Clerk_216 : sp_wV R_Clerk 216 R_Text y_Text_addPart b_Text_addPart 5 none 3 [618, 519, 520, 68, 521] = true := by decide +kernel
theorem w_Clerk_224 : sp_wV R_Clerk 224 R_Command y_Command_number b_Command_number 2 (some .int) 1 [601, 436, 437, 72, 438] = true := by decide +kernel
theorem w_Clerk_229 : sp_wV R_Clerk 229 R_Chunk y_Chunk_isNumeric b_Chunk_isNumeric 1 (some .boolean) 0 [603, 604, 605, 83, 606] = true := by decide +kernel
theorem w_Clerk_234 : sp_wV R_Clerk 234 R_Memory y_Memory_goneAfter b_Memory_goneAfter 2 (some .int) 1 [638, 568, 569, 69, 570] = true := by decide +kernel
theorem w_Clerk_237 : sp_wV R_Clerk 237 R_Clerk y_Clerk_beginDraft b_Clerk_beginDraft 3 none 2 [613, 615, 18, 71, 616] = true := by decide +kernel
theorem w_Clerk_241 : sp_wV R_Clerk 241 R_Clerk y_Clerk_addDataOfLine b_Clerk_addDataOfLine 1 none 0 [619, 621, 19, 71, 622] = true := by decide +kernel
theorem w_Clerk_247 : sp_wV R_Clerk 247 R_Chunk y_Chunk_number b_Chunk_number 1 (some .int) 0 [625, 626, 627, 83, 628] = true := by decide +kernel
theorem w_Clerk_250 : sp_wS R_Clerk 250 y_Math_max b_Math_max 2 (some .int) 2 [631, 632, 82, 633] = true := by decide +kernel
theorem w_Clerk_261 : sp_wV R_Clerk 261 R_Command y_Command_dataStart b_Command_dataStart 1 (some .int) 0 [623, 432, 433, 72, 434] = true := by decide +kernel
theorem w_Clerk_264 : sp_wV R_Clerk 264 R_Command y_Command_dataLength b_Command_dataLength 1 (some .int) 0 [624, 427, 428, 72, 429] = true := by decide +kernel
