def k_Command_init_0 : List sp_I := [(.aload_n 0, 1, 0, 0, 0, 0)]
theorem e_Command_init_0 : sp_ok R_Command b_Command_init 2 k_Command_init_0 0 = true := by decide +kernel
def k_Command_init_4 : List sp_I := [(.aload_n 0, 1, 0, 0, 0, 0), (.aload_n 1, 1, 1, 0, 0, 0)]
theorem e_Command_init_4 : sp_ok R_Command b_Command_init 2 k_Command_init_4 4 = true := by decide +kernel
def k_Command_init_9 : List sp_I := [(.aload_n 0, 1, 0, 0, 0, 0), (.bipush 8, 2, 0, 0, 8, 0)]
theorem e_Command_init_9 : sp_ok R_Command b_Command_init 2 k_Command_init_9 9 = true := by decide +kernel
def k_Command_init_17 : List sp_I := [(.aload_n 0, 1, 0, 0, 0, 0), (.bipush 8, 2, 0, 0, 8, 0)]
theorem e_Command_init_17 : sp_ok R_Command b_Command_init 2 k_Command_init_17 17 = true := by decide +kernel
def k_Command_init_25 : List sp_I := [(.aload_n 0, 1, 0, 0, 0, 0), (.iconst 0, 1, 0, 0, 0, 0), (.putfield 20, 3, 4, 3, 0, 182), (.aload_n 0, 1, 0, 0, 0, 0), (.iconst 0, 1, 0, 0, 0, 0), (.putfield 24, 3, 4, 4, 0, 183), (.aload_n 0, 1, 0, 0, 0, 0)]
theorem e_Command_init_25 : sp_ok R_Command b_Command_init 2 k_Command_init_25 25 = true := by decide +kernel
def k_Command_init_39 : List sp_I := [(.putfield 33, 3, 4, 5, 1, 184)]
theorem e_Command_init_39 : sp_ok R_Command b_Command_init 2 k_Command_init_39 39 = true := by decide +kernel
theorem d_Command_init_1 : decode b_Command_init 1 = .ok (.invokespecial 1, 3) := by decide +kernel
theorem d_Command_init_6 : decode b_Command_init 6 = .ok (.putfield 7, 3) := by decide +kernel
theorem d_Command_init_12 : decode b_Command_init 12 = .ok (.newarray .int, 2) := by decide +kernel
theorem d_Command_init_14 : decode b_Command_init 14 = .ok (.putfield 13, 3) := by decide +kernel
theorem d_Command_init_20 : decode b_Command_init 20 = .ok (.newarray .int, 2) := by decide +kernel
theorem d_Command_init_22 : decode b_Command_init 22 = .ok (.putfield 17, 3) := by decide +kernel
theorem d_Command_init_36 : decode b_Command_init 36 = .ok (.getstatic 27, 3) := by decide +kernel
theorem d_Command_init_42 : decode b_Command_init 42 = .ok (.return_, 1) := by decide +kernel
def k_Command_read_0 : List sp_I := [(.aload_n 0, 1, 0, 0, 0, 0), (.aload_n 0, 1, 0, 0, 0, 0), (.getfield 7, 3, 4, 0, 0, 179)]
theorem e_Command_read_0 : sp_ok R_Command b_Command_read 1 k_Command_read_0 0 = true := by decide +kernel
def k_Command_read_8 : List sp_I := [(.putfield 24, 3, 4, 4, 0, 183), (.aload_n 0, 1, 0, 0, 0, 0)]
theorem e_Command_read_8 : sp_ok R_Command b_Command_read 1 k_Command_read_8 8 = true := by decide +kernel
def k_Command_read_15 : List sp_I := [(.aload_n 0, 1, 0, 0, 0, 0), (.aload_n 0, 1, 0, 0, 0, 0)]
theorem e_Command_read_15 : sp_ok R_Command b_Command_read 1 k_Command_read_15 15 = true := by decide +kernel
def k_Command_read_20 : List sp_I := [(.putfield 33, 3, 4, 5, 1, 184)]
theorem e_Command_read_20 : sp_ok R_Command b_Command_read 1 k_Command_read_20 20 = true := by decide +kernel
theorem d_Command_read_5 : decode b_Command_read 5 = .ok (.invokevirtual 36, 3) := by decide +kernel
theorem d_Command_read_12 : decode b_Command_read 12 = .ok (.invokevirtual 42, 3) := by decide +kernel
theorem d_Command_read_17 : decode b_Command_read 17 = .ok (.invokevirtual 45, 3) := by decide +kernel
theorem d_Command_read_23 : decode b_Command_read 23 = .ok (.return_, 1) := by decide +kernel
def k_Command_splitWords_0 : List sp_I := [(.aload_n 0, 1, 0, 0, 0, 0), (.iconst 0, 1, 0, 0, 0, 0), (.putfield 20, 3, 4, 3, 0, 182), (.iconst 0, 1, 0, 0, 0, 0), (.istore_n 1, 1, 1, 0, 0, 0), (.iconst 0, 1, 0, 0, 0, 0), (.istore_n 2, 1, 2, 0, 0, 0)]
theorem e_Command_splitWords_0 : sp_ok R_Command b_Command_splitWords 4 k_Command_splitWords_0 0 = true := by decide +kernel
def k_Command_splitWords_9 : List sp_I := [(.iload_n 2, 1, 2, 0, 0, 0), (.aload_n 0, 1, 0, 0, 0, 0), (.getfield 24, 3, 4, 4, 0, 183), (.if_icmp .ge 111, 3, 125, 0, 0, 0), (.aload_n 0, 1, 0, 0, 0, 0), (.getfield 7, 3, 4, 0, 0, 179), (.iload_n 2, 1, 2, 0, 0, 0)]
theorem e_Command_splitWords_9 : sp_ok R_Command b_Command_splitWords 4 k_Command_splitWords_9 9 = true := by decide +kernel
def k_Command_splitWords_25 : List sp_I := [(.bipush 32, 2, 0, 0, 32, 0), (.if_icmp .ne 7, 3, 34, 0, 0, 0), (.iconst 1, 1, 0, 0, 1, 0), (.goto 4, 3, 35, 0, 0, 0)]
theorem e_Command_splitWords_25 : sp_ok R_Command b_Command_splitWords 4 k_Command_splitWords_25 25 = true := by decide +kernel
def k_Command_splitWords_34 : List sp_I := [(.iconst 0, 1, 0, 0, 0, 0)]
theorem e_Command_splitWords_34 : sp_ok R_Command b_Command_splitWords 4 k_Command_splitWords_34 34 = true := by decide +kernel
def k_Command_splitWords_35 : List sp_I := [(.istore_n 3, 1, 3, 0, 0, 0), (.iload_n 3, 1, 3, 0, 0, 0), (.ifCond .ne 46, 3, 83, 0, 0, 0), (.iload_n 1, 1, 1, 0, 0, 0), (.ifCond .ne 42, 3, 83, 0, 0, 0), (.aload_n 0, 1, 0, 0, 0, 0), (.getfield 20, 3, 4, 3, 0, 182), (.bipush 8, 2, 0, 0, 8, 0), (.if_icmp .ge 33, 3, 83, 0, 0, 0), (.aload_n 0, 1, 0, 0, 0, 0), (.getfield 13, 3, 4, 1, 0, 180), (.aload_n 0, 1, 0, 0, 0, 0), (.getfield 20, 3, 4, 3, 0, 182), (.iload_n 2, 1, 2, 0, 0, 0), (.iastore, 1, 0, 0, 0, 0), (.aload_n 0, 1, 0, 0, 0, 0), (.getfield 17, 3, 4, 2, 0, 181), (.aload_n 0, 1, 0, 0, 0, 0), (.getfield 20, 3, 4, 3, 0, 182), (.iconst 0, 1, 0, 0, 0, 0), (.iastore, 1, 0, 0, 0, 0), (.aload_n 0, 1, 0, 0, 0, 0), (.dup, 1, 0, 0, 0, 0), (.getfield 20, 3, 4, 3, 0, 182), (.iconst 1, 1, 0, 0, 1, 0), (.iadd, 1, 0, 0, 0, 0), (.putfield 20, 3, 4, 3, 0, 182)]
theorem e_Command_splitWords_35 : sp_ok R_Command b_Command_splitWords 4 k_Command_splitWords_35 35 = true := by decide +kernel
def k_Command_splitWords_83 : List sp_I := [(.iload_n 3, 1, 3, 0, 0, 0), (.ifCond .ne 25, 3, 109, 0, 0, 0), (.aload_n 0, 1, 0, 0, 0, 0), (.getfield 20, 3, 4, 3, 0, 182), (.ifCond .le 18, 3, 109, 0, 0, 0), (.aload_n 0, 1, 0, 0, 0, 0), (.getfield 17, 3, 4, 2, 0, 181), (.aload_n 0, 1, 0, 0, 0, 0), (.getfield 20, 3, 4, 3, 0, 182), (.iconst 1, 1, 0, 0, 1, 0), (.isub, 1, 0, 0, 0, 0), (.dup2, 1, 0, 0, 0, 0), (.iaload, 1, 0, 0, 0, 0), (.iconst 1, 1, 0, 0, 1, 0), (.iadd, 1, 0, 0, 0, 0), (.iastore, 1, 0, 0, 0, 0)]
theorem e_Command_splitWords_83 : sp_ok R_Command b_Command_splitWords 4 k_Command_splitWords_83 83 = true := by decide +kernel
def k_Command_splitWords_109 : List sp_I := [(.iload_n 3, 1, 3, 0, 0, 0), (.ifCond .ne 7, 3, 117, 0, 0, 0), (.iconst 1, 1, 0, 0, 1, 0), (.goto 4, 3, 118, 0, 0, 0)]
theorem e_Command_splitWords_109 : sp_ok R_Command b_Command_splitWords 4 k_Command_splitWords_109 109 = true := by decide +kernel
def k_Command_splitWords_117 : List sp_I := [(.iconst 0, 1, 0, 0, 0, 0)]
theorem e_Command_splitWords_117 : sp_ok R_Command b_Command_splitWords 4 k_Command_splitWords_117 117 = true := by decide +kernel
def k_Command_splitWords_118 : List sp_I := [(.istore_n 1, 1, 1, 0, 0, 0), (.iinc 2 1, 3, 2, 0, 1, 0), (.goto (-113), 3, 9, 0, 0, 0)]
theorem e_Command_splitWords_118 : sp_ok R_Command b_Command_splitWords 4 k_Command_splitWords_118 118 = true := by decide +kernel
theorem d_Command_splitWords_22 : decode b_Command_splitWords 22 = .ok (.invokevirtual 49, 3) := by decide +kernel
theorem d_Command_splitWords_125 : decode b_Command_splitWords 125 = .ok (.return_, 1) := by decide +kernel
def k_Command_firstVerb_0 : List sp_I := [(.aload_n 0, 1, 0, 0, 0, 0), (.getfield 20, 3, 4, 3, 0, 182), (.ifCond .le 56, 3, 60, 0, 0, 0)]
theorem e_Command_firstVerb_0 : sp_ok R_Command b_Command_firstVerb 5 k_Command_firstVerb_0 0 = true := by decide +kernel
def k_Command_firstVerb_10 : List sp_I := [(.astore_n 1, 1, 1, 0, 0, 0), (.aload_n 1, 1, 1, 0, 0, 0), (.arraylength, 1, 0, 0, 0, 0), (.istore_n 2, 1, 2, 0, 0, 0), (.iconst 0, 1, 0, 0, 0, 0), (.istore_n 3, 1, 3, 0, 0, 0)]
theorem e_Command_firstVerb_10 : sp_ok R_Command b_Command_firstVerb 5 k_Command_firstVerb_10 10 = true := by decide +kernel
def k_Command_firstVerb_16 : List sp_I := [(.iload_n 3, 1, 3, 0, 0, 0), (.iload_n 2, 1, 2, 0, 0, 0), (.if_icmp .ge 42, 3, 60, 0, 0, 0), (.aload_n 1, 1, 1, 0, 0, 0), (.iload_n 3, 1, 3, 0, 0, 0), (.aaload, 1, 0, 0, 0, 0), (.astore 4, 2, 4, 0, 0, 0), (.aload_n 0, 1, 0, 0, 0, 0), (.getfield 7, 3, 4, 0, 0, 179), (.aload_n 0, 1, 0, 0, 0, 0), (.iconst 0, 1, 0, 0, 0, 0)]
theorem e_Command_firstVerb_16 : sp_ok R_Command b_Command_firstVerb 5 k_Command_firstVerb_16 16 = true := by decide +kernel
def k_Command_firstVerb_35 : List sp_I := [(.aload_n 0, 1, 0, 0, 0, 0), (.iconst 0, 1, 0, 0, 0, 0)]
theorem e_Command_firstVerb_35 : sp_ok R_Command b_Command_firstVerb 5 k_Command_firstVerb_35 35 = true := by decide +kernel
def k_Command_firstVerb_40 : List sp_I := [(.aload 4, 2, 4, 0, 0, 0)]
theorem e_Command_firstVerb_40 : sp_ok R_Command b_Command_firstVerb 5 k_Command_firstVerb_40 40 = true := by decide +kernel
def k_Command_firstVerb_48 : List sp_I := [(.ifCond .eq 6, 3, 54, 0, 0, 0), (.aload 4, 2, 4, 0, 0, 0)]
theorem e_Command_firstVerb_48 : sp_ok R_Command b_Command_firstVerb 5 k_Command_firstVerb_48 48 = true := by decide +kernel
def k_Command_firstVerb_54 : List sp_I := [(.iinc 3 1, 3, 3, 0, 1, 0), (.goto (-41), 3, 16, 0, 0, 0)]
theorem e_Command_firstVerb_54 : sp_ok R_Command b_Command_firstVerb 5 k_Command_firstVerb_54 54 = true := by decide +kernel
theorem d_Command_firstVerb_7 : decode b_Command_firstVerb 7 = .ok (.getstatic 53, 3) := by decide +kernel
theorem d_Command_firstVerb_32 : decode b_Command_firstVerb 32 = .ok (.invokevirtual 57, 3) := by decide +kernel
theorem d_Command_firstVerb_37 : decode b_Command_firstVerb 37 = .ok (.invokevirtual 61, 3) := by decide +kernel
theorem d_Command_firstVerb_42 : decode b_Command_firstVerb 42 = .ok (.getfield 64, 3) := by decide +kernel
theorem d_Command_firstVerb_45 : decode b_Command_firstVerb 45 = .ok (.invokevirtual 68, 3) := by decide +kernel
theorem d_Command_firstVerb_53 : decode b_Command_firstVerb 53 = .ok (.areturn, 1) := by decide +kernel
theorem d_Command_firstVerb_60 : decode b_Command_firstVerb 60 = .ok (.getstatic 27, 3) := by decide +kernel
theorem d_Command_firstVerb_63 : decode b_Command_firstVerb 63 = .ok (.areturn, 1) := by decide +kernel
def k_Command_fault_0 : List sp_I := [(.aload_n 0, 1, 0, 0, 0, 0), (.getfield 33, 3, 4, 5, 0, 184)]
theorem e_Command_fault_0 : sp_ok R_Command b_Command_fault 1 k_Command_fault_0 0 = true := by decide +kernel
def k_Command_fault_13 : List sp_I := [(.aload_n 0, 1, 0, 0, 0, 0)]
theorem e_Command_fault_13 : sp_ok R_Command b_Command_fault 1 k_Command_fault_13 13 = true := by decide +kernel
def k_Command_fault_17 : List sp_I := [(.ifCond .ne 6, 3, 23, 0, 0, 0)]
theorem e_Command_fault_17 : sp_ok R_Command b_Command_fault 1 k_Command_fault_17 17 = true := by decide +kernel
def k_Command_fault_23 : List sp_I := [(.aload_n 0, 1, 0, 0, 0, 0)]
theorem e_Command_fault_23 : sp_ok R_Command b_Command_fault 1 k_Command_fault_23 23 = true := by decide +kernel
def k_Command_fault_27 : List sp_I := [(.ifCond .eq 8, 3, 35, 0, 0, 0)]
theorem e_Command_fault_27 : sp_ok R_Command b_Command_fault 1 k_Command_fault_27 27 = true := by decide +kernel
def k_Command_fault_32 : List sp_I := [(.goto 5, 3, 37, 0, 0, 0)]
theorem e_Command_fault_32 : sp_ok R_Command b_Command_fault 1 k_Command_fault_32 32 = true := by decide +kernel
theorem d_Command_fault_4 : decode b_Command_fault 4 = .ok (.getstatic 27, 3) := by decide +kernel
theorem d_Command_fault_7 : decode b_Command_fault 7 = .ok (.if_acmp .ne 6, 3) := by decide +kernel
theorem d_Command_fault_10 : decode b_Command_fault 10 = .ok (.ldc 72, 2) := by decide +kernel
theorem d_Command_fault_12 : decode b_Command_fault 12 = .ok (.areturn, 1) := by decide +kernel
theorem d_Command_fault_14 : decode b_Command_fault 14 = .ok (.invokevirtual 74, 3) := by decide +kernel
theorem d_Command_fault_20 : decode b_Command_fault 20 = .ok (.ldc 78, 2) := by decide +kernel
theorem d_Command_fault_22 : decode b_Command_fault 22 = .ok (.areturn, 1) := by decide +kernel
theorem d_Command_fault_24 : decode b_Command_fault 24 = .ok (.invokevirtual 80, 3) := by decide +kernel
theorem d_Command_fault_30 : decode b_Command_fault 30 = .ok (.ldc 83, 2) := by decide +kernel
theorem d_Command_fault_35 : decode b_Command_fault 35 = .ok (.ldc 85, 2) := by decide +kernel
theorem d_Command_fault_37 : decode b_Command_fault 37 = .ok (.areturn, 1) := by decide +kernel
def k_Command_verb_0 : List sp_I := [(.aload_n 0, 1, 0, 0, 0, 0), (.getfield 33, 3, 4, 5, 0, 184)]
theorem e_Command_verb_0 : sp_ok R_Command b_Command_verb 1 k_Command_verb_0 0 = true := by decide +kernel
theorem d_Command_verb_4 : decode b_Command_verb 4 = .ok (.areturn, 1) := by decide +kernel
def k_Command_words_0 : List sp_I := [(.aload_n 0, 1, 0, 0, 0, 0), (.getfield 20, 3, 4, 3, 0, 182)]
theorem e_Command_words_0 : sp_ok R_Command b_Command_words 1 k_Command_words_0 0 = true := by decide +kernel
theorem d_Command_words_4 : decode b_Command_words 4 = .ok (.ireturn, 1) := by decide +kernel
def k_Command_start_0 : List sp_I := [(.iload_n 1, 1, 1, 0, 0, 0), (.ifCond .lt 20, 3, 21, 0, 0, 0), (.iload_n 1, 1, 1, 0, 0, 0), (.aload_n 0, 1, 0, 0, 0, 0), (.getfield 20, 3, 4, 3, 0, 182), (.if_icmp .ge 12, 3, 21, 0, 0, 0), (.aload_n 0, 1, 0, 0, 0, 0), (.getfield 13, 3, 4, 1, 0, 180), (.iload_n 1, 1, 1, 0, 0, 0), (.iaload, 1, 0, 0, 0, 0), (.goto 4, 3, 22, 0, 0, 0)]
theorem e_Command_start_0 : sp_ok R_Command b_Command_start 2 k_Command_start_0 0 = true := by decide +kernel
def k_Command_start_21 : List sp_I := [(.iconst 0, 1, 0, 0, 0, 0)]
theorem e_Command_start_21 : sp_ok R_Command b_Command_start 2 k_Command_start_21 21 = true := by decide +kernel
theorem d_Command_start_22 : decode b_Command_start 22 = .ok (.ireturn, 1) := by decide +kernel
def k_Command_length_0 : List sp_I := [(.iload_n 1, 1, 1, 0, 0, 0), (.ifCond .lt 20, 3, 21, 0, 0, 0), (.iload_n 1, 1, 1, 0, 0, 0), (.aload_n 0, 1, 0, 0, 0, 0), (.getfield 20, 3, 4, 3, 0, 182), (.if_icmp .ge 12, 3, 21, 0, 0, 0), (.aload_n 0, 1, 0, 0, 0, 0), (.getfield 17, 3, 4, 2, 0, 181), (.iload_n 1, 1, 1, 0, 0, 0), (.iaload, 1, 0, 0, 0, 0), (.goto 4, 3, 22, 0, 0, 0)]
theorem e_Command_length_0 : sp_ok R_Command b_Command_length 2 k_Command_length_0 0 = true := by decide +kernel
def k_Command_length_21 : List sp_I := [(.iconst 0, 1, 0, 0, 0, 0)]
theorem e_Command_length_21 : sp_ok R_Command b_Command_length 2 k_Command_length_21 21 = true := by decide +kernel
theorem d_Command_length_22 : decode b_Command_length 22 = .ok (.ireturn, 1) := by decide +kernel
def k_Command_number_0 : List sp_I := [(.aload_n 0, 1, 0, 0, 0, 0), (.getfield 7, 3, 4, 0, 0, 179), (.aload_n 0, 1, 0, 0, 0, 0), (.iload_n 1, 1, 1, 0, 0, 0)]
theorem e_Command_number_0 : sp_ok R_Command b_Command_number 2 k_Command_number_0 0 = true := by decide +kernel
def k_Command_number_9 : List sp_I := [(.aload_n 0, 1, 0, 0, 0, 0), (.iload_n 1, 1, 1, 0, 0, 0)]
theorem e_Command_number_9 : sp_ok R_Command b_Command_number 2 k_Command_number_9 9 = true := by decide +kernel
theorem d_Command_number_6 : decode b_Command_number 6 = .ok (.invokevirtual 57, 3) := by decide +kernel
theorem d_Command_number_11 : decode b_Command_number 11 = .ok (.invokevirtual 61, 3) := by decide +kernel
theorem d_Command_number_14 : decode b_Command_number 14 = .ok (.invokevirtual 87, 3) := by decide +kernel
theorem d_Command_number_17 : decode b_Command_number 17 = .ok (.ireturn, 1) := by decide +kernel
def k_Command_life_0 : List sp_I := [(.aload_n 0, 1, 0, 0, 0, 0), (.iload_n 1, 1, 1, 0, 0, 0)]
theorem e_Command_life_0 : sp_ok R_Command b_Command_life 2 k_Command_life_0 0 = true := by decide +kernel
def k_Command_life_5 : List sp_I := [(.ifCond .eq 7, 3, 12, 0, 0, 0), (.iconst (-1), 1, 0, 0, (-1), 0), (.goto 20, 3, 29, 0, 0, 0)]
theorem e_Command_life_5 : sp_ok R_Command b_Command_life 2 k_Command_life_5 5 = true := by decide +kernel
def k_Command_life_12 : List sp_I := [(.aload_n 0, 1, 0, 0, 0, 0), (.getfield 7, 3, 4, 0, 0, 179), (.aload_n 0, 1, 0, 0, 0, 0), (.iload_n 1, 1, 1, 0, 0, 0)]
theorem e_Command_life_12 : sp_ok R_Command b_Command_life 2 k_Command_life_12 12 = true := by decide +kernel
def k_Command_life_21 : List sp_I := [(.aload_n 0, 1, 0, 0, 0, 0), (.iload_n 1, 1, 1, 0, 0, 0)]
theorem e_Command_life_21 : sp_ok R_Command b_Command_life 2 k_Command_life_21 21 = true := by decide +kernel
theorem d_Command_life_2 : decode b_Command_life 2 = .ok (.invokevirtual 91, 3) := by decide +kernel
theorem d_Command_life_18 : decode b_Command_life 18 = .ok (.invokevirtual 57, 3) := by decide +kernel
theorem d_Command_life_23 : decode b_Command_life 23 = .ok (.invokevirtual 61, 3) := by decide +kernel
theorem d_Command_life_26 : decode b_Command_life 26 = .ok (.invokevirtual 87, 3) := by decide +kernel
theorem d_Command_life_29 : decode b_Command_life 29 = .ok (.ireturn, 1) := by decide +kernel
def k_Command_dataStart_0 : List sp_I := [(.aload_n 0, 1, 0, 0, 0, 0), (.getfield 24, 3, 4, 4, 0, 183), (.iconst 1, 1, 0, 0, 1, 0), (.iadd, 1, 0, 0, 0, 0)]
theorem e_Command_dataStart_0 : sp_ok R_Command b_Command_dataStart 1 k_Command_dataStart_0 0 = true := by decide +kernel
theorem d_Command_dataStart_6 : decode b_Command_dataStart 6 = .ok (.ireturn, 1) := by decide +kernel
def k_Command_dataLength_0 : List sp_I := [(.aload_n 0, 1, 0, 0, 0, 0), (.getfield 7, 3, 4, 0, 0, 179)]
theorem e_Command_dataLength_0 : sp_ok R_Command b_Command_dataLength 1 k_Command_dataLength_0 0 = true := by decide +kernel
def k_Command_dataLength_7 : List sp_I := [(.aload_n 0, 1, 0, 0, 0, 0)]
theorem e_Command_dataLength_7 : sp_ok R_Command b_Command_dataLength 1 k_Command_dataLength_7 7 = true := by decide +kernel
def k_Command_dataLength_11 : List sp_I := [(.isub, 1, 0, 0, 0, 0)]
theorem e_Command_dataLength_11 : sp_ok R_Command b_Command_dataLength 1 k_Command_dataLength_11 11 = true := by decide +kernel
theorem d_Command_dataLength_4 : decode b_Command_dataLength 4 = .ok (.invokevirtual 95, 3) := by decide +kernel
theorem d_Command_dataLength_8 : decode b_Command_dataLength 8 = .ok (.invokevirtual 97, 3) := by decide +kernel
theorem d_Command_dataLength_12 : decode b_Command_dataLength 12 = .ok (.ireturn, 1) := by decide +kernel
def k_Command_hasNoreply_0 : List sp_I := [(.aload_n 0, 1, 0, 0, 0, 0), (.getfield 33, 3, 4, 5, 0, 184)]
theorem e_Command_hasNoreply_0 : sp_ok R_Command b_Command_hasNoreply 2 k_Command_hasNoreply_0 0 = true := by decide +kernel
def k_Command_hasNoreply_10 : List sp_I := [(.iconst 1, 1, 0, 0, 1, 0), (.iadd, 1, 0, 0, 0, 0), (.istore_n 1, 1, 1, 0, 0, 0), (.aload_n 0, 1, 0, 0, 0, 0), (.getfield 33, 3, 4, 5, 0, 184)]
theorem e_Command_hasNoreply_10 : sp_ok R_Command b_Command_hasNoreply 2 k_Command_hasNoreply_10 10 = true := by decide +kernel
def k_Command_hasNoreply_20 : List sp_I := [(.ifCond .ne 39, 3, 59, 0, 0, 0), (.aload_n 0, 1, 0, 0, 0, 0), (.getfield 20, 3, 4, 3, 0, 182), (.iload_n 1, 1, 1, 0, 0, 0), (.iconst 1, 1, 0, 0, 1, 0), (.iadd, 1, 0, 0, 0, 0), (.if_icmp .ne 29, 3, 59, 0, 0, 0), (.aload_n 0, 1, 0, 0, 0, 0), (.getfield 7, 3, 4, 0, 0, 179), (.aload_n 0, 1, 0, 0, 0, 0), (.iload_n 1, 1, 1, 0, 0, 0)]
theorem e_Command_hasNoreply_20 : sp_ok R_Command b_Command_hasNoreply 2 k_Command_hasNoreply_20 20 = true := by decide +kernel
def k_Command_hasNoreply_42 : List sp_I := [(.aload_n 0, 1, 0, 0, 0, 0), (.iload_n 1, 1, 1, 0, 0, 0)]
theorem e_Command_hasNoreply_42 : sp_ok R_Command b_Command_hasNoreply 2 k_Command_hasNoreply_42 42 = true := by decide +kernel
def k_Command_hasNoreply_52 : List sp_I := [(.ifCond .eq 7, 3, 59, 0, 0, 0), (.iconst 1, 1, 0, 0, 1, 0), (.goto 4, 3, 60, 0, 0, 0)]
theorem e_Command_hasNoreply_52 : sp_ok R_Command b_Command_hasNoreply 2 k_Command_hasNoreply_52 52 = true := by decide +kernel
def k_Command_hasNoreply_59 : List sp_I := [(.iconst 0, 1, 0, 0, 0, 0)]
theorem e_Command_hasNoreply_59 : sp_ok R_Command b_Command_hasNoreply 2 k_Command_hasNoreply_59 59 = true := by decide +kernel
theorem d_Command_hasNoreply_4 : decode b_Command_hasNoreply 4 = .ok (.getfield 100, 3) := by decide +kernel
theorem d_Command_hasNoreply_7 : decode b_Command_hasNoreply 7 = .ok (.invokevirtual 103, 3) := by decide +kernel
theorem d_Command_hasNoreply_17 : decode b_Command_hasNoreply 17 = .ok (.invokevirtual 106, 3) := by decide +kernel
theorem d_Command_hasNoreply_39 : decode b_Command_hasNoreply 39 = .ok (.invokevirtual 57, 3) := by decide +kernel
theorem d_Command_hasNoreply_44 : decode b_Command_hasNoreply 44 = .ok (.invokevirtual 61, 3) := by decide +kernel
theorem d_Command_hasNoreply_47 : decode b_Command_hasNoreply 47 = .ok (.ldc 109, 2) := by decide +kernel
theorem d_Command_hasNoreply_49 : decode b_Command_hasNoreply 49 = .ok (.invokevirtual 68, 3) := by decide +kernel
theorem d_Command_hasNoreply_60 : decode b_Command_hasNoreply 60 = .ok (.ireturn, 1) := by decide +kernel
def k_Command_isWellFormed_0 : List sp_I := [(.aload_n 0, 1, 0, 0, 0, 0), (.getfield 33, 3, 4, 5, 0, 184)]
theorem e_Command_isWellFormed_0 : sp_ok R_Command b_Command_isWellFormed 3 k_Command_isWellFormed_0 0 = true := by decide +kernel
def k_Command_isWellFormed_7 : List sp_I := [(.ifCond .eq 8, 3, 15, 0, 0, 0), (.aload_n 0, 1, 0, 0, 0, 0)]
theorem e_Command_isWellFormed_7 : sp_ok R_Command b_Command_isWellFormed 3 k_Command_isWellFormed_7 7 = true := by decide +kernel
def k_Command_isWellFormed_15 : List sp_I := [(.aload_n 0, 1, 0, 0, 0, 0), (.getfield 33, 3, 4, 5, 0, 184)]
theorem e_Command_isWellFormed_15 : sp_ok R_Command b_Command_isWellFormed 3 k_Command_isWellFormed_15 15 = true := by decide +kernel
def k_Command_isWellFormed_25 : List sp_I := [(.iconst 1, 1, 0, 0, 1, 0), (.iadd, 1, 0, 0, 0, 0), (.istore_n 1, 1, 1, 0, 0, 0), (.aload_n 0, 1, 0, 0, 0, 0), (.getfield 20, 3, 4, 3, 0, 182), (.iload_n 1, 1, 1, 0, 0, 0), (.if_icmp .eq 12, 3, 45, 0, 0, 0), (.aload_n 0, 1, 0, 0, 0, 0)]
theorem e_Command_isWellFormed_25 : sp_ok R_Command b_Command_isWellFormed 3 k_Command_isWellFormed_25 25 = true := by decide +kernel
def k_Command_isWellFormed_40 : List sp_I := [(.ifCond .ne 5, 3, 45, 0, 0, 0), (.iconst 0, 1, 0, 0, 0, 0)]
theorem e_Command_isWellFormed_40 : sp_ok R_Command b_Command_isWellFormed 3 k_Command_isWellFormed_40 40 = true := by decide +kernel
def k_Command_isWellFormed_45 : List sp_I := [(.iconst 1, 1, 0, 0, 1, 0), (.istore_n 2, 1, 2, 0, 0, 0)]
theorem e_Command_isWellFormed_45 : sp_ok R_Command b_Command_isWellFormed 3 k_Command_isWellFormed_45 45 = true := by decide +kernel
def k_Command_isWellFormed_47 : List sp_I := [(.iload_n 2, 1, 2, 0, 0, 0), (.iload_n 1, 1, 1, 0, 0, 0), (.if_icmp .ge 32, 3, 81, 0, 0, 0), (.aload_n 0, 1, 0, 0, 0, 0), (.iload_n 2, 1, 2, 0, 0, 0), (.aload_n 0, 1, 0, 0, 0, 0), (.getfield 33, 3, 4, 5, 0, 184)]
theorem e_Command_isWellFormed_47 : sp_ok R_Command b_Command_isWellFormed 3 k_Command_isWellFormed_47 47 = true := by decide +kernel
def k_Command_isWellFormed_61 : List sp_I := [(.iload_n 2, 1, 2, 0, 0, 0), (.iconst 1, 1, 0, 0, 1, 0), (.isub, 1, 0, 0, 0, 0)]
theorem e_Command_isWellFormed_61 : sp_ok R_Command b_Command_isWellFormed 3 k_Command_isWellFormed_61 61 = true := by decide +kernel
def k_Command_isWellFormed_70 : List sp_I := [(.ifCond .ne 5, 3, 75, 0, 0, 0), (.iconst 0, 1, 0, 0, 0, 0)]
theorem e_Command_isWellFormed_70 : sp_ok R_Command b_Command_isWellFormed 3 k_Command_isWellFormed_70 70 = true := by decide +kernel
def k_Command_isWellFormed_75 : List sp_I := [(.iinc 2 1, 3, 2, 0, 1, 0), (.goto (-31), 3, 47, 0, 0, 0)]
theorem e_Command_isWellFormed_75 : sp_ok R_Command b_Command_isWellFormed 3 k_Command_isWellFormed_75 75 = true := by decide +kernel
def k_Command_isWellFormed_81 : List sp_I := [(.iconst 1, 1, 0, 0, 1, 0)]
theorem e_Command_isWellFormed_81 : sp_ok R_Command b_Command_isWellFormed 3 k_Command_isWellFormed_81 81 = true := by decide +kernel
theorem d_Command_isWellFormed_4 : decode b_Command_isWellFormed 4 = .ok (.invokevirtual 106, 3) := by decide +kernel
theorem d_Command_isWellFormed_11 : decode b_Command_isWellFormed 11 = .ok (.invokevirtual 111, 3) := by decide +kernel
theorem d_Command_isWellFormed_14 : decode b_Command_isWellFormed 14 = .ok (.ireturn, 1) := by decide +kernel
theorem d_Command_isWellFormed_19 : decode b_Command_isWellFormed 19 = .ok (.getfield 100, 3) := by decide +kernel
theorem d_Command_isWellFormed_22 : decode b_Command_isWellFormed 22 = .ok (.invokevirtual 103, 3) := by decide +kernel
theorem d_Command_isWellFormed_37 : decode b_Command_isWellFormed 37 = .ok (.invokevirtual 114, 3) := by decide +kernel
theorem d_Command_isWellFormed_44 : decode b_Command_isWellFormed 44 = .ok (.ireturn, 1) := by decide +kernel
theorem d_Command_isWellFormed_58 : decode b_Command_isWellFormed 58 = .ok (.getfield 100, 3) := by decide +kernel
theorem d_Command_isWellFormed_64 : decode b_Command_isWellFormed 64 = .ok (.invokevirtual 117, 3) := by decide +kernel
theorem d_Command_isWellFormed_67 : decode b_Command_isWellFormed 67 = .ok (.invokevirtual 120, 3) := by decide +kernel
theorem d_Command_isWellFormed_74 : decode b_Command_isWellFormed 74 = .ok (.ireturn, 1) := by decide +kernel
theorem d_Command_isWellFormed_82 : decode b_Command_isWellFormed 82 = .ok (.ireturn, 1) := by decide +kernel
def k_Command_hasOnlyKeys_0 : List sp_I := [(.aload_n 0, 1, 0, 0, 0, 0), (.getfield 20, 3, 4, 3, 0, 182), (.iconst 2, 1, 0, 0, 2, 0), (.if_icmp .lt 11, 3, 16, 0, 0, 0), (.aload_n 0, 1, 0, 0, 0, 0), (.getfield 20, 3, 4, 3, 0, 182), (.iconst 4, 1, 0, 0, 4, 0), (.if_icmp .le 5, 3, 18, 0, 0, 0)]
theorem e_Command_hasOnlyKeys_0 : sp_ok R_Command b_Command_hasOnlyKeys 2 k_Command_hasOnlyKeys_0 0 = true := by decide +kernel
def k_Command_hasOnlyKeys_16 : List sp_I := [(.iconst 0, 1, 0, 0, 0, 0)]
theorem e_Command_hasOnlyKeys_16 : sp_ok R_Command b_Command_hasOnlyKeys 2 k_Command_hasOnlyKeys_16 16 = true := by decide +kernel
def k_Command_hasOnlyKeys_18 : List sp_I := [(.iconst 1, 1, 0, 0, 1, 0), (.istore_n 1, 1, 1, 0, 0, 0)]
theorem e_Command_hasOnlyKeys_18 : sp_ok R_Command b_Command_hasOnlyKeys 2 k_Command_hasOnlyKeys_18 18 = true := by decide +kernel
def k_Command_hasOnlyKeys_20 : List sp_I := [(.iload_n 1, 1, 1, 0, 0, 0), (.aload_n 0, 1, 0, 0, 0, 0), (.getfield 20, 3, 4, 3, 0, 182), (.if_icmp .ge 21, 3, 46, 0, 0, 0), (.aload_n 0, 1, 0, 0, 0, 0), (.iload_n 1, 1, 1, 0, 0, 0)]
theorem e_Command_hasOnlyKeys_20 : sp_ok R_Command b_Command_hasOnlyKeys 2 k_Command_hasOnlyKeys_20 20 = true := by decide +kernel
def k_Command_hasOnlyKeys_33 : List sp_I := [(.bipush 8, 2, 0, 0, 8, 0), (.if_icmp .le 5, 3, 40, 0, 0, 0), (.iconst 0, 1, 0, 0, 0, 0)]
theorem e_Command_hasOnlyKeys_33 : sp_ok R_Command b_Command_hasOnlyKeys 2 k_Command_hasOnlyKeys_33 33 = true := by decide +kernel
def k_Command_hasOnlyKeys_40 : List sp_I := [(.iinc 1 1, 3, 1, 0, 1, 0), (.goto (-23), 3, 20, 0, 0, 0)]
theorem e_Command_hasOnlyKeys_40 : sp_ok R_Command b_Command_hasOnlyKeys 2 k_Command_hasOnlyKeys_40 40 = true := by decide +kernel
def k_Command_hasOnlyKeys_46 : List sp_I := [(.iconst 1, 1, 0, 0, 1, 0)]
theorem e_Command_hasOnlyKeys_46 : sp_ok R_Command b_Command_hasOnlyKeys 2 k_Command_hasOnlyKeys_46 46 = true := by decide +kernel
theorem d_Command_hasOnlyKeys_17 : decode b_Command_hasOnlyKeys 17 = .ok (.ireturn, 1) := by decide +kernel
theorem d_Command_hasOnlyKeys_30 : decode b_Command_hasOnlyKeys 30 = .ok (.invokevirtual 61, 3) := by decide +kernel
theorem d_Command_hasOnlyKeys_39 : decode b_Command_hasOnlyKeys 39 = .ok (.ireturn, 1) := by decide +kernel
theorem d_Command_hasOnlyKeys_47 : decode b_Command_hasOnlyKeys 47 = .ok (.ireturn, 1) := by decide +kernel
def k_Command_isOfKind_0 : List sp_I := [(.iload_n 2, 1, 2, 0, 0, 0), (.bipush 107, 2, 0, 0, 107, 0), (.if_icmp .ne 19, 3, 22, 0, 0, 0), (.aload_n 0, 1, 0, 0, 0, 0), (.iload_n 1, 1, 1, 0, 0, 0)]
theorem e_Command_isOfKind_0 : sp_ok R_Command b_Command_isOfKind 4 k_Command_isOfKind_0 0 = true := by decide +kernel
def k_Command_isOfKind_11 : List sp_I := [(.bipush 8, 2, 0, 0, 8, 0), (.if_icmp .gt 7, 3, 20, 0, 0, 0), (.iconst 1, 1, 0, 0, 1, 0), (.goto 4, 3, 21, 0, 0, 0)]
theorem e_Command_isOfKind_11 : sp_ok R_Command b_Command_isOfKind 4 k_Command_isOfKind_11 11 = true := by decide +kernel
def k_Command_isOfKind_20 : List sp_I := [(.iconst 0, 1, 0, 0, 0, 0)]
theorem e_Command_isOfKind_20 : sp_ok R_Command b_Command_isOfKind 4 k_Command_isOfKind_20 20 = true := by decide +kernel
def k_Command_isOfKind_22 : List sp_I := [(.iload_n 2, 1, 2, 0, 0, 0), (.bipush 108, 2, 0, 0, 108, 0), (.if_icmp .ne 15, 3, 40, 0, 0, 0), (.aload_n 0, 1, 0, 0, 0, 0), (.iload_n 1, 1, 1, 0, 0, 0)]
theorem e_Command_isOfKind_22 : sp_ok R_Command b_Command_isOfKind 4 k_Command_isOfKind_22 22 = true := by decide +kernel
def k_Command_isOfKind_33 : List sp_I := [(.ifCond .eq 7, 3, 40, 0, 0, 0), (.iconst 1, 1, 0, 0, 1, 0), (.goto 4, 3, 41, 0, 0, 0)]
theorem e_Command_isOfKind_33 : sp_ok R_Command b_Command_isOfKind 4 k_Command_isOfKind_33 33 = true := by decide +kernel
def k_Command_isOfKind_40 : List sp_I := [(.iconst 0, 1, 0, 0, 0, 0)]
theorem e_Command_isOfKind_40 : sp_ok R_Command b_Command_isOfKind 4 k_Command_isOfKind_40 40 = true := by decide +kernel
def k_Command_isOfKind_41 : List sp_I := [(.istore_n 3, 1, 3, 0, 0, 0), (.aload_n 0, 1, 0, 0, 0, 0), (.getfield 7, 3, 4, 0, 0, 179), (.aload_n 0, 1, 0, 0, 0, 0), (.iload_n 1, 1, 1, 0, 0, 0)]
theorem e_Command_isOfKind_41 : sp_ok R_Command b_Command_isOfKind 4 k_Command_isOfKind_41 41 = true := by decide +kernel
def k_Command_isOfKind_51 : List sp_I := [(.iload_n 3, 1, 3, 0, 0, 0), (.iadd, 1, 0, 0, 0, 0), (.aload_n 0, 1, 0, 0, 0, 0), (.iload_n 1, 1, 1, 0, 0, 0)]
theorem e_Command_isOfKind_51 : sp_ok R_Command b_Command_isOfKind 4 k_Command_isOfKind_51 51 = true := by decide +kernel
def k_Command_isOfKind_58 : List sp_I := [(.iload_n 3, 1, 3, 0, 0, 0), (.isub, 1, 0, 0, 0, 0)]
theorem e_Command_isOfKind_58 : sp_ok R_Command b_Command_isOfKind 4 k_Command_isOfKind_58 58 = true := by decide +kernel
theorem d_Command_isOfKind_8 : decode b_Command_isOfKind 8 = .ok (.invokevirtual 61, 3) := by decide +kernel
theorem d_Command_isOfKind_21 : decode b_Command_isOfKind 21 = .ok (.ireturn, 1) := by decide +kernel
theorem d_Command_isOfKind_30 : decode b_Command_isOfKind 30 = .ok (.invokevirtual 91, 3) := by decide +kernel
theorem d_Command_isOfKind_48 : decode b_Command_isOfKind 48 = .ok (.invokevirtual 57, 3) := by decide +kernel
theorem d_Command_isOfKind_55 : decode b_Command_isOfKind 55 = .ok (.invokevirtual 61, 3) := by decide +kernel
theorem d_Command_isOfKind_60 : decode b_Command_isOfKind 60 = .ok (.invokevirtual 124, 3) := by decide +kernel
theorem d_Command_isOfKind_63 : decode b_Command_isOfKind 63 = .ok (.ireturn, 1) := by decide +kernel
def k_Command_hasFittingData_0 : List sp_I := [(.aload_n 0, 1, 0, 0, 0, 0), (.getfield 33, 3, 4, 5, 0, 184)]
theorem e_Command_hasFittingData_0 : sp_ok R_Command b_Command_hasFittingData 1 k_Command_hasFittingData_0 0 = true := by decide +kernel
def k_Command_hasFittingData_7 : List sp_I := [(.ifCond .eq 23, 3, 30, 0, 0, 0), (.aload_n 0, 1, 0, 0, 0, 0)]
theorem e_Command_hasFittingData_7 : sp_ok R_Command b_Command_hasFittingData 1 k_Command_hasFittingData_7 7 = true := by decide +kernel
def k_Command_hasFittingData_14 : List sp_I := [(.aload_n 0, 1, 0, 0, 0, 0), (.iconst 4, 1, 0, 0, 4, 0)]
theorem e_Command_hasFittingData_14 : sp_ok R_Command b_Command_hasFittingData 1 k_Command_hasFittingData_14 14 = true := by decide +kernel
def k_Command_hasFittingData_19 : List sp_I := [(.if_icmp .ne 7, 3, 26, 0, 0, 0), (.iconst 1, 1, 0, 0, 1, 0), (.goto 19, 3, 42, 0, 0, 0)]
theorem e_Command_hasFittingData_19 : sp_ok R_Command b_Command_hasFittingData 1 k_Command_hasFittingData_19 19 = true := by decide +kernel
def k_Command_hasFittingData_26 : List sp_I := [(.iconst 0, 1, 0, 0, 0, 0), (.goto 15, 3, 42, 0, 0, 0)]
theorem e_Command_hasFittingData_26 : sp_ok R_Command b_Command_hasFittingData 1 k_Command_hasFittingData_26 26 = true := by decide +kernel
def k_Command_hasFittingData_30 : List sp_I := [(.aload_n 0, 1, 0, 0, 0, 0)]
theorem e_Command_hasFittingData_30 : sp_ok R_Command b_Command_hasFittingData 1 k_Command_hasFittingData_30 30 = true := by decide +kernel
def k_Command_hasFittingData_34 : List sp_I := [(.ifCond .ge 7, 3, 41, 0, 0, 0), (.iconst 1, 1, 0, 0, 1, 0), (.goto 4, 3, 42, 0, 0, 0)]
theorem e_Command_hasFittingData_34 : sp_ok R_Command b_Command_hasFittingData 1 k_Command_hasFittingData_34 34 = true := by decide +kernel
def k_Command_hasFittingData_41 : List sp_I := [(.iconst 0, 1, 0, 0, 0, 0)]
theorem e_Command_hasFittingData_41 : sp_ok R_Command b_Command_hasFittingData 1 k_Command_hasFittingData_41 41 = true := by decide +kernel
theorem d_Command_hasFittingData_4 : decode b_Command_hasFittingData 4 = .ok (.getfield 128, 3) := by decide +kernel
theorem d_Command_hasFittingData_11 : decode b_Command_hasFittingData 11 = .ok (.invokevirtual 132, 3) := by decide +kernel
theorem d_Command_hasFittingData_16 : decode b_Command_hasFittingData 16 = .ok (.invokevirtual 135, 3) := by decide +kernel
theorem d_Command_hasFittingData_31 : decode b_Command_hasFittingData 31 = .ok (.invokevirtual 132, 3) := by decide +kernel
theorem d_Command_hasFittingData_42 : decode b_Command_hasFittingData 42 = .ok (.ireturn, 1) := by decide +kernel
def k_Command_hasMinus_0 : List sp_I := [(.aload_n 0, 1, 0, 0, 0, 0), (.iload_n 1, 1, 1, 0, 0, 0)]
theorem e_Command_hasMinus_0 : sp_ok R_Command b_Command_hasMinus 2 k_Command_hasMinus_0 0 = true := by decide +kernel
def k_Command_hasMinus_5 : List sp_I := [(.ifCond .le 24, 3, 29, 0, 0, 0), (.aload_n 0, 1, 0, 0, 0, 0), (.getfield 7, 3, 4, 0, 0, 179), (.aload_n 0, 1, 0, 0, 0, 0), (.iload_n 1, 1, 1, 0, 0, 0)]
theorem e_Command_hasMinus_5 : sp_ok R_Command b_Command_hasMinus 2 k_Command_hasMinus_5 5 = true := by decide +kernel
def k_Command_hasMinus_20 : List sp_I := [(.bipush 45, 2, 0, 0, 45, 0), (.if_icmp .ne 7, 3, 29, 0, 0, 0), (.iconst 1, 1, 0, 0, 1, 0), (.goto 4, 3, 30, 0, 0, 0)]
theorem e_Command_hasMinus_20 : sp_ok R_Command b_Command_hasMinus 2 k_Command_hasMinus_20 20 = true := by decide +kernel
def k_Command_hasMinus_29 : List sp_I := [(.iconst 0, 1, 0, 0, 0, 0)]
theorem e_Command_hasMinus_29 : sp_ok R_Command b_Command_hasMinus 2 k_Command_hasMinus_29 29 = true := by decide +kernel
theorem d_Command_hasMinus_2 : decode b_Command_hasMinus 2 = .ok (.invokevirtual 61, 3) := by decide +kernel
theorem d_Command_hasMinus_14 : decode b_Command_hasMinus 14 = .ok (.invokevirtual 57, 3) := by decide +kernel
theorem d_Command_hasMinus_17 : decode b_Command_hasMinus 17 = .ok (.invokevirtual 49, 3) := by decide +kernel
theorem d_Command_hasMinus_30 : decode b_Command_hasMinus 30 = .ok (.ireturn, 1) := by decide +kernel
theorem w_Command_1 : sp_wO R_Command 1 [176, 95, 96] = true := by decide +kernel
theorem f_Command_7 : sp_wF R_Command 7 4 0 1 179 = true := by decide +kernel
theorem f_Command_13 : sp_wF R_Command 13 4 1 1 180 = true := by decide +kernel
theorem f_Command_17 : sp_wF R_Command 17 4 2 1 181 = true := by decide +kernel
theorem w_Command_36 : sp_wV R_Command 36 R_Text y_Text_firstBreak b_Text_firstBreak 2 (some .int) 0 [302, 303, 304, 68, 305] = true := by decide +kernel
theorem w_Command_42 : sp_wV R_Command 42 R_Command y_Command_splitWords b_Command_splitWords 4 none 0 [310, 312, 0, 72, 313] = true := by decide +kernel
theorem w_Command_45 : sp_wV R_Command 45 R_Command y_Command_firstVerb b_Command_firstVerb 5 (some (.object "SlabPantry$Verb")) 0 [315, 317, 1, 72, 318] = true := by decide +kernel
theorem w_Command_49 : sp_wV R_Command 49 R_Text y_Text_at b_Text_at 2 (some .char) 1 [314, 307, 308, 68, 309] = true := by decide +kernel
theorem w_Command_57 : sp_wV R_Command 57 R_Command y_Command_start b_Command_start 2 (some .int) 1 [321, 322, 323, 72, 324] = true := by decide +kernel
theorem w_Command_61 : sp_wV R_Command 61 R_Command y_Command_length b_Command_length 2 (some .int) 1 [325, 326, 327, 72, 328] = true := by decide +kernel
theorem w_Command_68 : sp_wV R_Command 68 R_Text y_Text_isWritten b_Text_isWritten 5 (some .boolean) 3 [329, 330, 331, 68, 332] = true := by decide +kernel
theorem w_Command_74 : sp_wV R_Command 74 R_Command y_Command_isWellFormed b_Command_isWellFormed 3 (some .boolean) 0 [386, 388, 2, 72, 389] = true := by decide +kernel
theorem w_Command_80 : sp_wV R_Command 80 R_Command y_Command_hasFittingData b_Command_hasFittingData 1 (some .boolean) 0 [422, 424, 6, 72, 425] = true := by decide +kernel
theorem w_Command_87 : sp_wV R_Command 87 R_Text y_Text_number b_Text_number 5 (some .int) 2 [439, 440, 441, 68, 442] = true := by decide +kernel
theorem w_Command_91 : sp_wV R_Command 91 R_Command y_Command_hasMinus b_Command_hasMinus 2 (some .boolean) 1 [413, 415, 5, 72, 416] = true := by decide +kernel
theorem w_Command_95 : sp_wV R_Command 95 R_Text y_Text_length b_Text_length 1 (some .int) 0 [430, 275, 276, 68, 277] = true := by decide +kernel
theorem w_Command_97 : sp_wV R_Command 97 R_Command y_Command_dataStart b_Command_dataStart 1 (some .int) 0 [431, 432, 433, 72, 434] = true := by decide +kernel
theorem w_Command_103 : sp_wV R_Command 103 R_String y_String_length b_String_length 1 (some .int) 0 [402, 334, 335, 77, 336] = true := by decide +kernel
theorem w_Command_106 : sp_wV R_Command 106 R_Verb y_Verb_takesSeveralKeys b_Verb_takesSeveralKeys 1 (some .boolean) 0 [390, 391, 392, 74, 393] = true := by decide +kernel
theorem w_Command_111 : sp_wV R_Command 111 R_Command y_Command_hasOnlyKeys b_Command_hasOnlyKeys 2 (some .boolean) 0 [398, 400, 3, 72, 401] = true := by decide +kernel
theorem w_Command_114 : sp_wV R_Command 114 R_Command y_Command_hasNoreply b_Command_hasNoreply 2 (some .boolean) 0 [403, 404, 405, 72, 406] = true := by decide +kernel
theorem w_Command_117 : sp_wV R_Command 117 R_String y_String_charAt b_String_charAt 2 (some .char) 1 [408, 344, 345, 77, 346] = true := by decide +kernel
theorem w_Command_120 : sp_wV R_Command 120 R_Command y_Command_isOfKind b_Command_isOfKind 4 (some .boolean) 2 [409, 411, 4, 72, 412] = true := by decide +kernel
theorem w_Command_124 : sp_wV R_Command 124 R_Text y_Text_isNumber b_Text_isNumber 5 (some .boolean) 2 [417, 418, 419, 68, 420] = true := by decide +kernel
theorem w_Command_132 : sp_wV R_Command 132 R_Command y_Command_dataLength b_Command_dataLength 1 (some .int) 0 [426, 427, 428, 72, 429] = true := by decide +kernel
theorem w_Command_135 : sp_wV R_Command 135 R_Command y_Command_number b_Command_number 2 (some .int) 1 [435, 436, 437, 72, 438] = true := by decide +kernel
