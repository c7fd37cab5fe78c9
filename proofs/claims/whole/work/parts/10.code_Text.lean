def k_Text_init_0 : List sp_I := [(.aload_n 0, 1, 0, 0, 0, 0)]
theorem e_Text_init_0 : sp_ok R_Text b_Text_init 2 k_Text_init_0 0 = true := by decide +kernel
def k_Text_init_4 : List sp_I := [(.aload_n 0, 1, 0, 0, 0, 0), (.iload_n 1, 1, 1, 0, 0, 0)]
theorem e_Text_init_4 : sp_ok R_Text b_Text_init 2 k_Text_init_4 4 = true := by decide +kernel
def k_Text_init_11 : List sp_I := [(.aload_n 0, 1, 0, 0, 0, 0), (.iconst 0, 1, 0, 0, 0, 0), (.putfield 13, 3, 0, 1, 0, 104)]
theorem e_Text_init_11 : sp_ok R_Text b_Text_init 2 k_Text_init_11 11 = true := by decide +kernel
theorem d_Text_init_1 : decode b_Text_init 1 = .ok (.invokespecial 1, 3) := by decide +kernel
theorem d_Text_init_6 : decode b_Text_init 6 = .ok (.newarray .char, 2) := by decide +kernel
theorem d_Text_init_8 : decode b_Text_init 8 = .ok (.putfield 7, 3) := by decide +kernel
theorem d_Text_init_16 : decode b_Text_init 16 = .ok (.return_, 1) := by decide +kernel
def k_Text_isCharacter_0 : List sp_I := [(.iload_n 0, 1, 0, 0, 0, 0), (.bipush 10, 2, 0, 0, 10, 0), (.if_icmp .eq 15, 3, 18, 0, 0, 0), (.iload_n 0, 1, 0, 0, 0, 0), (.bipush 32, 2, 0, 0, 32, 0), (.if_icmp .lt 13, 3, 22, 0, 0, 0), (.iload_n 0, 1, 0, 0, 0, 0), (.bipush 126, 2, 0, 0, 126, 0), (.if_icmp .gt 7, 3, 22, 0, 0, 0)]
theorem e_Text_isCharacter_0 : sp_ok R_Text b_Text_isCharacter 1 k_Text_isCharacter_0 0 = true := by decide +kernel
def k_Text_isCharacter_18 : List sp_I := [(.iconst 1, 1, 0, 0, 1, 0), (.goto 4, 3, 23, 0, 0, 0)]
theorem e_Text_isCharacter_18 : sp_ok R_Text b_Text_isCharacter 1 k_Text_isCharacter_18 18 = true := by decide +kernel
def k_Text_isCharacter_22 : List sp_I := [(.iconst 0, 1, 0, 0, 0, 0)]
theorem e_Text_isCharacter_22 : sp_ok R_Text b_Text_isCharacter 1 k_Text_isCharacter_22 22 = true := by decide +kernel
theorem d_Text_isCharacter_23 : decode b_Text_isCharacter 23 = .ok (.ireturn, 1) := by decide +kernel
def k_Text_length_0 : List sp_I := [(.aload_n 0, 1, 0, 0, 0, 0), (.getfield 13, 3, 0, 1, 0, 104)]
theorem e_Text_length_0 : sp_ok R_Text b_Text_length 1 k_Text_length_0 0 = true := by decide +kernel
theorem d_Text_length_4 : decode b_Text_length 4 = .ok (.ireturn, 1) := by decide +kernel
def k_Text_at_0 : List sp_I := [(.iload_n 1, 1, 1, 0, 0, 0), (.ifCond .lt 20, 3, 21, 0, 0, 0), (.iload_n 1, 1, 1, 0, 0, 0), (.aload_n 0, 1, 0, 0, 0, 0), (.getfield 13, 3, 0, 1, 0, 104), (.if_icmp .ge 12, 3, 21, 0, 0, 0), (.aload_n 0, 1, 0, 0, 0, 0), (.getfield 7, 3, 0, 0, 0, 103), (.iload_n 1, 1, 1, 0, 0, 0), (.caload, 1, 0, 0, 0, 0), (.goto 4, 3, 22, 0, 0, 0)]
theorem e_Text_at_0 : sp_ok R_Text b_Text_at 2 k_Text_at_0 0 = true := by decide +kernel
def k_Text_at_21 : List sp_I := [(.iconst 0, 1, 0, 0, 0, 0)]
theorem e_Text_at_21 : sp_ok R_Text b_Text_at 2 k_Text_at_21 21 = true := by decide +kernel
theorem d_Text_at_22 : decode b_Text_at 22 = .ok (.ireturn, 1) := by decide +kernel
def k_Text_clear_0 : List sp_I := [(.aload_n 0, 1, 0, 0, 0, 0), (.iconst 0, 1, 0, 0, 0, 0), (.putfield 13, 3, 0, 1, 0, 104)]
theorem e_Text_clear_0 : sp_ok R_Text b_Text_clear 1 k_Text_clear_0 0 = true := by decide +kernel
theorem d_Text_clear_5 : decode b_Text_clear 5 = .ok (.return_, 1) := by decide +kernel
def k_Text_add_0 : List sp_I := [(.aload_n 0, 1, 0, 0, 0, 0), (.getfield 13, 3, 0, 1, 0, 104), (.aload_n 0, 1, 0, 0, 0, 0), (.getfield 7, 3, 0, 0, 0, 103), (.arraylength, 1, 0, 0, 0, 0), (.if_icmp .ge 23, 3, 32, 0, 0, 0), (.aload_n 0, 1, 0, 0, 0, 0), (.getfield 7, 3, 0, 0, 0, 103), (.aload_n 0, 1, 0, 0, 0, 0), (.getfield 13, 3, 0, 1, 0, 104), (.iload_n 1, 1, 1, 0, 0, 0), (.castore, 1, 0, 0, 0, 0), (.aload_n 0, 1, 0, 0, 0, 0), (.dup, 1, 0, 0, 0, 0), (.getfield 13, 3, 0, 1, 0, 104), (.iconst 1, 1, 0, 0, 1, 0), (.iadd, 1, 0, 0, 0, 0), (.putfield 13, 3, 0, 1, 0, 104)]
theorem e_Text_add_0 : sp_ok R_Text b_Text_add 2 k_Text_add_0 0 = true := by decide +kernel
theorem d_Text_add_32 : decode b_Text_add 32 = .ok (.return_, 1) := by decide +kernel
def k_Text_addWritten_0 : List sp_I := [(.iconst 0, 1, 0, 0, 0, 0), (.istore_n 2, 1, 2, 0, 0, 0)]
theorem e_Text_addWritten_0 : sp_ok R_Text b_Text_addWritten 3 k_Text_addWritten_0 0 = true := by decide +kernel
def k_Text_addWritten_2 : List sp_I := [(.iload_n 2, 1, 2, 0, 0, 0), (.aload_n 1, 1, 1, 0, 0, 0)]
theorem e_Text_addWritten_2 : sp_ok R_Text b_Text_addWritten 3 k_Text_addWritten_2 2 = true := by decide +kernel
def k_Text_addWritten_7 : List sp_I := [(.if_icmp .ge 18, 3, 25, 0, 0, 0), (.aload_n 0, 1, 0, 0, 0, 0), (.aload_n 1, 1, 1, 0, 0, 0), (.iload_n 2, 1, 2, 0, 0, 0)]
theorem e_Text_addWritten_7 : sp_ok R_Text b_Text_addWritten 3 k_Text_addWritten_7 7 = true := by decide +kernel
def k_Text_addWritten_19 : List sp_I := [(.iinc 2 1, 3, 2, 0, 1, 0), (.goto (-20), 3, 2, 0, 0, 0)]
theorem e_Text_addWritten_19 : sp_ok R_Text b_Text_addWritten 3 k_Text_addWritten_19 19 = true := by decide +kernel
theorem d_Text_addWritten_4 : decode b_Text_addWritten 4 = .ok (.invokevirtual 17, 3) := by decide +kernel
theorem d_Text_addWritten_13 : decode b_Text_addWritten 13 = .ok (.invokevirtual 22, 3) := by decide +kernel
theorem d_Text_addWritten_16 : decode b_Text_addWritten 16 = .ok (.invokevirtual 26, 3) := by decide +kernel
theorem d_Text_addWritten_25 : decode b_Text_addWritten 25 = .ok (.return_, 1) := by decide +kernel
def k_Text_addPart_0 : List sp_I := [(.iconst 0, 1, 0, 0, 0, 0), (.istore 4, 2, 4, 0, 0, 0)]
theorem e_Text_addPart_0 : sp_ok R_Text b_Text_addPart 5 k_Text_addPart_0 0 = true := by decide +kernel
def k_Text_addPart_3 : List sp_I := [(.iload 4, 2, 4, 0, 0, 0), (.iload_n 3, 1, 3, 0, 0, 0), (.if_icmp .ge 21, 3, 27, 0, 0, 0), (.aload_n 0, 1, 0, 0, 0, 0), (.aload_n 1, 1, 1, 0, 0, 0), (.iload_n 2, 1, 2, 0, 0, 0), (.iload 4, 2, 4, 0, 0, 0), (.iadd, 1, 0, 0, 0, 0)]
theorem e_Text_addPart_3 : sp_ok R_Text b_Text_addPart 5 k_Text_addPart_3 3 = true := by decide +kernel
def k_Text_addPart_21 : List sp_I := [(.iinc 4 1, 3, 4, 0, 1, 0), (.goto (-21), 3, 3, 0, 0, 0)]
theorem e_Text_addPart_21 : sp_ok R_Text b_Text_addPart 5 k_Text_addPart_21 21 = true := by decide +kernel
theorem d_Text_addPart_15 : decode b_Text_addPart 15 = .ok (.invokevirtual 30, 3) := by decide +kernel
theorem d_Text_addPart_18 : decode b_Text_addPart 18 = .ok (.invokevirtual 26, 3) := by decide +kernel
theorem d_Text_addPart_27 : decode b_Text_addPart 27 = .ok (.return_, 1) := by decide +kernel
def k_Text_addNumber_0 : List sp_I := [(.ldc 33, 2, 527, 1, 1000000000, 0), (.istore_n 2, 1, 2, 0, 0, 0)]
theorem e_Text_addNumber_0 : sp_ok R_Text b_Text_addNumber 3 k_Text_addNumber_0 0 = true := by decide +kernel
def k_Text_addNumber_3 : List sp_I := [(.iload_n 2, 1, 2, 0, 0, 0), (.ifCond .le 35, 3, 39, 0, 0, 0), (.iload_n 1, 1, 1, 0, 0, 0), (.iload_n 2, 1, 2, 0, 0, 0), (.if_icmp .ge 8, 3, 17, 0, 0, 0), (.iload_n 2, 1, 2, 0, 0, 0), (.iconst 1, 1, 0, 0, 1, 0), (.if_icmp .ne 17, 3, 31, 0, 0, 0)]
theorem e_Text_addNumber_3 : sp_ok R_Text b_Text_addNumber 3 k_Text_addNumber_3 3 = true := by decide +kernel
def k_Text_addNumber_17 : List sp_I := [(.aload_n 0, 1, 0, 0, 0, 0), (.bipush 48, 2, 0, 0, 48, 0), (.iload_n 1, 1, 1, 0, 0, 0), (.iload_n 2, 1, 2, 0, 0, 0), (.idiv, 1, 0, 0, 0, 0), (.bipush 10, 2, 0, 0, 10, 0), (.irem, 1, 0, 0, 0, 0), (.iadd, 1, 0, 0, 0, 0), (.i2c, 1, 0, 0, 0, 0)]
theorem e_Text_addNumber_17 : sp_ok R_Text b_Text_addNumber 3 k_Text_addNumber_17 17 = true := by decide +kernel
def k_Text_addNumber_31 : List sp_I := [(.iload_n 2, 1, 2, 0, 0, 0), (.bipush 10, 2, 0, 0, 10, 0), (.idiv, 1, 0, 0, 0, 0), (.istore_n 2, 1, 2, 0, 0, 0), (.goto (-33), 3, 3, 0, 0, 0)]
theorem e_Text_addNumber_31 : sp_ok R_Text b_Text_addNumber 3 k_Text_addNumber_31 31 = true := by decide +kernel
theorem d_Text_addNumber_28 : decode b_Text_addNumber 28 = .ok (.invokevirtual 26, 3) := by decide +kernel
theorem d_Text_addNumber_39 : decode b_Text_addNumber 39 = .ok (.return_, 1) := by decide +kernel
def k_Text_isWritten_0 : List sp_I := [(.iload_n 2, 1, 2, 0, 0, 0), (.aload_n 3, 1, 3, 0, 0, 0)]
theorem e_Text_isWritten_0 : sp_ok R_Text b_Text_isWritten 5 k_Text_isWritten_0 0 = true := by decide +kernel
def k_Text_isWritten_5 : List sp_I := [(.if_icmp .eq 5, 3, 10, 0, 0, 0), (.iconst 0, 1, 0, 0, 0, 0)]
theorem e_Text_isWritten_5 : sp_ok R_Text b_Text_isWritten 5 k_Text_isWritten_5 5 = true := by decide +kernel
def k_Text_isWritten_10 : List sp_I := [(.iconst 0, 1, 0, 0, 0, 0), (.istore 4, 2, 4, 0, 0, 0)]
theorem e_Text_isWritten_10 : sp_ok R_Text b_Text_isWritten 5 k_Text_isWritten_10 10 = true := by decide +kernel
def k_Text_isWritten_13 : List sp_I := [(.iload 4, 2, 4, 0, 0, 0), (.iload_n 2, 1, 2, 0, 0, 0), (.if_icmp .ge 28, 3, 44, 0, 0, 0), (.aload_n 0, 1, 0, 0, 0, 0), (.iload_n 1, 1, 1, 0, 0, 0), (.iload 4, 2, 4, 0, 0, 0), (.iadd, 1, 0, 0, 0, 0)]
theorem e_Text_isWritten_13 : sp_ok R_Text b_Text_isWritten 5 k_Text_isWritten_13 13 = true := by decide +kernel
def k_Text_isWritten_27 : List sp_I := [(.aload_n 3, 1, 3, 0, 0, 0), (.iload 4, 2, 4, 0, 0, 0)]
theorem e_Text_isWritten_27 : sp_ok R_Text b_Text_isWritten 5 k_Text_isWritten_27 27 = true := by decide +kernel
def k_Text_isWritten_33 : List sp_I := [(.if_icmp .eq 5, 3, 38, 0, 0, 0), (.iconst 0, 1, 0, 0, 0, 0)]
theorem e_Text_isWritten_33 : sp_ok R_Text b_Text_isWritten 5 k_Text_isWritten_33 33 = true := by decide +kernel
def k_Text_isWritten_38 : List sp_I := [(.iinc 4 1, 3, 4, 0, 1, 0), (.goto (-28), 3, 13, 0, 0, 0)]
theorem e_Text_isWritten_38 : sp_ok R_Text b_Text_isWritten 5 k_Text_isWritten_38 38 = true := by decide +kernel
def k_Text_isWritten_44 : List sp_I := [(.iconst 1, 1, 0, 0, 1, 0)]
theorem e_Text_isWritten_44 : sp_ok R_Text b_Text_isWritten 5 k_Text_isWritten_44 44 = true := by decide +kernel
theorem d_Text_isWritten_2 : decode b_Text_isWritten 2 = .ok (.invokevirtual 17, 3) := by decide +kernel
theorem d_Text_isWritten_9 : decode b_Text_isWritten 9 = .ok (.ireturn, 1) := by decide +kernel
theorem d_Text_isWritten_24 : decode b_Text_isWritten 24 = .ok (.invokevirtual 30, 3) := by decide +kernel
theorem d_Text_isWritten_30 : decode b_Text_isWritten 30 = .ok (.invokevirtual 22, 3) := by decide +kernel
theorem d_Text_isWritten_37 : decode b_Text_isWritten 37 = .ok (.ireturn, 1) := by decide +kernel
theorem d_Text_isWritten_45 : decode b_Text_isWritten 45 = .ok (.ireturn, 1) := by decide +kernel
def k_Text_isNumber_0 : List sp_I := [(.iload_n 2, 1, 2, 0, 0, 0), (.iconst 1, 1, 0, 0, 1, 0), (.if_icmp .lt 9, 3, 11, 0, 0, 0), (.iload_n 2, 1, 2, 0, 0, 0), (.bipush 9, 2, 0, 0, 9, 0), (.if_icmp .le 5, 3, 13, 0, 0, 0)]
theorem e_Text_isNumber_0 : sp_ok R_Text b_Text_isNumber 5 k_Text_isNumber_0 0 = true := by decide +kernel
def k_Text_isNumber_11 : List sp_I := [(.iconst 0, 1, 0, 0, 0, 0)]
theorem e_Text_isNumber_11 : sp_ok R_Text b_Text_isNumber 5 k_Text_isNumber_11 11 = true := by decide +kernel
def k_Text_isNumber_13 : List sp_I := [(.iconst 0, 1, 0, 0, 0, 0), (.istore_n 3, 1, 3, 0, 0, 0)]
theorem e_Text_isNumber_13 : sp_ok R_Text b_Text_isNumber 5 k_Text_isNumber_13 13 = true := by decide +kernel
def k_Text_isNumber_15 : List sp_I := [(.iload_n 3, 1, 3, 0, 0, 0), (.iload_n 2, 1, 2, 0, 0, 0), (.if_icmp .ge 34, 3, 51, 0, 0, 0), (.aload_n 0, 1, 0, 0, 0, 0), (.iload_n 1, 1, 1, 0, 0, 0), (.iload_n 3, 1, 3, 0, 0, 0), (.iadd, 1, 0, 0, 0, 0)]
theorem e_Text_isNumber_15 : sp_ok R_Text b_Text_isNumber 5 k_Text_isNumber_15 15 = true := by decide +kernel
def k_Text_isNumber_27 : List sp_I := [(.istore 4, 2, 4, 0, 0, 0), (.iload 4, 2, 4, 0, 0, 0), (.bipush 48, 2, 0, 0, 48, 0), (.if_icmp .lt 10, 3, 43, 0, 0, 0), (.iload 4, 2, 4, 0, 0, 0), (.bipush 57, 2, 0, 0, 57, 0), (.if_icmp .le 5, 3, 45, 0, 0, 0)]
theorem e_Text_isNumber_27 : sp_ok R_Text b_Text_isNumber 5 k_Text_isNumber_27 27 = true := by decide +kernel
def k_Text_isNumber_43 : List sp_I := [(.iconst 0, 1, 0, 0, 0, 0)]
theorem e_Text_isNumber_43 : sp_ok R_Text b_Text_isNumber 5 k_Text_isNumber_43 43 = true := by decide +kernel
def k_Text_isNumber_45 : List sp_I := [(.iinc 3 1, 3, 3, 0, 1, 0), (.goto (-33), 3, 15, 0, 0, 0)]
theorem e_Text_isNumber_45 : sp_ok R_Text b_Text_isNumber 5 k_Text_isNumber_45 45 = true := by decide +kernel
def k_Text_isNumber_51 : List sp_I := [(.iconst 1, 1, 0, 0, 1, 0)]
theorem e_Text_isNumber_51 : sp_ok R_Text b_Text_isNumber 5 k_Text_isNumber_51 51 = true := by decide +kernel
theorem d_Text_isNumber_12 : decode b_Text_isNumber 12 = .ok (.ireturn, 1) := by decide +kernel
theorem d_Text_isNumber_24 : decode b_Text_isNumber 24 = .ok (.invokevirtual 30, 3) := by decide +kernel
theorem d_Text_isNumber_44 : decode b_Text_isNumber 44 = .ok (.ireturn, 1) := by decide +kernel
theorem d_Text_isNumber_52 : decode b_Text_isNumber 52 = .ok (.ireturn, 1) := by decide +kernel
def k_Text_number_0 : List sp_I := [(.iconst 0, 1, 0, 0, 0, 0), (.istore_n 3, 1, 3, 0, 0, 0), (.iconst 0, 1, 0, 0, 0, 0), (.istore 4, 2, 4, 0, 0, 0)]
theorem e_Text_number_0 : sp_ok R_Text b_Text_number 5 k_Text_number_0 0 = true := by decide +kernel
def k_Text_number_5 : List sp_I := [(.iload 4, 2, 4, 0, 0, 0), (.iload_n 2, 1, 2, 0, 0, 0), (.if_icmp .ge 26, 3, 34, 0, 0, 0), (.iload_n 3, 1, 3, 0, 0, 0), (.bipush 10, 2, 0, 0, 10, 0), (.imul, 1, 0, 0, 0, 0), (.aload_n 0, 1, 0, 0, 0, 0), (.iload_n 1, 1, 1, 0, 0, 0), (.iload 4, 2, 4, 0, 0, 0), (.iadd, 1, 0, 0, 0, 0)]
theorem e_Text_number_5 : sp_ok R_Text b_Text_number 5 k_Text_number_5 5 = true := by decide +kernel
def k_Text_number_23 : List sp_I := [(.bipush 48, 2, 0, 0, 48, 0), (.isub, 1, 0, 0, 0, 0), (.iadd, 1, 0, 0, 0, 0), (.istore_n 3, 1, 3, 0, 0, 0), (.iinc 4 1, 3, 4, 0, 1, 0), (.goto (-26), 3, 5, 0, 0, 0)]
theorem e_Text_number_23 : sp_ok R_Text b_Text_number 5 k_Text_number_23 23 = true := by decide +kernel
def k_Text_number_34 : List sp_I := [(.iload_n 3, 1, 3, 0, 0, 0)]
theorem e_Text_number_34 : sp_ok R_Text b_Text_number 5 k_Text_number_34 34 = true := by decide +kernel
theorem d_Text_number_20 : decode b_Text_number 20 = .ok (.invokevirtual 30, 3) := by decide +kernel
theorem d_Text_number_35 : decode b_Text_number 35 = .ok (.ireturn, 1) := by decide +kernel
def k_Text_firstBreak_0 : List sp_I := [(.iconst 0, 1, 0, 0, 0, 0), (.istore_n 1, 1, 1, 0, 0, 0)]
theorem e_Text_firstBreak_0 : sp_ok R_Text b_Text_firstBreak 2 k_Text_firstBreak_0 0 = true := by decide +kernel
def k_Text_firstBreak_2 : List sp_I := [(.iload_n 1, 1, 1, 0, 0, 0), (.aload_n 0, 1, 0, 0, 0, 0), (.getfield 13, 3, 0, 1, 0, 104), (.if_icmp .ge 21, 3, 28, 0, 0, 0), (.aload_n 0, 1, 0, 0, 0, 0), (.iload_n 1, 1, 1, 0, 0, 0)]
theorem e_Text_firstBreak_2 : sp_ok R_Text b_Text_firstBreak 2 k_Text_firstBreak_2 2 = true := by decide +kernel
def k_Text_firstBreak_15 : List sp_I := [(.bipush 10, 2, 0, 0, 10, 0), (.if_icmp .ne 5, 3, 22, 0, 0, 0), (.iload_n 1, 1, 1, 0, 0, 0)]
theorem e_Text_firstBreak_15 : sp_ok R_Text b_Text_firstBreak 2 k_Text_firstBreak_15 15 = true := by decide +kernel
def k_Text_firstBreak_22 : List sp_I := [(.iinc 1 1, 3, 1, 0, 1, 0), (.goto (-23), 3, 2, 0, 0, 0)]
theorem e_Text_firstBreak_22 : sp_ok R_Text b_Text_firstBreak 2 k_Text_firstBreak_22 22 = true := by decide +kernel
def k_Text_firstBreak_28 : List sp_I := [(.aload_n 0, 1, 0, 0, 0, 0), (.getfield 13, 3, 0, 1, 0, 104)]
theorem e_Text_firstBreak_28 : sp_ok R_Text b_Text_firstBreak 2 k_Text_firstBreak_28 28 = true := by decide +kernel
theorem d_Text_firstBreak_12 : decode b_Text_firstBreak 12 = .ok (.invokevirtual 30, 3) := by decide +kernel
theorem d_Text_firstBreak_21 : decode b_Text_firstBreak 21 = .ok (.ireturn, 1) := by decide +kernel
theorem d_Text_firstBreak_32 : decode b_Text_firstBreak 32 = .ok (.ireturn, 1) := by decide +kernel
theorem w_Text_1 : sp_wO R_Text 1 [102, 95, 96] = true := by decide +kernel
theorem f_Text_7 : sp_wF R_Text 7 0 0 1 103 = true := by decide +kernel
theorem w_Text_17 : sp_wV R_Text 17 R_String y_String_length b_String_length 1 (some .int) 0 [333, 334, 335, 77, 336] = true := by decide +kernel
theorem w_Text_22 : sp_wV R_Text 22 R_String y_String_charAt b_String_charAt 2 (some .char) 1 [343, 344, 345, 77, 346] = true := by decide +kernel
theorem w_Text_26 : sp_wV R_Text 26 R_Text y_Text_add b_Text_add 2 none 1 [449, 279, 280, 68, 281] = true := by decide +kernel
theorem w_Text_30 : sp_wV R_Text 30 R_Text y_Text_at b_Text_at 2 (some .char) 1 [306, 307, 308, 68, 309] = true := by decide +kernel
theorem w_String_335 : sp_wV R_String 335 R_String y_String_coder b_String_coder 1 (some .byte) 0 [337, 338, 339, 77, 340] = true := by decide +kernel
theorem w_String_492 : sp_wV R_String 492 R_String y_String_isLatin1 b_String_isLatin1 1 (some .boolean) 0 [347, 348, 349, 77, 350] = true := by decide +kernel
theorem w_String_495 : sp_wS R_String 495 y_Latin1_charAt b_Latin1_charAt 2 (some .char) 2 [351, 352, 78, 353] = true := by decide +kernel
theorem w_String_1059 : sp_wS R_String 1059 y_Pre_checkIndex b_Pre_checkIndex 3 (some .int) 3 [359, 360, 79, 361] = true := by decide +kernel
theorem w_Latin1_9 : sp_wS R_Latin1 9 y_String_checkIndex b_String_checkIndex 2 none 2 [354, 355, 77, 356] = true := by decide +kernel
