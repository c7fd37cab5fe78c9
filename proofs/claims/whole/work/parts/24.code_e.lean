def k_SP_init_0 : List sp_I := [(.aload_n 0, 1, 0, 0, 0, 0)]
theorem e_SP_init_0 : sp_ok R_SP b_SP_init 1 k_SP_init_0 0 = true := by decide +kernel
def k_SP_init_4 : List sp_I := [(.aload_n 0, 1, 0, 0, 0, 0)]
theorem e_SP_init_4 : sp_ok R_SP b_SP_init 1 k_SP_init_4 4 = true := by decide +kernel
def k_SP_init_8 : List sp_I := [(.dup, 1, 0, 0, 0, 0), (.sipush 140, 3, 0, 0, 140, 0)]
theorem e_SP_init_8 : sp_ok R_SP b_SP_init 1 k_SP_init_8 8 = true := by decide +kernel
def k_SP_init_18 : List sp_I := [(.aload_n 0, 1, 0, 0, 0, 0)]
theorem e_SP_init_18 : sp_ok R_SP b_SP_init 1 k_SP_init_18 18 = true := by decide +kernel
def k_SP_init_22 : List sp_I := [(.dup, 1, 0, 0, 0, 0), (.sipush 300, 3, 0, 0, 300, 0)]
theorem e_SP_init_22 : sp_ok R_SP b_SP_init 1 k_SP_init_22 22 = true := by decide +kernel
def k_SP_init_32 : List sp_I := [(.aload_n 0, 1, 0, 0, 0, 0)]
theorem e_SP_init_32 : sp_ok R_SP b_SP_init 1 k_SP_init_32 32 = true := by decide +kernel
def k_SP_init_36 : List sp_I := [(.dup, 1, 0, 0, 0, 0)]
theorem e_SP_init_36 : sp_ok R_SP b_SP_init 1 k_SP_init_36 36 = true := by decide +kernel
def k_SP_init_43 : List sp_I := [(.aload_n 0, 1, 0, 0, 0, 0)]
theorem e_SP_init_43 : sp_ok R_SP b_SP_init 1 k_SP_init_43 43 = true := by decide +kernel
def k_SP_init_47 : List sp_I := [(.dup, 1, 0, 0, 0, 0), (.aload_n 0, 1, 0, 0, 0, 0), (.getfield 14, 3, 7, 0, 0, 251), (.aload_n 0, 1, 0, 0, 0, 0), (.getfield 20, 3, 7, 1, 0, 252), (.aload_n 0, 1, 0, 0, 0, 0), (.getfield 26, 3, 7, 2, 0, 253)]
theorem e_SP_init_47 : sp_ok R_SP b_SP_init 1 k_SP_init_47 47 = true := by decide +kernel
theorem d_SP_init_1 : decode b_SP_init 1 = .ok (.invokespecial 1, 3) := by decide +kernel
theorem d_SP_init_5 : decode b_SP_init 5 = .ok (.new 7, 3) := by decide +kernel
theorem d_SP_init_12 : decode b_SP_init 12 = .ok (.invokespecial 11, 3) := by decide +kernel
theorem d_SP_init_15 : decode b_SP_init 15 = .ok (.putfield 14, 3) := by decide +kernel
theorem d_SP_init_19 : decode b_SP_init 19 = .ok (.new 7, 3) := by decide +kernel
theorem d_SP_init_26 : decode b_SP_init 26 = .ok (.invokespecial 11, 3) := by decide +kernel
theorem d_SP_init_29 : decode b_SP_init 29 = .ok (.putfield 20, 3) := by decide +kernel
theorem d_SP_init_33 : decode b_SP_init 33 = .ok (.new 23, 3) := by decide +kernel
theorem d_SP_init_37 : decode b_SP_init 37 = .ok (.invokespecial 25, 3) := by decide +kernel
theorem d_SP_init_40 : decode b_SP_init 40 = .ok (.putfield 26, 3) := by decide +kernel
theorem d_SP_init_44 : decode b_SP_init 44 = .ok (.new 18, 3) := by decide +kernel
theorem d_SP_init_60 : decode b_SP_init 60 = .ok (.invokespecial 30, 3) := by decide +kernel
theorem d_SP_init_63 : decode b_SP_init 63 = .ok (.putfield 33, 3) := by decide +kernel
theorem d_SP_init_66 : decode b_SP_init 66 = .ok (.return_, 1) := by decide +kernel
def k_SP_write_0 : List sp_I := [(.iconst 0, 1, 0, 0, 0, 0), (.istore_n 3, 1, 3, 0, 0, 0), (.iconst 0, 1, 0, 0, 0, 0), (.istore 4, 2, 4, 0, 0, 0)]
theorem e_SP_write_0 : sp_ok R_SP b_SP_write 6 k_SP_write_0 0 = true := by decide +kernel
def k_SP_write_5 : List sp_I := [(.iload 4, 2, 4, 0, 0, 0), (.bipush 8, 2, 0, 0, 8, 0), (.if_icmp .ge 40, 3, 49, 0, 0, 0), (.lload_n 1, 1, 1, 0, 0, 0), (.iload 4, 2, 4, 0, 0, 0)]
theorem e_SP_write_5 : sp_ok R_SP b_SP_write 6 k_SP_write_5 5 = true := by decide +kernel
def k_SP_write_18 : List sp_I := [(.istore 5, 2, 5, 0, 0, 0), (.iload 5, 2, 5, 0, 0, 0), (.ifCond .eq 13, 3, 35, 0, 0, 0), (.iload 5, 2, 5, 0, 0, 0)]
theorem e_SP_write_18 : sp_ok R_SP b_SP_write 6 k_SP_write_18 18 = true := by decide +kernel
def k_SP_write_30 : List sp_I := [(.ifCond .ne 5, 3, 35, 0, 0, 0), (.iconst 0, 1, 0, 0, 0, 0)]
theorem e_SP_write_30 : sp_ok R_SP b_SP_write 6 k_SP_write_30 30 = true := by decide +kernel
def k_SP_write_35 : List sp_I := [(.iload 5, 2, 5, 0, 0, 0), (.ifCond .eq 6, 3, 43, 0, 0, 0), (.iinc 3 1, 3, 3, 0, 1, 0)]
theorem e_SP_write_35 : sp_ok R_SP b_SP_write 6 k_SP_write_35 35 = true := by decide +kernel
def k_SP_write_43 : List sp_I := [(.iinc 4 1, 3, 4, 0, 1, 0), (.goto (-41), 3, 5, 0, 0, 0)]
theorem e_SP_write_43 : sp_ok R_SP b_SP_write 6 k_SP_write_43 43 = true := by decide +kernel
def k_SP_write_49 : List sp_I := [(.aload_n 0, 1, 0, 0, 0, 0), (.getfield 14, 3, 7, 0, 0, 251)]
theorem e_SP_write_49 : sp_ok R_SP b_SP_write 6 k_SP_write_49 49 = true := by decide +kernel
def k_SP_write_56 : List sp_I := [(.iload_n 3, 1, 3, 0, 0, 0), (.iadd, 1, 0, 0, 0, 0), (.sipush 140, 3, 0, 0, 140, 0), (.if_icmp .le 5, 3, 66, 0, 0, 0), (.iconst 0, 1, 0, 0, 0, 0)]
theorem e_SP_write_56 : sp_ok R_SP b_SP_write 6 k_SP_write_56 56 = true := by decide +kernel
def k_SP_write_66 : List sp_I := [(.iconst 0, 1, 0, 0, 0, 0), (.istore 4, 2, 4, 0, 0, 0)]
theorem e_SP_write_66 : sp_ok R_SP b_SP_write 6 k_SP_write_66 66 = true := by decide +kernel
def k_SP_write_69 : List sp_I := [(.iload 4, 2, 4, 0, 0, 0), (.bipush 8, 2, 0, 0, 8, 0), (.if_icmp .ge 32, 3, 105, 0, 0, 0), (.lload_n 1, 1, 1, 0, 0, 0), (.iload 4, 2, 4, 0, 0, 0)]
theorem e_SP_write_69 : sp_ok R_SP b_SP_write 6 k_SP_write_69 69 = true := by decide +kernel
def k_SP_write_82 : List sp_I := [(.istore 5, 2, 5, 0, 0, 0), (.iload 5, 2, 5, 0, 0, 0), (.ifCond .eq 13, 3, 99, 0, 0, 0), (.aload_n 0, 1, 0, 0, 0, 0), (.getfield 14, 3, 7, 0, 0, 251), (.iload 5, 2, 5, 0, 0, 0), (.i2c, 1, 0, 0, 0, 0)]
theorem e_SP_write_82 : sp_ok R_SP b_SP_write 6 k_SP_write_82 82 = true := by decide +kernel
def k_SP_write_99 : List sp_I := [(.iinc 4 1, 3, 4, 0, 1, 0), (.goto (-33), 3, 69, 0, 0, 0)]
theorem e_SP_write_99 : sp_ok R_SP b_SP_write 6 k_SP_write_99 99 = true := by decide +kernel
def k_SP_write_105 : List sp_I := [(.iconst 1, 1, 0, 0, 1, 0)]
theorem e_SP_write_105 : sp_ok R_SP b_SP_write 6 k_SP_write_105 105 = true := by decide +kernel
theorem d_SP_write_15 : decode b_SP_write 15 = .ok (.invokestatic 37, 3) := by decide +kernel
theorem d_SP_write_27 : decode b_SP_write 27 = .ok (.invokestatic 41, 3) := by decide +kernel
theorem d_SP_write_34 : decode b_SP_write 34 = .ok (.ireturn, 1) := by decide +kernel
theorem d_SP_write_53 : decode b_SP_write 53 = .ok (.invokevirtual 45, 3) := by decide +kernel
theorem d_SP_write_65 : decode b_SP_write 65 = .ok (.ireturn, 1) := by decide +kernel
theorem d_SP_write_79 : decode b_SP_write 79 = .ok (.invokestatic 37, 3) := by decide +kernel
theorem d_SP_write_96 : decode b_SP_write 96 = .ok (.invokevirtual 49, 3) := by decide +kernel
theorem d_SP_write_106 : decode b_SP_write 106 = .ok (.ireturn, 1) := by decide +kernel
def k_SP_wipe_0 : List sp_I := [(.aload_n 0, 1, 0, 0, 0, 0), (.getfield 14, 3, 7, 0, 0, 251)]
theorem e_SP_wipe_0 : sp_ok R_SP b_SP_wipe 2 k_SP_wipe_0 0 = true := by decide +kernel
def k_SP_wipe_7 : List sp_I := [(.istore_n 1, 1, 1, 0, 0, 0), (.aload_n 0, 1, 0, 0, 0, 0), (.getfield 14, 3, 7, 0, 0, 251)]
theorem e_SP_wipe_7 : sp_ok R_SP b_SP_wipe 2 k_SP_wipe_7 7 = true := by decide +kernel
def k_SP_wipe_15 : List sp_I := [(.iload_n 1, 1, 1, 0, 0, 0)]
theorem e_SP_wipe_15 : sp_ok R_SP b_SP_wipe 2 k_SP_wipe_15 15 = true := by decide +kernel
theorem d_SP_wipe_4 : decode b_SP_wipe 4 = .ok (.invokevirtual 45, 3) := by decide +kernel
theorem d_SP_wipe_12 : decode b_SP_wipe 12 = .ok (.invokevirtual 53, 3) := by decide +kernel
theorem d_SP_wipe_16 : decode b_SP_wipe 16 = .ok (.ireturn, 1) := by decide +kernel
def k_SP_send_0 : List sp_I := [(.aload_n 0, 1, 0, 0, 0, 0), (.getfield 20, 3, 7, 1, 0, 252)]
theorem e_SP_send_0 : sp_ok R_SP b_SP_send 1 k_SP_send_0 0 = true := by decide +kernel
def k_SP_send_7 : List sp_I := [(.aload_n 0, 1, 0, 0, 0, 0), (.getfield 33, 3, 7, 3, 0, 254)]
theorem e_SP_send_7 : sp_ok R_SP b_SP_send 1 k_SP_send_7 7 = true := by decide +kernel
def k_SP_send_14 : List sp_I := [(.ifCond .eq 10, 3, 24, 0, 0, 0), (.aload_n 0, 1, 0, 0, 0, 0), (.getfield 33, 3, 7, 3, 0, 254)]
theorem e_SP_send_14 : sp_ok R_SP b_SP_send 1 k_SP_send_14 14 = true := by decide +kernel
def k_SP_send_24 : List sp_I := [(.aload_n 0, 1, 0, 0, 0, 0), (.getfield 14, 3, 7, 0, 0, 251)]
theorem e_SP_send_24 : sp_ok R_SP b_SP_send 1 k_SP_send_24 24 = true := by decide +kernel
def k_SP_send_31 : List sp_I := [(.aload_n 0, 1, 0, 0, 0, 0), (.getfield 20, 3, 7, 1, 0, 252)]
theorem e_SP_send_31 : sp_ok R_SP b_SP_send 1 k_SP_send_31 31 = true := by decide +kernel
theorem d_SP_send_4 : decode b_SP_send 4 = .ok (.invokevirtual 53, 3) := by decide +kernel
theorem d_SP_send_11 : decode b_SP_send 11 = .ok (.invokevirtual 56, 3) := by decide +kernel
theorem d_SP_send_21 : decode b_SP_send 21 = .ok (.invokevirtual 60, 3) := by decide +kernel
theorem d_SP_send_28 : decode b_SP_send 28 = .ok (.invokevirtual 53, 3) := by decide +kernel
theorem d_SP_send_35 : decode b_SP_send 35 = .ok (.invokevirtual 45, 3) := by decide +kernel
theorem d_SP_send_38 : decode b_SP_send 38 = .ok (.ireturn, 1) := by decide +kernel
def k_SP_reply_0 : List sp_I := [(.iload_n 1, 1, 1, 0, 0, 0), (.ifCond .lt 14, 3, 15, 0, 0, 0), (.iload_n 1, 1, 1, 0, 0, 0), (.aload_n 0, 1, 0, 0, 0, 0), (.getfield 20, 3, 7, 1, 0, 252)]
theorem e_SP_reply_0 : sp_ok R_SP b_SP_reply 2 k_SP_reply_0 0 = true := by decide +kernel
def k_SP_reply_12 : List sp_I := [(.if_icmp .lt 11, 3, 23, 0, 0, 0)]
theorem e_SP_reply_12 : sp_ok R_SP b_SP_reply 2 k_SP_reply_12 12 = true := by decide +kernel
def k_SP_reply_18 : List sp_I := [(.dup, 1, 0, 0, 0, 0)]
theorem e_SP_reply_18 : sp_ok R_SP b_SP_reply 2 k_SP_reply_18 18 = true := by decide +kernel
def k_SP_reply_23 : List sp_I := [(.aload_n 0, 1, 0, 0, 0, 0), (.getfield 20, 3, 7, 1, 0, 252), (.iload_n 1, 1, 1, 0, 0, 0)]
theorem e_SP_reply_23 : sp_ok R_SP b_SP_reply 2 k_SP_reply_23 23 = true := by decide +kernel
theorem d_SP_reply_9 : decode b_SP_reply 9 = .ok (.invokevirtual 45, 3) := by decide +kernel
theorem d_SP_reply_15 : decode b_SP_reply 15 = .ok (.new 63, 3) := by decide +kernel
theorem d_SP_reply_19 : decode b_SP_reply 19 = .ok (.invokespecial 65, 3) := by decide +kernel
theorem d_SP_reply_22 : decode b_SP_reply 22 = .ok (.athrow, 1) := by decide +kernel
theorem d_SP_reply_28 : decode b_SP_reply 28 = .ok (.invokevirtual 66, 3) := by decide +kernel
theorem d_SP_reply_31 : decode b_SP_reply 31 = .ok (.ireturn, 1) := by decide +kernel
def k_SP_tick_0 : List sp_I := [(.iload_n 1, 1, 1, 0, 0, 0), (.ifCond .lt 9, 3, 10, 0, 0, 0), (.iload_n 1, 1, 1, 0, 0, 0), (.ldc 70, 2, 812, 1, 1000000, 0), (.if_icmp .le 11, 3, 18, 0, 0, 0)]
theorem e_SP_tick_0 : sp_ok R_SP b_SP_tick 2 k_SP_tick_0 0 = true := by decide +kernel
def k_SP_tick_13 : List sp_I := [(.dup, 1, 0, 0, 0, 0)]
theorem e_SP_tick_13 : sp_ok R_SP b_SP_tick 2 k_SP_tick_13 13 = true := by decide +kernel
def k_SP_tick_18 : List sp_I := [(.aload_n 0, 1, 0, 0, 0, 0), (.getfield 26, 3, 7, 2, 0, 253), (.iload_n 1, 1, 1, 0, 0, 0)]
theorem e_SP_tick_18 : sp_ok R_SP b_SP_tick 2 k_SP_tick_18 18 = true := by decide +kernel
theorem d_SP_tick_10 : decode b_SP_tick 10 = .ok (.new 71, 3) := by decide +kernel
theorem d_SP_tick_14 : decode b_SP_tick 14 = .ok (.invokespecial 73, 3) := by decide +kernel
theorem d_SP_tick_17 : decode b_SP_tick 17 = .ok (.athrow, 1) := by decide +kernel
theorem d_SP_tick_23 : decode b_SP_tick 23 = .ok (.invokevirtual 74, 3) := by decide +kernel
theorem d_SP_tick_26 : decode b_SP_tick 26 = .ok (.return_, 1) := by decide +kernel
def k_SP_slab_0 : List sp_I := [(.iload_n 1, 1, 1, 0, 0, 0), (.ifCond .lt 17, 3, 18, 0, 0, 0), (.iload_n 1, 1, 1, 0, 0, 0), (.iconst 4, 1, 0, 0, 4, 0), (.if_icmp .ge 12, 3, 18, 0, 0, 0), (.iload_n 2, 1, 2, 0, 0, 0), (.ifCond .lt 8, 3, 18, 0, 0, 0), (.iload_n 2, 1, 2, 0, 0, 0), (.iconst 2, 1, 0, 0, 2, 0), (.if_icmp .le 11, 3, 26, 0, 0, 0)]
theorem e_SP_slab_0 : sp_ok R_SP b_SP_slab 4 k_SP_slab_0 0 = true := by decide +kernel
def k_SP_slab_21 : List sp_I := [(.dup, 1, 0, 0, 0, 0)]
theorem e_SP_slab_21 : sp_ok R_SP b_SP_slab 4 k_SP_slab_21 21 = true := by decide +kernel
def k_SP_slab_26 : List sp_I := [(.aload_n 0, 1, 0, 0, 0, 0), (.getfield 26, 3, 7, 2, 0, 253), (.iload_n 1, 1, 1, 0, 0, 0)]
theorem e_SP_slab_26 : sp_ok R_SP b_SP_slab 4 k_SP_slab_26 26 = true := by decide +kernel
def k_SP_slab_34 : List sp_I := [(.astore_n 3, 1, 3, 0, 0, 0), (.iload_n 2, 1, 2, 0, 0, 0), (.ifCond .ne 8, 3, 44, 0, 0, 0), (.aload_n 3, 1, 3, 0, 0, 0)]
theorem e_SP_slab_34 : sp_ok R_SP b_SP_slab 4 k_SP_slab_34 34 = true := by decide +kernel
def k_SP_slab_44 : List sp_I := [(.iload_n 2, 1, 2, 0, 0, 0), (.iconst 1, 1, 0, 0, 1, 0), (.if_icmp .ne 10, 3, 56, 0, 0, 0), (.aload_n 3, 1, 3, 0, 0, 0)]
theorem e_SP_slab_44 : sp_ok R_SP b_SP_slab 4 k_SP_slab_44 44 = true := by decide +kernel
def k_SP_slab_53 : List sp_I := [(.goto 7, 3, 60, 0, 0, 0)]
theorem e_SP_slab_53 : sp_ok R_SP b_SP_slab 4 k_SP_slab_53 53 = true := by decide +kernel
def k_SP_slab_56 : List sp_I := [(.aload_n 3, 1, 3, 0, 0, 0)]
theorem e_SP_slab_56 : sp_ok R_SP b_SP_slab 4 k_SP_slab_56 56 = true := by decide +kernel
theorem d_SP_slab_18 : decode b_SP_slab 18 = .ok (.new 71, 3) := by decide +kernel
theorem d_SP_slab_22 : decode b_SP_slab 22 = .ok (.invokespecial 73, 3) := by decide +kernel
theorem d_SP_slab_25 : decode b_SP_slab 25 = .ok (.athrow, 1) := by decide +kernel
theorem d_SP_slab_31 : decode b_SP_slab 31 = .ok (.invokevirtual 77, 3) := by decide +kernel
theorem d_SP_slab_40 : decode b_SP_slab 40 = .ok (.invokevirtual 81, 3) := by decide +kernel
theorem d_SP_slab_43 : decode b_SP_slab 43 = .ok (.ireturn, 1) := by decide +kernel
theorem d_SP_slab_50 : decode b_SP_slab 50 = .ok (.invokevirtual 86, 3) := by decide +kernel
theorem d_SP_slab_57 : decode b_SP_slab 57 = .ok (.invokevirtual 89, 3) := by decide +kernel
theorem d_SP_slab_60 : decode b_SP_slab 60 = .ok (.ireturn, 1) := by decide +kernel
def k_SP_order_0 : List sp_I := [(.iload_n 1, 1, 1, 0, 0, 0), (.ifCond .lt 8, 3, 9, 0, 0, 0), (.iload_n 1, 1, 1, 0, 0, 0), (.iconst 4, 1, 0, 0, 4, 0), (.if_icmp .lt 11, 3, 17, 0, 0, 0)]
theorem e_SP_order_0 : sp_ok R_SP b_SP_order 4 k_SP_order_0 0 = true := by decide +kernel
def k_SP_order_12 : List sp_I := [(.dup, 1, 0, 0, 0, 0)]
theorem e_SP_order_12 : sp_ok R_SP b_SP_order 4 k_SP_order_12 12 = true := by decide +kernel
def k_SP_order_17 : List sp_I := [(.aload_n 0, 1, 0, 0, 0, 0), (.getfield 26, 3, 7, 2, 0, 253), (.iload_n 1, 1, 1, 0, 0, 0)]
theorem e_SP_order_17 : sp_ok R_SP b_SP_order 4 k_SP_order_17 17 = true := by decide +kernel
def k_SP_order_25 : List sp_I := [(.iload_n 2, 1, 2, 0, 0, 0)]
theorem e_SP_order_25 : sp_ok R_SP b_SP_order 4 k_SP_order_25 25 = true := by decide +kernel
def k_SP_order_29 : List sp_I := [(.astore_n 3, 1, 3, 0, 0, 0), (.aload_n 3, 1, 3, 0, 0, 0), (.ifnonnull 11, 3, 42, 0, 0, 0)]
theorem e_SP_order_29 : sp_ok R_SP b_SP_order 4 k_SP_order_29 29 = true := by decide +kernel
def k_SP_order_37 : List sp_I := [(.dup, 1, 0, 0, 0, 0)]
theorem e_SP_order_37 : sp_ok R_SP b_SP_order 4 k_SP_order_37 37 = true := by decide +kernel
def k_SP_order_42 : List sp_I := [(.aload_n 3, 1, 3, 0, 0, 0), (.getfield 96, 3, 1, 2, 0, 691)]
theorem e_SP_order_42 : sp_ok R_SP b_SP_order 4 k_SP_order_42 42 = true := by decide +kernel
theorem d_SP_order_9 : decode b_SP_order 9 = .ok (.new 71, 3) := by decide +kernel
theorem d_SP_order_13 : decode b_SP_order 13 = .ok (.invokespecial 73, 3) := by decide +kernel
theorem d_SP_order_16 : decode b_SP_order 16 = .ok (.athrow, 1) := by decide +kernel
theorem d_SP_order_22 : decode b_SP_order 22 = .ok (.invokevirtual 77, 3) := by decide +kernel
theorem d_SP_order_26 : decode b_SP_order 26 = .ok (.invokevirtual 92, 3) := by decide +kernel
theorem d_SP_order_34 : decode b_SP_order 34 = .ok (.new 63, 3) := by decide +kernel
theorem d_SP_order_38 : decode b_SP_order 38 = .ok (.invokespecial 65, 3) := by decide +kernel
theorem d_SP_order_41 : decode b_SP_order 41 = .ok (.athrow, 1) := by decide +kernel
theorem d_SP_order_46 : decode b_SP_order 46 = .ok (.ireturn, 1) := by decide +kernel
def k_SP_figure_0 : List sp_I := [(.iload_n 1, 1, 1, 0, 0, 0)]
theorem e_SP_figure_0 : sp_ok R_SP b_SP_figure 2 k_SP_figure_0 0 = true := by decide +kernel
def k_SP_figure_52 : List sp_I := [(.aload_n 0, 1, 0, 0, 0, 0), (.getfield 26, 3, 7, 2, 0, 253)]
theorem e_SP_figure_52 : sp_ok R_SP b_SP_figure 2 k_SP_figure_52 52 = true := by decide +kernel
def k_SP_figure_60 : List sp_I := [(.aload_n 0, 1, 0, 0, 0, 0), (.getfield 26, 3, 7, 2, 0, 253)]
theorem e_SP_figure_60 : sp_ok R_SP b_SP_figure 2 k_SP_figure_60 60 = true := by decide +kernel
def k_SP_figure_68 : List sp_I := [(.aload_n 0, 1, 0, 0, 0, 0), (.getfield 26, 3, 7, 2, 0, 253)]
theorem e_SP_figure_68 : sp_ok R_SP b_SP_figure 2 k_SP_figure_68 68 = true := by decide +kernel
def k_SP_figure_76 : List sp_I := [(.aload_n 0, 1, 0, 0, 0, 0), (.getfield 26, 3, 7, 2, 0, 253)]
theorem e_SP_figure_76 : sp_ok R_SP b_SP_figure 2 k_SP_figure_76 76 = true := by decide +kernel
def k_SP_figure_84 : List sp_I := [(.aload_n 0, 1, 0, 0, 0, 0), (.getfield 26, 3, 7, 2, 0, 253)]
theorem e_SP_figure_84 : sp_ok R_SP b_SP_figure 2 k_SP_figure_84 84 = true := by decide +kernel
def k_SP_figure_92 : List sp_I := [(.aload_n 0, 1, 0, 0, 0, 0), (.getfield 26, 3, 7, 2, 0, 253)]
theorem e_SP_figure_92 : sp_ok R_SP b_SP_figure 2 k_SP_figure_92 92 = true := by decide +kernel
def k_SP_figure_100 : List sp_I := [(.aload_n 0, 1, 0, 0, 0, 0), (.getfield 33, 3, 7, 3, 0, 254)]
theorem e_SP_figure_100 : sp_ok R_SP b_SP_figure 2 k_SP_figure_100 100 = true := by decide +kernel
def k_SP_figure_108 : List sp_I := [(.aload_n 0, 1, 0, 0, 0, 0), (.getfield 33, 3, 7, 3, 0, 254)]
theorem e_SP_figure_108 : sp_ok R_SP b_SP_figure 2 k_SP_figure_108 108 = true := by decide +kernel
def k_SP_figure_116 : List sp_I := [(.aload_n 0, 1, 0, 0, 0, 0), (.getfield 14, 3, 7, 0, 0, 251)]
theorem e_SP_figure_116 : sp_ok R_SP b_SP_figure 2 k_SP_figure_116 116 = true := by decide +kernel
def k_SP_figure_127 : List sp_I := [(.dup, 1, 0, 0, 0, 0)]
theorem e_SP_figure_127 : sp_ok R_SP b_SP_figure 2 k_SP_figure_127 127 = true := by decide +kernel
theorem d_SP_figure_1 : decode b_SP_figure 1 = .ok (.tableswitch 123 0 8 #[51, 59, 67, 75, 83, 91, 99, 107, 115], 51) := by decide +kernel
theorem d_SP_figure_56 : decode b_SP_figure 56 = .ok (.invokevirtual 102, 3) := by decide +kernel
theorem d_SP_figure_59 : decode b_SP_figure 59 = .ok (.ireturn, 1) := by decide +kernel
theorem d_SP_figure_64 : decode b_SP_figure 64 = .ok (.invokevirtual 103, 3) := by decide +kernel
theorem d_SP_figure_67 : decode b_SP_figure 67 = .ok (.ireturn, 1) := by decide +kernel
theorem d_SP_figure_72 : decode b_SP_figure 72 = .ok (.invokevirtual 106, 3) := by decide +kernel
theorem d_SP_figure_75 : decode b_SP_figure 75 = .ok (.ireturn, 1) := by decide +kernel
theorem d_SP_figure_80 : decode b_SP_figure 80 = .ok (.invokevirtual 109, 3) := by decide +kernel
theorem d_SP_figure_83 : decode b_SP_figure 83 = .ok (.ireturn, 1) := by decide +kernel
theorem d_SP_figure_88 : decode b_SP_figure 88 = .ok (.invokevirtual 112, 3) := by decide +kernel
theorem d_SP_figure_91 : decode b_SP_figure 91 = .ok (.ireturn, 1) := by decide +kernel
theorem d_SP_figure_96 : decode b_SP_figure 96 = .ok (.invokevirtual 115, 3) := by decide +kernel
theorem d_SP_figure_99 : decode b_SP_figure 99 = .ok (.ireturn, 1) := by decide +kernel
theorem d_SP_figure_104 : decode b_SP_figure 104 = .ok (.invokevirtual 118, 3) := by decide +kernel
theorem d_SP_figure_107 : decode b_SP_figure 107 = .ok (.ireturn, 1) := by decide +kernel
theorem d_SP_figure_112 : decode b_SP_figure 112 = .ok (.invokevirtual 121, 3) := by decide +kernel
theorem d_SP_figure_115 : decode b_SP_figure 115 = .ok (.ireturn, 1) := by decide +kernel
theorem d_SP_figure_120 : decode b_SP_figure 120 = .ok (.invokevirtual 45, 3) := by decide +kernel
theorem d_SP_figure_123 : decode b_SP_figure 123 = .ok (.ireturn, 1) := by decide +kernel
theorem d_SP_figure_124 : decode b_SP_figure 124 = .ok (.new 71, 3) := by decide +kernel
theorem d_SP_figure_128 : decode b_SP_figure 128 = .ok (.invokespecial 73, 3) := by decide +kernel
theorem d_SP_figure_131 : decode b_SP_figure 131 = .ok (.athrow, 1) := by decide +kernel
def k_SP_byteOf_0 : List sp_I := [(.lload_n 0, 1, 0, 0, 0, 0), (.bipush 8, 2, 0, 0, 8, 0), (.iload_n 2, 1, 2, 0, 0, 0), (.imul, 1, 0, 0, 0, 0), (.lushr, 1, 0, 0, 0, 0), (.l2i, 1, 0, 0, 0, 0), (.sipush 255, 3, 0, 0, 255, 0), (.iand, 1, 0, 0, 0, 0)]
theorem e_SP_byteOf_0 : sp_ok R_SP b_SP_byteOf 3 k_SP_byteOf_0 0 = true := by decide +kernel
theorem d_SP_byteOf_11 : decode b_SP_byteOf 11 = .ok (.ireturn, 1) := by decide +kernel
theorem w_SP_1 : sp_wO R_SP 1 [94, 95, 96] = true := by decide +kernel
theorem n_SP_7 : sp_wN R_SP 7 R_Text 2 [97, 98, 68] = true := by decide +kernel
theorem w_SP_11 : sp_wI R_SP 11 y_Text_init b_Text_init 2 1 [99, 100, 68, 101] = true := by decide +kernel
theorem f_SP_14 : sp_wF R_SP 14 7 0 1 251 = true := by decide +kernel
theorem f_SP_20 : sp_wF R_SP 20 7 1 1 252 = true := by decide +kernel
theorem n_SP_23 : sp_wN R_SP 23 R_Memory 6 [111, 112, 69] = true := by decide +kernel
theorem w_SP_25 : sp_wI R_SP 25 y_Memory_init b_Memory_init 3 0 [113, 114, 69, 115] = true := by decide +kernel
theorem f_SP_26 : sp_wF R_SP 26 7 2 1 253 = true := by decide +kernel
theorem n_SP_18 : sp_wN R_SP 18 R_Clerk 7 [165, 166, 71] = true := by decide +kernel
theorem w_SP_30 : sp_wI R_SP 30 y_Clerk_init b_Clerk_init 4 3 [167, 168, 71, 169] = true := by decide +kernel
theorem f_SP_33 : sp_wF R_SP 33 7 3 1 254 = true := by decide +kernel
theorem w_SP_37 : sp_wS R_SP 37 y_SP_byteOf b_SP_byteOf 3 (some .int) 2 [268, 269, 67, 270] = true := by decide +kernel
theorem w_SP_41 : sp_wS R_SP 41 y_Text_isCharacter b_Text_isCharacter 1 (some .boolean) 1 [271, 272, 68, 273] = true := by decide +kernel
theorem w_SP_45 : sp_wV R_SP 45 R_Text y_Text_length b_Text_length 1 (some .int) 0 [274, 275, 276, 68, 277] = true := by decide +kernel
theorem w_SP_49 : sp_wV R_SP 49 R_Text y_Text_add b_Text_add 2 none 1 [278, 279, 280, 68, 281] = true := by decide +kernel
theorem w_SP_53 : sp_wV R_SP 53 R_Text y_Text_clear b_Text_clear 1 none 0 [286, 287, 288, 68, 289] = true := by decide +kernel
theorem w_SP_56 : sp_wV R_SP 56 R_Clerk y_Clerk_understands b_Clerk_understands 2 (some .boolean) 0 [294, 295, 296, 71, 297] = true := by decide +kernel
theorem w_SP_60 : sp_wV R_SP 60 R_Clerk y_Clerk_obey b_Clerk_obey 1 none 0 [454, 455, 456, 71, 457] = true := by decide +kernel
theorem w_SP_66 : sp_wV R_SP 66 R_Text y_Text_at b_Text_at 2 (some .char) 1 [803, 307, 308, 68, 309] = true := by decide +kernel
theorem w_SP_74 : sp_wV R_SP 74 R_Memory y_Memory_pass b_Memory_pass 8 none 1 [828, 829, 830, 69, 831] = true := by decide +kernel
theorem w_SP_77 : sp_wV R_SP 77 R_Memory y_Memory_shelf b_Memory_shelf 2 (some (.object "SlabPantry$Shelf")) 1 [839, 840, 841, 69, 842] = true := by decide +kernel
theorem w_SP_81 : sp_wV R_SP 81 R_Shelf y_Shelf_pages b_Shelf_pages 1 (some .int) 0 [843, 658, 659, 70, 660] = true := by decide +kernel
theorem w_SP_86 : sp_wV R_SP 86 R_Shelf y_Shelf_items b_Shelf_items 1 (some .int) 0 [844, 582, 583, 70, 584] = true := by decide +kernel
theorem w_SP_89 : sp_wV R_SP 89 R_Shelf y_Shelf_freeChunks b_Shelf_freeChunks 1 (some .int) 0 [845, 669, 670, 70, 671] = true := by decide +kernel
theorem w_SP_92 : sp_wV R_SP 92 R_Shelf y_Shelf_itemAt b_Shelf_itemAt 4 (some (.object "SlabPantry$Chunk")) 1 [853, 854, 855, 70, 856] = true := by decide +kernel
theorem w_SP_102 : sp_wV R_SP 102 R_Memory y_Memory_items b_Memory_items 6 (some .int) 0 [864, 865, 866, 69, 867] = true := by decide +kernel
theorem w_SP_103 : sp_wV R_SP 103 R_Memory y_Memory_freePages b_Memory_freePages 1 (some .int) 0 [868, 869, 870, 69, 871] = true := by decide +kernel
theorem w_SP_106 : sp_wV R_SP 106 R_Memory y_Memory_time b_Memory_time 1 (some .int) 0 [872, 873, 874, 69, 875] = true := by decide +kernel
theorem w_SP_109 : sp_wV R_SP 109 R_Memory y_Memory_tokens b_Memory_tokens 1 (some .int) 0 [876, 877, 878, 69, 879] = true := by decide +kernel
theorem w_SP_112 : sp_wV R_SP 112 R_Memory y_Memory_evicted b_Memory_evicted 1 (some .int) 0 [880, 881, 882, 69, 883] = true := by decide +kernel
theorem w_SP_115 : sp_wV R_SP 115 R_Memory y_Memory_expired b_Memory_expired 1 (some .int) 0 [884, 885, 886, 69, 887] = true := by decide +kernel
theorem w_SP_118 : sp_wV R_SP 118 R_Clerk y_Clerk_hits b_Clerk_hits 1 (some .int) 0 [888, 889, 890, 71, 891] = true := by decide +kernel
theorem w_SP_121 : sp_wV R_SP 121 R_Clerk y_Clerk_misses b_Clerk_misses 1 (some .int) 0 [892, 893, 894, 71, 895] = true := by decide +kernel
