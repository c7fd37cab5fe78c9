def k_Memory_init_0 : List sp_I := [(.aload_n 0, 1, 0, 0, 0, 0)]
theorem e_Memory_init_0 : sp_ok R_Memory b_Memory_init 3 k_Memory_init_0 0 = true := by decide +kernel
def k_Memory_init_4 : List sp_I := [(.aload_n 0, 1, 0, 0, 0, 0), (.iconst 4, 1, 0, 0, 4, 0)]
theorem e_Memory_init_4 : sp_ok R_Memory b_Memory_init 3 k_Memory_init_4 4 = true := by decide +kernel
def k_Memory_init_12 : List sp_I := [(.iconst 0, 1, 0, 0, 0, 0), (.istore_n 1, 1, 1, 0, 0, 0)]
theorem e_Memory_init_12 : sp_ok R_Memory b_Memory_init 3 k_Memory_init_12 12 = true := by decide +kernel
def k_Memory_init_14 : List sp_I := [(.iload_n 1, 1, 1, 0, 0, 0), (.iconst 4, 1, 0, 0, 4, 0), (.if_icmp .ge 32, 3, 48, 0, 0, 0), (.bipush 8, 2, 0, 0, 8, 0), (.iload_n 1, 1, 1, 0, 0, 0), (.ishl, 1, 0, 0, 0, 0), (.istore_n 2, 1, 2, 0, 0, 0), (.aload_n 0, 1, 0, 0, 0, 0), (.getfield 13, 3, 3, 0, 0, 146), (.iload_n 1, 1, 1, 0, 0, 0)]
theorem e_Memory_init_14 : sp_ok R_Memory b_Memory_init 3 k_Memory_init_14 14 = true := by decide +kernel
def k_Memory_init_32 : List sp_I := [(.dup, 1, 0, 0, 0, 0), (.iload_n 2, 1, 2, 0, 0, 0), (.bipush 64, 2, 0, 0, 64, 0), (.iload_n 2, 1, 2, 0, 0, 0), (.idiv, 1, 0, 0, 0, 0)]
theorem e_Memory_init_32 : sp_ok R_Memory b_Memory_init 3 k_Memory_init_32 32 = true := by decide +kernel
def k_Memory_init_42 : List sp_I := [(.iinc 1 1, 3, 1, 0, 1, 0), (.goto (-31), 3, 14, 0, 0, 0)]
theorem e_Memory_init_42 : sp_ok R_Memory b_Memory_init 3 k_Memory_init_42 42 = true := by decide +kernel
def k_Memory_init_48 : List sp_I := [(.aload_n 0, 1, 0, 0, 0, 0), (.bipush 6, 2, 0, 0, 6, 0), (.putfield 20, 3, 3, 1, 0, 147), (.aload_n 0, 1, 0, 0, 0, 0), (.iconst 0, 1, 0, 0, 0, 0), (.putfield 24, 3, 3, 2, 0, 148), (.aload_n 0, 1, 0, 0, 0, 0), (.iconst 0, 1, 0, 0, 0, 0), (.putfield 27, 3, 3, 3, 0, 149), (.aload_n 0, 1, 0, 0, 0, 0), (.iconst 0, 1, 0, 0, 0, 0), (.putfield 30, 3, 3, 4, 0, 150), (.aload_n 0, 1, 0, 0, 0, 0), (.iconst 0, 1, 0, 0, 0, 0), (.putfield 33, 3, 3, 5, 0, 151)]
theorem e_Memory_init_48 : sp_ok R_Memory b_Memory_init 3 k_Memory_init_48 48 = true := by decide +kernel
theorem d_Memory_init_1 : decode b_Memory_init 1 = .ok (.invokespecial 3, 3) := by decide +kernel
theorem d_Memory_init_6 : decode b_Memory_init 6 = .ok (.anewarray 11, 3) := by decide +kernel
theorem d_Memory_init_9 : decode b_Memory_init 9 = .ok (.putfield 13, 3) := by decide +kernel
theorem d_Memory_init_29 : decode b_Memory_init 29 = .ok (.new 11, 3) := by decide +kernel
theorem d_Memory_init_38 : decode b_Memory_init 38 = .ok (.invokespecial 17, 3) := by decide +kernel
theorem d_Memory_init_41 : decode b_Memory_init 41 = .ok (.aastore, 1) := by decide +kernel
theorem d_Memory_init_74 : decode b_Memory_init 74 = .ok (.return_, 1) := by decide +kernel
def k_Memory_shelf_0 : List sp_I := [(.aload_n 0, 1, 0, 0, 0, 0), (.getfield 13, 3, 3, 0, 0, 146), (.iload_n 1, 1, 1, 0, 0, 0), (.aaload, 1, 0, 0, 0, 0)]
theorem e_Memory_shelf_0 : sp_ok R_Memory b_Memory_shelf 2 k_Memory_shelf_0 0 = true := by decide +kernel
theorem d_Memory_shelf_6 : decode b_Memory_shelf 6 = .ok (.areturn, 1) := by decide +kernel
def k_Memory_items_0 : List sp_I := [(.iconst 0, 1, 0, 0, 0, 0), (.istore_n 1, 1, 1, 0, 0, 0), (.aload_n 0, 1, 0, 0, 0, 0), (.getfield 13, 3, 3, 0, 0, 146), (.astore_n 2, 1, 2, 0, 0, 0), (.aload_n 2, 1, 2, 0, 0, 0), (.arraylength, 1, 0, 0, 0, 0), (.istore_n 3, 1, 3, 0, 0, 0), (.iconst 0, 1, 0, 0, 0, 0), (.istore 4, 2, 4, 0, 0, 0)]
theorem e_Memory_items_0 : sp_ok R_Memory b_Memory_items 6 k_Memory_items_0 0 = true := by decide +kernel
def k_Memory_items_13 : List sp_I := [(.iload 4, 2, 4, 0, 0, 0), (.iload_n 3, 1, 3, 0, 0, 0), (.if_icmp .ge 23, 3, 39, 0, 0, 0), (.aload_n 2, 1, 2, 0, 0, 0), (.iload 4, 2, 4, 0, 0, 0), (.aaload, 1, 0, 0, 0, 0), (.astore 5, 2, 5, 0, 0, 0), (.iload_n 1, 1, 1, 0, 0, 0), (.aload 5, 2, 5, 0, 0, 0)]
theorem e_Memory_items_13 : sp_ok R_Memory b_Memory_items 6 k_Memory_items_13 13 = true := by decide +kernel
def k_Memory_items_31 : List sp_I := [(.iadd, 1, 0, 0, 0, 0), (.istore_n 1, 1, 1, 0, 0, 0), (.iinc 4 1, 3, 4, 0, 1, 0), (.goto (-23), 3, 13, 0, 0, 0)]
theorem e_Memory_items_31 : sp_ok R_Memory b_Memory_items 6 k_Memory_items_31 31 = true := by decide +kernel
def k_Memory_items_39 : List sp_I := [(.iload_n 1, 1, 1, 0, 0, 0)]
theorem e_Memory_items_39 : sp_ok R_Memory b_Memory_items 6 k_Memory_items_39 39 = true := by decide +kernel
theorem d_Memory_items_28 : decode b_Memory_items 28 = .ok (.invokevirtual 36, 3) := by decide +kernel
theorem d_Memory_items_40 : decode b_Memory_items 40 = .ok (.ireturn, 1) := by decide +kernel
def k_Memory_freePages_0 : List sp_I := [(.aload_n 0, 1, 0, 0, 0, 0), (.getfield 20, 3, 3, 1, 0, 147)]
theorem e_Memory_freePages_0 : sp_ok R_Memory b_Memory_freePages 1 k_Memory_freePages_0 0 = true := by decide +kernel
theorem d_Memory_freePages_4 : decode b_Memory_freePages 4 = .ok (.ireturn, 1) := by decide +kernel
def k_Memory_time_0 : List sp_I := [(.aload_n 0, 1, 0, 0, 0, 0), (.getfield 24, 3, 3, 2, 0, 148)]
theorem e_Memory_time_0 : sp_ok R_Memory b_Memory_time 1 k_Memory_time_0 0 = true := by decide +kernel
theorem d_Memory_time_4 : decode b_Memory_time 4 = .ok (.ireturn, 1) := by decide +kernel
def k_Memory_tokens_0 : List sp_I := [(.aload_n 0, 1, 0, 0, 0, 0), (.getfield 27, 3, 3, 3, 0, 149)]
theorem e_Memory_tokens_0 : sp_ok R_Memory b_Memory_tokens 1 k_Memory_tokens_0 0 = true := by decide +kernel
theorem d_Memory_tokens_4 : decode b_Memory_tokens 4 = .ok (.ireturn, 1) := by decide +kernel
def k_Memory_evicted_0 : List sp_I := [(.aload_n 0, 1, 0, 0, 0, 0), (.getfield 30, 3, 3, 4, 0, 150)]
theorem e_Memory_evicted_0 : sp_ok R_Memory b_Memory_evicted 1 k_Memory_evicted_0 0 = true := by decide +kernel
theorem d_Memory_evicted_4 : decode b_Memory_evicted 4 = .ok (.ireturn, 1) := by decide +kernel
def k_Memory_expired_0 : List sp_I := [(.aload_n 0, 1, 0, 0, 0, 0), (.getfield 33, 3, 3, 5, 0, 151)]
theorem e_Memory_expired_0 : sp_ok R_Memory b_Memory_expired 1 k_Memory_expired_0 0 = true := by decide +kernel
theorem d_Memory_expired_4 : decode b_Memory_expired 4 = .ok (.ireturn, 1) := by decide +kernel
def k_Memory_find_0 : List sp_I := [(.aload_n 0, 1, 0, 0, 0, 0), (.getfield 13, 3, 3, 0, 0, 146), (.astore 4, 2, 4, 0, 0, 0), (.aload 4, 2, 4, 0, 0, 0), (.arraylength, 1, 0, 0, 0, 0), (.istore 5, 2, 5, 0, 0, 0), (.iconst 0, 1, 0, 0, 0, 0), (.istore 6, 2, 6, 0, 0, 0)]
theorem e_Memory_find_0 : sp_ok R_Memory b_Memory_find 9 k_Memory_find_0 0 = true := by decide +kernel
def k_Memory_find_14 : List sp_I := [(.iload 6, 2, 6, 0, 0, 0), (.iload 5, 2, 5, 0, 0, 0), (.if_icmp .ge 52, 3, 70, 0, 0, 0), (.aload 4, 2, 4, 0, 0, 0), (.iload 6, 2, 6, 0, 0, 0), (.aaload, 1, 0, 0, 0, 0), (.astore 7, 2, 7, 0, 0, 0), (.aload 7, 2, 7, 0, 0, 0)]
theorem e_Memory_find_14 : sp_ok R_Memory b_Memory_find 9 k_Memory_find_14 14 = true := by decide +kernel
def k_Memory_find_33 : List sp_I := [(.astore 8, 2, 8, 0, 0, 0)]
theorem e_Memory_find_33 : sp_ok R_Memory b_Memory_find 9 k_Memory_find_33 33 = true := by decide +kernel
def k_Memory_find_35 : List sp_I := [(.aload 8, 2, 8, 0, 0, 0), (.ifnull 27, 3, 64, 0, 0, 0), (.aload 8, 2, 8, 0, 0, 0), (.aload_n 1, 1, 1, 0, 0, 0), (.iload_n 2, 1, 2, 0, 0, 0), (.iload_n 3, 1, 3, 0, 0, 0)]
theorem e_Memory_find_35 : sp_ok R_Memory b_Memory_find 9 k_Memory_find_35 35 = true := by decide +kernel
def k_Memory_find_48 : List sp_I := [(.ifCond .eq 6, 3, 54, 0, 0, 0), (.aload 8, 2, 8, 0, 0, 0)]
theorem e_Memory_find_48 : sp_ok R_Memory b_Memory_find 9 k_Memory_find_48 48 = true := by decide +kernel
def k_Memory_find_54 : List sp_I := [(.aload 8, 2, 8, 0, 0, 0), (.getfield 50, 3, 1, 5, 0, 700), (.astore 8, 2, 8, 0, 0, 0), (.goto (-26), 3, 35, 0, 0, 0)]
theorem e_Memory_find_54 : sp_ok R_Memory b_Memory_find 9 k_Memory_find_54 54 = true := by decide +kernel
def k_Memory_find_64 : List sp_I := [(.iinc 6 1, 3, 6, 0, 1, 0), (.goto (-53), 3, 14, 0, 0, 0)]
theorem e_Memory_find_64 : sp_ok R_Memory b_Memory_find 9 k_Memory_find_64 64 = true := by decide +kernel
def k_Memory_find_70 : List sp_I := [(.aconst_null, 1, 0, 0, 0, 0)]
theorem e_Memory_find_70 : sp_ok R_Memory b_Memory_find 9 k_Memory_find_70 70 = true := by decide +kernel
theorem d_Memory_find_30 : decode b_Memory_find 30 = .ok (.invokevirtual 40, 3) := by decide +kernel
theorem d_Memory_find_45 : decode b_Memory_find 45 = .ok (.invokevirtual 44, 3) := by decide +kernel
theorem d_Memory_find_53 : decode b_Memory_find 53 = .ok (.areturn, 1) := by decide +kernel
theorem d_Memory_find_71 : decode b_Memory_find 71 = .ok (.areturn, 1) := by decide +kernel
def k_Memory_goneAfter_0 : List sp_I := [(.iload_n 1, 1, 1, 0, 0, 0), (.ifCond .ne 6, 3, 7, 0, 0, 0), (.ldc 54, 2, 571, 1, 2147483647, 0)]
theorem e_Memory_goneAfter_0 : sp_ok R_Memory b_Memory_goneAfter 2 k_Memory_goneAfter_0 0 = true := by decide +kernel
def k_Memory_goneAfter_7 : List sp_I := [(.iload_n 1, 1, 1, 0, 0, 0), (.ifCond .ge 10, 3, 18, 0, 0, 0), (.aload_n 0, 1, 0, 0, 0, 0), (.getfield 24, 3, 3, 2, 0, 148), (.goto 9, 3, 24, 0, 0, 0)]
theorem e_Memory_goneAfter_7 : sp_ok R_Memory b_Memory_goneAfter 2 k_Memory_goneAfter_7 7 = true := by decide +kernel
def k_Memory_goneAfter_18 : List sp_I := [(.aload_n 0, 1, 0, 0, 0, 0), (.getfield 24, 3, 3, 2, 0, 148), (.iload_n 1, 1, 1, 0, 0, 0), (.iadd, 1, 0, 0, 0, 0)]
theorem e_Memory_goneAfter_18 : sp_ok R_Memory b_Memory_goneAfter 2 k_Memory_goneAfter_18 18 = true := by decide +kernel
theorem d_Memory_goneAfter_6 : decode b_Memory_goneAfter 6 = .ok (.ireturn, 1) := by decide +kernel
theorem d_Memory_goneAfter_24 : decode b_Memory_goneAfter 24 = .ok (.ireturn, 1) := by decide +kernel
def k_Memory_refusal_0 : List sp_I := [(.aload_n 0, 1, 0, 0, 0, 0), (.iload_n 1, 1, 1, 0, 0, 0)]
theorem e_Memory_refusal_0 : sp_ok R_Memory b_Memory_refusal 3 k_Memory_refusal_0 0 = true := by decide +kernel
def k_Memory_refusal_5 : List sp_I := [(.astore_n 2, 1, 2, 0, 0, 0), (.aload_n 2, 1, 2, 0, 0, 0), (.ifnonnull 6, 3, 13, 0, 0, 0)]
theorem e_Memory_refusal_5 : sp_ok R_Memory b_Memory_refusal 3 k_Memory_refusal_5 5 = true := by decide +kernel
def k_Memory_refusal_13 : List sp_I := [(.aload_n 2, 1, 2, 0, 0, 0)]
theorem e_Memory_refusal_13 : sp_ok R_Memory b_Memory_refusal 3 k_Memory_refusal_13 13 = true := by decide +kernel
def k_Memory_refusal_17 : List sp_I := [(.ifCond .ne 13, 3, 30, 0, 0, 0), (.aload_n 0, 1, 0, 0, 0, 0), (.getfield 20, 3, 3, 1, 0, 147), (.ifCond .ne 6, 3, 30, 0, 0, 0)]
theorem e_Memory_refusal_17 : sp_ok R_Memory b_Memory_refusal 3 k_Memory_refusal_17 17 = true := by decide +kernel
theorem d_Memory_refusal_2 : decode b_Memory_refusal 2 = .ok (.invokevirtual 55, 3) := by decide +kernel
theorem d_Memory_refusal_10 : decode b_Memory_refusal 10 = .ok (.ldc 59, 2) := by decide +kernel
theorem d_Memory_refusal_12 : decode b_Memory_refusal 12 = .ok (.areturn, 1) := by decide +kernel
theorem d_Memory_refusal_14 : decode b_Memory_refusal 14 = .ok (.invokevirtual 61, 3) := by decide +kernel
theorem d_Memory_refusal_27 : decode b_Memory_refusal 27 = .ok (.ldc 64, 2) := by decide +kernel
theorem d_Memory_refusal_29 : decode b_Memory_refusal 29 = .ok (.areturn, 1) := by decide +kernel
theorem d_Memory_refusal_30 : decode b_Memory_refusal 30 = .ok (.ldc 66, 2) := by decide +kernel
theorem d_Memory_refusal_32 : decode b_Memory_refusal 32 = .ok (.areturn, 1) := by decide +kernel
def k_Memory_put_0 : List sp_I := [(.aload_n 0, 1, 0, 0, 0, 0), (.aload_n 1, 1, 1, 0, 0, 0)]
theorem e_Memory_put_0 : sp_ok R_Memory b_Memory_put 5 k_Memory_put_0 0 = true := by decide +kernel
def k_Memory_put_8 : List sp_I := [(.astore_n 3, 1, 3, 0, 0, 0), (.aload_n 3, 1, 3, 0, 0, 0), (.ifnonnull 4, 3, 14, 0, 0, 0)]
theorem e_Memory_put_8 : sp_ok R_Memory b_Memory_put 5 k_Memory_put_8 8 = true := by decide +kernel
def k_Memory_put_14 : List sp_I := [(.aload_n 0, 1, 0, 0, 0, 0), (.aload_n 2, 1, 2, 0, 0, 0)]
theorem e_Memory_put_14 : sp_ok R_Memory b_Memory_put 5 k_Memory_put_14 14 = true := by decide +kernel
def k_Memory_put_19 : List sp_I := [(.aload_n 3, 1, 3, 0, 0, 0)]
theorem e_Memory_put_19 : sp_ok R_Memory b_Memory_put 5 k_Memory_put_19 19 = true := by decide +kernel
def k_Memory_put_23 : List sp_I := [(.ifCond .ne 24, 3, 47, 0, 0, 0), (.aload_n 0, 1, 0, 0, 0, 0), (.getfield 20, 3, 3, 1, 0, 147), (.ifCond .le 17, 3, 47, 0, 0, 0), (.aload_n 0, 1, 0, 0, 0, 0), (.dup, 1, 0, 0, 0, 0), (.getfield 20, 3, 3, 1, 0, 147), (.iconst 1, 1, 0, 0, 1, 0), (.isub, 1, 0, 0, 0, 0), (.putfield 20, 3, 3, 1, 0, 147), (.aload_n 3, 1, 3, 0, 0, 0)]
theorem e_Memory_put_23 : sp_ok R_Memory b_Memory_put 5 k_Memory_put_23 23 = true := by decide +kernel
def k_Memory_put_47 : List sp_I := [(.aload_n 3, 1, 3, 0, 0, 0)]
theorem e_Memory_put_47 : sp_ok R_Memory b_Memory_put 5 k_Memory_put_47 47 = true := by decide +kernel
def k_Memory_put_51 : List sp_I := [(.ifCond .ne 28, 3, 79, 0, 0, 0), (.aload_n 3, 1, 3, 0, 0, 0)]
theorem e_Memory_put_51 : sp_ok R_Memory b_Memory_put 5 k_Memory_put_51 51 = true := by decide +kernel
def k_Memory_put_58 : List sp_I := [(.ifnull 21, 3, 79, 0, 0, 0), (.aload_n 3, 1, 3, 0, 0, 0), (.aload_n 3, 1, 3, 0, 0, 0)]
theorem e_Memory_put_58 : sp_ok R_Memory b_Memory_put 5 k_Memory_put_58 58 = true := by decide +kernel
def k_Memory_put_69 : List sp_I := [(.aload_n 0, 1, 0, 0, 0, 0), (.dup, 1, 0, 0, 0, 0), (.getfield 30, 3, 3, 4, 0, 150), (.iconst 1, 1, 0, 0, 1, 0), (.iadd, 1, 0, 0, 0, 0), (.putfield 30, 3, 3, 4, 0, 150)]
theorem e_Memory_put_69 : sp_ok R_Memory b_Memory_put 5 k_Memory_put_69 69 = true := by decide +kernel
def k_Memory_put_79 : List sp_I := [(.aload_n 3, 1, 3, 0, 0, 0)]
theorem e_Memory_put_79 : sp_ok R_Memory b_Memory_put 5 k_Memory_put_79 79 = true := by decide +kernel
def k_Memory_put_83 : List sp_I := [(.astore 4, 2, 4, 0, 0, 0), (.aload 4, 2, 4, 0, 0, 0), (.ifnull 29, 3, 116, 0, 0, 0), (.aload_n 0, 1, 0, 0, 0, 0), (.dup, 1, 0, 0, 0, 0), (.getfield 27, 3, 3, 3, 0, 149), (.iconst 1, 1, 0, 0, 1, 0), (.iadd, 1, 0, 0, 0, 0), (.putfield 27, 3, 3, 3, 0, 149), (.aload 4, 2, 4, 0, 0, 0), (.aload_n 1, 1, 1, 0, 0, 0), (.aload_n 0, 1, 0, 0, 0, 0), (.getfield 27, 3, 3, 3, 0, 149)]
theorem e_Memory_put_83 : sp_ok R_Memory b_Memory_put 5 k_Memory_put_83 83 = true := by decide +kernel
def k_Memory_put_110 : List sp_I := [(.aload_n 0, 1, 0, 0, 0, 0), (.aload 4, 2, 4, 0, 0, 0)]
theorem e_Memory_put_110 : sp_ok R_Memory b_Memory_put 5 k_Memory_put_110 110 = true := by decide +kernel
theorem d_Memory_put_2 : decode b_Memory_put 2 = .ok (.invokevirtual 68, 3) := by decide +kernel
theorem d_Memory_put_5 : decode b_Memory_put 5 = .ok (.invokevirtual 55, 3) := by decide +kernel
theorem d_Memory_put_13 : decode b_Memory_put 13 = .ok (.return_, 1) := by decide +kernel
theorem d_Memory_put_16 : decode b_Memory_put 16 = .ok (.invokevirtual 73, 3) := by decide +kernel
theorem d_Memory_put_20 : decode b_Memory_put 20 = .ok (.invokevirtual 77, 3) := by decide +kernel
theorem d_Memory_put_44 : decode b_Memory_put 44 = .ok (.invokevirtual 80, 3) := by decide +kernel
theorem d_Memory_put_48 : decode b_Memory_put 48 = .ok (.invokevirtual 77, 3) := by decide +kernel
theorem d_Memory_put_55 : decode b_Memory_put 55 = .ok (.invokevirtual 83, 3) := by decide +kernel
theorem d_Memory_put_63 : decode b_Memory_put 63 = .ok (.invokevirtual 83, 3) := by decide +kernel
theorem d_Memory_put_66 : decode b_Memory_put 66 = .ok (.invokevirtual 86, 3) := by decide +kernel
theorem d_Memory_put_80 : decode b_Memory_put 80 = .ok (.invokevirtual 89, 3) := by decide +kernel
theorem d_Memory_put_107 : decode b_Memory_put 107 = .ok (.invokevirtual 92, 3) := by decide +kernel
theorem d_Memory_put_113 : decode b_Memory_put 113 = .ok (.invokevirtual 96, 3) := by decide +kernel
theorem d_Memory_put_116 : decode b_Memory_put 116 = .ok (.return_, 1) := by decide +kernel
def k_Memory_touch_0 : List sp_I := [(.aload_n 1, 1, 1, 0, 0, 0), (.getfield 99, 3, 1, 0, 0, 687), (.aload_n 1, 1, 1, 0, 0, 0)]
theorem e_Memory_touch_0 : sp_ok R_Memory b_Memory_touch 3 k_Memory_touch_0 0 = true := by decide +kernel
def k_Memory_touch_8 : List sp_I := [(.aload_n 1, 1, 1, 0, 0, 0), (.aload_n 0, 1, 0, 0, 0, 0), (.iload_n 2, 1, 2, 0, 0, 0)]
theorem e_Memory_touch_8 : sp_ok R_Memory b_Memory_touch 3 k_Memory_touch_8 8 = true := by decide +kernel
def k_Memory_touch_14 : List sp_I := [(.putfield 110, 3, 1, 3, 0, 694), (.aload_n 0, 1, 0, 0, 0, 0), (.aload_n 1, 1, 1, 0, 0, 0)]
theorem e_Memory_touch_14 : sp_ok R_Memory b_Memory_touch 3 k_Memory_touch_14 14 = true := by decide +kernel
theorem d_Memory_touch_5 : decode b_Memory_touch 5 = .ok (.invokevirtual 103, 3) := by decide +kernel
theorem d_Memory_touch_11 : decode b_Memory_touch 11 = .ok (.invokevirtual 106, 3) := by decide +kernel
theorem d_Memory_touch_19 : decode b_Memory_touch 19 = .ok (.invokevirtual 96, 3) := by decide +kernel
theorem d_Memory_touch_22 : decode b_Memory_touch 22 = .ok (.return_, 1) := by decide +kernel
def k_Memory_takeAway_0 : List sp_I := [(.aload_n 1, 1, 1, 0, 0, 0), (.ifnull 11, 3, 12, 0, 0, 0), (.aload_n 1, 1, 1, 0, 0, 0), (.getfield 99, 3, 1, 0, 0, 687), (.aload_n 1, 1, 1, 0, 0, 0)]
theorem e_Memory_takeAway_0 : sp_ok R_Memory b_Memory_takeAway 2 k_Memory_takeAway_0 0 = true := by decide +kernel
theorem d_Memory_takeAway_9 : decode b_Memory_takeAway 9 = .ok (.invokevirtual 86, 3) := by decide +kernel
theorem d_Memory_takeAway_12 : decode b_Memory_takeAway 12 = .ok (.return_, 1) := by decide +kernel
def k_Memory_takeAllAway_0 : List sp_I := [(.aload_n 0, 1, 0, 0, 0, 0), (.getfield 13, 3, 3, 0, 0, 146), (.astore_n 1, 1, 1, 0, 0, 0), (.aload_n 1, 1, 1, 0, 0, 0), (.arraylength, 1, 0, 0, 0, 0), (.istore_n 2, 1, 2, 0, 0, 0), (.iconst 0, 1, 0, 0, 0, 0), (.istore_n 3, 1, 3, 0, 0, 0)]
theorem e_Memory_takeAllAway_0 : sp_ok R_Memory b_Memory_takeAllAway 6 k_Memory_takeAllAway_0 0 = true := by decide +kernel
def k_Memory_takeAllAway_10 : List sp_I := [(.iload_n 3, 1, 3, 0, 0, 0), (.iload_n 2, 1, 2, 0, 0, 0), (.if_icmp .ge 41, 3, 53, 0, 0, 0), (.aload_n 1, 1, 1, 0, 0, 0), (.iload_n 3, 1, 3, 0, 0, 0), (.aaload, 1, 0, 0, 0, 0), (.astore 4, 2, 4, 0, 0, 0), (.aload 4, 2, 4, 0, 0, 0)]
theorem e_Memory_takeAllAway_10 : sp_ok R_Memory b_Memory_takeAllAway 6 k_Memory_takeAllAway_10 10 = true := by decide +kernel
def k_Memory_takeAllAway_25 : List sp_I := [(.istore 5, 2, 5, 0, 0, 0)]
theorem e_Memory_takeAllAway_25 : sp_ok R_Memory b_Memory_takeAllAway 6 k_Memory_takeAllAway_25 25 = true := by decide +kernel
def k_Memory_takeAllAway_27 : List sp_I := [(.iload 5, 2, 5, 0, 0, 0), (.ifCond .le 18, 3, 47, 0, 0, 0), (.aload_n 0, 1, 0, 0, 0, 0), (.aload 4, 2, 4, 0, 0, 0)]
theorem e_Memory_takeAllAway_27 : sp_ok R_Memory b_Memory_takeAllAway 6 k_Memory_takeAllAway_27 27 = true := by decide +kernel
def k_Memory_takeAllAway_41 : List sp_I := [(.iinc 5 (-1), 3, 5, 0, (-1), 0), (.goto (-17), 3, 27, 0, 0, 0)]
theorem e_Memory_takeAllAway_41 : sp_ok R_Memory b_Memory_takeAllAway 6 k_Memory_takeAllAway_41 41 = true := by decide +kernel
def k_Memory_takeAllAway_47 : List sp_I := [(.iinc 3 1, 3, 3, 0, 1, 0), (.goto (-40), 3, 10, 0, 0, 0)]
theorem e_Memory_takeAllAway_47 : sp_ok R_Memory b_Memory_takeAllAway 6 k_Memory_takeAllAway_47 47 = true := by decide +kernel
theorem d_Memory_takeAllAway_22 : decode b_Memory_takeAllAway 22 = .ok (.invokevirtual 36, 3) := by decide +kernel
theorem d_Memory_takeAllAway_35 : decode b_Memory_takeAllAway 35 = .ok (.invokevirtual 83, 3) := by decide +kernel
theorem d_Memory_takeAllAway_38 : decode b_Memory_takeAllAway 38 = .ok (.invokevirtual 73, 3) := by decide +kernel
theorem d_Memory_takeAllAway_53 : decode b_Memory_takeAllAway 53 = .ok (.return_, 1) := by decide +kernel
def k_Memory_pass_0 : List sp_I := [(.aload_n 0, 1, 0, 0, 0, 0), (.dup, 1, 0, 0, 0, 0), (.getfield 24, 3, 3, 2, 0, 148), (.iload_n 1, 1, 1, 0, 0, 0), (.iadd, 1, 0, 0, 0, 0), (.putfield 24, 3, 3, 2, 0, 148), (.aload_n 0, 1, 0, 0, 0, 0), (.getfield 13, 3, 3, 0, 0, 146), (.astore_n 2, 1, 2, 0, 0, 0), (.aload_n 2, 1, 2, 0, 0, 0), (.arraylength, 1, 0, 0, 0, 0), (.istore_n 3, 1, 3, 0, 0, 0), (.iconst 0, 1, 0, 0, 0, 0), (.istore 4, 2, 4, 0, 0, 0)]
theorem e_Memory_pass_0 : sp_ok R_Memory b_Memory_pass 8 k_Memory_pass_0 0 = true := by decide +kernel
def k_Memory_pass_21 : List sp_I := [(.iload 4, 2, 4, 0, 0, 0), (.iload_n 3, 1, 3, 0, 0, 0), (.if_icmp .ge 47, 3, 71, 0, 0, 0), (.aload_n 2, 1, 2, 0, 0, 0), (.iload 4, 2, 4, 0, 0, 0), (.aaload, 1, 0, 0, 0, 0), (.astore 5, 2, 5, 0, 0, 0), (.aload 5, 2, 5, 0, 0, 0)]
theorem e_Memory_pass_21 : sp_ok R_Memory b_Memory_pass 8 k_Memory_pass_21 21 = true := by decide +kernel
def k_Memory_pass_38 : List sp_I := [(.astore 6, 2, 6, 0, 0, 0)]
theorem e_Memory_pass_38 : sp_ok R_Memory b_Memory_pass 8 k_Memory_pass_38 38 = true := by decide +kernel
def k_Memory_pass_40 : List sp_I := [(.aload 6, 2, 6, 0, 0, 0), (.ifnull 23, 3, 65, 0, 0, 0), (.aload 6, 2, 6, 0, 0, 0), (.getfield 50, 3, 1, 5, 0, 700), (.astore 7, 2, 7, 0, 0, 0), (.aload_n 0, 1, 0, 0, 0, 0), (.aload 6, 2, 6, 0, 0, 0)]
theorem e_Memory_pass_40 : sp_ok R_Memory b_Memory_pass 8 k_Memory_pass_40 40 = true := by decide +kernel
def k_Memory_pass_58 : List sp_I := [(.aload 7, 2, 7, 0, 0, 0), (.astore 6, 2, 6, 0, 0, 0), (.goto (-22), 3, 40, 0, 0, 0)]
theorem e_Memory_pass_58 : sp_ok R_Memory b_Memory_pass 8 k_Memory_pass_58 58 = true := by decide +kernel
def k_Memory_pass_65 : List sp_I := [(.iinc 4 1, 3, 4, 0, 1, 0), (.goto (-47), 3, 21, 0, 0, 0)]
theorem e_Memory_pass_65 : sp_ok R_Memory b_Memory_pass 8 k_Memory_pass_65 65 = true := by decide +kernel
theorem d_Memory_pass_35 : decode b_Memory_pass 35 = .ok (.invokevirtual 40, 3) := by decide +kernel
theorem d_Memory_pass_55 : decode b_Memory_pass 55 = .ok (.invokevirtual 96, 3) := by decide +kernel
theorem d_Memory_pass_71 : decode b_Memory_pass 71 = .ok (.return_, 1) := by decide +kernel
def k_Memory_takeAwayIfGone_0 : List sp_I := [(.aload_n 1, 1, 1, 0, 0, 0), (.getfield 110, 3, 1, 3, 0, 694), (.aload_n 0, 1, 0, 0, 0, 0), (.getfield 24, 3, 3, 2, 0, 148), (.if_icmp .gt 21, 3, 29, 0, 0, 0), (.aload_n 1, 1, 1, 0, 0, 0), (.getfield 99, 3, 1, 0, 0, 687), (.aload_n 1, 1, 1, 0, 0, 0)]
theorem e_Memory_takeAwayIfGone_0 : sp_ok R_Memory b_Memory_takeAwayIfGone 2 k_Memory_takeAwayIfGone_0 0 = true := by decide +kernel
def k_Memory_takeAwayIfGone_19 : List sp_I := [(.aload_n 0, 1, 0, 0, 0, 0), (.dup, 1, 0, 0, 0, 0), (.getfield 33, 3, 3, 5, 0, 151), (.iconst 1, 1, 0, 0, 1, 0), (.iadd, 1, 0, 0, 0, 0), (.putfield 33, 3, 3, 5, 0, 151)]
theorem e_Memory_takeAwayIfGone_19 : sp_ok R_Memory b_Memory_takeAwayIfGone 2 k_Memory_takeAwayIfGone_19 19 = true := by decide +kernel
theorem d_Memory_takeAwayIfGone_16 : decode b_Memory_takeAwayIfGone 16 = .ok (.invokevirtual 86, 3) := by decide +kernel
theorem d_Memory_takeAwayIfGone_29 : decode b_Memory_takeAwayIfGone 29 = .ok (.return_, 1) := by decide +kernel
def k_Memory_shelfFor_0 : List sp_I := [(.aload_n 0, 1, 0, 0, 0, 0), (.getfield 13, 3, 3, 0, 0, 146), (.astore_n 2, 1, 2, 0, 0, 0), (.aload_n 2, 1, 2, 0, 0, 0), (.arraylength, 1, 0, 0, 0, 0), (.istore_n 3, 1, 3, 0, 0, 0), (.iconst 0, 1, 0, 0, 0, 0), (.istore 4, 2, 4, 0, 0, 0)]
theorem e_Memory_shelfFor_0 : sp_ok R_Memory b_Memory_shelfFor 6 k_Memory_shelfFor_0 0 = true := by decide +kernel
def k_Memory_shelfFor_11 : List sp_I := [(.iload 4, 2, 4, 0, 0, 0), (.iload_n 3, 1, 3, 0, 0, 0), (.if_icmp .ge 27, 3, 41, 0, 0, 0), (.aload_n 2, 1, 2, 0, 0, 0), (.iload 4, 2, 4, 0, 0, 0), (.aaload, 1, 0, 0, 0, 0), (.astore 5, 2, 5, 0, 0, 0), (.aload 5, 2, 5, 0, 0, 0), (.iload_n 1, 1, 1, 0, 0, 0)]
theorem e_Memory_shelfFor_11 : sp_ok R_Memory b_Memory_shelfFor 6 k_Memory_shelfFor_11 11 = true := by decide +kernel
def k_Memory_shelfFor_29 : List sp_I := [(.ifCond .eq 6, 3, 35, 0, 0, 0), (.aload 5, 2, 5, 0, 0, 0)]
theorem e_Memory_shelfFor_29 : sp_ok R_Memory b_Memory_shelfFor 6 k_Memory_shelfFor_29 29 = true := by decide +kernel
def k_Memory_shelfFor_35 : List sp_I := [(.iinc 4 1, 3, 4, 0, 1, 0), (.goto (-27), 3, 11, 0, 0, 0)]
theorem e_Memory_shelfFor_35 : sp_ok R_Memory b_Memory_shelfFor 6 k_Memory_shelfFor_35 35 = true := by decide +kernel
def k_Memory_shelfFor_41 : List sp_I := [(.aconst_null, 1, 0, 0, 0, 0)]
theorem e_Memory_shelfFor_41 : sp_ok R_Memory b_Memory_shelfFor 6 k_Memory_shelfFor_41 41 = true := by decide +kernel
theorem d_Memory_shelfFor_26 : decode b_Memory_shelfFor 26 = .ok (.invokevirtual 113, 3) := by decide +kernel
theorem d_Memory_shelfFor_34 : decode b_Memory_shelfFor 34 = .ok (.areturn, 1) := by decide +kernel
theorem d_Memory_shelfFor_42 : decode b_Memory_shelfFor 42 = .ok (.areturn, 1) := by decide +kernel
theorem w_Memory_3 : sp_wO R_Memory 3 [116, 95, 96] = true := by decide +kernel
theorem f_Memory_13 : sp_wF R_Memory 13 3 0 1 146 = true := by decide +kernel
theorem n_Memory_11 : sp_wN R_Memory 11 R_Shelf 7 [117, 119, 70] = true := by decide +kernel
theorem w_Memory_17 : sp_wI R_Memory 17 y_Shelf_init b_Shelf_init 3 2 [120, 121, 70, 122] = true := by decide +kernel
theorem w_Memory_36 : sp_wV R_Memory 36 R_Shelf y_Shelf_items b_Shelf_items 1 (some .int) 0 [581, 582, 583, 70, 584] = true := by decide +kernel
theorem w_Memory_40 : sp_wV R_Memory 40 R_Shelf y_Shelf_front b_Shelf_front 1 (some (.object "SlabPantry$Chunk")) 0 [488, 489, 490, 70, 491] = true := by decide +kernel
theorem w_Memory_44 : sp_wV R_Memory 44 R_Chunk y_Chunk_hasKey b_Chunk_hasKey 5 (some .boolean) 3 [492, 493, 494, 83, 495] = true := by decide +kernel
theorem w_Memory_55 : sp_wV R_Memory 55 R_Memory y_Memory_shelfFor b_Memory_shelfFor 6 (some (.object "SlabPantry$Shelf")) 1 [648, 650, 21, 69, 651] = true := by decide +kernel
theorem w_Memory_61 : sp_wV R_Memory 61 R_Shelf y_Shelf_pages b_Shelf_pages 1 (some .int) 0 [657, 658, 659, 70, 660] = true := by decide +kernel
theorem w_Memory_68 : sp_wV R_Memory 68 R_Draft y_Draft_size b_Draft_size 1 (some .int) 0 [667, 640, 641, 75, 642] = true := by decide +kernel
theorem w_Memory_73 : sp_wV R_Memory 73 R_Memory y_Memory_takeAway b_Memory_takeAway 2 none 1 [589, 545, 546, 69, 547] = true := by decide +kernel
theorem w_Memory_77 : sp_wV R_Memory 77 R_Shelf y_Shelf_freeChunks b_Shelf_freeChunks 1 (some .int) 0 [668, 669, 670, 70, 671] = true := by decide +kernel
theorem w_Memory_80 : sp_wV R_Memory 80 R_Shelf y_Shelf_addPage b_Shelf_addPage 3 none 0 [672, 673, 674, 70, 675] = true := by decide +kernel
theorem w_Memory_83 : sp_wV R_Memory 83 R_Shelf y_Shelf_back b_Shelf_back 1 (some (.object "SlabPantry$Chunk")) 0 [585, 586, 587, 70, 588] = true := by decide +kernel
theorem w_Memory_86 : sp_wV R_Memory 86 R_Shelf y_Shelf_giveBack b_Shelf_giveBack 2 none 1 [548, 549, 550, 70, 551] = true := by decide +kernel
theorem w_Memory_89 : sp_wV R_Memory 89 R_Shelf y_Shelf_take b_Shelf_take 2 (some (.object "SlabPantry$Chunk")) 0 [721, 722, 723, 70, 724] = true := by decide +kernel
theorem w_Memory_92 : sp_wV R_Memory 92 R_Chunk y_Chunk_fill b_Chunk_fill 3 none 2 [725, 726, 727, 83, 728] = true := by decide +kernel
theorem w_Memory_96 : sp_wV R_Memory 96 R_Memory y_Memory_takeAwayIfGone b_Memory_takeAwayIfGone 2 none 1 [572, 574, 14, 69, 575] = true := by decide +kernel
theorem w_Memory_103 : sp_wV R_Memory 103 R_Shelf y_Shelf_bringToFront b_Shelf_bringToFront 2 none 1 [566, 498, 499, 70, 500] = true := by decide +kernel
theorem w_Memory_106 : sp_wV R_Memory 106 R_Memory y_Memory_goneAfter b_Memory_goneAfter 2 (some .int) 1 [567, 568, 569, 69, 570] = true := by decide +kernel
theorem w_Memory_113 : sp_wV R_Memory 113 R_Shelf y_Shelf_takes b_Shelf_takes 2 (some .boolean) 1 [652, 653, 654, 70, 655] = true := by decide +kernel
