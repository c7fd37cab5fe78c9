def k_Chunk_init_0 : List sp_I := [(.aload_n 0, 1, 0, 0, 0, 0)]
theorem e_Chunk_init_0 : sp_ok R_Chunk b_Chunk_init 3 k_Chunk_init_0 0 = true := by decide +kernel
def k_Chunk_init_4 : List sp_I := [(.aload_n 0, 1, 0, 0, 0, 0), (.aload_n 1, 1, 1, 0, 0, 0)]
theorem e_Chunk_init_4 : sp_ok R_Chunk b_Chunk_init 3 k_Chunk_init_4 4 = true := by decide +kernel
def k_Chunk_init_9 : List sp_I := [(.aload_n 0, 1, 0, 0, 0, 0), (.iconst 0, 1, 0, 0, 0, 0), (.putfield 13, 3, 1, 1, 0, 688), (.aload_n 0, 1, 0, 0, 0, 0), (.iconst 0, 1, 0, 0, 0, 0), (.putfield 17, 3, 1, 2, 0, 690), (.aload_n 0, 1, 0, 0, 0, 0), (.ldc 22, 2, 682, 1, 2147483647, 0), (.putfield 23, 3, 1, 3, 0, 693), (.aload_n 0, 1, 0, 0, 0, 0), (.aconst_null, 1, 0, 0, 0, 0), (.putfield 26, 3, 1, 4, 1, 696), (.aload_n 0, 1, 0, 0, 0, 0), (.aconst_null, 1, 0, 0, 0, 0), (.putfield 30, 3, 1, 5, 1, 698), (.aload_n 0, 1, 0, 0, 0, 0)]
theorem e_Chunk_init_9 : sp_ok R_Chunk b_Chunk_init 3 k_Chunk_init_9 9 = true := by decide +kernel
def k_Chunk_init_39 : List sp_I := [(.dup, 1, 0, 0, 0, 0), (.iload_n 2, 1, 2, 0, 0, 0)]
theorem e_Chunk_init_39 : sp_ok R_Chunk b_Chunk_init 3 k_Chunk_init_39 39 = true := by decide +kernel
def k_Chunk_init_47 : List sp_I := [(.aload_n 0, 1, 0, 0, 0, 0), (.iconst 0, 1, 0, 0, 0, 0), (.putfield 42, 3, 1, 7, 0, 702)]
theorem e_Chunk_init_47 : sp_ok R_Chunk b_Chunk_init 3 k_Chunk_init_47 47 = true := by decide +kernel
theorem d_Chunk_init_1 : decode b_Chunk_init 1 = .ok (.invokespecial 1, 3) := by decide +kernel
theorem d_Chunk_init_6 : decode b_Chunk_init 6 = .ok (.putfield 7, 3) := by decide +kernel
theorem d_Chunk_init_36 : decode b_Chunk_init 36 = .ok (.new 33, 3) := by decide +kernel
theorem d_Chunk_init_41 : decode b_Chunk_init 41 = .ok (.invokespecial 35, 3) := by decide +kernel
theorem d_Chunk_init_44 : decode b_Chunk_init 44 = .ok (.putfield 38, 3) := by decide +kernel
theorem d_Chunk_init_52 : decode b_Chunk_init 52 = .ok (.return_, 1) := by decide +kernel
def k_Chunk_fill_0 : List sp_I := [(.aload_n 0, 1, 0, 0, 0, 0), (.getfield 38, 3, 1, 6, 0, 701)]
theorem e_Chunk_fill_0 : sp_ok R_Chunk b_Chunk_fill 3 k_Chunk_fill_0 0 = true := by decide +kernel
def k_Chunk_fill_7 : List sp_I := [(.aload_n 0, 1, 0, 0, 0, 0), (.getfield 38, 3, 1, 6, 0, 701), (.aload_n 1, 1, 1, 0, 0, 0), (.getfield 48, 3, 5, 0, 0, 209), (.iconst 0, 1, 0, 0, 0, 0), (.aload_n 1, 1, 1, 0, 0, 0), (.getfield 48, 3, 5, 0, 0, 209)]
theorem e_Chunk_fill_7 : sp_ok R_Chunk b_Chunk_fill 3 k_Chunk_fill_7 7 = true := by decide +kernel
def k_Chunk_fill_26 : List sp_I := [(.aload_n 0, 1, 0, 0, 0, 0), (.getfield 38, 3, 1, 6, 0, 701), (.aload_n 1, 1, 1, 0, 0, 0), (.getfield 61, 3, 5, 1, 0, 212), (.iconst 0, 1, 0, 0, 0, 0), (.aload_n 1, 1, 1, 0, 0, 0), (.getfield 61, 3, 5, 1, 0, 212)]
theorem e_Chunk_fill_26 : sp_ok R_Chunk b_Chunk_fill 3 k_Chunk_fill_26 26 = true := by decide +kernel
def k_Chunk_fill_45 : List sp_I := [(.aload_n 0, 1, 0, 0, 0, 0), (.aload_n 1, 1, 1, 0, 0, 0), (.getfield 48, 3, 5, 0, 0, 209)]
theorem e_Chunk_fill_45 : sp_ok R_Chunk b_Chunk_fill 3 k_Chunk_fill_45 45 = true := by decide +kernel
def k_Chunk_fill_53 : List sp_I := [(.putfield 42, 3, 1, 7, 0, 702), (.aload_n 0, 1, 0, 0, 0, 0), (.aload_n 1, 1, 1, 0, 0, 0), (.getfield 64, 3, 5, 2, 0, 215), (.putfield 13, 3, 1, 1, 0, 688), (.aload_n 0, 1, 0, 0, 0, 0), (.aload_n 1, 1, 1, 0, 0, 0), (.getfield 65, 3, 5, 3, 0, 218), (.putfield 23, 3, 1, 3, 0, 693), (.aload_n 0, 1, 0, 0, 0, 0), (.iload_n 2, 1, 2, 0, 0, 0), (.putfield 17, 3, 1, 2, 0, 690)]
theorem e_Chunk_fill_53 : sp_ok R_Chunk b_Chunk_fill 3 k_Chunk_fill_53 53 = true := by decide +kernel
theorem d_Chunk_fill_4 : decode b_Chunk_fill 4 = .ok (.invokevirtual 45, 3) := by decide +kernel
theorem d_Chunk_fill_20 : decode b_Chunk_fill 20 = .ok (.invokevirtual 53, 3) := by decide +kernel
theorem d_Chunk_fill_23 : decode b_Chunk_fill 23 = .ok (.invokevirtual 57, 3) := by decide +kernel
theorem d_Chunk_fill_39 : decode b_Chunk_fill 39 = .ok (.invokevirtual 53, 3) := by decide +kernel
theorem d_Chunk_fill_42 : decode b_Chunk_fill 42 = .ok (.invokevirtual 57, 3) := by decide +kernel
theorem d_Chunk_fill_50 : decode b_Chunk_fill 50 = .ok (.invokevirtual 53, 3) := by decide +kernel
theorem d_Chunk_fill_77 : decode b_Chunk_fill 77 = .ok (.return_, 1) := by decide +kernel
def k_Chunk_hasKey_0 : List sp_I := [(.aload_n 0, 1, 0, 0, 0, 0), (.getfield 42, 3, 1, 7, 0, 702), (.iload_n 3, 1, 3, 0, 0, 0), (.if_icmp .eq 5, 3, 10, 0, 0, 0), (.iconst 0, 1, 0, 0, 0, 0)]
theorem e_Chunk_hasKey_0 : sp_ok R_Chunk b_Chunk_hasKey 5 k_Chunk_hasKey_0 0 = true := by decide +kernel
def k_Chunk_hasKey_10 : List sp_I := [(.iconst 0, 1, 0, 0, 0, 0), (.istore 4, 2, 4, 0, 0, 0)]
theorem e_Chunk_hasKey_10 : sp_ok R_Chunk b_Chunk_hasKey 5 k_Chunk_hasKey_10 10 = true := by decide +kernel
def k_Chunk_hasKey_13 : List sp_I := [(.iload 4, 2, 4, 0, 0, 0), (.iload_n 3, 1, 3, 0, 0, 0), (.if_icmp .ge 31, 3, 47, 0, 0, 0), (.aload_n 0, 1, 0, 0, 0, 0), (.getfield 38, 3, 1, 6, 0, 701), (.iload 4, 2, 4, 0, 0, 0)]
theorem e_Chunk_hasKey_13 : sp_ok R_Chunk b_Chunk_hasKey 5 k_Chunk_hasKey_13 13 = true := by decide +kernel
def k_Chunk_hasKey_28 : List sp_I := [(.aload_n 1, 1, 1, 0, 0, 0), (.iload_n 2, 1, 2, 0, 0, 0), (.iload 4, 2, 4, 0, 0, 0), (.iadd, 1, 0, 0, 0, 0)]
theorem e_Chunk_hasKey_28 : sp_ok R_Chunk b_Chunk_hasKey 5 k_Chunk_hasKey_28 28 = true := by decide +kernel
def k_Chunk_hasKey_36 : List sp_I := [(.if_icmp .eq 5, 3, 41, 0, 0, 0), (.iconst 0, 1, 0, 0, 0, 0)]
theorem e_Chunk_hasKey_36 : sp_ok R_Chunk b_Chunk_hasKey 5 k_Chunk_hasKey_36 36 = true := by decide +kernel
def k_Chunk_hasKey_41 : List sp_I := [(.iinc 4 1, 3, 4, 0, 1, 0), (.goto (-31), 3, 13, 0, 0, 0)]
theorem e_Chunk_hasKey_41 : sp_ok R_Chunk b_Chunk_hasKey 5 k_Chunk_hasKey_41 41 = true := by decide +kernel
def k_Chunk_hasKey_47 : List sp_I := [(.iconst 1, 1, 0, 0, 1, 0)]
theorem e_Chunk_hasKey_47 : sp_ok R_Chunk b_Chunk_hasKey 5 k_Chunk_hasKey_47 47 = true := by decide +kernel
theorem d_Chunk_hasKey_9 : decode b_Chunk_hasKey 9 = .ok (.ireturn, 1) := by decide +kernel
theorem d_Chunk_hasKey_25 : decode b_Chunk_hasKey 25 = .ok (.invokevirtual 66, 3) := by decide +kernel
theorem d_Chunk_hasKey_33 : decode b_Chunk_hasKey 33 = .ok (.invokevirtual 66, 3) := by decide +kernel
theorem d_Chunk_hasKey_40 : decode b_Chunk_hasKey 40 = .ok (.ireturn, 1) := by decide +kernel
theorem d_Chunk_hasKey_48 : decode b_Chunk_hasKey 48 = .ok (.ireturn, 1) := by decide +kernel
def k_Chunk_dataLength_0 : List sp_I := [(.aload_n 0, 1, 0, 0, 0, 0), (.getfield 38, 3, 1, 6, 0, 701)]
theorem e_Chunk_dataLength_0 : sp_ok R_Chunk b_Chunk_dataLength 1 k_Chunk_dataLength_0 0 = true := by decide +kernel
def k_Chunk_dataLength_7 : List sp_I := [(.aload_n 0, 1, 0, 0, 0, 0), (.getfield 42, 3, 1, 7, 0, 702), (.isub, 1, 0, 0, 0, 0)]
theorem e_Chunk_dataLength_7 : sp_ok R_Chunk b_Chunk_dataLength 1 k_Chunk_dataLength_7 7 = true := by decide +kernel
theorem d_Chunk_dataLength_4 : decode b_Chunk_dataLength 4 = .ok (.invokevirtual 53, 3) := by decide +kernel
theorem d_Chunk_dataLength_12 : decode b_Chunk_dataLength 12 = .ok (.ireturn, 1) := by decide +kernel
def k_Chunk_isNumeric_0 : List sp_I := [(.aload_n 0, 1, 0, 0, 0, 0), (.getfield 38, 3, 1, 6, 0, 701), (.aload_n 0, 1, 0, 0, 0, 0), (.getfield 42, 3, 1, 7, 0, 702), (.aload_n 0, 1, 0, 0, 0, 0)]
theorem e_Chunk_isNumeric_0 : sp_ok R_Chunk b_Chunk_isNumeric 1 k_Chunk_isNumeric_0 0 = true := by decide +kernel
theorem d_Chunk_isNumeric_9 : decode b_Chunk_isNumeric 9 = .ok (.invokevirtual 70, 3) := by decide +kernel
theorem d_Chunk_isNumeric_12 : decode b_Chunk_isNumeric 12 = .ok (.invokevirtual 73, 3) := by decide +kernel
theorem d_Chunk_isNumeric_15 : decode b_Chunk_isNumeric 15 = .ok (.ireturn, 1) := by decide +kernel
def k_Chunk_number_0 : List sp_I := [(.aload_n 0, 1, 0, 0, 0, 0), (.getfield 38, 3, 1, 6, 0, 701), (.aload_n 0, 1, 0, 0, 0, 0), (.getfield 42, 3, 1, 7, 0, 702), (.aload_n 0, 1, 0, 0, 0, 0)]
theorem e_Chunk_number_0 : sp_ok R_Chunk b_Chunk_number 1 k_Chunk_number_0 0 = true := by decide +kernel
theorem d_Chunk_number_9 : decode b_Chunk_number 9 = .ok (.invokevirtual 70, 3) := by decide +kernel
theorem d_Chunk_number_12 : decode b_Chunk_number 12 = .ok (.invokevirtual 77, 3) := by decide +kernel
theorem d_Chunk_number_15 : decode b_Chunk_number 15 = .ok (.ireturn, 1) := by decide +kernel
def k_Chunk_addKeyTo_0 : List sp_I := [(.aload_n 1, 1, 1, 0, 0, 0), (.aload_n 0, 1, 0, 0, 0, 0), (.getfield 38, 3, 1, 6, 0, 701), (.iconst 0, 1, 0, 0, 0, 0), (.aload_n 0, 1, 0, 0, 0, 0), (.getfield 42, 3, 1, 7, 0, 702)]
theorem e_Chunk_addKeyTo_0 : sp_ok R_Chunk b_Chunk_addKeyTo 2 k_Chunk_addKeyTo_0 0 = true := by decide +kernel
theorem d_Chunk_addKeyTo_10 : decode b_Chunk_addKeyTo 10 = .ok (.invokevirtual 57, 3) := by decide +kernel
theorem d_Chunk_addKeyTo_13 : decode b_Chunk_addKeyTo 13 = .ok (.return_, 1) := by decide +kernel
def k_Chunk_addDataTo_0 : List sp_I := [(.aload_n 1, 1, 1, 0, 0, 0), (.aload_n 0, 1, 0, 0, 0, 0), (.getfield 38, 3, 1, 6, 0, 701), (.aload_n 0, 1, 0, 0, 0, 0), (.getfield 42, 3, 1, 7, 0, 702), (.aload_n 0, 1, 0, 0, 0, 0)]
theorem e_Chunk_addDataTo_0 : sp_ok R_Chunk b_Chunk_addDataTo 2 k_Chunk_addDataTo_0 0 = true := by decide +kernel
theorem d_Chunk_addDataTo_10 : decode b_Chunk_addDataTo 10 = .ok (.invokevirtual 70, 3) := by decide +kernel
theorem d_Chunk_addDataTo_13 : decode b_Chunk_addDataTo 13 = .ok (.invokevirtual 57, 3) := by decide +kernel
theorem d_Chunk_addDataTo_16 : decode b_Chunk_addDataTo 16 = .ok (.return_, 1) := by decide +kernel
theorem w_Chunk_1 : sp_wO R_Chunk 1 [681, 95, 96] = true := by decide +kernel
theorem f_Chunk_7 : sp_wF R_Chunk 7 1 0 1 685 = true := by decide +kernel
theorem n_Chunk_33 : sp_wN R_Chunk 33 R_Text 2 [683, 98, 68] = true := by decide +kernel
theorem w_Chunk_35 : sp_wI R_Chunk 35 y_Text_init b_Text_init 2 1 [684, 100, 68, 101] = true := by decide +kernel
theorem f_Chunk_38 : sp_wF R_Chunk 38 1 6 1 701 = true := by decide +kernel
theorem w_Chunk_45 : sp_wV R_Chunk 45 R_Text y_Text_clear b_Text_clear 1 none 0 [729, 287, 288, 68, 289] = true := by decide +kernel
theorem w_Chunk_53 : sp_wV R_Chunk 53 R_Text y_Text_length b_Text_length 1 (some .int) 0 [532, 275, 276, 68, 277] = true := by decide +kernel
theorem w_Chunk_57 : sp_wV R_Chunk 57 R_Text y_Text_addPart b_Text_addPart 5 none 3 [518, 519, 520, 68, 521] = true := by decide +kernel
theorem w_Chunk_66 : sp_wV R_Chunk 66 R_Text y_Text_at b_Text_at 2 (some .char) 1 [496, 307, 308, 68, 309] = true := by decide +kernel
theorem w_Chunk_70 : sp_wV R_Chunk 70 R_Chunk y_Chunk_dataLength b_Chunk_dataLength 1 (some .int) 0 [538, 529, 530, 83, 531] = true := by decide +kernel
theorem w_Chunk_73 : sp_wV R_Chunk 73 R_Text y_Text_isNumber b_Text_isNumber 5 (some .boolean) 2 [607, 418, 419, 68, 420] = true := by decide +kernel
theorem w_Chunk_77 : sp_wV R_Chunk 77 R_Text y_Text_number b_Text_number 5 (some .int) 2 [629, 440, 441, 68, 442] = true := by decide +kernel
def k_Shelf_init_0 : List sp_I := [(.aload_n 0, 1, 0, 0, 0, 0)]
theorem e_Shelf_init_0 : sp_ok R_Shelf b_Shelf_init 3 k_Shelf_init_0 0 = true := by decide +kernel
def k_Shelf_init_4 : List sp_I := [(.aload_n 0, 1, 0, 0, 0, 0), (.iload_n 1, 1, 1, 0, 0, 0)]
theorem e_Shelf_init_4 : sp_ok R_Shelf b_Shelf_init 3 k_Shelf_init_4 4 = true := by decide +kernel
def k_Shelf_init_9 : List sp_I := [(.aload_n 0, 1, 0, 0, 0, 0), (.iload_n 2, 1, 2, 0, 0, 0)]
theorem e_Shelf_init_9 : sp_ok R_Shelf b_Shelf_init 3 k_Shelf_init_9 9 = true := by decide +kernel
def k_Shelf_init_14 : List sp_I := [(.aload_n 0, 1, 0, 0, 0, 0), (.iconst 0, 1, 0, 0, 0, 0), (.putfield 16, 3, 2, 2, 0, 126), (.aload_n 0, 1, 0, 0, 0, 0), (.iconst 0, 1, 0, 0, 0, 0), (.putfield 19, 3, 2, 3, 0, 127), (.aload_n 0, 1, 0, 0, 0, 0), (.aconst_null, 1, 0, 0, 0, 0), (.putfield 22, 3, 2, 4, 1, 128), (.aload_n 0, 1, 0, 0, 0, 0), (.aconst_null, 1, 0, 0, 0, 0), (.putfield 26, 3, 2, 5, 1, 129), (.aload_n 0, 1, 0, 0, 0, 0), (.aconst_null, 1, 0, 0, 0, 0), (.putfield 29, 3, 2, 6, 1, 130)]
theorem e_Shelf_init_14 : sp_ok R_Shelf b_Shelf_init 3 k_Shelf_init_14 14 = true := by decide +kernel
theorem d_Shelf_init_1 : decode b_Shelf_init 1 = .ok (.invokespecial 1, 3) := by decide +kernel
theorem d_Shelf_init_6 : decode b_Shelf_init 6 = .ok (.putfield 7, 3) := by decide +kernel
theorem d_Shelf_init_11 : decode b_Shelf_init 11 = .ok (.putfield 13, 3) := by decide +kernel
theorem d_Shelf_init_39 : decode b_Shelf_init 39 = .ok (.return_, 1) := by decide +kernel
def k_Shelf_pages_0 : List sp_I := [(.aload_n 0, 1, 0, 0, 0, 0), (.getfield 16, 3, 2, 2, 0, 126)]
theorem e_Shelf_pages_0 : sp_ok R_Shelf b_Shelf_pages 1 k_Shelf_pages_0 0 = true := by decide +kernel
theorem d_Shelf_pages_4 : decode b_Shelf_pages 4 = .ok (.ireturn, 1) := by decide +kernel
def k_Shelf_items_0 : List sp_I := [(.aload_n 0, 1, 0, 0, 0, 0), (.getfield 19, 3, 2, 3, 0, 127)]
theorem e_Shelf_items_0 : sp_ok R_Shelf b_Shelf_items 1 k_Shelf_items_0 0 = true := by decide +kernel
theorem d_Shelf_items_4 : decode b_Shelf_items 4 = .ok (.ireturn, 1) := by decide +kernel
def k_Shelf_freeChunks_0 : List sp_I := [(.aload_n 0, 1, 0, 0, 0, 0), (.getfield 16, 3, 2, 2, 0, 126), (.aload_n 0, 1, 0, 0, 0, 0), (.getfield 13, 3, 2, 1, 0, 125), (.imul, 1, 0, 0, 0, 0), (.aload_n 0, 1, 0, 0, 0, 0), (.getfield 19, 3, 2, 3, 0, 127), (.isub, 1, 0, 0, 0, 0)]
theorem e_Shelf_freeChunks_0 : sp_ok R_Shelf b_Shelf_freeChunks 1 k_Shelf_freeChunks_0 0 = true := by decide +kernel
theorem d_Shelf_freeChunks_14 : decode b_Shelf_freeChunks 14 = .ok (.ireturn, 1) := by decide +kernel
def k_Shelf_takes_0 : List sp_I := [(.iload_n 1, 1, 1, 0, 0, 0), (.aload_n 0, 1, 0, 0, 0, 0), (.getfield 7, 3, 2, 0, 0, 124), (.if_icmp .gt 7, 3, 12, 0, 0, 0), (.iconst 1, 1, 0, 0, 1, 0), (.goto 4, 3, 13, 0, 0, 0)]
theorem e_Shelf_takes_0 : sp_ok R_Shelf b_Shelf_takes 2 k_Shelf_takes_0 0 = true := by decide +kernel
def k_Shelf_takes_12 : List sp_I := [(.iconst 0, 1, 0, 0, 0, 0)]
theorem e_Shelf_takes_12 : sp_ok R_Shelf b_Shelf_takes 2 k_Shelf_takes_12 12 = true := by decide +kernel
theorem d_Shelf_takes_13 : decode b_Shelf_takes 13 = .ok (.ireturn, 1) := by decide +kernel
def k_Shelf_front_0 : List sp_I := [(.aload_n 0, 1, 0, 0, 0, 0), (.getfield 26, 3, 2, 5, 0, 129)]
theorem e_Shelf_front_0 : sp_ok R_Shelf b_Shelf_front 1 k_Shelf_front_0 0 = true := by decide +kernel
theorem d_Shelf_front_4 : decode b_Shelf_front 4 = .ok (.areturn, 1) := by decide +kernel
def k_Shelf_back_0 : List sp_I := [(.aload_n 0, 1, 0, 0, 0, 0), (.getfield 29, 3, 2, 6, 0, 130)]
theorem e_Shelf_back_0 : sp_ok R_Shelf b_Shelf_back 1 k_Shelf_back_0 0 = true := by decide +kernel
theorem d_Shelf_back_4 : decode b_Shelf_back 4 = .ok (.areturn, 1) := by decide +kernel
def k_Shelf_addPage_0 : List sp_I := [(.aload_n 0, 1, 0, 0, 0, 0), (.dup, 1, 0, 0, 0, 0), (.getfield 16, 3, 2, 2, 0, 126), (.iconst 1, 1, 0, 0, 1, 0), (.iadd, 1, 0, 0, 0, 0), (.putfield 16, 3, 2, 2, 0, 126), (.iconst 0, 1, 0, 0, 0, 0), (.istore_n 1, 1, 1, 0, 0, 0)]
theorem e_Shelf_addPage_0 : sp_ok R_Shelf b_Shelf_addPage 3 k_Shelf_addPage_0 0 = true := by decide +kernel
def k_Shelf_addPage_12 : List sp_I := [(.iload_n 1, 1, 1, 0, 0, 0), (.aload_n 0, 1, 0, 0, 0, 0), (.getfield 13, 3, 2, 1, 0, 125), (.if_icmp .ge 35, 3, 52, 0, 0, 0)]
theorem e_Shelf_addPage_12 : sp_ok R_Shelf b_Shelf_addPage 3 k_Shelf_addPage_12 12 = true := by decide +kernel
def k_Shelf_addPage_23 : List sp_I := [(.dup, 1, 0, 0, 0, 0), (.aload_n 0, 1, 0, 0, 0, 0), (.aload_n 0, 1, 0, 0, 0, 0), (.getfield 7, 3, 2, 0, 0, 124)]
theorem e_Shelf_addPage_23 : sp_ok R_Shelf b_Shelf_addPage 3 k_Shelf_addPage_23 23 = true := by decide +kernel
def k_Shelf_addPage_32 : List sp_I := [(.astore_n 2, 1, 2, 0, 0, 0), (.aload_n 2, 1, 2, 0, 0, 0), (.aload_n 0, 1, 0, 0, 0, 0), (.getfield 22, 3, 2, 4, 0, 128), (.putfield 37, 3, 1, 5, 1, 699), (.aload_n 0, 1, 0, 0, 0, 0), (.aload_n 2, 1, 2, 0, 0, 0), (.putfield 22, 3, 2, 4, 1, 128), (.iinc 1 1, 3, 1, 0, 1, 0), (.goto (-37), 3, 12, 0, 0, 0)]
theorem e_Shelf_addPage_32 : sp_ok R_Shelf b_Shelf_addPage 3 k_Shelf_addPage_32 32 = true := by decide +kernel
theorem d_Shelf_addPage_20 : decode b_Shelf_addPage 20 = .ok (.new 32, 3) := by decide +kernel
theorem d_Shelf_addPage_29 : decode b_Shelf_addPage 29 = .ok (.invokespecial 34, 3) := by decide +kernel
theorem d_Shelf_addPage_52 : decode b_Shelf_addPage 52 = .ok (.return_, 1) := by decide +kernel
def k_Shelf_take_0 : List sp_I := [(.aload_n 0, 1, 0, 0, 0, 0), (.getfield 22, 3, 2, 4, 0, 128), (.astore_n 1, 1, 1, 0, 0, 0), (.aload_n 1, 1, 1, 0, 0, 0), (.ifnull 26, 3, 32, 0, 0, 0), (.aload_n 0, 1, 0, 0, 0, 0), (.aload_n 1, 1, 1, 0, 0, 0), (.getfield 37, 3, 1, 5, 0, 699), (.putfield 22, 3, 2, 4, 1, 128), (.aload_n 0, 1, 0, 0, 0, 0), (.dup, 1, 0, 0, 0, 0), (.getfield 19, 3, 2, 3, 0, 127), (.iconst 1, 1, 0, 0, 1, 0), (.iadd, 1, 0, 0, 0, 0), (.putfield 19, 3, 2, 3, 0, 127), (.aload_n 0, 1, 0, 0, 0, 0), (.aload_n 1, 1, 1, 0, 0, 0)]
theorem e_Shelf_take_0 : sp_ok R_Shelf b_Shelf_take 2 k_Shelf_take_0 0 = true := by decide +kernel
def k_Shelf_take_32 : List sp_I := [(.aload_n 1, 1, 1, 0, 0, 0)]
theorem e_Shelf_take_32 : sp_ok R_Shelf b_Shelf_take 2 k_Shelf_take_32 32 = true := by decide +kernel
theorem d_Shelf_take_29 : decode b_Shelf_take 29 = .ok (.invokevirtual 40, 3) := by decide +kernel
theorem d_Shelf_take_33 : decode b_Shelf_take 33 = .ok (.areturn, 1) := by decide +kernel
def k_Shelf_giveBack_0 : List sp_I := [(.aload_n 0, 1, 0, 0, 0, 0), (.aload_n 1, 1, 1, 0, 0, 0)]
theorem e_Shelf_giveBack_0 : sp_ok R_Shelf b_Shelf_giveBack 2 k_Shelf_giveBack_0 0 = true := by decide +kernel
def k_Shelf_giveBack_5 : List sp_I := [(.aload_n 0, 1, 0, 0, 0, 0), (.dup, 1, 0, 0, 0, 0), (.getfield 19, 3, 2, 3, 0, 127), (.iconst 1, 1, 0, 0, 1, 0), (.isub, 1, 0, 0, 0, 0), (.putfield 19, 3, 2, 3, 0, 127), (.aload_n 1, 1, 1, 0, 0, 0), (.aload_n 0, 1, 0, 0, 0, 0), (.getfield 22, 3, 2, 4, 0, 128), (.putfield 37, 3, 1, 5, 1, 699), (.aload_n 0, 1, 0, 0, 0, 0), (.aload_n 1, 1, 1, 0, 0, 0), (.putfield 22, 3, 2, 4, 1, 128)]
theorem e_Shelf_giveBack_5 : sp_ok R_Shelf b_Shelf_giveBack 2 k_Shelf_giveBack_5 5 = true := by decide +kernel
theorem d_Shelf_giveBack_2 : decode b_Shelf_giveBack 2 = .ok (.invokevirtual 44, 3) := by decide +kernel
theorem d_Shelf_giveBack_28 : decode b_Shelf_giveBack 28 = .ok (.return_, 1) := by decide +kernel
def k_Shelf_bringToFront_0 : List sp_I := [(.aload_n 0, 1, 0, 0, 0, 0), (.aload_n 1, 1, 1, 0, 0, 0)]
theorem e_Shelf_bringToFront_0 : sp_ok R_Shelf b_Shelf_bringToFront 2 k_Shelf_bringToFront_0 0 = true := by decide +kernel
def k_Shelf_bringToFront_5 : List sp_I := [(.aload_n 0, 1, 0, 0, 0, 0), (.aload_n 1, 1, 1, 0, 0, 0)]
theorem e_Shelf_bringToFront_5 : sp_ok R_Shelf b_Shelf_bringToFront 2 k_Shelf_bringToFront_5 5 = true := by decide +kernel
theorem d_Shelf_bringToFront_2 : decode b_Shelf_bringToFront 2 = .ok (.invokevirtual 44, 3) := by decide +kernel
theorem d_Shelf_bringToFront_7 : decode b_Shelf_bringToFront 7 = .ok (.invokevirtual 40, 3) := by decide +kernel
theorem d_Shelf_bringToFront_10 : decode b_Shelf_bringToFront 10 = .ok (.return_, 1) := by decide +kernel
def k_Shelf_itemAt_0 : List sp_I := [(.iload_n 1, 1, 1, 0, 0, 0), (.ifCond .lt 11, 3, 12, 0, 0, 0), (.iload_n 1, 1, 1, 0, 0, 0), (.aload_n 0, 1, 0, 0, 0, 0), (.getfield 19, 3, 2, 3, 0, 127), (.if_icmp .lt 5, 3, 14, 0, 0, 0)]
theorem e_Shelf_itemAt_0 : sp_ok R_Shelf b_Shelf_itemAt 4 k_Shelf_itemAt_0 0 = true := by decide +kernel
def k_Shelf_itemAt_12 : List sp_I := [(.aconst_null, 1, 0, 0, 0, 0)]
theorem e_Shelf_itemAt_12 : sp_ok R_Shelf b_Shelf_itemAt 4 k_Shelf_itemAt_12 12 = true := by decide +kernel
def k_Shelf_itemAt_14 : List sp_I := [(.aload_n 0, 1, 0, 0, 0, 0), (.getfield 26, 3, 2, 5, 0, 129), (.astore_n 2, 1, 2, 0, 0, 0), (.iconst 0, 1, 0, 0, 0, 0), (.istore_n 3, 1, 3, 0, 0, 0)]
theorem e_Shelf_itemAt_14 : sp_ok R_Shelf b_Shelf_itemAt 4 k_Shelf_itemAt_14 14 = true := by decide +kernel
def k_Shelf_itemAt_21 : List sp_I := [(.iload_n 3, 1, 3, 0, 0, 0), (.iload_n 1, 1, 1, 0, 0, 0), (.if_icmp .ge 18, 3, 41, 0, 0, 0), (.aload_n 2, 1, 2, 0, 0, 0), (.ifnull 14, 3, 41, 0, 0, 0), (.aload_n 2, 1, 2, 0, 0, 0), (.getfield 37, 3, 1, 5, 0, 699), (.astore_n 2, 1, 2, 0, 0, 0), (.iinc 3 1, 3, 3, 0, 1, 0), (.goto (-17), 3, 21, 0, 0, 0)]
theorem e_Shelf_itemAt_21 : sp_ok R_Shelf b_Shelf_itemAt 4 k_Shelf_itemAt_21 21 = true := by decide +kernel
def k_Shelf_itemAt_41 : List sp_I := [(.aload_n 2, 1, 2, 0, 0, 0)]
theorem e_Shelf_itemAt_41 : sp_ok R_Shelf b_Shelf_itemAt 4 k_Shelf_itemAt_41 41 = true := by decide +kernel
theorem d_Shelf_itemAt_13 : decode b_Shelf_itemAt 13 = .ok (.areturn, 1) := by decide +kernel
theorem d_Shelf_itemAt_42 : decode b_Shelf_itemAt 42 = .ok (.areturn, 1) := by decide +kernel
def k_Shelf_linkFront_0 : List sp_I := [(.aload_n 1, 1, 1, 0, 0, 0), (.aconst_null, 1, 0, 0, 0, 0), (.putfield 47, 3, 1, 4, 1, 697), (.aload_n 1, 1, 1, 0, 0, 0), (.aload_n 0, 1, 0, 0, 0, 0), (.getfield 26, 3, 2, 5, 0, 129), (.putfield 37, 3, 1, 5, 1, 699), (.aload_n 0, 1, 0, 0, 0, 0), (.getfield 26, 3, 2, 5, 0, 129), (.ifnonnull 11, 3, 28, 0, 0, 0), (.aload_n 0, 1, 0, 0, 0, 0), (.aload_n 1, 1, 1, 0, 0, 0), (.putfield 29, 3, 2, 6, 1, 130), (.goto 11, 3, 36, 0, 0, 0)]
theorem e_Shelf_linkFront_0 : sp_ok R_Shelf b_Shelf_linkFront 2 k_Shelf_linkFront_0 0 = true := by decide +kernel
def k_Shelf_linkFront_28 : List sp_I := [(.aload_n 0, 1, 0, 0, 0, 0), (.getfield 26, 3, 2, 5, 0, 129), (.aload_n 1, 1, 1, 0, 0, 0), (.putfield 47, 3, 1, 4, 1, 697)]
theorem e_Shelf_linkFront_28 : sp_ok R_Shelf b_Shelf_linkFront 2 k_Shelf_linkFront_28 28 = true := by decide +kernel
def k_Shelf_linkFront_36 : List sp_I := [(.aload_n 0, 1, 0, 0, 0, 0), (.aload_n 1, 1, 1, 0, 0, 0), (.putfield 26, 3, 2, 5, 1, 129)]
theorem e_Shelf_linkFront_36 : sp_ok R_Shelf b_Shelf_linkFront 2 k_Shelf_linkFront_36 36 = true := by decide +kernel
theorem d_Shelf_linkFront_41 : decode b_Shelf_linkFront 41 = .ok (.return_, 1) := by decide +kernel
def k_Shelf_unlink_0 : List sp_I := [(.aload_n 1, 1, 1, 0, 0, 0), (.getfield 47, 3, 1, 4, 0, 697), (.ifnonnull 14, 3, 18, 0, 0, 0), (.aload_n 0, 1, 0, 0, 0, 0), (.aload_n 1, 1, 1, 0, 0, 0), (.getfield 37, 3, 1, 5, 0, 699), (.putfield 26, 3, 2, 5, 1, 129), (.goto 14, 3, 29, 0, 0, 0)]
theorem e_Shelf_unlink_0 : sp_ok R_Shelf b_Shelf_unlink 2 k_Shelf_unlink_0 0 = true := by decide +kernel
def k_Shelf_unlink_18 : List sp_I := [(.aload_n 1, 1, 1, 0, 0, 0), (.getfield 47, 3, 1, 4, 0, 697), (.aload_n 1, 1, 1, 0, 0, 0), (.getfield 37, 3, 1, 5, 0, 699), (.putfield 37, 3, 1, 5, 1, 699)]
theorem e_Shelf_unlink_18 : sp_ok R_Shelf b_Shelf_unlink 2 k_Shelf_unlink_18 18 = true := by decide +kernel
def k_Shelf_unlink_29 : List sp_I := [(.aload_n 1, 1, 1, 0, 0, 0), (.getfield 37, 3, 1, 5, 0, 699), (.ifnonnull 14, 3, 47, 0, 0, 0), (.aload_n 0, 1, 0, 0, 0, 0), (.aload_n 1, 1, 1, 0, 0, 0), (.getfield 47, 3, 1, 4, 0, 697), (.putfield 29, 3, 2, 6, 1, 130), (.goto 14, 3, 58, 0, 0, 0)]
theorem e_Shelf_unlink_29 : sp_ok R_Shelf b_Shelf_unlink 2 k_Shelf_unlink_29 29 = true := by decide +kernel
def k_Shelf_unlink_47 : List sp_I := [(.aload_n 1, 1, 1, 0, 0, 0), (.getfield 37, 3, 1, 5, 0, 699), (.aload_n 1, 1, 1, 0, 0, 0), (.getfield 47, 3, 1, 4, 0, 697), (.putfield 47, 3, 1, 4, 1, 697)]
theorem e_Shelf_unlink_47 : sp_ok R_Shelf b_Shelf_unlink 2 k_Shelf_unlink_47 47 = true := by decide +kernel
theorem d_Shelf_unlink_58 : decode b_Shelf_unlink 58 = .ok (.return_, 1) := by decide +kernel
theorem w_Shelf_1 : sp_wO R_Shelf 1 [123, 95, 96] = true := by decide +kernel
theorem f_Shelf_7 : sp_wF R_Shelf 7 2 0 0 124 = true := by decide +kernel
theorem f_Shelf_13 : sp_wF R_Shelf 13 2 1 0 125 = true := by decide +kernel
theorem n_Shelf_32 : sp_wN R_Shelf 32 R_Chunk 8 [676, 677, 83] = true := by decide +kernel
theorem w_Shelf_34 : sp_wI R_Shelf 34 y_Chunk_init b_Chunk_init 3 2 [678, 679, 83, 680] = true := by decide +kernel
theorem w_Shelf_40 : sp_wV R_Shelf 40 R_Shelf y_Shelf_linkFront b_Shelf_linkFront 2 none 1 [505, 507, 10, 70, 508] = true := by decide +kernel
theorem w_Shelf_44 : sp_wV R_Shelf 44 R_Shelf y_Shelf_unlink b_Shelf_unlink 2 none 1 [501, 503, 9, 70, 504] = true := by decide +kernel
def k_Draft_init_0 : List sp_I := [(.aload_n 0, 1, 0, 0, 0, 0)]
theorem e_Draft_init_0 : sp_ok R_Draft b_Draft_init 1 k_Draft_init_0 0 = true := by decide +kernel
def k_Draft_init_4 : List sp_I := [(.aload_n 0, 1, 0, 0, 0, 0)]
theorem e_Draft_init_4 : sp_ok R_Draft b_Draft_init 1 k_Draft_init_4 4 = true := by decide +kernel
def k_Draft_init_8 : List sp_I := [(.dup, 1, 0, 0, 0, 0), (.bipush 8, 2, 0, 0, 8, 0)]
theorem e_Draft_init_8 : sp_ok R_Draft b_Draft_init 1 k_Draft_init_8 8 = true := by decide +kernel
def k_Draft_init_17 : List sp_I := [(.aload_n 0, 1, 0, 0, 0, 0)]
theorem e_Draft_init_17 : sp_ok R_Draft b_Draft_init 1 k_Draft_init_17 17 = true := by decide +kernel
def k_Draft_init_21 : List sp_I := [(.dup, 1, 0, 0, 0, 0), (.sipush 204, 3, 0, 0, 204, 0)]
theorem e_Draft_init_21 : sp_ok R_Draft b_Draft_init 1 k_Draft_init_21 21 = true := by decide +kernel
def k_Draft_init_31 : List sp_I := [(.aload_n 0, 1, 0, 0, 0, 0), (.iconst 0, 1, 0, 0, 0, 0), (.putfield 27, 3, 5, 2, 0, 214), (.aload_n 0, 1, 0, 0, 0, 0), (.ldc 31, 2, 207, 1, 2147483647, 0), (.putfield 32, 3, 5, 3, 0, 217)]
theorem e_Draft_init_31 : sp_ok R_Draft b_Draft_init 1 k_Draft_init_31 31 = true := by decide +kernel
theorem d_Draft_init_1 : decode b_Draft_init 1 = .ok (.invokespecial 3, 3) := by decide +kernel
theorem d_Draft_init_5 : decode b_Draft_init 5 = .ok (.new 9, 3) := by decide +kernel
theorem d_Draft_init_11 : decode b_Draft_init 11 = .ok (.invokespecial 13, 3) := by decide +kernel
theorem d_Draft_init_14 : decode b_Draft_init 14 = .ok (.putfield 16, 3) := by decide +kernel
theorem d_Draft_init_18 : decode b_Draft_init 18 = .ok (.new 9, 3) := by decide +kernel
theorem d_Draft_init_25 : decode b_Draft_init 25 = .ok (.invokespecial 13, 3) := by decide +kernel
theorem d_Draft_init_28 : decode b_Draft_init 28 = .ok (.putfield 24, 3) := by decide +kernel
theorem d_Draft_init_42 : decode b_Draft_init 42 = .ok (.return_, 1) := by decide +kernel
def k_Draft_size_0 : List sp_I := [(.aload_n 0, 1, 0, 0, 0, 0), (.getfield 16, 3, 5, 0, 0, 208)]
theorem e_Draft_size_0 : sp_ok R_Draft b_Draft_size 1 k_Draft_size_0 0 = true := by decide +kernel
def k_Draft_size_7 : List sp_I := [(.aload_n 0, 1, 0, 0, 0, 0), (.getfield 24, 3, 5, 1, 0, 211)]
theorem e_Draft_size_7 : sp_ok R_Draft b_Draft_size 1 k_Draft_size_7 7 = true := by decide +kernel
def k_Draft_size_14 : List sp_I := [(.iadd, 1, 0, 0, 0, 0)]
theorem e_Draft_size_14 : sp_ok R_Draft b_Draft_size 1 k_Draft_size_14 14 = true := by decide +kernel
theorem d_Draft_size_4 : decode b_Draft_size 4 = .ok (.invokevirtual 35, 3) := by decide +kernel
theorem d_Draft_size_11 : decode b_Draft_size 11 = .ok (.invokevirtual 35, 3) := by decide +kernel
theorem d_Draft_size_15 : decode b_Draft_size 15 = .ok (.ireturn, 1) := by decide +kernel
theorem w_Draft_3 : sp_wO R_Draft 3 [204, 95, 96] = true := by decide +kernel
theorem n_Draft_9 : sp_wN R_Draft 9 R_Text 2 [205, 98, 68] = true := by decide +kernel
theorem w_Draft_13 : sp_wI R_Draft 13 y_Text_init b_Text_init 2 1 [206, 100, 68, 101] = true := by decide +kernel
theorem f_Draft_16 : sp_wF R_Draft 16 5 0 1 208 = true := by decide +kernel
theorem f_Draft_24 : sp_wF R_Draft 24 5 1 1 211 = true := by decide +kernel
theorem w_Draft_35 : sp_wV R_Draft 35 R_Text y_Text_length b_Text_length 1 (some .int) 0 [643, 275, 276, 68, 277] = true := by decide +kernel
