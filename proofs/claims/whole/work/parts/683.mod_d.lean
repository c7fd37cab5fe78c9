theorem w_Mod_1 : sp_wO R_Mod 1 [901, 95, 96] = true := by decide +kernel
theorem f_Mod_7 : sp_wF R_Mod 7 8 2 1 904 = true := by decide +kernel
theorem f_Mod_13 : sp_wF R_Mod 13 8 4 1 906 = true := by decide +kernel
theorem f_Mod_16 : sp_wF R_Mod 16 8 6 1 908 = true := by decide +kernel
theorem f_Mod_20 : sp_wF R_Mod 20 8 7 1 909 = true := by decide +kernel
theorem f_Mod_24 : sp_wF R_Mod 24 8 8 1 910 = true := by decide +kernel
theorem f_Mod_27 : sp_wF R_Mod 27 8 9 1 911 = true := by decide +kernel
theorem f_Mod_30 : sp_wF R_Mod 30 8 10 1 912 = true := by decide +kernel
theorem f_Mod_33 : sp_wF R_Mod 33 8 11 1 913 = true := by decide +kernel
theorem f_Mod_36 : sp_wF R_Mod 36 8 12 1 914 = true := by decide +kernel
theorem f_Mod_39 : sp_wF R_Mod 39 8 13 1 915 = true := by decide +kernel
theorem f_Mod_42 : sp_wF R_Mod 42 8 22 1 924 = true := by decide +kernel
theorem f_Mod_45 : sp_wF R_Mod 45 8 23 1 925 = true := by decide +kernel
theorem f_Mod_48 : sp_wF R_Mod 48 8 26 1 928 = true := by decide +kernel
theorem w_Mod_64 : sp_wV R_Mod 64 R_Mod y_Mod_say b_Mod_say 2 none 1 [1044, 1046, 29, 76, 1047] = true := by decide +kernel
theorem w_Mod_70 : sp_wV R_Mod 70 R_Mod y_Mod_sayText b_Mod_sayText 5 none 1 [1040, 1042, 28, 76, 1043] = true := by decide +kernel
theorem w_Mod_80 : sp_wV R_Mod 80 R_Mod y_Mod_sayClient b_Mod_sayClient 1 none 0 [1076, 1078, 36, 76, 1079] = true := by decide +kernel
theorem w_Mod_93 : sp_wV R_Mod 93 R_Mod y_Mod_sayServer b_Mod_sayServer 1 none 0 [1146, 1148, 49, 76, 1149] = true := by decide +kernel
theorem w_Mod_136 : sp_wV R_Mod 136 R_Mod y_Mod_wordLength b_Mod_wordLength 2 (some .int) 1 [1014, 1016, 26, 76, 1017] = true := by decide +kernel
theorem w_Mod_142 : sp_wV R_Mod 142 R_Mod y_Mod_text b_Mod_text 6 (some .long) 1 [1010, 1012, 25, 76, 1013] = true := by decide +kernel
theorem w_Mod_148 : sp_wS R_Mod 148 y_Mod_isDigit b_Mod_isDigit 1 (some .boolean) 1 [1065, 1066, 76, 1067] = true := by decide +kernel
theorem w_Mod_152 : sp_wV R_Mod 152 R_Mod y_Mod_numberIn b_Mod_numberIn 7 (some .int) 2 [1061, 1063, 33, 76, 1064] = true := by decide +kernel
theorem w_Mod_180 : sp_wS R_Mod 180 y_Mod_flushLetter b_Mod_flushLetter 3 (some .char) 1 [1031, 1032, 76, 1033] = true := by decide +kernel
theorem w_Mod_186 : sp_wV R_Mod 186 R_Mod y_Mod_isQuiet b_Mod_isQuiet 2 (some .boolean) 1 [1056, 1058, 32, 76, 1059] = true := by decide +kernel
theorem w_Mod_190 : sp_wV R_Mod 190 R_Mod y_Mod_many b_Mod_many 2 (some .boolean) 1 [1052, 1054, 31, 76, 1055] = true := by decide +kernel
theorem w_Mod_193 : sp_wV R_Mod 193 R_Mod y_Mod_liveIn b_Mod_liveIn 4 (some .int) 1 [1068, 1070, 34, 76, 1071] = true := by decide +kernel
theorem w_Mod_199 : sp_wS R_Mod 199 y_Mod_lengthOf b_Mod_lengthOf 5 (some .int) 1 [1136, 1137, 76, 1138] = true := by decide +kernel
theorem w_Mod_203 : sp_wS R_Mod 203 y_Mod_classOf b_Mod_classOf 1 (some .int) 1 [1139, 1140, 76, 1141] = true := by decide +kernel
theorem w_Mod_206 : sp_wV R_Mod 206 R_Mod y_Mod_classAt b_Mod_classAt 3 (some .int) 1 [1178, 1180, 55, 76, 1181] = true := by decide +kernel
theorem w_Mod_209 : sp_wV R_Mod 209 R_Mod y_Mod_itemsOf b_Mod_itemsOf 4 (some .int) 1 [1174, 1176, 54, 76, 1177] = true := by decide +kernel
theorem w_Mod_215 : sp_wV R_Mod 215 R_Mod y_Mod_takeAway b_Mod_takeAway 3 none 1 [1166, 1168, 52, 76, 1169] = true := by decide +kernel
theorem w_Mod_225 : sp_wV R_Mod 225 R_Mod y_Mod_tooLarge b_Mod_tooLarge 1 none 0 [1142, 1144, 48, 76, 1145] = true := by decide +kernel
theorem w_Mod_228 : sp_wV R_Mod 228 R_Mod y_Mod_freePages b_Mod_freePages 1 (some .int) 0 [1155, 1157, 50, 76, 1158] = true := by decide +kernel
theorem w_Mod_232 : sp_wV R_Mod 232 R_Mod y_Mod_outOfMemory b_Mod_outOfMemory 1 none 0 [1159, 1161, 51, 76, 1162] = true := by decide +kernel
theorem w_Mod_235 : sp_wV R_Mod 235 R_Mod y_Mod_find b_Mod_find 5 (some .int) 1 [1099, 1101, 40, 76, 1102] = true := by decide +kernel
theorem w_Mod_238 : sp_wV R_Mod 238 R_Mod y_Mod_freeChunks b_Mod_freeChunks 2 (some .int) 1 [1170, 1172, 53, 76, 1173] = true := by decide +kernel
theorem w_Mod_241 : sp_wV R_Mod 241 R_Mod y_Mod_evict b_Mod_evict 4 none 1 [1182, 1184, 56, 76, 1185] = true := by decide +kernel
theorem w_Mod_247 : sp_wV R_Mod 247 R_Mod y_Mod_use b_Mod_use 2 none 1 [1186, 1188, 57, 76, 1189] = true := by decide +kernel
theorem w_Mod_253 : sp_wV R_Mod 253 R_Mod y_Mod_ready b_Mod_ready 2 none 1 [1120, 1122, 44, 76, 1123] = true := by decide +kernel
theorem w_Mod_259 : sp_wV R_Mod 259 R_Mod y_Mod_notFound b_Mod_notFound 1 none 0 [1103, 1105, 41, 76, 1106] = true := by decide +kernel
theorem w_Mod_264 : sp_wV R_Mod 264 R_Mod y_Mod_stored b_Mod_stored 2 none 1 [1110, 1112, 42, 76, 1113] = true := by decide +kernel
theorem w_Mod_268 : sp_wV R_Mod 268 R_Mod y_Mod_readyOld b_Mod_readyOld 3 none 1 [1116, 1118, 43, 76, 1119] = true := by decide +kernel
theorem w_Mod_271 : sp_wV R_Mod 271 R_Mod y_Mod_readyNew b_Mod_readyNew 2 none 0 [1124, 1126, 45, 76, 1127] = true := by decide +kernel
theorem w_Mod_274 : sp_wV R_Mod 274 R_Mod y_Mod_timeOf b_Mod_timeOf 2 (some .int) 1 [1128, 1130, 46, 76, 1131] = true := by decide +kernel
theorem w_Mod_277 : sp_wV R_Mod 277 R_Mod y_Mod_store b_Mod_store 9 (some .boolean) 3 [1132, 1134, 47, 76, 1135] = true := by decide +kernel
theorem w_Mod_281 : sp_wV R_Mod 281 R_Mod y_Mod_endIf b_Mod_endIf 3 none 2 [1190, 1192, 58, 76, 1193] = true := by decide +kernel
theorem w_Mod_287 : sp_wV R_Mod 287 R_Mod y_Mod_sayNumber b_Mod_sayNumber 3 none 1 [1203, 1205, 61, 76, 1206] = true := by decide +kernel
theorem w_Mod_293 : sp_wV R_Mod 293 R_Mod y_Mod_sayItem b_Mod_sayItem 4 none 2 [1198, 1200, 60, 76, 1201] = true := by decide +kernel
theorem w_Mod_303 : sp_wV R_Mod 303 R_Mod y_Mod_noNumber b_Mod_noNumber 1 none 0 [1224, 1226, 65, 76, 1227] = true := by decide +kernel
theorem w_Mod_309 : sp_wV R_Mod 309 R_Mod y_Mod_doTouch b_Mod_doTouch 3 none 1 [1215, 1217, 63, 76, 1218] = true := by decide +kernel
theorem w_Mod_312 : sp_wV R_Mod 312 R_Mod y_Mod_doCount b_Mod_doCount 7 none 2 [1220, 1222, 64, 76, 1223] = true := by decide +kernel
theorem w_Mod_315 : sp_wV R_Mod 315 R_Mod y_Mod_doStore b_Mod_doStore 9 none 1 [1095, 1097, 39, 76, 1098] = true := by decide +kernel
theorem w_Mod_318 : sp_wV R_Mod 318 R_Mod y_Mod_doGet b_Mod_doGet 4 none 1 [1194, 1196, 59, 76, 1197] = true := by decide +kernel
theorem w_Mod_323 : sp_wV R_Mod 323 R_Mod y_Mod_doOther b_Mod_doOther 3 none 1 [1210, 1212, 62, 76, 1213] = true := by decide +kernel
theorem w_Mod_326 : sp_wV R_Mod 326 R_Mod y_Mod_findWords b_Mod_findWords 2 none 0 [1002, 1004, 23, 76, 1005] = true := by decide +kernel
theorem w_Mod_329 : sp_wV R_Mod 329 R_Mod y_Mod_commandOf b_Mod_commandOf 5 (some .int) 0 [1006, 1008, 24, 76, 1009] = true := by decide +kernel
theorem w_Mod_332 : sp_wV R_Mod 332 R_Mod y_Mod_sayError b_Mod_sayError 1 none 0 [1035, 1037, 27, 76, 1038] = true := by decide +kernel
theorem w_Mod_335 : sp_wV R_Mod 335 R_Mod y_Mod_isFormed b_Mod_isFormed 3 (some .boolean) 1 [1048, 1050, 30, 76, 1051] = true := by decide +kernel
theorem w_Mod_338 : sp_wV R_Mod 338 R_Mod y_Mod_badFormat b_Mod_badFormat 1 none 0 [1072, 1074, 35, 76, 1075] = true := by decide +kernel
theorem w_Mod_341 : sp_wV R_Mod 341 R_Mod y_Mod_badChunk b_Mod_badChunk 1 none 0 [1085, 1087, 37, 76, 1088] = true := by decide +kernel
theorem w_Mod_344 : sp_wV R_Mod 344 R_Mod y_Mod_act b_Mod_act 3 none 1 [1091, 1093, 38, 76, 1094] = true := by decide +kernel
