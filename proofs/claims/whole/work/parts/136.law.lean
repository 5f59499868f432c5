theorem cal_RL_249 : calWOK RL 249 mL_restore 2 := ⟨rfl, by decide, aw_t 1009 (by decide +kernel) (by decide +kernel), aw_t 1011 (by decide +kernel) (by decide +kernel), aw_t 0 (by decide +kernel) (by decide +kernel), ⟨by decide, by decide⟩, by decide +kernel⟩
theorem sta_L_restore : Cond.static mL_restore.1 ∈ AW := aw_t 1010 (by decide +kernel) (by decide +kernel)
theorem cal_RL_251 : calOK RL 251 mX7_restore 0 := ⟨rfl, by decide, aw_t 1466 (by decide +kernel) (by decide +kernel), aw_t 1469 (by decide +kernel) (by decide +kernel), aw_t 8 (by decide +kernel) (by decide +kernel), ⟨by decide, by decide⟩, by decide +kernel⟩
theorem ins_X7_restore : Cond.instanceMethod mX7_restore.1 ∈ AW := aw_t 1467 (by decide +kernel) (by decide +kernel)
theorem sel_X7_restore : Cond.selects mX7_restore.1.cls mX7_restore.1 mX7_restore.1 ∈ AW := aw_t 1468 (by decide +kernel) (by decide +kernel)
theorem cal_RL_140 : calOK RL 140 mX7_thrown 0 := ⟨rfl, by decide, aw_t 1097 (by decide +kernel) (by decide +kernel), aw_t 1100 (by decide +kernel) (by decide +kernel), aw_t 8 (by decide +kernel) (by decide +kernel), ⟨by decide, by decide⟩, by decide +kernel⟩
theorem ins_X7_thrown : Cond.instanceMethod mX7_thrown.1 ∈ AW := aw_t 1098 (by decide +kernel) (by decide +kernel)
theorem sel_X7_thrown : Cond.selects mX7_thrown.1.cls mX7_thrown.1 mX7_thrown.1 ∈ AW := aw_t 1099 (by decide +kernel) (by decide +kernel)
theorem cal_RL_245 : calOK RL 245 mX6_save 0 := ⟨rfl, by decide, aw_t 228 (by decide +kernel) (by decide +kernel), aw_t 231 (by decide +kernel) (by decide +kernel), aw_t 1 (by decide +kernel) (by decide +kernel), ⟨by decide, by decide⟩, by decide +kernel⟩
theorem ins_X6_save : Cond.instanceMethod mX6_save.1 ∈ AW := aw_t 229 (by decide +kernel) (by decide +kernel)
theorem sel_X6_save : Cond.selects mX6_save.1.cls mX6_save.1 mX6_save.1 ∈ AW := aw_t 230 (by decide +kernel) (by decide +kernel)
theorem cal_RL_248 : calOK RL 248 mX7_save 0 := ⟨rfl, by decide, aw_t 1462 (by decide +kernel) (by decide +kernel), aw_t 1465 (by decide +kernel) (by decide +kernel), aw_t 8 (by decide +kernel) (by decide +kernel), ⟨by decide, by decide⟩, by decide +kernel⟩
theorem ins_X7_save : Cond.instanceMethod mX7_save.1 ∈ AW := aw_t 1463 (by decide +kernel) (by decide +kernel)
theorem sel_X7_save : Cond.selects mX7_save.1.cls mX7_save.1 mX7_save.1 ∈ AW := aw_t 1464 (by decide +kernel) (by decide +kernel)
theorem cal_RL_242 : calWOK RL 242 mL_undo 2 := ⟨rfl, by decide, aw_t 996 (by decide +kernel) (by decide +kernel), aw_t 998 (by decide +kernel) (by decide +kernel), aw_t 0 (by decide +kernel) (by decide +kernel), ⟨by decide, by decide⟩, by decide +kernel⟩
theorem sta_L_undo : Cond.static mL_undo.1 ∈ AW := aw_t 997 (by decide +kernel) (by decide +kernel)
theorem cal_RL_244 : calOK RL 244 mX7_undo 0 := ⟨rfl, by decide, aw_t 1458 (by decide +kernel) (by decide +kernel), aw_t 1461 (by decide +kernel) (by decide +kernel), aw_t 8 (by decide +kernel) (by decide +kernel), ⟨by decide, by decide⟩, by decide +kernel⟩
theorem ins_X7_undo : Cond.instanceMethod mX7_undo.1 ∈ AW := aw_t 1459 (by decide +kernel) (by decide +kernel)
theorem sel_X7_undo : Cond.selects mX7_undo.1.cls mX7_undo.1 mX7_undo.1 ∈ AW := aw_t 1460 (by decide +kernel) (by decide +kernel)
theorem cal_RL_238 : calWOK RL 238 mL_perform 2 := ⟨rfl, by decide, aw_t 943 (by decide +kernel) (by decide +kernel), aw_t 945 (by decide +kernel) (by decide +kernel), aw_t 0 (by decide +kernel) (by decide +kernel), ⟨by decide, by decide⟩, by decide +kernel⟩
theorem sta_L_perform : Cond.static mL_perform.1 ∈ AW := aw_t 944 (by decide +kernel) (by decide +kernel)
theorem cal_RL_241 : calOK RL 241 mX7_perform 0 := ⟨rfl, by decide, aw_t 1426 (by decide +kernel) (by decide +kernel), aw_t 1429 (by decide +kernel) (by decide +kernel), aw_t 8 (by decide +kernel) (by decide +kernel), ⟨by decide, by decide⟩, by decide +kernel⟩
theorem ins_X7_perform : Cond.instanceMethod mX7_perform.1 ∈ AW := aw_t 1427 (by decide +kernel) (by decide +kernel)
theorem sel_X7_perform : Cond.selects mX7_perform.1.cls mX7_perform.1 mX7_perform.1 ∈ AW := aw_t 1428 (by decide +kernel) (by decide +kernel)
theorem cal_RL_234 : calWOK RL 234 mL_feed 3 := ⟨rfl, by decide, aw_t 927 (by decide +kernel) (by decide +kernel), aw_t 929 (by decide +kernel) (by decide +kernel), aw_t 0 (by decide +kernel) (by decide +kernel), ⟨by decide, by decide⟩, by decide +kernel⟩
theorem sta_L_feed : Cond.static mL_feed.1 ∈ AW := aw_t 928 (by decide +kernel) (by decide +kernel)
theorem cal_RL_237 : calOK RL 237 mX7_feed 1 := ⟨rfl, by decide, aw_t 1422 (by decide +kernel) (by decide +kernel), aw_t 1425 (by decide +kernel) (by decide +kernel), aw_t 8 (by decide +kernel) (by decide +kernel), ⟨by decide, by decide⟩, by decide +kernel⟩
theorem ins_X7_feed : Cond.instanceMethod mX7_feed.1 ∈ AW := aw_t 1423 (by decide +kernel) (by decide +kernel)
theorem sel_X7_feed : Cond.selects mX7_feed.1.cls mX7_feed.1 mX7_feed.1 ∈ AW := aw_t 1424 (by decide +kernel) (by decide +kernel)
theorem cal_RL_230 : calWOK RL 230 mL_use 3 := ⟨rfl, by decide, aw_t 917 (by decide +kernel) (by decide +kernel), aw_t 919 (by decide +kernel) (by decide +kernel), aw_t 0 (by decide +kernel) (by decide +kernel), ⟨by decide, by decide⟩, by decide +kernel⟩
theorem sta_L_use : Cond.static mL_use.1 ∈ AW := aw_t 918 (by decide +kernel) (by decide +kernel)
theorem cal_RL_233 : calOK RL 233 mX7_use 1 := ⟨rfl, by decide, aw_t 1418 (by decide +kernel) (by decide +kernel), aw_t 1421 (by decide +kernel) (by decide +kernel), aw_t 8 (by decide +kernel) (by decide +kernel), ⟨by decide, by decide⟩, by decide +kernel⟩
theorem ins_X7_use : Cond.instanceMethod mX7_use.1 ∈ AW := aw_t 1419 (by decide +kernel) (by decide +kernel)
theorem sel_X7_use : Cond.selects mX7_use.1.cls mX7_use.1 mX7_use.1 ∈ AW := aw_t 1420 (by decide +kernel) (by decide +kernel)
theorem cal_RL_226 : calWOK RL 226 mL_meanDistance 2 := ⟨rfl, by decide, aw_t 893 (by decide +kernel) (by decide +kernel), aw_t 895 (by decide +kernel) (by decide +kernel), aw_t 0 (by decide +kernel) (by decide +kernel), ⟨by decide, by decide⟩, by decide +kernel⟩
theorem sta_L_meanDistance : Cond.static mL_meanDistance.1 ∈ AW := aw_t 894 (by decide +kernel) (by decide +kernel)
theorem cal_RL_229 : calOK RL 229 mX7_meanDistance 0 := ⟨rfl, by decide, aw_t 1414 (by decide +kernel) (by decide +kernel), aw_t 1417 (by decide +kernel) (by decide +kernel), aw_t 8 (by decide +kernel) (by decide +kernel), ⟨by decide, by decide⟩, by decide +kernel⟩
theorem ins_X7_meanDistance : Cond.instanceMethod mX7_meanDistance.1 ∈ AW := aw_t 1415 (by decide +kernel) (by decide +kernel)
theorem sel_X7_meanDistance : Cond.selects mX7_meanDistance.1.cls mX7_meanDistance.1 mX7_meanDistance.1 ∈ AW := aw_t 1416 (by decide +kernel) (by decide +kernel)
theorem cal_RL_223 : calWOK RL 223 mL_account 3 := ⟨rfl, by decide, aw_t 876 (by decide +kernel) (by decide +kernel), aw_t 878 (by decide +kernel) (by decide +kernel), aw_t 0 (by decide +kernel) (by decide +kernel), ⟨by decide, by decide⟩, by decide +kernel⟩
theorem sta_L_account : Cond.static mL_account.1 ∈ AW := aw_t 877 (by decide +kernel) (by decide +kernel)
theorem cal_RL_225 : calOK RL 225 mX7_account 1 := ⟨rfl, by decide, aw_t 1402 (by decide +kernel) (by decide +kernel), aw_t 1405 (by decide +kernel) (by decide +kernel), aw_t 8 (by decide +kernel) (by decide +kernel), ⟨by decide, by decide⟩, by decide +kernel⟩
theorem ins_X7_account : Cond.instanceMethod mX7_account.1 ∈ AW := aw_t 1403 (by decide +kernel) (by decide +kernel)
theorem sel_X7_account : Cond.selects mX7_account.1.cls mX7_account.1 mX7_account.1 ∈ AW := aw_t 1404 (by decide +kernel) (by decide +kernel)
theorem cal_RL_222 : calOK RL 222 mX7_report 2 := ⟨rfl, by decide, aw_t 1398 (by decide +kernel) (by decide +kernel), aw_t 1401 (by decide +kernel) (by decide +kernel), aw_t 8 (by decide +kernel) (by decide +kernel), ⟨by decide, by decide⟩, by decide +kernel⟩
theorem ins_X7_report : Cond.instanceMethod mX7_report.1 ∈ AW := aw_t 1399 (by decide +kernel) (by decide +kernel)
theorem sel_X7_report : Cond.selects mX7_report.1.cls mX7_report.1 mX7_report.1 ∈ AW := aw_t 1400 (by decide +kernel) (by decide +kernel)
theorem cal_RL_220 : calWOK RL 220 mL_report 4 := ⟨rfl, by decide, aw_t 868 (by decide +kernel) (by decide +kernel), aw_t 870 (by decide +kernel) (by decide +kernel), aw_t 0 (by decide +kernel) (by decide +kernel), ⟨by decide, by decide⟩, by decide +kernel⟩
theorem sta_L_report : Cond.static mL_report.1 ∈ AW := aw_t 869 (by decide +kernel) (by decide +kernel)
theorem cal_RL_219 : calOK RL 219 mX7_notice 2 := ⟨rfl, by decide, aw_t 1394 (by decide +kernel) (by decide +kernel), aw_t 1397 (by decide +kernel) (by decide +kernel), aw_t 8 (by decide +kernel) (by decide +kernel), ⟨by decide, by decide⟩, by decide +kernel⟩
theorem ins_X7_notice : Cond.instanceMethod mX7_notice.1 ∈ AW := aw_t 1395 (by decide +kernel) (by decide +kernel)
theorem sel_X7_notice : Cond.selects mX7_notice.1.cls mX7_notice.1 mX7_notice.1 ∈ AW := aw_t 1396 (by decide +kernel) (by decide +kernel)
theorem cal_RL_217 : calWOK RL 217 mL_notice 4 := ⟨rfl, by decide, aw_t 860 (by decide +kernel) (by decide +kernel), aw_t 862 (by decide +kernel) (by decide +kernel), aw_t 0 (by decide +kernel) (by decide +kernel), ⟨by decide, by decide⟩, by decide +kernel⟩
theorem sta_L_notice : Cond.static mL_notice.1 ∈ AW := aw_t 861 (by decide +kernel) (by decide +kernel)
theorem cal_RL_214 : calWOK RL 214 mL_wished 4 := ⟨rfl, by decide, aw_t 852 (by decide +kernel) (by decide +kernel), aw_t 854 (by decide +kernel) (by decide +kernel), aw_t 0 (by decide +kernel) (by decide +kernel), ⟨by decide, by decide⟩, by decide +kernel⟩
theorem sta_L_wished : Cond.static mL_wished.1 ∈ AW := aw_t 853 (by decide +kernel) (by decide +kernel)
theorem cal_RL_216 : calOK RL 216 mX7_wished 2 := ⟨rfl, by decide, aw_t 1390 (by decide +kernel) (by decide +kernel), aw_t 1393 (by decide +kernel) (by decide +kernel), aw_t 8 (by decide +kernel) (by decide +kernel), ⟨by decide, by decide⟩, by decide +kernel⟩
theorem ins_X7_wished : Cond.instanceMethod mX7_wished.1 ∈ AW := aw_t 1391 (by decide +kernel) (by decide +kernel)
theorem sel_X7_wished : Cond.selects mX7_wished.1.cls mX7_wished.1 mX7_wished.1 ∈ AW := aw_t 1392 (by decide +kernel) (by decide +kernel)
theorem cal_RL_211 : calWOK RL 211 mL_wish 6 := ⟨rfl, by decide, aw_t 843 (by decide +kernel) (by decide +kernel), aw_t 845 (by decide +kernel) (by decide +kernel), aw_t 0 (by decide +kernel) (by decide +kernel), ⟨by decide, by decide⟩, by decide +kernel⟩
theorem sta_L_wish : Cond.static mL_wish.1 ∈ AW := aw_t 844 (by decide +kernel) (by decide +kernel)
theorem cal_RL_213 : calOK RL 213 mX7_wish 4 := ⟨rfl, by decide, aw_t 1386 (by decide +kernel) (by decide +kernel), aw_t 1389 (by decide +kernel) (by decide +kernel), aw_t 8 (by decide +kernel) (by decide +kernel), ⟨by decide, by decide⟩, by decide +kernel⟩
theorem ins_X7_wish : Cond.instanceMethod mX7_wish.1 ∈ AW := aw_t 1387 (by decide +kernel) (by decide +kernel)
theorem sel_X7_wish : Cond.selects mX7_wish.1.cls mX7_wish.1 mX7_wish.1 ∈ AW := aw_t 1388 (by decide +kernel) (by decide +kernel)
theorem cal_RL_208 : calWOK RL 208 mL_banned 4 := ⟨rfl, by decide, aw_t 836 (by decide +kernel) (by decide +kernel), aw_t 838 (by decide +kernel) (by decide +kernel), aw_t 0 (by decide +kernel) (by decide +kernel), ⟨by decide, by decide⟩, by decide +kernel⟩
theorem sta_L_banned : Cond.static mL_banned.1 ∈ AW := aw_t 837 (by decide +kernel) (by decide +kernel)
theorem cal_RL_210 : calOK RL 210 mX7_banned 2 := ⟨rfl, by decide, aw_t 1382 (by decide +kernel) (by decide +kernel), aw_t 1385 (by decide +kernel) (by decide +kernel), aw_t 8 (by decide +kernel) (by decide +kernel), ⟨by decide, by decide⟩, by decide +kernel⟩
theorem ins_X7_banned : Cond.instanceMethod mX7_banned.1 ∈ AW := aw_t 1383 (by decide +kernel) (by decide +kernel)
theorem sel_X7_banned : Cond.selects mX7_banned.1.cls mX7_banned.1 mX7_banned.1 ∈ AW := aw_t 1384 (by decide +kernel) (by decide +kernel)
theorem cal_RL_205 : calWOK RL 205 mL_lift 3 := ⟨rfl, by decide, aw_t 827 (by decide +kernel) (by decide +kernel), aw_t 829 (by decide +kernel) (by decide +kernel), aw_t 0 (by decide +kernel) (by decide +kernel), ⟨by decide, by decide⟩, by decide +kernel⟩
theorem sta_L_lift : Cond.static mL_lift.1 ∈ AW := aw_t 828 (by decide +kernel) (by decide +kernel)
theorem cal_RL_207 : calOK RL 207 mX7_lift 1 := ⟨rfl, by decide, aw_t 1378 (by decide +kernel) (by decide +kernel), aw_t 1381 (by decide +kernel) (by decide +kernel), aw_t 8 (by decide +kernel) (by decide +kernel), ⟨by decide, by decide⟩, by decide +kernel⟩
theorem ins_X7_lift : Cond.instanceMethod mX7_lift.1 ∈ AW := aw_t 1379 (by decide +kernel) (by decide +kernel)
theorem sel_X7_lift : Cond.selects mX7_lift.1.cls mX7_lift.1 mX7_lift.1 ∈ AW := aw_t 1380 (by decide +kernel) (by decide +kernel)
theorem cal_RL_201 : calWOK RL 201 mL_ban 7 := ⟨rfl, by decide, aw_t 787 (by decide +kernel) (by decide +kernel), aw_t 789 (by decide +kernel) (by decide +kernel), aw_t 0 (by decide +kernel) (by decide +kernel), ⟨by decide, by decide⟩, by decide +kernel⟩
theorem sta_L_ban : Cond.static mL_ban.1 ∈ AW := aw_t 788 (by decide +kernel) (by decide +kernel)
theorem cal_RL_204 : calOK RL 204 mX7_ban 5 := ⟨rfl, by decide, aw_t 1366 (by decide +kernel) (by decide +kernel), aw_t 1369 (by decide +kernel) (by decide +kernel), aw_t 8 (by decide +kernel) (by decide +kernel), ⟨by decide, by decide⟩, by decide +kernel⟩
theorem ins_X7_ban : Cond.instanceMethod mX7_ban.1 ∈ AW := aw_t 1367 (by decide +kernel) (by decide +kernel)
theorem sel_X7_ban : Cond.selects mX7_ban.1.cls mX7_ban.1 mX7_ban.1 ∈ AW := aw_t 1368 (by decide +kernel) (by decide +kernel)
theorem cal_RL_198 : calWOK RL 198 mL_pass 3 := ⟨rfl, by decide, aw_t 774 (by decide +kernel) (by decide +kernel), aw_t 776 (by decide +kernel) (by decide +kernel), aw_t 0 (by decide +kernel) (by decide +kernel), ⟨by decide, by decide⟩, by decide +kernel⟩
theorem sta_L_pass : Cond.static mL_pass.1 ∈ AW := aw_t 775 (by decide +kernel) (by decide +kernel)
theorem cal_RL_200 : calOK RL 200 mX7_pass 1 := ⟨rfl, by decide, aw_t 1362 (by decide +kernel) (by decide +kernel), aw_t 1365 (by decide +kernel) (by decide +kernel), aw_t 8 (by decide +kernel) (by decide +kernel), ⟨by decide, by decide⟩, by decide +kernel⟩
theorem ins_X7_pass : Cond.instanceMethod mX7_pass.1 ∈ AW := aw_t 1363 (by decide +kernel) (by decide +kernel)
theorem sel_X7_pass : Cond.selects mX7_pass.1.cls mX7_pass.1 mX7_pass.1 ∈ AW := aw_t 1364 (by decide +kernel) (by decide +kernel)
theorem cal_RL_197 : calOK RL 197 mX7_slot 3 := ⟨rfl, by decide, aw_t 1358 (by decide +kernel) (by decide +kernel), aw_t 1361 (by decide +kernel) (by decide +kernel), aw_t 8 (by decide +kernel) (by decide +kernel), ⟨by decide, by decide⟩, by decide +kernel⟩
theorem ins_X7_slot : Cond.instanceMethod mX7_slot.1 ∈ AW := aw_t 1359 (by decide +kernel) (by decide +kernel)
theorem sel_X7_slot : Cond.selects mX7_slot.1.cls mX7_slot.1 mX7_slot.1 ∈ AW := aw_t 1360 (by decide +kernel) (by decide +kernel)
theorem cal_RL_195 : calWOK RL 195 mL_slot 5 := ⟨rfl, by decide, aw_t 765 (by decide +kernel) (by decide +kernel), aw_t 767 (by decide +kernel) (by decide +kernel), aw_t 0 (by decide +kernel) (by decide +kernel), ⟨by decide, by decide⟩, by decide +kernel⟩
theorem sta_L_slot : Cond.static mL_slot.1 ∈ AW := aw_t 766 (by decide +kernel) (by decide +kernel)
theorem cal_RL_192 : calWOK RL 192 mL_next 3 := ⟨rfl, by decide, aw_t 752 (by decide +kernel) (by decide +kernel), aw_t 754 (by decide +kernel) (by decide +kernel), aw_t 0 (by decide +kernel) (by decide +kernel), ⟨by decide, by decide⟩, by decide +kernel⟩
theorem sta_L_next : Cond.static mL_next.1 ∈ AW := aw_t 753 (by decide +kernel) (by decide +kernel)
theorem cal_RL_194 : calOK RL 194 mX7_next 1 := ⟨rfl, by decide, aw_t 1350 (by decide +kernel) (by decide +kernel), aw_t 1353 (by decide +kernel) (by decide +kernel), aw_t 8 (by decide +kernel) (by decide +kernel), ⟨by decide, by decide⟩, by decide +kernel⟩
theorem ins_X7_next : Cond.instanceMethod mX7_next.1 ∈ AW := aw_t 1351 (by decide +kernel) (by decide +kernel)
theorem sel_X7_next : Cond.selects mX7_next.1.cls mX7_next.1 mX7_next.1 ∈ AW := aw_t 1352 (by decide +kernel) (by decide +kernel)
theorem cal_RL_189 : calWOK RL 189 mL_visit 4 := ⟨rfl, by decide, aw_t 742 (by decide +kernel) (by decide +kernel), aw_t 744 (by decide +kernel) (by decide +kernel), aw_t 0 (by decide +kernel) (by decide +kernel), ⟨by decide, by decide⟩, by decide +kernel⟩
theorem sta_L_visit : Cond.static mL_visit.1 ∈ AW := aw_t 743 (by decide +kernel) (by decide +kernel)
theorem cal_RL_191 : calOK RL 191 mX7_visit 2 := ⟨rfl, by decide, aw_t 1346 (by decide +kernel) (by decide +kernel), aw_t 1349 (by decide +kernel) (by decide +kernel), aw_t 8 (by decide +kernel) (by decide +kernel), ⟨by decide, by decide⟩, by decide +kernel⟩
theorem ins_X7_visit : Cond.instanceMethod mX7_visit.1 ∈ AW := aw_t 1347 (by decide +kernel) (by decide +kernel)
theorem sel_X7_visit : Cond.selects mX7_visit.1.cls mX7_visit.1 mX7_visit.1 ∈ AW := aw_t 1348 (by decide +kernel) (by decide +kernel)
theorem cal_RL_186 : calWOK RL 186 mL_firstFree 4 := ⟨rfl, by decide, aw_t 732 (by decide +kernel) (by decide +kernel), aw_t 734 (by decide +kernel) (by decide +kernel), aw_t 0 (by decide +kernel) (by decide +kernel), ⟨by decide, by decide⟩, by decide +kernel⟩
theorem sta_L_firstFree : Cond.static mL_firstFree.1 ∈ AW := aw_t 733 (by decide +kernel) (by decide +kernel)
theorem cal_RL_188 : calOK RL 188 mX7_firstFree 2 := ⟨rfl, by decide, aw_t 1342 (by decide +kernel) (by decide +kernel), aw_t 1345 (by decide +kernel) (by decide +kernel), aw_t 8 (by decide +kernel) (by decide +kernel), ⟨by decide, by decide⟩, by decide +kernel⟩
theorem ins_X7_firstFree : Cond.instanceMethod mX7_firstFree.1 ∈ AW := aw_t 1343 (by decide +kernel) (by decide +kernel)
theorem sel_X7_firstFree : Cond.selects mX7_firstFree.1.cls mX7_firstFree.1 mX7_firstFree.1 ∈ AW := aw_t 1344 (by decide +kernel) (by decide +kernel)
theorem cal_RL_183 : calWOK RL 183 mL_refusal 6 := ⟨rfl, by decide, aw_t 725 (by decide +kernel) (by decide +kernel), aw_t 727 (by decide +kernel) (by decide +kernel), aw_t 0 (by decide +kernel) (by decide +kernel), ⟨by decide, by decide⟩, by decide +kernel⟩
theorem sta_L_refusal : Cond.static mL_refusal.1 ∈ AW := aw_t 726 (by decide +kernel) (by decide +kernel)
theorem cal_RL_185 : calOK RL 185 mX7_refusal 4 := ⟨rfl, by decide, aw_t 1338 (by decide +kernel) (by decide +kernel), aw_t 1341 (by decide +kernel) (by decide +kernel), aw_t 8 (by decide +kernel) (by decide +kernel), ⟨by decide, by decide⟩, by decide +kernel⟩
theorem ins_X7_refusal : Cond.instanceMethod mX7_refusal.1 ∈ AW := aw_t 1339 (by decide +kernel) (by decide +kernel)
theorem sel_X7_refusal : Cond.selects mX7_refusal.1.cls mX7_refusal.1 mX7_refusal.1 ∈ AW := aw_t 1340 (by decide +kernel) (by decide +kernel)
theorem cal_RL_180 : calWOK RL 180 mL_cancel 3 := ⟨rfl, by decide, aw_t 709 (by decide +kernel) (by decide +kernel), aw_t 711 (by decide +kernel) (by decide +kernel), aw_t 0 (by decide +kernel) (by decide +kernel), ⟨by decide, by decide⟩, by decide +kernel⟩
theorem sta_L_cancel : Cond.static mL_cancel.1 ∈ AW := aw_t 710 (by decide +kernel) (by decide +kernel)
theorem cal_RL_182 : calOK RL 182 mX7_cancel 1 := ⟨rfl, by decide, aw_t 1326 (by decide +kernel) (by decide +kernel), aw_t 1329 (by decide +kernel) (by decide +kernel), aw_t 8 (by decide +kernel) (by decide +kernel), ⟨by decide, by decide⟩, by decide +kernel⟩
theorem ins_X7_cancel : Cond.instanceMethod mX7_cancel.1 ∈ AW := aw_t 1327 (by decide +kernel) (by decide +kernel)
theorem sel_X7_cancel : Cond.selects mX7_cancel.1.cls mX7_cancel.1 mX7_cancel.1 ∈ AW := aw_t 1328 (by decide +kernel) (by decide +kernel)
theorem cal_RL_176 : calWOK RL 176 mL_book 6 := ⟨rfl, by decide, aw_t 664 (by decide +kernel) (by decide +kernel), aw_t 666 (by decide +kernel) (by decide +kernel), aw_t 0 (by decide +kernel) (by decide +kernel), ⟨by decide, by decide⟩, by decide +kernel⟩
theorem sta_L_book : Cond.static mL_book.1 ∈ AW := aw_t 665 (by decide +kernel) (by decide +kernel)
theorem cal_RL_179 : calOK RL 179 mX7_book 4 := ⟨rfl, by decide, aw_t 1310 (by decide +kernel) (by decide +kernel), aw_t 1313 (by decide +kernel) (by decide +kernel), aw_t 8 (by decide +kernel) (by decide +kernel), ⟨by decide, by decide⟩, by decide +kernel⟩
theorem ins_X7_book : Cond.instanceMethod mX7_book.1 ∈ AW := aw_t 1311 (by decide +kernel) (by decide +kernel)
theorem sel_X7_book : Cond.selects mX7_book.1.cls mX7_book.1 mX7_book.1 ∈ AW := aw_t 1312 (by decide +kernel) (by decide +kernel)
theorem cal_RL_173 : calWOK RL 173 mL_ordered 4 := ⟨rfl, by decide, aw_t 639 (by decide +kernel) (by decide +kernel), aw_t 641 (by decide +kernel) (by decide +kernel), aw_t 0 (by decide +kernel) (by decide +kernel), ⟨by decide, by decide⟩, by decide +kernel⟩
theorem sta_L_ordered : Cond.static mL_ordered.1 ∈ AW := aw_t 640 (by decide +kernel) (by decide +kernel)
theorem cal_RL_175 : calOK RL 175 mX7_ordered 2 := ⟨rfl, by decide, aw_t 1306 (by decide +kernel) (by decide +kernel), aw_t 1309 (by decide +kernel) (by decide +kernel), aw_t 8 (by decide +kernel) (by decide +kernel), ⟨by decide, by decide⟩, by decide +kernel⟩
theorem ins_X7_ordered : Cond.instanceMethod mX7_ordered.1 ∈ AW := aw_t 1307 (by decide +kernel) (by decide +kernel)
theorem sel_X7_ordered : Cond.selects mX7_ordered.1.cls mX7_ordered.1 mX7_ordered.1 ∈ AW := aw_t 1308 (by decide +kernel) (by decide +kernel)
theorem cal_RL_170 : calWOK RL 170 mL_room 4 := ⟨rfl, by decide, aw_t 632 (by decide +kernel) (by decide +kernel), aw_t 634 (by decide +kernel) (by decide +kernel), aw_t 0 (by decide +kernel) (by decide +kernel), ⟨by decide, by decide⟩, by decide +kernel⟩
theorem sta_L_room : Cond.static mL_room.1 ∈ AW := aw_t 633 (by decide +kernel) (by decide +kernel)
theorem cal_RL_172 : calOK RL 172 mX7_room 2 := ⟨rfl, by decide, aw_t 1302 (by decide +kernel) (by decide +kernel), aw_t 1305 (by decide +kernel) (by decide +kernel), aw_t 8 (by decide +kernel) (by decide +kernel), ⟨by decide, by decide⟩, by decide +kernel⟩
theorem ins_X7_room : Cond.instanceMethod mX7_room.1 ∈ AW := aw_t 1303 (by decide +kernel) (by decide +kernel)
theorem sel_X7_room : Cond.selects mX7_room.1.cls mX7_room.1 mX7_room.1 ∈ AW := aw_t 1304 (by decide +kernel) (by decide +kernel)
theorem cal_RL_167 : calWOK RL 167 mL_inmate 4 := ⟨rfl, by decide, aw_t 616 (by decide +kernel) (by decide +kernel), aw_t 618 (by decide +kernel) (by decide +kernel), aw_t 0 (by decide +kernel) (by decide +kernel), ⟨by decide, by decide⟩, by decide +kernel⟩
theorem sta_L_inmate : Cond.static mL_inmate.1 ∈ AW := aw_t 617 (by decide +kernel) (by decide +kernel)
theorem cal_RL_169 : calOK RL 169 mX7_inmate 2 := ⟨rfl, by decide, aw_t 1294 (by decide +kernel) (by decide +kernel), aw_t 1297 (by decide +kernel) (by decide +kernel), aw_t 8 (by decide +kernel) (by decide +kernel), ⟨by decide, by decide⟩, by decide +kernel⟩
theorem ins_X7_inmate : Cond.instanceMethod mX7_inmate.1 ∈ AW := aw_t 1295 (by decide +kernel) (by decide +kernel)
theorem sel_X7_inmate : Cond.selects mX7_inmate.1.cls mX7_inmate.1 mX7_inmate.1 ∈ AW := aw_t 1296 (by decide +kernel) (by decide +kernel)
theorem cal_RL_164 : calWOK RL 164 mL_set 4 := ⟨rfl, by decide, aw_t 607 (by decide +kernel) (by decide +kernel), aw_t 609 (by decide +kernel) (by decide +kernel), aw_t 0 (by decide +kernel) (by decide +kernel), ⟨by decide, by decide⟩, by decide +kernel⟩
theorem sta_L_set : Cond.static mL_set.1 ∈ AW := aw_t 608 (by decide +kernel) (by decide +kernel)
theorem cal_RL_166 : calOK RL 166 mX7_set 2 := ⟨rfl, by decide, aw_t 1290 (by decide +kernel) (by decide +kernel), aw_t 1293 (by decide +kernel) (by decide +kernel), aw_t 8 (by decide +kernel) (by decide +kernel), ⟨by decide, by decide⟩, by decide +kernel⟩
theorem ins_X7_set : Cond.instanceMethod mX7_set.1 ∈ AW := aw_t 1291 (by decide +kernel) (by decide +kernel)
theorem sel_X7_set : Cond.selects mX7_set.1.cls mX7_set.1 mX7_set.1 ∈ AW := aw_t 1292 (by decide +kernel) (by decide +kernel)
theorem cal_RL_163 : calOK RL 163 mX7_confine 2 := ⟨rfl, by decide, aw_t 1286 (by decide +kernel) (by decide +kernel), aw_t 1289 (by decide +kernel) (by decide +kernel), aw_t 8 (by decide +kernel) (by decide +kernel), ⟨by decide, by decide⟩, by decide +kernel⟩
theorem ins_X7_confine : Cond.instanceMethod mX7_confine.1 ∈ AW := aw_t 1287 (by decide +kernel) (by decide +kernel)
theorem sel_X7_confine : Cond.selects mX7_confine.1.cls mX7_confine.1 mX7_confine.1 ∈ AW := aw_t 1288 (by decide +kernel) (by decide +kernel)
theorem cal_RL_161 : calWOK RL 161 mL_confine 4 := ⟨rfl, by decide, aw_t 596 (by decide +kernel) (by decide +kernel), aw_t 598 (by decide +kernel) (by decide +kernel), aw_t 0 (by decide +kernel) (by decide +kernel), ⟨by decide, by decide⟩, by decide +kernel⟩
theorem sta_L_confine : Cond.static mL_confine.1 ∈ AW := aw_t 597 (by decide +kernel) (by decide +kernel)
theorem cal_RL_158 : calWOK RL 158 mL_move 4 := ⟨rfl, by decide, aw_t 575 (by decide +kernel) (by decide +kernel), aw_t 577 (by decide +kernel) (by decide +kernel), aw_t 0 (by decide +kernel) (by decide +kernel), ⟨by decide, by decide⟩, by decide +kernel⟩
theorem sta_L_move : Cond.static mL_move.1 ∈ AW := aw_t 576 (by decide +kernel) (by decide +kernel)
theorem cal_RL_160 : calOK RL 160 mX7_move 2 := ⟨rfl, by decide, aw_t 1278 (by decide +kernel) (by decide +kernel), aw_t 1281 (by decide +kernel) (by decide +kernel), aw_t 8 (by decide +kernel) (by decide +kernel), ⟨by decide, by decide⟩, by decide +kernel⟩
theorem ins_X7_move : Cond.instanceMethod mX7_move.1 ∈ AW := aw_t 1279 (by decide +kernel) (by decide +kernel)
theorem sel_X7_move : Cond.selects mX7_move.1.cls mX7_move.1 mX7_move.1 ∈ AW := aw_t 1280 (by decide +kernel) (by decide +kernel)
theorem cal_RL_155 : calWOK RL 155 mL_setLevel 4 := ⟨rfl, by decide, aw_t 566 (by decide +kernel) (by decide +kernel), aw_t 568 (by decide +kernel) (by decide +kernel), aw_t 0 (by decide +kernel) (by decide +kernel), ⟨by decide, by decide⟩, by decide +kernel⟩
theorem sta_L_setLevel : Cond.static mL_setLevel.1 ∈ AW := aw_t 567 (by decide +kernel) (by decide +kernel)
theorem cal_RL_157 : calOK RL 157 mX7_setLevel 2 := ⟨rfl, by decide, aw_t 1266 (by decide +kernel) (by decide +kernel), aw_t 1269 (by decide +kernel) (by decide +kernel), aw_t 8 (by decide +kernel) (by decide +kernel), ⟨by decide, by decide⟩, by decide +kernel⟩
theorem ins_X7_setLevel : Cond.instanceMethod mX7_setLevel.1 ∈ AW := aw_t 1267 (by decide +kernel) (by decide +kernel)
theorem sel_X7_setLevel : Cond.selects mX7_setLevel.1.cls mX7_setLevel.1 mX7_setLevel.1 ∈ AW := aw_t 1268 (by decide +kernel) (by decide +kernel)
theorem cal_RL_154 : calOK RL 154 mX7_setOpen 2 := ⟨rfl, by decide, aw_t 1128 (by decide +kernel) (by decide +kernel), aw_t 1131 (by decide +kernel) (by decide +kernel), aw_t 8 (by decide +kernel) (by decide +kernel), ⟨by decide, by decide⟩, by decide +kernel⟩
theorem ins_X7_setOpen : Cond.instanceMethod mX7_setOpen.1 ∈ AW := aw_t 1129 (by decide +kernel) (by decide +kernel)
theorem sel_X7_setOpen : Cond.selects mX7_setOpen.1.cls mX7_setOpen.1 mX7_setOpen.1 ∈ AW := aw_t 1130 (by decide +kernel) (by decide +kernel)
theorem cal_RL_151 : calWOK RL 151 mL_setOpen 4 := ⟨rfl, by decide, aw_t 387 (by decide +kernel) (by decide +kernel), aw_t 389 (by decide +kernel) (by decide +kernel), aw_t 0 (by decide +kernel) (by decide +kernel), ⟨by decide, by decide⟩, by decide +kernel⟩
theorem sta_L_setOpen : Cond.static mL_setOpen.1 ∈ AW := aw_t 388 (by decide +kernel) (by decide +kernel)
theorem cal_RL_150 : calOK RL 150 mX7_addRoom 3 := ⟨rfl, by decide, aw_t 1124 (by decide +kernel) (by decide +kernel), aw_t 1127 (by decide +kernel) (by decide +kernel), aw_t 8 (by decide +kernel) (by decide +kernel), ⟨by decide, by decide⟩, by decide +kernel⟩
theorem ins_X7_addRoom : Cond.instanceMethod mX7_addRoom.1 ∈ AW := aw_t 1125 (by decide +kernel) (by decide +kernel)
theorem sel_X7_addRoom : Cond.selects mX7_addRoom.1.cls mX7_addRoom.1 mX7_addRoom.1 ∈ AW := aw_t 1126 (by decide +kernel) (by decide +kernel)
theorem cal_RL_147 : calWOK RL 147 mL_addRoom 5 := ⟨rfl, by decide, aw_t 378 (by decide +kernel) (by decide +kernel), aw_t 380 (by decide +kernel) (by decide +kernel), aw_t 0 (by decide +kernel) (by decide +kernel), ⟨by decide, by decide⟩, by decide +kernel⟩
theorem sta_L_addRoom : Cond.static mL_addRoom.1 ∈ AW := aw_t 379 (by decide +kernel) (by decide +kernel)
theorem cal_RL_143 : calWOK RL 143 mL_addVisitor 3 := ⟨rfl, by decide, aw_t 369 (by decide +kernel) (by decide +kernel), aw_t 371 (by decide +kernel) (by decide +kernel), aw_t 0 (by decide +kernel) (by decide +kernel), ⟨by decide, by decide⟩, by decide +kernel⟩
theorem sta_L_addVisitor : Cond.static mL_addVisitor.1 ∈ AW := aw_t 370 (by decide +kernel) (by decide +kernel)
theorem cal_RL_146 : calOK RL 146 mX7_addVisitor 1 := ⟨rfl, by decide, aw_t 1120 (by decide +kernel) (by decide +kernel), aw_t 1123 (by decide +kernel) (by decide +kernel), aw_t 8 (by decide +kernel) (by decide +kernel), ⟨by decide, by decide⟩, by decide +kernel⟩
theorem ins_X7_addVisitor : Cond.instanceMethod mX7_addVisitor.1 ∈ AW := aw_t 1121 (by decide +kernel) (by decide +kernel)
theorem sel_X7_addVisitor : Cond.selects mX7_addVisitor.1.cls mX7_addVisitor.1 mX7_addVisitor.1 ∈ AW := aw_t 1122 (by decide +kernel) (by decide +kernel)
theorem cal_RL_134 : calWOK RL 134 mL_addInmate 4 := ⟨rfl, by decide, aw_t 248 (by decide +kernel) (by decide +kernel), aw_t 250 (by decide +kernel) (by decide +kernel), aw_t 0 (by decide +kernel) (by decide +kernel), ⟨by decide, by decide⟩, by decide +kernel⟩
theorem sta_L_addInmate : Cond.static mL_addInmate.1 ∈ AW := aw_t 249 (by decide +kernel) (by decide +kernel)
theorem cal_RL_139 : calOK RL 139 mX7_addInmate 2 := ⟨rfl, by decide, aw_t 1101 (by decide +kernel) (by decide +kernel), aw_t 1104 (by decide +kernel) (by decide +kernel), aw_t 8 (by decide +kernel) (by decide +kernel), ⟨by decide, by decide⟩, by decide +kernel⟩
theorem ins_X7_addInmate : Cond.instanceMethod mX7_addInmate.1 ∈ AW := aw_t 1102 (by decide +kernel) (by decide +kernel)
theorem sel_X7_addInmate : Cond.selects mX7_addInmate.1.cls mX7_addInmate.1 mX7_addInmate.1 ∈ AW := aw_t 1103 (by decide +kernel) (by decide +kernel)
def T_L_law_2534 (κ28 : Nat → Nat → Nat → Nat → Int32 → Mem → Prop) (Q : Int32 → Mem → Prop) (sl : Nat) (xs : Nat → Int32) (v1 : Nat) (v2 : Nat) (v3 : Nat) (v4 : Nat) (v5 : Int32) (M : Mem) : Prop := ∀ x1 : Int32, x1 = v5 + 6 → κ28 v1 v2 v3 v4 x1 M
set_option maxRecDepth 100000 in
set_option maxHeartbeats 4000000 in
theorem B_L_law_2534 {g : GG} {kr : Nat} (Q : Int32 → Mem → Prop) (κ28 : Nat → Nat → Nat → Nat → Int32 → Mem → Prop) (hκ28 : ∀ (v1 : Nat) (v2 : Nat) (v3 : Nat) (v4 : Nat) (v5 : Int32) (M : Mem), κ28 v1 v2 v3 v4 v5 M → WP g 20 mL_law 28 [some (.ref g.2.2.2.1), some (.ref (g.1 + v1)), some (.ref (g.1 + v2)), some (.ref (g.1 + v3)), some (.ref (g.1 + v4)), some (.int v5), none, none, none] [] M kr (oZ Q noX)) (v1 : Nat) (v2 : Nat) (v3 : Nat) (v4 : Nat) (v5 : Int32) (M : Mem) (h : T_L_law_2534 κ28 Q g.2.2.2.2.1 g.2.2.2.2.2 v1 v2 v3 v4 v5 M) : WP g 20 mL_law 2534 [some (.ref g.2.2.2.1), some (.ref (g.1 + v1)), some (.ref (g.1 + v2)), some (.ref (g.1 + v3)), some (.ref (g.1 + v4)), some (.int v5), none, none, none] [] M (kr + 0) (oZ Q noX) := by
  unfold T_L_law_2534 at h
  obtain ⟨x1, ex1⟩ : ∃ z : Int32, z = v5 + 6 := ⟨_, rfl⟩
  have h := h x1 ex1
  refine R_iinc (pc := 2534) (v := x1) (L' := [some (.ref g.2.2.2.1), some (.ref (g.1 + v1)), some (.ref (g.1 + v2)), some (.ref (g.1 + v3)), some (.ref (g.1 + v4)), some (.int x1), none, none, none]) d_L_law_2534 rfl (by rw [ex1]; rfl) (by decide) rfl ?_
  refine R_goto (pc := 2537) (tgt := 28) d_L_law_2537 (by decide) ?_
  exact WP_sub (hκ28 v1 v2 v3 v4 x1 M h) (by omega) (ls_s (ls_s (ls_s (ls_s (ls_s (ls_s (ls_n (ls_n (ls_n ls_0)))))))))
def T_L_law_2531 (κ28 : Nat → Nat → Nat → Nat → Int32 → Mem → Prop) (Q : Int32 → Mem → Prop) (sl : Nat) (xs : Nat → Int32) (v1 : Nat) (v2 : Nat) (v3 : Nat) (v4 : Nat) (v5 : Int32) (M : Mem) : Prop := T_L_law_2534 κ28 Q sl xs v1 v2 v3 v4 v5 M
set_option maxRecDepth 100000 in
set_option maxHeartbeats 4000000 in
theorem B_L_law_2531 {g : GG} {kr : Nat} (Q : Int32 → Mem → Prop) (κ28 : Nat → Nat → Nat → Nat → Int32 → Mem → Prop) (hκ28 : ∀ (v1 : Nat) (v2 : Nat) (v3 : Nat) (v4 : Nat) (v5 : Int32) (M : Mem), κ28 v1 v2 v3 v4 v5 M → WP g 20 mL_law 28 [some (.ref g.2.2.2.1), some (.ref (g.1 + v1)), some (.ref (g.1 + v2)), some (.ref (g.1 + v3)), some (.ref (g.1 + v4)), some (.int v5), none, none, none] [] M kr (oZ Q noX)) (v1 : Nat) (v2 : Nat) (v3 : Nat) (v4 : Nat) (v5 : Int32) (M : Mem) (h : T_L_law_2531 κ28 Q g.2.2.2.2.1 g.2.2.2.2.2 v1 v2 v3 v4 v5 M) : WP g 20 mL_law 2531 [some (.ref g.2.2.2.1), some (.ref (g.1 + v1)), some (.ref (g.1 + v2)), some (.ref (g.1 + v3)), some (.ref (g.1 + v4)), some (.int v5), none, none, none] [] M (kr + 1) (oZ Q noX) := by
  unfold T_L_law_2531 at h
  refine R_goto (pc := 2531) (tgt := 2534) d_L_law_2531 (by decide) ?_
  exact WP_sub (B_L_law_2534 Q κ28 hκ28 v1 v2 v3 v4 v5 M h) (by omega) (ls_s (ls_s (ls_s (ls_s (ls_s (ls_s (ls_n (ls_n (ls_n ls_0)))))))))
def T_L_law_2490 (κ28 : Nat → Nat → Nat → Nat → Int32 → Mem → Prop) (Q : Int32 → Mem → Prop) (sl : Nat) (xs : Nat → Int32) (v1 : Nat) (v2 : Nat) (v3 : Nat) (v4 : Nat) (v5 : Int32) (M : Mem) : Prop := T_L_restore (fun y2 M1 => (kd v2 = 7) ∧ T_X7_restore (fun y5 M4 => T_X7_thrown (fun y7 M6 => if y7 = y2 then (if y2 = 0 then ((kd v3 = 12) ∧ (vp_in 0 (ln v3)) ∧ if (lg_cmp (M6.2.1 (Int32.toNatClampNeg 0)) (Int32.toInt64 y5)) = 0 then (T_L_law_2531 κ28 Q sl xs v1 v2 v3 v4 v5 M6) else (((0 : Int32) = 0 ∨ (0 : Int32) = 1) ∧ Q 0 M6)) else (T_L_law_2531 κ28 Q sl xs v1 v2 v3 v4 v5 M6)) else (((0 : Int32) = 0 ∨ (0 : Int32) = 1) ∧ Q 0 M6))  v2 M4)  v2 M1)  v1 v3 M
set_option maxRecDepth 100000 in
set_option maxHeartbeats 4000000 in
theorem B_L_law_2490 {g : GG} {kr : Nat} (Q : Int32 → Mem → Prop) (κ28 : Nat → Nat → Nat → Nat → Int32 → Mem → Prop) (hκ28 : ∀ (v1 : Nat) (v2 : Nat) (v3 : Nat) (v4 : Nat) (v5 : Int32) (M : Mem), κ28 v1 v2 v3 v4 v5 M → WP g 20 mL_law 28 [some (.ref g.2.2.2.1), some (.ref (g.1 + v1)), some (.ref (g.1 + v2)), some (.ref (g.1 + v3)), some (.ref (g.1 + v4)), some (.int v5), none, none, none] [] M kr (oZ Q noX)) (v1 : Nat) (v2 : Nat) (v3 : Nat) (v4 : Nat) (v5 : Int32) (M : Mem) (h : T_L_law_2490 κ28 Q g.2.2.2.2.1 g.2.2.2.2.2 v1 v2 v3 v4 v5 M) : WP g 20 mL_law 2490 [some (.ref g.2.2.2.1), some (.ref (g.1 + v1)), some (.ref (g.1 + v2)), some (.ref (g.1 + v3)), some (.ref (g.1 + v4)), some (.int v5), none, none, none] [] M (kr + 2) (oZ Q noX) := by
  unfold T_L_law_2490 at h
  refine R_aload_n (pc := 2490) d_L_law_2490 rfl rfl ?_
  refine R_aload_n (pc := 2491) d_L_law_2491 rfl rfl ?_
  refine R_callSW (pc := 2492) (As := [.ref (g.1 + v1), .ref (g.1 + v3)]) (rest := []) (c_L_restore (g := g) v1 v3 M _ h) rfl rfl cal_RL_249 sta_L_restore (by decide) (by omega) rfl rfl (Nat.le_of_ble_eq_true rfl) d_L_law_2492 (k_I (fun y2 M1 h => ?_)) (fun _ _ h9 => False.elim h9)
  try dsimp only at h
  refine R_istore (pc := 2495) (L' := [some (.ref g.2.2.2.1), some (.ref (g.1 + v1)), some (.ref (g.1 + v2)), some (.ref (g.1 + v3)), some (.ref (g.1 + v4)), some (.int v5), some (.int y2), none, none]) d_L_law_2495 (by decide) rfl ?_
  refine R_aload_n (pc := 2497) d_L_law_2497 rfl rfl ?_
  obtain ⟨k3, h⟩ := h
  refine R_callV (pc := 2498) (As := []) (rest := []) (c_X7_restore (g := g) v2 M1 _ h) rfl rfl cal_RL_251 ins_X7_restore sel_X7_restore (cls_at k3 clsOK7) (by decide) (by omega) rfl rfl (Nat.le_of_ble_eq_true rfl) d_L_law_2498 (k_I (fun y5 M4 h => ?_)) (fun _ _ h9 => False.elim h9)
  try dsimp only at h
  refine R_istore (pc := 2501) (L' := [some (.ref g.2.2.2.1), some (.ref (g.1 + v1)), some (.ref (g.1 + v2)), some (.ref (g.1 + v3)), some (.ref (g.1 + v4)), some (.int v5), some (.int y2), some (.int y5), none]) d_L_law_2501 (by decide) rfl ?_
  refine R_aload_n (pc := 2503) d_L_law_2503 rfl rfl ?_
  refine R_callV (pc := 2504) (As := []) (rest := []) (c_X7_thrown (g := g) v2 M4 _ h) rfl rfl cal_RL_140 ins_X7_thrown sel_X7_thrown (cls_at k3 clsOK7) (by decide) (by omega) rfl rfl (Nat.le_of_ble_eq_true rfl) d_L_law_2504 (k_I (fun y7 M6 h => ?_)) (fun _ _ h9 => False.elim h9)
  try dsimp only at h
  refine R_iload (pc := 2507) d_L_law_2507 rfl ?_
  refine R_icmp_eq (pc := 2509) (tgt := 2514) d_L_law_2509 (by decide) (fun c => ?_) (fun c => ?_)
  · rw [if_pos c] at h
    refine R_iload (pc := 2514) d_L_law_2514 rfl ?_
    refine R_if_ne (pc := 2516) (tgt := 2531) d_L_law_2516 (by decide) (fun c => ?_) (fun c => ?_)
    · rw [if_neg c] at h
      exact WP_sub (B_L_law_2531 Q κ28 hκ28 v1 v2 v3 v4 v5 M6 h) (by omega) (ls_s (ls_s (ls_s (ls_s (ls_s (ls_s (ls_n (ls_n (ls_n ls_0)))))))))
    · rw [if_pos c] at h
      refine R_aload_n (pc := 2519) d_L_law_2519 rfl rfl ?_
      refine R_iconst (pc := 2520) (v := 0) d_L_law_2520 (by decide) ?_
      obtain ⟨k8, h⟩ := h
      obtain ⟨k9, h⟩ := h
      refine R_lald (pc := 2521) k8 k9 d_L_law_2521 ?_
      refine R_iload (pc := 2522) d_L_law_2522 rfl ?_
      refine R_i2l (pc := 2524) d_L_law_2524 ?_
      refine R_lcmp (pc := 2525) d_L_law_2525 ?_
      refine R_if_eq (pc := 2526) (tgt := 2531) d_L_law_2526 (by decide) (fun c => ?_) (fun c => ?_)
      · rw [if_pos c] at h
        exact WP_sub (B_L_law_2531 Q κ28 hκ28 v1 v2 v3 v4 v5 M6 h) (by omega) (ls_s (ls_s (ls_s (ls_s (ls_s (ls_s (ls_n (ls_n (ls_n ls_0)))))))))
      · rw [if_neg c] at h
        refine R_iconst (pc := 2529) (v := 0) d_L_law_2529 (by decide) ?_
        exact R_retv (pc := 2530) d_L_law_2530 h
  · rw [if_neg c] at h
    refine R_iconst (pc := 2512) (v := 0) d_L_law_2512 (by decide) ?_
    exact R_retv (pc := 2513) d_L_law_2513 h
def T_L_law_2477 (κ28 : Nat → Nat → Nat → Nat → Int32 → Mem → Prop) (Q : Int32 → Mem → Prop) (sl : Nat) (xs : Nat → Int32) (v1 : Nat) (v2 : Nat) (v3 : Nat) (v4 : Nat) (v5 : Int32) (M : Mem) : Prop := (kd v1 = 6) ∧ T_X6_save (fun y3 M2 => (kd v2 = 7) ∧ T_X7_save (fun y6 M5 => if y3 = y6 then (T_L_law_2534 κ28 Q sl xs v1 v2 v3 v4 v5 M5) else (((0 : Int32) = 0 ∨ (0 : Int32) = 1) ∧ Q 0 M5))  v2 M2)  v1 M
set_option maxRecDepth 100000 in
set_option maxHeartbeats 4000000 in
theorem B_L_law_2477 {g : GG} {kr : Nat} (Q : Int32 → Mem → Prop) (κ28 : Nat → Nat → Nat → Nat → Int32 → Mem → Prop) (hκ28 : ∀ (v1 : Nat) (v2 : Nat) (v3 : Nat) (v4 : Nat) (v5 : Int32) (M : Mem), κ28 v1 v2 v3 v4 v5 M → WP g 20 mL_law 28 [some (.ref g.2.2.2.1), some (.ref (g.1 + v1)), some (.ref (g.1 + v2)), some (.ref (g.1 + v3)), some (.ref (g.1 + v4)), some (.int v5), none, none, none] [] M kr (oZ Q noX)) (v1 : Nat) (v2 : Nat) (v3 : Nat) (v4 : Nat) (v5 : Int32) (M : Mem) (h : T_L_law_2477 κ28 Q g.2.2.2.2.1 g.2.2.2.2.2 v1 v2 v3 v4 v5 M) : WP g 20 mL_law 2477 [some (.ref g.2.2.2.1), some (.ref (g.1 + v1)), some (.ref (g.1 + v2)), some (.ref (g.1 + v3)), some (.ref (g.1 + v4)), some (.int v5), none, none, none] [] M (kr + 2) (oZ Q noX) := by
  unfold T_L_law_2477 at h
  refine R_aload_n (pc := 2477) d_L_law_2477 rfl rfl ?_
  obtain ⟨k1, h⟩ := h
  refine R_callV (pc := 2478) (As := []) (rest := []) (c_X6_save (g := g) v1 M _ h) rfl rfl cal_RL_245 ins_X6_save sel_X6_save (cls_at k1 clsOK6) (by decide) (by omega) rfl rfl (Nat.le_of_ble_eq_true rfl) d_L_law_2478 (k_I (fun y3 M2 h => ?_)) (fun _ _ h9 => False.elim h9)
  try dsimp only at h
  refine R_aload_n (pc := 2481) d_L_law_2481 rfl rfl ?_
  obtain ⟨k4, h⟩ := h
  refine R_callV (pc := 2482) (As := []) (rest := [.int y3]) (c_X7_save (g := g) v2 M2 _ h) rfl rfl cal_RL_248 ins_X7_save sel_X7_save (cls_at k4 clsOK7) (by decide) (by omega) rfl rfl (Nat.le_of_ble_eq_true rfl) d_L_law_2482 (k_I (fun y6 M5 h => ?_)) (fun _ _ h9 => False.elim h9)
  try dsimp only at h
  refine R_icmp_eq (pc := 2485) (tgt := 2534) d_L_law_2485 (by decide) (fun c => ?_) (fun c => ?_)
  · rw [if_pos c] at h
    exact WP_sub (B_L_law_2534 Q κ28 hκ28 v1 v2 v3 v4 v5 M5 h) (by omega) (ls_s (ls_s (ls_s (ls_s (ls_s (ls_s (ls_n (ls_n (ls_n ls_0)))))))))
  · rw [if_neg c] at h
    refine R_iconst (pc := 2488) (v := 0) d_L_law_2488 (by decide) ?_
    exact R_retv (pc := 2489) d_L_law_2489 h
def T_L_law_2474 (κ28 : Nat → Nat → Nat → Nat → Int32 → Mem → Prop) (Q : Int32 → Mem → Prop) (sl : Nat) (xs : Nat → Int32) (v1 : Nat) (v2 : Nat) (v3 : Nat) (v4 : Nat) (v5 : Int32) (M : Mem) : Prop := T_L_law_2534 κ28 Q sl xs v1 v2 v3 v4 v5 M
set_option maxRecDepth 100000 in
set_option maxHeartbeats 4000000 in
theorem B_L_law_2474 {g : GG} {kr : Nat} (Q : Int32 → Mem → Prop) (κ28 : Nat → Nat → Nat → Nat → Int32 → Mem → Prop) (hκ28 : ∀ (v1 : Nat) (v2 : Nat) (v3 : Nat) (v4 : Nat) (v5 : Int32) (M : Mem), κ28 v1 v2 v3 v4 v5 M → WP g 20 mL_law 28 [some (.ref g.2.2.2.1), some (.ref (g.1 + v1)), some (.ref (g.1 + v2)), some (.ref (g.1 + v3)), some (.ref (g.1 + v4)), some (.int v5), none, none, none] [] M kr (oZ Q noX)) (v1 : Nat) (v2 : Nat) (v3 : Nat) (v4 : Nat) (v5 : Int32) (M : Mem) (h : T_L_law_2474 κ28 Q g.2.2.2.2.1 g.2.2.2.2.2 v1 v2 v3 v4 v5 M) : WP g 20 mL_law 2474 [some (.ref g.2.2.2.1), some (.ref (g.1 + v1)), some (.ref (g.1 + v2)), some (.ref (g.1 + v3)), some (.ref (g.1 + v4)), some (.int v5), none, none, none] [] M (kr + 1) (oZ Q noX) := by
  unfold T_L_law_2474 at h
  refine R_goto (pc := 2474) (tgt := 2534) d_L_law_2474 (by decide) ?_
  exact WP_sub (B_L_law_2534 Q κ28 hκ28 v1 v2 v3 v4 v5 M h) (by omega) (ls_s (ls_s (ls_s (ls_s (ls_s (ls_s (ls_n (ls_n (ls_n ls_0)))))))))
def T_L_law_2433 (κ28 : Nat → Nat → Nat → Nat → Int32 → Mem → Prop) (Q : Int32 → Mem → Prop) (sl : Nat) (xs : Nat → Int32) (v1 : Nat) (v2 : Nat) (v3 : Nat) (v4 : Nat) (v5 : Int32) (M : Mem) : Prop := T_L_undo (fun y2 M1 => (kd v2 = 7) ∧ T_X7_undo (fun y5 M4 => T_X7_thrown (fun y7 M6 => if y7 = y2 then (if y2 = 0 then ((kd v3 = 12) ∧ (vp_in 0 (ln v3)) ∧ if (lg_cmp (M6.2.1 (Int32.toNatClampNeg 0)) (Int32.toInt64 y5)) = 0 then (T_L_law_2474 κ28 Q sl xs v1 v2 v3 v4 v5 M6) else (((0 : Int32) = 0 ∨ (0 : Int32) = 1) ∧ Q 0 M6)) else (T_L_law_2474 κ28 Q sl xs v1 v2 v3 v4 v5 M6)) else (((0 : Int32) = 0 ∨ (0 : Int32) = 1) ∧ Q 0 M6))  v2 M4)  v2 M1)  v1 v3 M
set_option maxRecDepth 100000 in
set_option maxHeartbeats 4000000 in
theorem B_L_law_2433 {g : GG} {kr : Nat} (Q : Int32 → Mem → Prop) (κ28 : Nat → Nat → Nat → Nat → Int32 → Mem → Prop) (hκ28 : ∀ (v1 : Nat) (v2 : Nat) (v3 : Nat) (v4 : Nat) (v5 : Int32) (M : Mem), κ28 v1 v2 v3 v4 v5 M → WP g 20 mL_law 28 [some (.ref g.2.2.2.1), some (.ref (g.1 + v1)), some (.ref (g.1 + v2)), some (.ref (g.1 + v3)), some (.ref (g.1 + v4)), some (.int v5), none, none, none] [] M kr (oZ Q noX)) (v1 : Nat) (v2 : Nat) (v3 : Nat) (v4 : Nat) (v5 : Int32) (M : Mem) (h : T_L_law_2433 κ28 Q g.2.2.2.2.1 g.2.2.2.2.2 v1 v2 v3 v4 v5 M) : WP g 20 mL_law 2433 [some (.ref g.2.2.2.1), some (.ref (g.1 + v1)), some (.ref (g.1 + v2)), some (.ref (g.1 + v3)), some (.ref (g.1 + v4)), some (.int v5), none, none, none] [] M (kr + 2) (oZ Q noX) := by
  unfold T_L_law_2433 at h
  refine R_aload_n (pc := 2433) d_L_law_2433 rfl rfl ?_
  refine R_aload_n (pc := 2434) d_L_law_2434 rfl rfl ?_
  refine R_callSW (pc := 2435) (As := [.ref (g.1 + v1), .ref (g.1 + v3)]) (rest := []) (c_L_undo (g := g) v1 v3 M _ h) rfl rfl cal_RL_242 sta_L_undo (by decide) (by omega) rfl rfl (Nat.le_of_ble_eq_true rfl) d_L_law_2435 (k_I (fun y2 M1 h => ?_)) (fun _ _ h9 => False.elim h9)
  try dsimp only at h
  refine R_istore (pc := 2438) (L' := [some (.ref g.2.2.2.1), some (.ref (g.1 + v1)), some (.ref (g.1 + v2)), some (.ref (g.1 + v3)), some (.ref (g.1 + v4)), some (.int v5), some (.int y2), none, none]) d_L_law_2438 (by decide) rfl ?_
  refine R_aload_n (pc := 2440) d_L_law_2440 rfl rfl ?_
  obtain ⟨k3, h⟩ := h
  refine R_callV (pc := 2441) (As := []) (rest := []) (c_X7_undo (g := g) v2 M1 _ h) rfl rfl cal_RL_244 ins_X7_undo sel_X7_undo (cls_at k3 clsOK7) (by decide) (by omega) rfl rfl (Nat.le_of_ble_eq_true rfl) d_L_law_2441 (k_I (fun y5 M4 h => ?_)) (fun _ _ h9 => False.elim h9)
  try dsimp only at h
  refine R_istore (pc := 2444) (L' := [some (.ref g.2.2.2.1), some (.ref (g.1 + v1)), some (.ref (g.1 + v2)), some (.ref (g.1 + v3)), some (.ref (g.1 + v4)), some (.int v5), some (.int y2), some (.int y5), none]) d_L_law_2444 (by decide) rfl ?_
  refine R_aload_n (pc := 2446) d_L_law_2446 rfl rfl ?_
  refine R_callV (pc := 2447) (As := []) (rest := []) (c_X7_thrown (g := g) v2 M4 _ h) rfl rfl cal_RL_140 ins_X7_thrown sel_X7_thrown (cls_at k3 clsOK7) (by decide) (by omega) rfl rfl (Nat.le_of_ble_eq_true rfl) d_L_law_2447 (k_I (fun y7 M6 h => ?_)) (fun _ _ h9 => False.elim h9)
  try dsimp only at h
  refine R_iload (pc := 2450) d_L_law_2450 rfl ?_
  refine R_icmp_eq (pc := 2452) (tgt := 2457) d_L_law_2452 (by decide) (fun c => ?_) (fun c => ?_)
  · rw [if_pos c] at h
    refine R_iload (pc := 2457) d_L_law_2457 rfl ?_
    refine R_if_ne (pc := 2459) (tgt := 2474) d_L_law_2459 (by decide) (fun c => ?_) (fun c => ?_)
    · rw [if_neg c] at h
      exact WP_sub (B_L_law_2474 Q κ28 hκ28 v1 v2 v3 v4 v5 M6 h) (by omega) (ls_s (ls_s (ls_s (ls_s (ls_s (ls_s (ls_n (ls_n (ls_n ls_0)))))))))
    · rw [if_pos c] at h
      refine R_aload_n (pc := 2462) d_L_law_2462 rfl rfl ?_
      refine R_iconst (pc := 2463) (v := 0) d_L_law_2463 (by decide) ?_
      obtain ⟨k8, h⟩ := h
      obtain ⟨k9, h⟩ := h
      refine R_lald (pc := 2464) k8 k9 d_L_law_2464 ?_
      refine R_iload (pc := 2465) d_L_law_2465 rfl ?_
      refine R_i2l (pc := 2467) d_L_law_2467 ?_
      refine R_lcmp (pc := 2468) d_L_law_2468 ?_
      refine R_if_eq (pc := 2469) (tgt := 2474) d_L_law_2469 (by decide) (fun c => ?_) (fun c => ?_)
      · rw [if_pos c] at h
        exact WP_sub (B_L_law_2474 Q κ28 hκ28 v1 v2 v3 v4 v5 M6 h) (by omega) (ls_s (ls_s (ls_s (ls_s (ls_s (ls_s (ls_n (ls_n (ls_n ls_0)))))))))
      · rw [if_neg c] at h
        refine R_iconst (pc := 2472) (v := 0) d_L_law_2472 (by decide) ?_
        exact R_retv (pc := 2473) d_L_law_2473 h
  · rw [if_neg c] at h
    refine R_iconst (pc := 2455) (v := 0) d_L_law_2455 (by decide) ?_
    exact R_retv (pc := 2456) d_L_law_2456 h
def T_L_law_2430 (κ28 : Nat → Nat → Nat → Nat → Int32 → Mem → Prop) (Q : Int32 → Mem → Prop) (sl : Nat) (xs : Nat → Int32) (v1 : Nat) (v2 : Nat) (v3 : Nat) (v4 : Nat) (v5 : Int32) (M : Mem) : Prop := T_L_law_2534 κ28 Q sl xs v1 v2 v3 v4 v5 M
set_option maxRecDepth 100000 in
set_option maxHeartbeats 4000000 in
theorem B_L_law_2430 {g : GG} {kr : Nat} (Q : Int32 → Mem → Prop) (κ28 : Nat → Nat → Nat → Nat → Int32 → Mem → Prop) (hκ28 : ∀ (v1 : Nat) (v2 : Nat) (v3 : Nat) (v4 : Nat) (v5 : Int32) (M : Mem), κ28 v1 v2 v3 v4 v5 M → WP g 20 mL_law 28 [some (.ref g.2.2.2.1), some (.ref (g.1 + v1)), some (.ref (g.1 + v2)), some (.ref (g.1 + v3)), some (.ref (g.1 + v4)), some (.int v5), none, none, none] [] M kr (oZ Q noX)) (v1 : Nat) (v2 : Nat) (v3 : Nat) (v4 : Nat) (v5 : Int32) (M : Mem) (h : T_L_law_2430 κ28 Q g.2.2.2.2.1 g.2.2.2.2.2 v1 v2 v3 v4 v5 M) : WP g 20 mL_law 2430 [some (.ref g.2.2.2.1), some (.ref (g.1 + v1)), some (.ref (g.1 + v2)), some (.ref (g.1 + v3)), some (.ref (g.1 + v4)), some (.int v5), none, none, none] [] M (kr + 1) (oZ Q noX) := by
  unfold T_L_law_2430 at h
  refine R_goto (pc := 2430) (tgt := 2534) d_L_law_2430 (by decide) ?_
  exact WP_sub (B_L_law_2534 Q κ28 hκ28 v1 v2 v3 v4 v5 M h) (by omega) (ls_s (ls_s (ls_s (ls_s (ls_s (ls_s (ls_n (ls_n (ls_n ls_0)))))))))
def T_L_law_2389 (κ28 : Nat → Nat → Nat → Nat → Int32 → Mem → Prop) (Q : Int32 → Mem → Prop) (sl : Nat) (xs : Nat → Int32) (v1 : Nat) (v2 : Nat) (v3 : Nat) (v4 : Nat) (v5 : Int32) (M : Mem) : Prop := T_L_perform (fun y2 M1 => (kd v2 = 7) ∧ T_X7_perform (fun y5 M4 => T_X7_thrown (fun y7 M6 => if y7 = y2 then (if y2 = 0 then ((kd v3 = 12) ∧ (vp_in 0 (ln v3)) ∧ if (lg_cmp (M6.2.1 (Int32.toNatClampNeg 0)) (Int32.toInt64 y5)) = 0 then (T_L_law_2430 κ28 Q sl xs v1 v2 v3 v4 v5 M6) else (((0 : Int32) = 0 ∨ (0 : Int32) = 1) ∧ Q 0 M6)) else (T_L_law_2430 κ28 Q sl xs v1 v2 v3 v4 v5 M6)) else (((0 : Int32) = 0 ∨ (0 : Int32) = 1) ∧ Q 0 M6))  v2 M4)  v2 M1)  v1 v3 M
set_option maxRecDepth 100000 in
set_option maxHeartbeats 4000000 in
theorem B_L_law_2389 {g : GG} {kr : Nat} (Q : Int32 → Mem → Prop) (κ28 : Nat → Nat → Nat → Nat → Int32 → Mem → Prop) (hκ28 : ∀ (v1 : Nat) (v2 : Nat) (v3 : Nat) (v4 : Nat) (v5 : Int32) (M : Mem), κ28 v1 v2 v3 v4 v5 M → WP g 20 mL_law 28 [some (.ref g.2.2.2.1), some (.ref (g.1 + v1)), some (.ref (g.1 + v2)), some (.ref (g.1 + v3)), some (.ref (g.1 + v4)), some (.int v5), none, none, none] [] M kr (oZ Q noX)) (v1 : Nat) (v2 : Nat) (v3 : Nat) (v4 : Nat) (v5 : Int32) (M : Mem) (h : T_L_law_2389 κ28 Q g.2.2.2.2.1 g.2.2.2.2.2 v1 v2 v3 v4 v5 M) : WP g 20 mL_law 2389 [some (.ref g.2.2.2.1), some (.ref (g.1 + v1)), some (.ref (g.1 + v2)), some (.ref (g.1 + v3)), some (.ref (g.1 + v4)), some (.int v5), none, none, none] [] M (kr + 2) (oZ Q noX) := by
  unfold T_L_law_2389 at h
  refine R_aload_n (pc := 2389) d_L_law_2389 rfl rfl ?_
  refine R_aload_n (pc := 2390) d_L_law_2390 rfl rfl ?_
  refine R_callSW (pc := 2391) (As := [.ref (g.1 + v1), .ref (g.1 + v3)]) (rest := []) (c_L_perform (g := g) v1 v3 M _ h) rfl rfl cal_RL_238 sta_L_perform (by decide) (by omega) rfl rfl (Nat.le_of_ble_eq_true rfl) d_L_law_2391 (k_I (fun y2 M1 h => ?_)) (fun _ _ h9 => False.elim h9)
  try dsimp only at h
  refine R_istore (pc := 2394) (L' := [some (.ref g.2.2.2.1), some (.ref (g.1 + v1)), some (.ref (g.1 + v2)), some (.ref (g.1 + v3)), some (.ref (g.1 + v4)), some (.int v5), some (.int y2), none, none]) d_L_law_2394 (by decide) rfl ?_
  refine R_aload_n (pc := 2396) d_L_law_2396 rfl rfl ?_
  obtain ⟨k3, h⟩ := h
  refine R_callV (pc := 2397) (As := []) (rest := []) (c_X7_perform (g := g) v2 M1 _ h) rfl rfl cal_RL_241 ins_X7_perform sel_X7_perform (cls_at k3 clsOK7) (by decide) (by omega) rfl rfl (Nat.le_of_ble_eq_true rfl) d_L_law_2397 (k_I (fun y5 M4 h => ?_)) (fun _ _ h9 => False.elim h9)
  try dsimp only at h
  refine R_istore (pc := 2400) (L' := [some (.ref g.2.2.2.1), some (.ref (g.1 + v1)), some (.ref (g.1 + v2)), some (.ref (g.1 + v3)), some (.ref (g.1 + v4)), some (.int v5), some (.int y2), some (.int y5), none]) d_L_law_2400 (by decide) rfl ?_
  refine R_aload_n (pc := 2402) d_L_law_2402 rfl rfl ?_
  refine R_callV (pc := 2403) (As := []) (rest := []) (c_X7_thrown (g := g) v2 M4 _ h) rfl rfl cal_RL_140 ins_X7_thrown sel_X7_thrown (cls_at k3 clsOK7) (by decide) (by omega) rfl rfl (Nat.le_of_ble_eq_true rfl) d_L_law_2403 (k_I (fun y7 M6 h => ?_)) (fun _ _ h9 => False.elim h9)
  try dsimp only at h
  refine R_iload (pc := 2406) d_L_law_2406 rfl ?_
  refine R_icmp_eq (pc := 2408) (tgt := 2413) d_L_law_2408 (by decide) (fun c => ?_) (fun c => ?_)
  · rw [if_pos c] at h
    refine R_iload (pc := 2413) d_L_law_2413 rfl ?_
    refine R_if_ne (pc := 2415) (tgt := 2430) d_L_law_2415 (by decide) (fun c => ?_) (fun c => ?_)
    · rw [if_neg c] at h
      exact WP_sub (B_L_law_2430 Q κ28 hκ28 v1 v2 v3 v4 v5 M6 h) (by omega) (ls_s (ls_s (ls_s (ls_s (ls_s (ls_s (ls_n (ls_n (ls_n ls_0)))))))))
    · rw [if_pos c] at h
      refine R_aload_n (pc := 2418) d_L_law_2418 rfl rfl ?_
      refine R_iconst (pc := 2419) (v := 0) d_L_law_2419 (by decide) ?_
      obtain ⟨k8, h⟩ := h
      obtain ⟨k9, h⟩ := h
      refine R_lald (pc := 2420) k8 k9 d_L_law_2420 ?_
      refine R_iload (pc := 2421) d_L_law_2421 rfl ?_
      refine R_i2l (pc := 2423) d_L_law_2423 ?_
      refine R_lcmp (pc := 2424) d_L_law_2424 ?_
      refine R_if_eq (pc := 2425) (tgt := 2430) d_L_law_2425 (by decide) (fun c => ?_) (fun c => ?_)
      · rw [if_pos c] at h
        exact WP_sub (B_L_law_2430 Q κ28 hκ28 v1 v2 v3 v4 v5 M6 h) (by omega) (ls_s (ls_s (ls_s (ls_s (ls_s (ls_s (ls_n (ls_n (ls_n ls_0)))))))))
      · rw [if_neg c] at h
        refine R_iconst (pc := 2428) (v := 0) d_L_law_2428 (by decide) ?_
        exact R_retv (pc := 2429) d_L_law_2429 h
  · rw [if_neg c] at h
    refine R_iconst (pc := 2411) (v := 0) d_L_law_2411 (by decide) ?_
    exact R_retv (pc := 2412) d_L_law_2412 h
def T_L_law_2386 (κ28 : Nat → Nat → Nat → Nat → Int32 → Mem → Prop) (Q : Int32 → Mem → Prop) (sl : Nat) (xs : Nat → Int32) (v1 : Nat) (v2 : Nat) (v3 : Nat) (v4 : Nat) (v5 : Int32) (M : Mem) : Prop := T_L_law_2534 κ28 Q sl xs v1 v2 v3 v4 v5 M
set_option maxRecDepth 100000 in
set_option maxHeartbeats 4000000 in
theorem B_L_law_2386 {g : GG} {kr : Nat} (Q : Int32 → Mem → Prop) (κ28 : Nat → Nat → Nat → Nat → Int32 → Mem → Prop) (hκ28 : ∀ (v1 : Nat) (v2 : Nat) (v3 : Nat) (v4 : Nat) (v5 : Int32) (M : Mem), κ28 v1 v2 v3 v4 v5 M → WP g 20 mL_law 28 [some (.ref g.2.2.2.1), some (.ref (g.1 + v1)), some (.ref (g.1 + v2)), some (.ref (g.1 + v3)), some (.ref (g.1 + v4)), some (.int v5), none, none, none] [] M kr (oZ Q noX)) (v1 : Nat) (v2 : Nat) (v3 : Nat) (v4 : Nat) (v5 : Int32) (M : Mem) (h : T_L_law_2386 κ28 Q g.2.2.2.2.1 g.2.2.2.2.2 v1 v2 v3 v4 v5 M) : WP g 20 mL_law 2386 [some (.ref g.2.2.2.1), some (.ref (g.1 + v1)), some (.ref (g.1 + v2)), some (.ref (g.1 + v3)), some (.ref (g.1 + v4)), some (.int v5), none, none, none] [] M (kr + 1) (oZ Q noX) := by
  unfold T_L_law_2386 at h
  refine R_goto (pc := 2386) (tgt := 2534) d_L_law_2386 (by decide) ?_
  exact WP_sub (B_L_law_2534 Q κ28 hκ28 v1 v2 v3 v4 v5 M h) (by omega) (ls_s (ls_s (ls_s (ls_s (ls_s (ls_s (ls_n (ls_n (ls_n ls_0)))))))))
def T_L_law_2331 (κ28 : Nat → Nat → Nat → Nat → Int32 → Mem → Prop) (Q : Int32 → Mem → Prop) (sl : Nat) (xs : Nat → Int32) (v1 : Nat) (v2 : Nat) (v3 : Nat) (v4 : Nat) (v5 : Int32) (M : Mem) : Prop := (vp_in (v5 + 1) sl) ∧ T_L_feed (fun y3 M2 => (kd v2 = 7) ∧ T_X7_feed (fun y6 M5 => T_X7_thrown (fun y8 M7 => if y8 = y3 then (if y3 = 0 then ((kd v3 = 12) ∧ (vp_in 0 (ln v3)) ∧ if (lg_cmp (M7.2.1 (Int32.toNatClampNeg 0)) (Int32.toInt64 y6)) = 0 then (T_L_law_2386 κ28 Q sl xs v1 v2 v3 v4 v5 M7) else (((0 : Int32) = 0 ∨ (0 : Int32) = 1) ∧ Q 0 M7)) else (T_L_law_2386 κ28 Q sl xs v1 v2 v3 v4 v5 M7)) else (((0 : Int32) = 0 ∨ (0 : Int32) = 1) ∧ Q 0 M7))  v2 M5)  v2 (((Int32.toUInt32 (xs (Int32.toNatClampNeg (v5 + 1)))) % 65536).toInt32) M2)  v1 (((Int32.toUInt32 (xs (Int32.toNatClampNeg (v5 + 1)))) % 65536).toInt32) v3 M
set_option maxRecDepth 100000 in
set_option maxHeartbeats 4000000 in
theorem B_L_law_2331 {g : GG} {kr : Nat} (Q : Int32 → Mem → Prop) (κ28 : Nat → Nat → Nat → Nat → Int32 → Mem → Prop) (hκ28 : ∀ (v1 : Nat) (v2 : Nat) (v3 : Nat) (v4 : Nat) (v5 : Int32) (M : Mem), κ28 v1 v2 v3 v4 v5 M → WP g 20 mL_law 28 [some (.ref g.2.2.2.1), some (.ref (g.1 + v1)), some (.ref (g.1 + v2)), some (.ref (g.1 + v3)), some (.ref (g.1 + v4)), some (.int v5), none, none, none] [] M kr (oZ Q noX)) (v1 : Nat) (v2 : Nat) (v3 : Nat) (v4 : Nat) (v5 : Int32) (M : Mem) (h : T_L_law_2331 κ28 Q g.2.2.2.2.1 g.2.2.2.2.2 v1 v2 v3 v4 v5 M) : WP g 20 mL_law 2331 [some (.ref g.2.2.2.1), some (.ref (g.1 + v1)), some (.ref (g.1 + v2)), some (.ref (g.1 + v3)), some (.ref (g.1 + v4)), some (.int v5), none, none, none] [] M (kr + 2) (oZ Q noX) := by
  unfold T_L_law_2331 at h
  refine R_aload_n (pc := 2331) d_L_law_2331 rfl rfl ?_
  refine R_aload_n (pc := 2332) d_L_law_2332 rfl rfl ?_
  refine R_iload (pc := 2333) d_L_law_2333 rfl ?_
  refine R_iconst (pc := 2335) (v := 1) d_L_law_2335 (by decide) ?_
  refine R_iadd (pc := 2336) d_L_law_2336 ?_
  obtain ⟨k1, h⟩ := h
  refine R_sld (pc := 2337) k1 d_L_law_2337 ?_
  refine R_i2c (pc := 2338) d_L_law_2338 ?_
  refine R_aload_n (pc := 2339) d_L_law_2339 rfl rfl ?_
  refine R_callSW (pc := 2340) (As := [.ref (g.1 + v1), .int (((Int32.toUInt32 (xs (Int32.toNatClampNeg (v5 + 1)))) % 65536).toInt32), .ref (g.1 + v3)]) (rest := []) (c_L_feed (g := g) v1 (((Int32.toUInt32 (xs (Int32.toNatClampNeg (v5 + 1)))) % 65536).toInt32) v3 M _ h) rfl rfl cal_RL_234 sta_L_feed (by decide) (by omega) rfl rfl (Nat.le_of_ble_eq_true rfl) d_L_law_2340 (k_I (fun y3 M2 h => ?_)) (fun _ _ h9 => False.elim h9)
  try dsimp only at h
  refine R_istore (pc := 2343) (L' := [some (.ref g.2.2.2.1), some (.ref (g.1 + v1)), some (.ref (g.1 + v2)), some (.ref (g.1 + v3)), some (.ref (g.1 + v4)), some (.int v5), some (.int y3), none, none]) d_L_law_2343 (by decide) rfl ?_
  refine R_aload_n (pc := 2345) d_L_law_2345 rfl rfl ?_
  refine R_aload_n (pc := 2346) d_L_law_2346 rfl rfl ?_
  refine R_iload (pc := 2347) d_L_law_2347 rfl ?_
  refine R_iconst (pc := 2349) (v := 1) d_L_law_2349 (by decide) ?_
  refine R_iadd (pc := 2350) d_L_law_2350 ?_
  refine R_sld (pc := 2351) k1 d_L_law_2351 ?_
  refine R_i2c (pc := 2352) d_L_law_2352 ?_
  obtain ⟨k4, h⟩ := h
  refine R_callV (pc := 2353) (As := [.int (((Int32.toUInt32 (xs (Int32.toNatClampNeg (v5 + 1)))) % 65536).toInt32)]) (rest := []) (c_X7_feed (g := g) v2 (((Int32.toUInt32 (xs (Int32.toNatClampNeg (v5 + 1)))) % 65536).toInt32) M2 _ h) rfl rfl cal_RL_237 ins_X7_feed sel_X7_feed (cls_at k4 clsOK7) (by decide) (by omega) rfl rfl (Nat.le_of_ble_eq_true rfl) d_L_law_2353 (k_I (fun y6 M5 h => ?_)) (fun _ _ h9 => False.elim h9)
  try dsimp only at h
  refine R_istore (pc := 2356) (L' := [some (.ref g.2.2.2.1), some (.ref (g.1 + v1)), some (.ref (g.1 + v2)), some (.ref (g.1 + v3)), some (.ref (g.1 + v4)), some (.int v5), some (.int y3), some (.int y6), none]) d_L_law_2356 (by decide) rfl ?_
  refine R_aload_n (pc := 2358) d_L_law_2358 rfl rfl ?_
  refine R_callV (pc := 2359) (As := []) (rest := []) (c_X7_thrown (g := g) v2 M5 _ h) rfl rfl cal_RL_140 ins_X7_thrown sel_X7_thrown (cls_at k4 clsOK7) (by decide) (by omega) rfl rfl (Nat.le_of_ble_eq_true rfl) d_L_law_2359 (k_I (fun y8 M7 h => ?_)) (fun _ _ h9 => False.elim h9)
  try dsimp only at h
  refine R_iload (pc := 2362) d_L_law_2362 rfl ?_
  refine R_icmp_eq (pc := 2364) (tgt := 2369) d_L_law_2364 (by decide) (fun c => ?_) (fun c => ?_)
  · rw [if_pos c] at h
    refine R_iload (pc := 2369) d_L_law_2369 rfl ?_
    refine R_if_ne (pc := 2371) (tgt := 2386) d_L_law_2371 (by decide) (fun c => ?_) (fun c => ?_)
    · rw [if_neg c] at h
      exact WP_sub (B_L_law_2386 Q κ28 hκ28 v1 v2 v3 v4 v5 M7 h) (by omega) (ls_s (ls_s (ls_s (ls_s (ls_s (ls_s (ls_n (ls_n (ls_n ls_0)))))))))
    · rw [if_pos c] at h
      refine R_aload_n (pc := 2374) d_L_law_2374 rfl rfl ?_
      refine R_iconst (pc := 2375) (v := 0) d_L_law_2375 (by decide) ?_
      obtain ⟨k9, h⟩ := h
      obtain ⟨k10, h⟩ := h
      refine R_lald (pc := 2376) k9 k10 d_L_law_2376 ?_
      refine R_iload (pc := 2377) d_L_law_2377 rfl ?_
      refine R_i2l (pc := 2379) d_L_law_2379 ?_
      refine R_lcmp (pc := 2380) d_L_law_2380 ?_
      refine R_if_eq (pc := 2381) (tgt := 2386) d_L_law_2381 (by decide) (fun c => ?_) (fun c => ?_)
      · rw [if_pos c] at h
        exact WP_sub (B_L_law_2386 Q κ28 hκ28 v1 v2 v3 v4 v5 M7 h) (by omega) (ls_s (ls_s (ls_s (ls_s (ls_s (ls_s (ls_n (ls_n (ls_n ls_0)))))))))
      · rw [if_neg c] at h
        refine R_iconst (pc := 2384) (v := 0) d_L_law_2384 (by decide) ?_
        exact R_retv (pc := 2385) d_L_law_2385 h
  · rw [if_neg c] at h
    refine R_iconst (pc := 2367) (v := 0) d_L_law_2367 (by decide) ?_
    exact R_retv (pc := 2368) d_L_law_2368 h
def T_L_law_2328 (κ28 : Nat → Nat → Nat → Nat → Int32 → Mem → Prop) (Q : Int32 → Mem → Prop) (sl : Nat) (xs : Nat → Int32) (v1 : Nat) (v2 : Nat) (v3 : Nat) (v4 : Nat) (v5 : Int32) (M : Mem) : Prop := T_L_law_2534 κ28 Q sl xs v1 v2 v3 v4 v5 M
set_option maxRecDepth 100000 in
set_option maxHeartbeats 4000000 in
theorem B_L_law_2328 {g : GG} {kr : Nat} (Q : Int32 → Mem → Prop) (κ28 : Nat → Nat → Nat → Nat → Int32 → Mem → Prop) (hκ28 : ∀ (v1 : Nat) (v2 : Nat) (v3 : Nat) (v4 : Nat) (v5 : Int32) (M : Mem), κ28 v1 v2 v3 v4 v5 M → WP g 20 mL_law 28 [some (.ref g.2.2.2.1), some (.ref (g.1 + v1)), some (.ref (g.1 + v2)), some (.ref (g.1 + v3)), some (.ref (g.1 + v4)), some (.int v5), none, none, none] [] M kr (oZ Q noX)) (v1 : Nat) (v2 : Nat) (v3 : Nat) (v4 : Nat) (v5 : Int32) (M : Mem) (h : T_L_law_2328 κ28 Q g.2.2.2.2.1 g.2.2.2.2.2 v1 v2 v3 v4 v5 M) : WP g 20 mL_law 2328 [some (.ref g.2.2.2.1), some (.ref (g.1 + v1)), some (.ref (g.1 + v2)), some (.ref (g.1 + v3)), some (.ref (g.1 + v4)), some (.int v5), none, none, none] [] M (kr + 1) (oZ Q noX) := by
  unfold T_L_law_2328 at h
  refine R_goto (pc := 2328) (tgt := 2534) d_L_law_2328 (by decide) ?_
  exact WP_sub (B_L_law_2534 Q κ28 hκ28 v1 v2 v3 v4 v5 M h) (by omega) (ls_s (ls_s (ls_s (ls_s (ls_s (ls_s (ls_n (ls_n (ls_n ls_0)))))))))
def T_L_law_2326 (κ28 : Nat → Nat → Nat → Nat → Int32 → Mem → Prop) (Q : Int32 → Mem → Prop) (sl : Nat) (xs : Nat → Int32) (M : Mem) : Prop := ((0 : Int32) = 0 ∨ (0 : Int32) = 1) ∧ Q 0 M
set_option maxRecDepth 100000 in
set_option maxHeartbeats 4000000 in
theorem B_L_law_2326 {g : GG} {kr : Nat} (Q : Int32 → Mem → Prop) (κ28 : Nat → Nat → Nat → Nat → Int32 → Mem → Prop) (hκ28 : ∀ (v1 : Nat) (v2 : Nat) (v3 : Nat) (v4 : Nat) (v5 : Int32) (M : Mem), κ28 v1 v2 v3 v4 v5 M → WP g 20 mL_law 28 [some (.ref g.2.2.2.1), some (.ref (g.1 + v1)), some (.ref (g.1 + v2)), some (.ref (g.1 + v3)), some (.ref (g.1 + v4)), some (.int v5), none, none, none] [] M kr (oZ Q noX)) (M : Mem) (h : T_L_law_2326 κ28 Q g.2.2.2.2.1 g.2.2.2.2.2  M) : WP g 20 mL_law 2326 [none, none, none, none, none, none, none, none, none] [] M (kr + 1) (oZ Q noX) := by
  unfold T_L_law_2326 at h
  refine R_iconst (pc := 2326) (v := 0) d_L_law_2326 (by decide) ?_
  exact R_retv (pc := 2327) d_L_law_2327 h
def T_L_law_2253 (κ28 : Nat → Nat → Nat → Nat → Int32 → Mem → Prop) (Q : Int32 → Mem → Prop) (sl : Nat) (xs : Nat → Int32) (v1 : Nat) (v2 : Nat) (v3 : Nat) (v4 : Nat) (v5 : Int32) (M : Mem) : Prop := (vp_in (v5 + 1) sl) ∧ T_L_use (fun y3 M2 => (kd v2 = 7) ∧ T_X7_use (fun y6 M5 => T_X7_thrown (fun y8 M7 => if y8 = y3 then (if y3 = 0 then ((kd v4 = 13) ∧ (vp_in 0 (ln v4)) ∧ (vf_n64 (FP.f2d y6)) ∧ if (Op.cmpValue (FP.dcmp (M7.2.2 (Int32.toNatClampNeg 0)) (FP.f2d y6)) .l) = 0 then (T_L_law_2328 κ28 Q sl xs v1 v2 v3 v4 v5 M7) else (if (Op.cmpValue (FP.dcmp (M7.2.2 (Int32.toNatClampNeg 0)) (M7.2.2 (Int32.toNatClampNeg 0))) .l) = 0 then (T_L_law_2326 κ28 Q sl xs M7) else (if (Op.cmpValue (FP.fcmp y6 y6) .l) = 0 then (T_L_law_2326 κ28 Q sl xs M7) else (T_L_law_2328 κ28 Q sl xs v1 v2 v3 v4 v5 M7)))) else (T_L_law_2328 κ28 Q sl xs v1 v2 v3 v4 v5 M7)) else (((0 : Int32) = 0 ∨ (0 : Int32) = 1) ∧ Q 0 M7))  v2 M5)  v2 (xs (Int32.toNatClampNeg (v5 + 1))) M2)  v1 (xs (Int32.toNatClampNeg (v5 + 1))) v4 M
set_option maxRecDepth 100000 in
set_option maxHeartbeats 4000000 in
theorem B_L_law_2253 {g : GG} {kr : Nat} (Q : Int32 → Mem → Prop) (κ28 : Nat → Nat → Nat → Nat → Int32 → Mem → Prop) (hκ28 : ∀ (v1 : Nat) (v2 : Nat) (v3 : Nat) (v4 : Nat) (v5 : Int32) (M : Mem), κ28 v1 v2 v3 v4 v5 M → WP g 20 mL_law 28 [some (.ref g.2.2.2.1), some (.ref (g.1 + v1)), some (.ref (g.1 + v2)), some (.ref (g.1 + v3)), some (.ref (g.1 + v4)), some (.int v5), none, none, none] [] M kr (oZ Q noX)) (v1 : Nat) (v2 : Nat) (v3 : Nat) (v4 : Nat) (v5 : Int32) (M : Mem) (h : T_L_law_2253 κ28 Q g.2.2.2.2.1 g.2.2.2.2.2 v1 v2 v3 v4 v5 M) : WP g 20 mL_law 2253 [some (.ref g.2.2.2.1), some (.ref (g.1 + v1)), some (.ref (g.1 + v2)), some (.ref (g.1 + v3)), some (.ref (g.1 + v4)), some (.int v5), none, none, none] [] M (kr + 2) (oZ Q noX) := by
  unfold T_L_law_2253 at h
  refine R_aload_n (pc := 2253) d_L_law_2253 rfl rfl ?_
  refine R_aload_n (pc := 2254) d_L_law_2254 rfl rfl ?_
  refine R_iload (pc := 2255) d_L_law_2255 rfl ?_
  refine R_iconst (pc := 2257) (v := 1) d_L_law_2257 (by decide) ?_
  refine R_iadd (pc := 2258) d_L_law_2258 ?_
  obtain ⟨k1, h⟩ := h
  refine R_sld (pc := 2259) k1 d_L_law_2259 ?_
  refine R_aload (pc := 2260) d_L_law_2260 rfl ?_
  refine R_callSW (pc := 2262) (As := [.ref (g.1 + v1), .int (xs (Int32.toNatClampNeg (v5 + 1))), .ref (g.1 + v4)]) (rest := []) (c_L_use (g := g) v1 (xs (Int32.toNatClampNeg (v5 + 1))) v4 M _ h) rfl rfl cal_RL_230 sta_L_use (by decide) (by omega) rfl rfl (Nat.le_of_ble_eq_true rfl) d_L_law_2262 (k_I (fun y3 M2 h => ?_)) (fun _ _ h9 => False.elim h9)
  try dsimp only at h
  refine R_istore (pc := 2265) (L' := [some (.ref g.2.2.2.1), some (.ref (g.1 + v1)), some (.ref (g.1 + v2)), some (.ref (g.1 + v3)), some (.ref (g.1 + v4)), some (.int v5), some (.int y3), none, none]) d_L_law_2265 (by decide) rfl ?_
  refine R_aload_n (pc := 2267) d_L_law_2267 rfl rfl ?_
  refine R_aload_n (pc := 2268) d_L_law_2268 rfl rfl ?_
  refine R_iload (pc := 2269) d_L_law_2269 rfl ?_
  refine R_iconst (pc := 2271) (v := 1) d_L_law_2271 (by decide) ?_
  refine R_iadd (pc := 2272) d_L_law_2272 ?_
  refine R_sld (pc := 2273) k1 d_L_law_2273 ?_
  obtain ⟨k4, h⟩ := h
  refine R_callV (pc := 2274) (As := [.int (xs (Int32.toNatClampNeg (v5 + 1)))]) (rest := []) (c_X7_use (g := g) v2 (xs (Int32.toNatClampNeg (v5 + 1))) M2 _ h) rfl rfl cal_RL_233 ins_X7_use sel_X7_use (cls_at k4 clsOK7) (by decide) (by omega) rfl rfl (Nat.le_of_ble_eq_true rfl) d_L_law_2274 (k_F (fun y6 M5 h => ?_)) (fun _ _ h9 => False.elim h9)
  try dsimp only at h
  refine R_fstore (pc := 2277) (L' := [some (.ref g.2.2.2.1), some (.ref (g.1 + v1)), some (.ref (g.1 + v2)), some (.ref (g.1 + v3)), some (.ref (g.1 + v4)), some (.int v5), some (.int y3), some (.float y6), none]) d_L_law_2277 (by decide) rfl ?_
  refine R_aload_n (pc := 2279) d_L_law_2279 rfl rfl ?_
  refine R_callV (pc := 2280) (As := []) (rest := []) (c_X7_thrown (g := g) v2 M5 _ h) rfl rfl cal_RL_140 ins_X7_thrown sel_X7_thrown (cls_at k4 clsOK7) (by decide) (by omega) rfl rfl (Nat.le_of_ble_eq_true rfl) d_L_law_2280 (k_I (fun y8 M7 h => ?_)) (fun _ _ h9 => False.elim h9)
  try dsimp only at h
  refine R_iload (pc := 2283) d_L_law_2283 rfl ?_
  refine R_icmp_eq (pc := 2285) (tgt := 2290) d_L_law_2285 (by decide) (fun c => ?_) (fun c => ?_)
  · rw [if_pos c] at h
    refine R_iload (pc := 2290) d_L_law_2290 rfl ?_
    refine R_if_ne (pc := 2292) (tgt := 2328) d_L_law_2292 (by decide) (fun c => ?_) (fun c => ?_)
    · rw [if_neg c] at h
      exact WP_sub (B_L_law_2328 Q κ28 hκ28 v1 v2 v3 v4 v5 M7 h) (by omega) (ls_s (ls_s (ls_s (ls_s (ls_s (ls_s (ls_n (ls_n (ls_n ls_0)))))))))
    · rw [if_pos c] at h
      refine R_aload (pc := 2295) d_L_law_2295 rfl ?_
      refine R_iconst (pc := 2297) (v := 0) d_L_law_2297 (by decide) ?_
      obtain ⟨k9, h⟩ := h
      obtain ⟨k10, h⟩ := h
      refine R_dald (pc := 2298) k9 k10 d_L_law_2298 ?_
      refine R_fload (pc := 2299) d_L_law_2299 rfl ?_
      obtain ⟨k11, h⟩ := h
      refine R_f2d (pc := 2301) d_L_law_2301 k11 ?_
      refine R_dcmp (pc := 2302) d_L_law_2302 ?_
      refine R_if_eq (pc := 2303) (tgt := 2328) d_L_law_2303 (by decide) (fun c => ?_) (fun c => ?_)
      · rw [if_pos c] at h
        exact WP_sub (B_L_law_2328 Q κ28 hκ28 v1 v2 v3 v4 v5 M7 h) (by omega) (ls_s (ls_s (ls_s (ls_s (ls_s (ls_s (ls_n (ls_n (ls_n ls_0)))))))))
      · rw [if_neg c] at h
        refine R_aload (pc := 2306) d_L_law_2306 rfl ?_
        refine R_iconst (pc := 2308) (v := 0) d_L_law_2308 (by decide) ?_
        refine R_dald (pc := 2309) k9 k10 d_L_law_2309 ?_
        refine R_aload (pc := 2310) d_L_law_2310 rfl ?_
        refine R_iconst (pc := 2312) (v := 0) d_L_law_2312 (by decide) ?_
        refine R_dald (pc := 2313) k9 k10 d_L_law_2313 ?_
        refine R_dcmp (pc := 2314) d_L_law_2314 ?_
        refine R_if_eq (pc := 2315) (tgt := 2326) d_L_law_2315 (by decide) (fun c => ?_) (fun c => ?_)
        · rw [if_pos c] at h
          exact WP_sub (B_L_law_2326 Q κ28 hκ28 M7 h) (by omega) (ls_n (ls_n (ls_n (ls_n (ls_n (ls_n (ls_n (ls_n (ls_n ls_0)))))))))
        · rw [if_neg c] at h
          refine R_fload (pc := 2318) d_L_law_2318 rfl ?_
          refine R_fload (pc := 2320) d_L_law_2320 rfl ?_
          refine R_fcmp (pc := 2322) d_L_law_2322 ?_
          refine R_if_ne (pc := 2323) (tgt := 2328) d_L_law_2323 (by decide) (fun c => ?_) (fun c => ?_)
          · rw [if_neg c] at h
            exact WP_sub (B_L_law_2328 Q κ28 hκ28 v1 v2 v3 v4 v5 M7 h) (by omega) (ls_s (ls_s (ls_s (ls_s (ls_s (ls_s (ls_n (ls_n (ls_n ls_0)))))))))
          · rw [if_pos c] at h
            exact WP_sub (B_L_law_2326 Q κ28 hκ28 M7 h) (by omega) (ls_n (ls_n (ls_n (ls_n (ls_n (ls_n (ls_n (ls_n (ls_n ls_0)))))))))
  · rw [if_neg c] at h
    refine R_iconst (pc := 2288) (v := 0) d_L_law_2288 (by decide) ?_
    exact R_retv (pc := 2289) d_L_law_2289 h
def T_L_law_2250 (κ28 : Nat → Nat → Nat → Nat → Int32 → Mem → Prop) (Q : Int32 → Mem → Prop) (sl : Nat) (xs : Nat → Int32) (v1 : Nat) (v2 : Nat) (v3 : Nat) (v4 : Nat) (v5 : Int32) (M : Mem) : Prop := T_L_law_2534 κ28 Q sl xs v1 v2 v3 v4 v5 M
set_option maxRecDepth 100000 in
set_option maxHeartbeats 4000000 in
theorem B_L_law_2250 {g : GG} {kr : Nat} (Q : Int32 → Mem → Prop) (κ28 : Nat → Nat → Nat → Nat → Int32 → Mem → Prop) (hκ28 : ∀ (v1 : Nat) (v2 : Nat) (v3 : Nat) (v4 : Nat) (v5 : Int32) (M : Mem), κ28 v1 v2 v3 v4 v5 M → WP g 20 mL_law 28 [some (.ref g.2.2.2.1), some (.ref (g.1 + v1)), some (.ref (g.1 + v2)), some (.ref (g.1 + v3)), some (.ref (g.1 + v4)), some (.int v5), none, none, none] [] M kr (oZ Q noX)) (v1 : Nat) (v2 : Nat) (v3 : Nat) (v4 : Nat) (v5 : Int32) (M : Mem) (h : T_L_law_2250 κ28 Q g.2.2.2.2.1 g.2.2.2.2.2 v1 v2 v3 v4 v5 M) : WP g 20 mL_law 2250 [some (.ref g.2.2.2.1), some (.ref (g.1 + v1)), some (.ref (g.1 + v2)), some (.ref (g.1 + v3)), some (.ref (g.1 + v4)), some (.int v5), none, none, none] [] M (kr + 1) (oZ Q noX) := by
  unfold T_L_law_2250 at h
  refine R_goto (pc := 2250) (tgt := 2534) d_L_law_2250 (by decide) ?_
  exact WP_sub (B_L_law_2534 Q κ28 hκ28 v1 v2 v3 v4 v5 M h) (by omega) (ls_s (ls_s (ls_s (ls_s (ls_s (ls_s (ls_n (ls_n (ls_n ls_0)))))))))
def T_L_law_2248 (κ28 : Nat → Nat → Nat → Nat → Int32 → Mem → Prop) (Q : Int32 → Mem → Prop) (sl : Nat) (xs : Nat → Int32) (M : Mem) : Prop := ((0 : Int32) = 0 ∨ (0 : Int32) = 1) ∧ Q 0 M
set_option maxRecDepth 100000 in
set_option maxHeartbeats 4000000 in
theorem B_L_law_2248 {g : GG} {kr : Nat} (Q : Int32 → Mem → Prop) (κ28 : Nat → Nat → Nat → Nat → Int32 → Mem → Prop) (hκ28 : ∀ (v1 : Nat) (v2 : Nat) (v3 : Nat) (v4 : Nat) (v5 : Int32) (M : Mem), κ28 v1 v2 v3 v4 v5 M → WP g 20 mL_law 28 [some (.ref g.2.2.2.1), some (.ref (g.1 + v1)), some (.ref (g.1 + v2)), some (.ref (g.1 + v3)), some (.ref (g.1 + v4)), some (.int v5), none, none, none] [] M kr (oZ Q noX)) (M : Mem) (h : T_L_law_2248 κ28 Q g.2.2.2.2.1 g.2.2.2.2.2  M) : WP g 20 mL_law 2248 [none, none, none, none, none, none, none, none, none] [] M (kr + 1) (oZ Q noX) := by
  unfold T_L_law_2248 at h
  refine R_iconst (pc := 2248) (v := 0) d_L_law_2248 (by decide) ?_
  exact R_retv (pc := 2249) d_L_law_2249 h
def T_L_law_2188 (κ28 : Nat → Nat → Nat → Nat → Int32 → Mem → Prop) (Q : Int32 → Mem → Prop) (sl : Nat) (xs : Nat → Int32) (v1 : Nat) (v2 : Nat) (v3 : Nat) (v4 : Nat) (v5 : Int32) (M : Mem) : Prop := T_L_meanDistance (fun y2 M1 => (kd v2 = 7) ∧ T_X7_meanDistance (fun y5 M4 => T_X7_thrown (fun y7 M6 => if y7 = y2 then (if y2 = 0 then ((kd v4 = 13) ∧ (vp_in 0 (ln v4)) ∧ if (Op.cmpValue (FP.dcmp (M6.2.2 (Int32.toNatClampNeg 0)) y5) .l) = 0 then (T_L_law_2250 κ28 Q sl xs v1 v2 v3 v4 v5 M6) else (if (Op.cmpValue (FP.dcmp (M6.2.2 (Int32.toNatClampNeg 0)) (M6.2.2 (Int32.toNatClampNeg 0))) .l) = 0 then (T_L_law_2248 κ28 Q sl xs M6) else (if (Op.cmpValue (FP.dcmp y5 y5) .l) = 0 then (T_L_law_2248 κ28 Q sl xs M6) else (T_L_law_2250 κ28 Q sl xs v1 v2 v3 v4 v5 M6)))) else (T_L_law_2250 κ28 Q sl xs v1 v2 v3 v4 v5 M6)) else (((0 : Int32) = 0 ∨ (0 : Int32) = 1) ∧ Q 0 M6))  v2 M4)  v2 M1)  v1 v4 M
set_option maxRecDepth 100000 in
set_option maxHeartbeats 4000000 in
theorem B_L_law_2188 {g : GG} {kr : Nat} (Q : Int32 → Mem → Prop) (κ28 : Nat → Nat → Nat → Nat → Int32 → Mem → Prop) (hκ28 : ∀ (v1 : Nat) (v2 : Nat) (v3 : Nat) (v4 : Nat) (v5 : Int32) (M : Mem), κ28 v1 v2 v3 v4 v5 M → WP g 20 mL_law 28 [some (.ref g.2.2.2.1), some (.ref (g.1 + v1)), some (.ref (g.1 + v2)), some (.ref (g.1 + v3)), some (.ref (g.1 + v4)), some (.int v5), none, none, none] [] M kr (oZ Q noX)) (v1 : Nat) (v2 : Nat) (v3 : Nat) (v4 : Nat) (v5 : Int32) (M : Mem) (h : T_L_law_2188 κ28 Q g.2.2.2.2.1 g.2.2.2.2.2 v1 v2 v3 v4 v5 M) : WP g 20 mL_law 2188 [some (.ref g.2.2.2.1), some (.ref (g.1 + v1)), some (.ref (g.1 + v2)), some (.ref (g.1 + v3)), some (.ref (g.1 + v4)), some (.int v5), none, none, none] [] M (kr + 2) (oZ Q noX) := by
  unfold T_L_law_2188 at h
  refine R_aload_n (pc := 2188) d_L_law_2188 rfl rfl ?_
  refine R_aload (pc := 2189) d_L_law_2189 rfl ?_
  refine R_callSW (pc := 2191) (As := [.ref (g.1 + v1), .ref (g.1 + v4)]) (rest := []) (c_L_meanDistance (g := g) v1 v4 M _ h) rfl rfl cal_RL_226 sta_L_meanDistance (by decide) (by omega) rfl rfl (Nat.le_of_ble_eq_true rfl) d_L_law_2191 (k_I (fun y2 M1 h => ?_)) (fun _ _ h9 => False.elim h9)
  try dsimp only at h
  refine R_istore (pc := 2194) (L' := [some (.ref g.2.2.2.1), some (.ref (g.1 + v1)), some (.ref (g.1 + v2)), some (.ref (g.1 + v3)), some (.ref (g.1 + v4)), some (.int v5), some (.int y2), none, none]) d_L_law_2194 (by decide) rfl ?_
  refine R_aload_n (pc := 2196) d_L_law_2196 rfl rfl ?_
  obtain ⟨k3, h⟩ := h
  refine R_callV (pc := 2197) (As := []) (rest := []) (c_X7_meanDistance (g := g) v2 M1 _ h) rfl rfl cal_RL_229 ins_X7_meanDistance sel_X7_meanDistance (cls_at k3 clsOK7) (by decide) (by omega) rfl rfl (Nat.le_of_ble_eq_true rfl) d_L_law_2197 (k_D (fun y5 M4 h => ?_)) (fun _ _ h9 => False.elim h9)
  try dsimp only at h
  refine R_dstore (pc := 2200) (L' := [some (.ref g.2.2.2.1), some (.ref (g.1 + v1)), some (.ref (g.1 + v2)), some (.ref (g.1 + v3)), some (.ref (g.1 + v4)), some (.int v5), some (.int y2), some (.double y5), none]) d_L_law_2200 (by decide) rfl ?_
  refine R_aload_n (pc := 2202) d_L_law_2202 rfl rfl ?_
  refine R_callV (pc := 2203) (As := []) (rest := []) (c_X7_thrown (g := g) v2 M4 _ h) rfl rfl cal_RL_140 ins_X7_thrown sel_X7_thrown (cls_at k3 clsOK7) (by decide) (by omega) rfl rfl (Nat.le_of_ble_eq_true rfl) d_L_law_2203 (k_I (fun y7 M6 h => ?_)) (fun _ _ h9 => False.elim h9)
  try dsimp only at h
  refine R_iload (pc := 2206) d_L_law_2206 rfl ?_
  refine R_icmp_eq (pc := 2208) (tgt := 2213) d_L_law_2208 (by decide) (fun c => ?_) (fun c => ?_)
  · rw [if_pos c] at h
    refine R_iload (pc := 2213) d_L_law_2213 rfl ?_
    refine R_if_ne (pc := 2215) (tgt := 2250) d_L_law_2215 (by decide) (fun c => ?_) (fun c => ?_)
    · rw [if_neg c] at h
      exact WP_sub (B_L_law_2250 Q κ28 hκ28 v1 v2 v3 v4 v5 M6 h) (by omega) (ls_s (ls_s (ls_s (ls_s (ls_s (ls_s (ls_n (ls_n (ls_n ls_0)))))))))
    · rw [if_pos c] at h
      refine R_aload (pc := 2218) d_L_law_2218 rfl ?_
      refine R_iconst (pc := 2220) (v := 0) d_L_law_2220 (by decide) ?_
      obtain ⟨k8, h⟩ := h
      obtain ⟨k9, h⟩ := h
      refine R_dald (pc := 2221) k8 k9 d_L_law_2221 ?_
      refine R_dload (pc := 2222) d_L_law_2222 rfl ?_
      refine R_dcmp (pc := 2224) d_L_law_2224 ?_
      refine R_if_eq (pc := 2225) (tgt := 2250) d_L_law_2225 (by decide) (fun c => ?_) (fun c => ?_)
      · rw [if_pos c] at h
        exact WP_sub (B_L_law_2250 Q κ28 hκ28 v1 v2 v3 v4 v5 M6 h) (by omega) (ls_s (ls_s (ls_s (ls_s (ls_s (ls_s (ls_n (ls_n (ls_n ls_0)))))))))
      · rw [if_neg c] at h
        refine R_aload (pc := 2228) d_L_law_2228 rfl ?_
        refine R_iconst (pc := 2230) (v := 0) d_L_law_2230 (by decide) ?_
        refine R_dald (pc := 2231) k8 k9 d_L_law_2231 ?_
        refine R_aload (pc := 2232) d_L_law_2232 rfl ?_
        refine R_iconst (pc := 2234) (v := 0) d_L_law_2234 (by decide) ?_
        refine R_dald (pc := 2235) k8 k9 d_L_law_2235 ?_
        refine R_dcmp (pc := 2236) d_L_law_2236 ?_
        refine R_if_eq (pc := 2237) (tgt := 2248) d_L_law_2237 (by decide) (fun c => ?_) (fun c => ?_)
        · rw [if_pos c] at h
          exact WP_sub (B_L_law_2248 Q κ28 hκ28 M6 h) (by omega) (ls_n (ls_n (ls_n (ls_n (ls_n (ls_n (ls_n (ls_n (ls_n ls_0)))))))))
        · rw [if_neg c] at h
          refine R_dload (pc := 2240) d_L_law_2240 rfl ?_
          refine R_dload (pc := 2242) d_L_law_2242 rfl ?_
          refine R_dcmp (pc := 2244) d_L_law_2244 ?_
          refine R_if_ne (pc := 2245) (tgt := 2250) d_L_law_2245 (by decide) (fun c => ?_) (fun c => ?_)
          · rw [if_neg c] at h
            exact WP_sub (B_L_law_2250 Q κ28 hκ28 v1 v2 v3 v4 v5 M6 h) (by omega) (ls_s (ls_s (ls_s (ls_s (ls_s (ls_s (ls_n (ls_n (ls_n ls_0)))))))))
          · rw [if_pos c] at h
            exact WP_sub (B_L_law_2248 Q κ28 hκ28 M6 h) (by omega) (ls_n (ls_n (ls_n (ls_n (ls_n (ls_n (ls_n (ls_n (ls_n ls_0)))))))))
  · rw [if_neg c] at h
    refine R_iconst (pc := 2211) (v := 0) d_L_law_2211 (by decide) ?_
    exact R_retv (pc := 2212) d_L_law_2212 h
def T_L_law_2185 (κ28 : Nat → Nat → Nat → Nat → Int32 → Mem → Prop) (Q : Int32 → Mem → Prop) (sl : Nat) (xs : Nat → Int32) (v1 : Nat) (v2 : Nat) (v3 : Nat) (v4 : Nat) (v5 : Int32) (M : Mem) : Prop := T_L_law_2534 κ28 Q sl xs v1 v2 v3 v4 v5 M
set_option maxRecDepth 100000 in
set_option maxHeartbeats 4000000 in
theorem B_L_law_2185 {g : GG} {kr : Nat} (Q : Int32 → Mem → Prop) (κ28 : Nat → Nat → Nat → Nat → Int32 → Mem → Prop) (hκ28 : ∀ (v1 : Nat) (v2 : Nat) (v3 : Nat) (v4 : Nat) (v5 : Int32) (M : Mem), κ28 v1 v2 v3 v4 v5 M → WP g 20 mL_law 28 [some (.ref g.2.2.2.1), some (.ref (g.1 + v1)), some (.ref (g.1 + v2)), some (.ref (g.1 + v3)), some (.ref (g.1 + v4)), some (.int v5), none, none, none] [] M kr (oZ Q noX)) (v1 : Nat) (v2 : Nat) (v3 : Nat) (v4 : Nat) (v5 : Int32) (M : Mem) (h : T_L_law_2185 κ28 Q g.2.2.2.2.1 g.2.2.2.2.2 v1 v2 v3 v4 v5 M) : WP g 20 mL_law 2185 [some (.ref g.2.2.2.1), some (.ref (g.1 + v1)), some (.ref (g.1 + v2)), some (.ref (g.1 + v3)), some (.ref (g.1 + v4)), some (.int v5), none, none, none] [] M (kr + 1) (oZ Q noX) := by
  unfold T_L_law_2185 at h
  refine R_goto (pc := 2185) (tgt := 2534) d_L_law_2185 (by decide) ?_
  exact WP_sub (B_L_law_2534 Q κ28 hκ28 v1 v2 v3 v4 v5 M h) (by omega) (ls_s (ls_s (ls_s (ls_s (ls_s (ls_s (ls_n (ls_n (ls_n ls_0)))))))))
def T_L_law_2132 (κ28 : Nat → Nat → Nat → Nat → Int32 → Mem → Prop) (Q : Int32 → Mem → Prop) (sl : Nat) (xs : Nat → Int32) (v1 : Nat) (v2 : Nat) (v3 : Nat) (v4 : Nat) (v5 : Int32) (M : Mem) : Prop := (vp_in (v5 + 1) sl) ∧ T_L_account (fun y3 M2 => (kd v2 = 7) ∧ T_X7_account (fun y6 M5 => T_X7_thrown (fun y8 M7 => if y8 = y3 then (if y3 = 0 then ((kd v3 = 12) ∧ (vp_in 0 (ln v3)) ∧ if (lg_cmp (M7.2.1 (Int32.toNatClampNeg 0)) (Int32.toInt64 y6)) = 0 then (T_L_law_2185 κ28 Q sl xs v1 v2 v3 v4 v5 M7) else (((0 : Int32) = 0 ∨ (0 : Int32) = 1) ∧ Q 0 M7)) else (T_L_law_2185 κ28 Q sl xs v1 v2 v3 v4 v5 M7)) else (((0 : Int32) = 0 ∨ (0 : Int32) = 1) ∧ Q 0 M7))  v2 M5)  v2 (xs (Int32.toNatClampNeg (v5 + 1))) M2)  v1 (xs (Int32.toNatClampNeg (v5 + 1))) v3 M
set_option maxRecDepth 100000 in
set_option maxHeartbeats 4000000 in
theorem B_L_law_2132 {g : GG} {kr : Nat} (Q : Int32 → Mem → Prop) (κ28 : Nat → Nat → Nat → Nat → Int32 → Mem → Prop) (hκ28 : ∀ (v1 : Nat) (v2 : Nat) (v3 : Nat) (v4 : Nat) (v5 : Int32) (M : Mem), κ28 v1 v2 v3 v4 v5 M → WP g 20 mL_law 28 [some (.ref g.2.2.2.1), some (.ref (g.1 + v1)), some (.ref (g.1 + v2)), some (.ref (g.1 + v3)), some (.ref (g.1 + v4)), some (.int v5), none, none, none] [] M kr (oZ Q noX)) (v1 : Nat) (v2 : Nat) (v3 : Nat) (v4 : Nat) (v5 : Int32) (M : Mem) (h : T_L_law_2132 κ28 Q g.2.2.2.2.1 g.2.2.2.2.2 v1 v2 v3 v4 v5 M) : WP g 20 mL_law 2132 [some (.ref g.2.2.2.1), some (.ref (g.1 + v1)), some (.ref (g.1 + v2)), some (.ref (g.1 + v3)), some (.ref (g.1 + v4)), some (.int v5), none, none, none] [] M (kr + 2) (oZ Q noX) := by
  unfold T_L_law_2132 at h
  refine R_aload_n (pc := 2132) d_L_law_2132 rfl rfl ?_
  refine R_aload_n (pc := 2133) d_L_law_2133 rfl rfl ?_
  refine R_iload (pc := 2134) d_L_law_2134 rfl ?_
  refine R_iconst (pc := 2136) (v := 1) d_L_law_2136 (by decide) ?_
  refine R_iadd (pc := 2137) d_L_law_2137 ?_
  obtain ⟨k1, h⟩ := h
  refine R_sld (pc := 2138) k1 d_L_law_2138 ?_
  refine R_aload_n (pc := 2139) d_L_law_2139 rfl rfl ?_
  refine R_callSW (pc := 2140) (As := [.ref (g.1 + v1), .int (xs (Int32.toNatClampNeg (v5 + 1))), .ref (g.1 + v3)]) (rest := []) (c_L_account (g := g) v1 (xs (Int32.toNatClampNeg (v5 + 1))) v3 M _ h) rfl rfl cal_RL_223 sta_L_account (by decide) (by omega) rfl rfl (Nat.le_of_ble_eq_true rfl) d_L_law_2140 (k_I (fun y3 M2 h => ?_)) (fun _ _ h9 => False.elim h9)
  try dsimp only at h
  refine R_istore (pc := 2143) (L' := [some (.ref g.2.2.2.1), some (.ref (g.1 + v1)), some (.ref (g.1 + v2)), some (.ref (g.1 + v3)), some (.ref (g.1 + v4)), some (.int v5), some (.int y3), none, none]) d_L_law_2143 (by decide) rfl ?_
  refine R_aload_n (pc := 2145) d_L_law_2145 rfl rfl ?_
  refine R_aload_n (pc := 2146) d_L_law_2146 rfl rfl ?_
  refine R_iload (pc := 2147) d_L_law_2147 rfl ?_
  refine R_iconst (pc := 2149) (v := 1) d_L_law_2149 (by decide) ?_
  refine R_iadd (pc := 2150) d_L_law_2150 ?_
  refine R_sld (pc := 2151) k1 d_L_law_2151 ?_
  obtain ⟨k4, h⟩ := h
  refine R_callV (pc := 2152) (As := [.int (xs (Int32.toNatClampNeg (v5 + 1)))]) (rest := []) (c_X7_account (g := g) v2 (xs (Int32.toNatClampNeg (v5 + 1))) M2 _ h) rfl rfl cal_RL_225 ins_X7_account sel_X7_account (cls_at k4 clsOK7) (by decide) (by omega) rfl rfl (Nat.le_of_ble_eq_true rfl) d_L_law_2152 (k_I (fun y6 M5 h => ?_)) (fun _ _ h9 => False.elim h9)
  try dsimp only at h
  refine R_istore (pc := 2155) (L' := [some (.ref g.2.2.2.1), some (.ref (g.1 + v1)), some (.ref (g.1 + v2)), some (.ref (g.1 + v3)), some (.ref (g.1 + v4)), some (.int v5), some (.int y3), some (.int y6), none]) d_L_law_2155 (by decide) rfl ?_
  refine R_aload_n (pc := 2157) d_L_law_2157 rfl rfl ?_
  refine R_callV (pc := 2158) (As := []) (rest := []) (c_X7_thrown (g := g) v2 M5 _ h) rfl rfl cal_RL_140 ins_X7_thrown sel_X7_thrown (cls_at k4 clsOK7) (by decide) (by omega) rfl rfl (Nat.le_of_ble_eq_true rfl) d_L_law_2158 (k_I (fun y8 M7 h => ?_)) (fun _ _ h9 => False.elim h9)
  try dsimp only at h
  refine R_iload (pc := 2161) d_L_law_2161 rfl ?_
  refine R_icmp_eq (pc := 2163) (tgt := 2168) d_L_law_2163 (by decide) (fun c => ?_) (fun c => ?_)
  · rw [if_pos c] at h
    refine R_iload (pc := 2168) d_L_law_2168 rfl ?_
    refine R_if_ne (pc := 2170) (tgt := 2185) d_L_law_2170 (by decide) (fun c => ?_) (fun c => ?_)
    · rw [if_neg c] at h
      exact WP_sub (B_L_law_2185 Q κ28 hκ28 v1 v2 v3 v4 v5 M7 h) (by omega) (ls_s (ls_s (ls_s (ls_s (ls_s (ls_s (ls_n (ls_n (ls_n ls_0)))))))))
    · rw [if_pos c] at h
      refine R_aload_n (pc := 2173) d_L_law_2173 rfl rfl ?_
      refine R_iconst (pc := 2174) (v := 0) d_L_law_2174 (by decide) ?_
      obtain ⟨k9, h⟩ := h
      obtain ⟨k10, h⟩ := h
      refine R_lald (pc := 2175) k9 k10 d_L_law_2175 ?_
      refine R_iload (pc := 2176) d_L_law_2176 rfl ?_
      refine R_i2l (pc := 2178) d_L_law_2178 ?_
      refine R_lcmp (pc := 2179) d_L_law_2179 ?_
      refine R_if_eq (pc := 2180) (tgt := 2185) d_L_law_2180 (by decide) (fun c => ?_) (fun c => ?_)
      · rw [if_pos c] at h
        exact WP_sub (B_L_law_2185 Q κ28 hκ28 v1 v2 v3 v4 v5 M7 h) (by omega) (ls_s (ls_s (ls_s (ls_s (ls_s (ls_s (ls_n (ls_n (ls_n ls_0)))))))))
      · rw [if_neg c] at h
        refine R_iconst (pc := 2183) (v := 0) d_L_law_2183 (by decide) ?_
        exact R_retv (pc := 2184) d_L_law_2184 h
  · rw [if_neg c] at h
    refine R_iconst (pc := 2166) (v := 0) d_L_law_2166 (by decide) ?_
    exact R_retv (pc := 2167) d_L_law_2167 h
def T_L_law_2129 (κ28 : Nat → Nat → Nat → Nat → Int32 → Mem → Prop) (Q : Int32 → Mem → Prop) (sl : Nat) (xs : Nat → Int32) (v1 : Nat) (v2 : Nat) (v3 : Nat) (v4 : Nat) (v5 : Int32) (M : Mem) : Prop := T_L_law_2534 κ28 Q sl xs v1 v2 v3 v4 v5 M
set_option maxRecDepth 100000 in
set_option maxHeartbeats 4000000 in
theorem B_L_law_2129 {g : GG} {kr : Nat} (Q : Int32 → Mem → Prop) (κ28 : Nat → Nat → Nat → Nat → Int32 → Mem → Prop) (hκ28 : ∀ (v1 : Nat) (v2 : Nat) (v3 : Nat) (v4 : Nat) (v5 : Int32) (M : Mem), κ28 v1 v2 v3 v4 v5 M → WP g 20 mL_law 28 [some (.ref g.2.2.2.1), some (.ref (g.1 + v1)), some (.ref (g.1 + v2)), some (.ref (g.1 + v3)), some (.ref (g.1 + v4)), some (.int v5), none, none, none] [] M kr (oZ Q noX)) (v1 : Nat) (v2 : Nat) (v3 : Nat) (v4 : Nat) (v5 : Int32) (M : Mem) (h : T_L_law_2129 κ28 Q g.2.2.2.2.1 g.2.2.2.2.2 v1 v2 v3 v4 v5 M) : WP g 20 mL_law 2129 [some (.ref g.2.2.2.1), some (.ref (g.1 + v1)), some (.ref (g.1 + v2)), some (.ref (g.1 + v3)), some (.ref (g.1 + v4)), some (.int v5), none, none, none] [] M (kr + 1) (oZ Q noX) := by
  unfold T_L_law_2129 at h
  refine R_goto (pc := 2129) (tgt := 2534) d_L_law_2129 (by decide) ?_
  exact WP_sub (B_L_law_2534 Q κ28 hκ28 v1 v2 v3 v4 v5 M h) (by omega) (ls_s (ls_s (ls_s (ls_s (ls_s (ls_s (ls_n (ls_n (ls_n ls_0)))))))))
def T_L_law_2096 (κ28 : Nat → Nat → Nat → Nat → Int32 → Mem → Prop) (Q : Int32 → Mem → Prop) (sl : Nat) (xs : Nat → Int32) (v1 : Nat) (v2 : Nat) (v3 : Nat) (v4 : Nat) (v5 : Int32) (v6 : Int32) (s0 : Int32) (s1 : Int32) (s2 : Nat) (M : Mem) : Prop := (kd s2 = 7) ∧ T_X7_report (fun y3 M2 => (kd v2 = 7) ∧ T_X7_thrown (fun y6 M5 => if y6 = v6 then (if v6 = 0 then ((kd v3 = 12) ∧ (vp_in 0 (ln v3)) ∧ if (lg_cmp (M5.2.1 (Int32.toNatClampNeg 0)) (Int32.toInt64 y3)) = 0 then (T_L_law_2129 κ28 Q sl xs v1 v2 v3 v4 v5 M5) else (((0 : Int32) = 0 ∨ (0 : Int32) = 1) ∧ Q 0 M5)) else (T_L_law_2129 κ28 Q sl xs v1 v2 v3 v4 v5 M5)) else (((0 : Int32) = 0 ∨ (0 : Int32) = 1) ∧ Q 0 M5))  v2 M2)  s2 s1 s0 M
set_option maxRecDepth 100000 in
set_option maxHeartbeats 4000000 in
theorem B_L_law_2096 {g : GG} {kr : Nat} (Q : Int32 → Mem → Prop) (κ28 : Nat → Nat → Nat → Nat → Int32 → Mem → Prop) (hκ28 : ∀ (v1 : Nat) (v2 : Nat) (v3 : Nat) (v4 : Nat) (v5 : Int32) (M : Mem), κ28 v1 v2 v3 v4 v5 M → WP g 20 mL_law 28 [some (.ref g.2.2.2.1), some (.ref (g.1 + v1)), some (.ref (g.1 + v2)), some (.ref (g.1 + v3)), some (.ref (g.1 + v4)), some (.int v5), none, none, none] [] M kr (oZ Q noX)) (v1 : Nat) (v2 : Nat) (v3 : Nat) (v4 : Nat) (v5 : Int32) (v6 : Int32) (s0 : Int32) (s1 : Int32) (s2 : Nat) (M : Mem) (h : T_L_law_2096 κ28 Q g.2.2.2.2.1 g.2.2.2.2.2 v1 v2 v3 v4 v5 v6 s0 s1 s2 M) : WP g 20 mL_law 2096 [some (.ref g.2.2.2.1), some (.ref (g.1 + v1)), some (.ref (g.1 + v2)), some (.ref (g.1 + v3)), some (.ref (g.1 + v4)), some (.int v5), some (.int v6), none, none] [.int s0, .int s1, .ref (g.1 + s2)] M (kr + 1) (oZ Q noX) := by
  unfold T_L_law_2096 at h
  obtain ⟨k1, h⟩ := h
  refine R_callV (pc := 2096) (As := [.int s1, .int s0]) (rest := []) (c_X7_report (g := g) s2 s1 s0 M _ h) rfl rfl cal_RL_222 ins_X7_report sel_X7_report (cls_at k1 clsOK7) (by decide) (by omega) rfl rfl (Nat.le_of_ble_eq_true rfl) d_L_law_2096 (k_I (fun y3 M2 h => ?_)) (fun _ _ h9 => False.elim h9)
  try dsimp only at h
  refine R_istore (pc := 2099) (L' := [some (.ref g.2.2.2.1), some (.ref (g.1 + v1)), some (.ref (g.1 + v2)), some (.ref (g.1 + v3)), some (.ref (g.1 + v4)), some (.int v5), some (.int v6), some (.int y3), none]) d_L_law_2099 (by decide) rfl ?_
  refine R_aload_n (pc := 2101) d_L_law_2101 rfl rfl ?_
  obtain ⟨k4, h⟩ := h
  refine R_callV (pc := 2102) (As := []) (rest := []) (c_X7_thrown (g := g) v2 M2 _ h) rfl rfl cal_RL_140 ins_X7_thrown sel_X7_thrown (cls_at k4 clsOK7) (by decide) (by omega) rfl rfl (Nat.le_of_ble_eq_true rfl) d_L_law_2102 (k_I (fun y6 M5 h => ?_)) (fun _ _ h9 => False.elim h9)
  try dsimp only at h
  refine R_iload (pc := 2105) d_L_law_2105 rfl ?_
  refine R_icmp_eq (pc := 2107) (tgt := 2112) d_L_law_2107 (by decide) (fun c => ?_) (fun c => ?_)
  · rw [if_pos c] at h
    refine R_iload (pc := 2112) d_L_law_2112 rfl ?_
    refine R_if_ne (pc := 2114) (tgt := 2129) d_L_law_2114 (by decide) (fun c => ?_) (fun c => ?_)
    · rw [if_neg c] at h
      exact WP_sub (B_L_law_2129 Q κ28 hκ28 v1 v2 v3 v4 v5 M5 h) (by omega) (ls_s (ls_s (ls_s (ls_s (ls_s (ls_s (ls_n (ls_n (ls_n ls_0)))))))))
    · rw [if_pos c] at h
      refine R_aload_n (pc := 2117) d_L_law_2117 rfl rfl ?_
      refine R_iconst (pc := 2118) (v := 0) d_L_law_2118 (by decide) ?_
      obtain ⟨k7, h⟩ := h
      obtain ⟨k8, h⟩ := h
      refine R_lald (pc := 2119) k7 k8 d_L_law_2119 ?_
      refine R_iload (pc := 2120) d_L_law_2120 rfl ?_
      refine R_i2l (pc := 2122) d_L_law_2122 ?_
      refine R_lcmp (pc := 2123) d_L_law_2123 ?_
      refine R_if_eq (pc := 2124) (tgt := 2129) d_L_law_2124 (by decide) (fun c => ?_) (fun c => ?_)
      · rw [if_pos c] at h
        exact WP_sub (B_L_law_2129 Q κ28 hκ28 v1 v2 v3 v4 v5 M5 h) (by omega) (ls_s (ls_s (ls_s (ls_s (ls_s (ls_s (ls_n (ls_n (ls_n ls_0)))))))))
      · rw [if_neg c] at h
        refine R_iconst (pc := 2127) (v := 0) d_L_law_2127 (by decide) ?_
        exact R_retv (pc := 2128) d_L_law_2128 h
  · rw [if_neg c] at h
    refine R_iconst (pc := 2110) (v := 0) d_L_law_2110 (by decide) ?_
    exact R_retv (pc := 2111) d_L_law_2111 h
def T_L_law_2069 (κ28 : Nat → Nat → Nat → Nat → Int32 → Mem → Prop) (Q : Int32 → Mem → Prop) (sl : Nat) (xs : Nat → Int32) (v1 : Nat) (v2 : Nat) (v3 : Nat) (v4 : Nat) (v5 : Int32) (s0 : Int32) (s1 : Int32) (s2 : Nat) (M : Mem) : Prop := T_L_report (fun y2 M1 => (vp_in (v5 + 1) sl) ∧ (vp_in (v5 + 2) sl) ∧ if (xs (Int32.toNatClampNeg (v5 + 2))) = 0 then (T_L_law_2096 κ28 Q sl xs v1 v2 v3 v4 v5 y2 0 (xs (Int32.toNatClampNeg (v5 + 1))) v2 M1) else (T_L_law_2096 κ28 Q sl xs v1 v2 v3 v4 v5 y2 1 (xs (Int32.toNatClampNeg (v5 + 1))) v2 M1))  s2 s1 s0 v3 M
set_option maxRecDepth 100000 in
set_option maxHeartbeats 4000000 in
theorem B_L_law_2069 {g : GG} {kr : Nat} (Q : Int32 → Mem → Prop) (κ28 : Nat → Nat → Nat → Nat → Int32 → Mem → Prop) (hκ28 : ∀ (v1 : Nat) (v2 : Nat) (v3 : Nat) (v4 : Nat) (v5 : Int32) (M : Mem), κ28 v1 v2 v3 v4 v5 M → WP g 20 mL_law 28 [some (.ref g.2.2.2.1), some (.ref (g.1 + v1)), some (.ref (g.1 + v2)), some (.ref (g.1 + v3)), some (.ref (g.1 + v4)), some (.int v5), none, none, none] [] M kr (oZ Q noX)) (v1 : Nat) (v2 : Nat) (v3 : Nat) (v4 : Nat) (v5 : Int32) (s0 : Int32) (s1 : Int32) (s2 : Nat) (M : Mem) (h : T_L_law_2069 κ28 Q g.2.2.2.2.1 g.2.2.2.2.2 v1 v2 v3 v4 v5 s0 s1 s2 M) : WP g 20 mL_law 2069 [some (.ref g.2.2.2.1), some (.ref (g.1 + v1)), some (.ref (g.1 + v2)), some (.ref (g.1 + v3)), some (.ref (g.1 + v4)), some (.int v5), none, none, none] [.int s0, .int s1, .ref (g.1 + s2)] M (kr + 2) (oZ Q noX) := by
  unfold T_L_law_2069 at h
  refine R_aload_n (pc := 2069) d_L_law_2069 rfl rfl ?_
  refine R_callSW (pc := 2070) (As := [.ref (g.1 + s2), .int s1, .int s0, .ref (g.1 + v3)]) (rest := []) (c_L_report (g := g) s2 s1 s0 v3 M _ h) rfl rfl cal_RL_220 sta_L_report (by decide) (by omega) rfl rfl (Nat.le_of_ble_eq_true rfl) d_L_law_2070 (k_I (fun y2 M1 h => ?_)) (fun _ _ h9 => False.elim h9)
  try dsimp only at h
  refine R_istore (pc := 2073) (L' := [some (.ref g.2.2.2.1), some (.ref (g.1 + v1)), some (.ref (g.1 + v2)), some (.ref (g.1 + v3)), some (.ref (g.1 + v4)), some (.int v5), some (.int y2), none, none]) d_L_law_2073 (by decide) rfl ?_
  refine R_aload_n (pc := 2075) d_L_law_2075 rfl rfl ?_
  refine R_aload_n (pc := 2076) d_L_law_2076 rfl rfl ?_
  refine R_iload (pc := 2077) d_L_law_2077 rfl ?_
  refine R_iconst (pc := 2079) (v := 1) d_L_law_2079 (by decide) ?_
  refine R_iadd (pc := 2080) d_L_law_2080 ?_
  obtain ⟨k3, h⟩ := h
  refine R_sld (pc := 2081) k3 d_L_law_2081 ?_
  refine R_aload_n (pc := 2082) d_L_law_2082 rfl rfl ?_
  refine R_iload (pc := 2083) d_L_law_2083 rfl ?_
  refine R_iconst (pc := 2085) (v := 2) d_L_law_2085 (by decide) ?_
  refine R_iadd (pc := 2086) d_L_law_2086 ?_
  obtain ⟨k4, h⟩ := h
  refine R_sld (pc := 2087) k4 d_L_law_2087 ?_
  refine R_if_eq (pc := 2088) (tgt := 2095) d_L_law_2088 (by decide) (fun c => ?_) (fun c => ?_)
  · rw [if_pos c] at h
    refine R_iconst (pc := 2095) (v := 0) d_L_law_2095 (by decide) ?_
    exact WP_sub (B_L_law_2096 Q κ28 hκ28 v1 v2 v3 v4 v5 y2 0 (xs (Int32.toNatClampNeg (v5 + 1))) v2 M1 h) (by omega) (ls_s (ls_s (ls_s (ls_s (ls_s (ls_s (ls_s (ls_n (ls_n ls_0)))))))))
  · rw [if_neg c] at h
    refine R_iconst (pc := 2091) (v := 1) d_L_law_2091 (by decide) ?_
    refine R_goto (pc := 2092) (tgt := 2096) d_L_law_2092 (by decide) ?_
    exact WP_sub (B_L_law_2096 Q κ28 hκ28 v1 v2 v3 v4 v5 y2 1 (xs (Int32.toNatClampNeg (v5 + 1))) v2 M1 h) (by omega) (ls_s (ls_s (ls_s (ls_s (ls_s (ls_s (ls_s (ls_n (ls_n ls_0)))))))))
def T_L_law_2048 (κ28 : Nat → Nat → Nat → Nat → Int32 → Mem → Prop) (Q : Int32 → Mem → Prop) (sl : Nat) (xs : Nat → Int32) (v1 : Nat) (v2 : Nat) (v3 : Nat) (v4 : Nat) (v5 : Int32) (M : Mem) : Prop := (vp_in (v5 + 1) sl) ∧ (vp_in (v5 + 2) sl) ∧ if (xs (Int32.toNatClampNeg (v5 + 2))) = 0 then (T_L_law_2069 κ28 Q sl xs v1 v2 v3 v4 v5 0 (xs (Int32.toNatClampNeg (v5 + 1))) v1 M) else (T_L_law_2069 κ28 Q sl xs v1 v2 v3 v4 v5 1 (xs (Int32.toNatClampNeg (v5 + 1))) v1 M)
set_option maxRecDepth 100000 in
set_option maxHeartbeats 4000000 in
theorem B_L_law_2048 {g : GG} {kr : Nat} (Q : Int32 → Mem → Prop) (κ28 : Nat → Nat → Nat → Nat → Int32 → Mem → Prop) (hκ28 : ∀ (v1 : Nat) (v2 : Nat) (v3 : Nat) (v4 : Nat) (v5 : Int32) (M : Mem), κ28 v1 v2 v3 v4 v5 M → WP g 20 mL_law 28 [some (.ref g.2.2.2.1), some (.ref (g.1 + v1)), some (.ref (g.1 + v2)), some (.ref (g.1 + v3)), some (.ref (g.1 + v4)), some (.int v5), none, none, none] [] M kr (oZ Q noX)) (v1 : Nat) (v2 : Nat) (v3 : Nat) (v4 : Nat) (v5 : Int32) (M : Mem) (h : T_L_law_2048 κ28 Q g.2.2.2.2.1 g.2.2.2.2.2 v1 v2 v3 v4 v5 M) : WP g 20 mL_law 2048 [some (.ref g.2.2.2.1), some (.ref (g.1 + v1)), some (.ref (g.1 + v2)), some (.ref (g.1 + v3)), some (.ref (g.1 + v4)), some (.int v5), none, none, none] [] M (kr + 2) (oZ Q noX) := by
  unfold T_L_law_2048 at h
  refine R_aload_n (pc := 2048) d_L_law_2048 rfl rfl ?_
  refine R_aload_n (pc := 2049) d_L_law_2049 rfl rfl ?_
  refine R_iload (pc := 2050) d_L_law_2050 rfl ?_
  refine R_iconst (pc := 2052) (v := 1) d_L_law_2052 (by decide) ?_
  refine R_iadd (pc := 2053) d_L_law_2053 ?_
  obtain ⟨k1, h⟩ := h
  refine R_sld (pc := 2054) k1 d_L_law_2054 ?_
  refine R_aload_n (pc := 2055) d_L_law_2055 rfl rfl ?_
  refine R_iload (pc := 2056) d_L_law_2056 rfl ?_
  refine R_iconst (pc := 2058) (v := 2) d_L_law_2058 (by decide) ?_
  refine R_iadd (pc := 2059) d_L_law_2059 ?_
  obtain ⟨k2, h⟩ := h
  refine R_sld (pc := 2060) k2 d_L_law_2060 ?_
  refine R_if_eq (pc := 2061) (tgt := 2068) d_L_law_2061 (by decide) (fun c => ?_) (fun c => ?_)
  · rw [if_pos c] at h
    refine R_iconst (pc := 2068) (v := 0) d_L_law_2068 (by decide) ?_
    exact WP_sub (B_L_law_2069 Q κ28 hκ28 v1 v2 v3 v4 v5 0 (xs (Int32.toNatClampNeg (v5 + 1))) v1 M h) (by omega) (ls_s (ls_s (ls_s (ls_s (ls_s (ls_s (ls_n (ls_n (ls_n ls_0)))))))))
  · rw [if_neg c] at h
    refine R_iconst (pc := 2064) (v := 1) d_L_law_2064 (by decide) ?_
    refine R_goto (pc := 2065) (tgt := 2069) d_L_law_2065 (by decide) ?_
    exact WP_sub (B_L_law_2069 Q κ28 hκ28 v1 v2 v3 v4 v5 1 (xs (Int32.toNatClampNeg (v5 + 1))) v1 M h) (by omega) (ls_s (ls_s (ls_s (ls_s (ls_s (ls_s (ls_n (ls_n (ls_n ls_0)))))))))
def T_L_law_2045 (κ28 : Nat → Nat → Nat → Nat → Int32 → Mem → Prop) (Q : Int32 → Mem → Prop) (sl : Nat) (xs : Nat → Int32) (v1 : Nat) (v2 : Nat) (v3 : Nat) (v4 : Nat) (v5 : Int32) (M : Mem) : Prop := T_L_law_2534 κ28 Q sl xs v1 v2 v3 v4 v5 M
set_option maxRecDepth 100000 in
set_option maxHeartbeats 4000000 in
theorem B_L_law_2045 {g : GG} {kr : Nat} (Q : Int32 → Mem → Prop) (κ28 : Nat → Nat → Nat → Nat → Int32 → Mem → Prop) (hκ28 : ∀ (v1 : Nat) (v2 : Nat) (v3 : Nat) (v4 : Nat) (v5 : Int32) (M : Mem), κ28 v1 v2 v3 v4 v5 M → WP g 20 mL_law 28 [some (.ref g.2.2.2.1), some (.ref (g.1 + v1)), some (.ref (g.1 + v2)), some (.ref (g.1 + v3)), some (.ref (g.1 + v4)), some (.int v5), none, none, none] [] M kr (oZ Q noX)) (v1 : Nat) (v2 : Nat) (v3 : Nat) (v4 : Nat) (v5 : Int32) (M : Mem) (h : T_L_law_2045 κ28 Q g.2.2.2.2.1 g.2.2.2.2.2 v1 v2 v3 v4 v5 M) : WP g 20 mL_law 2045 [some (.ref g.2.2.2.1), some (.ref (g.1 + v1)), some (.ref (g.1 + v2)), some (.ref (g.1 + v3)), some (.ref (g.1 + v4)), some (.int v5), none, none, none] [] M (kr + 1) (oZ Q noX) := by
  unfold T_L_law_2045 at h
  refine R_goto (pc := 2045) (tgt := 2534) d_L_law_2045 (by decide) ?_
  exact WP_sub (B_L_law_2534 Q κ28 hκ28 v1 v2 v3 v4 v5 M h) (by omega) (ls_s (ls_s (ls_s (ls_s (ls_s (ls_s (ls_n (ls_n (ls_n ls_0)))))))))
def T_L_law_2012 (κ28 : Nat → Nat → Nat → Nat → Int32 → Mem → Prop) (Q : Int32 → Mem → Prop) (sl : Nat) (xs : Nat → Int32) (v1 : Nat) (v2 : Nat) (v3 : Nat) (v4 : Nat) (v5 : Int32) (v6 : Int32) (s0 : Int32) (s1 : Int32) (s2 : Nat) (M : Mem) : Prop := (kd s2 = 7) ∧ T_X7_notice (fun y3 M2 => (kd v2 = 7) ∧ T_X7_thrown (fun y6 M5 => if y6 = v6 then (if v6 = 0 then ((kd v3 = 12) ∧ (vp_in 0 (ln v3)) ∧ if (lg_cmp (M5.2.1 (Int32.toNatClampNeg 0)) (Int32.toInt64 y3)) = 0 then (T_L_law_2045 κ28 Q sl xs v1 v2 v3 v4 v5 M5) else (((0 : Int32) = 0 ∨ (0 : Int32) = 1) ∧ Q 0 M5)) else (T_L_law_2045 κ28 Q sl xs v1 v2 v3 v4 v5 M5)) else (((0 : Int32) = 0 ∨ (0 : Int32) = 1) ∧ Q 0 M5))  v2 M2)  s2 s1 s0 M
set_option maxRecDepth 100000 in
set_option maxHeartbeats 4000000 in
theorem B_L_law_2012 {g : GG} {kr : Nat} (Q : Int32 → Mem → Prop) (κ28 : Nat → Nat → Nat → Nat → Int32 → Mem → Prop) (hκ28 : ∀ (v1 : Nat) (v2 : Nat) (v3 : Nat) (v4 : Nat) (v5 : Int32) (M : Mem), κ28 v1 v2 v3 v4 v5 M → WP g 20 mL_law 28 [some (.ref g.2.2.2.1), some (.ref (g.1 + v1)), some (.ref (g.1 + v2)), some (.ref (g.1 + v3)), some (.ref (g.1 + v4)), some (.int v5), none, none, none] [] M kr (oZ Q noX)) (v1 : Nat) (v2 : Nat) (v3 : Nat) (v4 : Nat) (v5 : Int32) (v6 : Int32) (s0 : Int32) (s1 : Int32) (s2 : Nat) (M : Mem) (h : T_L_law_2012 κ28 Q g.2.2.2.2.1 g.2.2.2.2.2 v1 v2 v3 v4 v5 v6 s0 s1 s2 M) : WP g 20 mL_law 2012 [some (.ref g.2.2.2.1), some (.ref (g.1 + v1)), some (.ref (g.1 + v2)), some (.ref (g.1 + v3)), some (.ref (g.1 + v4)), some (.int v5), some (.int v6), none, none] [.int s0, .int s1, .ref (g.1 + s2)] M (kr + 1) (oZ Q noX) := by
  unfold T_L_law_2012 at h
  obtain ⟨k1, h⟩ := h
  refine R_callV (pc := 2012) (As := [.int s1, .int s0]) (rest := []) (c_X7_notice (g := g) s2 s1 s0 M _ h) rfl rfl cal_RL_219 ins_X7_notice sel_X7_notice (cls_at k1 clsOK7) (by decide) (by omega) rfl rfl (Nat.le_of_ble_eq_true rfl) d_L_law_2012 (k_I (fun y3 M2 h => ?_)) (fun _ _ h9 => False.elim h9)
  try dsimp only at h
  refine R_istore (pc := 2015) (L' := [some (.ref g.2.2.2.1), some (.ref (g.1 + v1)), some (.ref (g.1 + v2)), some (.ref (g.1 + v3)), some (.ref (g.1 + v4)), some (.int v5), some (.int v6), some (.int y3), none]) d_L_law_2015 (by decide) rfl ?_
  refine R_aload_n (pc := 2017) d_L_law_2017 rfl rfl ?_
  obtain ⟨k4, h⟩ := h
  refine R_callV (pc := 2018) (As := []) (rest := []) (c_X7_thrown (g := g) v2 M2 _ h) rfl rfl cal_RL_140 ins_X7_thrown sel_X7_thrown (cls_at k4 clsOK7) (by decide) (by omega) rfl rfl (Nat.le_of_ble_eq_true rfl) d_L_law_2018 (k_I (fun y6 M5 h => ?_)) (fun _ _ h9 => False.elim h9)
  try dsimp only at h
  refine R_iload (pc := 2021) d_L_law_2021 rfl ?_
  refine R_icmp_eq (pc := 2023) (tgt := 2028) d_L_law_2023 (by decide) (fun c => ?_) (fun c => ?_)
  · rw [if_pos c] at h
    refine R_iload (pc := 2028) d_L_law_2028 rfl ?_
    refine R_if_ne (pc := 2030) (tgt := 2045) d_L_law_2030 (by decide) (fun c => ?_) (fun c => ?_)
    · rw [if_neg c] at h
      exact WP_sub (B_L_law_2045 Q κ28 hκ28 v1 v2 v3 v4 v5 M5 h) (by omega) (ls_s (ls_s (ls_s (ls_s (ls_s (ls_s (ls_n (ls_n (ls_n ls_0)))))))))
    · rw [if_pos c] at h
      refine R_aload_n (pc := 2033) d_L_law_2033 rfl rfl ?_
      refine R_iconst (pc := 2034) (v := 0) d_L_law_2034 (by decide) ?_
      obtain ⟨k7, h⟩ := h
      obtain ⟨k8, h⟩ := h
      refine R_lald (pc := 2035) k7 k8 d_L_law_2035 ?_
      refine R_iload (pc := 2036) d_L_law_2036 rfl ?_
      refine R_i2l (pc := 2038) d_L_law_2038 ?_
      refine R_lcmp (pc := 2039) d_L_law_2039 ?_
      refine R_if_eq (pc := 2040) (tgt := 2045) d_L_law_2040 (by decide) (fun c => ?_) (fun c => ?_)
      · rw [if_pos c] at h
        exact WP_sub (B_L_law_2045 Q κ28 hκ28 v1 v2 v3 v4 v5 M5 h) (by omega) (ls_s (ls_s (ls_s (ls_s (ls_s (ls_s (ls_n (ls_n (ls_n ls_0)))))))))
      · rw [if_neg c] at h
        refine R_iconst (pc := 2043) (v := 0) d_L_law_2043 (by decide) ?_
        exact R_retv (pc := 2044) d_L_law_2044 h
  · rw [if_neg c] at h
    refine R_iconst (pc := 2026) (v := 0) d_L_law_2026 (by decide) ?_
    exact R_retv (pc := 2027) d_L_law_2027 h
def T_L_law_1985 (κ28 : Nat → Nat → Nat → Nat → Int32 → Mem → Prop) (Q : Int32 → Mem → Prop) (sl : Nat) (xs : Nat → Int32) (v1 : Nat) (v2 : Nat) (v3 : Nat) (v4 : Nat) (v5 : Int32) (s0 : Int32) (s1 : Int32) (s2 : Nat) (M : Mem) : Prop := T_L_notice (fun y2 M1 => (vp_in (v5 + 1) sl) ∧ (vp_in (v5 + 2) sl) ∧ if (xs (Int32.toNatClampNeg (v5 + 2))) = 0 then (T_L_law_2012 κ28 Q sl xs v1 v2 v3 v4 v5 y2 0 (xs (Int32.toNatClampNeg (v5 + 1))) v2 M1) else (T_L_law_2012 κ28 Q sl xs v1 v2 v3 v4 v5 y2 1 (xs (Int32.toNatClampNeg (v5 + 1))) v2 M1))  s2 s1 s0 v3 M
set_option maxRecDepth 100000 in
set_option maxHeartbeats 4000000 in
theorem B_L_law_1985 {g : GG} {kr : Nat} (Q : Int32 → Mem → Prop) (κ28 : Nat → Nat → Nat → Nat → Int32 → Mem → Prop) (hκ28 : ∀ (v1 : Nat) (v2 : Nat) (v3 : Nat) (v4 : Nat) (v5 : Int32) (M : Mem), κ28 v1 v2 v3 v4 v5 M → WP g 20 mL_law 28 [some (.ref g.2.2.2.1), some (.ref (g.1 + v1)), some (.ref (g.1 + v2)), some (.ref (g.1 + v3)), some (.ref (g.1 + v4)), some (.int v5), none, none, none] [] M kr (oZ Q noX)) (v1 : Nat) (v2 : Nat) (v3 : Nat) (v4 : Nat) (v5 : Int32) (s0 : Int32) (s1 : Int32) (s2 : Nat) (M : Mem) (h : T_L_law_1985 κ28 Q g.2.2.2.2.1 g.2.2.2.2.2 v1 v2 v3 v4 v5 s0 s1 s2 M) : WP g 20 mL_law 1985 [some (.ref g.2.2.2.1), some (.ref (g.1 + v1)), some (.ref (g.1 + v2)), some (.ref (g.1 + v3)), some (.ref (g.1 + v4)), some (.int v5), none, none, none] [.int s0, .int s1, .ref (g.1 + s2)] M (kr + 2) (oZ Q noX) := by
  unfold T_L_law_1985 at h
  refine R_aload_n (pc := 1985) d_L_law_1985 rfl rfl ?_
  refine R_callSW (pc := 1986) (As := [.ref (g.1 + s2), .int s1, .int s0, .ref (g.1 + v3)]) (rest := []) (c_L_notice (g := g) s2 s1 s0 v3 M _ h) rfl rfl cal_RL_217 sta_L_notice (by decide) (by omega) rfl rfl (Nat.le_of_ble_eq_true rfl) d_L_law_1986 (k_I (fun y2 M1 h => ?_)) (fun _ _ h9 => False.elim h9)
  try dsimp only at h
  refine R_istore (pc := 1989) (L' := [some (.ref g.2.2.2.1), some (.ref (g.1 + v1)), some (.ref (g.1 + v2)), some (.ref (g.1 + v3)), some (.ref (g.1 + v4)), some (.int v5), some (.int y2), none, none]) d_L_law_1989 (by decide) rfl ?_
  refine R_aload_n (pc := 1991) d_L_law_1991 rfl rfl ?_
  refine R_aload_n (pc := 1992) d_L_law_1992 rfl rfl ?_
  refine R_iload (pc := 1993) d_L_law_1993 rfl ?_
  refine R_iconst (pc := 1995) (v := 1) d_L_law_1995 (by decide) ?_
  refine R_iadd (pc := 1996) d_L_law_1996 ?_
  obtain ⟨k3, h⟩ := h
  refine R_sld (pc := 1997) k3 d_L_law_1997 ?_
  refine R_aload_n (pc := 1998) d_L_law_1998 rfl rfl ?_
  refine R_iload (pc := 1999) d_L_law_1999 rfl ?_
  refine R_iconst (pc := 2001) (v := 2) d_L_law_2001 (by decide) ?_
  refine R_iadd (pc := 2002) d_L_law_2002 ?_
  obtain ⟨k4, h⟩ := h
  refine R_sld (pc := 2003) k4 d_L_law_2003 ?_
  refine R_if_eq (pc := 2004) (tgt := 2011) d_L_law_2004 (by decide) (fun c => ?_) (fun c => ?_)
  · rw [if_pos c] at h
    refine R_iconst (pc := 2011) (v := 0) d_L_law_2011 (by decide) ?_
    exact WP_sub (B_L_law_2012 Q κ28 hκ28 v1 v2 v3 v4 v5 y2 0 (xs (Int32.toNatClampNeg (v5 + 1))) v2 M1 h) (by omega) (ls_s (ls_s (ls_s (ls_s (ls_s (ls_s (ls_s (ls_n (ls_n ls_0)))))))))
  · rw [if_neg c] at h
    refine R_iconst (pc := 2007) (v := 1) d_L_law_2007 (by decide) ?_
    refine R_goto (pc := 2008) (tgt := 2012) d_L_law_2008 (by decide) ?_
    exact WP_sub (B_L_law_2012 Q κ28 hκ28 v1 v2 v3 v4 v5 y2 1 (xs (Int32.toNatClampNeg (v5 + 1))) v2 M1 h) (by omega) (ls_s (ls_s (ls_s (ls_s (ls_s (ls_s (ls_s (ls_n (ls_n ls_0)))))))))
def T_L_law_1964 (κ28 : Nat → Nat → Nat → Nat → Int32 → Mem → Prop) (Q : Int32 → Mem → Prop) (sl : Nat) (xs : Nat → Int32) (v1 : Nat) (v2 : Nat) (v3 : Nat) (v4 : Nat) (v5 : Int32) (M : Mem) : Prop := (vp_in (v5 + 1) sl) ∧ (vp_in (v5 + 2) sl) ∧ if (xs (Int32.toNatClampNeg (v5 + 2))) = 0 then (T_L_law_1985 κ28 Q sl xs v1 v2 v3 v4 v5 0 (xs (Int32.toNatClampNeg (v5 + 1))) v1 M) else (T_L_law_1985 κ28 Q sl xs v1 v2 v3 v4 v5 1 (xs (Int32.toNatClampNeg (v5 + 1))) v1 M)
set_option maxRecDepth 100000 in
set_option maxHeartbeats 4000000 in
theorem B_L_law_1964 {g : GG} {kr : Nat} (Q : Int32 → Mem → Prop) (κ28 : Nat → Nat → Nat → Nat → Int32 → Mem → Prop) (hκ28 : ∀ (v1 : Nat) (v2 : Nat) (v3 : Nat) (v4 : Nat) (v5 : Int32) (M : Mem), κ28 v1 v2 v3 v4 v5 M → WP g 20 mL_law 28 [some (.ref g.2.2.2.1), some (.ref (g.1 + v1)), some (.ref (g.1 + v2)), some (.ref (g.1 + v3)), some (.ref (g.1 + v4)), some (.int v5), none, none, none] [] M kr (oZ Q noX)) (v1 : Nat) (v2 : Nat) (v3 : Nat) (v4 : Nat) (v5 : Int32) (M : Mem) (h : T_L_law_1964 κ28 Q g.2.2.2.2.1 g.2.2.2.2.2 v1 v2 v3 v4 v5 M) : WP g 20 mL_law 1964 [some (.ref g.2.2.2.1), some (.ref (g.1 + v1)), some (.ref (g.1 + v2)), some (.ref (g.1 + v3)), some (.ref (g.1 + v4)), some (.int v5), none, none, none] [] M (kr + 2) (oZ Q noX) := by
  unfold T_L_law_1964 at h
  refine R_aload_n (pc := 1964) d_L_law_1964 rfl rfl ?_
  refine R_aload_n (pc := 1965) d_L_law_1965 rfl rfl ?_
  refine R_iload (pc := 1966) d_L_law_1966 rfl ?_
  refine R_iconst (pc := 1968) (v := 1) d_L_law_1968 (by decide) ?_
  refine R_iadd (pc := 1969) d_L_law_1969 ?_
  obtain ⟨k1, h⟩ := h
  refine R_sld (pc := 1970) k1 d_L_law_1970 ?_
  refine R_aload_n (pc := 1971) d_L_law_1971 rfl rfl ?_
  refine R_iload (pc := 1972) d_L_law_1972 rfl ?_
  refine R_iconst (pc := 1974) (v := 2) d_L_law_1974 (by decide) ?_
  refine R_iadd (pc := 1975) d_L_law_1975 ?_
  obtain ⟨k2, h⟩ := h
  refine R_sld (pc := 1976) k2 d_L_law_1976 ?_
  refine R_if_eq (pc := 1977) (tgt := 1984) d_L_law_1977 (by decide) (fun c => ?_) (fun c => ?_)
  · rw [if_pos c] at h
    refine R_iconst (pc := 1984) (v := 0) d_L_law_1984 (by decide) ?_
    exact WP_sub (B_L_law_1985 Q κ28 hκ28 v1 v2 v3 v4 v5 0 (xs (Int32.toNatClampNeg (v5 + 1))) v1 M h) (by omega) (ls_s (ls_s (ls_s (ls_s (ls_s (ls_s (ls_n (ls_n (ls_n ls_0)))))))))
  · rw [if_neg c] at h
    refine R_iconst (pc := 1980) (v := 1) d_L_law_1980 (by decide) ?_
    refine R_goto (pc := 1981) (tgt := 1985) d_L_law_1981 (by decide) ?_
    exact WP_sub (B_L_law_1985 Q κ28 hκ28 v1 v2 v3 v4 v5 1 (xs (Int32.toNatClampNeg (v5 + 1))) v1 M h) (by omega) (ls_s (ls_s (ls_s (ls_s (ls_s (ls_s (ls_n (ls_n (ls_n ls_0)))))))))
def T_L_law_1961 (κ28 : Nat → Nat → Nat → Nat → Int32 → Mem → Prop) (Q : Int32 → Mem → Prop) (sl : Nat) (xs : Nat → Int32) (v1 : Nat) (v2 : Nat) (v3 : Nat) (v4 : Nat) (v5 : Int32) (M : Mem) : Prop := T_L_law_2534 κ28 Q sl xs v1 v2 v3 v4 v5 M
set_option maxRecDepth 100000 in
set_option maxHeartbeats 4000000 in
theorem B_L_law_1961 {g : GG} {kr : Nat} (Q : Int32 → Mem → Prop) (κ28 : Nat → Nat → Nat → Nat → Int32 → Mem → Prop) (hκ28 : ∀ (v1 : Nat) (v2 : Nat) (v3 : Nat) (v4 : Nat) (v5 : Int32) (M : Mem), κ28 v1 v2 v3 v4 v5 M → WP g 20 mL_law 28 [some (.ref g.2.2.2.1), some (.ref (g.1 + v1)), some (.ref (g.1 + v2)), some (.ref (g.1 + v3)), some (.ref (g.1 + v4)), some (.int v5), none, none, none] [] M kr (oZ Q noX)) (v1 : Nat) (v2 : Nat) (v3 : Nat) (v4 : Nat) (v5 : Int32) (M : Mem) (h : T_L_law_1961 κ28 Q g.2.2.2.2.1 g.2.2.2.2.2 v1 v2 v3 v4 v5 M) : WP g 20 mL_law 1961 [some (.ref g.2.2.2.1), some (.ref (g.1 + v1)), some (.ref (g.1 + v2)), some (.ref (g.1 + v3)), some (.ref (g.1 + v4)), some (.int v5), none, none, none] [] M (kr + 1) (oZ Q noX) := by
  unfold T_L_law_1961 at h
  refine R_goto (pc := 1961) (tgt := 2534) d_L_law_1961 (by decide) ?_
  exact WP_sub (B_L_law_2534 Q κ28 hκ28 v1 v2 v3 v4 v5 M h) (by omega) (ls_s (ls_s (ls_s (ls_s (ls_s (ls_s (ls_n (ls_n (ls_n ls_0)))))))))
def T_L_law_1896 (κ28 : Nat → Nat → Nat → Nat → Int32 → Mem → Prop) (Q : Int32 → Mem → Prop) (sl : Nat) (xs : Nat → Int32) (v1 : Nat) (v2 : Nat) (v3 : Nat) (v4 : Nat) (v5 : Int32) (M : Mem) : Prop := (vp_in (v5 + 1) sl) ∧ (vp_in (v5 + 2) sl) ∧ T_L_wished (fun y4 M3 => (kd v2 = 7) ∧ T_X7_wished (fun y7 M6 => T_X7_thrown (fun y9 M8 => if y9 = y4 then (if y4 = 0 then ((kd v3 = 12) ∧ (vp_in 0 (ln v3)) ∧ if (lg_cmp (M8.2.1 (Int32.toNatClampNeg 0)) (Int32.toInt64 y7)) = 0 then (T_L_law_1961 κ28 Q sl xs v1 v2 v3 v4 v5 M8) else (((0 : Int32) = 0 ∨ (0 : Int32) = 1) ∧ Q 0 M8)) else (T_L_law_1961 κ28 Q sl xs v1 v2 v3 v4 v5 M8)) else (((0 : Int32) = 0 ∨ (0 : Int32) = 1) ∧ Q 0 M8))  v2 M6)  v2 (xs (Int32.toNatClampNeg (v5 + 1))) (xs (Int32.toNatClampNeg (v5 + 2))) M3)  v1 (xs (Int32.toNatClampNeg (v5 + 1))) (xs (Int32.toNatClampNeg (v5 + 2))) v3 M
set_option maxRecDepth 100000 in
set_option maxHeartbeats 4000000 in
theorem B_L_law_1896 {g : GG} {kr : Nat} (Q : Int32 → Mem → Prop) (κ28 : Nat → Nat → Nat → Nat → Int32 → Mem → Prop) (hκ28 : ∀ (v1 : Nat) (v2 : Nat) (v3 : Nat) (v4 : Nat) (v5 : Int32) (M : Mem), κ28 v1 v2 v3 v4 v5 M → WP g 20 mL_law 28 [some (.ref g.2.2.2.1), some (.ref (g.1 + v1)), some (.ref (g.1 + v2)), some (.ref (g.1 + v3)), some (.ref (g.1 + v4)), some (.int v5), none, none, none] [] M kr (oZ Q noX)) (v1 : Nat) (v2 : Nat) (v3 : Nat) (v4 : Nat) (v5 : Int32) (M : Mem) (h : T_L_law_1896 κ28 Q g.2.2.2.2.1 g.2.2.2.2.2 v1 v2 v3 v4 v5 M) : WP g 20 mL_law 1896 [some (.ref g.2.2.2.1), some (.ref (g.1 + v1)), some (.ref (g.1 + v2)), some (.ref (g.1 + v3)), some (.ref (g.1 + v4)), some (.int v5), none, none, none] [] M (kr + 2) (oZ Q noX) := by
  unfold T_L_law_1896 at h
  refine R_aload_n (pc := 1896) d_L_law_1896 rfl rfl ?_
  refine R_aload_n (pc := 1897) d_L_law_1897 rfl rfl ?_
  refine R_iload (pc := 1898) d_L_law_1898 rfl ?_
  refine R_iconst (pc := 1900) (v := 1) d_L_law_1900 (by decide) ?_
  refine R_iadd (pc := 1901) d_L_law_1901 ?_
  obtain ⟨k1, h⟩ := h
  refine R_sld (pc := 1902) k1 d_L_law_1902 ?_
  refine R_aload_n (pc := 1903) d_L_law_1903 rfl rfl ?_
  refine R_iload (pc := 1904) d_L_law_1904 rfl ?_
  refine R_iconst (pc := 1906) (v := 2) d_L_law_1906 (by decide) ?_
  refine R_iadd (pc := 1907) d_L_law_1907 ?_
  obtain ⟨k2, h⟩ := h
  refine R_sld (pc := 1908) k2 d_L_law_1908 ?_
  refine R_aload_n (pc := 1909) d_L_law_1909 rfl rfl ?_
  refine R_callSW (pc := 1910) (As := [.ref (g.1 + v1), .int (xs (Int32.toNatClampNeg (v5 + 1))), .int (xs (Int32.toNatClampNeg (v5 + 2))), .ref (g.1 + v3)]) (rest := []) (c_L_wished (g := g) v1 (xs (Int32.toNatClampNeg (v5 + 1))) (xs (Int32.toNatClampNeg (v5 + 2))) v3 M _ h) rfl rfl cal_RL_214 sta_L_wished (by decide) (by omega) rfl rfl (Nat.le_of_ble_eq_true rfl) d_L_law_1910 (k_I (fun y4 M3 h => ?_)) (fun _ _ h9 => False.elim h9)
  try dsimp only at h
  refine R_istore (pc := 1913) (L' := [some (.ref g.2.2.2.1), some (.ref (g.1 + v1)), some (.ref (g.1 + v2)), some (.ref (g.1 + v3)), some (.ref (g.1 + v4)), some (.int v5), some (.int y4), none, none]) d_L_law_1913 (by decide) rfl ?_
  refine R_aload_n (pc := 1915) d_L_law_1915 rfl rfl ?_
  refine R_aload_n (pc := 1916) d_L_law_1916 rfl rfl ?_
  refine R_iload (pc := 1917) d_L_law_1917 rfl ?_
  refine R_iconst (pc := 1919) (v := 1) d_L_law_1919 (by decide) ?_
  refine R_iadd (pc := 1920) d_L_law_1920 ?_
  refine R_sld (pc := 1921) k1 d_L_law_1921 ?_
  refine R_aload_n (pc := 1922) d_L_law_1922 rfl rfl ?_
  refine R_iload (pc := 1923) d_L_law_1923 rfl ?_
  refine R_iconst (pc := 1925) (v := 2) d_L_law_1925 (by decide) ?_
  refine R_iadd (pc := 1926) d_L_law_1926 ?_
  refine R_sld (pc := 1927) k2 d_L_law_1927 ?_
  obtain ⟨k5, h⟩ := h
  refine R_callV (pc := 1928) (As := [.int (xs (Int32.toNatClampNeg (v5 + 1))), .int (xs (Int32.toNatClampNeg (v5 + 2)))]) (rest := []) (c_X7_wished (g := g) v2 (xs (Int32.toNatClampNeg (v5 + 1))) (xs (Int32.toNatClampNeg (v5 + 2))) M3 _ h) rfl rfl cal_RL_216 ins_X7_wished sel_X7_wished (cls_at k5 clsOK7) (by decide) (by omega) rfl rfl (Nat.le_of_ble_eq_true rfl) d_L_law_1928 (k_I (fun y7 M6 h => ?_)) (fun _ _ h9 => False.elim h9)
  try dsimp only at h
  refine R_istore (pc := 1931) (L' := [some (.ref g.2.2.2.1), some (.ref (g.1 + v1)), some (.ref (g.1 + v2)), some (.ref (g.1 + v3)), some (.ref (g.1 + v4)), some (.int v5), some (.int y4), some (.int y7), none]) d_L_law_1931 (by decide) rfl ?_
  refine R_aload_n (pc := 1933) d_L_law_1933 rfl rfl ?_
  refine R_callV (pc := 1934) (As := []) (rest := []) (c_X7_thrown (g := g) v2 M6 _ h) rfl rfl cal_RL_140 ins_X7_thrown sel_X7_thrown (cls_at k5 clsOK7) (by decide) (by omega) rfl rfl (Nat.le_of_ble_eq_true rfl) d_L_law_1934 (k_I (fun y9 M8 h => ?_)) (fun _ _ h9 => False.elim h9)
  try dsimp only at h
  refine R_iload (pc := 1937) d_L_law_1937 rfl ?_
  refine R_icmp_eq (pc := 1939) (tgt := 1944) d_L_law_1939 (by decide) (fun c => ?_) (fun c => ?_)
  · rw [if_pos c] at h
    refine R_iload (pc := 1944) d_L_law_1944 rfl ?_
    refine R_if_ne (pc := 1946) (tgt := 1961) d_L_law_1946 (by decide) (fun c => ?_) (fun c => ?_)
    · rw [if_neg c] at h
      exact WP_sub (B_L_law_1961 Q κ28 hκ28 v1 v2 v3 v4 v5 M8 h) (by omega) (ls_s (ls_s (ls_s (ls_s (ls_s (ls_s (ls_n (ls_n (ls_n ls_0)))))))))
    · rw [if_pos c] at h
      refine R_aload_n (pc := 1949) d_L_law_1949 rfl rfl ?_
      refine R_iconst (pc := 1950) (v := 0) d_L_law_1950 (by decide) ?_
      obtain ⟨k10, h⟩ := h
      obtain ⟨k11, h⟩ := h
      refine R_lald (pc := 1951) k10 k11 d_L_law_1951 ?_
      refine R_iload (pc := 1952) d_L_law_1952 rfl ?_
      refine R_i2l (pc := 1954) d_L_law_1954 ?_
      refine R_lcmp (pc := 1955) d_L_law_1955 ?_
      refine R_if_eq (pc := 1956) (tgt := 1961) d_L_law_1956 (by decide) (fun c => ?_) (fun c => ?_)
      · rw [if_pos c] at h
        exact WP_sub (B_L_law_1961 Q κ28 hκ28 v1 v2 v3 v4 v5 M8 h) (by omega) (ls_s (ls_s (ls_s (ls_s (ls_s (ls_s (ls_n (ls_n (ls_n ls_0)))))))))
      · rw [if_neg c] at h
        refine R_iconst (pc := 1959) (v := 0) d_L_law_1959 (by decide) ?_
        exact R_retv (pc := 1960) d_L_law_1960 h
  · rw [if_neg c] at h
    refine R_iconst (pc := 1942) (v := 0) d_L_law_1942 (by decide) ?_
    exact R_retv (pc := 1943) d_L_law_1943 h
def T_L_law_1893 (κ28 : Nat → Nat → Nat → Nat → Int32 → Mem → Prop) (Q : Int32 → Mem → Prop) (sl : Nat) (xs : Nat → Int32) (v1 : Nat) (v2 : Nat) (v3 : Nat) (v4 : Nat) (v5 : Int32) (M : Mem) : Prop := T_L_law_2534 κ28 Q sl xs v1 v2 v3 v4 v5 M
set_option maxRecDepth 100000 in
set_option maxHeartbeats 4000000 in
theorem B_L_law_1893 {g : GG} {kr : Nat} (Q : Int32 → Mem → Prop) (κ28 : Nat → Nat → Nat → Nat → Int32 → Mem → Prop) (hκ28 : ∀ (v1 : Nat) (v2 : Nat) (v3 : Nat) (v4 : Nat) (v5 : Int32) (M : Mem), κ28 v1 v2 v3 v4 v5 M → WP g 20 mL_law 28 [some (.ref g.2.2.2.1), some (.ref (g.1 + v1)), some (.ref (g.1 + v2)), some (.ref (g.1 + v3)), some (.ref (g.1 + v4)), some (.int v5), none, none, none] [] M kr (oZ Q noX)) (v1 : Nat) (v2 : Nat) (v3 : Nat) (v4 : Nat) (v5 : Int32) (M : Mem) (h : T_L_law_1893 κ28 Q g.2.2.2.2.1 g.2.2.2.2.2 v1 v2 v3 v4 v5 M) : WP g 20 mL_law 1893 [some (.ref g.2.2.2.1), some (.ref (g.1 + v1)), some (.ref (g.1 + v2)), some (.ref (g.1 + v3)), some (.ref (g.1 + v4)), some (.int v5), none, none, none] [] M (kr + 1) (oZ Q noX) := by
  unfold T_L_law_1893 at h
  refine R_goto (pc := 1893) (tgt := 2534) d_L_law_1893 (by decide) ?_
  exact WP_sub (B_L_law_2534 Q κ28 hκ28 v1 v2 v3 v4 v5 M h) (by omega) (ls_s (ls_s (ls_s (ls_s (ls_s (ls_s (ls_n (ls_n (ls_n ls_0)))))))))
def T_L_law_1804 (κ28 : Nat → Nat → Nat → Nat → Int32 → Mem → Prop) (Q : Int32 → Mem → Prop) (sl : Nat) (xs : Nat → Int32) (v1 : Nat) (v2 : Nat) (v3 : Nat) (v4 : Nat) (v5 : Int32) (M : Mem) : Prop := (vp_in (v5 + 1) sl) ∧ (vp_in (v5 + 2) sl) ∧ (vp_in (v5 + 3) sl) ∧ (vp_in (v5 + 4) sl) ∧ T_L_wish (fun y6 M5 => (kd v2 = 7) ∧ T_X7_wish (fun y9 M8 => T_X7_thrown (fun y11 M10 => if y11 = y6 then (if y6 = 0 then ((kd v3 = 12) ∧ (vp_in 0 (ln v3)) ∧ if (lg_cmp (M10.2.1 (Int32.toNatClampNeg 0)) (Int32.toInt64 y9)) = 0 then (T_L_law_1893 κ28 Q sl xs v1 v2 v3 v4 v5 M10) else (((0 : Int32) = 0 ∨ (0 : Int32) = 1) ∧ Q 0 M10)) else (T_L_law_1893 κ28 Q sl xs v1 v2 v3 v4 v5 M10)) else (((0 : Int32) = 0 ∨ (0 : Int32) = 1) ∧ Q 0 M10))  v2 M8)  v2 (xs (Int32.toNatClampNeg (v5 + 1))) (xs (Int32.toNatClampNeg (v5 + 2))) (xs (Int32.toNatClampNeg (v5 + 3))) (xs (Int32.toNatClampNeg (v5 + 4))) M5)  v1 (xs (Int32.toNatClampNeg (v5 + 1))) (xs (Int32.toNatClampNeg (v5 + 2))) (xs (Int32.toNatClampNeg (v5 + 3))) (xs (Int32.toNatClampNeg (v5 + 4))) v3 M
set_option maxRecDepth 100000 in
set_option maxHeartbeats 4000000 in
theorem B_L_law_1804 {g : GG} {kr : Nat} (Q : Int32 → Mem → Prop) (κ28 : Nat → Nat → Nat → Nat → Int32 → Mem → Prop) (hκ28 : ∀ (v1 : Nat) (v2 : Nat) (v3 : Nat) (v4 : Nat) (v5 : Int32) (M : Mem), κ28 v1 v2 v3 v4 v5 M → WP g 20 mL_law 28 [some (.ref g.2.2.2.1), some (.ref (g.1 + v1)), some (.ref (g.1 + v2)), some (.ref (g.1 + v3)), some (.ref (g.1 + v4)), some (.int v5), none, none, none] [] M kr (oZ Q noX)) (v1 : Nat) (v2 : Nat) (v3 : Nat) (v4 : Nat) (v5 : Int32) (M : Mem) (h : T_L_law_1804 κ28 Q g.2.2.2.2.1 g.2.2.2.2.2 v1 v2 v3 v4 v5 M) : WP g 20 mL_law 1804 [some (.ref g.2.2.2.1), some (.ref (g.1 + v1)), some (.ref (g.1 + v2)), some (.ref (g.1 + v3)), some (.ref (g.1 + v4)), some (.int v5), none, none, none] [] M (kr + 2) (oZ Q noX) := by
  unfold T_L_law_1804 at h
  refine R_aload_n (pc := 1804) d_L_law_1804 rfl rfl ?_
  refine R_aload_n (pc := 1805) d_L_law_1805 rfl rfl ?_
  refine R_iload (pc := 1806) d_L_law_1806 rfl ?_
  refine R_iconst (pc := 1808) (v := 1) d_L_law_1808 (by decide) ?_
  refine R_iadd (pc := 1809) d_L_law_1809 ?_
  obtain ⟨k1, h⟩ := h
  refine R_sld (pc := 1810) k1 d_L_law_1810 ?_
  refine R_aload_n (pc := 1811) d_L_law_1811 rfl rfl ?_
  refine R_iload (pc := 1812) d_L_law_1812 rfl ?_
  refine R_iconst (pc := 1814) (v := 2) d_L_law_1814 (by decide) ?_
  refine R_iadd (pc := 1815) d_L_law_1815 ?_
  obtain ⟨k2, h⟩ := h
  refine R_sld (pc := 1816) k2 d_L_law_1816 ?_
  refine R_aload_n (pc := 1817) d_L_law_1817 rfl rfl ?_
  refine R_iload (pc := 1818) d_L_law_1818 rfl ?_
  refine R_iconst (pc := 1820) (v := 3) d_L_law_1820 (by decide) ?_
  refine R_iadd (pc := 1821) d_L_law_1821 ?_
  obtain ⟨k3, h⟩ := h
  refine R_sld (pc := 1822) k3 d_L_law_1822 ?_
  refine R_aload_n (pc := 1823) d_L_law_1823 rfl rfl ?_
  refine R_iload (pc := 1824) d_L_law_1824 rfl ?_
  refine R_iconst (pc := 1826) (v := 4) d_L_law_1826 (by decide) ?_
  refine R_iadd (pc := 1827) d_L_law_1827 ?_
  obtain ⟨k4, h⟩ := h
  refine R_sld (pc := 1828) k4 d_L_law_1828 ?_
  refine R_aload_n (pc := 1829) d_L_law_1829 rfl rfl ?_
  refine R_callSW (pc := 1830) (As := [.ref (g.1 + v1), .int (xs (Int32.toNatClampNeg (v5 + 1))), .int (xs (Int32.toNatClampNeg (v5 + 2))), .int (xs (Int32.toNatClampNeg (v5 + 3))), .int (xs (Int32.toNatClampNeg (v5 + 4))), .ref (g.1 + v3)]) (rest := []) (c_L_wish (g := g) v1 (xs (Int32.toNatClampNeg (v5 + 1))) (xs (Int32.toNatClampNeg (v5 + 2))) (xs (Int32.toNatClampNeg (v5 + 3))) (xs (Int32.toNatClampNeg (v5 + 4))) v3 M _ h) rfl rfl cal_RL_211 sta_L_wish (by decide) (by omega) rfl rfl (Nat.le_of_ble_eq_true rfl) d_L_law_1830 (k_I (fun y6 M5 h => ?_)) (fun _ _ h9 => False.elim h9)
  try dsimp only at h
  refine R_istore (pc := 1833) (L' := [some (.ref g.2.2.2.1), some (.ref (g.1 + v1)), some (.ref (g.1 + v2)), some (.ref (g.1 + v3)), some (.ref (g.1 + v4)), some (.int v5), some (.int y6), none, none]) d_L_law_1833 (by decide) rfl ?_
  refine R_aload_n (pc := 1835) d_L_law_1835 rfl rfl ?_
  refine R_aload_n (pc := 1836) d_L_law_1836 rfl rfl ?_
  refine R_iload (pc := 1837) d_L_law_1837 rfl ?_
  refine R_iconst (pc := 1839) (v := 1) d_L_law_1839 (by decide) ?_
  refine R_iadd (pc := 1840) d_L_law_1840 ?_
  refine R_sld (pc := 1841) k1 d_L_law_1841 ?_
  refine R_aload_n (pc := 1842) d_L_law_1842 rfl rfl ?_
  refine R_iload (pc := 1843) d_L_law_1843 rfl ?_
  refine R_iconst (pc := 1845) (v := 2) d_L_law_1845 (by decide) ?_
  refine R_iadd (pc := 1846) d_L_law_1846 ?_
  refine R_sld (pc := 1847) k2 d_L_law_1847 ?_
  refine R_aload_n (pc := 1848) d_L_law_1848 rfl rfl ?_
  refine R_iload (pc := 1849) d_L_law_1849 rfl ?_
  refine R_iconst (pc := 1851) (v := 3) d_L_law_1851 (by decide) ?_
  refine R_iadd (pc := 1852) d_L_law_1852 ?_
  refine R_sld (pc := 1853) k3 d_L_law_1853 ?_
  refine R_aload_n (pc := 1854) d_L_law_1854 rfl rfl ?_
  refine R_iload (pc := 1855) d_L_law_1855 rfl ?_
  refine R_iconst (pc := 1857) (v := 4) d_L_law_1857 (by decide) ?_
  refine R_iadd (pc := 1858) d_L_law_1858 ?_
  refine R_sld (pc := 1859) k4 d_L_law_1859 ?_
  obtain ⟨k7, h⟩ := h
  refine R_callV (pc := 1860) (As := [.int (xs (Int32.toNatClampNeg (v5 + 1))), .int (xs (Int32.toNatClampNeg (v5 + 2))), .int (xs (Int32.toNatClampNeg (v5 + 3))), .int (xs (Int32.toNatClampNeg (v5 + 4)))]) (rest := []) (c_X7_wish (g := g) v2 (xs (Int32.toNatClampNeg (v5 + 1))) (xs (Int32.toNatClampNeg (v5 + 2))) (xs (Int32.toNatClampNeg (v5 + 3))) (xs (Int32.toNatClampNeg (v5 + 4))) M5 _ h) rfl rfl cal_RL_213 ins_X7_wish sel_X7_wish (cls_at k7 clsOK7) (by decide) (by omega) rfl rfl (Nat.le_of_ble_eq_true rfl) d_L_law_1860 (k_I (fun y9 M8 h => ?_)) (fun _ _ h9 => False.elim h9)
  try dsimp only at h
  refine R_istore (pc := 1863) (L' := [some (.ref g.2.2.2.1), some (.ref (g.1 + v1)), some (.ref (g.1 + v2)), some (.ref (g.1 + v3)), some (.ref (g.1 + v4)), some (.int v5), some (.int y6), some (.int y9), none]) d_L_law_1863 (by decide) rfl ?_
  refine R_aload_n (pc := 1865) d_L_law_1865 rfl rfl ?_
  refine R_callV (pc := 1866) (As := []) (rest := []) (c_X7_thrown (g := g) v2 M8 _ h) rfl rfl cal_RL_140 ins_X7_thrown sel_X7_thrown (cls_at k7 clsOK7) (by decide) (by omega) rfl rfl (Nat.le_of_ble_eq_true rfl) d_L_law_1866 (k_I (fun y11 M10 h => ?_)) (fun _ _ h9 => False.elim h9)
  try dsimp only at h
  refine R_iload (pc := 1869) d_L_law_1869 rfl ?_
  refine R_icmp_eq (pc := 1871) (tgt := 1876) d_L_law_1871 (by decide) (fun c => ?_) (fun c => ?_)
  · rw [if_pos c] at h
    refine R_iload (pc := 1876) d_L_law_1876 rfl ?_
    refine R_if_ne (pc := 1878) (tgt := 1893) d_L_law_1878 (by decide) (fun c => ?_) (fun c => ?_)
    · rw [if_neg c] at h
      exact WP_sub (B_L_law_1893 Q κ28 hκ28 v1 v2 v3 v4 v5 M10 h) (by omega) (ls_s (ls_s (ls_s (ls_s (ls_s (ls_s (ls_n (ls_n (ls_n ls_0)))))))))
    · rw [if_pos c] at h
      refine R_aload_n (pc := 1881) d_L_law_1881 rfl rfl ?_
      refine R_iconst (pc := 1882) (v := 0) d_L_law_1882 (by decide) ?_
      obtain ⟨k12, h⟩ := h
      obtain ⟨k13, h⟩ := h
      refine R_lald (pc := 1883) k12 k13 d_L_law_1883 ?_
      refine R_iload (pc := 1884) d_L_law_1884 rfl ?_
      refine R_i2l (pc := 1886) d_L_law_1886 ?_
      refine R_lcmp (pc := 1887) d_L_law_1887 ?_
      refine R_if_eq (pc := 1888) (tgt := 1893) d_L_law_1888 (by decide) (fun c => ?_) (fun c => ?_)
      · rw [if_pos c] at h
        exact WP_sub (B_L_law_1893 Q κ28 hκ28 v1 v2 v3 v4 v5 M10 h) (by omega) (ls_s (ls_s (ls_s (ls_s (ls_s (ls_s (ls_n (ls_n (ls_n ls_0)))))))))
      · rw [if_neg c] at h
        refine R_iconst (pc := 1891) (v := 0) d_L_law_1891 (by decide) ?_
        exact R_retv (pc := 1892) d_L_law_1892 h
  · rw [if_neg c] at h
    refine R_iconst (pc := 1874) (v := 0) d_L_law_1874 (by decide) ?_
    exact R_retv (pc := 1875) d_L_law_1875 h
def T_L_law_1801 (κ28 : Nat → Nat → Nat → Nat → Int32 → Mem → Prop) (Q : Int32 → Mem → Prop) (sl : Nat) (xs : Nat → Int32) (v1 : Nat) (v2 : Nat) (v3 : Nat) (v4 : Nat) (v5 : Int32) (M : Mem) : Prop := T_L_law_2534 κ28 Q sl xs v1 v2 v3 v4 v5 M
set_option maxRecDepth 100000 in
set_option maxHeartbeats 4000000 in
theorem B_L_law_1801 {g : GG} {kr : Nat} (Q : Int32 → Mem → Prop) (κ28 : Nat → Nat → Nat → Nat → Int32 → Mem → Prop) (hκ28 : ∀ (v1 : Nat) (v2 : Nat) (v3 : Nat) (v4 : Nat) (v5 : Int32) (M : Mem), κ28 v1 v2 v3 v4 v5 M → WP g 20 mL_law 28 [some (.ref g.2.2.2.1), some (.ref (g.1 + v1)), some (.ref (g.1 + v2)), some (.ref (g.1 + v3)), some (.ref (g.1 + v4)), some (.int v5), none, none, none] [] M kr (oZ Q noX)) (v1 : Nat) (v2 : Nat) (v3 : Nat) (v4 : Nat) (v5 : Int32) (M : Mem) (h : T_L_law_1801 κ28 Q g.2.2.2.2.1 g.2.2.2.2.2 v1 v2 v3 v4 v5 M) : WP g 20 mL_law 1801 [some (.ref g.2.2.2.1), some (.ref (g.1 + v1)), some (.ref (g.1 + v2)), some (.ref (g.1 + v3)), some (.ref (g.1 + v4)), some (.int v5), none, none, none] [] M (kr + 1) (oZ Q noX) := by
  unfold T_L_law_1801 at h
  refine R_goto (pc := 1801) (tgt := 2534) d_L_law_1801 (by decide) ?_
  exact WP_sub (B_L_law_2534 Q κ28 hκ28 v1 v2 v3 v4 v5 M h) (by omega) (ls_s (ls_s (ls_s (ls_s (ls_s (ls_s (ls_n (ls_n (ls_n ls_0)))))))))
def T_L_law_1736 (κ28 : Nat → Nat → Nat → Nat → Int32 → Mem → Prop) (Q : Int32 → Mem → Prop) (sl : Nat) (xs : Nat → Int32) (v1 : Nat) (v2 : Nat) (v3 : Nat) (v4 : Nat) (v5 : Int32) (M : Mem) : Prop := (vp_in (v5 + 1) sl) ∧ (vp_in (v5 + 2) sl) ∧ T_L_banned (fun y4 M3 => (kd v2 = 7) ∧ T_X7_banned (fun y7 M6 => T_X7_thrown (fun y9 M8 => if y9 = y4 then (if y4 = 0 then ((kd v3 = 12) ∧ (vp_in 0 (ln v3)) ∧ if (lg_cmp (M8.2.1 (Int32.toNatClampNeg 0)) (Int32.toInt64 y7)) = 0 then (T_L_law_1801 κ28 Q sl xs v1 v2 v3 v4 v5 M8) else (((0 : Int32) = 0 ∨ (0 : Int32) = 1) ∧ Q 0 M8)) else (T_L_law_1801 κ28 Q sl xs v1 v2 v3 v4 v5 M8)) else (((0 : Int32) = 0 ∨ (0 : Int32) = 1) ∧ Q 0 M8))  v2 M6)  v2 (xs (Int32.toNatClampNeg (v5 + 1))) (xs (Int32.toNatClampNeg (v5 + 2))) M3)  v1 (xs (Int32.toNatClampNeg (v5 + 1))) (xs (Int32.toNatClampNeg (v5 + 2))) v3 M
set_option maxRecDepth 100000 in
set_option maxHeartbeats 4000000 in
theorem B_L_law_1736 {g : GG} {kr : Nat} (Q : Int32 → Mem → Prop) (κ28 : Nat → Nat → Nat → Nat → Int32 → Mem → Prop) (hκ28 : ∀ (v1 : Nat) (v2 : Nat) (v3 : Nat) (v4 : Nat) (v5 : Int32) (M : Mem), κ28 v1 v2 v3 v4 v5 M → WP g 20 mL_law 28 [some (.ref g.2.2.2.1), some (.ref (g.1 + v1)), some (.ref (g.1 + v2)), some (.ref (g.1 + v3)), some (.ref (g.1 + v4)), some (.int v5), none, none, none] [] M kr (oZ Q noX)) (v1 : Nat) (v2 : Nat) (v3 : Nat) (v4 : Nat) (v5 : Int32) (M : Mem) (h : T_L_law_1736 κ28 Q g.2.2.2.2.1 g.2.2.2.2.2 v1 v2 v3 v4 v5 M) : WP g 20 mL_law 1736 [some (.ref g.2.2.2.1), some (.ref (g.1 + v1)), some (.ref (g.1 + v2)), some (.ref (g.1 + v3)), some (.ref (g.1 + v4)), some (.int v5), none, none, none] [] M (kr + 2) (oZ Q noX) := by
  unfold T_L_law_1736 at h
  refine R_aload_n (pc := 1736) d_L_law_1736 rfl rfl ?_
  refine R_aload_n (pc := 1737) d_L_law_1737 rfl rfl ?_
  refine R_iload (pc := 1738) d_L_law_1738 rfl ?_
  refine R_iconst (pc := 1740) (v := 1) d_L_law_1740 (by decide) ?_
  refine R_iadd (pc := 1741) d_L_law_1741 ?_
  obtain ⟨k1, h⟩ := h
  refine R_sld (pc := 1742) k1 d_L_law_1742 ?_
  refine R_aload_n (pc := 1743) d_L_law_1743 rfl rfl ?_
  refine R_iload (pc := 1744) d_L_law_1744 rfl ?_
  refine R_iconst (pc := 1746) (v := 2) d_L_law_1746 (by decide) ?_
  refine R_iadd (pc := 1747) d_L_law_1747 ?_
  obtain ⟨k2, h⟩ := h
  refine R_sld (pc := 1748) k2 d_L_law_1748 ?_
  refine R_aload_n (pc := 1749) d_L_law_1749 rfl rfl ?_
  refine R_callSW (pc := 1750) (As := [.ref (g.1 + v1), .int (xs (Int32.toNatClampNeg (v5 + 1))), .int (xs (Int32.toNatClampNeg (v5 + 2))), .ref (g.1 + v3)]) (rest := []) (c_L_banned (g := g) v1 (xs (Int32.toNatClampNeg (v5 + 1))) (xs (Int32.toNatClampNeg (v5 + 2))) v3 M _ h) rfl rfl cal_RL_208 sta_L_banned (by decide) (by omega) rfl rfl (Nat.le_of_ble_eq_true rfl) d_L_law_1750 (k_I (fun y4 M3 h => ?_)) (fun _ _ h9 => False.elim h9)
  try dsimp only at h
  refine R_istore (pc := 1753) (L' := [some (.ref g.2.2.2.1), some (.ref (g.1 + v1)), some (.ref (g.1 + v2)), some (.ref (g.1 + v3)), some (.ref (g.1 + v4)), some (.int v5), some (.int y4), none, none]) d_L_law_1753 (by decide) rfl ?_
  refine R_aload_n (pc := 1755) d_L_law_1755 rfl rfl ?_
  refine R_aload_n (pc := 1756) d_L_law_1756 rfl rfl ?_
  refine R_iload (pc := 1757) d_L_law_1757 rfl ?_
  refine R_iconst (pc := 1759) (v := 1) d_L_law_1759 (by decide) ?_
  refine R_iadd (pc := 1760) d_L_law_1760 ?_
  refine R_sld (pc := 1761) k1 d_L_law_1761 ?_
  refine R_aload_n (pc := 1762) d_L_law_1762 rfl rfl ?_
  refine R_iload (pc := 1763) d_L_law_1763 rfl ?_
  refine R_iconst (pc := 1765) (v := 2) d_L_law_1765 (by decide) ?_
  refine R_iadd (pc := 1766) d_L_law_1766 ?_
  refine R_sld (pc := 1767) k2 d_L_law_1767 ?_
  obtain ⟨k5, h⟩ := h
  refine R_callV (pc := 1768) (As := [.int (xs (Int32.toNatClampNeg (v5 + 1))), .int (xs (Int32.toNatClampNeg (v5 + 2)))]) (rest := []) (c_X7_banned (g := g) v2 (xs (Int32.toNatClampNeg (v5 + 1))) (xs (Int32.toNatClampNeg (v5 + 2))) M3 _ h) rfl rfl cal_RL_210 ins_X7_banned sel_X7_banned (cls_at k5 clsOK7) (by decide) (by omega) rfl rfl (Nat.le_of_ble_eq_true rfl) d_L_law_1768 (k_I (fun y7 M6 h => ?_)) (fun _ _ h9 => False.elim h9)
  try dsimp only at h
  refine R_istore (pc := 1771) (L' := [some (.ref g.2.2.2.1), some (.ref (g.1 + v1)), some (.ref (g.1 + v2)), some (.ref (g.1 + v3)), some (.ref (g.1 + v4)), some (.int v5), some (.int y4), some (.int y7), none]) d_L_law_1771 (by decide) rfl ?_
  refine R_aload_n (pc := 1773) d_L_law_1773 rfl rfl ?_
  refine R_callV (pc := 1774) (As := []) (rest := []) (c_X7_thrown (g := g) v2 M6 _ h) rfl rfl cal_RL_140 ins_X7_thrown sel_X7_thrown (cls_at k5 clsOK7) (by decide) (by omega) rfl rfl (Nat.le_of_ble_eq_true rfl) d_L_law_1774 (k_I (fun y9 M8 h => ?_)) (fun _ _ h9 => False.elim h9)
  try dsimp only at h
  refine R_iload (pc := 1777) d_L_law_1777 rfl ?_
  refine R_icmp_eq (pc := 1779) (tgt := 1784) d_L_law_1779 (by decide) (fun c => ?_) (fun c => ?_)
  · rw [if_pos c] at h
    refine R_iload (pc := 1784) d_L_law_1784 rfl ?_
    refine R_if_ne (pc := 1786) (tgt := 1801) d_L_law_1786 (by decide) (fun c => ?_) (fun c => ?_)
    · rw [if_neg c] at h
      exact WP_sub (B_L_law_1801 Q κ28 hκ28 v1 v2 v3 v4 v5 M8 h) (by omega) (ls_s (ls_s (ls_s (ls_s (ls_s (ls_s (ls_n (ls_n (ls_n ls_0)))))))))
    · rw [if_pos c] at h
      refine R_aload_n (pc := 1789) d_L_law_1789 rfl rfl ?_
      refine R_iconst (pc := 1790) (v := 0) d_L_law_1790 (by decide) ?_
      obtain ⟨k10, h⟩ := h
      obtain ⟨k11, h⟩ := h
      refine R_lald (pc := 1791) k10 k11 d_L_law_1791 ?_
      refine R_iload (pc := 1792) d_L_law_1792 rfl ?_
      refine R_i2l (pc := 1794) d_L_law_1794 ?_
      refine R_lcmp (pc := 1795) d_L_law_1795 ?_
      refine R_if_eq (pc := 1796) (tgt := 1801) d_L_law_1796 (by decide) (fun c => ?_) (fun c => ?_)
      · rw [if_pos c] at h
        exact WP_sub (B_L_law_1801 Q κ28 hκ28 v1 v2 v3 v4 v5 M8 h) (by omega) (ls_s (ls_s (ls_s (ls_s (ls_s (ls_s (ls_n (ls_n (ls_n ls_0)))))))))
      · rw [if_neg c] at h
        refine R_iconst (pc := 1799) (v := 0) d_L_law_1799 (by decide) ?_
        exact R_retv (pc := 1800) d_L_law_1800 h
  · rw [if_neg c] at h
    refine R_iconst (pc := 1782) (v := 0) d_L_law_1782 (by decide) ?_
    exact R_retv (pc := 1783) d_L_law_1783 h
def T_L_law_1733 (κ28 : Nat → Nat → Nat → Nat → Int32 → Mem → Prop) (Q : Int32 → Mem → Prop) (sl : Nat) (xs : Nat → Int32) (v1 : Nat) (v2 : Nat) (v3 : Nat) (v4 : Nat) (v5 : Int32) (M : Mem) : Prop := T_L_law_2534 κ28 Q sl xs v1 v2 v3 v4 v5 M
set_option maxRecDepth 100000 in
set_option maxHeartbeats 4000000 in
theorem B_L_law_1733 {g : GG} {kr : Nat} (Q : Int32 → Mem → Prop) (κ28 : Nat → Nat → Nat → Nat → Int32 → Mem → Prop) (hκ28 : ∀ (v1 : Nat) (v2 : Nat) (v3 : Nat) (v4 : Nat) (v5 : Int32) (M : Mem), κ28 v1 v2 v3 v4 v5 M → WP g 20 mL_law 28 [some (.ref g.2.2.2.1), some (.ref (g.1 + v1)), some (.ref (g.1 + v2)), some (.ref (g.1 + v3)), some (.ref (g.1 + v4)), some (.int v5), none, none, none] [] M kr (oZ Q noX)) (v1 : Nat) (v2 : Nat) (v3 : Nat) (v4 : Nat) (v5 : Int32) (M : Mem) (h : T_L_law_1733 κ28 Q g.2.2.2.2.1 g.2.2.2.2.2 v1 v2 v3 v4 v5 M) : WP g 20 mL_law 1733 [some (.ref g.2.2.2.1), some (.ref (g.1 + v1)), some (.ref (g.1 + v2)), some (.ref (g.1 + v3)), some (.ref (g.1 + v4)), some (.int v5), none, none, none] [] M (kr + 1) (oZ Q noX) := by
  unfold T_L_law_1733 at h
  refine R_goto (pc := 1733) (tgt := 2534) d_L_law_1733 (by decide) ?_
  exact WP_sub (B_L_law_2534 Q κ28 hκ28 v1 v2 v3 v4 v5 M h) (by omega) (ls_s (ls_s (ls_s (ls_s (ls_s (ls_s (ls_n (ls_n (ls_n ls_0)))))))))
def T_L_law_1680 (κ28 : Nat → Nat → Nat → Nat → Int32 → Mem → Prop) (Q : Int32 → Mem → Prop) (sl : Nat) (xs : Nat → Int32) (v1 : Nat) (v2 : Nat) (v3 : Nat) (v4 : Nat) (v5 : Int32) (M : Mem) : Prop := (vp_in (v5 + 1) sl) ∧ T_L_lift (fun y3 M2 => (kd v2 = 7) ∧ T_X7_lift (fun y6 M5 => T_X7_thrown (fun y8 M7 => if y8 = y3 then (if y3 = 0 then ((kd v3 = 12) ∧ (vp_in 0 (ln v3)) ∧ if (lg_cmp (M7.2.1 (Int32.toNatClampNeg 0)) (Int32.toInt64 y6)) = 0 then (T_L_law_1733 κ28 Q sl xs v1 v2 v3 v4 v5 M7) else (((0 : Int32) = 0 ∨ (0 : Int32) = 1) ∧ Q 0 M7)) else (T_L_law_1733 κ28 Q sl xs v1 v2 v3 v4 v5 M7)) else (((0 : Int32) = 0 ∨ (0 : Int32) = 1) ∧ Q 0 M7))  v2 M5)  v2 (xs (Int32.toNatClampNeg (v5 + 1))) M2)  v1 (xs (Int32.toNatClampNeg (v5 + 1))) v3 M
set_option maxRecDepth 100000 in
set_option maxHeartbeats 4000000 in
theorem B_L_law_1680 {g : GG} {kr : Nat} (Q : Int32 → Mem → Prop) (κ28 : Nat → Nat → Nat → Nat → Int32 → Mem → Prop) (hκ28 : ∀ (v1 : Nat) (v2 : Nat) (v3 : Nat) (v4 : Nat) (v5 : Int32) (M : Mem), κ28 v1 v2 v3 v4 v5 M → WP g 20 mL_law 28 [some (.ref g.2.2.2.1), some (.ref (g.1 + v1)), some (.ref (g.1 + v2)), some (.ref (g.1 + v3)), some (.ref (g.1 + v4)), some (.int v5), none, none, none] [] M kr (oZ Q noX)) (v1 : Nat) (v2 : Nat) (v3 : Nat) (v4 : Nat) (v5 : Int32) (M : Mem) (h : T_L_law_1680 κ28 Q g.2.2.2.2.1 g.2.2.2.2.2 v1 v2 v3 v4 v5 M) : WP g 20 mL_law 1680 [some (.ref g.2.2.2.1), some (.ref (g.1 + v1)), some (.ref (g.1 + v2)), some (.ref (g.1 + v3)), some (.ref (g.1 + v4)), some (.int v5), none, none, none] [] M (kr + 2) (oZ Q noX) := by
  unfold T_L_law_1680 at h
  refine R_aload_n (pc := 1680) d_L_law_1680 rfl rfl ?_
  refine R_aload_n (pc := 1681) d_L_law_1681 rfl rfl ?_
  refine R_iload (pc := 1682) d_L_law_1682 rfl ?_
  refine R_iconst (pc := 1684) (v := 1) d_L_law_1684 (by decide) ?_
  refine R_iadd (pc := 1685) d_L_law_1685 ?_
  obtain ⟨k1, h⟩ := h
  refine R_sld (pc := 1686) k1 d_L_law_1686 ?_
  refine R_aload_n (pc := 1687) d_L_law_1687 rfl rfl ?_
  refine R_callSW (pc := 1688) (As := [.ref (g.1 + v1), .int (xs (Int32.toNatClampNeg (v5 + 1))), .ref (g.1 + v3)]) (rest := []) (c_L_lift (g := g) v1 (xs (Int32.toNatClampNeg (v5 + 1))) v3 M _ h) rfl rfl cal_RL_205 sta_L_lift (by decide) (by omega) rfl rfl (Nat.le_of_ble_eq_true rfl) d_L_law_1688 (k_I (fun y3 M2 h => ?_)) (fun _ _ h9 => False.elim h9)
  try dsimp only at h
  refine R_istore (pc := 1691) (L' := [some (.ref g.2.2.2.1), some (.ref (g.1 + v1)), some (.ref (g.1 + v2)), some (.ref (g.1 + v3)), some (.ref (g.1 + v4)), some (.int v5), some (.int y3), none, none]) d_L_law_1691 (by decide) rfl ?_
  refine R_aload_n (pc := 1693) d_L_law_1693 rfl rfl ?_
  refine R_aload_n (pc := 1694) d_L_law_1694 rfl rfl ?_
  refine R_iload (pc := 1695) d_L_law_1695 rfl ?_
  refine R_iconst (pc := 1697) (v := 1) d_L_law_1697 (by decide) ?_
  refine R_iadd (pc := 1698) d_L_law_1698 ?_
  refine R_sld (pc := 1699) k1 d_L_law_1699 ?_
  obtain ⟨k4, h⟩ := h
  refine R_callV (pc := 1700) (As := [.int (xs (Int32.toNatClampNeg (v5 + 1)))]) (rest := []) (c_X7_lift (g := g) v2 (xs (Int32.toNatClampNeg (v5 + 1))) M2 _ h) rfl rfl cal_RL_207 ins_X7_lift sel_X7_lift (cls_at k4 clsOK7) (by decide) (by omega) rfl rfl (Nat.le_of_ble_eq_true rfl) d_L_law_1700 (k_I (fun y6 M5 h => ?_)) (fun _ _ h9 => False.elim h9)
  try dsimp only at h
  refine R_istore (pc := 1703) (L' := [some (.ref g.2.2.2.1), some (.ref (g.1 + v1)), some (.ref (g.1 + v2)), some (.ref (g.1 + v3)), some (.ref (g.1 + v4)), some (.int v5), some (.int y3), some (.int y6), none]) d_L_law_1703 (by decide) rfl ?_
  refine R_aload_n (pc := 1705) d_L_law_1705 rfl rfl ?_
  refine R_callV (pc := 1706) (As := []) (rest := []) (c_X7_thrown (g := g) v2 M5 _ h) rfl rfl cal_RL_140 ins_X7_thrown sel_X7_thrown (cls_at k4 clsOK7) (by decide) (by omega) rfl rfl (Nat.le_of_ble_eq_true rfl) d_L_law_1706 (k_I (fun y8 M7 h => ?_)) (fun _ _ h9 => False.elim h9)
  try dsimp only at h
  refine R_iload (pc := 1709) d_L_law_1709 rfl ?_
  refine R_icmp_eq (pc := 1711) (tgt := 1716) d_L_law_1711 (by decide) (fun c => ?_) (fun c => ?_)
  · rw [if_pos c] at h
    refine R_iload (pc := 1716) d_L_law_1716 rfl ?_
    refine R_if_ne (pc := 1718) (tgt := 1733) d_L_law_1718 (by decide) (fun c => ?_) (fun c => ?_)
    · rw [if_neg c] at h
      exact WP_sub (B_L_law_1733 Q κ28 hκ28 v1 v2 v3 v4 v5 M7 h) (by omega) (ls_s (ls_s (ls_s (ls_s (ls_s (ls_s (ls_n (ls_n (ls_n ls_0)))))))))
    · rw [if_pos c] at h
      refine R_aload_n (pc := 1721) d_L_law_1721 rfl rfl ?_
      refine R_iconst (pc := 1722) (v := 0) d_L_law_1722 (by decide) ?_
      obtain ⟨k9, h⟩ := h
      obtain ⟨k10, h⟩ := h
      refine R_lald (pc := 1723) k9 k10 d_L_law_1723 ?_
      refine R_iload (pc := 1724) d_L_law_1724 rfl ?_
      refine R_i2l (pc := 1726) d_L_law_1726 ?_
      refine R_lcmp (pc := 1727) d_L_law_1727 ?_
      refine R_if_eq (pc := 1728) (tgt := 1733) d_L_law_1728 (by decide) (fun c => ?_) (fun c => ?_)
      · rw [if_pos c] at h
        exact WP_sub (B_L_law_1733 Q κ28 hκ28 v1 v2 v3 v4 v5 M7 h) (by omega) (ls_s (ls_s (ls_s (ls_s (ls_s (ls_s (ls_n (ls_n (ls_n ls_0)))))))))
      · rw [if_neg c] at h
        refine R_iconst (pc := 1731) (v := 0) d_L_law_1731 (by decide) ?_
        exact R_retv (pc := 1732) d_L_law_1732 h
  · rw [if_neg c] at h
    refine R_iconst (pc := 1714) (v := 0) d_L_law_1714 (by decide) ?_
    exact R_retv (pc := 1715) d_L_law_1715 h
def T_L_law_1677 (κ28 : Nat → Nat → Nat → Nat → Int32 → Mem → Prop) (Q : Int32 → Mem → Prop) (sl : Nat) (xs : Nat → Int32) (v1 : Nat) (v2 : Nat) (v3 : Nat) (v4 : Nat) (v5 : Int32) (M : Mem) : Prop := T_L_law_2534 κ28 Q sl xs v1 v2 v3 v4 v5 M
set_option maxRecDepth 100000 in
set_option maxHeartbeats 4000000 in
theorem B_L_law_1677 {g : GG} {kr : Nat} (Q : Int32 → Mem → Prop) (κ28 : Nat → Nat → Nat → Nat → Int32 → Mem → Prop) (hκ28 : ∀ (v1 : Nat) (v2 : Nat) (v3 : Nat) (v4 : Nat) (v5 : Int32) (M : Mem), κ28 v1 v2 v3 v4 v5 M → WP g 20 mL_law 28 [some (.ref g.2.2.2.1), some (.ref (g.1 + v1)), some (.ref (g.1 + v2)), some (.ref (g.1 + v3)), some (.ref (g.1 + v4)), some (.int v5), none, none, none] [] M kr (oZ Q noX)) (v1 : Nat) (v2 : Nat) (v3 : Nat) (v4 : Nat) (v5 : Int32) (M : Mem) (h : T_L_law_1677 κ28 Q g.2.2.2.2.1 g.2.2.2.2.2 v1 v2 v3 v4 v5 M) : WP g 20 mL_law 1677 [some (.ref g.2.2.2.1), some (.ref (g.1 + v1)), some (.ref (g.1 + v2)), some (.ref (g.1 + v3)), some (.ref (g.1 + v4)), some (.int v5), none, none, none] [] M (kr + 1) (oZ Q noX) := by
  unfold T_L_law_1677 at h
  refine R_goto (pc := 1677) (tgt := 2534) d_L_law_1677 (by decide) ?_
  exact WP_sub (B_L_law_2534 Q κ28 hκ28 v1 v2 v3 v4 v5 M h) (by omega) (ls_s (ls_s (ls_s (ls_s (ls_s (ls_s (ls_n (ls_n (ls_n ls_0)))))))))
def T_L_law_1576 (κ28 : Nat → Nat → Nat → Nat → Int32 → Mem → Prop) (Q : Int32 → Mem → Prop) (sl : Nat) (xs : Nat → Int32) (v1 : Nat) (v2 : Nat) (v3 : Nat) (v4 : Nat) (v5 : Int32) (M : Mem) : Prop := (vp_in (v5 + 1) sl) ∧ (vp_in (v5 + 2) sl) ∧ (vp_in (v5 + 3) sl) ∧ (vp_in (v5 + 4) sl) ∧ (vp_in (v5 + 5) sl) ∧ T_L_ban (fun y7 M6 => (kd v2 = 7) ∧ T_X7_ban (fun y10 M9 => T_X7_thrown (fun y12 M11 => if y12 = y7 then (if y7 = 0 then ((kd v3 = 12) ∧ (vp_in 0 (ln v3)) ∧ if (lg_cmp (M11.2.1 (Int32.toNatClampNeg 0)) (Int32.toInt64 y10)) = 0 then (T_L_law_1677 κ28 Q sl xs v1 v2 v3 v4 v5 M11) else (((0 : Int32) = 0 ∨ (0 : Int32) = 1) ∧ Q 0 M11)) else (T_L_law_1677 κ28 Q sl xs v1 v2 v3 v4 v5 M11)) else (((0 : Int32) = 0 ∨ (0 : Int32) = 1) ∧ Q 0 M11))  v2 M9)  v2 (xs (Int32.toNatClampNeg (v5 + 1))) (xs (Int32.toNatClampNeg (v5 + 2))) (xs (Int32.toNatClampNeg (v5 + 3))) (xs (Int32.toNatClampNeg (v5 + 4))) (xs (Int32.toNatClampNeg (v5 + 5))) M6)  v1 (xs (Int32.toNatClampNeg (v5 + 1))) (xs (Int32.toNatClampNeg (v5 + 2))) (xs (Int32.toNatClampNeg (v5 + 3))) (xs (Int32.toNatClampNeg (v5 + 4))) (xs (Int32.toNatClampNeg (v5 + 5))) v3 M
set_option maxRecDepth 100000 in
set_option maxHeartbeats 4000000 in
theorem B_L_law_1576 {g : GG} {kr : Nat} (Q : Int32 → Mem → Prop) (κ28 : Nat → Nat → Nat → Nat → Int32 → Mem → Prop) (hκ28 : ∀ (v1 : Nat) (v2 : Nat) (v3 : Nat) (v4 : Nat) (v5 : Int32) (M : Mem), κ28 v1 v2 v3 v4 v5 M → WP g 20 mL_law 28 [some (.ref g.2.2.2.1), some (.ref (g.1 + v1)), some (.ref (g.1 + v2)), some (.ref (g.1 + v3)), some (.ref (g.1 + v4)), some (.int v5), none, none, none] [] M kr (oZ Q noX)) (v1 : Nat) (v2 : Nat) (v3 : Nat) (v4 : Nat) (v5 : Int32) (M : Mem) (h : T_L_law_1576 κ28 Q g.2.2.2.2.1 g.2.2.2.2.2 v1 v2 v3 v4 v5 M) : WP g 20 mL_law 1576 [some (.ref g.2.2.2.1), some (.ref (g.1 + v1)), some (.ref (g.1 + v2)), some (.ref (g.1 + v3)), some (.ref (g.1 + v4)), some (.int v5), none, none, none] [] M (kr + 2) (oZ Q noX) := by
  unfold T_L_law_1576 at h
  refine R_aload_n (pc := 1576) d_L_law_1576 rfl rfl ?_
  refine R_aload_n (pc := 1577) d_L_law_1577 rfl rfl ?_
  refine R_iload (pc := 1578) d_L_law_1578 rfl ?_
  refine R_iconst (pc := 1580) (v := 1) d_L_law_1580 (by decide) ?_
  refine R_iadd (pc := 1581) d_L_law_1581 ?_
  obtain ⟨k1, h⟩ := h
  refine R_sld (pc := 1582) k1 d_L_law_1582 ?_
  refine R_aload_n (pc := 1583) d_L_law_1583 rfl rfl ?_
  refine R_iload (pc := 1584) d_L_law_1584 rfl ?_
  refine R_iconst (pc := 1586) (v := 2) d_L_law_1586 (by decide) ?_
  refine R_iadd (pc := 1587) d_L_law_1587 ?_
  obtain ⟨k2, h⟩ := h
  refine R_sld (pc := 1588) k2 d_L_law_1588 ?_
  refine R_aload_n (pc := 1589) d_L_law_1589 rfl rfl ?_
  refine R_iload (pc := 1590) d_L_law_1590 rfl ?_
  refine R_iconst (pc := 1592) (v := 3) d_L_law_1592 (by decide) ?_
  refine R_iadd (pc := 1593) d_L_law_1593 ?_
  obtain ⟨k3, h⟩ := h
  refine R_sld (pc := 1594) k3 d_L_law_1594 ?_
  refine R_aload_n (pc := 1595) d_L_law_1595 rfl rfl ?_
  refine R_iload (pc := 1596) d_L_law_1596 rfl ?_
  refine R_iconst (pc := 1598) (v := 4) d_L_law_1598 (by decide) ?_
  refine R_iadd (pc := 1599) d_L_law_1599 ?_
  obtain ⟨k4, h⟩ := h
  refine R_sld (pc := 1600) k4 d_L_law_1600 ?_
  refine R_aload_n (pc := 1601) d_L_law_1601 rfl rfl ?_
  refine R_iload (pc := 1602) d_L_law_1602 rfl ?_
  refine R_iconst (pc := 1604) (v := 5) d_L_law_1604 (by decide) ?_
  refine R_iadd (pc := 1605) d_L_law_1605 ?_
  obtain ⟨k5, h⟩ := h
  refine R_sld (pc := 1606) k5 d_L_law_1606 ?_
  refine R_aload_n (pc := 1607) d_L_law_1607 rfl rfl ?_
  refine R_callSW (pc := 1608) (As := [.ref (g.1 + v1), .int (xs (Int32.toNatClampNeg (v5 + 1))), .int (xs (Int32.toNatClampNeg (v5 + 2))), .int (xs (Int32.toNatClampNeg (v5 + 3))), .int (xs (Int32.toNatClampNeg (v5 + 4))), .int (xs (Int32.toNatClampNeg (v5 + 5))), .ref (g.1 + v3)]) (rest := []) (c_L_ban (g := g) v1 (xs (Int32.toNatClampNeg (v5 + 1))) (xs (Int32.toNatClampNeg (v5 + 2))) (xs (Int32.toNatClampNeg (v5 + 3))) (xs (Int32.toNatClampNeg (v5 + 4))) (xs (Int32.toNatClampNeg (v5 + 5))) v3 M _ h) rfl rfl cal_RL_201 sta_L_ban (by decide) (by omega) rfl rfl (Nat.le_of_ble_eq_true rfl) d_L_law_1608 (k_I (fun y7 M6 h => ?_)) (fun _ _ h9 => False.elim h9)
  try dsimp only at h
  refine R_istore (pc := 1611) (L' := [some (.ref g.2.2.2.1), some (.ref (g.1 + v1)), some (.ref (g.1 + v2)), some (.ref (g.1 + v3)), some (.ref (g.1 + v4)), some (.int v5), some (.int y7), none, none]) d_L_law_1611 (by decide) rfl ?_
  refine R_aload_n (pc := 1613) d_L_law_1613 rfl rfl ?_
  refine R_aload_n (pc := 1614) d_L_law_1614 rfl rfl ?_
  refine R_iload (pc := 1615) d_L_law_1615 rfl ?_
  refine R_iconst (pc := 1617) (v := 1) d_L_law_1617 (by decide) ?_
  refine R_iadd (pc := 1618) d_L_law_1618 ?_
  refine R_sld (pc := 1619) k1 d_L_law_1619 ?_
  refine R_aload_n (pc := 1620) d_L_law_1620 rfl rfl ?_
  refine R_iload (pc := 1621) d_L_law_1621 rfl ?_
  refine R_iconst (pc := 1623) (v := 2) d_L_law_1623 (by decide) ?_
  refine R_iadd (pc := 1624) d_L_law_1624 ?_
  refine R_sld (pc := 1625) k2 d_L_law_1625 ?_
  refine R_aload_n (pc := 1626) d_L_law_1626 rfl rfl ?_
  refine R_iload (pc := 1627) d_L_law_1627 rfl ?_
  refine R_iconst (pc := 1629) (v := 3) d_L_law_1629 (by decide) ?_
  refine R_iadd (pc := 1630) d_L_law_1630 ?_
  refine R_sld (pc := 1631) k3 d_L_law_1631 ?_
  refine R_aload_n (pc := 1632) d_L_law_1632 rfl rfl ?_
  refine R_iload (pc := 1633) d_L_law_1633 rfl ?_
  refine R_iconst (pc := 1635) (v := 4) d_L_law_1635 (by decide) ?_
  refine R_iadd (pc := 1636) d_L_law_1636 ?_
  refine R_sld (pc := 1637) k4 d_L_law_1637 ?_
  refine R_aload_n (pc := 1638) d_L_law_1638 rfl rfl ?_
  refine R_iload (pc := 1639) d_L_law_1639 rfl ?_
  refine R_iconst (pc := 1641) (v := 5) d_L_law_1641 (by decide) ?_
  refine R_iadd (pc := 1642) d_L_law_1642 ?_
  refine R_sld (pc := 1643) k5 d_L_law_1643 ?_
  obtain ⟨k8, h⟩ := h
  refine R_callV (pc := 1644) (As := [.int (xs (Int32.toNatClampNeg (v5 + 1))), .int (xs (Int32.toNatClampNeg (v5 + 2))), .int (xs (Int32.toNatClampNeg (v5 + 3))), .int (xs (Int32.toNatClampNeg (v5 + 4))), .int (xs (Int32.toNatClampNeg (v5 + 5)))]) (rest := []) (c_X7_ban (g := g) v2 (xs (Int32.toNatClampNeg (v5 + 1))) (xs (Int32.toNatClampNeg (v5 + 2))) (xs (Int32.toNatClampNeg (v5 + 3))) (xs (Int32.toNatClampNeg (v5 + 4))) (xs (Int32.toNatClampNeg (v5 + 5))) M6 _ h) rfl rfl cal_RL_204 ins_X7_ban sel_X7_ban (cls_at k8 clsOK7) (by decide) (by omega) rfl rfl (Nat.le_of_ble_eq_true rfl) d_L_law_1644 (k_I (fun y10 M9 h => ?_)) (fun _ _ h9 => False.elim h9)
  try dsimp only at h
  refine R_istore (pc := 1647) (L' := [some (.ref g.2.2.2.1), some (.ref (g.1 + v1)), some (.ref (g.1 + v2)), some (.ref (g.1 + v3)), some (.ref (g.1 + v4)), some (.int v5), some (.int y7), some (.int y10), none]) d_L_law_1647 (by decide) rfl ?_
  refine R_aload_n (pc := 1649) d_L_law_1649 rfl rfl ?_
  refine R_callV (pc := 1650) (As := []) (rest := []) (c_X7_thrown (g := g) v2 M9 _ h) rfl rfl cal_RL_140 ins_X7_thrown sel_X7_thrown (cls_at k8 clsOK7) (by decide) (by omega) rfl rfl (Nat.le_of_ble_eq_true rfl) d_L_law_1650 (k_I (fun y12 M11 h => ?_)) (fun _ _ h9 => False.elim h9)
  try dsimp only at h
  refine R_iload (pc := 1653) d_L_law_1653 rfl ?_
  refine R_icmp_eq (pc := 1655) (tgt := 1660) d_L_law_1655 (by decide) (fun c => ?_) (fun c => ?_)
  · rw [if_pos c] at h
    refine R_iload (pc := 1660) d_L_law_1660 rfl ?_
    refine R_if_ne (pc := 1662) (tgt := 1677) d_L_law_1662 (by decide) (fun c => ?_) (fun c => ?_)
    · rw [if_neg c] at h
      exact WP_sub (B_L_law_1677 Q κ28 hκ28 v1 v2 v3 v4 v5 M11 h) (by omega) (ls_s (ls_s (ls_s (ls_s (ls_s (ls_s (ls_n (ls_n (ls_n ls_0)))))))))
    · rw [if_pos c] at h
      refine R_aload_n (pc := 1665) d_L_law_1665 rfl rfl ?_
      refine R_iconst (pc := 1666) (v := 0) d_L_law_1666 (by decide) ?_
      obtain ⟨k13, h⟩ := h
      obtain ⟨k14, h⟩ := h
      refine R_lald (pc := 1667) k13 k14 d_L_law_1667 ?_
      refine R_iload (pc := 1668) d_L_law_1668 rfl ?_
      refine R_i2l (pc := 1670) d_L_law_1670 ?_
      refine R_lcmp (pc := 1671) d_L_law_1671 ?_
      refine R_if_eq (pc := 1672) (tgt := 1677) d_L_law_1672 (by decide) (fun c => ?_) (fun c => ?_)
      · rw [if_pos c] at h
        exact WP_sub (B_L_law_1677 Q κ28 hκ28 v1 v2 v3 v4 v5 M11 h) (by omega) (ls_s (ls_s (ls_s (ls_s (ls_s (ls_s (ls_n (ls_n (ls_n ls_0)))))))))
      · rw [if_neg c] at h
        refine R_iconst (pc := 1675) (v := 0) d_L_law_1675 (by decide) ?_
        exact R_retv (pc := 1676) d_L_law_1676 h
  · rw [if_neg c] at h
    refine R_iconst (pc := 1658) (v := 0) d_L_law_1658 (by decide) ?_
    exact R_retv (pc := 1659) d_L_law_1659 h
def T_L_law_1573 (κ28 : Nat → Nat → Nat → Nat → Int32 → Mem → Prop) (Q : Int32 → Mem → Prop) (sl : Nat) (xs : Nat → Int32) (v1 : Nat) (v2 : Nat) (v3 : Nat) (v4 : Nat) (v5 : Int32) (M : Mem) : Prop := T_L_law_2534 κ28 Q sl xs v1 v2 v3 v4 v5 M
set_option maxRecDepth 100000 in
set_option maxHeartbeats 4000000 in
theorem B_L_law_1573 {g : GG} {kr : Nat} (Q : Int32 → Mem → Prop) (κ28 : Nat → Nat → Nat → Nat → Int32 → Mem → Prop) (hκ28 : ∀ (v1 : Nat) (v2 : Nat) (v3 : Nat) (v4 : Nat) (v5 : Int32) (M : Mem), κ28 v1 v2 v3 v4 v5 M → WP g 20 mL_law 28 [some (.ref g.2.2.2.1), some (.ref (g.1 + v1)), some (.ref (g.1 + v2)), some (.ref (g.1 + v3)), some (.ref (g.1 + v4)), some (.int v5), none, none, none] [] M kr (oZ Q noX)) (v1 : Nat) (v2 : Nat) (v3 : Nat) (v4 : Nat) (v5 : Int32) (M : Mem) (h : T_L_law_1573 κ28 Q g.2.2.2.2.1 g.2.2.2.2.2 v1 v2 v3 v4 v5 M) : WP g 20 mL_law 1573 [some (.ref g.2.2.2.1), some (.ref (g.1 + v1)), some (.ref (g.1 + v2)), some (.ref (g.1 + v3)), some (.ref (g.1 + v4)), some (.int v5), none, none, none] [] M (kr + 1) (oZ Q noX) := by
  unfold T_L_law_1573 at h
  refine R_goto (pc := 1573) (tgt := 2534) d_L_law_1573 (by decide) ?_
  exact WP_sub (B_L_law_2534 Q κ28 hκ28 v1 v2 v3 v4 v5 M h) (by omega) (ls_s (ls_s (ls_s (ls_s (ls_s (ls_s (ls_n (ls_n (ls_n ls_0)))))))))
def T_L_law_1520 (κ28 : Nat → Nat → Nat → Nat → Int32 → Mem → Prop) (Q : Int32 → Mem → Prop) (sl : Nat) (xs : Nat → Int32) (v1 : Nat) (v2 : Nat) (v3 : Nat) (v4 : Nat) (v5 : Int32) (M : Mem) : Prop := (vp_in (v5 + 1) sl) ∧ T_L_pass (fun y3 M2 => (kd v2 = 7) ∧ T_X7_pass (fun y6 M5 => T_X7_thrown (fun y8 M7 => if y8 = y3 then (if y3 = 0 then ((kd v3 = 12) ∧ (vp_in 0 (ln v3)) ∧ if (lg_cmp (M7.2.1 (Int32.toNatClampNeg 0)) (Int32.toInt64 y6)) = 0 then (T_L_law_1573 κ28 Q sl xs v1 v2 v3 v4 v5 M7) else (((0 : Int32) = 0 ∨ (0 : Int32) = 1) ∧ Q 0 M7)) else (T_L_law_1573 κ28 Q sl xs v1 v2 v3 v4 v5 M7)) else (((0 : Int32) = 0 ∨ (0 : Int32) = 1) ∧ Q 0 M7))  v2 M5)  v2 (xs (Int32.toNatClampNeg (v5 + 1))) M2)  v1 (xs (Int32.toNatClampNeg (v5 + 1))) v3 M
set_option maxRecDepth 100000 in
set_option maxHeartbeats 4000000 in
theorem B_L_law_1520 {g : GG} {kr : Nat} (Q : Int32 → Mem → Prop) (κ28 : Nat → Nat → Nat → Nat → Int32 → Mem → Prop) (hκ28 : ∀ (v1 : Nat) (v2 : Nat) (v3 : Nat) (v4 : Nat) (v5 : Int32) (M : Mem), κ28 v1 v2 v3 v4 v5 M → WP g 20 mL_law 28 [some (.ref g.2.2.2.1), some (.ref (g.1 + v1)), some (.ref (g.1 + v2)), some (.ref (g.1 + v3)), some (.ref (g.1 + v4)), some (.int v5), none, none, none] [] M kr (oZ Q noX)) (v1 : Nat) (v2 : Nat) (v3 : Nat) (v4 : Nat) (v5 : Int32) (M : Mem) (h : T_L_law_1520 κ28 Q g.2.2.2.2.1 g.2.2.2.2.2 v1 v2 v3 v4 v5 M) : WP g 20 mL_law 1520 [some (.ref g.2.2.2.1), some (.ref (g.1 + v1)), some (.ref (g.1 + v2)), some (.ref (g.1 + v3)), some (.ref (g.1 + v4)), some (.int v5), none, none, none] [] M (kr + 2) (oZ Q noX) := by
  unfold T_L_law_1520 at h
  refine R_aload_n (pc := 1520) d_L_law_1520 rfl rfl ?_
  refine R_aload_n (pc := 1521) d_L_law_1521 rfl rfl ?_
  refine R_iload (pc := 1522) d_L_law_1522 rfl ?_
  refine R_iconst (pc := 1524) (v := 1) d_L_law_1524 (by decide) ?_
  refine R_iadd (pc := 1525) d_L_law_1525 ?_
  obtain ⟨k1, h⟩ := h
  refine R_sld (pc := 1526) k1 d_L_law_1526 ?_
  refine R_aload_n (pc := 1527) d_L_law_1527 rfl rfl ?_
  refine R_callSW (pc := 1528) (As := [.ref (g.1 + v1), .int (xs (Int32.toNatClampNeg (v5 + 1))), .ref (g.1 + v3)]) (rest := []) (c_L_pass (g := g) v1 (xs (Int32.toNatClampNeg (v5 + 1))) v3 M _ h) rfl rfl cal_RL_198 sta_L_pass (by decide) (by omega) rfl rfl (Nat.le_of_ble_eq_true rfl) d_L_law_1528 (k_I (fun y3 M2 h => ?_)) (fun _ _ h9 => False.elim h9)
  try dsimp only at h
  refine R_istore (pc := 1531) (L' := [some (.ref g.2.2.2.1), some (.ref (g.1 + v1)), some (.ref (g.1 + v2)), some (.ref (g.1 + v3)), some (.ref (g.1 + v4)), some (.int v5), some (.int y3), none, none]) d_L_law_1531 (by decide) rfl ?_
  refine R_aload_n (pc := 1533) d_L_law_1533 rfl rfl ?_
  refine R_aload_n (pc := 1534) d_L_law_1534 rfl rfl ?_
  refine R_iload (pc := 1535) d_L_law_1535 rfl ?_
  refine R_iconst (pc := 1537) (v := 1) d_L_law_1537 (by decide) ?_
  refine R_iadd (pc := 1538) d_L_law_1538 ?_
  refine R_sld (pc := 1539) k1 d_L_law_1539 ?_
  obtain ⟨k4, h⟩ := h
  refine R_callV (pc := 1540) (As := [.int (xs (Int32.toNatClampNeg (v5 + 1)))]) (rest := []) (c_X7_pass (g := g) v2 (xs (Int32.toNatClampNeg (v5 + 1))) M2 _ h) rfl rfl cal_RL_200 ins_X7_pass sel_X7_pass (cls_at k4 clsOK7) (by decide) (by omega) rfl rfl (Nat.le_of_ble_eq_true rfl) d_L_law_1540 (k_I (fun y6 M5 h => ?_)) (fun _ _ h9 => False.elim h9)
  try dsimp only at h
  refine R_istore (pc := 1543) (L' := [some (.ref g.2.2.2.1), some (.ref (g.1 + v1)), some (.ref (g.1 + v2)), some (.ref (g.1 + v3)), some (.ref (g.1 + v4)), some (.int v5), some (.int y3), some (.int y6), none]) d_L_law_1543 (by decide) rfl ?_
  refine R_aload_n (pc := 1545) d_L_law_1545 rfl rfl ?_
  refine R_callV (pc := 1546) (As := []) (rest := []) (c_X7_thrown (g := g) v2 M5 _ h) rfl rfl cal_RL_140 ins_X7_thrown sel_X7_thrown (cls_at k4 clsOK7) (by decide) (by omega) rfl rfl (Nat.le_of_ble_eq_true rfl) d_L_law_1546 (k_I (fun y8 M7 h => ?_)) (fun _ _ h9 => False.elim h9)
  try dsimp only at h
  refine R_iload (pc := 1549) d_L_law_1549 rfl ?_
  refine R_icmp_eq (pc := 1551) (tgt := 1556) d_L_law_1551 (by decide) (fun c => ?_) (fun c => ?_)
  · rw [if_pos c] at h
    refine R_iload (pc := 1556) d_L_law_1556 rfl ?_
    refine R_if_ne (pc := 1558) (tgt := 1573) d_L_law_1558 (by decide) (fun c => ?_) (fun c => ?_)
    · rw [if_neg c] at h
      exact WP_sub (B_L_law_1573 Q κ28 hκ28 v1 v2 v3 v4 v5 M7 h) (by omega) (ls_s (ls_s (ls_s (ls_s (ls_s (ls_s (ls_n (ls_n (ls_n ls_0)))))))))
    · rw [if_pos c] at h
      refine R_aload_n (pc := 1561) d_L_law_1561 rfl rfl ?_
      refine R_iconst (pc := 1562) (v := 0) d_L_law_1562 (by decide) ?_
      obtain ⟨k9, h⟩ := h
      obtain ⟨k10, h⟩ := h
      refine R_lald (pc := 1563) k9 k10 d_L_law_1563 ?_
      refine R_iload (pc := 1564) d_L_law_1564 rfl ?_
      refine R_i2l (pc := 1566) d_L_law_1566 ?_
      refine R_lcmp (pc := 1567) d_L_law_1567 ?_
      refine R_if_eq (pc := 1568) (tgt := 1573) d_L_law_1568 (by decide) (fun c => ?_) (fun c => ?_)
      · rw [if_pos c] at h
        exact WP_sub (B_L_law_1573 Q κ28 hκ28 v1 v2 v3 v4 v5 M7 h) (by omega) (ls_s (ls_s (ls_s (ls_s (ls_s (ls_s (ls_n (ls_n (ls_n ls_0)))))))))
      · rw [if_neg c] at h
        refine R_iconst (pc := 1571) (v := 0) d_L_law_1571 (by decide) ?_
        exact R_retv (pc := 1572) d_L_law_1572 h
  · rw [if_neg c] at h
    refine R_iconst (pc := 1554) (v := 0) d_L_law_1554 (by decide) ?_
    exact R_retv (pc := 1555) d_L_law_1555 h
def T_L_law_1517 (κ28 : Nat → Nat → Nat → Nat → Int32 → Mem → Prop) (Q : Int32 → Mem → Prop) (sl : Nat) (xs : Nat → Int32) (v1 : Nat) (v2 : Nat) (v3 : Nat) (v4 : Nat) (v5 : Int32) (M : Mem) : Prop := T_L_law_2534 κ28 Q sl xs v1 v2 v3 v4 v5 M
set_option maxRecDepth 100000 in
set_option maxHeartbeats 4000000 in
theorem B_L_law_1517 {g : GG} {kr : Nat} (Q : Int32 → Mem → Prop) (κ28 : Nat → Nat → Nat → Nat → Int32 → Mem → Prop) (hκ28 : ∀ (v1 : Nat) (v2 : Nat) (v3 : Nat) (v4 : Nat) (v5 : Int32) (M : Mem), κ28 v1 v2 v3 v4 v5 M → WP g 20 mL_law 28 [some (.ref g.2.2.2.1), some (.ref (g.1 + v1)), some (.ref (g.1 + v2)), some (.ref (g.1 + v3)), some (.ref (g.1 + v4)), some (.int v5), none, none, none] [] M kr (oZ Q noX)) (v1 : Nat) (v2 : Nat) (v3 : Nat) (v4 : Nat) (v5 : Int32) (M : Mem) (h : T_L_law_1517 κ28 Q g.2.2.2.2.1 g.2.2.2.2.2 v1 v2 v3 v4 v5 M) : WP g 20 mL_law 1517 [some (.ref g.2.2.2.1), some (.ref (g.1 + v1)), some (.ref (g.1 + v2)), some (.ref (g.1 + v3)), some (.ref (g.1 + v4)), some (.int v5), none, none, none] [] M (kr + 1) (oZ Q noX) := by
  unfold T_L_law_1517 at h
  refine R_goto (pc := 1517) (tgt := 2534) d_L_law_1517 (by decide) ?_
  exact WP_sub (B_L_law_2534 Q κ28 hκ28 v1 v2 v3 v4 v5 M h) (by omega) (ls_s (ls_s (ls_s (ls_s (ls_s (ls_s (ls_n (ls_n (ls_n ls_0)))))))))
def T_L_law_1484 (κ28 : Nat → Nat → Nat → Nat → Int32 → Mem → Prop) (Q : Int32 → Mem → Prop) (sl : Nat) (xs : Nat → Int32) (v1 : Nat) (v2 : Nat) (v3 : Nat) (v4 : Nat) (v5 : Int32) (v6 : Int32) (s0 : Int32) (s1 : Int32) (s2 : Int32) (s3 : Nat) (M : Mem) : Prop := (kd s3 = 7) ∧ T_X7_slot (fun y3 M2 => (kd v2 = 7) ∧ T_X7_thrown (fun y6 M5 => if y6 = v6 then (if v6 = 0 then ((kd v3 = 12) ∧ (vp_in 0 (ln v3)) ∧ if (lg_cmp (M5.2.1 (Int32.toNatClampNeg 0)) (Int32.toInt64 y3)) = 0 then (T_L_law_1517 κ28 Q sl xs v1 v2 v3 v4 v5 M5) else (((0 : Int32) = 0 ∨ (0 : Int32) = 1) ∧ Q 0 M5)) else (T_L_law_1517 κ28 Q sl xs v1 v2 v3 v4 v5 M5)) else (((0 : Int32) = 0 ∨ (0 : Int32) = 1) ∧ Q 0 M5))  v2 M2)  s3 s2 s1 s0 M
set_option maxRecDepth 100000 in
set_option maxHeartbeats 4000000 in
theorem B_L_law_1484 {g : GG} {kr : Nat} (Q : Int32 → Mem → Prop) (κ28 : Nat → Nat → Nat → Nat → Int32 → Mem → Prop) (hκ28 : ∀ (v1 : Nat) (v2 : Nat) (v3 : Nat) (v4 : Nat) (v5 : Int32) (M : Mem), κ28 v1 v2 v3 v4 v5 M → WP g 20 mL_law 28 [some (.ref g.2.2.2.1), some (.ref (g.1 + v1)), some (.ref (g.1 + v2)), some (.ref (g.1 + v3)), some (.ref (g.1 + v4)), some (.int v5), none, none, none] [] M kr (oZ Q noX)) (v1 : Nat) (v2 : Nat) (v3 : Nat) (v4 : Nat) (v5 : Int32) (v6 : Int32) (s0 : Int32) (s1 : Int32) (s2 : Int32) (s3 : Nat) (M : Mem) (h : T_L_law_1484 κ28 Q g.2.2.2.2.1 g.2.2.2.2.2 v1 v2 v3 v4 v5 v6 s0 s1 s2 s3 M) : WP g 20 mL_law 1484 [some (.ref g.2.2.2.1), some (.ref (g.1 + v1)), some (.ref (g.1 + v2)), some (.ref (g.1 + v3)), some (.ref (g.1 + v4)), some (.int v5), some (.int v6), none, none] [.int s0, .int s1, .int s2, .ref (g.1 + s3)] M (kr + 1) (oZ Q noX) := by
  unfold T_L_law_1484 at h
  obtain ⟨k1, h⟩ := h
  refine R_callV (pc := 1484) (As := [.int s2, .int s1, .int s0]) (rest := []) (c_X7_slot (g := g) s3 s2 s1 s0 M _ h) rfl rfl cal_RL_197 ins_X7_slot sel_X7_slot (cls_at k1 clsOK7) (by decide) (by omega) rfl rfl (Nat.le_of_ble_eq_true rfl) d_L_law_1484 (k_I (fun y3 M2 h => ?_)) (fun _ _ h9 => False.elim h9)
  try dsimp only at h
  refine R_istore (pc := 1487) (L' := [some (.ref g.2.2.2.1), some (.ref (g.1 + v1)), some (.ref (g.1 + v2)), some (.ref (g.1 + v3)), some (.ref (g.1 + v4)), some (.int v5), some (.int v6), some (.int y3), none]) d_L_law_1487 (by decide) rfl ?_
  refine R_aload_n (pc := 1489) d_L_law_1489 rfl rfl ?_
  obtain ⟨k4, h⟩ := h
  refine R_callV (pc := 1490) (As := []) (rest := []) (c_X7_thrown (g := g) v2 M2 _ h) rfl rfl cal_RL_140 ins_X7_thrown sel_X7_thrown (cls_at k4 clsOK7) (by decide) (by omega) rfl rfl (Nat.le_of_ble_eq_true rfl) d_L_law_1490 (k_I (fun y6 M5 h => ?_)) (fun _ _ h9 => False.elim h9)
  try dsimp only at h
  refine R_iload (pc := 1493) d_L_law_1493 rfl ?_
  refine R_icmp_eq (pc := 1495) (tgt := 1500) d_L_law_1495 (by decide) (fun c => ?_) (fun c => ?_)
  · rw [if_pos c] at h
    refine R_iload (pc := 1500) d_L_law_1500 rfl ?_
    refine R_if_ne (pc := 1502) (tgt := 1517) d_L_law_1502 (by decide) (fun c => ?_) (fun c => ?_)
    · rw [if_neg c] at h
      exact WP_sub (B_L_law_1517 Q κ28 hκ28 v1 v2 v3 v4 v5 M5 h) (by omega) (ls_s (ls_s (ls_s (ls_s (ls_s (ls_s (ls_n (ls_n (ls_n ls_0)))))))))
    · rw [if_pos c] at h
      refine R_aload_n (pc := 1505) d_L_law_1505 rfl rfl ?_
      refine R_iconst (pc := 1506) (v := 0) d_L_law_1506 (by decide) ?_
      obtain ⟨k7, h⟩ := h
      obtain ⟨k8, h⟩ := h
      refine R_lald (pc := 1507) k7 k8 d_L_law_1507 ?_
      refine R_iload (pc := 1508) d_L_law_1508 rfl ?_
      refine R_i2l (pc := 1510) d_L_law_1510 ?_
      refine R_lcmp (pc := 1511) d_L_law_1511 ?_
      refine R_if_eq (pc := 1512) (tgt := 1517) d_L_law_1512 (by decide) (fun c => ?_) (fun c => ?_)
      · rw [if_pos c] at h
        exact WP_sub (B_L_law_1517 Q κ28 hκ28 v1 v2 v3 v4 v5 M5 h) (by omega) (ls_s (ls_s (ls_s (ls_s (ls_s (ls_s (ls_n (ls_n (ls_n ls_0)))))))))
      · rw [if_neg c] at h
        refine R_iconst (pc := 1515) (v := 0) d_L_law_1515 (by decide) ?_
        exact R_retv (pc := 1516) d_L_law_1516 h
  · rw [if_neg c] at h
    refine R_iconst (pc := 1498) (v := 0) d_L_law_1498 (by decide) ?_
    exact R_retv (pc := 1499) d_L_law_1499 h
def T_L_law_1451 (κ28 : Nat → Nat → Nat → Nat → Int32 → Mem → Prop) (Q : Int32 → Mem → Prop) (sl : Nat) (xs : Nat → Int32) (v1 : Nat) (v2 : Nat) (v3 : Nat) (v4 : Nat) (v5 : Int32) (s0 : Int32) (s1 : Int32) (s2 : Int32) (s3 : Nat) (M : Mem) : Prop := T_L_slot (fun y2 M1 => (vp_in (v5 + 1) sl) ∧ (vp_in (v5 + 2) sl) ∧ (vp_in (v5 + 3) sl) ∧ if (xs (Int32.toNatClampNeg (v5 + 3))) = 0 then (T_L_law_1484 κ28 Q sl xs v1 v2 v3 v4 v5 y2 0 (xs (Int32.toNatClampNeg (v5 + 2))) (xs (Int32.toNatClampNeg (v5 + 1))) v2 M1) else (T_L_law_1484 κ28 Q sl xs v1 v2 v3 v4 v5 y2 1 (xs (Int32.toNatClampNeg (v5 + 2))) (xs (Int32.toNatClampNeg (v5 + 1))) v2 M1))  s3 s2 s1 s0 v3 M
set_option maxRecDepth 100000 in
set_option maxHeartbeats 4000000 in
theorem B_L_law_1451 {g : GG} {kr : Nat} (Q : Int32 → Mem → Prop) (κ28 : Nat → Nat → Nat → Nat → Int32 → Mem → Prop) (hκ28 : ∀ (v1 : Nat) (v2 : Nat) (v3 : Nat) (v4 : Nat) (v5 : Int32) (M : Mem), κ28 v1 v2 v3 v4 v5 M → WP g 20 mL_law 28 [some (.ref g.2.2.2.1), some (.ref (g.1 + v1)), some (.ref (g.1 + v2)), some (.ref (g.1 + v3)), some (.ref (g.1 + v4)), some (.int v5), none, none, none] [] M kr (oZ Q noX)) (v1 : Nat) (v2 : Nat) (v3 : Nat) (v4 : Nat) (v5 : Int32) (s0 : Int32) (s1 : Int32) (s2 : Int32) (s3 : Nat) (M : Mem) (h : T_L_law_1451 κ28 Q g.2.2.2.2.1 g.2.2.2.2.2 v1 v2 v3 v4 v5 s0 s1 s2 s3 M) : WP g 20 mL_law 1451 [some (.ref g.2.2.2.1), some (.ref (g.1 + v1)), some (.ref (g.1 + v2)), some (.ref (g.1 + v3)), some (.ref (g.1 + v4)), some (.int v5), none, none, none] [.int s0, .int s1, .int s2, .ref (g.1 + s3)] M (kr + 2) (oZ Q noX) := by
  unfold T_L_law_1451 at h
  refine R_aload_n (pc := 1451) d_L_law_1451 rfl rfl ?_
  refine R_callSW (pc := 1452) (As := [.ref (g.1 + s3), .int s2, .int s1, .int s0, .ref (g.1 + v3)]) (rest := []) (c_L_slot (g := g) s3 s2 s1 s0 v3 M _ h) rfl rfl cal_RL_195 sta_L_slot (by decide) (by omega) rfl rfl (Nat.le_of_ble_eq_true rfl) d_L_law_1452 (k_I (fun y2 M1 h => ?_)) (fun _ _ h9 => False.elim h9)
  try dsimp only at h
  refine R_istore (pc := 1455) (L' := [some (.ref g.2.2.2.1), some (.ref (g.1 + v1)), some (.ref (g.1 + v2)), some (.ref (g.1 + v3)), some (.ref (g.1 + v4)), some (.int v5), some (.int y2), none, none]) d_L_law_1455 (by decide) rfl ?_
  refine R_aload_n (pc := 1457) d_L_law_1457 rfl rfl ?_
  refine R_aload_n (pc := 1458) d_L_law_1458 rfl rfl ?_
  refine R_iload (pc := 1459) d_L_law_1459 rfl ?_
  refine R_iconst (pc := 1461) (v := 1) d_L_law_1461 (by decide) ?_
  refine R_iadd (pc := 1462) d_L_law_1462 ?_
  obtain ⟨k3, h⟩ := h
  refine R_sld (pc := 1463) k3 d_L_law_1463 ?_
  refine R_aload_n (pc := 1464) d_L_law_1464 rfl rfl ?_
  refine R_iload (pc := 1465) d_L_law_1465 rfl ?_
  refine R_iconst (pc := 1467) (v := 2) d_L_law_1467 (by decide) ?_
  refine R_iadd (pc := 1468) d_L_law_1468 ?_
  obtain ⟨k4, h⟩ := h
  refine R_sld (pc := 1469) k4 d_L_law_1469 ?_
  refine R_aload_n (pc := 1470) d_L_law_1470 rfl rfl ?_
  refine R_iload (pc := 1471) d_L_law_1471 rfl ?_
  refine R_iconst (pc := 1473) (v := 3) d_L_law_1473 (by decide) ?_
  refine R_iadd (pc := 1474) d_L_law_1474 ?_
  obtain ⟨k5, h⟩ := h
  refine R_sld (pc := 1475) k5 d_L_law_1475 ?_
  refine R_if_eq (pc := 1476) (tgt := 1483) d_L_law_1476 (by decide) (fun c => ?_) (fun c => ?_)
  · rw [if_pos c] at h
    refine R_iconst (pc := 1483) (v := 0) d_L_law_1483 (by decide) ?_
    exact WP_sub (B_L_law_1484 Q κ28 hκ28 v1 v2 v3 v4 v5 y2 0 (xs (Int32.toNatClampNeg (v5 + 2))) (xs (Int32.toNatClampNeg (v5 + 1))) v2 M1 h) (by omega) (ls_s (ls_s (ls_s (ls_s (ls_s (ls_s (ls_s (ls_n (ls_n ls_0)))))))))
  · rw [if_neg c] at h
    refine R_iconst (pc := 1479) (v := 1) d_L_law_1479 (by decide) ?_
    refine R_goto (pc := 1480) (tgt := 1484) d_L_law_1480 (by decide) ?_
    exact WP_sub (B_L_law_1484 Q κ28 hκ28 v1 v2 v3 v4 v5 y2 1 (xs (Int32.toNatClampNeg (v5 + 2))) (xs (Int32.toNatClampNeg (v5 + 1))) v2 M1 h) (by omega) (ls_s (ls_s (ls_s (ls_s (ls_s (ls_s (ls_s (ls_n (ls_n ls_0)))))))))
def T_L_law_1424 (κ28 : Nat → Nat → Nat → Nat → Int32 → Mem → Prop) (Q : Int32 → Mem → Prop) (sl : Nat) (xs : Nat → Int32) (v1 : Nat) (v2 : Nat) (v3 : Nat) (v4 : Nat) (v5 : Int32) (M : Mem) : Prop := (vp_in (v5 + 1) sl) ∧ (vp_in (v5 + 2) sl) ∧ (vp_in (v5 + 3) sl) ∧ if (xs (Int32.toNatClampNeg (v5 + 3))) = 0 then (T_L_law_1451 κ28 Q sl xs v1 v2 v3 v4 v5 0 (xs (Int32.toNatClampNeg (v5 + 2))) (xs (Int32.toNatClampNeg (v5 + 1))) v1 M) else (T_L_law_1451 κ28 Q sl xs v1 v2 v3 v4 v5 1 (xs (Int32.toNatClampNeg (v5 + 2))) (xs (Int32.toNatClampNeg (v5 + 1))) v1 M)
set_option maxRecDepth 100000 in
set_option maxHeartbeats 4000000 in
theorem B_L_law_1424 {g : GG} {kr : Nat} (Q : Int32 → Mem → Prop) (κ28 : Nat → Nat → Nat → Nat → Int32 → Mem → Prop) (hκ28 : ∀ (v1 : Nat) (v2 : Nat) (v3 : Nat) (v4 : Nat) (v5 : Int32) (M : Mem), κ28 v1 v2 v3 v4 v5 M → WP g 20 mL_law 28 [some (.ref g.2.2.2.1), some (.ref (g.1 + v1)), some (.ref (g.1 + v2)), some (.ref (g.1 + v3)), some (.ref (g.1 + v4)), some (.int v5), none, none, none] [] M kr (oZ Q noX)) (v1 : Nat) (v2 : Nat) (v3 : Nat) (v4 : Nat) (v5 : Int32) (M : Mem) (h : T_L_law_1424 κ28 Q g.2.2.2.2.1 g.2.2.2.2.2 v1 v2 v3 v4 v5 M) : WP g 20 mL_law 1424 [some (.ref g.2.2.2.1), some (.ref (g.1 + v1)), some (.ref (g.1 + v2)), some (.ref (g.1 + v3)), some (.ref (g.1 + v4)), some (.int v5), none, none, none] [] M (kr + 2) (oZ Q noX) := by
  unfold T_L_law_1424 at h
  refine R_aload_n (pc := 1424) d_L_law_1424 rfl rfl ?_
  refine R_aload_n (pc := 1425) d_L_law_1425 rfl rfl ?_
  refine R_iload (pc := 1426) d_L_law_1426 rfl ?_
  refine R_iconst (pc := 1428) (v := 1) d_L_law_1428 (by decide) ?_
  refine R_iadd (pc := 1429) d_L_law_1429 ?_
  obtain ⟨k1, h⟩ := h
  refine R_sld (pc := 1430) k1 d_L_law_1430 ?_
  refine R_aload_n (pc := 1431) d_L_law_1431 rfl rfl ?_
  refine R_iload (pc := 1432) d_L_law_1432 rfl ?_
  refine R_iconst (pc := 1434) (v := 2) d_L_law_1434 (by decide) ?_
  refine R_iadd (pc := 1435) d_L_law_1435 ?_
  obtain ⟨k2, h⟩ := h
  refine R_sld (pc := 1436) k2 d_L_law_1436 ?_
  refine R_aload_n (pc := 1437) d_L_law_1437 rfl rfl ?_
  refine R_iload (pc := 1438) d_L_law_1438 rfl ?_
  refine R_iconst (pc := 1440) (v := 3) d_L_law_1440 (by decide) ?_
  refine R_iadd (pc := 1441) d_L_law_1441 ?_
  obtain ⟨k3, h⟩ := h
  refine R_sld (pc := 1442) k3 d_L_law_1442 ?_
  refine R_if_eq (pc := 1443) (tgt := 1450) d_L_law_1443 (by decide) (fun c => ?_) (fun c => ?_)
  · rw [if_pos c] at h
    refine R_iconst (pc := 1450) (v := 0) d_L_law_1450 (by decide) ?_
    exact WP_sub (B_L_law_1451 Q κ28 hκ28 v1 v2 v3 v4 v5 0 (xs (Int32.toNatClampNeg (v5 + 2))) (xs (Int32.toNatClampNeg (v5 + 1))) v1 M h) (by omega) (ls_s (ls_s (ls_s (ls_s (ls_s (ls_s (ls_n (ls_n (ls_n ls_0)))))))))
  · rw [if_neg c] at h
    refine R_iconst (pc := 1446) (v := 1) d_L_law_1446 (by decide) ?_
    refine R_goto (pc := 1447) (tgt := 1451) d_L_law_1447 (by decide) ?_
    exact WP_sub (B_L_law_1451 Q κ28 hκ28 v1 v2 v3 v4 v5 1 (xs (Int32.toNatClampNeg (v5 + 2))) (xs (Int32.toNatClampNeg (v5 + 1))) v1 M h) (by omega) (ls_s (ls_s (ls_s (ls_s (ls_s (ls_s (ls_n (ls_n (ls_n ls_0)))))))))
def T_L_law_1421 (κ28 : Nat → Nat → Nat → Nat → Int32 → Mem → Prop) (Q : Int32 → Mem → Prop) (sl : Nat) (xs : Nat → Int32) (v1 : Nat) (v2 : Nat) (v3 : Nat) (v4 : Nat) (v5 : Int32) (M : Mem) : Prop := T_L_law_2534 κ28 Q sl xs v1 v2 v3 v4 v5 M
set_option maxRecDepth 100000 in
set_option maxHeartbeats 4000000 in
theorem B_L_law_1421 {g : GG} {kr : Nat} (Q : Int32 → Mem → Prop) (κ28 : Nat → Nat → Nat → Nat → Int32 → Mem → Prop) (hκ28 : ∀ (v1 : Nat) (v2 : Nat) (v3 : Nat) (v4 : Nat) (v5 : Int32) (M : Mem), κ28 v1 v2 v3 v4 v5 M → WP g 20 mL_law 28 [some (.ref g.2.2.2.1), some (.ref (g.1 + v1)), some (.ref (g.1 + v2)), some (.ref (g.1 + v3)), some (.ref (g.1 + v4)), some (.int v5), none, none, none] [] M kr (oZ Q noX)) (v1 : Nat) (v2 : Nat) (v3 : Nat) (v4 : Nat) (v5 : Int32) (M : Mem) (h : T_L_law_1421 κ28 Q g.2.2.2.2.1 g.2.2.2.2.2 v1 v2 v3 v4 v5 M) : WP g 20 mL_law 1421 [some (.ref g.2.2.2.1), some (.ref (g.1 + v1)), some (.ref (g.1 + v2)), some (.ref (g.1 + v3)), some (.ref (g.1 + v4)), some (.int v5), none, none, none] [] M (kr + 1) (oZ Q noX) := by
  unfold T_L_law_1421 at h
  refine R_goto (pc := 1421) (tgt := 2534) d_L_law_1421 (by decide) ?_
  exact WP_sub (B_L_law_2534 Q κ28 hκ28 v1 v2 v3 v4 v5 M h) (by omega) (ls_s (ls_s (ls_s (ls_s (ls_s (ls_s (ls_n (ls_n (ls_n ls_0)))))))))
def T_L_law_1368 (κ28 : Nat → Nat → Nat → Nat → Int32 → Mem → Prop) (Q : Int32 → Mem → Prop) (sl : Nat) (xs : Nat → Int32) (v1 : Nat) (v2 : Nat) (v3 : Nat) (v4 : Nat) (v5 : Int32) (M : Mem) : Prop := (vp_in (v5 + 1) sl) ∧ T_L_next (fun y3 M2 => (kd v2 = 7) ∧ T_X7_next (fun y6 M5 => T_X7_thrown (fun y8 M7 => if y8 = y3 then (if y3 = 0 then ((kd v3 = 12) ∧ (vp_in 0 (ln v3)) ∧ if (lg_cmp (M7.2.1 (Int32.toNatClampNeg 0)) (Int32.toInt64 y6)) = 0 then (T_L_law_1421 κ28 Q sl xs v1 v2 v3 v4 v5 M7) else (((0 : Int32) = 0 ∨ (0 : Int32) = 1) ∧ Q 0 M7)) else (T_L_law_1421 κ28 Q sl xs v1 v2 v3 v4 v5 M7)) else (((0 : Int32) = 0 ∨ (0 : Int32) = 1) ∧ Q 0 M7))  v2 M5)  v2 (xs (Int32.toNatClampNeg (v5 + 1))) M2)  v1 (xs (Int32.toNatClampNeg (v5 + 1))) v3 M
set_option maxRecDepth 100000 in
set_option maxHeartbeats 4000000 in
theorem B_L_law_1368 {g : GG} {kr : Nat} (Q : Int32 → Mem → Prop) (κ28 : Nat → Nat → Nat → Nat → Int32 → Mem → Prop) (hκ28 : ∀ (v1 : Nat) (v2 : Nat) (v3 : Nat) (v4 : Nat) (v5 : Int32) (M : Mem), κ28 v1 v2 v3 v4 v5 M → WP g 20 mL_law 28 [some (.ref g.2.2.2.1), some (.ref (g.1 + v1)), some (.ref (g.1 + v2)), some (.ref (g.1 + v3)), some (.ref (g.1 + v4)), some (.int v5), none, none, none] [] M kr (oZ Q noX)) (v1 : Nat) (v2 : Nat) (v3 : Nat) (v4 : Nat) (v5 : Int32) (M : Mem) (h : T_L_law_1368 κ28 Q g.2.2.2.2.1 g.2.2.2.2.2 v1 v2 v3 v4 v5 M) : WP g 20 mL_law 1368 [some (.ref g.2.2.2.1), some (.ref (g.1 + v1)), some (.ref (g.1 + v2)), some (.ref (g.1 + v3)), some (.ref (g.1 + v4)), some (.int v5), none, none, none] [] M (kr + 2) (oZ Q noX) := by
  unfold T_L_law_1368 at h
  refine R_aload_n (pc := 1368) d_L_law_1368 rfl rfl ?_
  refine R_aload_n (pc := 1369) d_L_law_1369 rfl rfl ?_
  refine R_iload (pc := 1370) d_L_law_1370 rfl ?_
  refine R_iconst (pc := 1372) (v := 1) d_L_law_1372 (by decide) ?_
  refine R_iadd (pc := 1373) d_L_law_1373 ?_
  obtain ⟨k1, h⟩ := h
  refine R_sld (pc := 1374) k1 d_L_law_1374 ?_
  refine R_aload_n (pc := 1375) d_L_law_1375 rfl rfl ?_
  refine R_callSW (pc := 1376) (As := [.ref (g.1 + v1), .int (xs (Int32.toNatClampNeg (v5 + 1))), .ref (g.1 + v3)]) (rest := []) (c_L_next (g := g) v1 (xs (Int32.toNatClampNeg (v5 + 1))) v3 M _ h) rfl rfl cal_RL_192 sta_L_next (by decide) (by omega) rfl rfl (Nat.le_of_ble_eq_true rfl) d_L_law_1376 (k_I (fun y3 M2 h => ?_)) (fun _ _ h9 => False.elim h9)
  try dsimp only at h
  refine R_istore (pc := 1379) (L' := [some (.ref g.2.2.2.1), some (.ref (g.1 + v1)), some (.ref (g.1 + v2)), some (.ref (g.1 + v3)), some (.ref (g.1 + v4)), some (.int v5), some (.int y3), none, none]) d_L_law_1379 (by decide) rfl ?_
  refine R_aload_n (pc := 1381) d_L_law_1381 rfl rfl ?_
  refine R_aload_n (pc := 1382) d_L_law_1382 rfl rfl ?_
  refine R_iload (pc := 1383) d_L_law_1383 rfl ?_
  refine R_iconst (pc := 1385) (v := 1) d_L_law_1385 (by decide) ?_
  refine R_iadd (pc := 1386) d_L_law_1386 ?_
  refine R_sld (pc := 1387) k1 d_L_law_1387 ?_
  obtain ⟨k4, h⟩ := h
  refine R_callV (pc := 1388) (As := [.int (xs (Int32.toNatClampNeg (v5 + 1)))]) (rest := []) (c_X7_next (g := g) v2 (xs (Int32.toNatClampNeg (v5 + 1))) M2 _ h) rfl rfl cal_RL_194 ins_X7_next sel_X7_next (cls_at k4 clsOK7) (by decide) (by omega) rfl rfl (Nat.le_of_ble_eq_true rfl) d_L_law_1388 (k_I (fun y6 M5 h => ?_)) (fun _ _ h9 => False.elim h9)
  try dsimp only at h
  refine R_istore (pc := 1391) (L' := [some (.ref g.2.2.2.1), some (.ref (g.1 + v1)), some (.ref (g.1 + v2)), some (.ref (g.1 + v3)), some (.ref (g.1 + v4)), some (.int v5), some (.int y3), some (.int y6), none]) d_L_law_1391 (by decide) rfl ?_
  refine R_aload_n (pc := 1393) d_L_law_1393 rfl rfl ?_
  refine R_callV (pc := 1394) (As := []) (rest := []) (c_X7_thrown (g := g) v2 M5 _ h) rfl rfl cal_RL_140 ins_X7_thrown sel_X7_thrown (cls_at k4 clsOK7) (by decide) (by omega) rfl rfl (Nat.le_of_ble_eq_true rfl) d_L_law_1394 (k_I (fun y8 M7 h => ?_)) (fun _ _ h9 => False.elim h9)
  try dsimp only at h
  refine R_iload (pc := 1397) d_L_law_1397 rfl ?_
  refine R_icmp_eq (pc := 1399) (tgt := 1404) d_L_law_1399 (by decide) (fun c => ?_) (fun c => ?_)
  · rw [if_pos c] at h
    refine R_iload (pc := 1404) d_L_law_1404 rfl ?_
    refine R_if_ne (pc := 1406) (tgt := 1421) d_L_law_1406 (by decide) (fun c => ?_) (fun c => ?_)
    · rw [if_neg c] at h
      exact WP_sub (B_L_law_1421 Q κ28 hκ28 v1 v2 v3 v4 v5 M7 h) (by omega) (ls_s (ls_s (ls_s (ls_s (ls_s (ls_s (ls_n (ls_n (ls_n ls_0)))))))))
    · rw [if_pos c] at h
      refine R_aload_n (pc := 1409) d_L_law_1409 rfl rfl ?_
      refine R_iconst (pc := 1410) (v := 0) d_L_law_1410 (by decide) ?_
      obtain ⟨k9, h⟩ := h
      obtain ⟨k10, h⟩ := h
      refine R_lald (pc := 1411) k9 k10 d_L_law_1411 ?_
      refine R_iload (pc := 1412) d_L_law_1412 rfl ?_
      refine R_i2l (pc := 1414) d_L_law_1414 ?_
      refine R_lcmp (pc := 1415) d_L_law_1415 ?_
      refine R_if_eq (pc := 1416) (tgt := 1421) d_L_law_1416 (by decide) (fun c => ?_) (fun c => ?_)
      · rw [if_pos c] at h
        exact WP_sub (B_L_law_1421 Q κ28 hκ28 v1 v2 v3 v4 v5 M7 h) (by omega) (ls_s (ls_s (ls_s (ls_s (ls_s (ls_s (ls_n (ls_n (ls_n ls_0)))))))))
      · rw [if_neg c] at h
        refine R_iconst (pc := 1419) (v := 0) d_L_law_1419 (by decide) ?_
        exact R_retv (pc := 1420) d_L_law_1420 h
  · rw [if_neg c] at h
    refine R_iconst (pc := 1402) (v := 0) d_L_law_1402 (by decide) ?_
    exact R_retv (pc := 1403) d_L_law_1403 h
def T_L_law_1365 (κ28 : Nat → Nat → Nat → Nat → Int32 → Mem → Prop) (Q : Int32 → Mem → Prop) (sl : Nat) (xs : Nat → Int32) (v1 : Nat) (v2 : Nat) (v3 : Nat) (v4 : Nat) (v5 : Int32) (M : Mem) : Prop := T_L_law_2534 κ28 Q sl xs v1 v2 v3 v4 v5 M
set_option maxRecDepth 100000 in
set_option maxHeartbeats 4000000 in
theorem B_L_law_1365 {g : GG} {kr : Nat} (Q : Int32 → Mem → Prop) (κ28 : Nat → Nat → Nat → Nat → Int32 → Mem → Prop) (hκ28 : ∀ (v1 : Nat) (v2 : Nat) (v3 : Nat) (v4 : Nat) (v5 : Int32) (M : Mem), κ28 v1 v2 v3 v4 v5 M → WP g 20 mL_law 28 [some (.ref g.2.2.2.1), some (.ref (g.1 + v1)), some (.ref (g.1 + v2)), some (.ref (g.1 + v3)), some (.ref (g.1 + v4)), some (.int v5), none, none, none] [] M kr (oZ Q noX)) (v1 : Nat) (v2 : Nat) (v3 : Nat) (v4 : Nat) (v5 : Int32) (M : Mem) (h : T_L_law_1365 κ28 Q g.2.2.2.2.1 g.2.2.2.2.2 v1 v2 v3 v4 v5 M) : WP g 20 mL_law 1365 [some (.ref g.2.2.2.1), some (.ref (g.1 + v1)), some (.ref (g.1 + v2)), some (.ref (g.1 + v3)), some (.ref (g.1 + v4)), some (.int v5), none, none, none] [] M (kr + 1) (oZ Q noX) := by
  unfold T_L_law_1365 at h
  refine R_goto (pc := 1365) (tgt := 2534) d_L_law_1365 (by decide) ?_
  exact WP_sub (B_L_law_2534 Q κ28 hκ28 v1 v2 v3 v4 v5 M h) (by omega) (ls_s (ls_s (ls_s (ls_s (ls_s (ls_s (ls_n (ls_n (ls_n ls_0)))))))))
def T_L_law_1300 (κ28 : Nat → Nat → Nat → Nat → Int32 → Mem → Prop) (Q : Int32 → Mem → Prop) (sl : Nat) (xs : Nat → Int32) (v1 : Nat) (v2 : Nat) (v3 : Nat) (v4 : Nat) (v5 : Int32) (M : Mem) : Prop := (vp_in (v5 + 1) sl) ∧ (vp_in (v5 + 2) sl) ∧ T_L_visit (fun y4 M3 => (kd v2 = 7) ∧ T_X7_visit (fun y7 M6 => T_X7_thrown (fun y9 M8 => if y9 = y4 then (if y4 = 0 then ((kd v3 = 12) ∧ (vp_in 0 (ln v3)) ∧ if (lg_cmp (M8.2.1 (Int32.toNatClampNeg 0)) (Int32.toInt64 y7)) = 0 then (T_L_law_1365 κ28 Q sl xs v1 v2 v3 v4 v5 M8) else (((0 : Int32) = 0 ∨ (0 : Int32) = 1) ∧ Q 0 M8)) else (T_L_law_1365 κ28 Q sl xs v1 v2 v3 v4 v5 M8)) else (((0 : Int32) = 0 ∨ (0 : Int32) = 1) ∧ Q 0 M8))  v2 M6)  v2 (xs (Int32.toNatClampNeg (v5 + 1))) (xs (Int32.toNatClampNeg (v5 + 2))) M3)  v1 (xs (Int32.toNatClampNeg (v5 + 1))) (xs (Int32.toNatClampNeg (v5 + 2))) v3 M
set_option maxRecDepth 100000 in
set_option maxHeartbeats 4000000 in
theorem B_L_law_1300 {g : GG} {kr : Nat} (Q : Int32 → Mem → Prop) (κ28 : Nat → Nat → Nat → Nat → Int32 → Mem → Prop) (hκ28 : ∀ (v1 : Nat) (v2 : Nat) (v3 : Nat) (v4 : Nat) (v5 : Int32) (M : Mem), κ28 v1 v2 v3 v4 v5 M → WP g 20 mL_law 28 [some (.ref g.2.2.2.1), some (.ref (g.1 + v1)), some (.ref (g.1 + v2)), some (.ref (g.1 + v3)), some (.ref (g.1 + v4)), some (.int v5), none, none, none] [] M kr (oZ Q noX)) (v1 : Nat) (v2 : Nat) (v3 : Nat) (v4 : Nat) (v5 : Int32) (M : Mem) (h : T_L_law_1300 κ28 Q g.2.2.2.2.1 g.2.2.2.2.2 v1 v2 v3 v4 v5 M) : WP g 20 mL_law 1300 [some (.ref g.2.2.2.1), some (.ref (g.1 + v1)), some (.ref (g.1 + v2)), some (.ref (g.1 + v3)), some (.ref (g.1 + v4)), some (.int v5), none, none, none] [] M (kr + 2) (oZ Q noX) := by
  unfold T_L_law_1300 at h
  refine R_aload_n (pc := 1300) d_L_law_1300 rfl rfl ?_
  refine R_aload_n (pc := 1301) d_L_law_1301 rfl rfl ?_
  refine R_iload (pc := 1302) d_L_law_1302 rfl ?_
  refine R_iconst (pc := 1304) (v := 1) d_L_law_1304 (by decide) ?_
  refine R_iadd (pc := 1305) d_L_law_1305 ?_
  obtain ⟨k1, h⟩ := h
  refine R_sld (pc := 1306) k1 d_L_law_1306 ?_
  refine R_aload_n (pc := 1307) d_L_law_1307 rfl rfl ?_
  refine R_iload (pc := 1308) d_L_law_1308 rfl ?_
  refine R_iconst (pc := 1310) (v := 2) d_L_law_1310 (by decide) ?_
  refine R_iadd (pc := 1311) d_L_law_1311 ?_
  obtain ⟨k2, h⟩ := h
  refine R_sld (pc := 1312) k2 d_L_law_1312 ?_
  refine R_aload_n (pc := 1313) d_L_law_1313 rfl rfl ?_
  refine R_callSW (pc := 1314) (As := [.ref (g.1 + v1), .int (xs (Int32.toNatClampNeg (v5 + 1))), .int (xs (Int32.toNatClampNeg (v5 + 2))), .ref (g.1 + v3)]) (rest := []) (c_L_visit (g := g) v1 (xs (Int32.toNatClampNeg (v5 + 1))) (xs (Int32.toNatClampNeg (v5 + 2))) v3 M _ h) rfl rfl cal_RL_189 sta_L_visit (by decide) (by omega) rfl rfl (Nat.le_of_ble_eq_true rfl) d_L_law_1314 (k_I (fun y4 M3 h => ?_)) (fun _ _ h9 => False.elim h9)
  try dsimp only at h
  refine R_istore (pc := 1317) (L' := [some (.ref g.2.2.2.1), some (.ref (g.1 + v1)), some (.ref (g.1 + v2)), some (.ref (g.1 + v3)), some (.ref (g.1 + v4)), some (.int v5), some (.int y4), none, none]) d_L_law_1317 (by decide) rfl ?_
  refine R_aload_n (pc := 1319) d_L_law_1319 rfl rfl ?_
  refine R_aload_n (pc := 1320) d_L_law_1320 rfl rfl ?_
  refine R_iload (pc := 1321) d_L_law_1321 rfl ?_
  refine R_iconst (pc := 1323) (v := 1) d_L_law_1323 (by decide) ?_
  refine R_iadd (pc := 1324) d_L_law_1324 ?_
  refine R_sld (pc := 1325) k1 d_L_law_1325 ?_
  refine R_aload_n (pc := 1326) d_L_law_1326 rfl rfl ?_
  refine R_iload (pc := 1327) d_L_law_1327 rfl ?_
  refine R_iconst (pc := 1329) (v := 2) d_L_law_1329 (by decide) ?_
  refine R_iadd (pc := 1330) d_L_law_1330 ?_
  refine R_sld (pc := 1331) k2 d_L_law_1331 ?_
  obtain ⟨k5, h⟩ := h
  refine R_callV (pc := 1332) (As := [.int (xs (Int32.toNatClampNeg (v5 + 1))), .int (xs (Int32.toNatClampNeg (v5 + 2)))]) (rest := []) (c_X7_visit (g := g) v2 (xs (Int32.toNatClampNeg (v5 + 1))) (xs (Int32.toNatClampNeg (v5 + 2))) M3 _ h) rfl rfl cal_RL_191 ins_X7_visit sel_X7_visit (cls_at k5 clsOK7) (by decide) (by omega) rfl rfl (Nat.le_of_ble_eq_true rfl) d_L_law_1332 (k_I (fun y7 M6 h => ?_)) (fun _ _ h9 => False.elim h9)
  try dsimp only at h
  refine R_istore (pc := 1335) (L' := [some (.ref g.2.2.2.1), some (.ref (g.1 + v1)), some (.ref (g.1 + v2)), some (.ref (g.1 + v3)), some (.ref (g.1 + v4)), some (.int v5), some (.int y4), some (.int y7), none]) d_L_law_1335 (by decide) rfl ?_
  refine R_aload_n (pc := 1337) d_L_law_1337 rfl rfl ?_
  refine R_callV (pc := 1338) (As := []) (rest := []) (c_X7_thrown (g := g) v2 M6 _ h) rfl rfl cal_RL_140 ins_X7_thrown sel_X7_thrown (cls_at k5 clsOK7) (by decide) (by omega) rfl rfl (Nat.le_of_ble_eq_true rfl) d_L_law_1338 (k_I (fun y9 M8 h => ?_)) (fun _ _ h9 => False.elim h9)
  try dsimp only at h
  refine R_iload (pc := 1341) d_L_law_1341 rfl ?_
  refine R_icmp_eq (pc := 1343) (tgt := 1348) d_L_law_1343 (by decide) (fun c => ?_) (fun c => ?_)
  · rw [if_pos c] at h
    refine R_iload (pc := 1348) d_L_law_1348 rfl ?_
    refine R_if_ne (pc := 1350) (tgt := 1365) d_L_law_1350 (by decide) (fun c => ?_) (fun c => ?_)
    · rw [if_neg c] at h
      exact WP_sub (B_L_law_1365 Q κ28 hκ28 v1 v2 v3 v4 v5 M8 h) (by omega) (ls_s (ls_s (ls_s (ls_s (ls_s (ls_s (ls_n (ls_n (ls_n ls_0)))))))))
    · rw [if_pos c] at h
      refine R_aload_n (pc := 1353) d_L_law_1353 rfl rfl ?_
      refine R_iconst (pc := 1354) (v := 0) d_L_law_1354 (by decide) ?_
      obtain ⟨k10, h⟩ := h
      obtain ⟨k11, h⟩ := h
      refine R_lald (pc := 1355) k10 k11 d_L_law_1355 ?_
      refine R_iload (pc := 1356) d_L_law_1356 rfl ?_
      refine R_i2l (pc := 1358) d_L_law_1358 ?_
      refine R_lcmp (pc := 1359) d_L_law_1359 ?_
      refine R_if_eq (pc := 1360) (tgt := 1365) d_L_law_1360 (by decide) (fun c => ?_) (fun c => ?_)
      · rw [if_pos c] at h
        exact WP_sub (B_L_law_1365 Q κ28 hκ28 v1 v2 v3 v4 v5 M8 h) (by omega) (ls_s (ls_s (ls_s (ls_s (ls_s (ls_s (ls_n (ls_n (ls_n ls_0)))))))))
      · rw [if_neg c] at h
        refine R_iconst (pc := 1363) (v := 0) d_L_law_1363 (by decide) ?_
        exact R_retv (pc := 1364) d_L_law_1364 h
  · rw [if_neg c] at h
    refine R_iconst (pc := 1346) (v := 0) d_L_law_1346 (by decide) ?_
    exact R_retv (pc := 1347) d_L_law_1347 h
def T_L_law_1297 (κ28 : Nat → Nat → Nat → Nat → Int32 → Mem → Prop) (Q : Int32 → Mem → Prop) (sl : Nat) (xs : Nat → Int32) (v1 : Nat) (v2 : Nat) (v3 : Nat) (v4 : Nat) (v5 : Int32) (M : Mem) : Prop := T_L_law_2534 κ28 Q sl xs v1 v2 v3 v4 v5 M
set_option maxRecDepth 100000 in
set_option maxHeartbeats 4000000 in
theorem B_L_law_1297 {g : GG} {kr : Nat} (Q : Int32 → Mem → Prop) (κ28 : Nat → Nat → Nat → Nat → Int32 → Mem → Prop) (hκ28 : ∀ (v1 : Nat) (v2 : Nat) (v3 : Nat) (v4 : Nat) (v5 : Int32) (M : Mem), κ28 v1 v2 v3 v4 v5 M → WP g 20 mL_law 28 [some (.ref g.2.2.2.1), some (.ref (g.1 + v1)), some (.ref (g.1 + v2)), some (.ref (g.1 + v3)), some (.ref (g.1 + v4)), some (.int v5), none, none, none] [] M kr (oZ Q noX)) (v1 : Nat) (v2 : Nat) (v3 : Nat) (v4 : Nat) (v5 : Int32) (M : Mem) (h : T_L_law_1297 κ28 Q g.2.2.2.2.1 g.2.2.2.2.2 v1 v2 v3 v4 v5 M) : WP g 20 mL_law 1297 [some (.ref g.2.2.2.1), some (.ref (g.1 + v1)), some (.ref (g.1 + v2)), some (.ref (g.1 + v3)), some (.ref (g.1 + v4)), some (.int v5), none, none, none] [] M (kr + 1) (oZ Q noX) := by
  unfold T_L_law_1297 at h
  refine R_goto (pc := 1297) (tgt := 2534) d_L_law_1297 (by decide) ?_
  exact WP_sub (B_L_law_2534 Q κ28 hκ28 v1 v2 v3 v4 v5 M h) (by omega) (ls_s (ls_s (ls_s (ls_s (ls_s (ls_s (ls_n (ls_n (ls_n ls_0)))))))))
def T_L_law_1232 (κ28 : Nat → Nat → Nat → Nat → Int32 → Mem → Prop) (Q : Int32 → Mem → Prop) (sl : Nat) (xs : Nat → Int32) (v1 : Nat) (v2 : Nat) (v3 : Nat) (v4 : Nat) (v5 : Int32) (M : Mem) : Prop := (vp_in (v5 + 1) sl) ∧ (vp_in (v5 + 2) sl) ∧ T_L_firstFree (fun y4 M3 => (kd v2 = 7) ∧ T_X7_firstFree (fun y7 M6 => T_X7_thrown (fun y9 M8 => if y9 = y4 then (if y4 = 0 then ((kd v3 = 12) ∧ (vp_in 0 (ln v3)) ∧ if (lg_cmp (M8.2.1 (Int32.toNatClampNeg 0)) (Int32.toInt64 y7)) = 0 then (T_L_law_1297 κ28 Q sl xs v1 v2 v3 v4 v5 M8) else (((0 : Int32) = 0 ∨ (0 : Int32) = 1) ∧ Q 0 M8)) else (T_L_law_1297 κ28 Q sl xs v1 v2 v3 v4 v5 M8)) else (((0 : Int32) = 0 ∨ (0 : Int32) = 1) ∧ Q 0 M8))  v2 M6)  v2 (xs (Int32.toNatClampNeg (v5 + 1))) (xs (Int32.toNatClampNeg (v5 + 2))) M3)  v1 (xs (Int32.toNatClampNeg (v5 + 1))) (xs (Int32.toNatClampNeg (v5 + 2))) v3 M
set_option maxRecDepth 100000 in
set_option maxHeartbeats 4000000 in
theorem B_L_law_1232 {g : GG} {kr : Nat} (Q : Int32 → Mem → Prop) (κ28 : Nat → Nat → Nat → Nat → Int32 → Mem → Prop) (hκ28 : ∀ (v1 : Nat) (v2 : Nat) (v3 : Nat) (v4 : Nat) (v5 : Int32) (M : Mem), κ28 v1 v2 v3 v4 v5 M → WP g 20 mL_law 28 [some (.ref g.2.2.2.1), some (.ref (g.1 + v1)), some (.ref (g.1 + v2)), some (.ref (g.1 + v3)), some (.ref (g.1 + v4)), some (.int v5), none, none, none] [] M kr (oZ Q noX)) (v1 : Nat) (v2 : Nat) (v3 : Nat) (v4 : Nat) (v5 : Int32) (M : Mem) (h : T_L_law_1232 κ28 Q g.2.2.2.2.1 g.2.2.2.2.2 v1 v2 v3 v4 v5 M) : WP g 20 mL_law 1232 [some (.ref g.2.2.2.1), some (.ref (g.1 + v1)), some (.ref (g.1 + v2)), some (.ref (g.1 + v3)), some (.ref (g.1 + v4)), some (.int v5), none, none, none] [] M (kr + 2) (oZ Q noX) := by
  unfold T_L_law_1232 at h
  refine R_aload_n (pc := 1232) d_L_law_1232 rfl rfl ?_
  refine R_aload_n (pc := 1233) d_L_law_1233 rfl rfl ?_
  refine R_iload (pc := 1234) d_L_law_1234 rfl ?_
  refine R_iconst (pc := 1236) (v := 1) d_L_law_1236 (by decide) ?_
  refine R_iadd (pc := 1237) d_L_law_1237 ?_
  obtain ⟨k1, h⟩ := h
  refine R_sld (pc := 1238) k1 d_L_law_1238 ?_
  refine R_aload_n (pc := 1239) d_L_law_1239 rfl rfl ?_
  refine R_iload (pc := 1240) d_L_law_1240 rfl ?_
  refine R_iconst (pc := 1242) (v := 2) d_L_law_1242 (by decide) ?_
  refine R_iadd (pc := 1243) d_L_law_1243 ?_
  obtain ⟨k2, h⟩ := h
  refine R_sld (pc := 1244) k2 d_L_law_1244 ?_
  refine R_aload_n (pc := 1245) d_L_law_1245 rfl rfl ?_
  refine R_callSW (pc := 1246) (As := [.ref (g.1 + v1), .int (xs (Int32.toNatClampNeg (v5 + 1))), .int (xs (Int32.toNatClampNeg (v5 + 2))), .ref (g.1 + v3)]) (rest := []) (c_L_firstFree (g := g) v1 (xs (Int32.toNatClampNeg (v5 + 1))) (xs (Int32.toNatClampNeg (v5 + 2))) v3 M _ h) rfl rfl cal_RL_186 sta_L_firstFree (by decide) (by omega) rfl rfl (Nat.le_of_ble_eq_true rfl) d_L_law_1246 (k_I (fun y4 M3 h => ?_)) (fun _ _ h9 => False.elim h9)
  try dsimp only at h
  refine R_istore (pc := 1249) (L' := [some (.ref g.2.2.2.1), some (.ref (g.1 + v1)), some (.ref (g.1 + v2)), some (.ref (g.1 + v3)), some (.ref (g.1 + v4)), some (.int v5), some (.int y4), none, none]) d_L_law_1249 (by decide) rfl ?_
  refine R_aload_n (pc := 1251) d_L_law_1251 rfl rfl ?_
  refine R_aload_n (pc := 1252) d_L_law_1252 rfl rfl ?_
  refine R_iload (pc := 1253) d_L_law_1253 rfl ?_
  refine R_iconst (pc := 1255) (v := 1) d_L_law_1255 (by decide) ?_
  refine R_iadd (pc := 1256) d_L_law_1256 ?_
  refine R_sld (pc := 1257) k1 d_L_law_1257 ?_
  refine R_aload_n (pc := 1258) d_L_law_1258 rfl rfl ?_
  refine R_iload (pc := 1259) d_L_law_1259 rfl ?_
  refine R_iconst (pc := 1261) (v := 2) d_L_law_1261 (by decide) ?_
  refine R_iadd (pc := 1262) d_L_law_1262 ?_
  refine R_sld (pc := 1263) k2 d_L_law_1263 ?_
  obtain ⟨k5, h⟩ := h
  refine R_callV (pc := 1264) (As := [.int (xs (Int32.toNatClampNeg (v5 + 1))), .int (xs (Int32.toNatClampNeg (v5 + 2)))]) (rest := []) (c_X7_firstFree (g := g) v2 (xs (Int32.toNatClampNeg (v5 + 1))) (xs (Int32.toNatClampNeg (v5 + 2))) M3 _ h) rfl rfl cal_RL_188 ins_X7_firstFree sel_X7_firstFree (cls_at k5 clsOK7) (by decide) (by omega) rfl rfl (Nat.le_of_ble_eq_true rfl) d_L_law_1264 (k_I (fun y7 M6 h => ?_)) (fun _ _ h9 => False.elim h9)
  try dsimp only at h
  refine R_istore (pc := 1267) (L' := [some (.ref g.2.2.2.1), some (.ref (g.1 + v1)), some (.ref (g.1 + v2)), some (.ref (g.1 + v3)), some (.ref (g.1 + v4)), some (.int v5), some (.int y4), some (.int y7), none]) d_L_law_1267 (by decide) rfl ?_
  refine R_aload_n (pc := 1269) d_L_law_1269 rfl rfl ?_
  refine R_callV (pc := 1270) (As := []) (rest := []) (c_X7_thrown (g := g) v2 M6 _ h) rfl rfl cal_RL_140 ins_X7_thrown sel_X7_thrown (cls_at k5 clsOK7) (by decide) (by omega) rfl rfl (Nat.le_of_ble_eq_true rfl) d_L_law_1270 (k_I (fun y9 M8 h => ?_)) (fun _ _ h9 => False.elim h9)
  try dsimp only at h
  refine R_iload (pc := 1273) d_L_law_1273 rfl ?_
  refine R_icmp_eq (pc := 1275) (tgt := 1280) d_L_law_1275 (by decide) (fun c => ?_) (fun c => ?_)
  · rw [if_pos c] at h
    refine R_iload (pc := 1280) d_L_law_1280 rfl ?_
    refine R_if_ne (pc := 1282) (tgt := 1297) d_L_law_1282 (by decide) (fun c => ?_) (fun c => ?_)
    · rw [if_neg c] at h
      exact WP_sub (B_L_law_1297 Q κ28 hκ28 v1 v2 v3 v4 v5 M8 h) (by omega) (ls_s (ls_s (ls_s (ls_s (ls_s (ls_s (ls_n (ls_n (ls_n ls_0)))))))))
    · rw [if_pos c] at h
      refine R_aload_n (pc := 1285) d_L_law_1285 rfl rfl ?_
      refine R_iconst (pc := 1286) (v := 0) d_L_law_1286 (by decide) ?_
      obtain ⟨k10, h⟩ := h
      obtain ⟨k11, h⟩ := h
      refine R_lald (pc := 1287) k10 k11 d_L_law_1287 ?_
      refine R_iload (pc := 1288) d_L_law_1288 rfl ?_
      refine R_i2l (pc := 1290) d_L_law_1290 ?_
      refine R_lcmp (pc := 1291) d_L_law_1291 ?_
      refine R_if_eq (pc := 1292) (tgt := 1297) d_L_law_1292 (by decide) (fun c => ?_) (fun c => ?_)
      · rw [if_pos c] at h
        exact WP_sub (B_L_law_1297 Q κ28 hκ28 v1 v2 v3 v4 v5 M8 h) (by omega) (ls_s (ls_s (ls_s (ls_s (ls_s (ls_s (ls_n (ls_n (ls_n ls_0)))))))))
      · rw [if_neg c] at h
        refine R_iconst (pc := 1295) (v := 0) d_L_law_1295 (by decide) ?_
        exact R_retv (pc := 1296) d_L_law_1296 h
  · rw [if_neg c] at h
    refine R_iconst (pc := 1278) (v := 0) d_L_law_1278 (by decide) ?_
    exact R_retv (pc := 1279) d_L_law_1279 h
def T_L_law_1229 (κ28 : Nat → Nat → Nat → Nat → Int32 → Mem → Prop) (Q : Int32 → Mem → Prop) (sl : Nat) (xs : Nat → Int32) (v1 : Nat) (v2 : Nat) (v3 : Nat) (v4 : Nat) (v5 : Int32) (M : Mem) : Prop := T_L_law_2534 κ28 Q sl xs v1 v2 v3 v4 v5 M
set_option maxRecDepth 100000 in
set_option maxHeartbeats 4000000 in
theorem B_L_law_1229 {g : GG} {kr : Nat} (Q : Int32 → Mem → Prop) (κ28 : Nat → Nat → Nat → Nat → Int32 → Mem → Prop) (hκ28 : ∀ (v1 : Nat) (v2 : Nat) (v3 : Nat) (v4 : Nat) (v5 : Int32) (M : Mem), κ28 v1 v2 v3 v4 v5 M → WP g 20 mL_law 28 [some (.ref g.2.2.2.1), some (.ref (g.1 + v1)), some (.ref (g.1 + v2)), some (.ref (g.1 + v3)), some (.ref (g.1 + v4)), some (.int v5), none, none, none] [] M kr (oZ Q noX)) (v1 : Nat) (v2 : Nat) (v3 : Nat) (v4 : Nat) (v5 : Int32) (M : Mem) (h : T_L_law_1229 κ28 Q g.2.2.2.2.1 g.2.2.2.2.2 v1 v2 v3 v4 v5 M) : WP g 20 mL_law 1229 [some (.ref g.2.2.2.1), some (.ref (g.1 + v1)), some (.ref (g.1 + v2)), some (.ref (g.1 + v3)), some (.ref (g.1 + v4)), some (.int v5), none, none, none] [] M (kr + 1) (oZ Q noX) := by
  unfold T_L_law_1229 at h
  refine R_goto (pc := 1229) (tgt := 2534) d_L_law_1229 (by decide) ?_
  exact WP_sub (B_L_law_2534 Q κ28 hκ28 v1 v2 v3 v4 v5 M h) (by omega) (ls_s (ls_s (ls_s (ls_s (ls_s (ls_s (ls_n (ls_n (ls_n ls_0)))))))))
def T_L_law_1140 (κ28 : Nat → Nat → Nat → Nat → Int32 → Mem → Prop) (Q : Int32 → Mem → Prop) (sl : Nat) (xs : Nat → Int32) (v1 : Nat) (v2 : Nat) (v3 : Nat) (v4 : Nat) (v5 : Int32) (M : Mem) : Prop := (vp_in (v5 + 1) sl) ∧ (vp_in (v5 + 2) sl) ∧ (vp_in (v5 + 3) sl) ∧ (vp_in (v5 + 4) sl) ∧ T_L_refusal (fun y6 M5 => (kd v2 = 7) ∧ T_X7_refusal (fun y9 M8 => T_X7_thrown (fun y11 M10 => if y11 = y6 then (if y6 = 0 then ((kd v3 = 12) ∧ (vp_in 0 (ln v3)) ∧ if (lg_cmp (M10.2.1 (Int32.toNatClampNeg 0)) (Int32.toInt64 y9)) = 0 then (T_L_law_1229 κ28 Q sl xs v1 v2 v3 v4 v5 M10) else (((0 : Int32) = 0 ∨ (0 : Int32) = 1) ∧ Q 0 M10)) else (T_L_law_1229 κ28 Q sl xs v1 v2 v3 v4 v5 M10)) else (((0 : Int32) = 0 ∨ (0 : Int32) = 1) ∧ Q 0 M10))  v2 M8)  v2 (xs (Int32.toNatClampNeg (v5 + 1))) (xs (Int32.toNatClampNeg (v5 + 2))) (xs (Int32.toNatClampNeg (v5 + 3))) (xs (Int32.toNatClampNeg (v5 + 4))) M5)  v1 (xs (Int32.toNatClampNeg (v5 + 1))) (xs (Int32.toNatClampNeg (v5 + 2))) (xs (Int32.toNatClampNeg (v5 + 3))) (xs (Int32.toNatClampNeg (v5 + 4))) v3 M
set_option maxRecDepth 100000 in
set_option maxHeartbeats 4000000 in
theorem B_L_law_1140 {g : GG} {kr : Nat} (Q : Int32 → Mem → Prop) (κ28 : Nat → Nat → Nat → Nat → Int32 → Mem → Prop) (hκ28 : ∀ (v1 : Nat) (v2 : Nat) (v3 : Nat) (v4 : Nat) (v5 : Int32) (M : Mem), κ28 v1 v2 v3 v4 v5 M → WP g 20 mL_law 28 [some (.ref g.2.2.2.1), some (.ref (g.1 + v1)), some (.ref (g.1 + v2)), some (.ref (g.1 + v3)), some (.ref (g.1 + v4)), some (.int v5), none, none, none] [] M kr (oZ Q noX)) (v1 : Nat) (v2 : Nat) (v3 : Nat) (v4 : Nat) (v5 : Int32) (M : Mem) (h : T_L_law_1140 κ28 Q g.2.2.2.2.1 g.2.2.2.2.2 v1 v2 v3 v4 v5 M) : WP g 20 mL_law 1140 [some (.ref g.2.2.2.1), some (.ref (g.1 + v1)), some (.ref (g.1 + v2)), some (.ref (g.1 + v3)), some (.ref (g.1 + v4)), some (.int v5), none, none, none] [] M (kr + 2) (oZ Q noX) := by
  unfold T_L_law_1140 at h
  refine R_aload_n (pc := 1140) d_L_law_1140 rfl rfl ?_
  refine R_aload_n (pc := 1141) d_L_law_1141 rfl rfl ?_
  refine R_iload (pc := 1142) d_L_law_1142 rfl ?_
  refine R_iconst (pc := 1144) (v := 1) d_L_law_1144 (by decide) ?_
  refine R_iadd (pc := 1145) d_L_law_1145 ?_
  obtain ⟨k1, h⟩ := h
  refine R_sld (pc := 1146) k1 d_L_law_1146 ?_
  refine R_aload_n (pc := 1147) d_L_law_1147 rfl rfl ?_
  refine R_iload (pc := 1148) d_L_law_1148 rfl ?_
  refine R_iconst (pc := 1150) (v := 2) d_L_law_1150 (by decide) ?_
  refine R_iadd (pc := 1151) d_L_law_1151 ?_
  obtain ⟨k2, h⟩ := h
  refine R_sld (pc := 1152) k2 d_L_law_1152 ?_
  refine R_aload_n (pc := 1153) d_L_law_1153 rfl rfl ?_
  refine R_iload (pc := 1154) d_L_law_1154 rfl ?_
  refine R_iconst (pc := 1156) (v := 3) d_L_law_1156 (by decide) ?_
  refine R_iadd (pc := 1157) d_L_law_1157 ?_
  obtain ⟨k3, h⟩ := h
  refine R_sld (pc := 1158) k3 d_L_law_1158 ?_
  refine R_aload_n (pc := 1159) d_L_law_1159 rfl rfl ?_
  refine R_iload (pc := 1160) d_L_law_1160 rfl ?_
  refine R_iconst (pc := 1162) (v := 4) d_L_law_1162 (by decide) ?_
  refine R_iadd (pc := 1163) d_L_law_1163 ?_
  obtain ⟨k4, h⟩ := h
  refine R_sld (pc := 1164) k4 d_L_law_1164 ?_
  refine R_aload_n (pc := 1165) d_L_law_1165 rfl rfl ?_
  refine R_callSW (pc := 1166) (As := [.ref (g.1 + v1), .int (xs (Int32.toNatClampNeg (v5 + 1))), .int (xs (Int32.toNatClampNeg (v5 + 2))), .int (xs (Int32.toNatClampNeg (v5 + 3))), .int (xs (Int32.toNatClampNeg (v5 + 4))), .ref (g.1 + v3)]) (rest := []) (c_L_refusal (g := g) v1 (xs (Int32.toNatClampNeg (v5 + 1))) (xs (Int32.toNatClampNeg (v5 + 2))) (xs (Int32.toNatClampNeg (v5 + 3))) (xs (Int32.toNatClampNeg (v5 + 4))) v3 M _ h) rfl rfl cal_RL_183 sta_L_refusal (by decide) (by omega) rfl rfl (Nat.le_of_ble_eq_true rfl) d_L_law_1166 (k_I (fun y6 M5 h => ?_)) (fun _ _ h9 => False.elim h9)
  try dsimp only at h
  refine R_istore (pc := 1169) (L' := [some (.ref g.2.2.2.1), some (.ref (g.1 + v1)), some (.ref (g.1 + v2)), some (.ref (g.1 + v3)), some (.ref (g.1 + v4)), some (.int v5), some (.int y6), none, none]) d_L_law_1169 (by decide) rfl ?_
  refine R_aload_n (pc := 1171) d_L_law_1171 rfl rfl ?_
  refine R_aload_n (pc := 1172) d_L_law_1172 rfl rfl ?_
  refine R_iload (pc := 1173) d_L_law_1173 rfl ?_
  refine R_iconst (pc := 1175) (v := 1) d_L_law_1175 (by decide) ?_
  refine R_iadd (pc := 1176) d_L_law_1176 ?_
  refine R_sld (pc := 1177) k1 d_L_law_1177 ?_
  refine R_aload_n (pc := 1178) d_L_law_1178 rfl rfl ?_
  refine R_iload (pc := 1179) d_L_law_1179 rfl ?_
  refine R_iconst (pc := 1181) (v := 2) d_L_law_1181 (by decide) ?_
  refine R_iadd (pc := 1182) d_L_law_1182 ?_
  refine R_sld (pc := 1183) k2 d_L_law_1183 ?_
  refine R_aload_n (pc := 1184) d_L_law_1184 rfl rfl ?_
  refine R_iload (pc := 1185) d_L_law_1185 rfl ?_
  refine R_iconst (pc := 1187) (v := 3) d_L_law_1187 (by decide) ?_
  refine R_iadd (pc := 1188) d_L_law_1188 ?_
  refine R_sld (pc := 1189) k3 d_L_law_1189 ?_
  refine R_aload_n (pc := 1190) d_L_law_1190 rfl rfl ?_
  refine R_iload (pc := 1191) d_L_law_1191 rfl ?_
  refine R_iconst (pc := 1193) (v := 4) d_L_law_1193 (by decide) ?_
  refine R_iadd (pc := 1194) d_L_law_1194 ?_
  refine R_sld (pc := 1195) k4 d_L_law_1195 ?_
  obtain ⟨k7, h⟩ := h
  refine R_callV (pc := 1196) (As := [.int (xs (Int32.toNatClampNeg (v5 + 1))), .int (xs (Int32.toNatClampNeg (v5 + 2))), .int (xs (Int32.toNatClampNeg (v5 + 3))), .int (xs (Int32.toNatClampNeg (v5 + 4)))]) (rest := []) (c_X7_refusal (g := g) v2 (xs (Int32.toNatClampNeg (v5 + 1))) (xs (Int32.toNatClampNeg (v5 + 2))) (xs (Int32.toNatClampNeg (v5 + 3))) (xs (Int32.toNatClampNeg (v5 + 4))) M5 _ h) rfl rfl cal_RL_185 ins_X7_refusal sel_X7_refusal (cls_at k7 clsOK7) (by decide) (by omega) rfl rfl (Nat.le_of_ble_eq_true rfl) d_L_law_1196 (k_I (fun y9 M8 h => ?_)) (fun _ _ h9 => False.elim h9)
  try dsimp only at h
  refine R_istore (pc := 1199) (L' := [some (.ref g.2.2.2.1), some (.ref (g.1 + v1)), some (.ref (g.1 + v2)), some (.ref (g.1 + v3)), some (.ref (g.1 + v4)), some (.int v5), some (.int y6), some (.int y9), none]) d_L_law_1199 (by decide) rfl ?_
  refine R_aload_n (pc := 1201) d_L_law_1201 rfl rfl ?_
  refine R_callV (pc := 1202) (As := []) (rest := []) (c_X7_thrown (g := g) v2 M8 _ h) rfl rfl cal_RL_140 ins_X7_thrown sel_X7_thrown (cls_at k7 clsOK7) (by decide) (by omega) rfl rfl (Nat.le_of_ble_eq_true rfl) d_L_law_1202 (k_I (fun y11 M10 h => ?_)) (fun _ _ h9 => False.elim h9)
  try dsimp only at h
  refine R_iload (pc := 1205) d_L_law_1205 rfl ?_
  refine R_icmp_eq (pc := 1207) (tgt := 1212) d_L_law_1207 (by decide) (fun c => ?_) (fun c => ?_)
  · rw [if_pos c] at h
    refine R_iload (pc := 1212) d_L_law_1212 rfl ?_
    refine R_if_ne (pc := 1214) (tgt := 1229) d_L_law_1214 (by decide) (fun c => ?_) (fun c => ?_)
    · rw [if_neg c] at h
      exact WP_sub (B_L_law_1229 Q κ28 hκ28 v1 v2 v3 v4 v5 M10 h) (by omega) (ls_s (ls_s (ls_s (ls_s (ls_s (ls_s (ls_n (ls_n (ls_n ls_0)))))))))
    · rw [if_pos c] at h
      refine R_aload_n (pc := 1217) d_L_law_1217 rfl rfl ?_
      refine R_iconst (pc := 1218) (v := 0) d_L_law_1218 (by decide) ?_
      obtain ⟨k12, h⟩ := h
      obtain ⟨k13, h⟩ := h
      refine R_lald (pc := 1219) k12 k13 d_L_law_1219 ?_
      refine R_iload (pc := 1220) d_L_law_1220 rfl ?_
      refine R_i2l (pc := 1222) d_L_law_1222 ?_
      refine R_lcmp (pc := 1223) d_L_law_1223 ?_
      refine R_if_eq (pc := 1224) (tgt := 1229) d_L_law_1224 (by decide) (fun c => ?_) (fun c => ?_)
      · rw [if_pos c] at h
        exact WP_sub (B_L_law_1229 Q κ28 hκ28 v1 v2 v3 v4 v5 M10 h) (by omega) (ls_s (ls_s (ls_s (ls_s (ls_s (ls_s (ls_n (ls_n (ls_n ls_0)))))))))
      · rw [if_neg c] at h
        refine R_iconst (pc := 1227) (v := 0) d_L_law_1227 (by decide) ?_
        exact R_retv (pc := 1228) d_L_law_1228 h
  · rw [if_neg c] at h
    refine R_iconst (pc := 1210) (v := 0) d_L_law_1210 (by decide) ?_
    exact R_retv (pc := 1211) d_L_law_1211 h
def T_L_law_1137 (κ28 : Nat → Nat → Nat → Nat → Int32 → Mem → Prop) (Q : Int32 → Mem → Prop) (sl : Nat) (xs : Nat → Int32) (v1 : Nat) (v2 : Nat) (v3 : Nat) (v4 : Nat) (v5 : Int32) (M : Mem) : Prop := T_L_law_2534 κ28 Q sl xs v1 v2 v3 v4 v5 M
set_option maxRecDepth 100000 in
set_option maxHeartbeats 4000000 in
theorem B_L_law_1137 {g : GG} {kr : Nat} (Q : Int32 → Mem → Prop) (κ28 : Nat → Nat → Nat → Nat → Int32 → Mem → Prop) (hκ28 : ∀ (v1 : Nat) (v2 : Nat) (v3 : Nat) (v4 : Nat) (v5 : Int32) (M : Mem), κ28 v1 v2 v3 v4 v5 M → WP g 20 mL_law 28 [some (.ref g.2.2.2.1), some (.ref (g.1 + v1)), some (.ref (g.1 + v2)), some (.ref (g.1 + v3)), some (.ref (g.1 + v4)), some (.int v5), none, none, none] [] M kr (oZ Q noX)) (v1 : Nat) (v2 : Nat) (v3 : Nat) (v4 : Nat) (v5 : Int32) (M : Mem) (h : T_L_law_1137 κ28 Q g.2.2.2.2.1 g.2.2.2.2.2 v1 v2 v3 v4 v5 M) : WP g 20 mL_law 1137 [some (.ref g.2.2.2.1), some (.ref (g.1 + v1)), some (.ref (g.1 + v2)), some (.ref (g.1 + v3)), some (.ref (g.1 + v4)), some (.int v5), none, none, none] [] M (kr + 1) (oZ Q noX) := by
  unfold T_L_law_1137 at h
  refine R_goto (pc := 1137) (tgt := 2534) d_L_law_1137 (by decide) ?_
  exact WP_sub (B_L_law_2534 Q κ28 hκ28 v1 v2 v3 v4 v5 M h) (by omega) (ls_s (ls_s (ls_s (ls_s (ls_s (ls_s (ls_n (ls_n (ls_n ls_0)))))))))
def T_L_law_1084 (κ28 : Nat → Nat → Nat → Nat → Int32 → Mem → Prop) (Q : Int32 → Mem → Prop) (sl : Nat) (xs : Nat → Int32) (v1 : Nat) (v2 : Nat) (v3 : Nat) (v4 : Nat) (v5 : Int32) (M : Mem) : Prop := (vp_in (v5 + 1) sl) ∧ T_L_cancel (fun y3 M2 => (kd v2 = 7) ∧ T_X7_cancel (fun y6 M5 => T_X7_thrown (fun y8 M7 => if y8 = y3 then (if y3 = 0 then ((kd v3 = 12) ∧ (vp_in 0 (ln v3)) ∧ if (lg_cmp (M7.2.1 (Int32.toNatClampNeg 0)) (Int32.toInt64 y6)) = 0 then (T_L_law_1137 κ28 Q sl xs v1 v2 v3 v4 v5 M7) else (((0 : Int32) = 0 ∨ (0 : Int32) = 1) ∧ Q 0 M7)) else (T_L_law_1137 κ28 Q sl xs v1 v2 v3 v4 v5 M7)) else (((0 : Int32) = 0 ∨ (0 : Int32) = 1) ∧ Q 0 M7))  v2 M5)  v2 (xs (Int32.toNatClampNeg (v5 + 1))) M2)  v1 (xs (Int32.toNatClampNeg (v5 + 1))) v3 M
set_option maxRecDepth 100000 in
set_option maxHeartbeats 4000000 in
theorem B_L_law_1084 {g : GG} {kr : Nat} (Q : Int32 → Mem → Prop) (κ28 : Nat → Nat → Nat → Nat → Int32 → Mem → Prop) (hκ28 : ∀ (v1 : Nat) (v2 : Nat) (v3 : Nat) (v4 : Nat) (v5 : Int32) (M : Mem), κ28 v1 v2 v3 v4 v5 M → WP g 20 mL_law 28 [some (.ref g.2.2.2.1), some (.ref (g.1 + v1)), some (.ref (g.1 + v2)), some (.ref (g.1 + v3)), some (.ref (g.1 + v4)), some (.int v5), none, none, none] [] M kr (oZ Q noX)) (v1 : Nat) (v2 : Nat) (v3 : Nat) (v4 : Nat) (v5 : Int32) (M : Mem) (h : T_L_law_1084 κ28 Q g.2.2.2.2.1 g.2.2.2.2.2 v1 v2 v3 v4 v5 M) : WP g 20 mL_law 1084 [some (.ref g.2.2.2.1), some (.ref (g.1 + v1)), some (.ref (g.1 + v2)), some (.ref (g.1 + v3)), some (.ref (g.1 + v4)), some (.int v5), none, none, none] [] M (kr + 2) (oZ Q noX) := by
  unfold T_L_law_1084 at h
  refine R_aload_n (pc := 1084) d_L_law_1084 rfl rfl ?_
  refine R_aload_n (pc := 1085) d_L_law_1085 rfl rfl ?_
  refine R_iload (pc := 1086) d_L_law_1086 rfl ?_
  refine R_iconst (pc := 1088) (v := 1) d_L_law_1088 (by decide) ?_
  refine R_iadd (pc := 1089) d_L_law_1089 ?_
  obtain ⟨k1, h⟩ := h
  refine R_sld (pc := 1090) k1 d_L_law_1090 ?_
  refine R_aload_n (pc := 1091) d_L_law_1091 rfl rfl ?_
  refine R_callSW (pc := 1092) (As := [.ref (g.1 + v1), .int (xs (Int32.toNatClampNeg (v5 + 1))), .ref (g.1 + v3)]) (rest := []) (c_L_cancel (g := g) v1 (xs (Int32.toNatClampNeg (v5 + 1))) v3 M _ h) rfl rfl cal_RL_180 sta_L_cancel (by decide) (by omega) rfl rfl (Nat.le_of_ble_eq_true rfl) d_L_law_1092 (k_I (fun y3 M2 h => ?_)) (fun _ _ h9 => False.elim h9)
  try dsimp only at h
  refine R_istore (pc := 1095) (L' := [some (.ref g.2.2.2.1), some (.ref (g.1 + v1)), some (.ref (g.1 + v2)), some (.ref (g.1 + v3)), some (.ref (g.1 + v4)), some (.int v5), some (.int y3), none, none]) d_L_law_1095 (by decide) rfl ?_
  refine R_aload_n (pc := 1097) d_L_law_1097 rfl rfl ?_
  refine R_aload_n (pc := 1098) d_L_law_1098 rfl rfl ?_
  refine R_iload (pc := 1099) d_L_law_1099 rfl ?_
  refine R_iconst (pc := 1101) (v := 1) d_L_law_1101 (by decide) ?_
  refine R_iadd (pc := 1102) d_L_law_1102 ?_
  refine R_sld (pc := 1103) k1 d_L_law_1103 ?_
  obtain ⟨k4, h⟩ := h
  refine R_callV (pc := 1104) (As := [.int (xs (Int32.toNatClampNeg (v5 + 1)))]) (rest := []) (c_X7_cancel (g := g) v2 (xs (Int32.toNatClampNeg (v5 + 1))) M2 _ h) rfl rfl cal_RL_182 ins_X7_cancel sel_X7_cancel (cls_at k4 clsOK7) (by decide) (by omega) rfl rfl (Nat.le_of_ble_eq_true rfl) d_L_law_1104 (k_I (fun y6 M5 h => ?_)) (fun _ _ h9 => False.elim h9)
  try dsimp only at h
  refine R_istore (pc := 1107) (L' := [some (.ref g.2.2.2.1), some (.ref (g.1 + v1)), some (.ref (g.1 + v2)), some (.ref (g.1 + v3)), some (.ref (g.1 + v4)), some (.int v5), some (.int y3), some (.int y6), none]) d_L_law_1107 (by decide) rfl ?_
  refine R_aload_n (pc := 1109) d_L_law_1109 rfl rfl ?_
  refine R_callV (pc := 1110) (As := []) (rest := []) (c_X7_thrown (g := g) v2 M5 _ h) rfl rfl cal_RL_140 ins_X7_thrown sel_X7_thrown (cls_at k4 clsOK7) (by decide) (by omega) rfl rfl (Nat.le_of_ble_eq_true rfl) d_L_law_1110 (k_I (fun y8 M7 h => ?_)) (fun _ _ h9 => False.elim h9)
  try dsimp only at h
  refine R_iload (pc := 1113) d_L_law_1113 rfl ?_
  refine R_icmp_eq (pc := 1115) (tgt := 1120) d_L_law_1115 (by decide) (fun c => ?_) (fun c => ?_)
  · rw [if_pos c] at h
    refine R_iload (pc := 1120) d_L_law_1120 rfl ?_
    refine R_if_ne (pc := 1122) (tgt := 1137) d_L_law_1122 (by decide) (fun c => ?_) (fun c => ?_)
    · rw [if_neg c] at h
      exact WP_sub (B_L_law_1137 Q κ28 hκ28 v1 v2 v3 v4 v5 M7 h) (by omega) (ls_s (ls_s (ls_s (ls_s (ls_s (ls_s (ls_n (ls_n (ls_n ls_0)))))))))
    · rw [if_pos c] at h
      refine R_aload_n (pc := 1125) d_L_law_1125 rfl rfl ?_
      refine R_iconst (pc := 1126) (v := 0) d_L_law_1126 (by decide) ?_
      obtain ⟨k9, h⟩ := h
      obtain ⟨k10, h⟩ := h
      refine R_lald (pc := 1127) k9 k10 d_L_law_1127 ?_
      refine R_iload (pc := 1128) d_L_law_1128 rfl ?_
      refine R_i2l (pc := 1130) d_L_law_1130 ?_
      refine R_lcmp (pc := 1131) d_L_law_1131 ?_
      refine R_if_eq (pc := 1132) (tgt := 1137) d_L_law_1132 (by decide) (fun c => ?_) (fun c => ?_)
      · rw [if_pos c] at h
        exact WP_sub (B_L_law_1137 Q κ28 hκ28 v1 v2 v3 v4 v5 M7 h) (by omega) (ls_s (ls_s (ls_s (ls_s (ls_s (ls_s (ls_n (ls_n (ls_n ls_0)))))))))
      · rw [if_neg c] at h
        refine R_iconst (pc := 1135) (v := 0) d_L_law_1135 (by decide) ?_
        exact R_retv (pc := 1136) d_L_law_1136 h
  · rw [if_neg c] at h
    refine R_iconst (pc := 1118) (v := 0) d_L_law_1118 (by decide) ?_
    exact R_retv (pc := 1119) d_L_law_1119 h
def T_L_law_1081 (κ28 : Nat → Nat → Nat → Nat → Int32 → Mem → Prop) (Q : Int32 → Mem → Prop) (sl : Nat) (xs : Nat → Int32) (v1 : Nat) (v2 : Nat) (v3 : Nat) (v4 : Nat) (v5 : Int32) (M : Mem) : Prop := T_L_law_2534 κ28 Q sl xs v1 v2 v3 v4 v5 M
set_option maxRecDepth 100000 in
set_option maxHeartbeats 4000000 in
theorem B_L_law_1081 {g : GG} {kr : Nat} (Q : Int32 → Mem → Prop) (κ28 : Nat → Nat → Nat → Nat → Int32 → Mem → Prop) (hκ28 : ∀ (v1 : Nat) (v2 : Nat) (v3 : Nat) (v4 : Nat) (v5 : Int32) (M : Mem), κ28 v1 v2 v3 v4 v5 M → WP g 20 mL_law 28 [some (.ref g.2.2.2.1), some (.ref (g.1 + v1)), some (.ref (g.1 + v2)), some (.ref (g.1 + v3)), some (.ref (g.1 + v4)), some (.int v5), none, none, none] [] M kr (oZ Q noX)) (v1 : Nat) (v2 : Nat) (v3 : Nat) (v4 : Nat) (v5 : Int32) (M : Mem) (h : T_L_law_1081 κ28 Q g.2.2.2.2.1 g.2.2.2.2.2 v1 v2 v3 v4 v5 M) : WP g 20 mL_law 1081 [some (.ref g.2.2.2.1), some (.ref (g.1 + v1)), some (.ref (g.1 + v2)), some (.ref (g.1 + v3)), some (.ref (g.1 + v4)), some (.int v5), none, none, none] [] M (kr + 0) (oZ Q noX) := by
  unfold T_L_law_1081 at h
  refine R_goto (pc := 1081) (tgt := 2534) d_L_law_1081 (by decide) ?_
  exact WP_sub (B_L_law_2534 Q κ28 hκ28 v1 v2 v3 v4 v5 M h) (by omega) (ls_s (ls_s (ls_s (ls_s (ls_s (ls_s (ls_n (ls_n (ls_n ls_0)))))))))
def T_L_law_992 (κ28 : Nat → Nat → Nat → Nat → Int32 → Mem → Prop) (Q : Int32 → Mem → Prop) (sl : Nat) (xs : Nat → Int32) (v1 : Nat) (v2 : Nat) (v3 : Nat) (v4 : Nat) (v5 : Int32) (M : Mem) : Prop := (vp_in (v5 + 1) sl) ∧ (vp_in (v5 + 2) sl) ∧ (vp_in (v5 + 3) sl) ∧ (vp_in (v5 + 4) sl) ∧ T_L_book (fun y6 M5 => (kd v2 = 7) ∧ T_X7_book (fun y9 M8 => T_X7_thrown (fun y11 M10 => if y11 = y6 then (if y6 = 0 then ((kd v3 = 12) ∧ (vp_in 0 (ln v3)) ∧ if (lg_cmp (M10.2.1 (Int32.toNatClampNeg 0)) (Int32.toInt64 y9)) = 0 then (T_L_law_1081 κ28 Q sl xs v1 v2 v3 v4 v5 M10) else (((0 : Int32) = 0 ∨ (0 : Int32) = 1) ∧ Q 0 M10)) else (T_L_law_1081 κ28 Q sl xs v1 v2 v3 v4 v5 M10)) else (((0 : Int32) = 0 ∨ (0 : Int32) = 1) ∧ Q 0 M10))  v2 M8)  v2 (xs (Int32.toNatClampNeg (v5 + 1))) (xs (Int32.toNatClampNeg (v5 + 2))) (xs (Int32.toNatClampNeg (v5 + 3))) (xs (Int32.toNatClampNeg (v5 + 4))) M5)  v1 (xs (Int32.toNatClampNeg (v5 + 1))) (xs (Int32.toNatClampNeg (v5 + 2))) (xs (Int32.toNatClampNeg (v5 + 3))) (xs (Int32.toNatClampNeg (v5 + 4))) v3 M
set_option maxRecDepth 100000 in
set_option maxHeartbeats 4000000 in
theorem B_L_law_992 {g : GG} {kr : Nat} (Q : Int32 → Mem → Prop) (κ28 : Nat → Nat → Nat → Nat → Int32 → Mem → Prop) (hκ28 : ∀ (v1 : Nat) (v2 : Nat) (v3 : Nat) (v4 : Nat) (v5 : Int32) (M : Mem), κ28 v1 v2 v3 v4 v5 M → WP g 20 mL_law 28 [some (.ref g.2.2.2.1), some (.ref (g.1 + v1)), some (.ref (g.1 + v2)), some (.ref (g.1 + v3)), some (.ref (g.1 + v4)), some (.int v5), none, none, none] [] M kr (oZ Q noX)) (v1 : Nat) (v2 : Nat) (v3 : Nat) (v4 : Nat) (v5 : Int32) (M : Mem) (h : T_L_law_992 κ28 Q g.2.2.2.2.1 g.2.2.2.2.2 v1 v2 v3 v4 v5 M) : WP g 20 mL_law 992 [some (.ref g.2.2.2.1), some (.ref (g.1 + v1)), some (.ref (g.1 + v2)), some (.ref (g.1 + v3)), some (.ref (g.1 + v4)), some (.int v5), none, none, none] [] M (kr + 2) (oZ Q noX) := by
  unfold T_L_law_992 at h
  refine R_aload_n (pc := 992) d_L_law_992 rfl rfl ?_
  refine R_aload_n (pc := 993) d_L_law_993 rfl rfl ?_
  refine R_iload (pc := 994) d_L_law_994 rfl ?_
  refine R_iconst (pc := 996) (v := 1) d_L_law_996 (by decide) ?_
  refine R_iadd (pc := 997) d_L_law_997 ?_
  obtain ⟨k1, h⟩ := h
  refine R_sld (pc := 998) k1 d_L_law_998 ?_
  refine R_aload_n (pc := 999) d_L_law_999 rfl rfl ?_
  refine R_iload (pc := 1000) d_L_law_1000 rfl ?_
  refine R_iconst (pc := 1002) (v := 2) d_L_law_1002 (by decide) ?_
  refine R_iadd (pc := 1003) d_L_law_1003 ?_
  obtain ⟨k2, h⟩ := h
  refine R_sld (pc := 1004) k2 d_L_law_1004 ?_
  refine R_aload_n (pc := 1005) d_L_law_1005 rfl rfl ?_
  refine R_iload (pc := 1006) d_L_law_1006 rfl ?_
  refine R_iconst (pc := 1008) (v := 3) d_L_law_1008 (by decide) ?_
  refine R_iadd (pc := 1009) d_L_law_1009 ?_
  obtain ⟨k3, h⟩ := h
  refine R_sld (pc := 1010) k3 d_L_law_1010 ?_
  refine R_aload_n (pc := 1011) d_L_law_1011 rfl rfl ?_
  refine R_iload (pc := 1012) d_L_law_1012 rfl ?_
  refine R_iconst (pc := 1014) (v := 4) d_L_law_1014 (by decide) ?_
  refine R_iadd (pc := 1015) d_L_law_1015 ?_
  obtain ⟨k4, h⟩ := h
  refine R_sld (pc := 1016) k4 d_L_law_1016 ?_
  refine R_aload_n (pc := 1017) d_L_law_1017 rfl rfl ?_
  refine R_callSW (pc := 1018) (As := [.ref (g.1 + v1), .int (xs (Int32.toNatClampNeg (v5 + 1))), .int (xs (Int32.toNatClampNeg (v5 + 2))), .int (xs (Int32.toNatClampNeg (v5 + 3))), .int (xs (Int32.toNatClampNeg (v5 + 4))), .ref (g.1 + v3)]) (rest := []) (c_L_book (g := g) v1 (xs (Int32.toNatClampNeg (v5 + 1))) (xs (Int32.toNatClampNeg (v5 + 2))) (xs (Int32.toNatClampNeg (v5 + 3))) (xs (Int32.toNatClampNeg (v5 + 4))) v3 M _ h) rfl rfl cal_RL_176 sta_L_book (by decide) (by omega) rfl rfl (Nat.le_of_ble_eq_true rfl) d_L_law_1018 (k_I (fun y6 M5 h => ?_)) (fun _ _ h9 => False.elim h9)
  try dsimp only at h
  refine R_istore (pc := 1021) (L' := [some (.ref g.2.2.2.1), some (.ref (g.1 + v1)), some (.ref (g.1 + v2)), some (.ref (g.1 + v3)), some (.ref (g.1 + v4)), some (.int v5), some (.int y6), none, none]) d_L_law_1021 (by decide) rfl ?_
  refine R_aload_n (pc := 1023) d_L_law_1023 rfl rfl ?_
  refine R_aload_n (pc := 1024) d_L_law_1024 rfl rfl ?_
  refine R_iload (pc := 1025) d_L_law_1025 rfl ?_
  refine R_iconst (pc := 1027) (v := 1) d_L_law_1027 (by decide) ?_
  refine R_iadd (pc := 1028) d_L_law_1028 ?_
  refine R_sld (pc := 1029) k1 d_L_law_1029 ?_
  refine R_aload_n (pc := 1030) d_L_law_1030 rfl rfl ?_
  refine R_iload (pc := 1031) d_L_law_1031 rfl ?_
  refine R_iconst (pc := 1033) (v := 2) d_L_law_1033 (by decide) ?_
  refine R_iadd (pc := 1034) d_L_law_1034 ?_
  refine R_sld (pc := 1035) k2 d_L_law_1035 ?_
  refine R_aload_n (pc := 1036) d_L_law_1036 rfl rfl ?_
  refine R_iload (pc := 1037) d_L_law_1037 rfl ?_
  refine R_iconst (pc := 1039) (v := 3) d_L_law_1039 (by decide) ?_
  refine R_iadd (pc := 1040) d_L_law_1040 ?_
  refine R_sld (pc := 1041) k3 d_L_law_1041 ?_
  refine R_aload_n (pc := 1042) d_L_law_1042 rfl rfl ?_
  refine R_iload (pc := 1043) d_L_law_1043 rfl ?_
  refine R_iconst (pc := 1045) (v := 4) d_L_law_1045 (by decide) ?_
  refine R_iadd (pc := 1046) d_L_law_1046 ?_
  refine R_sld (pc := 1047) k4 d_L_law_1047 ?_
  obtain ⟨k7, h⟩ := h
  refine R_callV (pc := 1048) (As := [.int (xs (Int32.toNatClampNeg (v5 + 1))), .int (xs (Int32.toNatClampNeg (v5 + 2))), .int (xs (Int32.toNatClampNeg (v5 + 3))), .int (xs (Int32.toNatClampNeg (v5 + 4)))]) (rest := []) (c_X7_book (g := g) v2 (xs (Int32.toNatClampNeg (v5 + 1))) (xs (Int32.toNatClampNeg (v5 + 2))) (xs (Int32.toNatClampNeg (v5 + 3))) (xs (Int32.toNatClampNeg (v5 + 4))) M5 _ h) rfl rfl cal_RL_179 ins_X7_book sel_X7_book (cls_at k7 clsOK7) (by decide) (by omega) rfl rfl (Nat.le_of_ble_eq_true rfl) d_L_law_1048 (k_I (fun y9 M8 h => ?_)) (fun _ _ h9 => False.elim h9)
  try dsimp only at h
  refine R_istore (pc := 1051) (L' := [some (.ref g.2.2.2.1), some (.ref (g.1 + v1)), some (.ref (g.1 + v2)), some (.ref (g.1 + v3)), some (.ref (g.1 + v4)), some (.int v5), some (.int y6), some (.int y9), none]) d_L_law_1051 (by decide) rfl ?_
  refine R_aload_n (pc := 1053) d_L_law_1053 rfl rfl ?_
  refine R_callV (pc := 1054) (As := []) (rest := []) (c_X7_thrown (g := g) v2 M8 _ h) rfl rfl cal_RL_140 ins_X7_thrown sel_X7_thrown (cls_at k7 clsOK7) (by decide) (by omega) rfl rfl (Nat.le_of_ble_eq_true rfl) d_L_law_1054 (k_I (fun y11 M10 h => ?_)) (fun _ _ h9 => False.elim h9)
  try dsimp only at h
  refine R_iload (pc := 1057) d_L_law_1057 rfl ?_
  refine R_icmp_eq (pc := 1059) (tgt := 1064) d_L_law_1059 (by decide) (fun c => ?_) (fun c => ?_)
  · rw [if_pos c] at h
    refine R_iload (pc := 1064) d_L_law_1064 rfl ?_
    refine R_if_ne (pc := 1066) (tgt := 1081) d_L_law_1066 (by decide) (fun c => ?_) (fun c => ?_)
    · rw [if_neg c] at h
      exact WP_sub (B_L_law_1081 Q κ28 hκ28 v1 v2 v3 v4 v5 M10 h) (by omega) (ls_s (ls_s (ls_s (ls_s (ls_s (ls_s (ls_n (ls_n (ls_n ls_0)))))))))
    · rw [if_pos c] at h
      refine R_aload_n (pc := 1069) d_L_law_1069 rfl rfl ?_
      refine R_iconst (pc := 1070) (v := 0) d_L_law_1070 (by decide) ?_
      obtain ⟨k12, h⟩ := h
      obtain ⟨k13, h⟩ := h
      refine R_lald (pc := 1071) k12 k13 d_L_law_1071 ?_
      refine R_iload (pc := 1072) d_L_law_1072 rfl ?_
      refine R_i2l (pc := 1074) d_L_law_1074 ?_
      refine R_lcmp (pc := 1075) d_L_law_1075 ?_
      refine R_if_eq (pc := 1076) (tgt := 1081) d_L_law_1076 (by decide) (fun c => ?_) (fun c => ?_)
      · rw [if_pos c] at h
        exact WP_sub (B_L_law_1081 Q κ28 hκ28 v1 v2 v3 v4 v5 M10 h) (by omega) (ls_s (ls_s (ls_s (ls_s (ls_s (ls_s (ls_n (ls_n (ls_n ls_0)))))))))
      · rw [if_neg c] at h
        refine R_iconst (pc := 1079) (v := 0) d_L_law_1079 (by decide) ?_
        exact R_retv (pc := 1080) d_L_law_1080 h
  · rw [if_neg c] at h
    refine R_iconst (pc := 1062) (v := 0) d_L_law_1062 (by decide) ?_
    exact R_retv (pc := 1063) d_L_law_1063 h
def T_L_law_989 (κ28 : Nat → Nat → Nat → Nat → Int32 → Mem → Prop) (Q : Int32 → Mem → Prop) (sl : Nat) (xs : Nat → Int32) (v1 : Nat) (v2 : Nat) (v3 : Nat) (v4 : Nat) (v5 : Int32) (M : Mem) : Prop := T_L_law_2534 κ28 Q sl xs v1 v2 v3 v4 v5 M
set_option maxRecDepth 100000 in
set_option maxHeartbeats 4000000 in
theorem B_L_law_989 {g : GG} {kr : Nat} (Q : Int32 → Mem → Prop) (κ28 : Nat → Nat → Nat → Nat → Int32 → Mem → Prop) (hκ28 : ∀ (v1 : Nat) (v2 : Nat) (v3 : Nat) (v4 : Nat) (v5 : Int32) (M : Mem), κ28 v1 v2 v3 v4 v5 M → WP g 20 mL_law 28 [some (.ref g.2.2.2.1), some (.ref (g.1 + v1)), some (.ref (g.1 + v2)), some (.ref (g.1 + v3)), some (.ref (g.1 + v4)), some (.int v5), none, none, none] [] M kr (oZ Q noX)) (v1 : Nat) (v2 : Nat) (v3 : Nat) (v4 : Nat) (v5 : Int32) (M : Mem) (h : T_L_law_989 κ28 Q g.2.2.2.2.1 g.2.2.2.2.2 v1 v2 v3 v4 v5 M) : WP g 20 mL_law 989 [some (.ref g.2.2.2.1), some (.ref (g.1 + v1)), some (.ref (g.1 + v2)), some (.ref (g.1 + v3)), some (.ref (g.1 + v4)), some (.int v5), none, none, none] [] M (kr + 1) (oZ Q noX) := by
  unfold T_L_law_989 at h
  refine R_goto (pc := 989) (tgt := 2534) d_L_law_989 (by decide) ?_
  exact WP_sub (B_L_law_2534 Q κ28 hκ28 v1 v2 v3 v4 v5 M h) (by omega) (ls_s (ls_s (ls_s (ls_s (ls_s (ls_s (ls_n (ls_n (ls_n ls_0)))))))))
def T_L_law_924 (κ28 : Nat → Nat → Nat → Nat → Int32 → Mem → Prop) (Q : Int32 → Mem → Prop) (sl : Nat) (xs : Nat → Int32) (v1 : Nat) (v2 : Nat) (v3 : Nat) (v4 : Nat) (v5 : Int32) (M : Mem) : Prop := (vp_in (v5 + 1) sl) ∧ (vp_in (v5 + 2) sl) ∧ T_L_ordered (fun y4 M3 => (kd v2 = 7) ∧ T_X7_ordered (fun y7 M6 => T_X7_thrown (fun y9 M8 => if y9 = y4 then (if y4 = 0 then ((kd v3 = 12) ∧ (vp_in 0 (ln v3)) ∧ if (lg_cmp (M8.2.1 (Int32.toNatClampNeg 0)) (Int32.toInt64 y7)) = 0 then (T_L_law_989 κ28 Q sl xs v1 v2 v3 v4 v5 M8) else (((0 : Int32) = 0 ∨ (0 : Int32) = 1) ∧ Q 0 M8)) else (T_L_law_989 κ28 Q sl xs v1 v2 v3 v4 v5 M8)) else (((0 : Int32) = 0 ∨ (0 : Int32) = 1) ∧ Q 0 M8))  v2 M6)  v2 (xs (Int32.toNatClampNeg (v5 + 1))) (xs (Int32.toNatClampNeg (v5 + 2))) M3)  v1 (xs (Int32.toNatClampNeg (v5 + 1))) (xs (Int32.toNatClampNeg (v5 + 2))) v3 M
set_option maxRecDepth 100000 in
set_option maxHeartbeats 4000000 in
theorem B_L_law_924 {g : GG} {kr : Nat} (Q : Int32 → Mem → Prop) (κ28 : Nat → Nat → Nat → Nat → Int32 → Mem → Prop) (hκ28 : ∀ (v1 : Nat) (v2 : Nat) (v3 : Nat) (v4 : Nat) (v5 : Int32) (M : Mem), κ28 v1 v2 v3 v4 v5 M → WP g 20 mL_law 28 [some (.ref g.2.2.2.1), some (.ref (g.1 + v1)), some (.ref (g.1 + v2)), some (.ref (g.1 + v3)), some (.ref (g.1 + v4)), some (.int v5), none, none, none] [] M kr (oZ Q noX)) (v1 : Nat) (v2 : Nat) (v3 : Nat) (v4 : Nat) (v5 : Int32) (M : Mem) (h : T_L_law_924 κ28 Q g.2.2.2.2.1 g.2.2.2.2.2 v1 v2 v3 v4 v5 M) : WP g 20 mL_law 924 [some (.ref g.2.2.2.1), some (.ref (g.1 + v1)), some (.ref (g.1 + v2)), some (.ref (g.1 + v3)), some (.ref (g.1 + v4)), some (.int v5), none, none, none] [] M (kr + 2) (oZ Q noX) := by
  unfold T_L_law_924 at h
  refine R_aload_n (pc := 924) d_L_law_924 rfl rfl ?_
  refine R_aload_n (pc := 925) d_L_law_925 rfl rfl ?_
  refine R_iload (pc := 926) d_L_law_926 rfl ?_
  refine R_iconst (pc := 928) (v := 1) d_L_law_928 (by decide) ?_
  refine R_iadd (pc := 929) d_L_law_929 ?_
  obtain ⟨k1, h⟩ := h
  refine R_sld (pc := 930) k1 d_L_law_930 ?_
  refine R_aload_n (pc := 931) d_L_law_931 rfl rfl ?_
  refine R_iload (pc := 932) d_L_law_932 rfl ?_
  refine R_iconst (pc := 934) (v := 2) d_L_law_934 (by decide) ?_
  refine R_iadd (pc := 935) d_L_law_935 ?_
  obtain ⟨k2, h⟩ := h
  refine R_sld (pc := 936) k2 d_L_law_936 ?_
  refine R_aload_n (pc := 937) d_L_law_937 rfl rfl ?_
  refine R_callSW (pc := 938) (As := [.ref (g.1 + v1), .int (xs (Int32.toNatClampNeg (v5 + 1))), .int (xs (Int32.toNatClampNeg (v5 + 2))), .ref (g.1 + v3)]) (rest := []) (c_L_ordered (g := g) v1 (xs (Int32.toNatClampNeg (v5 + 1))) (xs (Int32.toNatClampNeg (v5 + 2))) v3 M _ h) rfl rfl cal_RL_173 sta_L_ordered (by decide) (by omega) rfl rfl (Nat.le_of_ble_eq_true rfl) d_L_law_938 (k_I (fun y4 M3 h => ?_)) (fun _ _ h9 => False.elim h9)
  try dsimp only at h
  refine R_istore (pc := 941) (L' := [some (.ref g.2.2.2.1), some (.ref (g.1 + v1)), some (.ref (g.1 + v2)), some (.ref (g.1 + v3)), some (.ref (g.1 + v4)), some (.int v5), some (.int y4), none, none]) d_L_law_941 (by decide) rfl ?_
  refine R_aload_n (pc := 943) d_L_law_943 rfl rfl ?_
  refine R_aload_n (pc := 944) d_L_law_944 rfl rfl ?_
  refine R_iload (pc := 945) d_L_law_945 rfl ?_
  refine R_iconst (pc := 947) (v := 1) d_L_law_947 (by decide) ?_
  refine R_iadd (pc := 948) d_L_law_948 ?_
  refine R_sld (pc := 949) k1 d_L_law_949 ?_
  refine R_aload_n (pc := 950) d_L_law_950 rfl rfl ?_
  refine R_iload (pc := 951) d_L_law_951 rfl ?_
  refine R_iconst (pc := 953) (v := 2) d_L_law_953 (by decide) ?_
  refine R_iadd (pc := 954) d_L_law_954 ?_
  refine R_sld (pc := 955) k2 d_L_law_955 ?_
  obtain ⟨k5, h⟩ := h
  refine R_callV (pc := 956) (As := [.int (xs (Int32.toNatClampNeg (v5 + 1))), .int (xs (Int32.toNatClampNeg (v5 + 2)))]) (rest := []) (c_X7_ordered (g := g) v2 (xs (Int32.toNatClampNeg (v5 + 1))) (xs (Int32.toNatClampNeg (v5 + 2))) M3 _ h) rfl rfl cal_RL_175 ins_X7_ordered sel_X7_ordered (cls_at k5 clsOK7) (by decide) (by omega) rfl rfl (Nat.le_of_ble_eq_true rfl) d_L_law_956 (k_I (fun y7 M6 h => ?_)) (fun _ _ h9 => False.elim h9)
  try dsimp only at h
  refine R_istore (pc := 959) (L' := [some (.ref g.2.2.2.1), some (.ref (g.1 + v1)), some (.ref (g.1 + v2)), some (.ref (g.1 + v3)), some (.ref (g.1 + v4)), some (.int v5), some (.int y4), some (.int y7), none]) d_L_law_959 (by decide) rfl ?_
  refine R_aload_n (pc := 961) d_L_law_961 rfl rfl ?_
  refine R_callV (pc := 962) (As := []) (rest := []) (c_X7_thrown (g := g) v2 M6 _ h) rfl rfl cal_RL_140 ins_X7_thrown sel_X7_thrown (cls_at k5 clsOK7) (by decide) (by omega) rfl rfl (Nat.le_of_ble_eq_true rfl) d_L_law_962 (k_I (fun y9 M8 h => ?_)) (fun _ _ h9 => False.elim h9)
  try dsimp only at h
  refine R_iload (pc := 965) d_L_law_965 rfl ?_
  refine R_icmp_eq (pc := 967) (tgt := 972) d_L_law_967 (by decide) (fun c => ?_) (fun c => ?_)
  · rw [if_pos c] at h
    refine R_iload (pc := 972) d_L_law_972 rfl ?_
    refine R_if_ne (pc := 974) (tgt := 989) d_L_law_974 (by decide) (fun c => ?_) (fun c => ?_)
    · rw [if_neg c] at h
      exact WP_sub (B_L_law_989 Q κ28 hκ28 v1 v2 v3 v4 v5 M8 h) (by omega) (ls_s (ls_s (ls_s (ls_s (ls_s (ls_s (ls_n (ls_n (ls_n ls_0)))))))))
    · rw [if_pos c] at h
      refine R_aload_n (pc := 977) d_L_law_977 rfl rfl ?_
      refine R_iconst (pc := 978) (v := 0) d_L_law_978 (by decide) ?_
      obtain ⟨k10, h⟩ := h
      obtain ⟨k11, h⟩ := h
      refine R_lald (pc := 979) k10 k11 d_L_law_979 ?_
      refine R_iload (pc := 980) d_L_law_980 rfl ?_
      refine R_i2l (pc := 982) d_L_law_982 ?_
      refine R_lcmp (pc := 983) d_L_law_983 ?_
      refine R_if_eq (pc := 984) (tgt := 989) d_L_law_984 (by decide) (fun c => ?_) (fun c => ?_)
      · rw [if_pos c] at h
        exact WP_sub (B_L_law_989 Q κ28 hκ28 v1 v2 v3 v4 v5 M8 h) (by omega) (ls_s (ls_s (ls_s (ls_s (ls_s (ls_s (ls_n (ls_n (ls_n ls_0)))))))))
      · rw [if_neg c] at h
        refine R_iconst (pc := 987) (v := 0) d_L_law_987 (by decide) ?_
        exact R_retv (pc := 988) d_L_law_988 h
  · rw [if_neg c] at h
    refine R_iconst (pc := 970) (v := 0) d_L_law_970 (by decide) ?_
    exact R_retv (pc := 971) d_L_law_971 h
def T_L_law_921 (κ28 : Nat → Nat → Nat → Nat → Int32 → Mem → Prop) (Q : Int32 → Mem → Prop) (sl : Nat) (xs : Nat → Int32) (v1 : Nat) (v2 : Nat) (v3 : Nat) (v4 : Nat) (v5 : Int32) (M : Mem) : Prop := T_L_law_2534 κ28 Q sl xs v1 v2 v3 v4 v5 M
set_option maxRecDepth 100000 in
set_option maxHeartbeats 4000000 in
theorem B_L_law_921 {g : GG} {kr : Nat} (Q : Int32 → Mem → Prop) (κ28 : Nat → Nat → Nat → Nat → Int32 → Mem → Prop) (hκ28 : ∀ (v1 : Nat) (v2 : Nat) (v3 : Nat) (v4 : Nat) (v5 : Int32) (M : Mem), κ28 v1 v2 v3 v4 v5 M → WP g 20 mL_law 28 [some (.ref g.2.2.2.1), some (.ref (g.1 + v1)), some (.ref (g.1 + v2)), some (.ref (g.1 + v3)), some (.ref (g.1 + v4)), some (.int v5), none, none, none] [] M kr (oZ Q noX)) (v1 : Nat) (v2 : Nat) (v3 : Nat) (v4 : Nat) (v5 : Int32) (M : Mem) (h : T_L_law_921 κ28 Q g.2.2.2.2.1 g.2.2.2.2.2 v1 v2 v3 v4 v5 M) : WP g 20 mL_law 921 [some (.ref g.2.2.2.1), some (.ref (g.1 + v1)), some (.ref (g.1 + v2)), some (.ref (g.1 + v3)), some (.ref (g.1 + v4)), some (.int v5), none, none, none] [] M (kr + 1) (oZ Q noX) := by
  unfold T_L_law_921 at h
  refine R_goto (pc := 921) (tgt := 2534) d_L_law_921 (by decide) ?_
  exact WP_sub (B_L_law_2534 Q κ28 hκ28 v1 v2 v3 v4 v5 M h) (by omega) (ls_s (ls_s (ls_s (ls_s (ls_s (ls_s (ls_n (ls_n (ls_n ls_0)))))))))
def T_L_law_856 (κ28 : Nat → Nat → Nat → Nat → Int32 → Mem → Prop) (Q : Int32 → Mem → Prop) (sl : Nat) (xs : Nat → Int32) (v1 : Nat) (v2 : Nat) (v3 : Nat) (v4 : Nat) (v5 : Int32) (M : Mem) : Prop := (vp_in (v5 + 1) sl) ∧ (vp_in (v5 + 2) sl) ∧ T_L_room (fun y4 M3 => (kd v2 = 7) ∧ T_X7_room (fun y7 M6 => T_X7_thrown (fun y9 M8 => if y9 = y4 then (if y4 = 0 then ((kd v3 = 12) ∧ (vp_in 0 (ln v3)) ∧ if (lg_cmp (M8.2.1 (Int32.toNatClampNeg 0)) (Int32.toInt64 y7)) = 0 then (T_L_law_921 κ28 Q sl xs v1 v2 v3 v4 v5 M8) else (((0 : Int32) = 0 ∨ (0 : Int32) = 1) ∧ Q 0 M8)) else (T_L_law_921 κ28 Q sl xs v1 v2 v3 v4 v5 M8)) else (((0 : Int32) = 0 ∨ (0 : Int32) = 1) ∧ Q 0 M8))  v2 M6)  v2 (xs (Int32.toNatClampNeg (v5 + 1))) (xs (Int32.toNatClampNeg (v5 + 2))) M3)  v1 (xs (Int32.toNatClampNeg (v5 + 1))) (xs (Int32.toNatClampNeg (v5 + 2))) v3 M
set_option maxRecDepth 100000 in
set_option maxHeartbeats 4000000 in
theorem B_L_law_856 {g : GG} {kr : Nat} (Q : Int32 → Mem → Prop) (κ28 : Nat → Nat → Nat → Nat → Int32 → Mem → Prop) (hκ28 : ∀ (v1 : Nat) (v2 : Nat) (v3 : Nat) (v4 : Nat) (v5 : Int32) (M : Mem), κ28 v1 v2 v3 v4 v5 M → WP g 20 mL_law 28 [some (.ref g.2.2.2.1), some (.ref (g.1 + v1)), some (.ref (g.1 + v2)), some (.ref (g.1 + v3)), some (.ref (g.1 + v4)), some (.int v5), none, none, none] [] M kr (oZ Q noX)) (v1 : Nat) (v2 : Nat) (v3 : Nat) (v4 : Nat) (v5 : Int32) (M : Mem) (h : T_L_law_856 κ28 Q g.2.2.2.2.1 g.2.2.2.2.2 v1 v2 v3 v4 v5 M) : WP g 20 mL_law 856 [some (.ref g.2.2.2.1), some (.ref (g.1 + v1)), some (.ref (g.1 + v2)), some (.ref (g.1 + v3)), some (.ref (g.1 + v4)), some (.int v5), none, none, none] [] M (kr + 2) (oZ Q noX) := by
  unfold T_L_law_856 at h
  refine R_aload_n (pc := 856) d_L_law_856 rfl rfl ?_
  refine R_aload_n (pc := 857) d_L_law_857 rfl rfl ?_
  refine R_iload (pc := 858) d_L_law_858 rfl ?_
  refine R_iconst (pc := 860) (v := 1) d_L_law_860 (by decide) ?_
  refine R_iadd (pc := 861) d_L_law_861 ?_
  obtain ⟨k1, h⟩ := h
  refine R_sld (pc := 862) k1 d_L_law_862 ?_
  refine R_aload_n (pc := 863) d_L_law_863 rfl rfl ?_
  refine R_iload (pc := 864) d_L_law_864 rfl ?_
  refine R_iconst (pc := 866) (v := 2) d_L_law_866 (by decide) ?_
  refine R_iadd (pc := 867) d_L_law_867 ?_
  obtain ⟨k2, h⟩ := h
  refine R_sld (pc := 868) k2 d_L_law_868 ?_
  refine R_aload_n (pc := 869) d_L_law_869 rfl rfl ?_
  refine R_callSW (pc := 870) (As := [.ref (g.1 + v1), .int (xs (Int32.toNatClampNeg (v5 + 1))), .int (xs (Int32.toNatClampNeg (v5 + 2))), .ref (g.1 + v3)]) (rest := []) (c_L_room (g := g) v1 (xs (Int32.toNatClampNeg (v5 + 1))) (xs (Int32.toNatClampNeg (v5 + 2))) v3 M _ h) rfl rfl cal_RL_170 sta_L_room (by decide) (by omega) rfl rfl (Nat.le_of_ble_eq_true rfl) d_L_law_870 (k_I (fun y4 M3 h => ?_)) (fun _ _ h9 => False.elim h9)
  try dsimp only at h
  refine R_istore (pc := 873) (L' := [some (.ref g.2.2.2.1), some (.ref (g.1 + v1)), some (.ref (g.1 + v2)), some (.ref (g.1 + v3)), some (.ref (g.1 + v4)), some (.int v5), some (.int y4), none, none]) d_L_law_873 (by decide) rfl ?_
  refine R_aload_n (pc := 875) d_L_law_875 rfl rfl ?_
  refine R_aload_n (pc := 876) d_L_law_876 rfl rfl ?_
  refine R_iload (pc := 877) d_L_law_877 rfl ?_
  refine R_iconst (pc := 879) (v := 1) d_L_law_879 (by decide) ?_
  refine R_iadd (pc := 880) d_L_law_880 ?_
  refine R_sld (pc := 881) k1 d_L_law_881 ?_
  refine R_aload_n (pc := 882) d_L_law_882 rfl rfl ?_
  refine R_iload (pc := 883) d_L_law_883 rfl ?_
  refine R_iconst (pc := 885) (v := 2) d_L_law_885 (by decide) ?_
  refine R_iadd (pc := 886) d_L_law_886 ?_
  refine R_sld (pc := 887) k2 d_L_law_887 ?_
  obtain ⟨k5, h⟩ := h
  refine R_callV (pc := 888) (As := [.int (xs (Int32.toNatClampNeg (v5 + 1))), .int (xs (Int32.toNatClampNeg (v5 + 2)))]) (rest := []) (c_X7_room (g := g) v2 (xs (Int32.toNatClampNeg (v5 + 1))) (xs (Int32.toNatClampNeg (v5 + 2))) M3 _ h) rfl rfl cal_RL_172 ins_X7_room sel_X7_room (cls_at k5 clsOK7) (by decide) (by omega) rfl rfl (Nat.le_of_ble_eq_true rfl) d_L_law_888 (k_I (fun y7 M6 h => ?_)) (fun _ _ h9 => False.elim h9)
  try dsimp only at h
  refine R_istore (pc := 891) (L' := [some (.ref g.2.2.2.1), some (.ref (g.1 + v1)), some (.ref (g.1 + v2)), some (.ref (g.1 + v3)), some (.ref (g.1 + v4)), some (.int v5), some (.int y4), some (.int y7), none]) d_L_law_891 (by decide) rfl ?_
  refine R_aload_n (pc := 893) d_L_law_893 rfl rfl ?_
  refine R_callV (pc := 894) (As := []) (rest := []) (c_X7_thrown (g := g) v2 M6 _ h) rfl rfl cal_RL_140 ins_X7_thrown sel_X7_thrown (cls_at k5 clsOK7) (by decide) (by omega) rfl rfl (Nat.le_of_ble_eq_true rfl) d_L_law_894 (k_I (fun y9 M8 h => ?_)) (fun _ _ h9 => False.elim h9)
  try dsimp only at h
  refine R_iload (pc := 897) d_L_law_897 rfl ?_
  refine R_icmp_eq (pc := 899) (tgt := 904) d_L_law_899 (by decide) (fun c => ?_) (fun c => ?_)
  · rw [if_pos c] at h
    refine R_iload (pc := 904) d_L_law_904 rfl ?_
    refine R_if_ne (pc := 906) (tgt := 921) d_L_law_906 (by decide) (fun c => ?_) (fun c => ?_)
    · rw [if_neg c] at h
      exact WP_sub (B_L_law_921 Q κ28 hκ28 v1 v2 v3 v4 v5 M8 h) (by omega) (ls_s (ls_s (ls_s (ls_s (ls_s (ls_s (ls_n (ls_n (ls_n ls_0)))))))))
    · rw [if_pos c] at h
      refine R_aload_n (pc := 909) d_L_law_909 rfl rfl ?_
      refine R_iconst (pc := 910) (v := 0) d_L_law_910 (by decide) ?_
      obtain ⟨k10, h⟩ := h
      obtain ⟨k11, h⟩ := h
      refine R_lald (pc := 911) k10 k11 d_L_law_911 ?_
      refine R_iload (pc := 912) d_L_law_912 rfl ?_
      refine R_i2l (pc := 914) d_L_law_914 ?_
      refine R_lcmp (pc := 915) d_L_law_915 ?_
      refine R_if_eq (pc := 916) (tgt := 921) d_L_law_916 (by decide) (fun c => ?_) (fun c => ?_)
      · rw [if_pos c] at h
        exact WP_sub (B_L_law_921 Q κ28 hκ28 v1 v2 v3 v4 v5 M8 h) (by omega) (ls_s (ls_s (ls_s (ls_s (ls_s (ls_s (ls_n (ls_n (ls_n ls_0)))))))))
      · rw [if_neg c] at h
        refine R_iconst (pc := 919) (v := 0) d_L_law_919 (by decide) ?_
        exact R_retv (pc := 920) d_L_law_920 h
  · rw [if_neg c] at h
    refine R_iconst (pc := 902) (v := 0) d_L_law_902 (by decide) ?_
    exact R_retv (pc := 903) d_L_law_903 h
def T_L_law_853 (κ28 : Nat → Nat → Nat → Nat → Int32 → Mem → Prop) (Q : Int32 → Mem → Prop) (sl : Nat) (xs : Nat → Int32) (v1 : Nat) (v2 : Nat) (v3 : Nat) (v4 : Nat) (v5 : Int32) (M : Mem) : Prop := T_L_law_2534 κ28 Q sl xs v1 v2 v3 v4 v5 M
set_option maxRecDepth 100000 in
set_option maxHeartbeats 4000000 in
theorem B_L_law_853 {g : GG} {kr : Nat} (Q : Int32 → Mem → Prop) (κ28 : Nat → Nat → Nat → Nat → Int32 → Mem → Prop) (hκ28 : ∀ (v1 : Nat) (v2 : Nat) (v3 : Nat) (v4 : Nat) (v5 : Int32) (M : Mem), κ28 v1 v2 v3 v4 v5 M → WP g 20 mL_law 28 [some (.ref g.2.2.2.1), some (.ref (g.1 + v1)), some (.ref (g.1 + v2)), some (.ref (g.1 + v3)), some (.ref (g.1 + v4)), some (.int v5), none, none, none] [] M kr (oZ Q noX)) (v1 : Nat) (v2 : Nat) (v3 : Nat) (v4 : Nat) (v5 : Int32) (M : Mem) (h : T_L_law_853 κ28 Q g.2.2.2.2.1 g.2.2.2.2.2 v1 v2 v3 v4 v5 M) : WP g 20 mL_law 853 [some (.ref g.2.2.2.1), some (.ref (g.1 + v1)), some (.ref (g.1 + v2)), some (.ref (g.1 + v3)), some (.ref (g.1 + v4)), some (.int v5), none, none, none] [] M (kr + 1) (oZ Q noX) := by
  unfold T_L_law_853 at h
  refine R_goto (pc := 853) (tgt := 2534) d_L_law_853 (by decide) ?_
  exact WP_sub (B_L_law_2534 Q κ28 hκ28 v1 v2 v3 v4 v5 M h) (by omega) (ls_s (ls_s (ls_s (ls_s (ls_s (ls_s (ls_n (ls_n (ls_n ls_0)))))))))
def T_L_law_788 (κ28 : Nat → Nat → Nat → Nat → Int32 → Mem → Prop) (Q : Int32 → Mem → Prop) (sl : Nat) (xs : Nat → Int32) (v1 : Nat) (v2 : Nat) (v3 : Nat) (v4 : Nat) (v5 : Int32) (M : Mem) : Prop := (vp_in (v5 + 1) sl) ∧ (vp_in (v5 + 2) sl) ∧ T_L_inmate (fun y4 M3 => (kd v2 = 7) ∧ T_X7_inmate (fun y7 M6 => T_X7_thrown (fun y9 M8 => if y9 = y4 then (if y4 = 0 then ((kd v3 = 12) ∧ (vp_in 0 (ln v3)) ∧ if (lg_cmp (M8.2.1 (Int32.toNatClampNeg 0)) (Int32.toInt64 y7)) = 0 then (T_L_law_853 κ28 Q sl xs v1 v2 v3 v4 v5 M8) else (((0 : Int32) = 0 ∨ (0 : Int32) = 1) ∧ Q 0 M8)) else (T_L_law_853 κ28 Q sl xs v1 v2 v3 v4 v5 M8)) else (((0 : Int32) = 0 ∨ (0 : Int32) = 1) ∧ Q 0 M8))  v2 M6)  v2 (xs (Int32.toNatClampNeg (v5 + 1))) (xs (Int32.toNatClampNeg (v5 + 2))) M3)  v1 (xs (Int32.toNatClampNeg (v5 + 1))) (xs (Int32.toNatClampNeg (v5 + 2))) v3 M
set_option maxRecDepth 100000 in
set_option maxHeartbeats 4000000 in
theorem B_L_law_788 {g : GG} {kr : Nat} (Q : Int32 → Mem → Prop) (κ28 : Nat → Nat → Nat → Nat → Int32 → Mem → Prop) (hκ28 : ∀ (v1 : Nat) (v2 : Nat) (v3 : Nat) (v4 : Nat) (v5 : Int32) (M : Mem), κ28 v1 v2 v3 v4 v5 M → WP g 20 mL_law 28 [some (.ref g.2.2.2.1), some (.ref (g.1 + v1)), some (.ref (g.1 + v2)), some (.ref (g.1 + v3)), some (.ref (g.1 + v4)), some (.int v5), none, none, none] [] M kr (oZ Q noX)) (v1 : Nat) (v2 : Nat) (v3 : Nat) (v4 : Nat) (v5 : Int32) (M : Mem) (h : T_L_law_788 κ28 Q g.2.2.2.2.1 g.2.2.2.2.2 v1 v2 v3 v4 v5 M) : WP g 20 mL_law 788 [some (.ref g.2.2.2.1), some (.ref (g.1 + v1)), some (.ref (g.1 + v2)), some (.ref (g.1 + v3)), some (.ref (g.1 + v4)), some (.int v5), none, none, none] [] M (kr + 2) (oZ Q noX) := by
  unfold T_L_law_788 at h
  refine R_aload_n (pc := 788) d_L_law_788 rfl rfl ?_
  refine R_aload_n (pc := 789) d_L_law_789 rfl rfl ?_
  refine R_iload (pc := 790) d_L_law_790 rfl ?_
  refine R_iconst (pc := 792) (v := 1) d_L_law_792 (by decide) ?_
  refine R_iadd (pc := 793) d_L_law_793 ?_
  obtain ⟨k1, h⟩ := h
  refine R_sld (pc := 794) k1 d_L_law_794 ?_
  refine R_aload_n (pc := 795) d_L_law_795 rfl rfl ?_
  refine R_iload (pc := 796) d_L_law_796 rfl ?_
  refine R_iconst (pc := 798) (v := 2) d_L_law_798 (by decide) ?_
  refine R_iadd (pc := 799) d_L_law_799 ?_
  obtain ⟨k2, h⟩ := h
  refine R_sld (pc := 800) k2 d_L_law_800 ?_
  refine R_aload_n (pc := 801) d_L_law_801 rfl rfl ?_
  refine R_callSW (pc := 802) (As := [.ref (g.1 + v1), .int (xs (Int32.toNatClampNeg (v5 + 1))), .int (xs (Int32.toNatClampNeg (v5 + 2))), .ref (g.1 + v3)]) (rest := []) (c_L_inmate (g := g) v1 (xs (Int32.toNatClampNeg (v5 + 1))) (xs (Int32.toNatClampNeg (v5 + 2))) v3 M _ h) rfl rfl cal_RL_167 sta_L_inmate (by decide) (by omega) rfl rfl (Nat.le_of_ble_eq_true rfl) d_L_law_802 (k_I (fun y4 M3 h => ?_)) (fun _ _ h9 => False.elim h9)
  try dsimp only at h
  refine R_istore (pc := 805) (L' := [some (.ref g.2.2.2.1), some (.ref (g.1 + v1)), some (.ref (g.1 + v2)), some (.ref (g.1 + v3)), some (.ref (g.1 + v4)), some (.int v5), some (.int y4), none, none]) d_L_law_805 (by decide) rfl ?_
  refine R_aload_n (pc := 807) d_L_law_807 rfl rfl ?_
  refine R_aload_n (pc := 808) d_L_law_808 rfl rfl ?_
  refine R_iload (pc := 809) d_L_law_809 rfl ?_
  refine R_iconst (pc := 811) (v := 1) d_L_law_811 (by decide) ?_
  refine R_iadd (pc := 812) d_L_law_812 ?_
  refine R_sld (pc := 813) k1 d_L_law_813 ?_
  refine R_aload_n (pc := 814) d_L_law_814 rfl rfl ?_
  refine R_iload (pc := 815) d_L_law_815 rfl ?_
  refine R_iconst (pc := 817) (v := 2) d_L_law_817 (by decide) ?_
  refine R_iadd (pc := 818) d_L_law_818 ?_
  refine R_sld (pc := 819) k2 d_L_law_819 ?_
  obtain ⟨k5, h⟩ := h
  refine R_callV (pc := 820) (As := [.int (xs (Int32.toNatClampNeg (v5 + 1))), .int (xs (Int32.toNatClampNeg (v5 + 2)))]) (rest := []) (c_X7_inmate (g := g) v2 (xs (Int32.toNatClampNeg (v5 + 1))) (xs (Int32.toNatClampNeg (v5 + 2))) M3 _ h) rfl rfl cal_RL_169 ins_X7_inmate sel_X7_inmate (cls_at k5 clsOK7) (by decide) (by omega) rfl rfl (Nat.le_of_ble_eq_true rfl) d_L_law_820 (k_I (fun y7 M6 h => ?_)) (fun _ _ h9 => False.elim h9)
  try dsimp only at h
  refine R_istore (pc := 823) (L' := [some (.ref g.2.2.2.1), some (.ref (g.1 + v1)), some (.ref (g.1 + v2)), some (.ref (g.1 + v3)), some (.ref (g.1 + v4)), some (.int v5), some (.int y4), some (.int y7), none]) d_L_law_823 (by decide) rfl ?_
  refine R_aload_n (pc := 825) d_L_law_825 rfl rfl ?_
  refine R_callV (pc := 826) (As := []) (rest := []) (c_X7_thrown (g := g) v2 M6 _ h) rfl rfl cal_RL_140 ins_X7_thrown sel_X7_thrown (cls_at k5 clsOK7) (by decide) (by omega) rfl rfl (Nat.le_of_ble_eq_true rfl) d_L_law_826 (k_I (fun y9 M8 h => ?_)) (fun _ _ h9 => False.elim h9)
  try dsimp only at h
  refine R_iload (pc := 829) d_L_law_829 rfl ?_
  refine R_icmp_eq (pc := 831) (tgt := 836) d_L_law_831 (by decide) (fun c => ?_) (fun c => ?_)
  · rw [if_pos c] at h
    refine R_iload (pc := 836) d_L_law_836 rfl ?_
    refine R_if_ne (pc := 838) (tgt := 853) d_L_law_838 (by decide) (fun c => ?_) (fun c => ?_)
    · rw [if_neg c] at h
      exact WP_sub (B_L_law_853 Q κ28 hκ28 v1 v2 v3 v4 v5 M8 h) (by omega) (ls_s (ls_s (ls_s (ls_s (ls_s (ls_s (ls_n (ls_n (ls_n ls_0)))))))))
    · rw [if_pos c] at h
      refine R_aload_n (pc := 841) d_L_law_841 rfl rfl ?_
      refine R_iconst (pc := 842) (v := 0) d_L_law_842 (by decide) ?_
      obtain ⟨k10, h⟩ := h
      obtain ⟨k11, h⟩ := h
      refine R_lald (pc := 843) k10 k11 d_L_law_843 ?_
      refine R_iload (pc := 844) d_L_law_844 rfl ?_
      refine R_i2l (pc := 846) d_L_law_846 ?_
      refine R_lcmp (pc := 847) d_L_law_847 ?_
      refine R_if_eq (pc := 848) (tgt := 853) d_L_law_848 (by decide) (fun c => ?_) (fun c => ?_)
      · rw [if_pos c] at h
        exact WP_sub (B_L_law_853 Q κ28 hκ28 v1 v2 v3 v4 v5 M8 h) (by omega) (ls_s (ls_s (ls_s (ls_s (ls_s (ls_s (ls_n (ls_n (ls_n ls_0)))))))))
      · rw [if_neg c] at h
        refine R_iconst (pc := 851) (v := 0) d_L_law_851 (by decide) ?_
        exact R_retv (pc := 852) d_L_law_852 h
  · rw [if_neg c] at h
    refine R_iconst (pc := 834) (v := 0) d_L_law_834 (by decide) ?_
    exact R_retv (pc := 835) d_L_law_835 h
def T_L_law_785 (κ28 : Nat → Nat → Nat → Nat → Int32 → Mem → Prop) (Q : Int32 → Mem → Prop) (sl : Nat) (xs : Nat → Int32) (v1 : Nat) (v2 : Nat) (v3 : Nat) (v4 : Nat) (v5 : Int32) (M : Mem) : Prop := T_L_law_2534 κ28 Q sl xs v1 v2 v3 v4 v5 M
set_option maxRecDepth 100000 in
set_option maxHeartbeats 4000000 in
theorem B_L_law_785 {g : GG} {kr : Nat} (Q : Int32 → Mem → Prop) (κ28 : Nat → Nat → Nat → Nat → Int32 → Mem → Prop) (hκ28 : ∀ (v1 : Nat) (v2 : Nat) (v3 : Nat) (v4 : Nat) (v5 : Int32) (M : Mem), κ28 v1 v2 v3 v4 v5 M → WP g 20 mL_law 28 [some (.ref g.2.2.2.1), some (.ref (g.1 + v1)), some (.ref (g.1 + v2)), some (.ref (g.1 + v3)), some (.ref (g.1 + v4)), some (.int v5), none, none, none] [] M kr (oZ Q noX)) (v1 : Nat) (v2 : Nat) (v3 : Nat) (v4 : Nat) (v5 : Int32) (M : Mem) (h : T_L_law_785 κ28 Q g.2.2.2.2.1 g.2.2.2.2.2 v1 v2 v3 v4 v5 M) : WP g 20 mL_law 785 [some (.ref g.2.2.2.1), some (.ref (g.1 + v1)), some (.ref (g.1 + v2)), some (.ref (g.1 + v3)), some (.ref (g.1 + v4)), some (.int v5), none, none, none] [] M (kr + 1) (oZ Q noX) := by
  unfold T_L_law_785 at h
  refine R_goto (pc := 785) (tgt := 2534) d_L_law_785 (by decide) ?_
  exact WP_sub (B_L_law_2534 Q κ28 hκ28 v1 v2 v3 v4 v5 M h) (by omega) (ls_s (ls_s (ls_s (ls_s (ls_s (ls_s (ls_n (ls_n (ls_n ls_0)))))))))
def T_L_law_720 (κ28 : Nat → Nat → Nat → Nat → Int32 → Mem → Prop) (Q : Int32 → Mem → Prop) (sl : Nat) (xs : Nat → Int32) (v1 : Nat) (v2 : Nat) (v3 : Nat) (v4 : Nat) (v5 : Int32) (M : Mem) : Prop := (vp_in (v5 + 1) sl) ∧ (vp_in (v5 + 2) sl) ∧ T_L_set (fun y4 M3 => (kd v2 = 7) ∧ T_X7_set (fun y7 M6 => T_X7_thrown (fun y9 M8 => if y9 = y4 then (if y4 = 0 then ((kd v3 = 12) ∧ (vp_in 0 (ln v3)) ∧ if (lg_cmp (M8.2.1 (Int32.toNatClampNeg 0)) (Int32.toInt64 y7)) = 0 then (T_L_law_785 κ28 Q sl xs v1 v2 v3 v4 v5 M8) else (((0 : Int32) = 0 ∨ (0 : Int32) = 1) ∧ Q 0 M8)) else (T_L_law_785 κ28 Q sl xs v1 v2 v3 v4 v5 M8)) else (((0 : Int32) = 0 ∨ (0 : Int32) = 1) ∧ Q 0 M8))  v2 M6)  v2 (xs (Int32.toNatClampNeg (v5 + 1))) (xs (Int32.toNatClampNeg (v5 + 2))) M3)  v1 (xs (Int32.toNatClampNeg (v5 + 1))) (xs (Int32.toNatClampNeg (v5 + 2))) v3 M
set_option maxRecDepth 100000 in
set_option maxHeartbeats 4000000 in
theorem B_L_law_720 {g : GG} {kr : Nat} (Q : Int32 → Mem → Prop) (κ28 : Nat → Nat → Nat → Nat → Int32 → Mem → Prop) (hκ28 : ∀ (v1 : Nat) (v2 : Nat) (v3 : Nat) (v4 : Nat) (v5 : Int32) (M : Mem), κ28 v1 v2 v3 v4 v5 M → WP g 20 mL_law 28 [some (.ref g.2.2.2.1), some (.ref (g.1 + v1)), some (.ref (g.1 + v2)), some (.ref (g.1 + v3)), some (.ref (g.1 + v4)), some (.int v5), none, none, none] [] M kr (oZ Q noX)) (v1 : Nat) (v2 : Nat) (v3 : Nat) (v4 : Nat) (v5 : Int32) (M : Mem) (h : T_L_law_720 κ28 Q g.2.2.2.2.1 g.2.2.2.2.2 v1 v2 v3 v4 v5 M) : WP g 20 mL_law 720 [some (.ref g.2.2.2.1), some (.ref (g.1 + v1)), some (.ref (g.1 + v2)), some (.ref (g.1 + v3)), some (.ref (g.1 + v4)), some (.int v5), none, none, none] [] M (kr + 2) (oZ Q noX) := by
  unfold T_L_law_720 at h
  refine R_aload_n (pc := 720) d_L_law_720 rfl rfl ?_
  refine R_aload_n (pc := 721) d_L_law_721 rfl rfl ?_
  refine R_iload (pc := 722) d_L_law_722 rfl ?_
  refine R_iconst (pc := 724) (v := 1) d_L_law_724 (by decide) ?_
  refine R_iadd (pc := 725) d_L_law_725 ?_
  obtain ⟨k1, h⟩ := h
  refine R_sld (pc := 726) k1 d_L_law_726 ?_
  refine R_aload_n (pc := 727) d_L_law_727 rfl rfl ?_
  refine R_iload (pc := 728) d_L_law_728 rfl ?_
  refine R_iconst (pc := 730) (v := 2) d_L_law_730 (by decide) ?_
  refine R_iadd (pc := 731) d_L_law_731 ?_
  obtain ⟨k2, h⟩ := h
  refine R_sld (pc := 732) k2 d_L_law_732 ?_
  refine R_aload_n (pc := 733) d_L_law_733 rfl rfl ?_
  refine R_callSW (pc := 734) (As := [.ref (g.1 + v1), .int (xs (Int32.toNatClampNeg (v5 + 1))), .int (xs (Int32.toNatClampNeg (v5 + 2))), .ref (g.1 + v3)]) (rest := []) (c_L_set (g := g) v1 (xs (Int32.toNatClampNeg (v5 + 1))) (xs (Int32.toNatClampNeg (v5 + 2))) v3 M _ h) rfl rfl cal_RL_164 sta_L_set (by decide) (by omega) rfl rfl (Nat.le_of_ble_eq_true rfl) d_L_law_734 (k_I (fun y4 M3 h => ?_)) (fun _ _ h9 => False.elim h9)
  try dsimp only at h
  refine R_istore (pc := 737) (L' := [some (.ref g.2.2.2.1), some (.ref (g.1 + v1)), some (.ref (g.1 + v2)), some (.ref (g.1 + v3)), some (.ref (g.1 + v4)), some (.int v5), some (.int y4), none, none]) d_L_law_737 (by decide) rfl ?_
  refine R_aload_n (pc := 739) d_L_law_739 rfl rfl ?_
  refine R_aload_n (pc := 740) d_L_law_740 rfl rfl ?_
  refine R_iload (pc := 741) d_L_law_741 rfl ?_
  refine R_iconst (pc := 743) (v := 1) d_L_law_743 (by decide) ?_
  refine R_iadd (pc := 744) d_L_law_744 ?_
  refine R_sld (pc := 745) k1 d_L_law_745 ?_
  refine R_aload_n (pc := 746) d_L_law_746 rfl rfl ?_
  refine R_iload (pc := 747) d_L_law_747 rfl ?_
  refine R_iconst (pc := 749) (v := 2) d_L_law_749 (by decide) ?_
  refine R_iadd (pc := 750) d_L_law_750 ?_
  refine R_sld (pc := 751) k2 d_L_law_751 ?_
  obtain ⟨k5, h⟩ := h
  refine R_callV (pc := 752) (As := [.int (xs (Int32.toNatClampNeg (v5 + 1))), .int (xs (Int32.toNatClampNeg (v5 + 2)))]) (rest := []) (c_X7_set (g := g) v2 (xs (Int32.toNatClampNeg (v5 + 1))) (xs (Int32.toNatClampNeg (v5 + 2))) M3 _ h) rfl rfl cal_RL_166 ins_X7_set sel_X7_set (cls_at k5 clsOK7) (by decide) (by omega) rfl rfl (Nat.le_of_ble_eq_true rfl) d_L_law_752 (k_I (fun y7 M6 h => ?_)) (fun _ _ h9 => False.elim h9)
  try dsimp only at h
  refine R_istore (pc := 755) (L' := [some (.ref g.2.2.2.1), some (.ref (g.1 + v1)), some (.ref (g.1 + v2)), some (.ref (g.1 + v3)), some (.ref (g.1 + v4)), some (.int v5), some (.int y4), some (.int y7), none]) d_L_law_755 (by decide) rfl ?_
  refine R_aload_n (pc := 757) d_L_law_757 rfl rfl ?_
  refine R_callV (pc := 758) (As := []) (rest := []) (c_X7_thrown (g := g) v2 M6 _ h) rfl rfl cal_RL_140 ins_X7_thrown sel_X7_thrown (cls_at k5 clsOK7) (by decide) (by omega) rfl rfl (Nat.le_of_ble_eq_true rfl) d_L_law_758 (k_I (fun y9 M8 h => ?_)) (fun _ _ h9 => False.elim h9)
  try dsimp only at h
  refine R_iload (pc := 761) d_L_law_761 rfl ?_
  refine R_icmp_eq (pc := 763) (tgt := 768) d_L_law_763 (by decide) (fun c => ?_) (fun c => ?_)
  · rw [if_pos c] at h
    refine R_iload (pc := 768) d_L_law_768 rfl ?_
    refine R_if_ne (pc := 770) (tgt := 785) d_L_law_770 (by decide) (fun c => ?_) (fun c => ?_)
    · rw [if_neg c] at h
      exact WP_sub (B_L_law_785 Q κ28 hκ28 v1 v2 v3 v4 v5 M8 h) (by omega) (ls_s (ls_s (ls_s (ls_s (ls_s (ls_s (ls_n (ls_n (ls_n ls_0)))))))))
    · rw [if_pos c] at h
      refine R_aload_n (pc := 773) d_L_law_773 rfl rfl ?_
      refine R_iconst (pc := 774) (v := 0) d_L_law_774 (by decide) ?_
      obtain ⟨k10, h⟩ := h
      obtain ⟨k11, h⟩ := h
      refine R_lald (pc := 775) k10 k11 d_L_law_775 ?_
      refine R_iload (pc := 776) d_L_law_776 rfl ?_
      refine R_i2l (pc := 778) d_L_law_778 ?_
      refine R_lcmp (pc := 779) d_L_law_779 ?_
      refine R_if_eq (pc := 780) (tgt := 785) d_L_law_780 (by decide) (fun c => ?_) (fun c => ?_)
      · rw [if_pos c] at h
        exact WP_sub (B_L_law_785 Q κ28 hκ28 v1 v2 v3 v4 v5 M8 h) (by omega) (ls_s (ls_s (ls_s (ls_s (ls_s (ls_s (ls_n (ls_n (ls_n ls_0)))))))))
      · rw [if_neg c] at h
        refine R_iconst (pc := 783) (v := 0) d_L_law_783 (by decide) ?_
        exact R_retv (pc := 784) d_L_law_784 h
  · rw [if_neg c] at h
    refine R_iconst (pc := 766) (v := 0) d_L_law_766 (by decide) ?_
    exact R_retv (pc := 767) d_L_law_767 h
def T_L_law_717 (κ28 : Nat → Nat → Nat → Nat → Int32 → Mem → Prop) (Q : Int32 → Mem → Prop) (sl : Nat) (xs : Nat → Int32) (v1 : Nat) (v2 : Nat) (v3 : Nat) (v4 : Nat) (v5 : Int32) (M : Mem) : Prop := T_L_law_2534 κ28 Q sl xs v1 v2 v3 v4 v5 M
set_option maxRecDepth 100000 in
set_option maxHeartbeats 4000000 in
theorem B_L_law_717 {g : GG} {kr : Nat} (Q : Int32 → Mem → Prop) (κ28 : Nat → Nat → Nat → Nat → Int32 → Mem → Prop) (hκ28 : ∀ (v1 : Nat) (v2 : Nat) (v3 : Nat) (v4 : Nat) (v5 : Int32) (M : Mem), κ28 v1 v2 v3 v4 v5 M → WP g 20 mL_law 28 [some (.ref g.2.2.2.1), some (.ref (g.1 + v1)), some (.ref (g.1 + v2)), some (.ref (g.1 + v3)), some (.ref (g.1 + v4)), some (.int v5), none, none, none] [] M kr (oZ Q noX)) (v1 : Nat) (v2 : Nat) (v3 : Nat) (v4 : Nat) (v5 : Int32) (M : Mem) (h : T_L_law_717 κ28 Q g.2.2.2.2.1 g.2.2.2.2.2 v1 v2 v3 v4 v5 M) : WP g 20 mL_law 717 [some (.ref g.2.2.2.1), some (.ref (g.1 + v1)), some (.ref (g.1 + v2)), some (.ref (g.1 + v3)), some (.ref (g.1 + v4)), some (.int v5), none, none, none] [] M (kr + 1) (oZ Q noX) := by
  unfold T_L_law_717 at h
  refine R_goto (pc := 717) (tgt := 2534) d_L_law_717 (by decide) ?_
  exact WP_sub (B_L_law_2534 Q κ28 hκ28 v1 v2 v3 v4 v5 M h) (by omega) (ls_s (ls_s (ls_s (ls_s (ls_s (ls_s (ls_n (ls_n (ls_n ls_0)))))))))
def T_L_law_684 (κ28 : Nat → Nat → Nat → Nat → Int32 → Mem → Prop) (Q : Int32 → Mem → Prop) (sl : Nat) (xs : Nat → Int32) (v1 : Nat) (v2 : Nat) (v3 : Nat) (v4 : Nat) (v5 : Int32) (v6 : Int32) (s0 : Int32) (s1 : Int32) (s2 : Nat) (M : Mem) : Prop := (kd s2 = 7) ∧ T_X7_confine (fun y3 M2 => (kd v2 = 7) ∧ T_X7_thrown (fun y6 M5 => if y6 = v6 then (if v6 = 0 then ((kd v3 = 12) ∧ (vp_in 0 (ln v3)) ∧ if (lg_cmp (M5.2.1 (Int32.toNatClampNeg 0)) (Int32.toInt64 y3)) = 0 then (T_L_law_717 κ28 Q sl xs v1 v2 v3 v4 v5 M5) else (((0 : Int32) = 0 ∨ (0 : Int32) = 1) ∧ Q 0 M5)) else (T_L_law_717 κ28 Q sl xs v1 v2 v3 v4 v5 M5)) else (((0 : Int32) = 0 ∨ (0 : Int32) = 1) ∧ Q 0 M5))  v2 M2)  s2 s1 s0 M
set_option maxRecDepth 100000 in
set_option maxHeartbeats 4000000 in
theorem B_L_law_684 {g : GG} {kr : Nat} (Q : Int32 → Mem → Prop) (κ28 : Nat → Nat → Nat → Nat → Int32 → Mem → Prop) (hκ28 : ∀ (v1 : Nat) (v2 : Nat) (v3 : Nat) (v4 : Nat) (v5 : Int32) (M : Mem), κ28 v1 v2 v3 v4 v5 M → WP g 20 mL_law 28 [some (.ref g.2.2.2.1), some (.ref (g.1 + v1)), some (.ref (g.1 + v2)), some (.ref (g.1 + v3)), some (.ref (g.1 + v4)), some (.int v5), none, none, none] [] M kr (oZ Q noX)) (v1 : Nat) (v2 : Nat) (v3 : Nat) (v4 : Nat) (v5 : Int32) (v6 : Int32) (s0 : Int32) (s1 : Int32) (s2 : Nat) (M : Mem) (h : T_L_law_684 κ28 Q g.2.2.2.2.1 g.2.2.2.2.2 v1 v2 v3 v4 v5 v6 s0 s1 s2 M) : WP g 20 mL_law 684 [some (.ref g.2.2.2.1), some (.ref (g.1 + v1)), some (.ref (g.1 + v2)), some (.ref (g.1 + v3)), some (.ref (g.1 + v4)), some (.int v5), some (.int v6), none, none] [.int s0, .int s1, .ref (g.1 + s2)] M (kr + 1) (oZ Q noX) := by
  unfold T_L_law_684 at h
  obtain ⟨k1, h⟩ := h
  refine R_callV (pc := 684) (As := [.int s1, .int s0]) (rest := []) (c_X7_confine (g := g) s2 s1 s0 M _ h) rfl rfl cal_RL_163 ins_X7_confine sel_X7_confine (cls_at k1 clsOK7) (by decide) (by omega) rfl rfl (Nat.le_of_ble_eq_true rfl) d_L_law_684 (k_I (fun y3 M2 h => ?_)) (fun _ _ h9 => False.elim h9)
  try dsimp only at h
  refine R_istore (pc := 687) (L' := [some (.ref g.2.2.2.1), some (.ref (g.1 + v1)), some (.ref (g.1 + v2)), some (.ref (g.1 + v3)), some (.ref (g.1 + v4)), some (.int v5), some (.int v6), some (.int y3), none]) d_L_law_687 (by decide) rfl ?_
  refine R_aload_n (pc := 689) d_L_law_689 rfl rfl ?_
  obtain ⟨k4, h⟩ := h
  refine R_callV (pc := 690) (As := []) (rest := []) (c_X7_thrown (g := g) v2 M2 _ h) rfl rfl cal_RL_140 ins_X7_thrown sel_X7_thrown (cls_at k4 clsOK7) (by decide) (by omega) rfl rfl (Nat.le_of_ble_eq_true rfl) d_L_law_690 (k_I (fun y6 M5 h => ?_)) (fun _ _ h9 => False.elim h9)
  try dsimp only at h
  refine R_iload (pc := 693) d_L_law_693 rfl ?_
  refine R_icmp_eq (pc := 695) (tgt := 700) d_L_law_695 (by decide) (fun c => ?_) (fun c => ?_)
  · rw [if_pos c] at h
    refine R_iload (pc := 700) d_L_law_700 rfl ?_
    refine R_if_ne (pc := 702) (tgt := 717) d_L_law_702 (by decide) (fun c => ?_) (fun c => ?_)
    · rw [if_neg c] at h
      exact WP_sub (B_L_law_717 Q κ28 hκ28 v1 v2 v3 v4 v5 M5 h) (by omega) (ls_s (ls_s (ls_s (ls_s (ls_s (ls_s (ls_n (ls_n (ls_n ls_0)))))))))
    · rw [if_pos c] at h
      refine R_aload_n (pc := 705) d_L_law_705 rfl rfl ?_
      refine R_iconst (pc := 706) (v := 0) d_L_law_706 (by decide) ?_
      obtain ⟨k7, h⟩ := h
      obtain ⟨k8, h⟩ := h
      refine R_lald (pc := 707) k7 k8 d_L_law_707 ?_
      refine R_iload (pc := 708) d_L_law_708 rfl ?_
      refine R_i2l (pc := 710) d_L_law_710 ?_
      refine R_lcmp (pc := 711) d_L_law_711 ?_
      refine R_if_eq (pc := 712) (tgt := 717) d_L_law_712 (by decide) (fun c => ?_) (fun c => ?_)
      · rw [if_pos c] at h
        exact WP_sub (B_L_law_717 Q κ28 hκ28 v1 v2 v3 v4 v5 M5 h) (by omega) (ls_s (ls_s (ls_s (ls_s (ls_s (ls_s (ls_n (ls_n (ls_n ls_0)))))))))
      · rw [if_neg c] at h
        refine R_iconst (pc := 715) (v := 0) d_L_law_715 (by decide) ?_
        exact R_retv (pc := 716) d_L_law_716 h
  · rw [if_neg c] at h
    refine R_iconst (pc := 698) (v := 0) d_L_law_698 (by decide) ?_
    exact R_retv (pc := 699) d_L_law_699 h
def T_L_law_657 (κ28 : Nat → Nat → Nat → Nat → Int32 → Mem → Prop) (Q : Int32 → Mem → Prop) (sl : Nat) (xs : Nat → Int32) (v1 : Nat) (v2 : Nat) (v3 : Nat) (v4 : Nat) (v5 : Int32) (s0 : Int32) (s1 : Int32) (s2 : Nat) (M : Mem) : Prop := T_L_confine (fun y2 M1 => (vp_in (v5 + 1) sl) ∧ (vp_in (v5 + 2) sl) ∧ if (xs (Int32.toNatClampNeg (v5 + 2))) = 0 then (T_L_law_684 κ28 Q sl xs v1 v2 v3 v4 v5 y2 0 (xs (Int32.toNatClampNeg (v5 + 1))) v2 M1) else (T_L_law_684 κ28 Q sl xs v1 v2 v3 v4 v5 y2 1 (xs (Int32.toNatClampNeg (v5 + 1))) v2 M1))  s2 s1 s0 v3 M
set_option maxRecDepth 100000 in
set_option maxHeartbeats 4000000 in
theorem B_L_law_657 {g : GG} {kr : Nat} (Q : Int32 → Mem → Prop) (κ28 : Nat → Nat → Nat → Nat → Int32 → Mem → Prop) (hκ28 : ∀ (v1 : Nat) (v2 : Nat) (v3 : Nat) (v4 : Nat) (v5 : Int32) (M : Mem), κ28 v1 v2 v3 v4 v5 M → WP g 20 mL_law 28 [some (.ref g.2.2.2.1), some (.ref (g.1 + v1)), some (.ref (g.1 + v2)), some (.ref (g.1 + v3)), some (.ref (g.1 + v4)), some (.int v5), none, none, none] [] M kr (oZ Q noX)) (v1 : Nat) (v2 : Nat) (v3 : Nat) (v4 : Nat) (v5 : Int32) (s0 : Int32) (s1 : Int32) (s2 : Nat) (M : Mem) (h : T_L_law_657 κ28 Q g.2.2.2.2.1 g.2.2.2.2.2 v1 v2 v3 v4 v5 s0 s1 s2 M) : WP g 20 mL_law 657 [some (.ref g.2.2.2.1), some (.ref (g.1 + v1)), some (.ref (g.1 + v2)), some (.ref (g.1 + v3)), some (.ref (g.1 + v4)), some (.int v5), none, none, none] [.int s0, .int s1, .ref (g.1 + s2)] M (kr + 2) (oZ Q noX) := by
  unfold T_L_law_657 at h
  refine R_aload_n (pc := 657) d_L_law_657 rfl rfl ?_
  refine R_callSW (pc := 658) (As := [.ref (g.1 + s2), .int s1, .int s0, .ref (g.1 + v3)]) (rest := []) (c_L_confine (g := g) s2 s1 s0 v3 M _ h) rfl rfl cal_RL_161 sta_L_confine (by decide) (by omega) rfl rfl (Nat.le_of_ble_eq_true rfl) d_L_law_658 (k_I (fun y2 M1 h => ?_)) (fun _ _ h9 => False.elim h9)
  try dsimp only at h
  refine R_istore (pc := 661) (L' := [some (.ref g.2.2.2.1), some (.ref (g.1 + v1)), some (.ref (g.1 + v2)), some (.ref (g.1 + v3)), some (.ref (g.1 + v4)), some (.int v5), some (.int y2), none, none]) d_L_law_661 (by decide) rfl ?_
  refine R_aload_n (pc := 663) d_L_law_663 rfl rfl ?_
  refine R_aload_n (pc := 664) d_L_law_664 rfl rfl ?_
  refine R_iload (pc := 665) d_L_law_665 rfl ?_
  refine R_iconst (pc := 667) (v := 1) d_L_law_667 (by decide) ?_
  refine R_iadd (pc := 668) d_L_law_668 ?_
  obtain ⟨k3, h⟩ := h
  refine R_sld (pc := 669) k3 d_L_law_669 ?_
  refine R_aload_n (pc := 670) d_L_law_670 rfl rfl ?_
  refine R_iload (pc := 671) d_L_law_671 rfl ?_
  refine R_iconst (pc := 673) (v := 2) d_L_law_673 (by decide) ?_
  refine R_iadd (pc := 674) d_L_law_674 ?_
  obtain ⟨k4, h⟩ := h
  refine R_sld (pc := 675) k4 d_L_law_675 ?_
  refine R_if_eq (pc := 676) (tgt := 683) d_L_law_676 (by decide) (fun c => ?_) (fun c => ?_)
  · rw [if_pos c] at h
    refine R_iconst (pc := 683) (v := 0) d_L_law_683 (by decide) ?_
    exact WP_sub (B_L_law_684 Q κ28 hκ28 v1 v2 v3 v4 v5 y2 0 (xs (Int32.toNatClampNeg (v5 + 1))) v2 M1 h) (by omega) (ls_s (ls_s (ls_s (ls_s (ls_s (ls_s (ls_s (ls_n (ls_n ls_0)))))))))
  · rw [if_neg c] at h
    refine R_iconst (pc := 679) (v := 1) d_L_law_679 (by decide) ?_
    refine R_goto (pc := 680) (tgt := 684) d_L_law_680 (by decide) ?_
    exact WP_sub (B_L_law_684 Q κ28 hκ28 v1 v2 v3 v4 v5 y2 1 (xs (Int32.toNatClampNeg (v5 + 1))) v2 M1 h) (by omega) (ls_s (ls_s (ls_s (ls_s (ls_s (ls_s (ls_s (ls_n (ls_n ls_0)))))))))
def T_L_law_636 (κ28 : Nat → Nat → Nat → Nat → Int32 → Mem → Prop) (Q : Int32 → Mem → Prop) (sl : Nat) (xs : Nat → Int32) (v1 : Nat) (v2 : Nat) (v3 : Nat) (v4 : Nat) (v5 : Int32) (M : Mem) : Prop := (vp_in (v5 + 1) sl) ∧ (vp_in (v5 + 2) sl) ∧ if (xs (Int32.toNatClampNeg (v5 + 2))) = 0 then (T_L_law_657 κ28 Q sl xs v1 v2 v3 v4 v5 0 (xs (Int32.toNatClampNeg (v5 + 1))) v1 M) else (T_L_law_657 κ28 Q sl xs v1 v2 v3 v4 v5 1 (xs (Int32.toNatClampNeg (v5 + 1))) v1 M)
set_option maxRecDepth 100000 in
set_option maxHeartbeats 4000000 in
theorem B_L_law_636 {g : GG} {kr : Nat} (Q : Int32 → Mem → Prop) (κ28 : Nat → Nat → Nat → Nat → Int32 → Mem → Prop) (hκ28 : ∀ (v1 : Nat) (v2 : Nat) (v3 : Nat) (v4 : Nat) (v5 : Int32) (M : Mem), κ28 v1 v2 v3 v4 v5 M → WP g 20 mL_law 28 [some (.ref g.2.2.2.1), some (.ref (g.1 + v1)), some (.ref (g.1 + v2)), some (.ref (g.1 + v3)), some (.ref (g.1 + v4)), some (.int v5), none, none, none] [] M kr (oZ Q noX)) (v1 : Nat) (v2 : Nat) (v3 : Nat) (v4 : Nat) (v5 : Int32) (M : Mem) (h : T_L_law_636 κ28 Q g.2.2.2.2.1 g.2.2.2.2.2 v1 v2 v3 v4 v5 M) : WP g 20 mL_law 636 [some (.ref g.2.2.2.1), some (.ref (g.1 + v1)), some (.ref (g.1 + v2)), some (.ref (g.1 + v3)), some (.ref (g.1 + v4)), some (.int v5), none, none, none] [] M (kr + 2) (oZ Q noX) := by
  unfold T_L_law_636 at h
  refine R_aload_n (pc := 636) d_L_law_636 rfl rfl ?_
  refine R_aload_n (pc := 637) d_L_law_637 rfl rfl ?_
  refine R_iload (pc := 638) d_L_law_638 rfl ?_
  refine R_iconst (pc := 640) (v := 1) d_L_law_640 (by decide) ?_
  refine R_iadd (pc := 641) d_L_law_641 ?_
  obtain ⟨k1, h⟩ := h
  refine R_sld (pc := 642) k1 d_L_law_642 ?_
  refine R_aload_n (pc := 643) d_L_law_643 rfl rfl ?_
  refine R_iload (pc := 644) d_L_law_644 rfl ?_
  refine R_iconst (pc := 646) (v := 2) d_L_law_646 (by decide) ?_
  refine R_iadd (pc := 647) d_L_law_647 ?_
  obtain ⟨k2, h⟩ := h
  refine R_sld (pc := 648) k2 d_L_law_648 ?_
  refine R_if_eq (pc := 649) (tgt := 656) d_L_law_649 (by decide) (fun c => ?_) (fun c => ?_)
  · rw [if_pos c] at h
    refine R_iconst (pc := 656) (v := 0) d_L_law_656 (by decide) ?_
    exact WP_sub (B_L_law_657 Q κ28 hκ28 v1 v2 v3 v4 v5 0 (xs (Int32.toNatClampNeg (v5 + 1))) v1 M h) (by omega) (ls_s (ls_s (ls_s (ls_s (ls_s (ls_s (ls_n (ls_n (ls_n ls_0)))))))))
  · rw [if_neg c] at h
    refine R_iconst (pc := 652) (v := 1) d_L_law_652 (by decide) ?_
    refine R_goto (pc := 653) (tgt := 657) d_L_law_653 (by decide) ?_
    exact WP_sub (B_L_law_657 Q κ28 hκ28 v1 v2 v3 v4 v5 1 (xs (Int32.toNatClampNeg (v5 + 1))) v1 M h) (by omega) (ls_s (ls_s (ls_s (ls_s (ls_s (ls_s (ls_n (ls_n (ls_n ls_0)))))))))
def T_L_law_633 (κ28 : Nat → Nat → Nat → Nat → Int32 → Mem → Prop) (Q : Int32 → Mem → Prop) (sl : Nat) (xs : Nat → Int32) (v1 : Nat) (v2 : Nat) (v3 : Nat) (v4 : Nat) (v5 : Int32) (M : Mem) : Prop := T_L_law_2534 κ28 Q sl xs v1 v2 v3 v4 v5 M
set_option maxRecDepth 100000 in
set_option maxHeartbeats 4000000 in
theorem B_L_law_633 {g : GG} {kr : Nat} (Q : Int32 → Mem → Prop) (κ28 : Nat → Nat → Nat → Nat → Int32 → Mem → Prop) (hκ28 : ∀ (v1 : Nat) (v2 : Nat) (v3 : Nat) (v4 : Nat) (v5 : Int32) (M : Mem), κ28 v1 v2 v3 v4 v5 M → WP g 20 mL_law 28 [some (.ref g.2.2.2.1), some (.ref (g.1 + v1)), some (.ref (g.1 + v2)), some (.ref (g.1 + v3)), some (.ref (g.1 + v4)), some (.int v5), none, none, none] [] M kr (oZ Q noX)) (v1 : Nat) (v2 : Nat) (v3 : Nat) (v4 : Nat) (v5 : Int32) (M : Mem) (h : T_L_law_633 κ28 Q g.2.2.2.2.1 g.2.2.2.2.2 v1 v2 v3 v4 v5 M) : WP g 20 mL_law 633 [some (.ref g.2.2.2.1), some (.ref (g.1 + v1)), some (.ref (g.1 + v2)), some (.ref (g.1 + v3)), some (.ref (g.1 + v4)), some (.int v5), none, none, none] [] M (kr + 1) (oZ Q noX) := by
  unfold T_L_law_633 at h
  refine R_goto (pc := 633) (tgt := 2534) d_L_law_633 (by decide) ?_
  exact WP_sub (B_L_law_2534 Q κ28 hκ28 v1 v2 v3 v4 v5 M h) (by omega) (ls_s (ls_s (ls_s (ls_s (ls_s (ls_s (ls_n (ls_n (ls_n ls_0)))))))))
def T_L_law_568 (κ28 : Nat → Nat → Nat → Nat → Int32 → Mem → Prop) (Q : Int32 → Mem → Prop) (sl : Nat) (xs : Nat → Int32) (v1 : Nat) (v2 : Nat) (v3 : Nat) (v4 : Nat) (v5 : Int32) (M : Mem) : Prop := (vp_in (v5 + 1) sl) ∧ (vp_in (v5 + 2) sl) ∧ T_L_move (fun y4 M3 => (kd v2 = 7) ∧ T_X7_move (fun y7 M6 => T_X7_thrown (fun y9 M8 => if y9 = y4 then (if y4 = 0 then ((kd v3 = 12) ∧ (vp_in 0 (ln v3)) ∧ if (lg_cmp (M8.2.1 (Int32.toNatClampNeg 0)) (Int32.toInt64 y7)) = 0 then (T_L_law_633 κ28 Q sl xs v1 v2 v3 v4 v5 M8) else (((0 : Int32) = 0 ∨ (0 : Int32) = 1) ∧ Q 0 M8)) else (T_L_law_633 κ28 Q sl xs v1 v2 v3 v4 v5 M8)) else (((0 : Int32) = 0 ∨ (0 : Int32) = 1) ∧ Q 0 M8))  v2 M6)  v2 (xs (Int32.toNatClampNeg (v5 + 1))) (xs (Int32.toNatClampNeg (v5 + 2))) M3)  v1 (xs (Int32.toNatClampNeg (v5 + 1))) (xs (Int32.toNatClampNeg (v5 + 2))) v3 M
set_option maxRecDepth 100000 in
set_option maxHeartbeats 4000000 in
theorem B_L_law_568 {g : GG} {kr : Nat} (Q : Int32 → Mem → Prop) (κ28 : Nat → Nat → Nat → Nat → Int32 → Mem → Prop) (hκ28 : ∀ (v1 : Nat) (v2 : Nat) (v3 : Nat) (v4 : Nat) (v5 : Int32) (M : Mem), κ28 v1 v2 v3 v4 v5 M → WP g 20 mL_law 28 [some (.ref g.2.2.2.1), some (.ref (g.1 + v1)), some (.ref (g.1 + v2)), some (.ref (g.1 + v3)), some (.ref (g.1 + v4)), some (.int v5), none, none, none] [] M kr (oZ Q noX)) (v1 : Nat) (v2 : Nat) (v3 : Nat) (v4 : Nat) (v5 : Int32) (M : Mem) (h : T_L_law_568 κ28 Q g.2.2.2.2.1 g.2.2.2.2.2 v1 v2 v3 v4 v5 M) : WP g 20 mL_law 568 [some (.ref g.2.2.2.1), some (.ref (g.1 + v1)), some (.ref (g.1 + v2)), some (.ref (g.1 + v3)), some (.ref (g.1 + v4)), some (.int v5), none, none, none] [] M (kr + 2) (oZ Q noX) := by
  unfold T_L_law_568 at h
  refine R_aload_n (pc := 568) d_L_law_568 rfl rfl ?_
  refine R_aload_n (pc := 569) d_L_law_569 rfl rfl ?_
  refine R_iload (pc := 570) d_L_law_570 rfl ?_
  refine R_iconst (pc := 572) (v := 1) d_L_law_572 (by decide) ?_
  refine R_iadd (pc := 573) d_L_law_573 ?_
  obtain ⟨k1, h⟩ := h
  refine R_sld (pc := 574) k1 d_L_law_574 ?_
  refine R_aload_n (pc := 575) d_L_law_575 rfl rfl ?_
  refine R_iload (pc := 576) d_L_law_576 rfl ?_
  refine R_iconst (pc := 578) (v := 2) d_L_law_578 (by decide) ?_
  refine R_iadd (pc := 579) d_L_law_579 ?_
  obtain ⟨k2, h⟩ := h
  refine R_sld (pc := 580) k2 d_L_law_580 ?_
  refine R_aload_n (pc := 581) d_L_law_581 rfl rfl ?_
  refine R_callSW (pc := 582) (As := [.ref (g.1 + v1), .int (xs (Int32.toNatClampNeg (v5 + 1))), .int (xs (Int32.toNatClampNeg (v5 + 2))), .ref (g.1 + v3)]) (rest := []) (c_L_move (g := g) v1 (xs (Int32.toNatClampNeg (v5 + 1))) (xs (Int32.toNatClampNeg (v5 + 2))) v3 M _ h) rfl rfl cal_RL_158 sta_L_move (by decide) (by omega) rfl rfl (Nat.le_of_ble_eq_true rfl) d_L_law_582 (k_I (fun y4 M3 h => ?_)) (fun _ _ h9 => False.elim h9)
  try dsimp only at h
  refine R_istore (pc := 585) (L' := [some (.ref g.2.2.2.1), some (.ref (g.1 + v1)), some (.ref (g.1 + v2)), some (.ref (g.1 + v3)), some (.ref (g.1 + v4)), some (.int v5), some (.int y4), none, none]) d_L_law_585 (by decide) rfl ?_
  refine R_aload_n (pc := 587) d_L_law_587 rfl rfl ?_
  refine R_aload_n (pc := 588) d_L_law_588 rfl rfl ?_
  refine R_iload (pc := 589) d_L_law_589 rfl ?_
  refine R_iconst (pc := 591) (v := 1) d_L_law_591 (by decide) ?_
  refine R_iadd (pc := 592) d_L_law_592 ?_
  refine R_sld (pc := 593) k1 d_L_law_593 ?_
  refine R_aload_n (pc := 594) d_L_law_594 rfl rfl ?_
  refine R_iload (pc := 595) d_L_law_595 rfl ?_
  refine R_iconst (pc := 597) (v := 2) d_L_law_597 (by decide) ?_
  refine R_iadd (pc := 598) d_L_law_598 ?_
  refine R_sld (pc := 599) k2 d_L_law_599 ?_
  obtain ⟨k5, h⟩ := h
  refine R_callV (pc := 600) (As := [.int (xs (Int32.toNatClampNeg (v5 + 1))), .int (xs (Int32.toNatClampNeg (v5 + 2)))]) (rest := []) (c_X7_move (g := g) v2 (xs (Int32.toNatClampNeg (v5 + 1))) (xs (Int32.toNatClampNeg (v5 + 2))) M3 _ h) rfl rfl cal_RL_160 ins_X7_move sel_X7_move (cls_at k5 clsOK7) (by decide) (by omega) rfl rfl (Nat.le_of_ble_eq_true rfl) d_L_law_600 (k_I (fun y7 M6 h => ?_)) (fun _ _ h9 => False.elim h9)
  try dsimp only at h
  refine R_istore (pc := 603) (L' := [some (.ref g.2.2.2.1), some (.ref (g.1 + v1)), some (.ref (g.1 + v2)), some (.ref (g.1 + v3)), some (.ref (g.1 + v4)), some (.int v5), some (.int y4), some (.int y7), none]) d_L_law_603 (by decide) rfl ?_
  refine R_aload_n (pc := 605) d_L_law_605 rfl rfl ?_
  refine R_callV (pc := 606) (As := []) (rest := []) (c_X7_thrown (g := g) v2 M6 _ h) rfl rfl cal_RL_140 ins_X7_thrown sel_X7_thrown (cls_at k5 clsOK7) (by decide) (by omega) rfl rfl (Nat.le_of_ble_eq_true rfl) d_L_law_606 (k_I (fun y9 M8 h => ?_)) (fun _ _ h9 => False.elim h9)
  try dsimp only at h
  refine R_iload (pc := 609) d_L_law_609 rfl ?_
  refine R_icmp_eq (pc := 611) (tgt := 616) d_L_law_611 (by decide) (fun c => ?_) (fun c => ?_)
  · rw [if_pos c] at h
    refine R_iload (pc := 616) d_L_law_616 rfl ?_
    refine R_if_ne (pc := 618) (tgt := 633) d_L_law_618 (by decide) (fun c => ?_) (fun c => ?_)
    · rw [if_neg c] at h
      exact WP_sub (B_L_law_633 Q κ28 hκ28 v1 v2 v3 v4 v5 M8 h) (by omega) (ls_s (ls_s (ls_s (ls_s (ls_s (ls_s (ls_n (ls_n (ls_n ls_0)))))))))
    · rw [if_pos c] at h
      refine R_aload_n (pc := 621) d_L_law_621 rfl rfl ?_
      refine R_iconst (pc := 622) (v := 0) d_L_law_622 (by decide) ?_
      obtain ⟨k10, h⟩ := h
      obtain ⟨k11, h⟩ := h
      refine R_lald (pc := 623) k10 k11 d_L_law_623 ?_
      refine R_iload (pc := 624) d_L_law_624 rfl ?_
      refine R_i2l (pc := 626) d_L_law_626 ?_
      refine R_lcmp (pc := 627) d_L_law_627 ?_
      refine R_if_eq (pc := 628) (tgt := 633) d_L_law_628 (by decide) (fun c => ?_) (fun c => ?_)
      · rw [if_pos c] at h
        exact WP_sub (B_L_law_633 Q κ28 hκ28 v1 v2 v3 v4 v5 M8 h) (by omega) (ls_s (ls_s (ls_s (ls_s (ls_s (ls_s (ls_n (ls_n (ls_n ls_0)))))))))
      · rw [if_neg c] at h
        refine R_iconst (pc := 631) (v := 0) d_L_law_631 (by decide) ?_
        exact R_retv (pc := 632) d_L_law_632 h
  · rw [if_neg c] at h
    refine R_iconst (pc := 614) (v := 0) d_L_law_614 (by decide) ?_
    exact R_retv (pc := 615) d_L_law_615 h
def T_L_law_565 (κ28 : Nat → Nat → Nat → Nat → Int32 → Mem → Prop) (Q : Int32 → Mem → Prop) (sl : Nat) (xs : Nat → Int32) (v1 : Nat) (v2 : Nat) (v3 : Nat) (v4 : Nat) (v5 : Int32) (M : Mem) : Prop := T_L_law_2534 κ28 Q sl xs v1 v2 v3 v4 v5 M
set_option maxRecDepth 100000 in
set_option maxHeartbeats 4000000 in
theorem B_L_law_565 {g : GG} {kr : Nat} (Q : Int32 → Mem → Prop) (κ28 : Nat → Nat → Nat → Nat → Int32 → Mem → Prop) (hκ28 : ∀ (v1 : Nat) (v2 : Nat) (v3 : Nat) (v4 : Nat) (v5 : Int32) (M : Mem), κ28 v1 v2 v3 v4 v5 M → WP g 20 mL_law 28 [some (.ref g.2.2.2.1), some (.ref (g.1 + v1)), some (.ref (g.1 + v2)), some (.ref (g.1 + v3)), some (.ref (g.1 + v4)), some (.int v5), none, none, none] [] M kr (oZ Q noX)) (v1 : Nat) (v2 : Nat) (v3 : Nat) (v4 : Nat) (v5 : Int32) (M : Mem) (h : T_L_law_565 κ28 Q g.2.2.2.2.1 g.2.2.2.2.2 v1 v2 v3 v4 v5 M) : WP g 20 mL_law 565 [some (.ref g.2.2.2.1), some (.ref (g.1 + v1)), some (.ref (g.1 + v2)), some (.ref (g.1 + v3)), some (.ref (g.1 + v4)), some (.int v5), none, none, none] [] M (kr + 1) (oZ Q noX) := by
  unfold T_L_law_565 at h
  refine R_goto (pc := 565) (tgt := 2534) d_L_law_565 (by decide) ?_
  exact WP_sub (B_L_law_2534 Q κ28 hκ28 v1 v2 v3 v4 v5 M h) (by omega) (ls_s (ls_s (ls_s (ls_s (ls_s (ls_s (ls_n (ls_n (ls_n ls_0)))))))))
def T_L_law_500 (κ28 : Nat → Nat → Nat → Nat → Int32 → Mem → Prop) (Q : Int32 → Mem → Prop) (sl : Nat) (xs : Nat → Int32) (v1 : Nat) (v2 : Nat) (v3 : Nat) (v4 : Nat) (v5 : Int32) (M : Mem) : Prop := (vp_in (v5 + 1) sl) ∧ (vp_in (v5 + 2) sl) ∧ T_L_setLevel (fun y4 M3 => (kd v2 = 7) ∧ T_X7_setLevel (fun y7 M6 => T_X7_thrown (fun y9 M8 => if y9 = y4 then (if y4 = 0 then ((kd v3 = 12) ∧ (vp_in 0 (ln v3)) ∧ if (lg_cmp (M8.2.1 (Int32.toNatClampNeg 0)) (Int32.toInt64 y7)) = 0 then (T_L_law_565 κ28 Q sl xs v1 v2 v3 v4 v5 M8) else (((0 : Int32) = 0 ∨ (0 : Int32) = 1) ∧ Q 0 M8)) else (T_L_law_565 κ28 Q sl xs v1 v2 v3 v4 v5 M8)) else (((0 : Int32) = 0 ∨ (0 : Int32) = 1) ∧ Q 0 M8))  v2 M6)  v2 (xs (Int32.toNatClampNeg (v5 + 1))) (xs (Int32.toNatClampNeg (v5 + 2))) M3)  v1 (xs (Int32.toNatClampNeg (v5 + 1))) (xs (Int32.toNatClampNeg (v5 + 2))) v3 M
set_option maxRecDepth 100000 in
set_option maxHeartbeats 4000000 in
theorem B_L_law_500 {g : GG} {kr : Nat} (Q : Int32 → Mem → Prop) (κ28 : Nat → Nat → Nat → Nat → Int32 → Mem → Prop) (hκ28 : ∀ (v1 : Nat) (v2 : Nat) (v3 : Nat) (v4 : Nat) (v5 : Int32) (M : Mem), κ28 v1 v2 v3 v4 v5 M → WP g 20 mL_law 28 [some (.ref g.2.2.2.1), some (.ref (g.1 + v1)), some (.ref (g.1 + v2)), some (.ref (g.1 + v3)), some (.ref (g.1 + v4)), some (.int v5), none, none, none] [] M kr (oZ Q noX)) (v1 : Nat) (v2 : Nat) (v3 : Nat) (v4 : Nat) (v5 : Int32) (M : Mem) (h : T_L_law_500 κ28 Q g.2.2.2.2.1 g.2.2.2.2.2 v1 v2 v3 v4 v5 M) : WP g 20 mL_law 500 [some (.ref g.2.2.2.1), some (.ref (g.1 + v1)), some (.ref (g.1 + v2)), some (.ref (g.1 + v3)), some (.ref (g.1 + v4)), some (.int v5), none, none, none] [] M (kr + 2) (oZ Q noX) := by
  unfold T_L_law_500 at h
  refine R_aload_n (pc := 500) d_L_law_500 rfl rfl ?_
  refine R_aload_n (pc := 501) d_L_law_501 rfl rfl ?_
  refine R_iload (pc := 502) d_L_law_502 rfl ?_
  refine R_iconst (pc := 504) (v := 1) d_L_law_504 (by decide) ?_
  refine R_iadd (pc := 505) d_L_law_505 ?_
  obtain ⟨k1, h⟩ := h
  refine R_sld (pc := 506) k1 d_L_law_506 ?_
  refine R_aload_n (pc := 507) d_L_law_507 rfl rfl ?_
  refine R_iload (pc := 508) d_L_law_508 rfl ?_
  refine R_iconst (pc := 510) (v := 2) d_L_law_510 (by decide) ?_
  refine R_iadd (pc := 511) d_L_law_511 ?_
  obtain ⟨k2, h⟩ := h
  refine R_sld (pc := 512) k2 d_L_law_512 ?_
  refine R_aload_n (pc := 513) d_L_law_513 rfl rfl ?_
  refine R_callSW (pc := 514) (As := [.ref (g.1 + v1), .int (xs (Int32.toNatClampNeg (v5 + 1))), .int (xs (Int32.toNatClampNeg (v5 + 2))), .ref (g.1 + v3)]) (rest := []) (c_L_setLevel (g := g) v1 (xs (Int32.toNatClampNeg (v5 + 1))) (xs (Int32.toNatClampNeg (v5 + 2))) v3 M _ h) rfl rfl cal_RL_155 sta_L_setLevel (by decide) (by omega) rfl rfl (Nat.le_of_ble_eq_true rfl) d_L_law_514 (k_I (fun y4 M3 h => ?_)) (fun _ _ h9 => False.elim h9)
  try dsimp only at h
  refine R_istore (pc := 517) (L' := [some (.ref g.2.2.2.1), some (.ref (g.1 + v1)), some (.ref (g.1 + v2)), some (.ref (g.1 + v3)), some (.ref (g.1 + v4)), some (.int v5), some (.int y4), none, none]) d_L_law_517 (by decide) rfl ?_
  refine R_aload_n (pc := 519) d_L_law_519 rfl rfl ?_
  refine R_aload_n (pc := 520) d_L_law_520 rfl rfl ?_
  refine R_iload (pc := 521) d_L_law_521 rfl ?_
  refine R_iconst (pc := 523) (v := 1) d_L_law_523 (by decide) ?_
  refine R_iadd (pc := 524) d_L_law_524 ?_
  refine R_sld (pc := 525) k1 d_L_law_525 ?_
  refine R_aload_n (pc := 526) d_L_law_526 rfl rfl ?_
  refine R_iload (pc := 527) d_L_law_527 rfl ?_
  refine R_iconst (pc := 529) (v := 2) d_L_law_529 (by decide) ?_
  refine R_iadd (pc := 530) d_L_law_530 ?_
  refine R_sld (pc := 531) k2 d_L_law_531 ?_
  obtain ⟨k5, h⟩ := h
  refine R_callV (pc := 532) (As := [.int (xs (Int32.toNatClampNeg (v5 + 1))), .int (xs (Int32.toNatClampNeg (v5 + 2)))]) (rest := []) (c_X7_setLevel (g := g) v2 (xs (Int32.toNatClampNeg (v5 + 1))) (xs (Int32.toNatClampNeg (v5 + 2))) M3 _ h) rfl rfl cal_RL_157 ins_X7_setLevel sel_X7_setLevel (cls_at k5 clsOK7) (by decide) (by omega) rfl rfl (Nat.le_of_ble_eq_true rfl) d_L_law_532 (k_I (fun y7 M6 h => ?_)) (fun _ _ h9 => False.elim h9)
  try dsimp only at h
  refine R_istore (pc := 535) (L' := [some (.ref g.2.2.2.1), some (.ref (g.1 + v1)), some (.ref (g.1 + v2)), some (.ref (g.1 + v3)), some (.ref (g.1 + v4)), some (.int v5), some (.int y4), some (.int y7), none]) d_L_law_535 (by decide) rfl ?_
  refine R_aload_n (pc := 537) d_L_law_537 rfl rfl ?_
  refine R_callV (pc := 538) (As := []) (rest := []) (c_X7_thrown (g := g) v2 M6 _ h) rfl rfl cal_RL_140 ins_X7_thrown sel_X7_thrown (cls_at k5 clsOK7) (by decide) (by omega) rfl rfl (Nat.le_of_ble_eq_true rfl) d_L_law_538 (k_I (fun y9 M8 h => ?_)) (fun _ _ h9 => False.elim h9)
  try dsimp only at h
  refine R_iload (pc := 541) d_L_law_541 rfl ?_
  refine R_icmp_eq (pc := 543) (tgt := 548) d_L_law_543 (by decide) (fun c => ?_) (fun c => ?_)
  · rw [if_pos c] at h
    refine R_iload (pc := 548) d_L_law_548 rfl ?_
    refine R_if_ne (pc := 550) (tgt := 565) d_L_law_550 (by decide) (fun c => ?_) (fun c => ?_)
    · rw [if_neg c] at h
      exact WP_sub (B_L_law_565 Q κ28 hκ28 v1 v2 v3 v4 v5 M8 h) (by omega) (ls_s (ls_s (ls_s (ls_s (ls_s (ls_s (ls_n (ls_n (ls_n ls_0)))))))))
    · rw [if_pos c] at h
      refine R_aload_n (pc := 553) d_L_law_553 rfl rfl ?_
      refine R_iconst (pc := 554) (v := 0) d_L_law_554 (by decide) ?_
      obtain ⟨k10, h⟩ := h
      obtain ⟨k11, h⟩ := h
      refine R_lald (pc := 555) k10 k11 d_L_law_555 ?_
      refine R_iload (pc := 556) d_L_law_556 rfl ?_
      refine R_i2l (pc := 558) d_L_law_558 ?_
      refine R_lcmp (pc := 559) d_L_law_559 ?_
      refine R_if_eq (pc := 560) (tgt := 565) d_L_law_560 (by decide) (fun c => ?_) (fun c => ?_)
      · rw [if_pos c] at h
        exact WP_sub (B_L_law_565 Q κ28 hκ28 v1 v2 v3 v4 v5 M8 h) (by omega) (ls_s (ls_s (ls_s (ls_s (ls_s (ls_s (ls_n (ls_n (ls_n ls_0)))))))))
      · rw [if_neg c] at h
        refine R_iconst (pc := 563) (v := 0) d_L_law_563 (by decide) ?_
        exact R_retv (pc := 564) d_L_law_564 h
  · rw [if_neg c] at h
    refine R_iconst (pc := 546) (v := 0) d_L_law_546 (by decide) ?_
    exact R_retv (pc := 547) d_L_law_547 h
def T_L_law_497 (κ28 : Nat → Nat → Nat → Nat → Int32 → Mem → Prop) (Q : Int32 → Mem → Prop) (sl : Nat) (xs : Nat → Int32) (v1 : Nat) (v2 : Nat) (v3 : Nat) (v4 : Nat) (v5 : Int32) (M : Mem) : Prop := T_L_law_2534 κ28 Q sl xs v1 v2 v3 v4 v5 M
set_option maxRecDepth 100000 in
set_option maxHeartbeats 4000000 in
theorem B_L_law_497 {g : GG} {kr : Nat} (Q : Int32 → Mem → Prop) (κ28 : Nat → Nat → Nat → Nat → Int32 → Mem → Prop) (hκ28 : ∀ (v1 : Nat) (v2 : Nat) (v3 : Nat) (v4 : Nat) (v5 : Int32) (M : Mem), κ28 v1 v2 v3 v4 v5 M → WP g 20 mL_law 28 [some (.ref g.2.2.2.1), some (.ref (g.1 + v1)), some (.ref (g.1 + v2)), some (.ref (g.1 + v3)), some (.ref (g.1 + v4)), some (.int v5), none, none, none] [] M kr (oZ Q noX)) (v1 : Nat) (v2 : Nat) (v3 : Nat) (v4 : Nat) (v5 : Int32) (M : Mem) (h : T_L_law_497 κ28 Q g.2.2.2.2.1 g.2.2.2.2.2 v1 v2 v3 v4 v5 M) : WP g 20 mL_law 497 [some (.ref g.2.2.2.1), some (.ref (g.1 + v1)), some (.ref (g.1 + v2)), some (.ref (g.1 + v3)), some (.ref (g.1 + v4)), some (.int v5), none, none, none] [] M (kr + 1) (oZ Q noX) := by
  unfold T_L_law_497 at h
  refine R_goto (pc := 497) (tgt := 2534) d_L_law_497 (by decide) ?_
  exact WP_sub (B_L_law_2534 Q κ28 hκ28 v1 v2 v3 v4 v5 M h) (by omega) (ls_s (ls_s (ls_s (ls_s (ls_s (ls_s (ls_n (ls_n (ls_n ls_0)))))))))
def T_L_law_464 (κ28 : Nat → Nat → Nat → Nat → Int32 → Mem → Prop) (Q : Int32 → Mem → Prop) (sl : Nat) (xs : Nat → Int32) (v1 : Nat) (v2 : Nat) (v3 : Nat) (v4 : Nat) (v5 : Int32) (v6 : Int32) (s0 : Int32) (s1 : Int32) (s2 : Nat) (M : Mem) : Prop := (kd s2 = 7) ∧ T_X7_setOpen (fun y3 M2 => (kd v2 = 7) ∧ T_X7_thrown (fun y6 M5 => if y6 = v6 then (if v6 = 0 then ((kd v3 = 12) ∧ (vp_in 0 (ln v3)) ∧ if (lg_cmp (M5.2.1 (Int32.toNatClampNeg 0)) (Int32.toInt64 y3)) = 0 then (T_L_law_497 κ28 Q sl xs v1 v2 v3 v4 v5 M5) else (((0 : Int32) = 0 ∨ (0 : Int32) = 1) ∧ Q 0 M5)) else (T_L_law_497 κ28 Q sl xs v1 v2 v3 v4 v5 M5)) else (((0 : Int32) = 0 ∨ (0 : Int32) = 1) ∧ Q 0 M5))  v2 M2)  s2 s1 s0 M
set_option maxRecDepth 100000 in
set_option maxHeartbeats 4000000 in
theorem B_L_law_464 {g : GG} {kr : Nat} (Q : Int32 → Mem → Prop) (κ28 : Nat → Nat → Nat → Nat → Int32 → Mem → Prop) (hκ28 : ∀ (v1 : Nat) (v2 : Nat) (v3 : Nat) (v4 : Nat) (v5 : Int32) (M : Mem), κ28 v1 v2 v3 v4 v5 M → WP g 20 mL_law 28 [some (.ref g.2.2.2.1), some (.ref (g.1 + v1)), some (.ref (g.1 + v2)), some (.ref (g.1 + v3)), some (.ref (g.1 + v4)), some (.int v5), none, none, none] [] M kr (oZ Q noX)) (v1 : Nat) (v2 : Nat) (v3 : Nat) (v4 : Nat) (v5 : Int32) (v6 : Int32) (s0 : Int32) (s1 : Int32) (s2 : Nat) (M : Mem) (h : T_L_law_464 κ28 Q g.2.2.2.2.1 g.2.2.2.2.2 v1 v2 v3 v4 v5 v6 s0 s1 s2 M) : WP g 20 mL_law 464 [some (.ref g.2.2.2.1), some (.ref (g.1 + v1)), some (.ref (g.1 + v2)), some (.ref (g.1 + v3)), some (.ref (g.1 + v4)), some (.int v5), some (.int v6), none, none] [.int s0, .int s1, .ref (g.1 + s2)] M (kr + 1) (oZ Q noX) := by
  unfold T_L_law_464 at h
  obtain ⟨k1, h⟩ := h
  refine R_callV (pc := 464) (As := [.int s1, .int s0]) (rest := []) (c_X7_setOpen (g := g) s2 s1 s0 M _ h) rfl rfl cal_RL_154 ins_X7_setOpen sel_X7_setOpen (cls_at k1 clsOK7) (by decide) (by omega) rfl rfl (Nat.le_of_ble_eq_true rfl) d_L_law_464 (k_I (fun y3 M2 h => ?_)) (fun _ _ h9 => False.elim h9)
  try dsimp only at h
  refine R_istore (pc := 467) (L' := [some (.ref g.2.2.2.1), some (.ref (g.1 + v1)), some (.ref (g.1 + v2)), some (.ref (g.1 + v3)), some (.ref (g.1 + v4)), some (.int v5), some (.int v6), some (.int y3), none]) d_L_law_467 (by decide) rfl ?_
  refine R_aload_n (pc := 469) d_L_law_469 rfl rfl ?_
  obtain ⟨k4, h⟩ := h
  refine R_callV (pc := 470) (As := []) (rest := []) (c_X7_thrown (g := g) v2 M2 _ h) rfl rfl cal_RL_140 ins_X7_thrown sel_X7_thrown (cls_at k4 clsOK7) (by decide) (by omega) rfl rfl (Nat.le_of_ble_eq_true rfl) d_L_law_470 (k_I (fun y6 M5 h => ?_)) (fun _ _ h9 => False.elim h9)
  try dsimp only at h
  refine R_iload (pc := 473) d_L_law_473 rfl ?_
  refine R_icmp_eq (pc := 475) (tgt := 480) d_L_law_475 (by decide) (fun c => ?_) (fun c => ?_)
  · rw [if_pos c] at h
    refine R_iload (pc := 480) d_L_law_480 rfl ?_
    refine R_if_ne (pc := 482) (tgt := 497) d_L_law_482 (by decide) (fun c => ?_) (fun c => ?_)
    · rw [if_neg c] at h
      exact WP_sub (B_L_law_497 Q κ28 hκ28 v1 v2 v3 v4 v5 M5 h) (by omega) (ls_s (ls_s (ls_s (ls_s (ls_s (ls_s (ls_n (ls_n (ls_n ls_0)))))))))
    · rw [if_pos c] at h
      refine R_aload_n (pc := 485) d_L_law_485 rfl rfl ?_
      refine R_iconst (pc := 486) (v := 0) d_L_law_486 (by decide) ?_
      obtain ⟨k7, h⟩ := h
      obtain ⟨k8, h⟩ := h
      refine R_lald (pc := 487) k7 k8 d_L_law_487 ?_
      refine R_iload (pc := 488) d_L_law_488 rfl ?_
      refine R_i2l (pc := 490) d_L_law_490 ?_
      refine R_lcmp (pc := 491) d_L_law_491 ?_
      refine R_if_eq (pc := 492) (tgt := 497) d_L_law_492 (by decide) (fun c => ?_) (fun c => ?_)
      · rw [if_pos c] at h
        exact WP_sub (B_L_law_497 Q κ28 hκ28 v1 v2 v3 v4 v5 M5 h) (by omega) (ls_s (ls_s (ls_s (ls_s (ls_s (ls_s (ls_n (ls_n (ls_n ls_0)))))))))
      · rw [if_neg c] at h
        refine R_iconst (pc := 495) (v := 0) d_L_law_495 (by decide) ?_
        exact R_retv (pc := 496) d_L_law_496 h
  · rw [if_neg c] at h
    refine R_iconst (pc := 478) (v := 0) d_L_law_478 (by decide) ?_
    exact R_retv (pc := 479) d_L_law_479 h
def T_L_law_437 (κ28 : Nat → Nat → Nat → Nat → Int32 → Mem → Prop) (Q : Int32 → Mem → Prop) (sl : Nat) (xs : Nat → Int32) (v1 : Nat) (v2 : Nat) (v3 : Nat) (v4 : Nat) (v5 : Int32) (s0 : Int32) (s1 : Int32) (s2 : Nat) (M : Mem) : Prop := T_L_setOpen (fun y2 M1 => (vp_in (v5 + 1) sl) ∧ (vp_in (v5 + 2) sl) ∧ if (xs (Int32.toNatClampNeg (v5 + 2))) = 0 then (T_L_law_464 κ28 Q sl xs v1 v2 v3 v4 v5 y2 0 (xs (Int32.toNatClampNeg (v5 + 1))) v2 M1) else (T_L_law_464 κ28 Q sl xs v1 v2 v3 v4 v5 y2 1 (xs (Int32.toNatClampNeg (v5 + 1))) v2 M1))  s2 s1 s0 v3 M
set_option maxRecDepth 100000 in
set_option maxHeartbeats 4000000 in
theorem B_L_law_437 {g : GG} {kr : Nat} (Q : Int32 → Mem → Prop) (κ28 : Nat → Nat → Nat → Nat → Int32 → Mem → Prop) (hκ28 : ∀ (v1 : Nat) (v2 : Nat) (v3 : Nat) (v4 : Nat) (v5 : Int32) (M : Mem), κ28 v1 v2 v3 v4 v5 M → WP g 20 mL_law 28 [some (.ref g.2.2.2.1), some (.ref (g.1 + v1)), some (.ref (g.1 + v2)), some (.ref (g.1 + v3)), some (.ref (g.1 + v4)), some (.int v5), none, none, none] [] M kr (oZ Q noX)) (v1 : Nat) (v2 : Nat) (v3 : Nat) (v4 : Nat) (v5 : Int32) (s0 : Int32) (s1 : Int32) (s2 : Nat) (M : Mem) (h : T_L_law_437 κ28 Q g.2.2.2.2.1 g.2.2.2.2.2 v1 v2 v3 v4 v5 s0 s1 s2 M) : WP g 20 mL_law 437 [some (.ref g.2.2.2.1), some (.ref (g.1 + v1)), some (.ref (g.1 + v2)), some (.ref (g.1 + v3)), some (.ref (g.1 + v4)), some (.int v5), none, none, none] [.int s0, .int s1, .ref (g.1 + s2)] M (kr + 2) (oZ Q noX) := by
  unfold T_L_law_437 at h
  refine R_aload_n (pc := 437) d_L_law_437 rfl rfl ?_
  refine R_callSW (pc := 438) (As := [.ref (g.1 + s2), .int s1, .int s0, .ref (g.1 + v3)]) (rest := []) (c_L_setOpen (g := g) s2 s1 s0 v3 M _ h) rfl rfl cal_RL_151 sta_L_setOpen (by decide) (by omega) rfl rfl (Nat.le_of_ble_eq_true rfl) d_L_law_438 (k_I (fun y2 M1 h => ?_)) (fun _ _ h9 => False.elim h9)
  try dsimp only at h
  refine R_istore (pc := 441) (L' := [some (.ref g.2.2.2.1), some (.ref (g.1 + v1)), some (.ref (g.1 + v2)), some (.ref (g.1 + v3)), some (.ref (g.1 + v4)), some (.int v5), some (.int y2), none, none]) d_L_law_441 (by decide) rfl ?_
  refine R_aload_n (pc := 443) d_L_law_443 rfl rfl ?_
  refine R_aload_n (pc := 444) d_L_law_444 rfl rfl ?_
  refine R_iload (pc := 445) d_L_law_445 rfl ?_
  refine R_iconst (pc := 447) (v := 1) d_L_law_447 (by decide) ?_
  refine R_iadd (pc := 448) d_L_law_448 ?_
  obtain ⟨k3, h⟩ := h
  refine R_sld (pc := 449) k3 d_L_law_449 ?_
  refine R_aload_n (pc := 450) d_L_law_450 rfl rfl ?_
  refine R_iload (pc := 451) d_L_law_451 rfl ?_
  refine R_iconst (pc := 453) (v := 2) d_L_law_453 (by decide) ?_
  refine R_iadd (pc := 454) d_L_law_454 ?_
  obtain ⟨k4, h⟩ := h
  refine R_sld (pc := 455) k4 d_L_law_455 ?_
  refine R_if_eq (pc := 456) (tgt := 463) d_L_law_456 (by decide) (fun c => ?_) (fun c => ?_)
  · rw [if_pos c] at h
    refine R_iconst (pc := 463) (v := 0) d_L_law_463 (by decide) ?_
    exact WP_sub (B_L_law_464 Q κ28 hκ28 v1 v2 v3 v4 v5 y2 0 (xs (Int32.toNatClampNeg (v5 + 1))) v2 M1 h) (by omega) (ls_s (ls_s (ls_s (ls_s (ls_s (ls_s (ls_s (ls_n (ls_n ls_0)))))))))
  · rw [if_neg c] at h
    refine R_iconst (pc := 459) (v := 1) d_L_law_459 (by decide) ?_
    refine R_goto (pc := 460) (tgt := 464) d_L_law_460 (by decide) ?_
    exact WP_sub (B_L_law_464 Q κ28 hκ28 v1 v2 v3 v4 v5 y2 1 (xs (Int32.toNatClampNeg (v5 + 1))) v2 M1 h) (by omega) (ls_s (ls_s (ls_s (ls_s (ls_s (ls_s (ls_s (ls_n (ls_n ls_0)))))))))
def T_L_law_416 (κ28 : Nat → Nat → Nat → Nat → Int32 → Mem → Prop) (Q : Int32 → Mem → Prop) (sl : Nat) (xs : Nat → Int32) (v1 : Nat) (v2 : Nat) (v3 : Nat) (v4 : Nat) (v5 : Int32) (M : Mem) : Prop := (vp_in (v5 + 1) sl) ∧ (vp_in (v5 + 2) sl) ∧ if (xs (Int32.toNatClampNeg (v5 + 2))) = 0 then (T_L_law_437 κ28 Q sl xs v1 v2 v3 v4 v5 0 (xs (Int32.toNatClampNeg (v5 + 1))) v1 M) else (T_L_law_437 κ28 Q sl xs v1 v2 v3 v4 v5 1 (xs (Int32.toNatClampNeg (v5 + 1))) v1 M)
set_option maxRecDepth 100000 in
set_option maxHeartbeats 4000000 in
theorem B_L_law_416 {g : GG} {kr : Nat} (Q : Int32 → Mem → Prop) (κ28 : Nat → Nat → Nat → Nat → Int32 → Mem → Prop) (hκ28 : ∀ (v1 : Nat) (v2 : Nat) (v3 : Nat) (v4 : Nat) (v5 : Int32) (M : Mem), κ28 v1 v2 v3 v4 v5 M → WP g 20 mL_law 28 [some (.ref g.2.2.2.1), some (.ref (g.1 + v1)), some (.ref (g.1 + v2)), some (.ref (g.1 + v3)), some (.ref (g.1 + v4)), some (.int v5), none, none, none] [] M kr (oZ Q noX)) (v1 : Nat) (v2 : Nat) (v3 : Nat) (v4 : Nat) (v5 : Int32) (M : Mem) (h : T_L_law_416 κ28 Q g.2.2.2.2.1 g.2.2.2.2.2 v1 v2 v3 v4 v5 M) : WP g 20 mL_law 416 [some (.ref g.2.2.2.1), some (.ref (g.1 + v1)), some (.ref (g.1 + v2)), some (.ref (g.1 + v3)), some (.ref (g.1 + v4)), some (.int v5), none, none, none] [] M (kr + 2) (oZ Q noX) := by
  unfold T_L_law_416 at h
  refine R_aload_n (pc := 416) d_L_law_416 rfl rfl ?_
  refine R_aload_n (pc := 417) d_L_law_417 rfl rfl ?_
  refine R_iload (pc := 418) d_L_law_418 rfl ?_
  refine R_iconst (pc := 420) (v := 1) d_L_law_420 (by decide) ?_
  refine R_iadd (pc := 421) d_L_law_421 ?_
  obtain ⟨k1, h⟩ := h
  refine R_sld (pc := 422) k1 d_L_law_422 ?_
  refine R_aload_n (pc := 423) d_L_law_423 rfl rfl ?_
  refine R_iload (pc := 424) d_L_law_424 rfl ?_
  refine R_iconst (pc := 426) (v := 2) d_L_law_426 (by decide) ?_
  refine R_iadd (pc := 427) d_L_law_427 ?_
  obtain ⟨k2, h⟩ := h
  refine R_sld (pc := 428) k2 d_L_law_428 ?_
  refine R_if_eq (pc := 429) (tgt := 436) d_L_law_429 (by decide) (fun c => ?_) (fun c => ?_)
  · rw [if_pos c] at h
    refine R_iconst (pc := 436) (v := 0) d_L_law_436 (by decide) ?_
    exact WP_sub (B_L_law_437 Q κ28 hκ28 v1 v2 v3 v4 v5 0 (xs (Int32.toNatClampNeg (v5 + 1))) v1 M h) (by omega) (ls_s (ls_s (ls_s (ls_s (ls_s (ls_s (ls_n (ls_n (ls_n ls_0)))))))))
  · rw [if_neg c] at h
    refine R_iconst (pc := 432) (v := 1) d_L_law_432 (by decide) ?_
    refine R_goto (pc := 433) (tgt := 437) d_L_law_433 (by decide) ?_
    exact WP_sub (B_L_law_437 Q κ28 hκ28 v1 v2 v3 v4 v5 1 (xs (Int32.toNatClampNeg (v5 + 1))) v1 M h) (by omega) (ls_s (ls_s (ls_s (ls_s (ls_s (ls_s (ls_n (ls_n (ls_n ls_0)))))))))
def T_L_law_413 (κ28 : Nat → Nat → Nat → Nat → Int32 → Mem → Prop) (Q : Int32 → Mem → Prop) (sl : Nat) (xs : Nat → Int32) (v1 : Nat) (v2 : Nat) (v3 : Nat) (v4 : Nat) (v5 : Int32) (M : Mem) : Prop := T_L_law_2534 κ28 Q sl xs v1 v2 v3 v4 v5 M
set_option maxRecDepth 100000 in
set_option maxHeartbeats 4000000 in
theorem B_L_law_413 {g : GG} {kr : Nat} (Q : Int32 → Mem → Prop) (κ28 : Nat → Nat → Nat → Nat → Int32 → Mem → Prop) (hκ28 : ∀ (v1 : Nat) (v2 : Nat) (v3 : Nat) (v4 : Nat) (v5 : Int32) (M : Mem), κ28 v1 v2 v3 v4 v5 M → WP g 20 mL_law 28 [some (.ref g.2.2.2.1), some (.ref (g.1 + v1)), some (.ref (g.1 + v2)), some (.ref (g.1 + v3)), some (.ref (g.1 + v4)), some (.int v5), none, none, none] [] M kr (oZ Q noX)) (v1 : Nat) (v2 : Nat) (v3 : Nat) (v4 : Nat) (v5 : Int32) (M : Mem) (h : T_L_law_413 κ28 Q g.2.2.2.2.1 g.2.2.2.2.2 v1 v2 v3 v4 v5 M) : WP g 20 mL_law 413 [some (.ref g.2.2.2.1), some (.ref (g.1 + v1)), some (.ref (g.1 + v2)), some (.ref (g.1 + v3)), some (.ref (g.1 + v4)), some (.int v5), none, none, none] [] M (kr + 1) (oZ Q noX) := by
  unfold T_L_law_413 at h
  refine R_goto (pc := 413) (tgt := 2534) d_L_law_413 (by decide) ?_
  exact WP_sub (B_L_law_2534 Q κ28 hκ28 v1 v2 v3 v4 v5 M h) (by omega) (ls_s (ls_s (ls_s (ls_s (ls_s (ls_s (ls_n (ls_n (ls_n ls_0)))))))))
def T_L_law_380 (κ28 : Nat → Nat → Nat → Nat → Int32 → Mem → Prop) (Q : Int32 → Mem → Prop) (sl : Nat) (xs : Nat → Int32) (v1 : Nat) (v2 : Nat) (v3 : Nat) (v4 : Nat) (v5 : Int32) (v6 : Int32) (s0 : Int32) (s1 : Int32) (s2 : Int32) (s3 : Nat) (M : Mem) : Prop := (kd s3 = 7) ∧ T_X7_addRoom (fun y3 M2 => (kd v2 = 7) ∧ T_X7_thrown (fun y6 M5 => if y6 = v6 then (if v6 = 0 then ((kd v3 = 12) ∧ (vp_in 0 (ln v3)) ∧ if (lg_cmp (M5.2.1 (Int32.toNatClampNeg 0)) (Int32.toInt64 y3)) = 0 then (T_L_law_413 κ28 Q sl xs v1 v2 v3 v4 v5 M5) else (((0 : Int32) = 0 ∨ (0 : Int32) = 1) ∧ Q 0 M5)) else (T_L_law_413 κ28 Q sl xs v1 v2 v3 v4 v5 M5)) else (((0 : Int32) = 0 ∨ (0 : Int32) = 1) ∧ Q 0 M5))  v2 M2)  s3 s2 s1 s0 M
set_option maxRecDepth 100000 in
set_option maxHeartbeats 4000000 in
theorem B_L_law_380 {g : GG} {kr : Nat} (Q : Int32 → Mem → Prop) (κ28 : Nat → Nat → Nat → Nat → Int32 → Mem → Prop) (hκ28 : ∀ (v1 : Nat) (v2 : Nat) (v3 : Nat) (v4 : Nat) (v5 : Int32) (M : Mem), κ28 v1 v2 v3 v4 v5 M → WP g 20 mL_law 28 [some (.ref g.2.2.2.1), some (.ref (g.1 + v1)), some (.ref (g.1 + v2)), some (.ref (g.1 + v3)), some (.ref (g.1 + v4)), some (.int v5), none, none, none] [] M kr (oZ Q noX)) (v1 : Nat) (v2 : Nat) (v3 : Nat) (v4 : Nat) (v5 : Int32) (v6 : Int32) (s0 : Int32) (s1 : Int32) (s2 : Int32) (s3 : Nat) (M : Mem) (h : T_L_law_380 κ28 Q g.2.2.2.2.1 g.2.2.2.2.2 v1 v2 v3 v4 v5 v6 s0 s1 s2 s3 M) : WP g 20 mL_law 380 [some (.ref g.2.2.2.1), some (.ref (g.1 + v1)), some (.ref (g.1 + v2)), some (.ref (g.1 + v3)), some (.ref (g.1 + v4)), some (.int v5), some (.int v6), none, none] [.int s0, .int s1, .int s2, .ref (g.1 + s3)] M (kr + 1) (oZ Q noX) := by
  unfold T_L_law_380 at h
  obtain ⟨k1, h⟩ := h
  refine R_callV (pc := 380) (As := [.int s2, .int s1, .int s0]) (rest := []) (c_X7_addRoom (g := g) s3 s2 s1 s0 M _ h) rfl rfl cal_RL_150 ins_X7_addRoom sel_X7_addRoom (cls_at k1 clsOK7) (by decide) (by omega) rfl rfl (Nat.le_of_ble_eq_true rfl) d_L_law_380 (k_I (fun y3 M2 h => ?_)) (fun _ _ h9 => False.elim h9)
  try dsimp only at h
  refine R_istore (pc := 383) (L' := [some (.ref g.2.2.2.1), some (.ref (g.1 + v1)), some (.ref (g.1 + v2)), some (.ref (g.1 + v3)), some (.ref (g.1 + v4)), some (.int v5), some (.int v6), some (.int y3), none]) d_L_law_383 (by decide) rfl ?_
  refine R_aload_n (pc := 385) d_L_law_385 rfl rfl ?_
  obtain ⟨k4, h⟩ := h
  refine R_callV (pc := 386) (As := []) (rest := []) (c_X7_thrown (g := g) v2 M2 _ h) rfl rfl cal_RL_140 ins_X7_thrown sel_X7_thrown (cls_at k4 clsOK7) (by decide) (by omega) rfl rfl (Nat.le_of_ble_eq_true rfl) d_L_law_386 (k_I (fun y6 M5 h => ?_)) (fun _ _ h9 => False.elim h9)
  try dsimp only at h
  refine R_iload (pc := 389) d_L_law_389 rfl ?_
  refine R_icmp_eq (pc := 391) (tgt := 396) d_L_law_391 (by decide) (fun c => ?_) (fun c => ?_)
  · rw [if_pos c] at h
    refine R_iload (pc := 396) d_L_law_396 rfl ?_
    refine R_if_ne (pc := 398) (tgt := 413) d_L_law_398 (by decide) (fun c => ?_) (fun c => ?_)
    · rw [if_neg c] at h
      exact WP_sub (B_L_law_413 Q κ28 hκ28 v1 v2 v3 v4 v5 M5 h) (by omega) (ls_s (ls_s (ls_s (ls_s (ls_s (ls_s (ls_n (ls_n (ls_n ls_0)))))))))
    · rw [if_pos c] at h
      refine R_aload_n (pc := 401) d_L_law_401 rfl rfl ?_
      refine R_iconst (pc := 402) (v := 0) d_L_law_402 (by decide) ?_
      obtain ⟨k7, h⟩ := h
      obtain ⟨k8, h⟩ := h
      refine R_lald (pc := 403) k7 k8 d_L_law_403 ?_
      refine R_iload (pc := 404) d_L_law_404 rfl ?_
      refine R_i2l (pc := 406) d_L_law_406 ?_
      refine R_lcmp (pc := 407) d_L_law_407 ?_
      refine R_if_eq (pc := 408) (tgt := 413) d_L_law_408 (by decide) (fun c => ?_) (fun c => ?_)
      · rw [if_pos c] at h
        exact WP_sub (B_L_law_413 Q κ28 hκ28 v1 v2 v3 v4 v5 M5 h) (by omega) (ls_s (ls_s (ls_s (ls_s (ls_s (ls_s (ls_n (ls_n (ls_n ls_0)))))))))
      · rw [if_neg c] at h
        refine R_iconst (pc := 411) (v := 0) d_L_law_411 (by decide) ?_
        exact R_retv (pc := 412) d_L_law_412 h
  · rw [if_neg c] at h
    refine R_iconst (pc := 394) (v := 0) d_L_law_394 (by decide) ?_
    exact R_retv (pc := 395) d_L_law_395 h
def T_L_law_347 (κ28 : Nat → Nat → Nat → Nat → Int32 → Mem → Prop) (Q : Int32 → Mem → Prop) (sl : Nat) (xs : Nat → Int32) (v1 : Nat) (v2 : Nat) (v3 : Nat) (v4 : Nat) (v5 : Int32) (s0 : Int32) (s1 : Int32) (s2 : Int32) (s3 : Nat) (M : Mem) : Prop := T_L_addRoom (fun y2 M1 => (vp_in (v5 + 1) sl) ∧ (vp_in (v5 + 2) sl) ∧ (vp_in (v5 + 3) sl) ∧ if (xs (Int32.toNatClampNeg (v5 + 3))) = 0 then (T_L_law_380 κ28 Q sl xs v1 v2 v3 v4 v5 y2 0 (xs (Int32.toNatClampNeg (v5 + 2))) (xs (Int32.toNatClampNeg (v5 + 1))) v2 M1) else (T_L_law_380 κ28 Q sl xs v1 v2 v3 v4 v5 y2 1 (xs (Int32.toNatClampNeg (v5 + 2))) (xs (Int32.toNatClampNeg (v5 + 1))) v2 M1))  s3 s2 s1 s0 v3 M
set_option maxRecDepth 100000 in
set_option maxHeartbeats 4000000 in
theorem B_L_law_347 {g : GG} {kr : Nat} (Q : Int32 → Mem → Prop) (κ28 : Nat → Nat → Nat → Nat → Int32 → Mem → Prop) (hκ28 : ∀ (v1 : Nat) (v2 : Nat) (v3 : Nat) (v4 : Nat) (v5 : Int32) (M : Mem), κ28 v1 v2 v3 v4 v5 M → WP g 20 mL_law 28 [some (.ref g.2.2.2.1), some (.ref (g.1 + v1)), some (.ref (g.1 + v2)), some (.ref (g.1 + v3)), some (.ref (g.1 + v4)), some (.int v5), none, none, none] [] M kr (oZ Q noX)) (v1 : Nat) (v2 : Nat) (v3 : Nat) (v4 : Nat) (v5 : Int32) (s0 : Int32) (s1 : Int32) (s2 : Int32) (s3 : Nat) (M : Mem) (h : T_L_law_347 κ28 Q g.2.2.2.2.1 g.2.2.2.2.2 v1 v2 v3 v4 v5 s0 s1 s2 s3 M) : WP g 20 mL_law 347 [some (.ref g.2.2.2.1), some (.ref (g.1 + v1)), some (.ref (g.1 + v2)), some (.ref (g.1 + v3)), some (.ref (g.1 + v4)), some (.int v5), none, none, none] [.int s0, .int s1, .int s2, .ref (g.1 + s3)] M (kr + 2) (oZ Q noX) := by
  unfold T_L_law_347 at h
  refine R_aload_n (pc := 347) d_L_law_347 rfl rfl ?_
  refine R_callSW (pc := 348) (As := [.ref (g.1 + s3), .int s2, .int s1, .int s0, .ref (g.1 + v3)]) (rest := []) (c_L_addRoom (g := g) s3 s2 s1 s0 v3 M _ h) rfl rfl cal_RL_147 sta_L_addRoom (by decide) (by omega) rfl rfl (Nat.le_of_ble_eq_true rfl) d_L_law_348 (k_I (fun y2 M1 h => ?_)) (fun _ _ h9 => False.elim h9)
  try dsimp only at h
  refine R_istore (pc := 351) (L' := [some (.ref g.2.2.2.1), some (.ref (g.1 + v1)), some (.ref (g.1 + v2)), some (.ref (g.1 + v3)), some (.ref (g.1 + v4)), some (.int v5), some (.int y2), none, none]) d_L_law_351 (by decide) rfl ?_
  refine R_aload_n (pc := 353) d_L_law_353 rfl rfl ?_
  refine R_aload_n (pc := 354) d_L_law_354 rfl rfl ?_
  refine R_iload (pc := 355) d_L_law_355 rfl ?_
  refine R_iconst (pc := 357) (v := 1) d_L_law_357 (by decide) ?_
  refine R_iadd (pc := 358) d_L_law_358 ?_
  obtain ⟨k3, h⟩ := h
  refine R_sld (pc := 359) k3 d_L_law_359 ?_
  refine R_aload_n (pc := 360) d_L_law_360 rfl rfl ?_
  refine R_iload (pc := 361) d_L_law_361 rfl ?_
  refine R_iconst (pc := 363) (v := 2) d_L_law_363 (by decide) ?_
  refine R_iadd (pc := 364) d_L_law_364 ?_
  obtain ⟨k4, h⟩ := h
  refine R_sld (pc := 365) k4 d_L_law_365 ?_
  refine R_aload_n (pc := 366) d_L_law_366 rfl rfl ?_
  refine R_iload (pc := 367) d_L_law_367 rfl ?_
  refine R_iconst (pc := 369) (v := 3) d_L_law_369 (by decide) ?_
  refine R_iadd (pc := 370) d_L_law_370 ?_
  obtain ⟨k5, h⟩ := h
  refine R_sld (pc := 371) k5 d_L_law_371 ?_
  refine R_if_eq (pc := 372) (tgt := 379) d_L_law_372 (by decide) (fun c => ?_) (fun c => ?_)
  · rw [if_pos c] at h
    refine R_iconst (pc := 379) (v := 0) d_L_law_379 (by decide) ?_
    exact WP_sub (B_L_law_380 Q κ28 hκ28 v1 v2 v3 v4 v5 y2 0 (xs (Int32.toNatClampNeg (v5 + 2))) (xs (Int32.toNatClampNeg (v5 + 1))) v2 M1 h) (by omega) (ls_s (ls_s (ls_s (ls_s (ls_s (ls_s (ls_s (ls_n (ls_n ls_0)))))))))
  · rw [if_neg c] at h
    refine R_iconst (pc := 375) (v := 1) d_L_law_375 (by decide) ?_
    refine R_goto (pc := 376) (tgt := 380) d_L_law_376 (by decide) ?_
    exact WP_sub (B_L_law_380 Q κ28 hκ28 v1 v2 v3 v4 v5 y2 1 (xs (Int32.toNatClampNeg (v5 + 2))) (xs (Int32.toNatClampNeg (v5 + 1))) v2 M1 h) (by omega) (ls_s (ls_s (ls_s (ls_s (ls_s (ls_s (ls_s (ls_n (ls_n ls_0)))))))))
def T_L_law_320 (κ28 : Nat → Nat → Nat → Nat → Int32 → Mem → Prop) (Q : Int32 → Mem → Prop) (sl : Nat) (xs : Nat → Int32) (v1 : Nat) (v2 : Nat) (v3 : Nat) (v4 : Nat) (v5 : Int32) (M : Mem) : Prop := (vp_in (v5 + 1) sl) ∧ (vp_in (v5 + 2) sl) ∧ (vp_in (v5 + 3) sl) ∧ if (xs (Int32.toNatClampNeg (v5 + 3))) = 0 then (T_L_law_347 κ28 Q sl xs v1 v2 v3 v4 v5 0 (xs (Int32.toNatClampNeg (v5 + 2))) (xs (Int32.toNatClampNeg (v5 + 1))) v1 M) else (T_L_law_347 κ28 Q sl xs v1 v2 v3 v4 v5 1 (xs (Int32.toNatClampNeg (v5 + 2))) (xs (Int32.toNatClampNeg (v5 + 1))) v1 M)
set_option maxRecDepth 100000 in
set_option maxHeartbeats 4000000 in
theorem B_L_law_320 {g : GG} {kr : Nat} (Q : Int32 → Mem → Prop) (κ28 : Nat → Nat → Nat → Nat → Int32 → Mem → Prop) (hκ28 : ∀ (v1 : Nat) (v2 : Nat) (v3 : Nat) (v4 : Nat) (v5 : Int32) (M : Mem), κ28 v1 v2 v3 v4 v5 M → WP g 20 mL_law 28 [some (.ref g.2.2.2.1), some (.ref (g.1 + v1)), some (.ref (g.1 + v2)), some (.ref (g.1 + v3)), some (.ref (g.1 + v4)), some (.int v5), none, none, none] [] M kr (oZ Q noX)) (v1 : Nat) (v2 : Nat) (v3 : Nat) (v4 : Nat) (v5 : Int32) (M : Mem) (h : T_L_law_320 κ28 Q g.2.2.2.2.1 g.2.2.2.2.2 v1 v2 v3 v4 v5 M) : WP g 20 mL_law 320 [some (.ref g.2.2.2.1), some (.ref (g.1 + v1)), some (.ref (g.1 + v2)), some (.ref (g.1 + v3)), some (.ref (g.1 + v4)), some (.int v5), none, none, none] [] M (kr + 2) (oZ Q noX) := by
  unfold T_L_law_320 at h
  refine R_aload_n (pc := 320) d_L_law_320 rfl rfl ?_
  refine R_aload_n (pc := 321) d_L_law_321 rfl rfl ?_
  refine R_iload (pc := 322) d_L_law_322 rfl ?_
  refine R_iconst (pc := 324) (v := 1) d_L_law_324 (by decide) ?_
  refine R_iadd (pc := 325) d_L_law_325 ?_
  obtain ⟨k1, h⟩ := h
  refine R_sld (pc := 326) k1 d_L_law_326 ?_
  refine R_aload_n (pc := 327) d_L_law_327 rfl rfl ?_
  refine R_iload (pc := 328) d_L_law_328 rfl ?_
  refine R_iconst (pc := 330) (v := 2) d_L_law_330 (by decide) ?_
  refine R_iadd (pc := 331) d_L_law_331 ?_
  obtain ⟨k2, h⟩ := h
  refine R_sld (pc := 332) k2 d_L_law_332 ?_
  refine R_aload_n (pc := 333) d_L_law_333 rfl rfl ?_
  refine R_iload (pc := 334) d_L_law_334 rfl ?_
  refine R_iconst (pc := 336) (v := 3) d_L_law_336 (by decide) ?_
  refine R_iadd (pc := 337) d_L_law_337 ?_
  obtain ⟨k3, h⟩ := h
  refine R_sld (pc := 338) k3 d_L_law_338 ?_
  refine R_if_eq (pc := 339) (tgt := 346) d_L_law_339 (by decide) (fun c => ?_) (fun c => ?_)
  · rw [if_pos c] at h
    refine R_iconst (pc := 346) (v := 0) d_L_law_346 (by decide) ?_
    exact WP_sub (B_L_law_347 Q κ28 hκ28 v1 v2 v3 v4 v5 0 (xs (Int32.toNatClampNeg (v5 + 2))) (xs (Int32.toNatClampNeg (v5 + 1))) v1 M h) (by omega) (ls_s (ls_s (ls_s (ls_s (ls_s (ls_s (ls_n (ls_n (ls_n ls_0)))))))))
  · rw [if_neg c] at h
    refine R_iconst (pc := 342) (v := 1) d_L_law_342 (by decide) ?_
    refine R_goto (pc := 343) (tgt := 347) d_L_law_343 (by decide) ?_
    exact WP_sub (B_L_law_347 Q κ28 hκ28 v1 v2 v3 v4 v5 1 (xs (Int32.toNatClampNeg (v5 + 2))) (xs (Int32.toNatClampNeg (v5 + 1))) v1 M h) (by omega) (ls_s (ls_s (ls_s (ls_s (ls_s (ls_s (ls_n (ls_n (ls_n ls_0)))))))))
def T_L_law_317 (κ28 : Nat → Nat → Nat → Nat → Int32 → Mem → Prop) (Q : Int32 → Mem → Prop) (sl : Nat) (xs : Nat → Int32) (v1 : Nat) (v2 : Nat) (v3 : Nat) (v4 : Nat) (v5 : Int32) (M : Mem) : Prop := T_L_law_2534 κ28 Q sl xs v1 v2 v3 v4 v5 M
set_option maxRecDepth 100000 in
set_option maxHeartbeats 4000000 in
theorem B_L_law_317 {g : GG} {kr : Nat} (Q : Int32 → Mem → Prop) (κ28 : Nat → Nat → Nat → Nat → Int32 → Mem → Prop) (hκ28 : ∀ (v1 : Nat) (v2 : Nat) (v3 : Nat) (v4 : Nat) (v5 : Int32) (M : Mem), κ28 v1 v2 v3 v4 v5 M → WP g 20 mL_law 28 [some (.ref g.2.2.2.1), some (.ref (g.1 + v1)), some (.ref (g.1 + v2)), some (.ref (g.1 + v3)), some (.ref (g.1 + v4)), some (.int v5), none, none, none] [] M kr (oZ Q noX)) (v1 : Nat) (v2 : Nat) (v3 : Nat) (v4 : Nat) (v5 : Int32) (M : Mem) (h : T_L_law_317 κ28 Q g.2.2.2.2.1 g.2.2.2.2.2 v1 v2 v3 v4 v5 M) : WP g 20 mL_law 317 [some (.ref g.2.2.2.1), some (.ref (g.1 + v1)), some (.ref (g.1 + v2)), some (.ref (g.1 + v3)), some (.ref (g.1 + v4)), some (.int v5), none, none, none] [] M (kr + 1) (oZ Q noX) := by
  unfold T_L_law_317 at h
  refine R_goto (pc := 317) (tgt := 2534) d_L_law_317 (by decide) ?_
  exact WP_sub (B_L_law_2534 Q κ28 hκ28 v1 v2 v3 v4 v5 M h) (by omega) (ls_s (ls_s (ls_s (ls_s (ls_s (ls_s (ls_n (ls_n (ls_n ls_0)))))))))
def T_L_law_264 (κ28 : Nat → Nat → Nat → Nat → Int32 → Mem → Prop) (Q : Int32 → Mem → Prop) (sl : Nat) (xs : Nat → Int32) (v1 : Nat) (v2 : Nat) (v3 : Nat) (v4 : Nat) (v5 : Int32) (M : Mem) : Prop := (vp_in (v5 + 1) sl) ∧ T_L_addVisitor (fun y3 M2 => (kd v2 = 7) ∧ T_X7_addVisitor (fun y6 M5 => T_X7_thrown (fun y8 M7 => if y8 = y3 then (if y3 = 0 then ((kd v3 = 12) ∧ (vp_in 0 (ln v3)) ∧ if (lg_cmp (M7.2.1 (Int32.toNatClampNeg 0)) (Int32.toInt64 y6)) = 0 then (T_L_law_317 κ28 Q sl xs v1 v2 v3 v4 v5 M7) else (((0 : Int32) = 0 ∨ (0 : Int32) = 1) ∧ Q 0 M7)) else (T_L_law_317 κ28 Q sl xs v1 v2 v3 v4 v5 M7)) else (((0 : Int32) = 0 ∨ (0 : Int32) = 1) ∧ Q 0 M7))  v2 M5)  v2 (xs (Int32.toNatClampNeg (v5 + 1))) M2)  v1 (xs (Int32.toNatClampNeg (v5 + 1))) v3 M
set_option maxRecDepth 100000 in
set_option maxHeartbeats 4000000 in
theorem B_L_law_264 {g : GG} {kr : Nat} (Q : Int32 → Mem → Prop) (κ28 : Nat → Nat → Nat → Nat → Int32 → Mem → Prop) (hκ28 : ∀ (v1 : Nat) (v2 : Nat) (v3 : Nat) (v4 : Nat) (v5 : Int32) (M : Mem), κ28 v1 v2 v3 v4 v5 M → WP g 20 mL_law 28 [some (.ref g.2.2.2.1), some (.ref (g.1 + v1)), some (.ref (g.1 + v2)), some (.ref (g.1 + v3)), some (.ref (g.1 + v4)), some (.int v5), none, none, none] [] M kr (oZ Q noX)) (v1 : Nat) (v2 : Nat) (v3 : Nat) (v4 : Nat) (v5 : Int32) (M : Mem) (h : T_L_law_264 κ28 Q g.2.2.2.2.1 g.2.2.2.2.2 v1 v2 v3 v4 v5 M) : WP g 20 mL_law 264 [some (.ref g.2.2.2.1), some (.ref (g.1 + v1)), some (.ref (g.1 + v2)), some (.ref (g.1 + v3)), some (.ref (g.1 + v4)), some (.int v5), none, none, none] [] M (kr + 2) (oZ Q noX) := by
  unfold T_L_law_264 at h
  refine R_aload_n (pc := 264) d_L_law_264 rfl rfl ?_
  refine R_aload_n (pc := 265) d_L_law_265 rfl rfl ?_
  refine R_iload (pc := 266) d_L_law_266 rfl ?_
  refine R_iconst (pc := 268) (v := 1) d_L_law_268 (by decide) ?_
  refine R_iadd (pc := 269) d_L_law_269 ?_
  obtain ⟨k1, h⟩ := h
  refine R_sld (pc := 270) k1 d_L_law_270 ?_
  refine R_aload_n (pc := 271) d_L_law_271 rfl rfl ?_
  refine R_callSW (pc := 272) (As := [.ref (g.1 + v1), .int (xs (Int32.toNatClampNeg (v5 + 1))), .ref (g.1 + v3)]) (rest := []) (c_L_addVisitor (g := g) v1 (xs (Int32.toNatClampNeg (v5 + 1))) v3 M _ h) rfl rfl cal_RL_143 sta_L_addVisitor (by decide) (by omega) rfl rfl (Nat.le_of_ble_eq_true rfl) d_L_law_272 (k_I (fun y3 M2 h => ?_)) (fun _ _ h9 => False.elim h9)
  try dsimp only at h
  refine R_istore (pc := 275) (L' := [some (.ref g.2.2.2.1), some (.ref (g.1 + v1)), some (.ref (g.1 + v2)), some (.ref (g.1 + v3)), some (.ref (g.1 + v4)), some (.int v5), some (.int y3), none, none]) d_L_law_275 (by decide) rfl ?_
  refine R_aload_n (pc := 277) d_L_law_277 rfl rfl ?_
  refine R_aload_n (pc := 278) d_L_law_278 rfl rfl ?_
  refine R_iload (pc := 279) d_L_law_279 rfl ?_
  refine R_iconst (pc := 281) (v := 1) d_L_law_281 (by decide) ?_
  refine R_iadd (pc := 282) d_L_law_282 ?_
  refine R_sld (pc := 283) k1 d_L_law_283 ?_
  obtain ⟨k4, h⟩ := h
  refine R_callV (pc := 284) (As := [.int (xs (Int32.toNatClampNeg (v5 + 1)))]) (rest := []) (c_X7_addVisitor (g := g) v2 (xs (Int32.toNatClampNeg (v5 + 1))) M2 _ h) rfl rfl cal_RL_146 ins_X7_addVisitor sel_X7_addVisitor (cls_at k4 clsOK7) (by decide) (by omega) rfl rfl (Nat.le_of_ble_eq_true rfl) d_L_law_284 (k_I (fun y6 M5 h => ?_)) (fun _ _ h9 => False.elim h9)
  try dsimp only at h
  refine R_istore (pc := 287) (L' := [some (.ref g.2.2.2.1), some (.ref (g.1 + v1)), some (.ref (g.1 + v2)), some (.ref (g.1 + v3)), some (.ref (g.1 + v4)), some (.int v5), some (.int y3), some (.int y6), none]) d_L_law_287 (by decide) rfl ?_
  refine R_aload_n (pc := 289) d_L_law_289 rfl rfl ?_
  refine R_callV (pc := 290) (As := []) (rest := []) (c_X7_thrown (g := g) v2 M5 _ h) rfl rfl cal_RL_140 ins_X7_thrown sel_X7_thrown (cls_at k4 clsOK7) (by decide) (by omega) rfl rfl (Nat.le_of_ble_eq_true rfl) d_L_law_290 (k_I (fun y8 M7 h => ?_)) (fun _ _ h9 => False.elim h9)
  try dsimp only at h
  refine R_iload (pc := 293) d_L_law_293 rfl ?_
  refine R_icmp_eq (pc := 295) (tgt := 300) d_L_law_295 (by decide) (fun c => ?_) (fun c => ?_)
  · rw [if_pos c] at h
    refine R_iload (pc := 300) d_L_law_300 rfl ?_
    refine R_if_ne (pc := 302) (tgt := 317) d_L_law_302 (by decide) (fun c => ?_) (fun c => ?_)
    · rw [if_neg c] at h
      exact WP_sub (B_L_law_317 Q κ28 hκ28 v1 v2 v3 v4 v5 M7 h) (by omega) (ls_s (ls_s (ls_s (ls_s (ls_s (ls_s (ls_n (ls_n (ls_n ls_0)))))))))
    · rw [if_pos c] at h
      refine R_aload_n (pc := 305) d_L_law_305 rfl rfl ?_
      refine R_iconst (pc := 306) (v := 0) d_L_law_306 (by decide) ?_
      obtain ⟨k9, h⟩ := h
      obtain ⟨k10, h⟩ := h
      refine R_lald (pc := 307) k9 k10 d_L_law_307 ?_
      refine R_iload (pc := 308) d_L_law_308 rfl ?_
      refine R_i2l (pc := 310) d_L_law_310 ?_
      refine R_lcmp (pc := 311) d_L_law_311 ?_
      refine R_if_eq (pc := 312) (tgt := 317) d_L_law_312 (by decide) (fun c => ?_) (fun c => ?_)
      · rw [if_pos c] at h
        exact WP_sub (B_L_law_317 Q κ28 hκ28 v1 v2 v3 v4 v5 M7 h) (by omega) (ls_s (ls_s (ls_s (ls_s (ls_s (ls_s (ls_n (ls_n (ls_n ls_0)))))))))
      · rw [if_neg c] at h
        refine R_iconst (pc := 315) (v := 0) d_L_law_315 (by decide) ?_
        exact R_retv (pc := 316) d_L_law_316 h
  · rw [if_neg c] at h
    refine R_iconst (pc := 298) (v := 0) d_L_law_298 (by decide) ?_
    exact R_retv (pc := 299) d_L_law_299 h
def T_L_law_261 (κ28 : Nat → Nat → Nat → Nat → Int32 → Mem → Prop) (Q : Int32 → Mem → Prop) (sl : Nat) (xs : Nat → Int32) (v1 : Nat) (v2 : Nat) (v3 : Nat) (v4 : Nat) (v5 : Int32) (M : Mem) : Prop := T_L_law_2534 κ28 Q sl xs v1 v2 v3 v4 v5 M
set_option maxRecDepth 100000 in
set_option maxHeartbeats 4000000 in
theorem B_L_law_261 {g : GG} {kr : Nat} (Q : Int32 → Mem → Prop) (κ28 : Nat → Nat → Nat → Nat → Int32 → Mem → Prop) (hκ28 : ∀ (v1 : Nat) (v2 : Nat) (v3 : Nat) (v4 : Nat) (v5 : Int32) (M : Mem), κ28 v1 v2 v3 v4 v5 M → WP g 20 mL_law 28 [some (.ref g.2.2.2.1), some (.ref (g.1 + v1)), some (.ref (g.1 + v2)), some (.ref (g.1 + v3)), some (.ref (g.1 + v4)), some (.int v5), none, none, none] [] M kr (oZ Q noX)) (v1 : Nat) (v2 : Nat) (v3 : Nat) (v4 : Nat) (v5 : Int32) (M : Mem) (h : T_L_law_261 κ28 Q g.2.2.2.2.1 g.2.2.2.2.2 v1 v2 v3 v4 v5 M) : WP g 20 mL_law 261 [some (.ref g.2.2.2.1), some (.ref (g.1 + v1)), some (.ref (g.1 + v2)), some (.ref (g.1 + v3)), some (.ref (g.1 + v4)), some (.int v5), none, none, none] [] M (kr + 1) (oZ Q noX) := by
  unfold T_L_law_261 at h
  refine R_goto (pc := 261) (tgt := 2534) d_L_law_261 (by decide) ?_
  exact WP_sub (B_L_law_2534 Q κ28 hκ28 v1 v2 v3 v4 v5 M h) (by omega) (ls_s (ls_s (ls_s (ls_s (ls_s (ls_s (ls_n (ls_n (ls_n ls_0)))))))))
def T_L_law_196 (κ28 : Nat → Nat → Nat → Nat → Int32 → Mem → Prop) (Q : Int32 → Mem → Prop) (sl : Nat) (xs : Nat → Int32) (v1 : Nat) (v2 : Nat) (v3 : Nat) (v4 : Nat) (v5 : Int32) (M : Mem) : Prop := (vp_in (v5 + 1) sl) ∧ (vp_in (v5 + 2) sl) ∧ T_L_addInmate (fun y4 M3 => (kd v2 = 7) ∧ T_X7_addInmate (fun y7 M6 => T_X7_thrown (fun y9 M8 => if y9 = y4 then (if y4 = 0 then ((kd v3 = 12) ∧ (vp_in 0 (ln v3)) ∧ if (lg_cmp (M8.2.1 (Int32.toNatClampNeg 0)) (Int32.toInt64 y7)) = 0 then (T_L_law_261 κ28 Q sl xs v1 v2 v3 v4 v5 M8) else (((0 : Int32) = 0 ∨ (0 : Int32) = 1) ∧ Q 0 M8)) else (T_L_law_261 κ28 Q sl xs v1 v2 v3 v4 v5 M8)) else (((0 : Int32) = 0 ∨ (0 : Int32) = 1) ∧ Q 0 M8))  v2 M6)  v2 (xs (Int32.toNatClampNeg (v5 + 1))) (xs (Int32.toNatClampNeg (v5 + 2))) M3)  v1 (xs (Int32.toNatClampNeg (v5 + 1))) (xs (Int32.toNatClampNeg (v5 + 2))) v3 M
set_option maxRecDepth 100000 in
set_option maxHeartbeats 4000000 in
theorem B_L_law_196 {g : GG} {kr : Nat} (Q : Int32 → Mem → Prop) (κ28 : Nat → Nat → Nat → Nat → Int32 → Mem → Prop) (hκ28 : ∀ (v1 : Nat) (v2 : Nat) (v3 : Nat) (v4 : Nat) (v5 : Int32) (M : Mem), κ28 v1 v2 v3 v4 v5 M → WP g 20 mL_law 28 [some (.ref g.2.2.2.1), some (.ref (g.1 + v1)), some (.ref (g.1 + v2)), some (.ref (g.1 + v3)), some (.ref (g.1 + v4)), some (.int v5), none, none, none] [] M kr (oZ Q noX)) (v1 : Nat) (v2 : Nat) (v3 : Nat) (v4 : Nat) (v5 : Int32) (M : Mem) (h : T_L_law_196 κ28 Q g.2.2.2.2.1 g.2.2.2.2.2 v1 v2 v3 v4 v5 M) : WP g 20 mL_law 196 [some (.ref g.2.2.2.1), some (.ref (g.1 + v1)), some (.ref (g.1 + v2)), some (.ref (g.1 + v3)), some (.ref (g.1 + v4)), some (.int v5), none, none, none] [] M (kr + 2) (oZ Q noX) := by
  unfold T_L_law_196 at h
  refine R_aload_n (pc := 196) d_L_law_196 rfl rfl ?_
  refine R_aload_n (pc := 197) d_L_law_197 rfl rfl ?_
  refine R_iload (pc := 198) d_L_law_198 rfl ?_
  refine R_iconst (pc := 200) (v := 1) d_L_law_200 (by decide) ?_
  refine R_iadd (pc := 201) d_L_law_201 ?_
  obtain ⟨k1, h⟩ := h
  refine R_sld (pc := 202) k1 d_L_law_202 ?_
  refine R_aload_n (pc := 203) d_L_law_203 rfl rfl ?_
  refine R_iload (pc := 204) d_L_law_204 rfl ?_
  refine R_iconst (pc := 206) (v := 2) d_L_law_206 (by decide) ?_
  refine R_iadd (pc := 207) d_L_law_207 ?_
  obtain ⟨k2, h⟩ := h
  refine R_sld (pc := 208) k2 d_L_law_208 ?_
  refine R_aload_n (pc := 209) d_L_law_209 rfl rfl ?_
  refine R_callSW (pc := 210) (As := [.ref (g.1 + v1), .int (xs (Int32.toNatClampNeg (v5 + 1))), .int (xs (Int32.toNatClampNeg (v5 + 2))), .ref (g.1 + v3)]) (rest := []) (c_L_addInmate (g := g) v1 (xs (Int32.toNatClampNeg (v5 + 1))) (xs (Int32.toNatClampNeg (v5 + 2))) v3 M _ h) rfl rfl cal_RL_134 sta_L_addInmate (by decide) (by omega) rfl rfl (Nat.le_of_ble_eq_true rfl) d_L_law_210 (k_I (fun y4 M3 h => ?_)) (fun _ _ h9 => False.elim h9)
  try dsimp only at h
  refine R_istore (pc := 213) (L' := [some (.ref g.2.2.2.1), some (.ref (g.1 + v1)), some (.ref (g.1 + v2)), some (.ref (g.1 + v3)), some (.ref (g.1 + v4)), some (.int v5), some (.int y4), none, none]) d_L_law_213 (by decide) rfl ?_
  refine R_aload_n (pc := 215) d_L_law_215 rfl rfl ?_
  refine R_aload_n (pc := 216) d_L_law_216 rfl rfl ?_
  refine R_iload (pc := 217) d_L_law_217 rfl ?_
  refine R_iconst (pc := 219) (v := 1) d_L_law_219 (by decide) ?_
  refine R_iadd (pc := 220) d_L_law_220 ?_
  refine R_sld (pc := 221) k1 d_L_law_221 ?_
  refine R_aload_n (pc := 222) d_L_law_222 rfl rfl ?_
  refine R_iload (pc := 223) d_L_law_223 rfl ?_
  refine R_iconst (pc := 225) (v := 2) d_L_law_225 (by decide) ?_
  refine R_iadd (pc := 226) d_L_law_226 ?_
  refine R_sld (pc := 227) k2 d_L_law_227 ?_
  obtain ⟨k5, h⟩ := h
  refine R_callV (pc := 228) (As := [.int (xs (Int32.toNatClampNeg (v5 + 1))), .int (xs (Int32.toNatClampNeg (v5 + 2)))]) (rest := []) (c_X7_addInmate (g := g) v2 (xs (Int32.toNatClampNeg (v5 + 1))) (xs (Int32.toNatClampNeg (v5 + 2))) M3 _ h) rfl rfl cal_RL_139 ins_X7_addInmate sel_X7_addInmate (cls_at k5 clsOK7) (by decide) (by omega) rfl rfl (Nat.le_of_ble_eq_true rfl) d_L_law_228 (k_I (fun y7 M6 h => ?_)) (fun _ _ h9 => False.elim h9)
  try dsimp only at h
  refine R_istore (pc := 231) (L' := [some (.ref g.2.2.2.1), some (.ref (g.1 + v1)), some (.ref (g.1 + v2)), some (.ref (g.1 + v3)), some (.ref (g.1 + v4)), some (.int v5), some (.int y4), some (.int y7), none]) d_L_law_231 (by decide) rfl ?_
  refine R_aload_n (pc := 233) d_L_law_233 rfl rfl ?_
  refine R_callV (pc := 234) (As := []) (rest := []) (c_X7_thrown (g := g) v2 M6 _ h) rfl rfl cal_RL_140 ins_X7_thrown sel_X7_thrown (cls_at k5 clsOK7) (by decide) (by omega) rfl rfl (Nat.le_of_ble_eq_true rfl) d_L_law_234 (k_I (fun y9 M8 h => ?_)) (fun _ _ h9 => False.elim h9)
  try dsimp only at h
  refine R_iload (pc := 237) d_L_law_237 rfl ?_
  refine R_icmp_eq (pc := 239) (tgt := 244) d_L_law_239 (by decide) (fun c => ?_) (fun c => ?_)
  · rw [if_pos c] at h
    refine R_iload (pc := 244) d_L_law_244 rfl ?_
    refine R_if_ne (pc := 246) (tgt := 261) d_L_law_246 (by decide) (fun c => ?_) (fun c => ?_)
    · rw [if_neg c] at h
      exact WP_sub (B_L_law_261 Q κ28 hκ28 v1 v2 v3 v4 v5 M8 h) (by omega) (ls_s (ls_s (ls_s (ls_s (ls_s (ls_s (ls_n (ls_n (ls_n ls_0)))))))))
    · rw [if_pos c] at h
      refine R_aload_n (pc := 249) d_L_law_249 rfl rfl ?_
      refine R_iconst (pc := 250) (v := 0) d_L_law_250 (by decide) ?_
      obtain ⟨k10, h⟩ := h
      obtain ⟨k11, h⟩ := h
      refine R_lald (pc := 251) k10 k11 d_L_law_251 ?_
      refine R_iload (pc := 252) d_L_law_252 rfl ?_
      refine R_i2l (pc := 254) d_L_law_254 ?_
      refine R_lcmp (pc := 255) d_L_law_255 ?_
      refine R_if_eq (pc := 256) (tgt := 261) d_L_law_256 (by decide) (fun c => ?_) (fun c => ?_)
      · rw [if_pos c] at h
        exact WP_sub (B_L_law_261 Q κ28 hκ28 v1 v2 v3 v4 v5 M8 h) (by omega) (ls_s (ls_s (ls_s (ls_s (ls_s (ls_s (ls_n (ls_n (ls_n ls_0)))))))))
      · rw [if_neg c] at h
        refine R_iconst (pc := 259) (v := 0) d_L_law_259 (by decide) ?_
        exact R_retv (pc := 260) d_L_law_260 h
  · rw [if_neg c] at h
    refine R_iconst (pc := 242) (v := 0) d_L_law_242 (by decide) ?_
    exact R_retv (pc := 243) d_L_law_243 h
def T_L_law_28 (κ28 : Nat → Nat → Nat → Nat → Int32 → Mem → Prop) (Q : Int32 → Mem → Prop) (sl : Nat) (xs : Nat → Int32) (v1 : Nat) (v2 : Nat) (v3 : Nat) (v4 : Nat) (v5 : Int32) (M : Mem) : Prop := if ((Int32.ofNat sl) - 6) < v5 then (((1 : Int32) = 0 ∨ (1 : Int32) = 1) ∧ Q 1 M) else ((vp_in v5 sl) ∧ ∀ x2 : Int32, x2 = (xs (Int32.toNatClampNeg v5)) &&& 63 → if x2 = 0 then (T_L_law_196 κ28 Q sl xs v1 v2 v3 v4 v5 M) else if x2 = 1 then (T_L_law_264 κ28 Q sl xs v1 v2 v3 v4 v5 M) else if x2 = 2 then (T_L_law_320 κ28 Q sl xs v1 v2 v3 v4 v5 M) else if x2 = 3 then (T_L_law_416 κ28 Q sl xs v1 v2 v3 v4 v5 M) else if x2 = 4 then (T_L_law_500 κ28 Q sl xs v1 v2 v3 v4 v5 M) else if x2 = 5 then (T_L_law_568 κ28 Q sl xs v1 v2 v3 v4 v5 M) else if x2 = 6 then (T_L_law_636 κ28 Q sl xs v1 v2 v3 v4 v5 M) else if x2 = 7 then (T_L_law_720 κ28 Q sl xs v1 v2 v3 v4 v5 M) else if x2 = 8 then (T_L_law_788 κ28 Q sl xs v1 v2 v3 v4 v5 M) else if x2 = 9 then (T_L_law_856 κ28 Q sl xs v1 v2 v3 v4 v5 M) else if x2 = 10 then (T_L_law_924 κ28 Q sl xs v1 v2 v3 v4 v5 M) else if x2 = 11 then (T_L_law_992 κ28 Q sl xs v1 v2 v3 v4 v5 M) else if x2 = 12 then (T_L_law_1084 κ28 Q sl xs v1 v2 v3 v4 v5 M) else if x2 = 13 then (T_L_law_1140 κ28 Q sl xs v1 v2 v3 v4 v5 M) else if x2 = 14 then (T_L_law_1232 κ28 Q sl xs v1 v2 v3 v4 v5 M) else if x2 = 15 then (T_L_law_1300 κ28 Q sl xs v1 v2 v3 v4 v5 M) else if x2 = 16 then (T_L_law_1368 κ28 Q sl xs v1 v2 v3 v4 v5 M) else if x2 = 17 then (T_L_law_1424 κ28 Q sl xs v1 v2 v3 v4 v5 M) else if x2 = 18 then (T_L_law_1520 κ28 Q sl xs v1 v2 v3 v4 v5 M) else if x2 = 19 then (T_L_law_1576 κ28 Q sl xs v1 v2 v3 v4 v5 M) else if x2 = 20 then (T_L_law_1680 κ28 Q sl xs v1 v2 v3 v4 v5 M) else if x2 = 21 then (T_L_law_1736 κ28 Q sl xs v1 v2 v3 v4 v5 M) else if x2 = 22 then (T_L_law_1804 κ28 Q sl xs v1 v2 v3 v4 v5 M) else if x2 = 23 then (T_L_law_1896 κ28 Q sl xs v1 v2 v3 v4 v5 M) else if x2 = 24 then (T_L_law_1964 κ28 Q sl xs v1 v2 v3 v4 v5 M) else if x2 = 25 then (T_L_law_2048 κ28 Q sl xs v1 v2 v3 v4 v5 M) else if x2 = 26 then (T_L_law_2132 κ28 Q sl xs v1 v2 v3 v4 v5 M) else if x2 = 27 then (T_L_law_2188 κ28 Q sl xs v1 v2 v3 v4 v5 M) else if x2 = 28 then (T_L_law_2253 κ28 Q sl xs v1 v2 v3 v4 v5 M) else if x2 = 29 then (T_L_law_2331 κ28 Q sl xs v1 v2 v3 v4 v5 M) else if x2 = 30 then (T_L_law_2389 κ28 Q sl xs v1 v2 v3 v4 v5 M) else if x2 = 31 then (T_L_law_2433 κ28 Q sl xs v1 v2 v3 v4 v5 M) else if x2 = 32 then (T_L_law_2477 κ28 Q sl xs v1 v2 v3 v4 v5 M) else if x2 = 33 then (T_L_law_2490 κ28 Q sl xs v1 v2 v3 v4 v5 M) else (T_L_law_2534 κ28 Q sl xs v1 v2 v3 v4 v5 M))
set_option maxRecDepth 100000 in
set_option maxHeartbeats 4000000 in
theorem B_L_law_28 {g : GG} {kr : Nat} (Q : Int32 → Mem → Prop) (κ28 : Nat → Nat → Nat → Nat → Int32 → Mem → Prop) (hκ28 : ∀ (v1 : Nat) (v2 : Nat) (v3 : Nat) (v4 : Nat) (v5 : Int32) (M : Mem), κ28 v1 v2 v3 v4 v5 M → WP g 20 mL_law 28 [some (.ref g.2.2.2.1), some (.ref (g.1 + v1)), some (.ref (g.1 + v2)), some (.ref (g.1 + v3)), some (.ref (g.1 + v4)), some (.int v5), none, none, none] [] M kr (oZ Q noX)) (v1 : Nat) (v2 : Nat) (v3 : Nat) (v4 : Nat) (v5 : Int32) (M : Mem) (h : T_L_law_28 κ28 Q g.2.2.2.2.1 g.2.2.2.2.2 v1 v2 v3 v4 v5 M) : WP g 20 mL_law 28 [some (.ref g.2.2.2.1), some (.ref (g.1 + v1)), some (.ref (g.1 + v2)), some (.ref (g.1 + v3)), some (.ref (g.1 + v4)), some (.int v5), none, none, none] [] M (kr + 2) (oZ Q noX) := by
  unfold T_L_law_28 at h
  refine R_iload (pc := 28) d_L_law_28 rfl ?_
  refine R_aload_n (pc := 30) d_L_law_30 rfl rfl ?_
  refine R_slen (pc := 31) d_L_law_31 ?_
  refine R_bipush (pc := 32) (v := 6) d_L_law_32 (by decide) ?_
  refine R_isub (pc := 34) d_L_law_34 ?_
  refine R_icmp_gt (pc := 35) (tgt := 2540) d_L_law_35 (by decide) (fun c => ?_) (fun c => ?_)
  · rw [if_pos c] at h
    refine R_iconst (pc := 2540) (v := 1) d_L_law_2540 (by decide) ?_
    exact R_retv (pc := 2541) d_L_law_2541 h
  · rw [if_neg c] at h
    refine R_aload_n (pc := 38) d_L_law_38 rfl rfl ?_
    refine R_iload (pc := 39) d_L_law_39 rfl ?_
    obtain ⟨k1, h⟩ := h
    refine R_sld (pc := 41) k1 d_L_law_41 ?_
    refine R_bipush (pc := 42) (v := 63) d_L_law_42 (by decide) ?_
    refine R_iand (pc := 44) d_L_law_44 ?_
    refine N_i (fun x2 ex2 => ?_)
    have h := h x2 ex2
    by_cases c0 : x2 = 0
    · rw [if_pos c0] at h
      rw [c0]
      refine R_tsIn (pc := 45) (off := 151) (tgt := 196) d_L_law_45 (by decide) (by decide) (by decide) (by decide) ?_
      exact WP_sub (B_L_law_196 Q κ28 hκ28 v1 v2 v3 v4 v5 M h) (by omega) (ls_s (ls_s (ls_s (ls_s (ls_s (ls_s (ls_n (ls_n (ls_n ls_0)))))))))
    rw [if_neg c0] at h
    by_cases c1 : x2 = 1
    · rw [if_pos c1] at h
      rw [c1]
      refine R_tsIn (pc := 45) (off := 219) (tgt := 264) d_L_law_45 (by decide) (by decide) (by decide) (by decide) ?_
      exact WP_sub (B_L_law_264 Q κ28 hκ28 v1 v2 v3 v4 v5 M h) (by omega) (ls_s (ls_s (ls_s (ls_s (ls_s (ls_s (ls_n (ls_n (ls_n ls_0)))))))))
    rw [if_neg c1] at h
    by_cases c2 : x2 = 2
    · rw [if_pos c2] at h
      rw [c2]
      refine R_tsIn (pc := 45) (off := 275) (tgt := 320) d_L_law_45 (by decide) (by decide) (by decide) (by decide) ?_
      exact WP_sub (B_L_law_320 Q κ28 hκ28 v1 v2 v3 v4 v5 M h) (by omega) (ls_s (ls_s (ls_s (ls_s (ls_s (ls_s (ls_n (ls_n (ls_n ls_0)))))))))
    rw [if_neg c2] at h
    by_cases c3 : x2 = 3
    · rw [if_pos c3] at h
      rw [c3]
      refine R_tsIn (pc := 45) (off := 371) (tgt := 416) d_L_law_45 (by decide) (by decide) (by decide) (by decide) ?_
      exact WP_sub (B_L_law_416 Q κ28 hκ28 v1 v2 v3 v4 v5 M h) (by omega) (ls_s (ls_s (ls_s (ls_s (ls_s (ls_s (ls_n (ls_n (ls_n ls_0)))))))))
    rw [if_neg c3] at h
    by_cases c4 : x2 = 4
    · rw [if_pos c4] at h
      rw [c4]
      refine R_tsIn (pc := 45) (off := 455) (tgt := 500) d_L_law_45 (by decide) (by decide) (by decide) (by decide) ?_
      exact WP_sub (B_L_law_500 Q κ28 hκ28 v1 v2 v3 v4 v5 M h) (by omega) (ls_s (ls_s (ls_s (ls_s (ls_s (ls_s (ls_n (ls_n (ls_n ls_0)))))))))
    rw [if_neg c4] at h
    by_cases c5 : x2 = 5
    · rw [if_pos c5] at h
      rw [c5]
      refine R_tsIn (pc := 45) (off := 523) (tgt := 568) d_L_law_45 (by decide) (by decide) (by decide) (by decide) ?_
      exact WP_sub (B_L_law_568 Q κ28 hκ28 v1 v2 v3 v4 v5 M h) (by omega) (ls_s (ls_s (ls_s (ls_s (ls_s (ls_s (ls_n (ls_n (ls_n ls_0)))))))))
    rw [if_neg c5] at h
    by_cases c6 : x2 = 6
    · rw [if_pos c6] at h
      rw [c6]
      refine R_tsIn (pc := 45) (off := 591) (tgt := 636) d_L_law_45 (by decide) (by decide) (by decide) (by decide) ?_
      exact WP_sub (B_L_law_636 Q κ28 hκ28 v1 v2 v3 v4 v5 M h) (by omega) (ls_s (ls_s (ls_s (ls_s (ls_s (ls_s (ls_n (ls_n (ls_n ls_0)))))))))
    rw [if_neg c6] at h
    by_cases c7 : x2 = 7
    · rw [if_pos c7] at h
      rw [c7]
      refine R_tsIn (pc := 45) (off := 675) (tgt := 720) d_L_law_45 (by decide) (by decide) (by decide) (by decide) ?_
      exact WP_sub (B_L_law_720 Q κ28 hκ28 v1 v2 v3 v4 v5 M h) (by omega) (ls_s (ls_s (ls_s (ls_s (ls_s (ls_s (ls_n (ls_n (ls_n ls_0)))))))))
    rw [if_neg c7] at h
    by_cases c8 : x2 = 8
    · rw [if_pos c8] at h
      rw [c8]
      refine R_tsIn (pc := 45) (off := 743) (tgt := 788) d_L_law_45 (by decide) (by decide) (by decide) (by decide) ?_
      exact WP_sub (B_L_law_788 Q κ28 hκ28 v1 v2 v3 v4 v5 M h) (by omega) (ls_s (ls_s (ls_s (ls_s (ls_s (ls_s (ls_n (ls_n (ls_n ls_0)))))))))
    rw [if_neg c8] at h
    by_cases c9 : x2 = 9
    · rw [if_pos c9] at h
      rw [c9]
      refine R_tsIn (pc := 45) (off := 811) (tgt := 856) d_L_law_45 (by decide) (by decide) (by decide) (by decide) ?_
      exact WP_sub (B_L_law_856 Q κ28 hκ28 v1 v2 v3 v4 v5 M h) (by omega) (ls_s (ls_s (ls_s (ls_s (ls_s (ls_s (ls_n (ls_n (ls_n ls_0)))))))))
    rw [if_neg c9] at h
    by_cases c10 : x2 = 10
    · rw [if_pos c10] at h
      rw [c10]
      refine R_tsIn (pc := 45) (off := 879) (tgt := 924) d_L_law_45 (by decide) (by decide) (by decide) (by decide) ?_
      exact WP_sub (B_L_law_924 Q κ28 hκ28 v1 v2 v3 v4 v5 M h) (by omega) (ls_s (ls_s (ls_s (ls_s (ls_s (ls_s (ls_n (ls_n (ls_n ls_0)))))))))
    rw [if_neg c10] at h
    by_cases c11 : x2 = 11
    · rw [if_pos c11] at h
      rw [c11]
      refine R_tsIn (pc := 45) (off := 947) (tgt := 992) d_L_law_45 (by decide) (by decide) (by decide) (by decide) ?_
      exact WP_sub (B_L_law_992 Q κ28 hκ28 v1 v2 v3 v4 v5 M h) (by omega) (ls_s (ls_s (ls_s (ls_s (ls_s (ls_s (ls_n (ls_n (ls_n ls_0)))))))))
    rw [if_neg c11] at h
    by_cases c12 : x2 = 12
    · rw [if_pos c12] at h
      rw [c12]
      refine R_tsIn (pc := 45) (off := 1039) (tgt := 1084) d_L_law_45 (by decide) (by decide) (by decide) (by decide) ?_
      exact WP_sub (B_L_law_1084 Q κ28 hκ28 v1 v2 v3 v4 v5 M h) (by omega) (ls_s (ls_s (ls_s (ls_s (ls_s (ls_s (ls_n (ls_n (ls_n ls_0)))))))))
    rw [if_neg c12] at h
    by_cases c13 : x2 = 13
    · rw [if_pos c13] at h
      rw [c13]
      refine R_tsIn (pc := 45) (off := 1095) (tgt := 1140) d_L_law_45 (by decide) (by decide) (by decide) (by decide) ?_
      exact WP_sub (B_L_law_1140 Q κ28 hκ28 v1 v2 v3 v4 v5 M h) (by omega) (ls_s (ls_s (ls_s (ls_s (ls_s (ls_s (ls_n (ls_n (ls_n ls_0)))))))))
    rw [if_neg c13] at h
    by_cases c14 : x2 = 14
    · rw [if_pos c14] at h
      rw [c14]
      refine R_tsIn (pc := 45) (off := 1187) (tgt := 1232) d_L_law_45 (by decide) (by decide) (by decide) (by decide) ?_
      exact WP_sub (B_L_law_1232 Q κ28 hκ28 v1 v2 v3 v4 v5 M h) (by omega) (ls_s (ls_s (ls_s (ls_s (ls_s (ls_s (ls_n (ls_n (ls_n ls_0)))))))))
    rw [if_neg c14] at h
    by_cases c15 : x2 = 15
    · rw [if_pos c15] at h
      rw [c15]
      refine R_tsIn (pc := 45) (off := 1255) (tgt := 1300) d_L_law_45 (by decide) (by decide) (by decide) (by decide) ?_
      exact WP_sub (B_L_law_1300 Q κ28 hκ28 v1 v2 v3 v4 v5 M h) (by omega) (ls_s (ls_s (ls_s (ls_s (ls_s (ls_s (ls_n (ls_n (ls_n ls_0)))))))))
    rw [if_neg c15] at h
    by_cases c16 : x2 = 16
    · rw [if_pos c16] at h
      rw [c16]
      refine R_tsIn (pc := 45) (off := 1323) (tgt := 1368) d_L_law_45 (by decide) (by decide) (by decide) (by decide) ?_
      exact WP_sub (B_L_law_1368 Q κ28 hκ28 v1 v2 v3 v4 v5 M h) (by omega) (ls_s (ls_s (ls_s (ls_s (ls_s (ls_s (ls_n (ls_n (ls_n ls_0)))))))))
    rw [if_neg c16] at h
    by_cases c17 : x2 = 17
    · rw [if_pos c17] at h
      rw [c17]
      refine R_tsIn (pc := 45) (off := 1379) (tgt := 1424) d_L_law_45 (by decide) (by decide) (by decide) (by decide) ?_
      exact WP_sub (B_L_law_1424 Q κ28 hκ28 v1 v2 v3 v4 v5 M h) (by omega) (ls_s (ls_s (ls_s (ls_s (ls_s (ls_s (ls_n (ls_n (ls_n ls_0)))))))))
    rw [if_neg c17] at h
    by_cases c18 : x2 = 18
    · rw [if_pos c18] at h
      rw [c18]
      refine R_tsIn (pc := 45) (off := 1475) (tgt := 1520) d_L_law_45 (by decide) (by decide) (by decide) (by decide) ?_
      exact WP_sub (B_L_law_1520 Q κ28 hκ28 v1 v2 v3 v4 v5 M h) (by omega) (ls_s (ls_s (ls_s (ls_s (ls_s (ls_s (ls_n (ls_n (ls_n ls_0)))))))))
    rw [if_neg c18] at h
    by_cases c19 : x2 = 19
    · rw [if_pos c19] at h
      rw [c19]
      refine R_tsIn (pc := 45) (off := 1531) (tgt := 1576) d_L_law_45 (by decide) (by decide) (by decide) (by decide) ?_
      exact WP_sub (B_L_law_1576 Q κ28 hκ28 v1 v2 v3 v4 v5 M h) (by omega) (ls_s (ls_s (ls_s (ls_s (ls_s (ls_s (ls_n (ls_n (ls_n ls_0)))))))))
    rw [if_neg c19] at h
    by_cases c20 : x2 = 20
    · rw [if_pos c20] at h
      rw [c20]
      refine R_tsIn (pc := 45) (off := 1635) (tgt := 1680) d_L_law_45 (by decide) (by decide) (by decide) (by decide) ?_
      exact WP_sub (B_L_law_1680 Q κ28 hκ28 v1 v2 v3 v4 v5 M h) (by omega) (ls_s (ls_s (ls_s (ls_s (ls_s (ls_s (ls_n (ls_n (ls_n ls_0)))))))))
    rw [if_neg c20] at h
    by_cases c21 : x2 = 21
    · rw [if_pos c21] at h
      rw [c21]
      refine R_tsIn (pc := 45) (off := 1691) (tgt := 1736) d_L_law_45 (by decide) (by decide) (by decide) (by decide) ?_
      exact WP_sub (B_L_law_1736 Q κ28 hκ28 v1 v2 v3 v4 v5 M h) (by omega) (ls_s (ls_s (ls_s (ls_s (ls_s (ls_s (ls_n (ls_n (ls_n ls_0)))))))))
    rw [if_neg c21] at h
    by_cases c22 : x2 = 22
    · rw [if_pos c22] at h
      rw [c22]
      refine R_tsIn (pc := 45) (off := 1759) (tgt := 1804) d_L_law_45 (by decide) (by decide) (by decide) (by decide) ?_
      exact WP_sub (B_L_law_1804 Q κ28 hκ28 v1 v2 v3 v4 v5 M h) (by omega) (ls_s (ls_s (ls_s (ls_s (ls_s (ls_s (ls_n (ls_n (ls_n ls_0)))))))))
    rw [if_neg c22] at h
    by_cases c23 : x2 = 23
    · rw [if_pos c23] at h
      rw [c23]
      refine R_tsIn (pc := 45) (off := 1851) (tgt := 1896) d_L_law_45 (by decide) (by decide) (by decide) (by decide) ?_
      exact WP_sub (B_L_law_1896 Q κ28 hκ28 v1 v2 v3 v4 v5 M h) (by omega) (ls_s (ls_s (ls_s (ls_s (ls_s (ls_s (ls_n (ls_n (ls_n ls_0)))))))))
    rw [if_neg c23] at h
    by_cases c24 : x2 = 24
    · rw [if_pos c24] at h
      rw [c24]
      refine R_tsIn (pc := 45) (off := 1919) (tgt := 1964) d_L_law_45 (by decide) (by decide) (by decide) (by decide) ?_
      exact WP_sub (B_L_law_1964 Q κ28 hκ28 v1 v2 v3 v4 v5 M h) (by omega) (ls_s (ls_s (ls_s (ls_s (ls_s (ls_s (ls_n (ls_n (ls_n ls_0)))))))))
    rw [if_neg c24] at h
    by_cases c25 : x2 = 25
    · rw [if_pos c25] at h
      rw [c25]
      refine R_tsIn (pc := 45) (off := 2003) (tgt := 2048) d_L_law_45 (by decide) (by decide) (by decide) (by decide) ?_
      exact WP_sub (B_L_law_2048 Q κ28 hκ28 v1 v2 v3 v4 v5 M h) (by omega) (ls_s (ls_s (ls_s (ls_s (ls_s (ls_s (ls_n (ls_n (ls_n ls_0)))))))))
    rw [if_neg c25] at h
    by_cases c26 : x2 = 26
    · rw [if_pos c26] at h
      rw [c26]
      refine R_tsIn (pc := 45) (off := 2087) (tgt := 2132) d_L_law_45 (by decide) (by decide) (by decide) (by decide) ?_
      exact WP_sub (B_L_law_2132 Q κ28 hκ28 v1 v2 v3 v4 v5 M h) (by omega) (ls_s (ls_s (ls_s (ls_s (ls_s (ls_s (ls_n (ls_n (ls_n ls_0)))))))))
    rw [if_neg c26] at h
    by_cases c27 : x2 = 27
    · rw [if_pos c27] at h
      rw [c27]
      refine R_tsIn (pc := 45) (off := 2143) (tgt := 2188) d_L_law_45 (by decide) (by decide) (by decide) (by decide) ?_
      exact WP_sub (B_L_law_2188 Q κ28 hκ28 v1 v2 v3 v4 v5 M h) (by omega) (ls_s (ls_s (ls_s (ls_s (ls_s (ls_s (ls_n (ls_n (ls_n ls_0)))))))))
    rw [if_neg c27] at h
    by_cases c28 : x2 = 28
    · rw [if_pos c28] at h
      rw [c28]
      refine R_tsIn (pc := 45) (off := 2208) (tgt := 2253) d_L_law_45 (by decide) (by decide) (by decide) (by decide) ?_
      exact WP_sub (B_L_law_2253 Q κ28 hκ28 v1 v2 v3 v4 v5 M h) (by omega) (ls_s (ls_s (ls_s (ls_s (ls_s (ls_s (ls_n (ls_n (ls_n ls_0)))))))))
    rw [if_neg c28] at h
    by_cases c29 : x2 = 29
    · rw [if_pos c29] at h
      rw [c29]
      refine R_tsIn (pc := 45) (off := 2286) (tgt := 2331) d_L_law_45 (by decide) (by decide) (by decide) (by decide) ?_
      exact WP_sub (B_L_law_2331 Q κ28 hκ28 v1 v2 v3 v4 v5 M h) (by omega) (ls_s (ls_s (ls_s (ls_s (ls_s (ls_s (ls_n (ls_n (ls_n ls_0)))))))))
    rw [if_neg c29] at h
    by_cases c30 : x2 = 30
    · rw [if_pos c30] at h
      rw [c30]
      refine R_tsIn (pc := 45) (off := 2344) (tgt := 2389) d_L_law_45 (by decide) (by decide) (by decide) (by decide) ?_
      exact WP_sub (B_L_law_2389 Q κ28 hκ28 v1 v2 v3 v4 v5 M h) (by omega) (ls_s (ls_s (ls_s (ls_s (ls_s (ls_s (ls_n (ls_n (ls_n ls_0)))))))))
    rw [if_neg c30] at h
    by_cases c31 : x2 = 31
    · rw [if_pos c31] at h
      rw [c31]
      refine R_tsIn (pc := 45) (off := 2388) (tgt := 2433) d_L_law_45 (by decide) (by decide) (by decide) (by decide) ?_
      exact WP_sub (B_L_law_2433 Q κ28 hκ28 v1 v2 v3 v4 v5 M h) (by omega) (ls_s (ls_s (ls_s (ls_s (ls_s (ls_s (ls_n (ls_n (ls_n ls_0)))))))))
    rw [if_neg c31] at h
    by_cases c32 : x2 = 32
    · rw [if_pos c32] at h
      rw [c32]
      refine R_tsIn (pc := 45) (off := 2432) (tgt := 2477) d_L_law_45 (by decide) (by decide) (by decide) (by decide) ?_
      exact WP_sub (B_L_law_2477 Q κ28 hκ28 v1 v2 v3 v4 v5 M h) (by omega) (ls_s (ls_s (ls_s (ls_s (ls_s (ls_s (ls_n (ls_n (ls_n ls_0)))))))))
    rw [if_neg c32] at h
    by_cases c33 : x2 = 33
    · rw [if_pos c33] at h
      rw [c33]
      refine R_tsIn (pc := 45) (off := 2445) (tgt := 2490) d_L_law_45 (by decide) (by decide) (by decide) (by decide) ?_
      exact WP_sub (B_L_law_2490 Q κ28 hκ28 v1 v2 v3 v4 v5 M h) (by omega) (ls_s (ls_s (ls_s (ls_s (ls_s (ls_s (ls_n (ls_n (ls_n ls_0)))))))))
    rw [if_neg c33] at h
    have o9 : x2.toInt < 0 ∨ 33 < x2.toInt := by
      have n0 := ne_toInt c0
      rw [show Int32.toInt (0 : Int32) = 0 by decide] at n0
      have n1 := ne_toInt c1
      rw [show Int32.toInt (1 : Int32) = 1 by decide] at n1
      have n2 := ne_toInt c2
      rw [show Int32.toInt (2 : Int32) = 2 by decide] at n2
      have n3 := ne_toInt c3
      rw [show Int32.toInt (3 : Int32) = 3 by decide] at n3
      have n4 := ne_toInt c4
      rw [show Int32.toInt (4 : Int32) = 4 by decide] at n4
      have n5 := ne_toInt c5
      rw [show Int32.toInt (5 : Int32) = 5 by decide] at n5
      have n6 := ne_toInt c6
      rw [show Int32.toInt (6 : Int32) = 6 by decide] at n6
      have n7 := ne_toInt c7
      rw [show Int32.toInt (7 : Int32) = 7 by decide] at n7
      have n8 := ne_toInt c8
      rw [show Int32.toInt (8 : Int32) = 8 by decide] at n8
      have n9 := ne_toInt c9
      rw [show Int32.toInt (9 : Int32) = 9 by decide] at n9
      have n10 := ne_toInt c10
      rw [show Int32.toInt (10 : Int32) = 10 by decide] at n10
      have n11 := ne_toInt c11
      rw [show Int32.toInt (11 : Int32) = 11 by decide] at n11
      have n12 := ne_toInt c12
      rw [show Int32.toInt (12 : Int32) = 12 by decide] at n12
      have n13 := ne_toInt c13
      rw [show Int32.toInt (13 : Int32) = 13 by decide] at n13
      have n14 := ne_toInt c14
      rw [show Int32.toInt (14 : Int32) = 14 by decide] at n14
      have n15 := ne_toInt c15
      rw [show Int32.toInt (15 : Int32) = 15 by decide] at n15
      have n16 := ne_toInt c16
      rw [show Int32.toInt (16 : Int32) = 16 by decide] at n16
      have n17 := ne_toInt c17
      rw [show Int32.toInt (17 : Int32) = 17 by decide] at n17
      have n18 := ne_toInt c18
      rw [show Int32.toInt (18 : Int32) = 18 by decide] at n18
      have n19 := ne_toInt c19
      rw [show Int32.toInt (19 : Int32) = 19 by decide] at n19
      have n20 := ne_toInt c20
      rw [show Int32.toInt (20 : Int32) = 20 by decide] at n20
      have n21 := ne_toInt c21
      rw [show Int32.toInt (21 : Int32) = 21 by decide] at n21
      have n22 := ne_toInt c22
      rw [show Int32.toInt (22 : Int32) = 22 by decide] at n22
      have n23 := ne_toInt c23
      rw [show Int32.toInt (23 : Int32) = 23 by decide] at n23
      have n24 := ne_toInt c24
      rw [show Int32.toInt (24 : Int32) = 24 by decide] at n24
      have n25 := ne_toInt c25
      rw [show Int32.toInt (25 : Int32) = 25 by decide] at n25
      have n26 := ne_toInt c26
      rw [show Int32.toInt (26 : Int32) = 26 by decide] at n26
      have n27 := ne_toInt c27
      rw [show Int32.toInt (27 : Int32) = 27 by decide] at n27
      have n28 := ne_toInt c28
      rw [show Int32.toInt (28 : Int32) = 28 by decide] at n28
      have n29 := ne_toInt c29
      rw [show Int32.toInt (29 : Int32) = 29 by decide] at n29
      have n30 := ne_toInt c30
      rw [show Int32.toInt (30 : Int32) = 30 by decide] at n30
      have n31 := ne_toInt c31
      rw [show Int32.toInt (31 : Int32) = 31 by decide] at n31
      have n32 := ne_toInt c32
      rw [show Int32.toInt (32 : Int32) = 32 by decide] at n32
      have n33 := ne_toInt c33
      rw [show Int32.toInt (33 : Int32) = 33 by decide] at n33
      omega
    refine R_tsOut (pc := 45) (tgt := 2534) d_L_law_45 o9 (by decide) ?_
    exact WP_sub (B_L_law_2534 Q κ28 hκ28 v1 v2 v3 v4 v5 M h) (by omega) (ls_s (ls_s (ls_s (ls_s (ls_s (ls_s (ls_n (ls_n (ls_n ls_0)))))))))
