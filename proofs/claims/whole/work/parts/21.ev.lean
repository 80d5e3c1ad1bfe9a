/-! ===== what evaluation uses ===== -/
theorem cC_0 (σ : HS) : gC S1 σ 0 = 1 := rfl
theorem cC_1 (σ : HS) : gC S1 σ 1 = 1 := rfl
theorem cC_2 (σ : HS) : gC S1 σ 2 = 1 := rfl
theorem cC_3 (σ : HS) : gC S1 σ 3 = gN σ 3 := rfl
theorem cC_4 (σ : HS) : gC S1 σ 4 = 1 := rfl
theorem cC_5 (σ : HS) : gC S1 σ 5 = 1 := rfl
theorem cC_6 (σ : HS) : gC S1 σ 6 = 1 := rfl
theorem cC_7 (σ : HS) : gC S1 σ 7 = 1 := rfl
theorem cC_8 (σ : HS) : gC S1 σ 8 = 1 := rfl
theorem cC_9 (σ : HS) : gC S1 σ 9 = 1 := rfl
theorem cC_10 (σ : HS) : gC S1 σ 10 = gN σ 10 := rfl
theorem cC_11 (σ : HS) : gC S1 σ 11 = 1 := rfl
theorem cC_12 (σ : HS) : gC S1 σ 12 = 1 := rfl
theorem cC_21 (σ : HS) : gC S1 σ 21 = 1 := rfl
theorem cC_22 (σ : HS) : gC S1 σ 22 = 1 := rfl
theorem cC_23 (σ : HS) : gC S1 σ 23 = 1 := rfl
theorem cC_24 (σ : HS) : gC S1 σ 24 = 1 := rfl
theorem cC_25 (σ : HS) : gC S1 σ 25 = 1 := rfl
theorem cC_26 (σ : HS) : gC S1 σ 26 = 1 := rfl
theorem cC_27 (σ : HS) : gC S1 σ 27 = 1 := rfl
theorem cC_28 (σ : HS) : gC S1 σ 28 = 1 := rfl
theorem cC_29 (σ : HS) : gC S1 σ 29 = 1 := rfl
theorem cC_30 (σ : HS) : gC S1 σ 30 = 1 := rfl
theorem cC_31 (σ : HS) : gC S1 σ 31 = 1 := rfl
theorem cC_32 (σ : HS) : gC S1 σ 32 = 1 := rfl
theorem cC_33 (σ : HS) : gC S1 σ 33 = 1 := rfl
theorem cC_34 (σ : HS) : gC S1 σ 34 = 1 := rfl
theorem cC_35 (σ : HS) : gC S1 σ 35 = 1 := rfl
theorem cC_36 (σ : HS) : gC S1 σ 36 = 1 := rfl
theorem cC_37 (σ : HS) : gC S1 σ 37 = 1 := rfl
theorem cC_38 (σ : HS) : gC S1 σ 38 = 1 := rfl
theorem cC_39 (σ : HS) : gC S1 σ 39 = 1 := rfl
theorem cC_40 (σ : HS) : gC S1 σ 40 = 1 := rfl
theorem cC_41 (σ : HS) : gC S1 σ 41 = 1 := rfl
theorem cC_42 (σ : HS) : gC S1 σ 42 = 1 := rfl
theorem cC_43 (σ : HS) : gC S1 σ 43 = 1 := rfl
theorem cC_44 (σ : HS) : gC S1 σ 44 = 1 := rfl
theorem cC_45 (σ : HS) : gC S1 σ 45 = 1 := rfl
theorem cC_46 (σ : HS) : gC S1 σ 46 = 1 := rfl
theorem cC_47 (σ : HS) : gC S1 σ 47 = 1 := rfl
theorem cC_48 (σ : HS) : gC S1 σ 48 = 1 := rfl
theorem cC_49 (σ : HS) : gC S1 σ 49 = 1 := rfl
theorem cC_50 (σ : HS) : gC S1 σ 50 = 1 := rfl
theorem cC_51 (σ : HS) : gC S1 σ 51 = 1 := rfl
theorem cC_52 (σ : HS) : gC S1 σ 52 = 1 := rfl
theorem cC_53 (σ : HS) : gC S1 σ 53 = 1 := rfl
theorem cC_54 (σ : HS) : gC S1 σ 54 = 1 := rfl
theorem cC_55 (σ : HS) : gC S1 σ 55 = 1 := rfl
theorem cC_56 (σ : HS) : gC S1 σ 56 = 1 := rfl
theorem cC_57 (σ : HS) : gC S1 σ 57 = 1 := rfl
theorem cC_58 (σ : HS) : gC S1 σ 58 = 1 := rfl
theorem cC_59 (σ : HS) : gC S1 σ 59 = 1 := rfl
theorem cC_60 (σ : HS) : gC S1 σ 60 = 1 := rfl
theorem cC_61 (σ : HS) : gC S1 σ 61 = 1 := rfl
theorem cC_62 (σ : HS) : gC S1 σ 62 = 1 := rfl
theorem cC_70 (σ : HS) : gC S1 σ 70 = 1 := rfl
theorem cC_71 (σ : HS) : gC S1 σ 71 = 1 := rfl
theorem cC_72 (σ : HS) : gC S1 σ 72 = 1 := rfl
theorem cC_73 (σ : HS) : gC S1 σ 73 = 1 := rfl
theorem cC_74 (σ : HS) : gC S1 σ 74 = 1 := rfl
theorem cC_80 (σ : HS) : gC S1 σ 80 = 1 := rfl
theorem cC_85 (σ : HS) : gC S1 σ 85 = 1 := rfl
theorem cC_90 (σ : HS) : gC S1 σ 90 = 1 := rfl
theorem cC_91 (σ : HS) : gC S1 σ 91 = 1 := rfl
theorem rR_100 (σ : HS) (i : Nat) : gR S1 σ 100 i = some (6, 0) := rfl
theorem rR_101 (σ : HS) (i : Nat) : gR S1 σ 101 i = some (70, 0) := rfl
theorem rR_102 (σ : HS) (i : Nat) : gR S1 σ 102 i = some (71, 0) := rfl
theorem rR_103 (σ : HS) (i : Nat) : gR S1 σ 103 i = some (22, 0) := rfl
theorem rR_104 (σ : HS) (i : Nat) : gR S1 σ 104 i = some (23, 0) := rfl
theorem rR_105 (σ : HS) (i : Nat) : gR S1 σ 105 i = some (24, 0) := rfl
theorem rR_200 (σ : HS) (i : Nat) : gR S1 σ 200 i = some (25, 0) := rfl
theorem rR_300 (σ : HS) (i : Nat) : gR S1 σ 300 i = some (26, 0) := rfl
theorem rR_301 (σ : HS) (i : Nat) : gR S1 σ 301 i = some (27, 0) := rfl
theorem rR_302 (σ : HS) (i : Nat) : gR S1 σ 302 i = some (28, 0) := rfl
theorem rR_303 (σ : HS) (i : Nat) : gR S1 σ 303 i = some (29, 0) := rfl
theorem rR_500 (σ : HS) (i : Nat) : gR S1 σ 500 i = some (30, 0) := rfl
theorem rR_600 (σ : HS) (i : Nat) : gR S1 σ 600 i = some (8, 0) := rfl
theorem rR_700 (σ : HS) (i : Nat) : gR S1 σ 700 i = some (90, 0) := rfl
theorem rR_701 (σ : HS) (i : Nat) : gR S1 σ 701 i = some (91, 0) := rfl
theorem rR_800 (σ : HS) (i : Nat) : gR S1 σ 800 i = some (80, 0) := rfl
theorem rR_900 (σ : HS) (i : Nat) : gR S1 σ 900 i = some (31, 0) := rfl
theorem rR_1000 (σ : HS) (i : Nat) : gR S1 σ 1000 i = some (6, 0) := rfl
theorem rR_1001 (σ : HS) (i : Nat) : gR S1 σ 1001 i = some (1, 0) := rfl
theorem rR_1002 (σ : HS) (i : Nat) : gR S1 σ 1002 i = some (4, 0) := rfl
theorem rR_1003 (σ : HS) (i : Nat) : gR S1 σ 1003 i = some (2, 0) := rfl
theorem rR_1200 (σ : HS) (i : Nat) : gR S1 σ 1200 i = some (6, 0) := rfl
theorem rR_1201 (σ : HS) (i : Nat) : gR S1 σ 1201 i = some (1, 0) := rfl
theorem rR_1202 (σ : HS) (i : Nat) : gR S1 σ 1202 i = some (8, 0) := rfl
theorem rR_1203 (σ : HS) (i : Nat) : gR S1 σ 1203 i = some (5, 0) := rfl
theorem rR_1204 (σ : HS) (i : Nat) : gR S1 σ 1204 i = some (9, 0) := rfl
theorem rR_1205 (σ : HS) (i : Nat) : gR S1 σ 1205 i = some (0, 0) := rfl
theorem rR_1206 (σ : HS) (i : Nat) : gR S1 σ 1206 i = some (7, 0) := rfl
theorem rR_1207 (σ : HS) (i : Nat) : gR S1 σ 1207 i = some (32, 0) := rfl
theorem rR_1300 (σ : HS) (i : Nat) : gR S1 σ 1300 i = some (33, 0) := rfl
theorem rR_1301 (σ : HS) (i : Nat) : gR S1 σ 1301 i = some (34, 0) := rfl
theorem rR_1302 (σ : HS) (i : Nat) : gR S1 σ 1302 i = some (35, 0) := rfl
theorem rR_1303 (σ : HS) (i : Nat) : gR S1 σ 1303 i = some (36, 0) := rfl
theorem rR_1304 (σ : HS) (i : Nat) : gR S1 σ 1304 i = some (37, 0) := rfl
theorem rR_1305 (σ : HS) (i : Nat) : gR S1 σ 1305 i = some (38, 0) := rfl
theorem rR_1306 (σ : HS) (i : Nat) : gR S1 σ 1306 i = some (39, 0) := rfl
theorem rR_1307 (σ : HS) (i : Nat) : gR S1 σ 1307 i = some (40, 0) := rfl
theorem rR_1308 (σ : HS) (i : Nat) : gR S1 σ 1308 i = some (41, 0) := rfl
theorem rR_1309 (σ : HS) (i : Nat) : gR S1 σ 1309 i = some (42, 0) := rfl
theorem rR_1310 (σ : HS) (i : Nat) : gR S1 σ 1310 i = some (43, 0) := rfl
theorem rR_1311 (σ : HS) (i : Nat) : gR S1 σ 1311 i = some (44, 0) := rfl
theorem rR_1312 (σ : HS) (i : Nat) : gR S1 σ 1312 i = some (85, 0) := rfl
theorem rR_1315 (σ : HS) (i : Nat) : gR S1 σ 1315 i = some (72, 0) := rfl
theorem rR_1316 (σ : HS) (i : Nat) : gR S1 σ 1316 i = some (45, 0) := rfl
theorem rR_1317 (σ : HS) (i : Nat) : gR S1 σ 1317 i = some (46, 0) := rfl
theorem rR_1318 (σ : HS) (i : Nat) : gR S1 σ 1318 i = some (47, 0) := rfl
theorem rR_1319 (σ : HS) (i : Nat) : gR S1 σ 1319 i = some (48, 0) := rfl
theorem rR_1320 (σ : HS) (i : Nat) : gR S1 σ 1320 i = some (49, 0) := rfl
theorem rR_1321 (σ : HS) (i : Nat) : gR S1 σ 1321 i = some (50, 0) := rfl
theorem rR_1322 (σ : HS) (i : Nat) : gR S1 σ 1322 i = some (51, 0) := rfl
theorem rR_1323 (σ : HS) (i : Nat) : gR S1 σ 1323 i = some (52, 0) := rfl
theorem rR_1329 (σ : HS) (i : Nat) : gR S1 σ 1329 i = some (53, 0) := rfl
theorem rR_1351 (σ : HS) (i : Nat) : gR S1 σ 1351 i = some (54, 0) := rfl
theorem rR_1353 (σ : HS) (i : Nat) : gR S1 σ 1353 i = some (55, 0) := rfl
theorem rR_1354 (σ : HS) (i : Nat) : gR S1 σ 1354 i = some (56, 0) := rfl
theorem rR_1355 (σ : HS) (i : Nat) : gR S1 σ 1355 i = some (57, 0) := rfl
theorem rR_1356 (σ : HS) (i : Nat) : gR S1 σ 1356 i = some (58, 0) := rfl
theorem rR_1358 (σ : HS) (i : Nat) : gR S1 σ 1358 i = some (73, 0) := rfl
theorem rR_1360 (σ : HS) (i : Nat) : gR S1 σ 1360 i = some (59, 0) := rfl
theorem rR_1362 (σ : HS) (i : Nat) : gR S1 σ 1362 i = some (74, 0) := rfl
theorem rR_1363 (σ : HS) (i : Nat) : gR S1 σ 1363 i = some (60, 0) := rfl
theorem rR_1364 (σ : HS) (i : Nat) : gR S1 σ 1364 i = some (61, 0) := rfl
theorem rR_1365 (σ : HS) (i : Nat) : gR S1 σ 1365 i = some (62, 0) := rfl
theorem rQ_1101 (σ : HS) (i : Nat) : gR S1 σ 1101 i = gQ σ 1101 i := rfl
theorem sN_1101 : S1.1 1101 = none := rfl
theorem rQ_1008 (σ : HS) (i : Nat) : gR S1 σ 1008 i = gQ σ 1008 i := rfl
theorem sN_1008 : S1.1 1008 = none := rfl
theorem rQ_90 (σ : HS) (i : Nat) : gR S1 σ 90 i = gQ σ 90 i := rfl
theorem sN_90 : S1.1 90 = none := rfl
theorem rQ_91 (σ : HS) (i : Nat) : gR S1 σ 91 i = gQ σ 91 i := rfl
theorem sN_91 : S1.1 91 = none := rfl
theorem aL_21 : S1.2.2 21 = 10 := rfl
theorem aL_22 : S1.2.2 22 = 24 := rfl
theorem aL_23 : S1.2.2 23 = 24 := rfl
theorem aL_24 : S1.2.2 24 = 24 := rfl
theorem aL_25 : S1.2.2 25 = 160 := rfl
theorem aL_26 : S1.2.2 26 = 40 := rfl
theorem aL_27 : S1.2.2 27 = 40 := rfl
theorem aL_28 : S1.2.2 28 = 40 := rfl
theorem aL_29 : S1.2.2 29 = 40 := rfl
theorem aL_30 : S1.2.2 30 = 60 := rfl
theorem aL_31 : S1.2.2 31 = 2000 := rfl
theorem aL_32 : S1.2.2 32 = 10 := rfl
theorem aL_33 : S1.2.2 33 = 10 := rfl
theorem aL_34 : S1.2.2 34 = 10 := rfl
theorem aL_35 : S1.2.2 35 = 10 := rfl
theorem aL_36 : S1.2.2 36 = 10 := rfl
theorem aL_37 : S1.2.2 37 = 24 := rfl
theorem aL_38 : S1.2.2 38 = 24 := rfl
theorem aL_39 : S1.2.2 39 = 24 := rfl
theorem aL_40 : S1.2.2 40 = 24 := rfl
theorem aL_41 : S1.2.2 41 = 24 := rfl
theorem aL_42 : S1.2.2 42 = 24 := rfl
theorem aL_43 : S1.2.2 43 = 24 := rfl
theorem aL_44 : S1.2.2 44 = 24 := rfl
theorem aL_45 : S1.2.2 45 = 24 := rfl
theorem aL_46 : S1.2.2 46 = 24 := rfl
theorem aL_47 : S1.2.2 47 = 24 := rfl
theorem aL_48 : S1.2.2 48 = 24 := rfl
theorem aL_49 : S1.2.2 49 = 24 := rfl
theorem aL_50 : S1.2.2 50 = 24 := rfl
theorem aL_51 : S1.2.2 51 = 24 := rfl
theorem aL_52 : S1.2.2 52 = 240 := rfl
theorem aL_53 : S1.2.2 53 = 2000 := rfl
theorem aL_54 : S1.2.2 54 = 60 := rfl
theorem aL_55 : S1.2.2 55 = 40 := rfl
theorem aL_56 : S1.2.2 56 = 40 := rfl
theorem aL_57 : S1.2.2 57 = 40 := rfl
theorem aL_58 : S1.2.2 58 = 40 := rfl
theorem aL_59 : S1.2.2 59 = 24 := rfl
theorem aL_60 : S1.2.2 60 = 24 := rfl
theorem aL_61 : S1.2.2 61 = 8 := rfl
theorem aL_62 : S1.2.2 62 = 8 := rfl
theorem aL_70 : S1.2.2 70 = 24 := rfl
theorem aL_71 : S1.2.2 71 = 24 := rfl
theorem aL_72 : S1.2.2 72 = 24 := rfl
theorem aL_73 : S1.2.2 73 = 24 := rfl
theorem aL_74 : S1.2.2 74 = 24 := rfl
theorem aL_80 : S1.2.2 80 = 8 := rfl
theorem aL_85 : S1.2.2 85 = 24 := rfl
theorem aL_90 : S1.2.2 90 = 10 := rfl
theorem aL_91 : S1.2.2 91 = 24 := rfl
theorem gI_sL (σ : HS) (f i : Nat) (v : Int64) (f' i' : Nat) : gI (sL σ f i v) f' i' = gI σ f' i' := rfl
theorem gI_sQ (σ : HS) (f i : Nat) (v : Option (Nat × Nat)) (f' i' : Nat) : gI (sQ σ f i v) f' i' = gI σ f' i' := rfl
theorem gL_sI (σ : HS) (f i : Nat) (v : Int32) (f' i' : Nat) : gL (sI σ f i v) f' i' = gL σ f' i' := rfl
theorem gL_sQ (σ : HS) (f i : Nat) (v : Option (Nat × Nat)) (f' i' : Nat) : gL (sQ σ f i v) f' i' = gL σ f' i' := rfl
theorem gL_sJ (σ : HS) (f : Nat) (h : Nat → Int32) (f' i' : Nat) : gL (sJ σ f h) f' i' = gL σ f' i' := rfl
theorem gQ_sI (σ : HS) (f i : Nat) (v : Int32) (f' i' : Nat) : gQ (sI σ f i v) f' i' = gQ σ f' i' := rfl
theorem gQ_sL (σ : HS) (f i : Nat) (v : Int64) (f' i' : Nat) : gQ (sL σ f i v) f' i' = gQ σ f' i' := rfl
theorem gQ_sJ (σ : HS) (f : Nat) (h : Nat → Int32) (f' i' : Nat) : gQ (sJ σ f h) f' i' = gQ σ f' i' := rfl
theorem gN_sI (σ : HS) (f i : Nat) (v : Int32) (c : Nat) : gN (sI σ f i v) c = gN σ c := rfl
theorem gN_sL (σ : HS) (f i : Nat) (v : Int64) (c : Nat) : gN (sL σ f i v) c = gN σ c := rfl
theorem gN_sQ (σ : HS) (f i : Nat) (v : Option (Nat × Nat)) (c : Nat) : gN (sQ σ f i v) c = gN σ c := rfl
theorem gN_sJ (σ : HS) (f : Nat) (h : Nat → Int32) (c : Nat) : gN (sJ σ f h) c = gN σ c := rfl
