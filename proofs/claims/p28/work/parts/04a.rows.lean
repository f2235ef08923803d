theorem zck_0 : (zcs.getD 0 []).all (fun e => zOK 0 e.1 e.2.1 e.2.2) = true := by decide +kernel
theorem zcm_0 : zMok 0 = true := by decide +kernel
theorem zck_1 : (zcs.getD 1 []).all (fun e => zOK 1 e.1 e.2.1 e.2.2) = true := by decide +kernel
theorem zcm_1 : zMok 1 = true := by decide +kernel
theorem zck_2 : (zcs.getD 2 []).all (fun e => zOK 2 e.1 e.2.1 e.2.2) = true := by decide +kernel
theorem zcm_2 : zMok 2 = true := by decide +kernel
theorem zck_3_0 : ((zcs.getD 3 []).take 50).all (fun e => zOK 3 e.1 e.2.1 e.2.2) = true := by decide +kernel
theorem zck_3_1 : ((zcs.getD 3 []).drop 50).all (fun e => zOK 3 e.1 e.2.1 e.2.2) = true := by decide +kernel
theorem zck_3 : (zcs.getD 3 []).all (fun e => zOK 3 e.1 e.2.1 e.2.2) = true := (zck_cut 50 zck_3_0 zck_3_1)
theorem zcm_3 : zMok 3 = true := by decide +kernel
theorem zck_4 : (zcs.getD 4 []).all (fun e => zOK 4 e.1 e.2.1 e.2.2) = true := by decide +kernel
theorem zcm_4 : zMok 4 = true := by decide +kernel
theorem zck_5 : (zcs.getD 5 []).all (fun e => zOK 5 e.1 e.2.1 e.2.2) = true := by decide +kernel
theorem zcm_5 : zMok 5 = true := by decide +kernel
theorem zck_6 : (zcs.getD 6 []).all (fun e => zOK 6 e.1 e.2.1 e.2.2) = true := by decide +kernel
theorem zcm_6 : zMok 6 = true := by decide +kernel
theorem zck_7 : (zcs.getD 7 []).all (fun e => zOK 7 e.1 e.2.1 e.2.2) = true := by decide +kernel
theorem zcm_7 : zMok 7 = true := by decide +kernel
theorem zck_8 : (zcs.getD 8 []).all (fun e => zOK 8 e.1 e.2.1 e.2.2) = true := by decide +kernel
theorem zcm_8 : zMok 8 = true := by decide +kernel
theorem zck_9 : (zcs.getD 9 []).all (fun e => zOK 9 e.1 e.2.1 e.2.2) = true := by decide +kernel
theorem zcm_9 : zMok 9 = true := by decide +kernel
theorem zck_10 : (zcs.getD 10 []).all (fun e => zOK 10 e.1 e.2.1 e.2.2) = true := by decide +kernel
theorem zcm_10 : zMok 10 = true := by decide +kernel
theorem zck_11 : (zcs.getD 11 []).all (fun e => zOK 11 e.1 e.2.1 e.2.2) = true := by decide +kernel
theorem zcm_11 : zMok 11 = true := by decide +kernel
theorem zck_12 : (zcs.getD 12 []).all (fun e => zOK 12 e.1 e.2.1 e.2.2) = true := by decide +kernel
theorem zcm_12 : zMok 12 = true := by decide +kernel
theorem zck_13 : (zcs.getD 13 []).all (fun e => zOK 13 e.1 e.2.1 e.2.2) = true := by decide +kernel
theorem zcm_13 : zMok 13 = true := by decide +kernel
theorem zck_14 : (zcs.getD 14 []).all (fun e => zOK 14 e.1 e.2.1 e.2.2) = true := by decide +kernel
theorem zcm_14 : zMok 14 = true := by decide +kernel
theorem zck_15 : (zcs.getD 15 []).all (fun e => zOK 15 e.1 e.2.1 e.2.2) = true := by decide +kernel
theorem zcm_15 : zMok 15 = true := by decide +kernel
theorem zck_16 : (zcs.getD 16 []).all (fun e => zOK 16 e.1 e.2.1 e.2.2) = true := by decide +kernel
theorem zcm_16 : zMok 16 = true := by decide +kernel
theorem zck_17 : (zcs.getD 17 []).all (fun e => zOK 17 e.1 e.2.1 e.2.2) = true := by decide +kernel
theorem zcm_17 : zMok 17 = true := by decide +kernel
theorem zck_18 : (zcs.getD 18 []).all (fun e => zOK 18 e.1 e.2.1 e.2.2) = true := by decide +kernel
theorem zcm_18 : zMok 18 = true := by decide +kernel
theorem zck_19 : (zcs.getD 19 []).all (fun e => zOK 19 e.1 e.2.1 e.2.2) = true := by decide +kernel
theorem zcm_19 : zMok 19 = true := by decide +kernel
theorem zck_20 : (zcs.getD 20 []).all (fun e => zOK 20 e.1 e.2.1 e.2.2) = true := by decide +kernel
theorem zcm_20 : zMok 20 = true := by decide +kernel
theorem zck_21 : (zcs.getD 21 []).all (fun e => zOK 21 e.1 e.2.1 e.2.2) = true := by decide +kernel
theorem zcm_21 : zMok 21 = true := by decide +kernel
theorem zck_22 : (zcs.getD 22 []).all (fun e => zOK 22 e.1 e.2.1 e.2.2) = true := by decide +kernel
theorem zcm_22 : zMok 22 = true := by decide +kernel
theorem zck_23 : (zcs.getD 23 []).all (fun e => zOK 23 e.1 e.2.1 e.2.2) = true := by decide +kernel
theorem zcm_23 : zMok 23 = true := by decide +kernel
theorem zck_24 : (zcs.getD 24 []).all (fun e => zOK 24 e.1 e.2.1 e.2.2) = true := by decide +kernel
theorem zcm_24 : zMok 24 = true := by decide +kernel
theorem zck_25 : (zcs.getD 25 []).all (fun e => zOK 25 e.1 e.2.1 e.2.2) = true := by decide +kernel
theorem zcm_25 : zMok 25 = true := by decide +kernel
theorem zck_26 : (zcs.getD 26 []).all (fun e => zOK 26 e.1 e.2.1 e.2.2) = true := by decide +kernel
theorem zcm_26 : zMok 26 = true := by decide +kernel
theorem zck_27 : (zcs.getD 27 []).all (fun e => zOK 27 e.1 e.2.1 e.2.2) = true := by decide +kernel
theorem zcm_27 : zMok 27 = true := by decide +kernel
theorem zck_28 : (zcs.getD 28 []).all (fun e => zOK 28 e.1 e.2.1 e.2.2) = true := by decide +kernel
theorem zcm_28 : zMok 28 = true := by decide +kernel
theorem zck_29 : (zcs.getD 29 []).all (fun e => zOK 29 e.1 e.2.1 e.2.2) = true := by decide +kernel
theorem zcm_29 : zMok 29 = true := by decide +kernel
theorem zck_30_0 : ((zcs.getD 30 []).take 50).all (fun e => zOK 30 e.1 e.2.1 e.2.2) = true := by decide +kernel
theorem zck_30_1 : (((zcs.getD 30 []).drop 50).take 50).all (fun e => zOK 30 e.1 e.2.1 e.2.2) = true := by decide +kernel
theorem zck_30_2 : ((zcs.getD 30 []).drop 100).all (fun e => zOK 30 e.1 e.2.1 e.2.2) = true := by decide +kernel
theorem zck_30 : (zcs.getD 30 []).all (fun e => zOK 30 e.1 e.2.1 e.2.2) = true := (zck_cut 50 zck_30_0 (zck_cut 50 zck_30_1 (by rw [List.drop_drop]; exact zck_30_2)))
theorem zcm_30 : zMok 30 = true := by decide +kernel
theorem zck_31 : (zcs.getD 31 []).all (fun e => zOK 31 e.1 e.2.1 e.2.2) = true := by decide +kernel
theorem zcm_31 : zMok 31 = true := by decide +kernel
theorem zck_32 : (zcs.getD 32 []).all (fun e => zOK 32 e.1 e.2.1 e.2.2) = true := by decide +kernel
theorem zcm_32 : zMok 32 = true := by decide +kernel
