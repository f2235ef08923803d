theorem zck_42 : (zcs.getD 42 []).all (fun e => zOK 42 e.1 e.2.1 e.2.2) = true := by decide +kernel
theorem zcm_42 : zMok 42 = true := by decide +kernel
theorem zck_43 : (zcs.getD 43 []).all (fun e => zOK 43 e.1 e.2.1 e.2.2) = true := by decide +kernel
theorem zcm_43 : zMok 43 = true := by decide +kernel
theorem zck_44 : (zcs.getD 44 []).all (fun e => zOK 44 e.1 e.2.1 e.2.2) = true := by decide +kernel
theorem zcm_44 : zMok 44 = true := by decide +kernel
theorem zck_45_0 : ((zcs.getD 45 []).take 50).all (fun e => zOK 45 e.1 e.2.1 e.2.2) = true := by decide +kernel
theorem zck_45_1 : (((zcs.getD 45 []).drop 50).take 50).all (fun e => zOK 45 e.1 e.2.1 e.2.2) = true := by decide +kernel
theorem zck_45_2 : ((zcs.getD 45 []).drop 100).all (fun e => zOK 45 e.1 e.2.1 e.2.2) = true := by decide +kernel
theorem zck_45 : (zcs.getD 45 []).all (fun e => zOK 45 e.1 e.2.1 e.2.2) = true := (zck_cut 50 zck_45_0 (zck_cut 50 zck_45_1 (by rw [List.drop_drop]; exact zck_45_2)))
theorem zcm_45 : zMok 45 = true := by decide +kernel
theorem zck_46_0 : ((zcs.getD 46 []).take 50).all (fun e => zOK 46 e.1 e.2.1 e.2.2) = true := by decide +kernel
theorem zck_46_1 : ((zcs.getD 46 []).drop 50).all (fun e => zOK 46 e.1 e.2.1 e.2.2) = true := by decide +kernel
theorem zck_46 : (zcs.getD 46 []).all (fun e => zOK 46 e.1 e.2.1 e.2.2) = true := (zck_cut 50 zck_46_0 zck_46_1)
theorem zcm_46 : zMok 46 = true := by decide +kernel
theorem zck_47 : (zcs.getD 47 []).all (fun e => zOK 47 e.1 e.2.1 e.2.2) = true := by decide +kernel
theorem zcm_47 : zMok 47 = true := by decide +kernel
theorem zck_48 : (zcs.getD 48 []).all (fun e => zOK 48 e.1 e.2.1 e.2.2) = true := by decide +kernel
theorem zcm_48 : zMok 48 = true := by decide +kernel
theorem zck_49 : (zcs.getD 49 []).all (fun e => zOK 49 e.1 e.2.1 e.2.2) = true := by decide +kernel
theorem zcm_49 : zMok 49 = true := by decide +kernel
theorem zck_50 : (zcs.getD 50 []).all (fun e => zOK 50 e.1 e.2.1 e.2.2) = true := by decide +kernel
theorem zcm_50 : zMok 50 = true := by decide +kernel
theorem zck_51 : (zcs.getD 51 []).all (fun e => zOK 51 e.1 e.2.1 e.2.2) = true := by decide +kernel
theorem zcm_51 : zMok 51 = true := by decide +kernel
theorem zck_52 : (zcs.getD 52 []).all (fun e => zOK 52 e.1 e.2.1 e.2.2) = true := by decide +kernel
theorem zcm_52 : zMok 52 = true := by decide +kernel
theorem zck_53 : (zcs.getD 53 []).all (fun e => zOK 53 e.1 e.2.1 e.2.2) = true := by decide +kernel
theorem zcm_53 : zMok 53 = true := by decide +kernel
theorem zck_54 : (zcs.getD 54 []).all (fun e => zOK 54 e.1 e.2.1 e.2.2) = true := by decide +kernel
theorem zcm_54 : zMok 54 = true := by decide +kernel
theorem zck_55_0 : ((zcs.getD 55 []).take 50).all (fun e => zOK 55 e.1 e.2.1 e.2.2) = true := by decide +kernel
theorem zck_55_1 : (((zcs.getD 55 []).drop 50).take 50).all (fun e => zOK 55 e.1 e.2.1 e.2.2) = true := by decide +kernel
theorem zck_55_2 : ((zcs.getD 55 []).drop 100).all (fun e => zOK 55 e.1 e.2.1 e.2.2) = true := by decide +kernel
theorem zck_55 : (zcs.getD 55 []).all (fun e => zOK 55 e.1 e.2.1 e.2.2) = true := (zck_cut 50 zck_55_0 (zck_cut 50 zck_55_1 (by rw [List.drop_drop]; exact zck_55_2)))
theorem zcm_55 : zMok 55 = true := by decide +kernel
theorem zck_56 : (zcs.getD 56 []).all (fun e => zOK 56 e.1 e.2.1 e.2.2) = true := by decide +kernel
theorem zcm_56 : zMok 56 = true := by decide +kernel
theorem zck_57 : (zcs.getD 57 []).all (fun e => zOK 57 e.1 e.2.1 e.2.2) = true := by decide +kernel
theorem zcm_57 : zMok 57 = true := by decide +kernel
theorem zck_58_0 : ((zcs.getD 58 []).take 50).all (fun e => zOK 58 e.1 e.2.1 e.2.2) = true := by decide +kernel
theorem zck_58_1 : ((zcs.getD 58 []).drop 50).all (fun e => zOK 58 e.1 e.2.1 e.2.2) = true := by decide +kernel
theorem zck_58 : (zcs.getD 58 []).all (fun e => zOK 58 e.1 e.2.1 e.2.2) = true := (zck_cut 50 zck_58_0 zck_58_1)
theorem zcm_58 : zMok 58 = true := by decide +kernel
theorem zck_59 : (zcs.getD 59 []).all (fun e => zOK 59 e.1 e.2.1 e.2.2) = true := by decide +kernel
theorem zcm_59 : zMok 59 = true := by decide +kernel
