theorem zck_33 : (zcs.getD 33 []).all (fun e => zOK 33 e.1 e.2.1 e.2.2) = true := by decide +kernel
theorem zcm_33 : zMok 33 = true := by decide +kernel
theorem zck_34 : (zcs.getD 34 []).all (fun e => zOK 34 e.1 e.2.1 e.2.2) = true := by decide +kernel
theorem zcm_34 : zMok 34 = true := by decide +kernel
theorem zck_35 : (zcs.getD 35 []).all (fun e => zOK 35 e.1 e.2.1 e.2.2) = true := by decide +kernel
theorem zcm_35 : zMok 35 = true := by decide +kernel
theorem zck_36 : (zcs.getD 36 []).all (fun e => zOK 36 e.1 e.2.1 e.2.2) = true := by decide +kernel
theorem zcm_36 : zMok 36 = true := by decide +kernel
theorem zck_37 : (zcs.getD 37 []).all (fun e => zOK 37 e.1 e.2.1 e.2.2) = true := by decide +kernel
theorem zcm_37 : zMok 37 = true := by decide +kernel
theorem zck_38 : (zcs.getD 38 []).all (fun e => zOK 38 e.1 e.2.1 e.2.2) = true := by decide +kernel
theorem zcm_38 : zMok 38 = true := by decide +kernel
theorem zck_39 : (zcs.getD 39 []).all (fun e => zOK 39 e.1 e.2.1 e.2.2) = true := by decide +kernel
theorem zcm_39 : zMok 39 = true := by decide +kernel
theorem zck_40 : (zcs.getD 40 []).all (fun e => zOK 40 e.1 e.2.1 e.2.2) = true := by decide +kernel
theorem zcm_40 : zMok 40 = true := by decide +kernel
theorem zck_41 : (zcs.getD 41 []).all (fun e => zOK 41 e.1 e.2.1 e.2.2) = true := by decide +kernel
theorem zcm_41 : zMok 41 = true := by decide +kernel
theorem zck_42 : (zcs.getD 42 []).all (fun e => zOK 42 e.1 e.2.1 e.2.2) = true := by decide +kernel
theorem zcm_42 : zMok 42 = true := by decide +kernel
theorem zck_43_0 : ((zcs.getD 43 []).take 50).all (fun e => zOK 43 e.1 e.2.1 e.2.2) = true := by decide +kernel
theorem zck_43_1 : ((zcs.getD 43 []).drop 50).all (fun e => zOK 43 e.1 e.2.1 e.2.2) = true := by decide +kernel
theorem zck_43 : (zcs.getD 43 []).all (fun e => zOK 43 e.1 e.2.1 e.2.2) = true := (zck_cut 50 zck_43_0 zck_43_1)
theorem zcm_43 : zMok 43 = true := by decide +kernel
theorem zck_44 : (zcs.getD 44 []).all (fun e => zOK 44 e.1 e.2.1 e.2.2) = true := by decide +kernel
theorem zcm_44 : zMok 44 = true := by decide +kernel
theorem zck_45 : (zcs.getD 45 []).all (fun e => zOK 45 e.1 e.2.1 e.2.2) = true := by decide +kernel
theorem zcm_45 : zMok 45 = true := by decide +kernel
theorem zck_46 : (zcs.getD 46 []).all (fun e => zOK 46 e.1 e.2.1 e.2.2) = true := by decide +kernel
theorem zcm_46 : zMok 46 = true := by decide +kernel
theorem zck_47 : (zcs.getD 47 []).all (fun e => zOK 47 e.1 e.2.1 e.2.2) = true := by decide +kernel
theorem zcm_47 : zMok 47 = true := by decide +kernel
theorem zck_48 : (zcs.getD 48 []).all (fun e => zOK 48 e.1 e.2.1 e.2.2) = true := by decide +kernel
theorem zcm_48 : zMok 48 = true := by decide +kernel
theorem zck_49 : (zcs.getD 49 []).all (fun e => zOK 49 e.1 e.2.1 e.2.2) = true := by decide +kernel
theorem zcm_49 : zMok 49 = true := by decide +kernel
theorem zck_50 : (zcs.getD 50 []).all (fun e => zOK 50 e.1 e.2.1 e.2.2) = true := by decide +kernel
theorem zcm_50 : zMok 50 = true := by decide +kernel
theorem zck_51 : (zcs.getD 51 []).all (fun e => zOK 51 e.1 e.2.1 e.2.2) = true := by decide +kernel
theorem zcm_51 : zMok 51 = true := by decide +kernel
theorem zck_52 : (zcs.getD 52 []).all (fun e => zOK 52 e.1 e.2.1 e.2.2) = true := by decide +kernel
theorem zcm_52 : zMok 52 = true := by decide +kernel
theorem zck_53 : (zcs.getD 53 []).all (fun e => zOK 53 e.1 e.2.1 e.2.2) = true := by decide +kernel
theorem zcm_53 : zMok 53 = true := by decide +kernel
theorem zck_54 : (zcs.getD 54 []).all (fun e => zOK 54 e.1 e.2.1 e.2.2) = true := by decide +kernel
theorem zcm_54 : zMok 54 = true := by decide +kernel
theorem zck_55 : (zcs.getD 55 []).all (fun e => zOK 55 e.1 e.2.1 e.2.2) = true := by decide +kernel
theorem zcm_55 : zMok 55 = true := by decide +kernel
theorem zck_56 : (zcs.getD 56 []).all (fun e => zOK 56 e.1 e.2.1 e.2.2) = true := by decide +kernel
theorem zcm_56 : zMok 56 = true := by decide +kernel
theorem zck_57 : (zcs.getD 57 []).all (fun e => zOK 57 e.1 e.2.1 e.2.2) = true := by decide +kernel
theorem zcm_57 : zMok 57 = true := by decide +kernel
theorem zck_58 : (zcs.getD 58 []).all (fun e => zOK 58 e.1 e.2.1 e.2.2) = true := by decide +kernel
theorem zcm_58 : zMok 58 = true := by decide +kernel
theorem zck_59 : (zcs.getD 59 []).all (fun e => zOK 59 e.1 e.2.1 e.2.2) = true := by decide +kernel
theorem zcm_59 : zMok 59 = true := by decide +kernel
theorem zck_60 : (zcs.getD 60 []).all (fun e => zOK 60 e.1 e.2.1 e.2.2) = true := by decide +kernel
theorem zcm_60 : zMok 60 = true := by decide +kernel
