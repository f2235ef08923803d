theorem zck_61 : (zcs.getD 61 []).all (fun e => zOK 61 e.1 e.2.1 e.2.2) = true := by decide +kernel
theorem zcm_61 : zMok 61 = true := by decide +kernel
theorem zck_62 : (zcs.getD 62 []).all (fun e => zOK 62 e.1 e.2.1 e.2.2) = true := by decide +kernel
theorem zcm_62 : zMok 62 = true := by decide +kernel
theorem zck_63 : (zcs.getD 63 []).all (fun e => zOK 63 e.1 e.2.1 e.2.2) = true := by decide +kernel
theorem zcm_63 : zMok 63 = true := by decide +kernel
theorem zck_64 : (zcs.getD 64 []).all (fun e => zOK 64 e.1 e.2.1 e.2.2) = true := by decide +kernel
theorem zcm_64 : zMok 64 = true := by decide +kernel
theorem zck_65 : (zcs.getD 65 []).all (fun e => zOK 65 e.1 e.2.1 e.2.2) = true := by decide +kernel
theorem zcm_65 : zMok 65 = true := by decide +kernel
theorem zck_66 : (zcs.getD 66 []).all (fun e => zOK 66 e.1 e.2.1 e.2.2) = true := by decide +kernel
theorem zcm_66 : zMok 66 = true := by decide +kernel
theorem zck_67 : (zcs.getD 67 []).all (fun e => zOK 67 e.1 e.2.1 e.2.2) = true := by decide +kernel
theorem zcm_67 : zMok 67 = true := by decide +kernel
theorem zck_68 : (zcs.getD 68 []).all (fun e => zOK 68 e.1 e.2.1 e.2.2) = true := by decide +kernel
theorem zcm_68 : zMok 68 = true := by decide +kernel
theorem zck_69 : (zcs.getD 69 []).all (fun e => zOK 69 e.1 e.2.1 e.2.2) = true := by decide +kernel
theorem zcm_69 : zMok 69 = true := by decide +kernel
theorem zck_70 : (zcs.getD 70 []).all (fun e => zOK 70 e.1 e.2.1 e.2.2) = true := by decide +kernel
theorem zcm_70 : zMok 70 = true := by decide +kernel
theorem zck_71 : (zcs.getD 71 []).all (fun e => zOK 71 e.1 e.2.1 e.2.2) = true := by decide +kernel
theorem zcm_71 : zMok 71 = true := by decide +kernel
theorem zck_72 : (zcs.getD 72 []).all (fun e => zOK 72 e.1 e.2.1 e.2.2) = true := by decide +kernel
theorem zcm_72 : zMok 72 = true := by decide +kernel
theorem zck_73 : (zcs.getD 73 []).all (fun e => zOK 73 e.1 e.2.1 e.2.2) = true := by decide +kernel
theorem zcm_73 : zMok 73 = true := by decide +kernel
theorem zck_74 : (zcs.getD 74 []).all (fun e => zOK 74 e.1 e.2.1 e.2.2) = true := by decide +kernel
theorem zcm_74 : zMok 74 = true := by decide +kernel
theorem zck_75 : (zcs.getD 75 []).all (fun e => zOK 75 e.1 e.2.1 e.2.2) = true := by decide +kernel
theorem zcm_75 : zMok 75 = true := by decide +kernel
theorem zck_76 : (zcs.getD 76 []).all (fun e => zOK 76 e.1 e.2.1 e.2.2) = true := by decide +kernel
theorem zcm_76 : zMok 76 = true := by decide +kernel
theorem zck_77 : (zcs.getD 77 []).all (fun e => zOK 77 e.1 e.2.1 e.2.2) = true := by decide +kernel
theorem zcm_77 : zMok 77 = true := by decide +kernel
theorem zck_78 : (zcs.getD 78 []).all (fun e => zOK 78 e.1 e.2.1 e.2.2) = true := by decide +kernel
theorem zcm_78 : zMok 78 = true := by decide +kernel
theorem zck_79 : (zcs.getD 79 []).all (fun e => zOK 79 e.1 e.2.1 e.2.2) = true := by decide +kernel
theorem zcm_79 : zMok 79 = true := by decide +kernel
theorem zck_80 : (zcs.getD 80 []).all (fun e => zOK 80 e.1 e.2.1 e.2.2) = true := by decide +kernel
theorem zcm_80 : zMok 80 = true := by decide +kernel
theorem zck_81 : (zcs.getD 81 []).all (fun e => zOK 81 e.1 e.2.1 e.2.2) = true := by decide +kernel
theorem zcm_81 : zMok 81 = true := by decide +kernel
theorem zck_82 : (zcs.getD 82 []).all (fun e => zOK 82 e.1 e.2.1 e.2.2) = true := by decide +kernel
theorem zcm_82 : zMok 82 = true := by decide +kernel
theorem zck_83 : (zcs.getD 83 []).all (fun e => zOK 83 e.1 e.2.1 e.2.2) = true := by decide +kernel
theorem zcm_83 : zMok 83 = true := by decide +kernel
theorem zck_84 : (zcs.getD 84 []).all (fun e => zOK 84 e.1 e.2.1 e.2.2) = true := by decide +kernel
theorem zcm_84 : zMok 84 = true := by decide +kernel
theorem zck_85 : (zcs.getD 85 []).all (fun e => zOK 85 e.1 e.2.1 e.2.2) = true := by decide +kernel
theorem zcm_85 : zMok 85 = true := by decide +kernel
