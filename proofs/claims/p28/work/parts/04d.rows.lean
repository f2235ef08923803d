theorem zck_86 : (zcs.getD 86 []).all (fun e => zOK 86 e.1 e.2.1 e.2.2) = true := by decide +kernel
theorem zcm_86 : zMok 86 = true := by decide +kernel
theorem zck_87 : (zcs.getD 87 []).all (fun e => zOK 87 e.1 e.2.1 e.2.2) = true := by decide +kernel
theorem zcm_87 : zMok 87 = true := by decide +kernel
theorem zck_88 : (zcs.getD 88 []).all (fun e => zOK 88 e.1 e.2.1 e.2.2) = true := by decide +kernel
theorem zcm_88 : zMok 88 = true := by decide +kernel
theorem zck_89 : (zcs.getD 89 []).all (fun e => zOK 89 e.1 e.2.1 e.2.2) = true := by decide +kernel
theorem zcm_89 : zMok 89 = true := by decide +kernel
theorem zck_90 : (zcs.getD 90 []).all (fun e => zOK 90 e.1 e.2.1 e.2.2) = true := by decide +kernel
theorem zcm_90 : zMok 90 = true := by decide +kernel
theorem zck_91 : (zcs.getD 91 []).all (fun e => zOK 91 e.1 e.2.1 e.2.2) = true := by decide +kernel
theorem zcm_91 : zMok 91 = true := by decide +kernel
theorem zck_92 : (zcs.getD 92 []).all (fun e => zOK 92 e.1 e.2.1 e.2.2) = true := by decide +kernel
theorem zcm_92 : zMok 92 = true := by decide +kernel
theorem zck_93_0 : ((zcs.getD 93 []).take 50).all (fun e => zOK 93 e.1 e.2.1 e.2.2) = true := by decide +kernel
theorem zck_93_1 : ((zcs.getD 93 []).drop 50).all (fun e => zOK 93 e.1 e.2.1 e.2.2) = true := by decide +kernel
theorem zck_93 : (zcs.getD 93 []).all (fun e => zOK 93 e.1 e.2.1 e.2.2) = true := (zck_cut 50 zck_93_0 zck_93_1)
theorem zcm_93 : zMok 93 = true := by decide +kernel
theorem zck_94 : (zcs.getD 94 []).all (fun e => zOK 94 e.1 e.2.1 e.2.2) = true := by decide +kernel
theorem zcm_94 : zMok 94 = true := by decide +kernel
theorem zck_95 : (zcs.getD 95 []).all (fun e => zOK 95 e.1 e.2.1 e.2.2) = true := by decide +kernel
theorem zcm_95 : zMok 95 = true := by decide +kernel
theorem zck_96_0 : ((zcs.getD 96 []).take 50).all (fun e => zOK 96 e.1 e.2.1 e.2.2) = true := by decide +kernel
theorem zck_96_1 : (((zcs.getD 96 []).drop 50).take 50).all (fun e => zOK 96 e.1 e.2.1 e.2.2) = true := by decide +kernel
theorem zck_96_2 : ((zcs.getD 96 []).drop 100).all (fun e => zOK 96 e.1 e.2.1 e.2.2) = true := by decide +kernel
theorem zck_96 : (zcs.getD 96 []).all (fun e => zOK 96 e.1 e.2.1 e.2.2) = true := (zck_cut 50 zck_96_0 (zck_cut 50 zck_96_1 (by rw [List.drop_drop]; exact zck_96_2)))
theorem zcm_96 : zMok 96 = true := by decide +kernel
theorem zck_97 : (zcs.getD 97 []).all (fun e => zOK 97 e.1 e.2.1 e.2.2) = true := by decide +kernel
theorem zcm_97 : zMok 97 = true := by decide +kernel
theorem zck_98 : (zcs.getD 98 []).all (fun e => zOK 98 e.1 e.2.1 e.2.2) = true := by decide +kernel
theorem zcm_98 : zMok 98 = true := by decide +kernel
theorem zck_99 : (zcs.getD 99 []).all (fun e => zOK 99 e.1 e.2.1 e.2.2) = true := by decide +kernel
theorem zcm_99 : zMok 99 = true := by decide +kernel
theorem zck_100 : (zcs.getD 100 []).all (fun e => zOK 100 e.1 e.2.1 e.2.2) = true := by decide +kernel
theorem zcm_100 : zMok 100 = true := by decide +kernel
