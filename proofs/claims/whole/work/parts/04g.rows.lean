theorem zck_156_0 : ((zcs.getD 156 []).take 50).all (fun e => zOK 156 e.1 e.2.1 e.2.2) = true := by decide +kernel
theorem zck_156_1 : (((zcs.getD 156 []).drop 50).take 50).all (fun e => zOK 156 e.1 e.2.1 e.2.2) = true := by decide +kernel
theorem zck_156_2 : (((zcs.getD 156 []).drop 100).take 50).all (fun e => zOK 156 e.1 e.2.1 e.2.2) = true := by decide +kernel
theorem zck_156_3 : (((zcs.getD 156 []).drop 150).take 50).all (fun e => zOK 156 e.1 e.2.1 e.2.2) = true := by decide +kernel
theorem zck_156_4 : ((zcs.getD 156 []).drop 200).all (fun e => zOK 156 e.1 e.2.1 e.2.2) = true := by decide +kernel
theorem zck_156 : (zcs.getD 156 []).all (fun e => zOK 156 e.1 e.2.1 e.2.2) = true := (zck_cut 50 zck_156_0 (zck_cut 50 zck_156_1 (by rw [List.drop_drop]; exact (zck_cut 50 zck_156_2 (by rw [List.drop_drop]; exact (zck_cut 50 zck_156_3 (by rw [List.drop_drop]; exact zck_156_4)))))))
theorem zcm_156 : zMok 156 = true := by decide +kernel
