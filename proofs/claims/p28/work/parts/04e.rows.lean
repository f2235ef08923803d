theorem zck_101_0 : ((zcs.getD 101 []).take 50).all (fun e => zOK 101 e.1 e.2.1 e.2.2) = true := by decide +kernel
theorem zck_101_1 : (((zcs.getD 101 []).drop 50).take 50).all (fun e => zOK 101 e.1 e.2.1 e.2.2) = true := by decide +kernel
theorem zck_101_2 : (((zcs.getD 101 []).drop 100).take 50).all (fun e => zOK 101 e.1 e.2.1 e.2.2) = true := by decide +kernel
theorem zck_101_3 : (((zcs.getD 101 []).drop 150).take 50).all (fun e => zOK 101 e.1 e.2.1 e.2.2) = true := by decide +kernel
theorem zck_101_4 : (((zcs.getD 101 []).drop 200).take 50).all (fun e => zOK 101 e.1 e.2.1 e.2.2) = true := by decide +kernel
theorem zck_101_5 : (((zcs.getD 101 []).drop 250).take 50).all (fun e => zOK 101 e.1 e.2.1 e.2.2) = true := by decide +kernel
theorem zck_101_6 : (((zcs.getD 101 []).drop 300).take 50).all (fun e => zOK 101 e.1 e.2.1 e.2.2) = true := by decide +kernel
theorem zck_101_7 : (((zcs.getD 101 []).drop 350).take 50).all (fun e => zOK 101 e.1 e.2.1 e.2.2) = true := by decide +kernel
theorem zck_101_8 : (((zcs.getD 101 []).drop 400).take 50).all (fun e => zOK 101 e.1 e.2.1 e.2.2) = true := by decide +kernel
theorem zck_101_9 : (((zcs.getD 101 []).drop 450).take 50).all (fun e => zOK 101 e.1 e.2.1 e.2.2) = true := by decide +kernel
theorem zck_101_10 : (((zcs.getD 101 []).drop 500).take 50).all (fun e => zOK 101 e.1 e.2.1 e.2.2) = true := by decide +kernel
theorem zck_101_11 : ((zcs.getD 101 []).drop 550).all (fun e => zOK 101 e.1 e.2.1 e.2.2) = true := by decide +kernel
theorem zck_101 : (zcs.getD 101 []).all (fun e => zOK 101 e.1 e.2.1 e.2.2) = true := (zck_cut 50 zck_101_0 (zck_cut 50 zck_101_1 (by rw [List.drop_drop]; exact (zck_cut 50 zck_101_2 (by rw [List.drop_drop]; exact (zck_cut 50 zck_101_3 (by rw [List.drop_drop]; exact (zck_cut 50 zck_101_4 (by rw [List.drop_drop]; exact (zck_cut 50 zck_101_5 (by rw [List.drop_drop]; exact (zck_cut 50 zck_101_6 (by rw [List.drop_drop]; exact (zck_cut 50 zck_101_7 (by rw [List.drop_drop]; exact (zck_cut 50 zck_101_8 (by rw [List.drop_drop]; exact (zck_cut 50 zck_101_9 (by rw [List.drop_drop]; exact (zck_cut 50 zck_101_10 (by rw [List.drop_drop]; exact zck_101_11)))))))))))))))))))))
theorem zcm_101 : zMok 101 = true := by decide +kernel
