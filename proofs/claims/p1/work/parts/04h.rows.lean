theorem zck_178_0 : ((zcs.getD 178 []).take 50).all (fun e => zOK 178 e.1 e.2.1 e.2.2) = true := by decide +kernel
theorem zck_178_1 : (((zcs.getD 178 []).drop 50).take 50).all (fun e => zOK 178 e.1 e.2.1 e.2.2) = true := by decide +kernel
theorem zck_178_2 : (((zcs.getD 178 []).drop 100).take 50).all (fun e => zOK 178 e.1 e.2.1 e.2.2) = true := by decide +kernel
theorem zck_178_3 : (((zcs.getD 178 []).drop 150).take 50).all (fun e => zOK 178 e.1 e.2.1 e.2.2) = true := by decide +kernel
theorem zck_178_4 : (((zcs.getD 178 []).drop 200).take 50).all (fun e => zOK 178 e.1 e.2.1 e.2.2) = true := by decide +kernel
theorem zck_178_5 : (((zcs.getD 178 []).drop 250).take 50).all (fun e => zOK 178 e.1 e.2.1 e.2.2) = true := by decide +kernel
theorem zck_178_6 : (((zcs.getD 178 []).drop 300).take 50).all (fun e => zOK 178 e.1 e.2.1 e.2.2) = true := by decide +kernel
theorem zck_178_7 : (((zcs.getD 178 []).drop 350).take 50).all (fun e => zOK 178 e.1 e.2.1 e.2.2) = true := by decide +kernel
theorem zck_178_8 : (((zcs.getD 178 []).drop 400).take 50).all (fun e => zOK 178 e.1 e.2.1 e.2.2) = true := by decide +kernel
theorem zck_178_9 : (((zcs.getD 178 []).drop 450).take 50).all (fun e => zOK 178 e.1 e.2.1 e.2.2) = true := by decide +kernel
theorem zck_178_10 : (((zcs.getD 178 []).drop 500).take 50).all (fun e => zOK 178 e.1 e.2.1 e.2.2) = true := by decide +kernel
theorem zck_178_11 : (((zcs.getD 178 []).drop 550).take 50).all (fun e => zOK 178 e.1 e.2.1 e.2.2) = true := by decide +kernel
theorem zck_178_12 : (((zcs.getD 178 []).drop 600).take 50).all (fun e => zOK 178 e.1 e.2.1 e.2.2) = true := by decide +kernel
theorem zck_178_13 : (((zcs.getD 178 []).drop 650).take 50).all (fun e => zOK 178 e.1 e.2.1 e.2.2) = true := by decide +kernel
theorem zck_178_14 : (((zcs.getD 178 []).drop 700).take 50).all (fun e => zOK 178 e.1 e.2.1 e.2.2) = true := by decide +kernel
theorem zck_178_15 : (((zcs.getD 178 []).drop 750).take 50).all (fun e => zOK 178 e.1 e.2.1 e.2.2) = true := by decide +kernel
theorem zck_178_16 : (((zcs.getD 178 []).drop 800).take 50).all (fun e => zOK 178 e.1 e.2.1 e.2.2) = true := by decide +kernel
theorem zck_178_17 : (((zcs.getD 178 []).drop 850).take 50).all (fun e => zOK 178 e.1 e.2.1 e.2.2) = true := by decide +kernel
theorem zck_178_18 : ((zcs.getD 178 []).drop 900).all (fun e => zOK 178 e.1 e.2.1 e.2.2) = true := by decide +kernel
theorem zck_178 : (zcs.getD 178 []).all (fun e => zOK 178 e.1 e.2.1 e.2.2) = true := (zck_cut 50 zck_178_0 (zck_cut 50 zck_178_1 (by rw [List.drop_drop]; exact (zck_cut 50 zck_178_2 (by rw [List.drop_drop]; exact (zck_cut 50 zck_178_3 (by rw [List.drop_drop]; exact (zck_cut 50 zck_178_4 (by rw [List.drop_drop]; exact (zck_cut 50 zck_178_5 (by rw [List.drop_drop]; exact (zck_cut 50 zck_178_6 (by rw [List.drop_drop]; exact (zck_cut 50 zck_178_7 (by rw [List.drop_drop]; exact (zck_cut 50 zck_178_8 (by rw [List.drop_drop]; exact (zck_cut 50 zck_178_9 (by rw [List.drop_drop]; exact (zck_cut 50 zck_178_10 (by rw [List.drop_drop]; exact (zck_cut 50 zck_178_11 (by rw [List.drop_drop]; exact (zck_cut 50 zck_178_12 (by rw [List.drop_drop]; exact (zck_cut 50 zck_178_13 (by rw [List.drop_drop]; exact (zck_cut 50 zck_178_14 (by rw [List.drop_drop]; exact (zck_cut 50 zck_178_15 (by rw [List.drop_drop]; exact (zck_cut 50 zck_178_16 (by rw [List.drop_drop]; exact (zck_cut 50 zck_178_17 (by rw [List.drop_drop]; exact zck_178_18)))))))))))))))))))))))))))))))))))
theorem zcm_178 : zMok 178 = true := by decide +kernel
