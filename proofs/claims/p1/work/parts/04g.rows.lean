theorem zck_156_0 : ((zcs.getD 156 []).take 50).all (fun e => zOK 156 e.1 e.2.1 e.2.2) = true := by decide +kernel
theorem zck_156_1 : (((zcs.getD 156 []).drop 50).take 50).all (fun e => zOK 156 e.1 e.2.1 e.2.2) = true := by decide +kernel
theorem zck_156_2 : (((zcs.getD 156 []).drop 100).take 50).all (fun e => zOK 156 e.1 e.2.1 e.2.2) = true := by decide +kernel
theorem zck_156_3 : (((zcs.getD 156 []).drop 150).take 50).all (fun e => zOK 156 e.1 e.2.1 e.2.2) = true := by decide +kernel
theorem zck_156_4 : ((zcs.getD 156 []).drop 200).all (fun e => zOK 156 e.1 e.2.1 e.2.2) = true := by decide +kernel
theorem zck_156 : (zcs.getD 156 []).all (fun e => zOK 156 e.1 e.2.1 e.2.2) = true := (zck_cut 50 zck_156_0 (zck_cut 50 zck_156_1 (by rw [List.drop_drop]; exact (zck_cut 50 zck_156_2 (by rw [List.drop_drop]; exact (zck_cut 50 zck_156_3 (by rw [List.drop_drop]; exact zck_156_4)))))))
theorem zcm_156 : zMok 156 = true := by decide +kernel
theorem zck_157 : (zcs.getD 157 []).all (fun e => zOK 157 e.1 e.2.1 e.2.2) = true := by decide +kernel
theorem zcm_157 : zMok 157 = true := by decide +kernel
theorem zck_158 : (zcs.getD 158 []).all (fun e => zOK 158 e.1 e.2.1 e.2.2) = true := by decide +kernel
theorem zcm_158 : zMok 158 = true := by decide +kernel
theorem zck_159 : (zcs.getD 159 []).all (fun e => zOK 159 e.1 e.2.1 e.2.2) = true := by decide +kernel
theorem zcm_159 : zMok 159 = true := by decide +kernel
theorem zck_160 : (zcs.getD 160 []).all (fun e => zOK 160 e.1 e.2.1 e.2.2) = true := by decide +kernel
theorem zcm_160 : zMok 160 = true := by decide +kernel
theorem zck_161 : (zcs.getD 161 []).all (fun e => zOK 161 e.1 e.2.1 e.2.2) = true := by decide +kernel
theorem zcm_161 : zMok 161 = true := by decide +kernel
theorem zck_162 : (zcs.getD 162 []).all (fun e => zOK 162 e.1 e.2.1 e.2.2) = true := by decide +kernel
theorem zcm_162 : zMok 162 = true := by decide +kernel
theorem zck_163 : (zcs.getD 163 []).all (fun e => zOK 163 e.1 e.2.1 e.2.2) = true := by decide +kernel
theorem zcm_163 : zMok 163 = true := by decide +kernel
theorem zck_164 : (zcs.getD 164 []).all (fun e => zOK 164 e.1 e.2.1 e.2.2) = true := by decide +kernel
theorem zcm_164 : zMok 164 = true := by decide +kernel
theorem zck_165 : (zcs.getD 165 []).all (fun e => zOK 165 e.1 e.2.1 e.2.2) = true := by decide +kernel
theorem zcm_165 : zMok 165 = true := by decide +kernel
theorem zck_166 : (zcs.getD 166 []).all (fun e => zOK 166 e.1 e.2.1 e.2.2) = true := by decide +kernel
theorem zcm_166 : zMok 166 = true := by decide +kernel
theorem zck_167 : (zcs.getD 167 []).all (fun e => zOK 167 e.1 e.2.1 e.2.2) = true := by decide +kernel
theorem zcm_167 : zMok 167 = true := by decide +kernel
theorem zck_168 : (zcs.getD 168 []).all (fun e => zOK 168 e.1 e.2.1 e.2.2) = true := by decide +kernel
theorem zcm_168 : zMok 168 = true := by decide +kernel
theorem zck_169 : (zcs.getD 169 []).all (fun e => zOK 169 e.1 e.2.1 e.2.2) = true := by decide +kernel
theorem zcm_169 : zMok 169 = true := by decide +kernel
theorem zck_170 : (zcs.getD 170 []).all (fun e => zOK 170 e.1 e.2.1 e.2.2) = true := by decide +kernel
theorem zcm_170 : zMok 170 = true := by decide +kernel
theorem zck_171 : (zcs.getD 171 []).all (fun e => zOK 171 e.1 e.2.1 e.2.2) = true := by decide +kernel
theorem zcm_171 : zMok 171 = true := by decide +kernel
theorem zck_172 : (zcs.getD 172 []).all (fun e => zOK 172 e.1 e.2.1 e.2.2) = true := by decide +kernel
theorem zcm_172 : zMok 172 = true := by decide +kernel
theorem zck_173 : (zcs.getD 173 []).all (fun e => zOK 173 e.1 e.2.1 e.2.2) = true := by decide +kernel
theorem zcm_173 : zMok 173 = true := by decide +kernel
theorem zck_174 : (zcs.getD 174 []).all (fun e => zOK 174 e.1 e.2.1 e.2.2) = true := by decide +kernel
theorem zcm_174 : zMok 174 = true := by decide +kernel
theorem zck_175 : (zcs.getD 175 []).all (fun e => zOK 175 e.1 e.2.1 e.2.2) = true := by decide +kernel
theorem zcm_175 : zMok 175 = true := by decide +kernel
theorem zck_176 : (zcs.getD 176 []).all (fun e => zOK 176 e.1 e.2.1 e.2.2) = true := by decide +kernel
theorem zcm_176 : zMok 176 = true := by decide +kernel
theorem zck_177 : (zcs.getD 177 []).all (fun e => zOK 177 e.1 e.2.1 e.2.2) = true := by decide +kernel
theorem zcm_177 : zMok 177 = true := by decide +kernel
