theorem zck_133 : (zcs.getD 133 []).all (fun e => zOK 133 e.1 e.2.1 e.2.2) = true := by decide +kernel
theorem zcm_133 : zMok 133 = true := by decide +kernel
theorem zck_134 : (zcs.getD 134 []).all (fun e => zOK 134 e.1 e.2.1 e.2.2) = true := by decide +kernel
theorem zcm_134 : zMok 134 = true := by decide +kernel
theorem zck_135 : (zcs.getD 135 []).all (fun e => zOK 135 e.1 e.2.1 e.2.2) = true := by decide +kernel
theorem zcm_135 : zMok 135 = true := by decide +kernel
theorem zck_136 : (zcs.getD 136 []).all (fun e => zOK 136 e.1 e.2.1 e.2.2) = true := by decide +kernel
theorem zcm_136 : zMok 136 = true := by decide +kernel
theorem zck_137 : (zcs.getD 137 []).all (fun e => zOK 137 e.1 e.2.1 e.2.2) = true := by decide +kernel
theorem zcm_137 : zMok 137 = true := by decide +kernel
theorem zck_138 : (zcs.getD 138 []).all (fun e => zOK 138 e.1 e.2.1 e.2.2) = true := by decide +kernel
theorem zcm_138 : zMok 138 = true := by decide +kernel
theorem zck_139 : (zcs.getD 139 []).all (fun e => zOK 139 e.1 e.2.1 e.2.2) = true := by decide +kernel
theorem zcm_139 : zMok 139 = true := by decide +kernel
theorem zck_140 : (zcs.getD 140 []).all (fun e => zOK 140 e.1 e.2.1 e.2.2) = true := by decide +kernel
theorem zcm_140 : zMok 140 = true := by decide +kernel
theorem zck_141 : (zcs.getD 141 []).all (fun e => zOK 141 e.1 e.2.1 e.2.2) = true := by decide +kernel
theorem zcm_141 : zMok 141 = true := by decide +kernel
theorem zck_142 : (zcs.getD 142 []).all (fun e => zOK 142 e.1 e.2.1 e.2.2) = true := by decide +kernel
theorem zcm_142 : zMok 142 = true := by decide +kernel
theorem zck_143 : (zcs.getD 143 []).all (fun e => zOK 143 e.1 e.2.1 e.2.2) = true := by decide +kernel
theorem zcm_143 : zMok 143 = true := by decide +kernel
theorem zck_144 : (zcs.getD 144 []).all (fun e => zOK 144 e.1 e.2.1 e.2.2) = true := by decide +kernel
theorem zcm_144 : zMok 144 = true := by decide +kernel
theorem zck_145 : (zcs.getD 145 []).all (fun e => zOK 145 e.1 e.2.1 e.2.2) = true := by decide +kernel
theorem zcm_145 : zMok 145 = true := by decide +kernel
theorem zck_146 : (zcs.getD 146 []).all (fun e => zOK 146 e.1 e.2.1 e.2.2) = true := by decide +kernel
theorem zcm_146 : zMok 146 = true := by decide +kernel
theorem zck_147 : (zcs.getD 147 []).all (fun e => zOK 147 e.1 e.2.1 e.2.2) = true := by decide +kernel
theorem zcm_147 : zMok 147 = true := by decide +kernel
theorem zck_148 : (zcs.getD 148 []).all (fun e => zOK 148 e.1 e.2.1 e.2.2) = true := by decide +kernel
theorem zcm_148 : zMok 148 = true := by decide +kernel
theorem zck_149 : (zcs.getD 149 []).all (fun e => zOK 149 e.1 e.2.1 e.2.2) = true := by decide +kernel
theorem zcm_149 : zMok 149 = true := by decide +kernel
theorem zck_150 : (zcs.getD 150 []).all (fun e => zOK 150 e.1 e.2.1 e.2.2) = true := by decide +kernel
theorem zcm_150 : zMok 150 = true := by decide +kernel
theorem zck_151 : (zcs.getD 151 []).all (fun e => zOK 151 e.1 e.2.1 e.2.2) = true := by decide +kernel
theorem zcm_151 : zMok 151 = true := by decide +kernel
theorem zck_152 : (zcs.getD 152 []).all (fun e => zOK 152 e.1 e.2.1 e.2.2) = true := by decide +kernel
theorem zcm_152 : zMok 152 = true := by decide +kernel
theorem zck_153 : (zcs.getD 153 []).all (fun e => zOK 153 e.1 e.2.1 e.2.2) = true := by decide +kernel
theorem zcm_153 : zMok 153 = true := by decide +kernel
theorem zck_154 : (zcs.getD 154 []).all (fun e => zOK 154 e.1 e.2.1 e.2.2) = true := by decide +kernel
theorem zcm_154 : zMok 154 = true := by decide +kernel
theorem zck_155 : (zcs.getD 155 []).all (fun e => zOK 155 e.1 e.2.1 e.2.2) = true := by decide +kernel
theorem zcm_155 : zMok 155 = true := by decide +kernel
