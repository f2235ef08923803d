theorem zck_111 : (zcs.getD 111 []).all (fun e => zOK 111 e.1 e.2.1 e.2.2) = true := by decide +kernel
theorem zcm_111 : zMok 111 = true := by decide +kernel
theorem zck_112 : (zcs.getD 112 []).all (fun e => zOK 112 e.1 e.2.1 e.2.2) = true := by decide +kernel
theorem zcm_112 : zMok 112 = true := by decide +kernel
theorem zck_113 : (zcs.getD 113 []).all (fun e => zOK 113 e.1 e.2.1 e.2.2) = true := by decide +kernel
theorem zcm_113 : zMok 113 = true := by decide +kernel
theorem zck_114 : (zcs.getD 114 []).all (fun e => zOK 114 e.1 e.2.1 e.2.2) = true := by decide +kernel
theorem zcm_114 : zMok 114 = true := by decide +kernel
theorem zck_115 : (zcs.getD 115 []).all (fun e => zOK 115 e.1 e.2.1 e.2.2) = true := by decide +kernel
theorem zcm_115 : zMok 115 = true := by decide +kernel
theorem zck_116 : (zcs.getD 116 []).all (fun e => zOK 116 e.1 e.2.1 e.2.2) = true := by decide +kernel
theorem zcm_116 : zMok 116 = true := by decide +kernel
theorem zck_117 : (zcs.getD 117 []).all (fun e => zOK 117 e.1 e.2.1 e.2.2) = true := by decide +kernel
theorem zcm_117 : zMok 117 = true := by decide +kernel
theorem zck_118 : (zcs.getD 118 []).all (fun e => zOK 118 e.1 e.2.1 e.2.2) = true := by decide +kernel
theorem zcm_118 : zMok 118 = true := by decide +kernel
theorem zck_119 : (zcs.getD 119 []).all (fun e => zOK 119 e.1 e.2.1 e.2.2) = true := by decide +kernel
theorem zcm_119 : zMok 119 = true := by decide +kernel
theorem zck_120 : (zcs.getD 120 []).all (fun e => zOK 120 e.1 e.2.1 e.2.2) = true := by decide +kernel
theorem zcm_120 : zMok 120 = true := by decide +kernel
theorem zck_121 : (zcs.getD 121 []).all (fun e => zOK 121 e.1 e.2.1 e.2.2) = true := by decide +kernel
theorem zcm_121 : zMok 121 = true := by decide +kernel
theorem zck_122 : (zcs.getD 122 []).all (fun e => zOK 122 e.1 e.2.1 e.2.2) = true := by decide +kernel
theorem zcm_122 : zMok 122 = true := by decide +kernel
theorem zck_123 : (zcs.getD 123 []).all (fun e => zOK 123 e.1 e.2.1 e.2.2) = true := by decide +kernel
theorem zcm_123 : zMok 123 = true := by decide +kernel
theorem zck_124 : (zcs.getD 124 []).all (fun e => zOK 124 e.1 e.2.1 e.2.2) = true := by decide +kernel
theorem zcm_124 : zMok 124 = true := by decide +kernel
theorem zck_125 : (zcs.getD 125 []).all (fun e => zOK 125 e.1 e.2.1 e.2.2) = true := by decide +kernel
theorem zcm_125 : zMok 125 = true := by decide +kernel
theorem zck_126 : (zcs.getD 126 []).all (fun e => zOK 126 e.1 e.2.1 e.2.2) = true := by decide +kernel
theorem zcm_126 : zMok 126 = true := by decide +kernel
theorem zck_127 : (zcs.getD 127 []).all (fun e => zOK 127 e.1 e.2.1 e.2.2) = true := by decide +kernel
theorem zcm_127 : zMok 127 = true := by decide +kernel
theorem zck_128 : (zcs.getD 128 []).all (fun e => zOK 128 e.1 e.2.1 e.2.2) = true := by decide +kernel
theorem zcm_128 : zMok 128 = true := by decide +kernel
theorem zck_129_0 : ((zcs.getD 129 []).take 50).all (fun e => zOK 129 e.1 e.2.1 e.2.2) = true := by decide +kernel
theorem zck_129_1 : ((zcs.getD 129 []).drop 50).all (fun e => zOK 129 e.1 e.2.1 e.2.2) = true := by decide +kernel
theorem zck_129 : (zcs.getD 129 []).all (fun e => zOK 129 e.1 e.2.1 e.2.2) = true := (zck_cut 50 zck_129_0 zck_129_1)
theorem zcm_129 : zMok 129 = true := by decide +kernel
theorem zck_130_0 : ((zcs.getD 130 []).take 50).all (fun e => zOK 130 e.1 e.2.1 e.2.2) = true := by decide +kernel
theorem zck_130_1 : ((zcs.getD 130 []).drop 50).all (fun e => zOK 130 e.1 e.2.1 e.2.2) = true := by decide +kernel
theorem zck_130 : (zcs.getD 130 []).all (fun e => zOK 130 e.1 e.2.1 e.2.2) = true := (zck_cut 50 zck_130_0 zck_130_1)
theorem zcm_130 : zMok 130 = true := by decide +kernel
theorem zck_131 : (zcs.getD 131 []).all (fun e => zOK 131 e.1 e.2.1 e.2.2) = true := by decide +kernel
theorem zcm_131 : zMok 131 = true := by decide +kernel
theorem zck_132 : (zcs.getD 132 []).all (fun e => zOK 132 e.1 e.2.1 e.2.2) = true := by decide +kernel
theorem zcm_132 : zMok 132 = true := by decide +kernel
