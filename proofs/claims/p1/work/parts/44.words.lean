/-! the words of a throw, among the table's (printed by program) -/
def zexw : List Jvm.Cond := zdecl.map Cond.declares ++ zcast.map (fun q => Cond.castable q.1 q.2)
def zexn : List String := ["java/lang/RuntimeException", "java/lang/Exception"]
def zpk (ps : List Nat) : List Jvm.Cond := ps.filterMap (fun p => (zchk.getD (p / 60) [])[p % 60]?)
theorem zpk_in {ps : List Nat} {w : Jvm.Cond} (h : w ∈ zpk ps) : w ∈ zall := by
  obtain ⟨p, -, hp⟩ := List.mem_filterMap.mp h
  exact zchk_in _ w (List.mem_of_getElem? hp)
def zik_IAE : Nat := 64
def zic_IAE : Nat := 68
def zcn_IAE : String := "java/lang/IllegalArgumentException"
theorem zexg_IAE : (vx_atS "Nightjar" 68 "java/lang/IllegalArgumentException" zexn).filter goodWord = zpk [893, 914, 921, 924, 926, 928, 915, 916, 3, 4, 917, 920, 925, 942, 904, 943, 906, 944, 908, 918, 919, 910, 939, 940, 941, 910, 930, 931, 932, 933, 933, 934, 935, 936, 936, 937, 938, 939, 929, 900, 901, 902, 903, 905, 907, 909, 913, 912, 911] := by decide +kernel
theorem zexb_IAE : (vx_atS "Nightjar" 68 "java/lang/IllegalArgumentException" zexn).filter (fun w => !goodWord w) = [1, 3, 5, 6].filterMap (fun i => zexw[i]?) := by decide +kernel
theorem zexo_IAE : (Cond.classLink "Nightjar" 64 "java/lang/IllegalArgumentException" :: Cond.initialized "java/lang/IllegalArgumentException" :: vx_atS "Nightjar" 68 "java/lang/IllegalArgumentException" zexn).all vx_ot = true := by decide +kernel
theorem zexk_IAE : zw 899 (.classLink "Nightjar" 64 "java/lang/IllegalArgumentException") = true := by decide +kernel
theorem zexi_IAE : zw 896 (.initialized "java/lang/IllegalArgumentException") = true := by decide +kernel
def zik_ISE : Nat := 75
def zic_ISE : Nat := 79
def zcn_ISE : String := "java/lang/IllegalStateException"
theorem zexg_ISE : (vx_atS "Nightjar" 79 "java/lang/IllegalStateException" zexn).filter goodWord = zpk [893, 914, 921, 924, 926, 928, 915, 916, 3, 4, 917, 920, 925, 942, 904, 943, 906, 944, 908, 918, 919, 910, 939, 940, 941, 910, 974, 975, 976, 933, 933, 934, 935, 936, 936, 937, 938, 939, 973, 966, 967, 922, 968, 969, 970, 971, 913, 912, 972] := by decide +kernel
theorem zexb_ISE : (vx_atS "Nightjar" 79 "java/lang/IllegalStateException" zexn).filter (fun w => !goodWord w) = [1, 3, 5, 8].filterMap (fun i => zexw[i]?) := by decide +kernel
theorem zexo_ISE : (Cond.classLink "Nightjar" 75 "java/lang/IllegalStateException" :: Cond.initialized "java/lang/IllegalStateException" :: vx_atS "Nightjar" 79 "java/lang/IllegalStateException" zexn).all vx_ot = true := by decide +kernel
theorem zexk_ISE : zw 965 (.classLink "Nightjar" 75 "java/lang/IllegalStateException") = true := by decide +kernel
theorem zexi_ISE : zw 897 (.initialized "java/lang/IllegalStateException") = true := by decide +kernel
def zik_IOB : Nat := 139
def zic_IOB : Nat := 143
def zcn_IOB : String := "java/lang/IndexOutOfBoundsException"
theorem zexg_IOB : (vx_atS "Nightjar" 143 "java/lang/IndexOutOfBoundsException" zexn).filter goodWord = zpk [893, 914, 921, 924, 926, 928, 915, 916, 3, 4, 917, 920, 925, 942, 904, 943, 906, 944, 908, 918, 919, 910, 939, 940, 941, 910, 956, 957, 958, 933, 933, 934, 935, 936, 936, 937, 938, 939, 955, 948, 949, 923, 950, 951, 952, 953, 913, 912, 954] := by decide +kernel
theorem zexb_IOB : (vx_atS "Nightjar" 143 "java/lang/IndexOutOfBoundsException" zexn).filter (fun w => !goodWord w) = [1, 3, 5, 7].filterMap (fun i => zexw[i]?) := by decide +kernel
theorem zexo_IOB : (Cond.classLink "Nightjar" 139 "java/lang/IndexOutOfBoundsException" :: Cond.initialized "java/lang/IndexOutOfBoundsException" :: vx_atS "Nightjar" 143 "java/lang/IndexOutOfBoundsException" zexn).all vx_ot = true := by decide +kernel
theorem zexk_IOB : zw 947 (.classLink "Nightjar" 139 "java/lang/IndexOutOfBoundsException") = true := by decide +kernel
theorem zexi_IOB : zw 898 (.initialized "java/lang/IndexOutOfBoundsException") = true := by decide +kernel
