theorem zi_101_855 : zI 101 855 = some (.iload 14, []) := by decide +kernel
theorem zi_101_857 : zI 101 857 = some (.aload_n 2, []) := by decide +kernel
theorem zi_101_858 : zI 101 858 = some (.getfield 86, [7, 6, 557]) := by decide +kernel
theorem zi_101_861 : zI 101 861 = some (.arraylength, []) := by decide +kernel
theorem zi_101_862 : zI 101 862 = some (.if_icmp .ge 163, [1025]) := by decide +kernel
theorem zi_101_865 : zI 101 865 = some (.aload_n 3, []) := by decide +kernel
theorem zi_101_866 : zI 101 866 = some (.iload 14, []) := by decide +kernel
theorem zi_101_868 : zI 101 868 = some (.invokevirtual 61, [28, 0, 1, 6, 480, 481, 9, 479, 0, 538]) := by decide +kernel
theorem zi_101_871 : zI 101 871 = some (.istore 15, []) := by decide +kernel
theorem zi_101_873 : zI 101 873 = some (.iconst 0, []) := by decide +kernel
theorem zi_101_874 : zI 101 874 = some (.istore 16, []) := by decide +kernel
theorem zi_101_876 : zI 101 876 = some (.iload 16, []) := by decide +kernel
theorem zi_101_878 : zI 101 878 = some (.iload 15, []) := by decide +kernel
theorem zi_101_880 : zI 101 880 = some (.if_icmp .ge 139, [1019]) := by decide +kernel
theorem zi_101_883 : zI 101 883 = some (.aload_n 3, []) := by decide +kernel
theorem zi_101_884 : zI 101 884 = some (.iload 14, []) := by decide +kernel
theorem zi_101_886 : zI 101 886 = some (.iload 16, []) := by decide +kernel
theorem zi_101_888 : zI 101 888 = some (.iconst 0, []) := by decide +kernel
theorem zi_101_889 : zI 101 889 = some (.invokevirtual 90, [8, 0, 3, 6, 484, 485, 9, 483, 0, 558]) := by decide +kernel
theorem zi_101_892 : zI 101 892 = some (.istore 17, []) := by decide +kernel
theorem zi_101_894 : zI 101 894 = some (.iload 17, []) := by decide +kernel
theorem zi_101_896 : zI 101 896 = some (.iload 14, []) := by decide +kernel
theorem zi_101_898 : zI 101 898 = some (.if_icmp .eq 113, [1011]) := by decide +kernel
theorem zi_101_901 : zI 101 901 = some (.aload_n 3, []) := by decide +kernel
theorem zi_101_902 : zI 101 902 = some (.iload 14, []) := by decide +kernel
theorem zi_101_904 : zI 101 904 = some (.iload 16, []) := by decide +kernel
theorem zi_101_906 : zI 101 906 = some (.iconst 1, []) := by decide +kernel
theorem zi_101_907 : zI 101 907 = some (.invokevirtual 90, [8, 0, 3, 6, 484, 485, 9, 483, 0, 558]) := by decide +kernel
theorem zi_101_910 : zI 101 910 = some (.aload_n 3, []) := by decide +kernel
theorem zi_101_911 : zI 101 911 = some (.iload 14, []) := by decide +kernel
theorem zi_101_913 : zI 101 913 = some (.iconst 2, []) := by decide +kernel
theorem zi_101_914 : zI 101 914 = some (.invokevirtual 43, [10, 0, 2, 6, 468, 469, 9, 467, 0, 526]) := by decide +kernel
theorem zi_101_917 : zI 101 917 = some (.if_icmp .gt 94, [1011]) := by decide +kernel
theorem zi_101_920 : zI 101 920 = some (.aload_n 3, []) := by decide +kernel
theorem zi_101_921 : zI 101 921 = some (.iload 14, []) := by decide +kernel
theorem zi_101_923 : zI 101 923 = some (.iload 16, []) := by decide +kernel
theorem zi_101_925 : zI 101 925 = some (.iconst 1, []) := by decide +kernel
theorem zi_101_926 : zI 101 926 = some (.invokevirtual 90, [8, 0, 3, 6, 484, 485, 9, 483, 0, 558]) := by decide +kernel
theorem zi_101_929 : zI 101 929 = some (.iconst 1, []) := by decide +kernel
theorem zi_101_930 : zI 101 930 = some (.if_icmp .lt 81, [1011]) := by decide +kernel
theorem zi_101_933 : zI 101 933 = some (.aload_n 3, []) := by decide +kernel
theorem zi_101_934 : zI 101 934 = some (.iload 14, []) := by decide +kernel
theorem zi_101_936 : zI 101 936 = some (.iload 16, []) := by decide +kernel
theorem zi_101_938 : zI 101 938 = some (.iconst 2, []) := by decide +kernel
theorem zi_101_939 : zI 101 939 = some (.invokevirtual 90, [8, 0, 3, 6, 484, 485, 9, 483, 0, 558]) := by decide +kernel
theorem zi_101_942 : zI 101 942 = some (.iload 8, []) := by decide +kernel
theorem zi_101_944 : zI 101 944 = some (.aload_n 3, []) := by decide +kernel
theorem zi_101_945 : zI 101 945 = some (.iload 14, []) := by decide +kernel
theorem zi_101_947 : zI 101 947 = some (.iconst 2, []) := by decide +kernel
theorem zi_101_948 : zI 101 948 = some (.invokevirtual 43, [10, 0, 2, 6, 468, 469, 9, 467, 0, 526]) := by decide +kernel
theorem zi_101_951 : zI 101 951 = some (.isub, []) := by decide +kernel
theorem zi_101_952 : zI 101 952 = some (.if_icmp .gt 59, [1011]) := by decide +kernel
theorem zi_101_955 : zI 101 955 = some (.aload_n 3, []) := by decide +kernel
theorem zi_101_956 : zI 101 956 = some (.iload 14, []) := by decide +kernel
theorem zi_101_958 : zI 101 958 = some (.iload 16, []) := by decide +kernel
theorem zi_101_960 : zI 101 960 = some (.iconst 3, []) := by decide +kernel
theorem zi_101_961 : zI 101 961 = some (.invokevirtual 90, [8, 0, 3, 6, 484, 485, 9, 483, 0, 558]) := by decide +kernel
theorem zi_101_964 : zI 101 964 = some (.iconst 1, []) := by decide +kernel
theorem zi_101_965 : zI 101 965 = some (.if_icmp .lt 46, [1011]) := by decide +kernel
theorem zi_101_968 : zI 101 968 = some (.aload_n 3, []) := by decide +kernel
theorem zi_101_969 : zI 101 969 = some (.iload 14, []) := by decide +kernel
theorem zi_101_971 : zI 101 971 = some (.iload 16, []) := by decide +kernel
theorem zi_101_973 : zI 101 973 = some (.iconst 3, []) := by decide +kernel
theorem zi_101_974 : zI 101 974 = some (.invokevirtual 90, [8, 0, 3, 6, 484, 485, 9, 483, 0, 558]) := by decide +kernel
theorem zi_101_977 : zI 101 977 = some (.sipush 1000, []) := by decide +kernel
theorem zi_101_980 : zI 101 980 = some (.if_icmp .gt 31, [1011]) := by decide +kernel
theorem zi_101_983 : zI 101 983 = some (.iload 16, []) := by decide +kernel
theorem zi_101_985 : zI 101 985 = some (.ifCond .le 28, [1013]) := by decide +kernel
theorem zi_101_988 : zI 101 988 = some (.aload_n 3, []) := by decide +kernel
theorem zi_101_989 : zI 101 989 = some (.iload 14, []) := by decide +kernel
theorem zi_101_991 : zI 101 991 = some (.iload 16, []) := by decide +kernel
theorem zi_101_993 : zI 101 993 = some (.iconst 3, []) := by decide +kernel
theorem zi_101_994 : zI 101 994 = some (.invokevirtual 90, [8, 0, 3, 6, 484, 485, 9, 483, 0, 558]) := by decide +kernel
theorem zi_101_997 : zI 101 997 = some (.aload_n 3, []) := by decide +kernel
theorem zi_101_998 : zI 101 998 = some (.iload 14, []) := by decide +kernel
theorem zi_101_1000 : zI 101 1000 = some (.iload 16, []) := by decide +kernel
theorem zi_101_1002 : zI 101 1002 = some (.iconst 1, []) := by decide +kernel
theorem zi_101_1003 : zI 101 1003 = some (.isub, []) := by decide +kernel
theorem zi_101_1004 : zI 101 1004 = some (.iconst 3, []) := by decide +kernel
theorem zi_101_1005 : zI 101 1005 = some (.invokevirtual 90, [8, 0, 3, 6, 484, 485, 9, 483, 0, 558]) := by decide +kernel
theorem zi_101_1008 : zI 101 1008 = some (.if_icmp .le 5, [1013]) := by decide +kernel
theorem zi_101_1013 : zI 101 1013 = some (.iinc 16 1, []) := by decide +kernel
theorem zi_101_1016 : zI 101 1016 = some (.goto (-140), [876]) := by decide +kernel
theorem zi_101_1019 : zI 101 1019 = some (.iinc 14 1, []) := by decide +kernel
theorem zi_101_1022 : zI 101 1022 = some (.goto (-167), [855]) := by decide +kernel
theorem zi_101_1028 : zI 101 1028 = some (.iload 14, []) := by decide +kernel
theorem zi_101_1030 : zI 101 1030 = some (.aload_n 3, []) := by decide +kernel
theorem zi_101_1031 : zI 101 1031 = some (.iconst 5, []) := by decide +kernel
theorem zi_101_1032 : zI 101 1032 = some (.invokevirtual 31, [15, 0, 1, 6, 232, 233, 9, 231, 0, 523]) := by decide +kernel
theorem zi_101_1035 : zI 101 1035 = some (.if_icmp .ge 74, [1109]) := by decide +kernel
theorem zi_101_1038 : zI 101 1038 = some (.aload_n 3, []) := by decide +kernel
theorem zi_101_1039 : zI 101 1039 = some (.iload 14, []) := by decide +kernel
theorem zi_101_1041 : zI 101 1041 = some (.iconst 2, []) := by decide +kernel
theorem zi_101_1042 : zI 101 1042 = some (.invokevirtual 94, [13, 0, 2, 6, 255, 256, 9, 254, 0, 559]) := by decide +kernel
theorem zi_101_1045 : zI 101 1045 = some (.iconst 3, []) := by decide +kernel
theorem zi_101_1046 : zI 101 1046 = some (.if_icmp .lt 55, [1101]) := by decide +kernel
theorem zi_101_1049 : zI 101 1049 = some (.aload_n 3, []) := by decide +kernel
theorem zi_101_1050 : zI 101 1050 = some (.iload 14, []) := by decide +kernel
theorem zi_101_1052 : zI 101 1052 = some (.iconst 2, []) := by decide +kernel
theorem zi_101_1053 : zI 101 1053 = some (.invokevirtual 94, [13, 0, 2, 6, 255, 256, 9, 254, 0, 559]) := by decide +kernel
theorem zi_101_1056 : zI 101 1056 = some (.aload_n 3, []) := by decide +kernel
theorem zi_101_1057 : zI 101 1057 = some (.aload_n 3, []) := by decide +kernel
theorem zi_101_1058 : zI 101 1058 = some (.iload 14, []) := by decide +kernel
theorem zi_101_1060 : zI 101 1060 = some (.iconst 1, []) := by decide +kernel
theorem zi_101_1061 : zI 101 1061 = some (.invokevirtual 94, [13, 0, 2, 6, 255, 256, 9, 254, 0, 559]) := by decide +kernel
theorem zi_101_1064 : zI 101 1064 = some (.aload_n 3, []) := by decide +kernel
theorem zi_101_1065 : zI 101 1065 = some (.iload 14, []) := by decide +kernel
theorem zi_101_1067 : zI 101 1067 = some (.iconst 0, []) := by decide +kernel
theorem zi_101_1068 : zI 101 1068 = some (.invokevirtual 94, [13, 0, 2, 6, 255, 256, 9, 254, 0, 559]) := by decide +kernel
theorem zi_101_1071 : zI 101 1071 = some (.invokevirtual 97, [90, 0, 2, 6, 562, 563, 9, 561, 0, 560]) := by decide +kernel
theorem zi_101_1074 : zI 101 1074 = some (.if_icmp .ne 27, [1101]) := by decide +kernel
theorem zi_101_1077 : zI 101 1077 = some (.iload 14, []) := by decide +kernel
theorem zi_101_1079 : zI 101 1079 = some (.ifCond .le 24, [1103]) := by decide +kernel
theorem zi_101_1082 : zI 101 1082 = some (.aload_n 3, []) := by decide +kernel
theorem zi_101_1083 : zI 101 1083 = some (.iload 14, []) := by decide +kernel
theorem zi_101_1085 : zI 101 1085 = some (.iconst 0, []) := by decide +kernel
theorem zi_101_1086 : zI 101 1086 = some (.invokevirtual 94, [13, 0, 2, 6, 255, 256, 9, 254, 0, 559]) := by decide +kernel
theorem zi_101_1089 : zI 101 1089 = some (.aload_n 3, []) := by decide +kernel
theorem zi_101_1090 : zI 101 1090 = some (.iload 14, []) := by decide +kernel
theorem zi_101_1092 : zI 101 1092 = some (.iconst 1, []) := by decide +kernel
theorem zi_101_1093 : zI 101 1093 = some (.isub, []) := by decide +kernel
theorem zi_101_1094 : zI 101 1094 = some (.iconst 0, []) := by decide +kernel
theorem zi_101_1095 : zI 101 1095 = some (.invokevirtual 94, [13, 0, 2, 6, 255, 256, 9, 254, 0, 559]) := by decide +kernel
theorem zi_101_1098 : zI 101 1098 = some (.if_icmp .ge 5, [1103]) := by decide +kernel
theorem zi_101_1103 : zI 101 1103 = some (.iinc 14 1, []) := by decide +kernel
theorem zi_101_1106 : zI 101 1106 = some (.goto (-78), [1028]) := by decide +kernel
/-! the law: what it asks of causes and spikes -/
theorem zBD_le {M K : Nat → Int32} {t c m : Nat} : zcnt (zB M c) m - zcnt (zD M K t c) m ≤ m - zcnt (fun j => decide (K j = nI t)) m ∧ zcnt (zD M K t c) m ≤ zcnt (zB M c) m ∧ zcnt (zD M K t c) m ≤ zcnt (fun j => decide (K j = nI t)) m ∧ zcnt (fun j => decide (K j = nI t)) m ≤ m ∧ zcnt (zB M c) m ≤ m := by
  have h1 := zcnt_add (p := zB M c) (q := zD M K t c) (r := fun j => zB M c j && !zTm K t j) (n := m) (fun j _ => by
    by_cases w1 : K j = nI t <;> by_cases w2 : M j &&& zbit (nI c) = 0 <;> simp [zD, zB, zTm, w1, w2])
  have h2 := zcnt_not (zTm K t) m
  have h3 := zcnt_imp (p := fun j => zB M c j && !zTm K t j) (q := fun j => !zTm K t j) (n := m) (fun j _ w => by
    simp only [Bool.and_eq_true] at w
    exact w.2)
  have h4 : zcnt (zD M K t c) m ≤ zcnt (zTm K t) m := zcnt_imp fun j _ w => by
    simp only [zD, zTm, decide_eq_true_eq] at w ⊢
    exact w.1
  have h5 : zcnt (zTm K t) m ≤ m := zcnt_le _ _
  have h6 : zcnt (zB M c) m ≤ m := zcnt_le _ _
  have h7 : zcnt (fun j => decide (K j = nI t)) m = zcnt (zTm K t) m := rfl
  omega
section
theorem l_cau2 {o : Nat} {h : zH} {F : Nat → Nat → Int32} {g : Nat → Nat} {x : Nat → Nat} {sh gp wi bk rl rt e u d : Nat} {T1 T4 : Int32} {D : Int64} {Q : zR → Prop} {X10 X11 X12 : Option Value} {X13 : Int32} (w : zOw o h F (g 0) (g 1) (g 2) sh gp wi bk rl rt e u d) (q : zOk F g x sh gp wi bk) {t N : Nat} {R sv : Nat → Nat} (ht : t < g 2) (hr : zrk F (fun c => zcnt (zD (F 24) (F 5) t c) (g 1)) t (g 2) N R sv) (k : ∀ X17, zev 101 855 [some (.ref 0), some (.int T1), some (.ref o), some (.ref (o + 1)), some (.int T4), some (.long D), none, some (.int (nI (g 0))), some (.int (nI (g 1))), some (.int (nI (g 4))), X10, X11, X12, some (.int X13), some (.int (nI (t + 1))), some (.int (nI N)), some (.int (nI N)), X17] [] (nput (o + 1) F g h) Q) (i : Nat) (hi : i ≤ N) (X17 : Option Value) : zev 101 876 [some (.ref 0), some (.int T1), some (.ref o), some (.ref (o + 1)), some (.int T4), some (.long D), none, some (.int (nI (g 0))), some (.int (nI (g 1))), some (.int (nI (g 4))), X10, X11, X12, some (.int X13), some (.int (nI t)), some (.int (nI N)), some (.int (nI i)), X17] [] (nput (o + 1) F g h) Q := by
  have hb := w.hb
  have hn := q.nb.n70
  have hmn := q.nb.mn
  have hT := q.nb.t20
  have hr0 := hr
  obtain ⟨r1, r2, r3, r4⟩ := hr0
  rcases Nat.lt_or_ge i N with hiN | hiN
  · have next := l_cau2 w q ht hr k (i + 1) hiN
    obtain ⟨a, ha8, ha⟩ := q.nb.ts t ht
    obtain ⟨k1, k2, k3, k4, k5, k6, k7⟩ := r3 i hiN
    have hBD := zBD_le (M := F 24) (K := F 5) (t := t) (c := R i) (m := g 1)
    have c0 := c_cause0 hb q t i N ht _ R sv hr hiN
    have c1 := c_cause1 hb q t i N ht _ R sv hr hiN
    rw [q.to.ta.2.1 t (R i) (by omega) k2] at c1
    have c2 := c_cause2 hb q t i N ht _ R sv hr hiN
    rw [q.to.ta.2.1 t (R i) (by omega) k2, q.to.ta.1 (R i) k2, pk_sub hBD.2.1] at c2
    have c3 := c_cause3 hb q t i N ht _ R sv hr hiN
    rw [k4] at c3
    have t2 := c_ofTemplate2 hb q t a ht ha ha8
    have k7 : 1 ≤ zcnt (zD (F 24) (F 5) t (R i)) (g 1) := k7
    rcases Nat.eq_zero_or_pos i with h0 | h0
    · subst h0
      refine zev_of (fun _ kk => zr_iload (pc' := 878) zi_101_876 rfl rfl kk) ?_
      refine zev_of (fun _ kk => zr_iload (pc' := 880) zi_101_878 rfl rfl kk) ?_
      refine zv_icmp (pc' := 883) zi_101_880 rfl (fun h880 => ?_) (fun h880 => ?_)
      · replace h880 := zc_ge_t (by omega) (by omega) h880
        omega
      · replace h880 := zc_ge_f (by omega) (by omega) h880
        refine zev_of (fun _ kk => zr_aload_n (pc' := 884) zi_101_883 rfl rfl kk) ?_
        refine zev_of (fun _ kk => zr_iload (pc' := 886) zi_101_884 rfl rfl kk) ?_
        refine zev_of (fun _ kk => zr_iload (pc' := 888) zi_101_886 rfl rfl kk) ?_
        refine zev_of (fun _ kk => zr_iconst (v := (nI 0)) (pc' := 889) zi_101_888 rfl rfl kk) ?_
        refine zev_of (fun _ kk => zr_v3 (pc' := 892) zi_101_889 (nput_at hb (k := 0) rfl) rfl c0 rfl kk) ?_
        refine zev_of (fun _ kk => zr_istore (pc' := 894) zi_101_892 (Nat.le_of_ble_eq_true rfl) rfl rfl kk) ?_
        dsimp only [zst1, zst2, zkill, List.set, List.getElem?_cons_succ, List.getElem?_cons_zero]
        refine zev_of (fun _ kk => zr_iload (pc' := 896) zi_101_894 rfl rfl kk) ?_
        refine zev_of (fun _ kk => zr_iload (pc' := 898) zi_101_896 rfl rfl kk) ?_
        refine zv_icmp (pc' := 901) zi_101_898 rfl (fun h898 => ?_) (fun h898 => ?_)
        · replace h898 := zc_eq_t h898
          exact absurd ((nI_eq (by omega) (by omega)).mp h898) k3
        · replace h898 := zc_eq_f h898
          refine zev_of (fun _ kk => zr_aload_n (pc' := 902) zi_101_901 rfl rfl kk) ?_
          refine zev_of (fun _ kk => zr_iload (pc' := 904) zi_101_902 rfl rfl kk) ?_
          refine zev_of (fun _ kk => zr_iload (pc' := 906) zi_101_904 rfl rfl kk) ?_
          refine zev_of (fun _ kk => zr_iconst (v := (nI 1)) (pc' := 907) zi_101_906 rfl rfl kk) ?_
          refine zev_of (fun _ kk => zr_v3 (pc' := 910) zi_101_907 (nput_at hb (k := 0) rfl) rfl c1 rfl kk) ?_
          refine zev_of (fun _ kk => zr_aload_n (pc' := 911) zi_101_910 rfl rfl kk) ?_
          refine zev_of (fun _ kk => zr_iload (pc' := 913) zi_101_911 rfl rfl kk) ?_
          refine zev_of (fun _ kk => zr_iconst (v := (nI 2)) (pc' := 914) zi_101_913 rfl rfl kk) ?_
          refine zev_of (fun _ kk => zr_v2 (pc' := 917) zi_101_914 (nput_at hb (k := 0) rfl) rfl t2 rfl kk) ?_
          refine zv_icmp (pc' := 920) zi_101_917 rfl (fun h917 => ?_) (fun h917 => ?_)
          · replace h917 := zc_gt_t (by omega) (by omega) h917
            omega
          · replace h917 := zc_gt_f (by omega) (by omega) h917
            refine zev_of (fun _ kk => zr_aload_n (pc' := 921) zi_101_920 rfl rfl kk) ?_
            refine zev_of (fun _ kk => zr_iload (pc' := 923) zi_101_921 rfl rfl kk) ?_
            refine zev_of (fun _ kk => zr_iload (pc' := 925) zi_101_923 rfl rfl kk) ?_
            refine zev_of (fun _ kk => zr_iconst (v := (nI 1)) (pc' := 926) zi_101_925 rfl rfl kk) ?_
            refine zev_of (fun _ kk => zr_v3 (pc' := 929) zi_101_926 (nput_at hb (k := 0) rfl) rfl c1 rfl kk) ?_
            refine zev_of (fun _ kk => zr_iconst (v := (nI 1)) (pc' := 930) zi_101_929 rfl rfl kk) ?_
            refine zv_icmp (pc' := 933) zi_101_930 rfl (fun h930 => ?_) (fun h930 => ?_)
            · replace h930 := zc_lt_t (by omega) (by omega) h930
              omega
            · replace h930 := zc_lt_f (by omega) (by omega) h930
              refine zev_of (fun _ kk => zr_aload_n (pc' := 934) zi_101_933 rfl rfl kk) ?_
              refine zev_of (fun _ kk => zr_iload (pc' := 936) zi_101_934 rfl rfl kk) ?_
              refine zev_of (fun _ kk => zr_iload (pc' := 938) zi_101_936 rfl rfl kk) ?_
              refine zev_of (fun _ kk => zr_iconst (v := (nI 2)) (pc' := 939) zi_101_938 rfl rfl kk) ?_
              refine zev_of (fun _ kk => zr_v3 (pc' := 942) zi_101_939 (nput_at hb (k := 0) rfl) rfl c2 rfl kk) ?_
              refine zev_of (fun _ kk => zr_iload (pc' := 944) zi_101_942 rfl rfl kk) ?_
              refine zev_of (fun _ kk => zr_aload_n (pc' := 945) zi_101_944 rfl rfl kk) ?_
              refine zev_of (fun _ kk => zr_iload (pc' := 947) zi_101_945 rfl rfl kk) ?_
              refine zev_of (fun _ kk => zr_iconst (v := (nI 2)) (pc' := 948) zi_101_947 rfl rfl kk) ?_
              refine zev_of (fun _ kk => zr_v2 (pc' := 951) zi_101_948 (nput_at hb (k := 0) rfl) rfl t2 rfl kk) ?_
              refine zev_of (fun _ kk => zr_isub (pc' := 952) zi_101_951 (by first | exact pk_sub (by omega) | rfl) rfl kk) ?_
              refine zv_icmp (pc' := 955) zi_101_952 rfl (fun h952 => ?_) (fun h952 => ?_)
              · replace h952 := zc_gt_t (by omega) (by omega) h952
                omega
              · replace h952 := zc_gt_f (by omega) (by omega) h952
                refine zev_of (fun _ kk => zr_aload_n (pc' := 956) zi_101_955 rfl rfl kk) ?_
                refine zev_of (fun _ kk => zr_iload (pc' := 958) zi_101_956 rfl rfl kk) ?_
                refine zev_of (fun _ kk => zr_iload (pc' := 960) zi_101_958 rfl rfl kk) ?_
                refine zev_of (fun _ kk => zr_iconst (v := (nI 3)) (pc' := 961) zi_101_960 rfl rfl kk) ?_
                refine zev_of (fun _ kk => zr_v3 (pc' := 964) zi_101_961 (nput_at hb (k := 0) rfl) rfl c3 rfl kk) ?_
                refine zev_of (fun _ kk => zr_iconst (v := (nI 1)) (pc' := 965) zi_101_964 rfl rfl kk) ?_
                refine zv_icmp (pc' := 968) zi_101_965 rfl (fun h965 => ?_) (fun h965 => ?_)
                · replace h965 := zc_lt_t (by omega) (by omega) h965
                  omega
                · replace h965 := zc_lt_f (by omega) (by omega) h965
                  refine zev_of (fun _ kk => zr_aload_n (pc' := 969) zi_101_968 rfl rfl kk) ?_
                  refine zev_of (fun _ kk => zr_iload (pc' := 971) zi_101_969 rfl rfl kk) ?_
                  refine zev_of (fun _ kk => zr_iload (pc' := 973) zi_101_971 rfl rfl kk) ?_
                  refine zev_of (fun _ kk => zr_iconst (v := (nI 3)) (pc' := 974) zi_101_973 rfl rfl kk) ?_
                  refine zev_of (fun _ kk => zr_v3 (pc' := 977) zi_101_974 (nput_at hb (k := 0) rfl) rfl c3 rfl kk) ?_
                  refine zev_of (fun _ kk => zr_sipush (v := (nI 1000)) (pc' := 980) zi_101_977 rfl rfl kk) ?_
                  refine zv_icmp (pc' := 983) zi_101_980 rfl (fun h980 => ?_) (fun h980 => ?_)
                  · replace h980 := zc_gt_t (by omega) (by omega) h980
                    omega
                  · replace h980 := zc_gt_f (by omega) (by omega) h980
                    refine zev_of (fun _ kk => zr_iload (pc' := 985) zi_101_983 rfl rfl kk) ?_
                    refine zv_if (pc' := 988) zi_101_985 rfl (fun h985 => ?_) (fun h985 => ?_)
                    · replace h985 := zx_le_t h985
                      refine zev_of (fun _ kk => zr_iinc (pc' := 1016) zi_101_1013 rfl (by first | exact n_inc _ | rfl) rfl rfl kk) ?_
                      dsimp only [zst1, zst2, zkill, List.set, List.getElem?_cons_succ, List.getElem?_cons_zero]
                      refine zev_of (fun _ kk => zr_goto zi_101_1016 kk) ?_
                      exact next _
                    · replace h985 := zx_le_f h985
                      exact absurd (by decide) h985
    · obtain ⟨j1, j2, j3, j4, j5, j6, j7⟩ := r3 (i - 1) (by omega)
      have e3 := c_cause3 hb q t (i - 1) N ht _ R sv hr (by omega)
      rw [j4] at e3
      have j8 := r4 (i - 1) (by omega)
      rw [show i - 1 + 1 = i by omega] at j8
      refine zev_of (fun _ kk => zr_iload (pc' := 878) zi_101_876 rfl rfl kk) ?_
      refine zev_of (fun _ kk => zr_iload (pc' := 880) zi_101_878 rfl rfl kk) ?_
      refine zv_icmp (pc' := 883) zi_101_880 rfl (fun h880 => ?_) (fun h880 => ?_)
      · replace h880 := zc_ge_t (by omega) (by omega) h880
        omega
      · replace h880 := zc_ge_f (by omega) (by omega) h880
        refine zev_of (fun _ kk => zr_aload_n (pc' := 884) zi_101_883 rfl rfl kk) ?_
        refine zev_of (fun _ kk => zr_iload (pc' := 886) zi_101_884 rfl rfl kk) ?_
        refine zev_of (fun _ kk => zr_iload (pc' := 888) zi_101_886 rfl rfl kk) ?_
        refine zev_of (fun _ kk => zr_iconst (v := (nI 0)) (pc' := 889) zi_101_888 rfl rfl kk) ?_
        refine zev_of (fun _ kk => zr_v3 (pc' := 892) zi_101_889 (nput_at hb (k := 0) rfl) rfl c0 rfl kk) ?_
        refine zev_of (fun _ kk => zr_istore (pc' := 894) zi_101_892 (Nat.le_of_ble_eq_true rfl) rfl rfl kk) ?_
        dsimp only [zst1, zst2, zkill, List.set, List.getElem?_cons_succ, List.getElem?_cons_zero]
        refine zev_of (fun _ kk => zr_iload (pc' := 896) zi_101_894 rfl rfl kk) ?_
        refine zev_of (fun _ kk => zr_iload (pc' := 898) zi_101_896 rfl rfl kk) ?_
        refine zv_icmp (pc' := 901) zi_101_898 rfl (fun h898 => ?_) (fun h898 => ?_)
        · replace h898 := zc_eq_t h898
          exact absurd ((nI_eq (by omega) (by omega)).mp h898) k3
        · replace h898 := zc_eq_f h898
          refine zev_of (fun _ kk => zr_aload_n (pc' := 902) zi_101_901 rfl rfl kk) ?_
          refine zev_of (fun _ kk => zr_iload (pc' := 904) zi_101_902 rfl rfl kk) ?_
          refine zev_of (fun _ kk => zr_iload (pc' := 906) zi_101_904 rfl rfl kk) ?_
          refine zev_of (fun _ kk => zr_iconst (v := (nI 1)) (pc' := 907) zi_101_906 rfl rfl kk) ?_
          refine zev_of (fun _ kk => zr_v3 (pc' := 910) zi_101_907 (nput_at hb (k := 0) rfl) rfl c1 rfl kk) ?_
          refine zev_of (fun _ kk => zr_aload_n (pc' := 911) zi_101_910 rfl rfl kk) ?_
          refine zev_of (fun _ kk => zr_iload (pc' := 913) zi_101_911 rfl rfl kk) ?_
          refine zev_of (fun _ kk => zr_iconst (v := (nI 2)) (pc' := 914) zi_101_913 rfl rfl kk) ?_
          refine zev_of (fun _ kk => zr_v2 (pc' := 917) zi_101_914 (nput_at hb (k := 0) rfl) rfl t2 rfl kk) ?_
          refine zv_icmp (pc' := 920) zi_101_917 rfl (fun h917 => ?_) (fun h917 => ?_)
          · replace h917 := zc_gt_t (by omega) (by omega) h917
            omega
          · replace h917 := zc_gt_f (by omega) (by omega) h917
            refine zev_of (fun _ kk => zr_aload_n (pc' := 921) zi_101_920 rfl rfl kk) ?_
            refine zev_of (fun _ kk => zr_iload (pc' := 923) zi_101_921 rfl rfl kk) ?_
            refine zev_of (fun _ kk => zr_iload (pc' := 925) zi_101_923 rfl rfl kk) ?_
            refine zev_of (fun _ kk => zr_iconst (v := (nI 1)) (pc' := 926) zi_101_925 rfl rfl kk) ?_
            refine zev_of (fun _ kk => zr_v3 (pc' := 929) zi_101_926 (nput_at hb (k := 0) rfl) rfl c1 rfl kk) ?_
            refine zev_of (fun _ kk => zr_iconst (v := (nI 1)) (pc' := 930) zi_101_929 rfl rfl kk) ?_
            refine zv_icmp (pc' := 933) zi_101_930 rfl (fun h930 => ?_) (fun h930 => ?_)
            · replace h930 := zc_lt_t (by omega) (by omega) h930
              omega
            · replace h930 := zc_lt_f (by omega) (by omega) h930
              refine zev_of (fun _ kk => zr_aload_n (pc' := 934) zi_101_933 rfl rfl kk) ?_
              refine zev_of (fun _ kk => zr_iload (pc' := 936) zi_101_934 rfl rfl kk) ?_
              refine zev_of (fun _ kk => zr_iload (pc' := 938) zi_101_936 rfl rfl kk) ?_
              refine zev_of (fun _ kk => zr_iconst (v := (nI 2)) (pc' := 939) zi_101_938 rfl rfl kk) ?_
              refine zev_of (fun _ kk => zr_v3 (pc' := 942) zi_101_939 (nput_at hb (k := 0) rfl) rfl c2 rfl kk) ?_
              refine zev_of (fun _ kk => zr_iload (pc' := 944) zi_101_942 rfl rfl kk) ?_
              refine zev_of (fun _ kk => zr_aload_n (pc' := 945) zi_101_944 rfl rfl kk) ?_
              refine zev_of (fun _ kk => zr_iload (pc' := 947) zi_101_945 rfl rfl kk) ?_
              refine zev_of (fun _ kk => zr_iconst (v := (nI 2)) (pc' := 948) zi_101_947 rfl rfl kk) ?_
              refine zev_of (fun _ kk => zr_v2 (pc' := 951) zi_101_948 (nput_at hb (k := 0) rfl) rfl t2 rfl kk) ?_
              refine zev_of (fun _ kk => zr_isub (pc' := 952) zi_101_951 (by first | exact pk_sub (by omega) | rfl) rfl kk) ?_
              refine zv_icmp (pc' := 955) zi_101_952 rfl (fun h952 => ?_) (fun h952 => ?_)
              · replace h952 := zc_gt_t (by omega) (by omega) h952
                omega
              · replace h952 := zc_gt_f (by omega) (by omega) h952
                refine zev_of (fun _ kk => zr_aload_n (pc' := 956) zi_101_955 rfl rfl kk) ?_
                refine zev_of (fun _ kk => zr_iload (pc' := 958) zi_101_956 rfl rfl kk) ?_
                refine zev_of (fun _ kk => zr_iload (pc' := 960) zi_101_958 rfl rfl kk) ?_
                refine zev_of (fun _ kk => zr_iconst (v := (nI 3)) (pc' := 961) zi_101_960 rfl rfl kk) ?_
                refine zev_of (fun _ kk => zr_v3 (pc' := 964) zi_101_961 (nput_at hb (k := 0) rfl) rfl c3 rfl kk) ?_
                refine zev_of (fun _ kk => zr_iconst (v := (nI 1)) (pc' := 965) zi_101_964 rfl rfl kk) ?_
                refine zv_icmp (pc' := 968) zi_101_965 rfl (fun h965 => ?_) (fun h965 => ?_)
                · replace h965 := zc_lt_t (by omega) (by omega) h965
                  omega
                · replace h965 := zc_lt_f (by omega) (by omega) h965
                  refine zev_of (fun _ kk => zr_aload_n (pc' := 969) zi_101_968 rfl rfl kk) ?_
                  refine zev_of (fun _ kk => zr_iload (pc' := 971) zi_101_969 rfl rfl kk) ?_
                  refine zev_of (fun _ kk => zr_iload (pc' := 973) zi_101_971 rfl rfl kk) ?_
                  refine zev_of (fun _ kk => zr_iconst (v := (nI 3)) (pc' := 974) zi_101_973 rfl rfl kk) ?_
                  refine zev_of (fun _ kk => zr_v3 (pc' := 977) zi_101_974 (nput_at hb (k := 0) rfl) rfl c3 rfl kk) ?_
                  refine zev_of (fun _ kk => zr_sipush (v := (nI 1000)) (pc' := 980) zi_101_977 rfl rfl kk) ?_
                  refine zv_icmp (pc' := 983) zi_101_980 rfl (fun h980 => ?_) (fun h980 => ?_)
                  · replace h980 := zc_gt_t (by omega) (by omega) h980
                    omega
                  · replace h980 := zc_gt_f (by omega) (by omega) h980
                    refine zev_of (fun _ kk => zr_iload (pc' := 985) zi_101_983 rfl rfl kk) ?_
                    refine zv_if (pc' := 988) zi_101_985 rfl (fun h985 => ?_) (fun h985 => ?_)
                    · replace h985 := zx_le_t h985
                      exact absurd h985 (nI_nle h0 (by omega))
                    · replace h985 := zx_le_f h985
                      refine zev_of (fun _ kk => zr_aload_n (pc' := 989) zi_101_988 rfl rfl kk) ?_
                      refine zev_of (fun _ kk => zr_iload (pc' := 991) zi_101_989 rfl rfl kk) ?_
                      refine zev_of (fun _ kk => zr_iload (pc' := 993) zi_101_991 rfl rfl kk) ?_
                      refine zev_of (fun _ kk => zr_iconst (v := (nI 3)) (pc' := 994) zi_101_993 rfl rfl kk) ?_
                      refine zev_of (fun _ kk => zr_v3 (pc' := 997) zi_101_994 (nput_at hb (k := 0) rfl) rfl c3 rfl kk) ?_
                      refine zev_of (fun _ kk => zr_aload_n (pc' := 998) zi_101_997 rfl rfl kk) ?_
                      refine zev_of (fun _ kk => zr_iload (pc' := 1000) zi_101_998 rfl rfl kk) ?_
                      refine zev_of (fun _ kk => zr_iload (pc' := 1002) zi_101_1000 rfl rfl kk) ?_
                      refine zev_of (fun _ kk => zr_iconst (v := (nI 1)) (pc' := 1003) zi_101_1002 rfl rfl kk) ?_
                      refine zev_of (fun _ kk => zr_isub (pc' := 1004) zi_101_1003 (by first | exact pk_sub (by omega) | rfl) rfl kk) ?_
                      refine zev_of (fun _ kk => zr_iconst (v := (nI 3)) (pc' := 1005) zi_101_1004 rfl rfl kk) ?_
                      refine zev_of (fun _ kk => zr_v3 (pc' := 1008) zi_101_1005 (nput_at hb (k := 0) rfl) rfl e3 rfl kk) ?_
                      refine zv_icmp (pc' := 1011) zi_101_1008 rfl (fun h1008 => ?_) (fun h1008 => ?_)
                      · replace h1008 := zc_le_t (by omega) (by omega) h1008
                        refine zev_of (fun _ kk => zr_iinc (pc' := 1016) zi_101_1013 rfl (by first | exact n_inc _ | rfl) rfl rfl kk) ?_
                        dsimp only [zst1, zst2, zkill, List.set, List.getElem?_cons_succ, List.getElem?_cons_zero]
                        refine zev_of (fun _ kk => zr_goto zi_101_1016 kk) ?_
                        exact next _
                      · replace h1008 := zc_le_f (by omega) (by omega) h1008
                        omega
  · have e : i = N := by omega
    subst e
    refine zev_of (fun _ kk => zr_iload (pc' := 878) zi_101_876 rfl rfl kk) ?_
    refine zev_of (fun _ kk => zr_iload (pc' := 880) zi_101_878 rfl rfl kk) ?_
    refine zv_icmp (pc' := 883) zi_101_880 rfl (fun h880 => ?_) (fun h880 => ?_)
    · replace h880 := zc_ge_t (by omega) (by omega) h880
      refine zev_of (fun _ kk => zr_iinc (pc' := 1022) zi_101_1019 rfl (by first | exact n_inc _ | rfl) rfl rfl kk) ?_
      dsimp only [zst1, zst2, zkill, List.set, List.getElem?_cons_succ, List.getElem?_cons_zero]
      refine zev_of (fun _ kk => zr_goto zi_101_1022 kk) ?_
      exact k _
    · replace h880 := zc_ge_f (by omega) (by omega) h880
      omega
termination_by N - i
theorem l_cau {o : Nat} {h : zH} {F : Nat → Nat → Int32} {g : Nat → Nat} {x : Nat → Nat} {sh gp wi bk rl rt e u d : Nat} {T1 T4 : Int32} {D : Int64} {Q : zR → Prop} {X10 X11 X12 : Option Value} {X13 : Int32} (w : zOw o h F (g 0) (g 1) (g 2) sh gp wi bk rl rt e u d) (q : zOk F g x sh gp wi bk) (k : ∀ X15 X16 X17, zev 101 1025 [some (.ref 0), some (.int T1), some (.ref o), some (.ref (o + 1)), some (.int T4), some (.long D), none, some (.int (nI (g 0))), some (.int (nI (g 1))), some (.int (nI (g 4))), X10, X11, X12, some (.int X13), some (.int (nI (g 2))), X15, X16, X17] [] (nput (o + 1) F g h) Q) (t : Nat) (ht : t ≤ g 2) (X15 X16 X17 : Option Value) : zev 101 855 [some (.ref 0), some (.int T1), some (.ref o), some (.ref (o + 1)), some (.int T4), some (.long D), none, some (.int (nI (g 0))), some (.int (nI (g 1))), some (.int (nI (g 4))), X10, X11, X12, some (.int X13), some (.int (nI t)), X15, X16, X17] [] (nput (o + 1) F g h) Q := by
  have hb := w.hb
  have hT := q.nb.t20
  obtain ⟨dr, hdr, hO⟩ := w.ob
  obtain ⟨rr1, rr2, rr3, rr4, rr5, rr6, rr7⟩ := w.rr
  obtain ⟨tf, t1, t2⟩ := w.te
  rcases Nat.lt_or_ge t (g 2) with htT | htT
  · have next := l_cau w q k (t + 1) htT
    obtain ⟨N, R, sv, hr⟩ := q.to.rk t htT
    have hN : N ≤ g 2 := hr.2.1
    have cc := c_causes hb q t htT
    rw [hr.1] at cc
    refine zev_of (fun _ kk => zr_iload (pc' := 857) zi_101_855 rfl rfl kk) ?_
    refine zev_of (fun _ kk => zr_aload_n (pc' := 858) zi_101_857 rfl rfl kk) ?_
    refine zev_of (fun _ kk => zo_get (pc' := 861) zi_101_858 hb hO rfl rfl kk) ?_
    refine zev_of (fun _ kk => zo_alen (pc' := 862) zi_101_861 hb t1 (by omega) rfl kk) ?_
    refine zv_icmp (pc' := 865) zi_101_862 rfl (fun h862 => ?_) (fun h862 => ?_)
    · replace h862 := zc_ge_t (by omega) (by omega) h862
      omega
    · replace h862 := zc_ge_f (by omega) (by omega) h862
      refine zev_of (fun _ kk => zr_aload_n (pc' := 866) zi_101_865 rfl rfl kk) ?_
      refine zev_of (fun _ kk => zr_iload (pc' := 868) zi_101_866 rfl rfl kk) ?_
      refine zev_of (fun _ kk => zr_v1 (pc' := 871) zi_101_868 (nput_at hb (k := 0) rfl) rfl cc rfl kk) ?_
      refine zev_of (fun _ kk => zr_istore (pc' := 873) zi_101_871 (Nat.le_of_ble_eq_true rfl) rfl rfl kk) ?_
      dsimp only [zst1, zst2, zkill, List.set, List.getElem?_cons_succ, List.getElem?_cons_zero]
      refine zev_of (fun _ kk => zr_iconst (v := (nI 0)) (pc' := 874) zi_101_873 rfl rfl kk) ?_
      refine zev_of (fun _ kk => zr_istore (pc' := 876) zi_101_874 (Nat.le_of_ble_eq_true rfl) rfl rfl kk) ?_
      dsimp only [zst1, zst2, zkill, List.set, List.getElem?_cons_succ, List.getElem?_cons_zero]
      exact l_cau2 w q htT hr (fun X => next _ _ X) 0 (Nat.zero_le _) _
  · have e : t = g 2 := by omega
    subst e
    refine zev_of (fun _ kk => zr_iload (pc' := 857) zi_101_855 rfl rfl kk) ?_
    refine zev_of (fun _ kk => zr_aload_n (pc' := 858) zi_101_857 rfl rfl kk) ?_
    refine zev_of (fun _ kk => zo_get (pc' := 861) zi_101_858 hb hO rfl rfl kk) ?_
    refine zev_of (fun _ kk => zo_alen (pc' := 862) zi_101_861 hb t1 (by omega) rfl kk) ?_
    refine zv_icmp (pc' := 865) zi_101_862 rfl (fun h862 => ?_) (fun h862 => ?_)
    · replace h862 := zc_ge_t (by omega) (by omega) h862
      exact k _ _ _
    · replace h862 := zc_ge_f (by omega) (by omega) h862
      omega
termination_by g 2 - t
theorem l_spk {o : Nat} {h : zH} {F : Nat → Nat → Int32} {g : Nat → Nat} {x : Nat → Nat} {sh gp wi bk rl rt e u d : Nat} {T1 T4 : Int32} {D : Int64} {Q : zR → Prop} {X10 X11 X12 : Option Value} {X13 : Int32} (w : zOw o h F (g 0) (g 1) (g 2) sh gp wi bk rl rt e u d) (q : zOk F g x sh gp wi bk) (X15 X16 X17 : Option Value) (k : ∀ X14, zev 101 1109 [some (.ref 0), some (.int T1), some (.ref o), some (.ref (o + 1)), some (.int T4), some (.long D), none, some (.int (nI (g 0))), some (.int (nI (g 1))), some (.int (nI (g 4))), X10, X11, X12, some (.int X13), X14, X15, X16, X17] [] (nput (o + 1) F g h) Q) (i : Nat) (hi : i ≤ g 5) : zev 101 1028 [some (.ref 0), some (.int T1), some (.ref o), some (.ref (o + 1)), some (.int T4), some (.long D), none, some (.int (nI (g 0))), some (.int (nI (g 1))), some (.int (nI (g 4))), X10, X11, X12, some (.int X13), some (.int (nI i)), X15, X16, X17] [] (nput (o + 1) F g h) Q := by
  have hb := w.hb
  have hn := q.nb.n70
  have hmn := q.nb.mn
  have hT := q.nb.t20
  obtain ⟨vv, hP, hmo, hsp⟩ := q.to.sp
  have m5 := c_many5 hb q
  rcases Nat.lt_or_ge i (g 5) with hiP | hiP
  · have next := l_spk w q X15 X16 X17 k (i + 1) hiP
    obtain ⟨k1, ⟨j, hj, k2⟩, t, ht, k3, k4, k5⟩ := hsp i hiP
    have hxj := (q.nb.tm j (by omega)).2
    have hv : vv i ≤ 9999 := by
      have k2 : vv i = x j / wi := k2
      have : x j / wi ≤ x j := Nat.div_le_self _ _
      omega
    have hcl : zcnt (fun j => decide (F 5 j = nI t ∧ x j / wi = vv i)) (g 1) ≤ g 1 := zcnt_le _ _
    have k4 : 3 ≤ zcnt (fun j => decide (F 5 j = nI t ∧ x j / wi = vv i)) (g 1) := k4
    have k5 : F 21 i = nI (zcnt (fun j => decide (F 5 j = nI t ∧ x j / wi = vv i)) (g 1)) := k5
    have s0 := c_spike0 hb q i hiP
    have s1 := c_spike1 hb q i hiP
    have s2 := c_spike2 hb q i hiP
    rw [k1] at s0
    rw [k3] at s1
    rw [k5] at s2
    have cc := c_count hb q t (vv i) ht hv
    rcases Nat.eq_zero_or_pos i with h0 | h0
    · subst h0
      refine zev_of (fun _ kk => zr_iload (pc' := 1030) zi_101_1028 rfl rfl kk) ?_
      refine zev_of (fun _ kk => zr_aload_n (pc' := 1031) zi_101_1030 rfl rfl kk) ?_
      refine zev_of (fun _ kk => zr_iconst (v := (nI 5)) (pc' := 1032) zi_101_1031 rfl rfl kk) ?_
      refine zev_of (fun _ kk => zr_v1 (pc' := 1035) zi_101_1032 (nput_at hb (k := 0) rfl) rfl m5 rfl kk) ?_
      refine zv_icmp (pc' := 1038) zi_101_1035 rfl (fun h1035 => ?_) (fun h1035 => ?_)
      · replace h1035 := zc_ge_t (by omega) (by omega) h1035
        omega
      · replace h1035 := zc_ge_f (by omega) (by omega) h1035
        refine zev_of (fun _ kk => zr_aload_n (pc' := 1039) zi_101_1038 rfl rfl kk) ?_
        refine zev_of (fun _ kk => zr_iload (pc' := 1041) zi_101_1039 rfl rfl kk) ?_
        refine zev_of (fun _ kk => zr_iconst (v := (nI 2)) (pc' := 1042) zi_101_1041 rfl rfl kk) ?_
        refine zev_of (fun _ kk => zr_v2 (pc' := 1045) zi_101_1042 (nput_at hb (k := 0) rfl) rfl s2 rfl kk) ?_
        refine zev_of (fun _ kk => zr_iconst (v := (nI 3)) (pc' := 1046) zi_101_1045 rfl rfl kk) ?_
        refine zv_icmp (pc' := 1049) zi_101_1046 rfl (fun h1046 => ?_) (fun h1046 => ?_)
        · replace h1046 := zc_lt_t (by omega) (by omega) h1046
          omega
        · replace h1046 := zc_lt_f (by omega) (by omega) h1046
          refine zev_of (fun _ kk => zr_aload_n (pc' := 1050) zi_101_1049 rfl rfl kk) ?_
          refine zev_of (fun _ kk => zr_iload (pc' := 1052) zi_101_1050 rfl rfl kk) ?_
          refine zev_of (fun _ kk => zr_iconst (v := (nI 2)) (pc' := 1053) zi_101_1052 rfl rfl kk) ?_
          refine zev_of (fun _ kk => zr_v2 (pc' := 1056) zi_101_1053 (nput_at hb (k := 0) rfl) rfl s2 rfl kk) ?_
          refine zev_of (fun _ kk => zr_aload_n (pc' := 1057) zi_101_1056 rfl rfl kk) ?_
          refine zev_of (fun _ kk => zr_aload_n (pc' := 1058) zi_101_1057 rfl rfl kk) ?_
          refine zev_of (fun _ kk => zr_iload (pc' := 1060) zi_101_1058 rfl rfl kk) ?_
          refine zev_of (fun _ kk => zr_iconst (v := (nI 1)) (pc' := 1061) zi_101_1060 rfl rfl kk) ?_
          refine zev_of (fun _ kk => zr_v2 (pc' := 1064) zi_101_1061 (nput_at hb (k := 0) rfl) rfl s1 rfl kk) ?_
          refine zev_of (fun _ kk => zr_aload_n (pc' := 1065) zi_101_1064 rfl rfl kk) ?_
          refine zev_of (fun _ kk => zr_iload (pc' := 1067) zi_101_1065 rfl rfl kk) ?_
          refine zev_of (fun _ kk => zr_iconst (v := (nI 0)) (pc' := 1068) zi_101_1067 rfl rfl kk) ?_
          refine zev_of (fun _ kk => zr_v2 (pc' := 1071) zi_101_1068 (nput_at hb (k := 0) rfl) rfl s0 rfl kk) ?_
          refine zev_of (fun _ kk => zr_v2 (pc' := 1074) zi_101_1071 (nput_at hb (k := 0) rfl) rfl cc rfl kk) ?_
          refine zv_icmp (pc' := 1077) zi_101_1074 rfl (fun h1074 => ?_) (fun h1074 => ?_)
          · replace h1074 := zc_ne_t h1074
            exact absurd rfl h1074
          · replace h1074 := zc_ne_f h1074
            refine zev_of (fun _ kk => zr_iload (pc' := 1079) zi_101_1077 rfl rfl kk) ?_
            refine zv_if (pc' := 1082) zi_101_1079 rfl (fun h1079 => ?_) (fun h1079 => ?_)
            · replace h1079 := zx_le_t h1079
              refine zev_of (fun _ kk => zr_iinc (pc' := 1106) zi_101_1103 rfl (by first | exact n_inc _ | rfl) rfl rfl kk) ?_
              dsimp only [zst1, zst2, zkill, List.set, List.getElem?_cons_succ, List.getElem?_cons_zero]
              refine zev_of (fun _ kk => zr_goto zi_101_1106 kk) ?_
              exact next
            · replace h1079 := zx_le_f h1079
              exact absurd (by decide) h1079
    · obtain ⟨j1, ⟨j', hj', j2⟩, _⟩ := hsp (i - 1) (by omega)
      have e0 := c_spike0 hb q (i - 1) (by omega)
      rw [j1] at e0
      have hm := hmo (i - 1) (by omega)
      rw [show i - 1 + 1 = i by omega] at hm
      refine zev_of (fun _ kk => zr_iload (pc' := 1030) zi_101_1028 rfl rfl kk) ?_
      refine zev_of (fun _ kk => zr_aload_n (pc' := 1031) zi_101_1030 rfl rfl kk) ?_
      refine zev_of (fun _ kk => zr_iconst (v := (nI 5)) (pc' := 1032) zi_101_1031 rfl rfl kk) ?_
      refine zev_of (fun _ kk => zr_v1 (pc' := 1035) zi_101_1032 (nput_at hb (k := 0) rfl) rfl m5 rfl kk) ?_
      refine zv_icmp (pc' := 1038) zi_101_1035 rfl (fun h1035 => ?_) (fun h1035 => ?_)
      · replace h1035 := zc_ge_t (by omega) (by omega) h1035
        omega
      · replace h1035 := zc_ge_f (by omega) (by omega) h1035
        refine zev_of (fun _ kk => zr_aload_n (pc' := 1039) zi_101_1038 rfl rfl kk) ?_
        refine zev_of (fun _ kk => zr_iload (pc' := 1041) zi_101_1039 rfl rfl kk) ?_
        refine zev_of (fun _ kk => zr_iconst (v := (nI 2)) (pc' := 1042) zi_101_1041 rfl rfl kk) ?_
        refine zev_of (fun _ kk => zr_v2 (pc' := 1045) zi_101_1042 (nput_at hb (k := 0) rfl) rfl s2 rfl kk) ?_
        refine zev_of (fun _ kk => zr_iconst (v := (nI 3)) (pc' := 1046) zi_101_1045 rfl rfl kk) ?_
        refine zv_icmp (pc' := 1049) zi_101_1046 rfl (fun h1046 => ?_) (fun h1046 => ?_)
        · replace h1046 := zc_lt_t (by omega) (by omega) h1046
          omega
        · replace h1046 := zc_lt_f (by omega) (by omega) h1046
          refine zev_of (fun _ kk => zr_aload_n (pc' := 1050) zi_101_1049 rfl rfl kk) ?_
          refine zev_of (fun _ kk => zr_iload (pc' := 1052) zi_101_1050 rfl rfl kk) ?_
          refine zev_of (fun _ kk => zr_iconst (v := (nI 2)) (pc' := 1053) zi_101_1052 rfl rfl kk) ?_
          refine zev_of (fun _ kk => zr_v2 (pc' := 1056) zi_101_1053 (nput_at hb (k := 0) rfl) rfl s2 rfl kk) ?_
          refine zev_of (fun _ kk => zr_aload_n (pc' := 1057) zi_101_1056 rfl rfl kk) ?_
          refine zev_of (fun _ kk => zr_aload_n (pc' := 1058) zi_101_1057 rfl rfl kk) ?_
          refine zev_of (fun _ kk => zr_iload (pc' := 1060) zi_101_1058 rfl rfl kk) ?_
          refine zev_of (fun _ kk => zr_iconst (v := (nI 1)) (pc' := 1061) zi_101_1060 rfl rfl kk) ?_
          refine zev_of (fun _ kk => zr_v2 (pc' := 1064) zi_101_1061 (nput_at hb (k := 0) rfl) rfl s1 rfl kk) ?_
          refine zev_of (fun _ kk => zr_aload_n (pc' := 1065) zi_101_1064 rfl rfl kk) ?_
          refine zev_of (fun _ kk => zr_iload (pc' := 1067) zi_101_1065 rfl rfl kk) ?_
          refine zev_of (fun _ kk => zr_iconst (v := (nI 0)) (pc' := 1068) zi_101_1067 rfl rfl kk) ?_
          refine zev_of (fun _ kk => zr_v2 (pc' := 1071) zi_101_1068 (nput_at hb (k := 0) rfl) rfl s0 rfl kk) ?_
          refine zev_of (fun _ kk => zr_v2 (pc' := 1074) zi_101_1071 (nput_at hb (k := 0) rfl) rfl cc rfl kk) ?_
          refine zv_icmp (pc' := 1077) zi_101_1074 rfl (fun h1074 => ?_) (fun h1074 => ?_)
          · replace h1074 := zc_ne_t h1074
            exact absurd rfl h1074
          · replace h1074 := zc_ne_f h1074
            refine zev_of (fun _ kk => zr_iload (pc' := 1079) zi_101_1077 rfl rfl kk) ?_
            refine zv_if (pc' := 1082) zi_101_1079 rfl (fun h1079 => ?_) (fun h1079 => ?_)
            · replace h1079 := zx_le_t h1079
              exact absurd h1079 (nI_nle h0 (by omega))
            · replace h1079 := zx_le_f h1079
              refine zev_of (fun _ kk => zr_aload_n (pc' := 1083) zi_101_1082 rfl rfl kk) ?_
              refine zev_of (fun _ kk => zr_iload (pc' := 1085) zi_101_1083 rfl rfl kk) ?_
              refine zev_of (fun _ kk => zr_iconst (v := (nI 0)) (pc' := 1086) zi_101_1085 rfl rfl kk) ?_
              refine zev_of (fun _ kk => zr_v2 (pc' := 1089) zi_101_1086 (nput_at hb (k := 0) rfl) rfl s0 rfl kk) ?_
              refine zev_of (fun _ kk => zr_aload_n (pc' := 1090) zi_101_1089 rfl rfl kk) ?_
              refine zev_of (fun _ kk => zr_iload (pc' := 1092) zi_101_1090 rfl rfl kk) ?_
              refine zev_of (fun _ kk => zr_iconst (v := (nI 1)) (pc' := 1093) zi_101_1092 rfl rfl kk) ?_
              refine zev_of (fun _ kk => zr_isub (pc' := 1094) zi_101_1093 (by first | exact pk_sub (by omega) | rfl) rfl kk) ?_
              refine zev_of (fun _ kk => zr_iconst (v := (nI 0)) (pc' := 1095) zi_101_1094 rfl rfl kk) ?_
              refine zev_of (fun _ kk => zr_v2 (pc' := 1098) zi_101_1095 (nput_at hb (k := 0) rfl) rfl e0 rfl kk) ?_
              refine zv_icmp (pc' := 1101) zi_101_1098 rfl (fun h1098 => ?_) (fun h1098 => ?_)
              · replace h1098 := zc_ge_t (by omega) (by omega) h1098
                refine zev_of (fun _ kk => zr_iinc (pc' := 1106) zi_101_1103 rfl (by first | exact n_inc _ | rfl) rfl rfl kk) ?_
                dsimp only [zst1, zst2, zkill, List.set, List.getElem?_cons_succ, List.getElem?_cons_zero]
                refine zev_of (fun _ kk => zr_goto zi_101_1106 kk) ?_
                exact next
              · replace h1098 := zc_ge_f (by omega) (by omega) h1098
                omega
  · have e : i = g 5 := by omega
    subst e
    refine zev_of (fun _ kk => zr_iload (pc' := 1030) zi_101_1028 rfl rfl kk) ?_
    refine zev_of (fun _ kk => zr_aload_n (pc' := 1031) zi_101_1030 rfl rfl kk) ?_
    refine zev_of (fun _ kk => zr_iconst (v := (nI 5)) (pc' := 1032) zi_101_1031 rfl rfl kk) ?_
    refine zev_of (fun _ kk => zr_v1 (pc' := 1035) zi_101_1032 (nput_at hb (k := 0) rfl) rfl m5 rfl kk) ?_
    refine zv_icmp (pc' := 1038) zi_101_1035 rfl (fun h1035 => ?_) (fun h1035 => ?_)
    · replace h1035 := zc_ge_t (by omega) (by omega) h1035
      exact k _
    · replace h1035 := zc_ge_f (by omega) (by omega) h1035
      omega
termination_by g 5 - i
end

