/-! code of methods, decode rows, and that the JVM follows (by program) -/
def cl_Ch_applyOne_0 : List kc_A := [ka_al 0 1, ka_get 7 1, ka_no, ka_no, ka_il 1 1, ka_iald, ka_ci (-1) 1, ka_cm (fun x y => ¬ x = y) 13, ka_no, ka_no, ka_ci (nI 17) 2, ka_no, ka_ri, ka_al 0 1, ka_get 7 0, ka_no, ka_no, ka_il 1 1, ka_iald, ka_ci (nI 1) 1, ka_cm (fun x y => ¬ x = y) 27, ka_no, ka_no, ka_ci (nI 1) 1, ka_goto 28, ka_no, ka_no, ka_ci (nI 0) 1, ka_is 4 2, ka_no, ka_al 0 1, ka_get 7 0, ka_no, ka_no, ka_il 1 1, ka_iald, ka_ci (nI 2) 1, ka_cm (fun x y => x = y) 55, ka_no, ka_no, ka_il 4 2, ka_no, ka_if (fun x => x = 0) 84, ka_no, ka_no, ka_il 2 1, ka_al 0 1, ka_get 7 2, ka_no, ka_no, ka_il 1 1, ka_iald, ka_cm (fun x y => ¬ x = y) 84, ka_no, ka_no, ka_al 3 1, ka_al 0 1, ka_get 7 1, ka_no, ka_no]
def cl_Ch_applyOne_1 : List kc_A := [ka_il 1 1, ka_iald, ka_cl 0 1, ka_cl (9223372036854775807) 3, ka_no, ka_no, ka_cv 74 3 6 0 0, ka_no, ka_no, ka_is 5 2, ka_no, ka_il 4 2, ka_no, ka_if (fun x => x = 0) 84, ka_no, ka_no, ka_il 5 2, ka_no, ka_if (fun x => ¬ x = 0) 84, ka_no, ka_no, ka_ci (nI 16) 2, ka_no, ka_ri, ka_il 2 1, ka_is 5 2, ka_no, ka_il 5 2, ka_no, ka_al 0 1, ka_get 7 2, ka_no, ka_no, ka_il 1 1, ka_iald, ka_cm (fun x y => y ≤ x) 177, ka_no, ka_no, ka_al 0 1, ka_get 7 3, ka_no, ka_no, ka_il 5 2, ka_no, ka_lald, ka_cl (-1) 3, ka_no, ka_no, ka_lcmp, ka_if (fun x => ¬ x = 0) 115, ka_no, ka_no, ka_ci (nI 21) 2, ka_no, ka_ri, ka_il 4 2, ka_no, ka_if (fun x => x = 0) 143, ka_no, ka_no]
def cl_Ch_applyOne_2 : List kc_A := [ka_al 3 1, ka_al 0 1, ka_get 7 1, ka_no, ka_no, ka_il 1 1, ka_iald, ka_al 0 1, ka_get 7 3, ka_no, ka_no, ka_il 5 2, ka_no, ka_lald, ka_cv 73 2 6 0 0, ka_no, ka_no, ka_if (fun x => ¬ x = 0) 143, ka_no, ka_no, ka_ci (nI 16) 2, ka_no, ka_ri, ka_il 4 2, ka_no, ka_if (fun x => ¬ x = 0) 171, ka_no, ka_no, ka_al 3 1, ka_al 0 1, ka_get 7 1, ka_no, ka_no, ka_il 1 1, ka_iald, ka_al 0 1, ka_get 7 3, ka_no, ka_no, ka_il 5 2, ka_no, ka_lald, ka_cv 72 2 6 0 0, ka_no, ka_no, ka_if (fun x => ¬ x = 0) 171, ka_no, ka_no, ka_ci (nI 20) 2, ka_no, ka_ri, ka_inc 5 (nI 1), ka_no, ka_no, ka_goto 87, ka_no, ka_no, ka_ci (nI 0) 1, ka_ri]
def ct_Ch_applyOne : Nat → kc_A := fun pc => ka_nth (cl_Ch_applyOne_0 ++ (cl_Ch_applyOne_1 ++ (cl_Ch_applyOne_2))) pc
set_option maxRecDepth 100000 in
theorem c_Ch_applyOne_0 : ct_Ch_applyOne 0 = ka_al 0 1 := rfl
theorem d_Ch_applyOne_0 : decode prog_2_method_5_code 0 = .ok (.aload_n 0, 1) := by decide +kernel
set_option maxRecDepth 100000 in
theorem c_Ch_applyOne_1 : ct_Ch_applyOne 1 = ka_get 7 1 := rfl
theorem d_Ch_applyOne_1 : decode prog_2_method_5_code 1 = .ok (.getfield 15, 3) := by decide +kernel
set_option maxRecDepth 100000 in
theorem c_Ch_applyOne_4 : ct_Ch_applyOne 4 = ka_il 1 1 := rfl
theorem d_Ch_applyOne_4 : decode prog_2_method_5_code 4 = .ok (.iload_n 1, 1) := by decide +kernel
set_option maxRecDepth 100000 in
theorem c_Ch_applyOne_5 : ct_Ch_applyOne 5 = ka_iald := rfl
theorem d_Ch_applyOne_5 : decode prog_2_method_5_code 5 = .ok (.iaload, 1) := by decide +kernel
set_option maxRecDepth 100000 in
theorem c_Ch_applyOne_6 : ct_Ch_applyOne 6 = ka_ci (-1) 1 := rfl
theorem d_Ch_applyOne_6 : decode prog_2_method_5_code 6 = .ok (.iconst (-1), 1) := by decide +kernel
set_option maxRecDepth 100000 in
theorem c_Ch_applyOne_7 : ct_Ch_applyOne 7 = ka_cm (fun x y => ¬ x = y) 13 := rfl
theorem d_Ch_applyOne_7 : decode prog_2_method_5_code 7 = .ok (.if_icmp .ne 6, 3) := by decide +kernel
set_option maxRecDepth 100000 in
theorem c_Ch_applyOne_10 : ct_Ch_applyOne 10 = ka_ci (nI 17) 2 := rfl
theorem d_Ch_applyOne_10 : decode prog_2_method_5_code 10 = .ok (.bipush 17, 2) := by decide +kernel
set_option maxRecDepth 100000 in
theorem c_Ch_applyOne_12 : ct_Ch_applyOne 12 = ka_ri := rfl
theorem d_Ch_applyOne_12 : decode prog_2_method_5_code 12 = .ok (.ireturn, 1) := by decide +kernel
set_option maxRecDepth 100000 in
theorem c_Ch_applyOne_13 : ct_Ch_applyOne 13 = ka_al 0 1 := rfl
theorem d_Ch_applyOne_13 : decode prog_2_method_5_code 13 = .ok (.aload_n 0, 1) := by decide +kernel
set_option maxRecDepth 100000 in
theorem c_Ch_applyOne_14 : ct_Ch_applyOne 14 = ka_get 7 0 := rfl
theorem d_Ch_applyOne_14 : decode prog_2_method_5_code 14 = .ok (.getfield 9, 3) := by decide +kernel
set_option maxRecDepth 100000 in
theorem c_Ch_applyOne_17 : ct_Ch_applyOne 17 = ka_il 1 1 := rfl
theorem d_Ch_applyOne_17 : decode prog_2_method_5_code 17 = .ok (.iload_n 1, 1) := by decide +kernel
set_option maxRecDepth 100000 in
theorem c_Ch_applyOne_18 : ct_Ch_applyOne 18 = ka_iald := rfl
theorem d_Ch_applyOne_18 : decode prog_2_method_5_code 18 = .ok (.iaload, 1) := by decide +kernel
set_option maxRecDepth 100000 in
theorem c_Ch_applyOne_19 : ct_Ch_applyOne 19 = ka_ci (nI 1) 1 := rfl
theorem d_Ch_applyOne_19 : decode prog_2_method_5_code 19 = .ok (.iconst 1, 1) := by decide +kernel
set_option maxRecDepth 100000 in
theorem c_Ch_applyOne_20 : ct_Ch_applyOne 20 = ka_cm (fun x y => ¬ x = y) 27 := rfl
theorem d_Ch_applyOne_20 : decode prog_2_method_5_code 20 = .ok (.if_icmp .ne 7, 3) := by decide +kernel
set_option maxRecDepth 100000 in
theorem c_Ch_applyOne_23 : ct_Ch_applyOne 23 = ka_ci (nI 1) 1 := rfl
theorem d_Ch_applyOne_23 : decode prog_2_method_5_code 23 = .ok (.iconst 1, 1) := by decide +kernel
set_option maxRecDepth 100000 in
theorem c_Ch_applyOne_24 : ct_Ch_applyOne 24 = ka_goto 28 := rfl
theorem d_Ch_applyOne_24 : decode prog_2_method_5_code 24 = .ok (.goto 4, 3) := by decide +kernel
set_option maxRecDepth 100000 in
theorem c_Ch_applyOne_27 : ct_Ch_applyOne 27 = ka_ci (nI 0) 1 := rfl
theorem d_Ch_applyOne_27 : decode prog_2_method_5_code 27 = .ok (.iconst 0, 1) := by decide +kernel
set_option maxRecDepth 100000 in
theorem c_Ch_applyOne_28 : ct_Ch_applyOne 28 = ka_is 4 2 := rfl
theorem d_Ch_applyOne_28 : decode prog_2_method_5_code 28 = .ok (.istore 4, 2) := by decide +kernel
set_option maxRecDepth 100000 in
theorem c_Ch_applyOne_30 : ct_Ch_applyOne 30 = ka_al 0 1 := rfl
theorem d_Ch_applyOne_30 : decode prog_2_method_5_code 30 = .ok (.aload_n 0, 1) := by decide +kernel
set_option maxRecDepth 100000 in
theorem c_Ch_applyOne_31 : ct_Ch_applyOne 31 = ka_get 7 0 := rfl
theorem d_Ch_applyOne_31 : decode prog_2_method_5_code 31 = .ok (.getfield 9, 3) := by decide +kernel
set_option maxRecDepth 100000 in
theorem c_Ch_applyOne_34 : ct_Ch_applyOne 34 = ka_il 1 1 := rfl
theorem d_Ch_applyOne_34 : decode prog_2_method_5_code 34 = .ok (.iload_n 1, 1) := by decide +kernel
set_option maxRecDepth 100000 in
theorem c_Ch_applyOne_35 : ct_Ch_applyOne 35 = ka_iald := rfl
theorem d_Ch_applyOne_35 : decode prog_2_method_5_code 35 = .ok (.iaload, 1) := by decide +kernel
set_option maxRecDepth 100000 in
theorem c_Ch_applyOne_36 : ct_Ch_applyOne 36 = ka_ci (nI 2) 1 := rfl
theorem d_Ch_applyOne_36 : decode prog_2_method_5_code 36 = .ok (.iconst 2, 1) := by decide +kernel
set_option maxRecDepth 100000 in
theorem c_Ch_applyOne_37 : ct_Ch_applyOne 37 = ka_cm (fun x y => x = y) 55 := rfl
theorem d_Ch_applyOne_37 : decode prog_2_method_5_code 37 = .ok (.if_icmp .eq 18, 3) := by decide +kernel
set_option maxRecDepth 100000 in
theorem c_Ch_applyOne_40 : ct_Ch_applyOne 40 = ka_il 4 2 := rfl
theorem d_Ch_applyOne_40 : decode prog_2_method_5_code 40 = .ok (.iload 4, 2) := by decide +kernel
set_option maxRecDepth 100000 in
theorem c_Ch_applyOne_42 : ct_Ch_applyOne 42 = ka_if (fun x => x = 0) 84 := rfl
theorem d_Ch_applyOne_42 : decode prog_2_method_5_code 42 = .ok (.ifCond .eq 42, 3) := by decide +kernel
set_option maxRecDepth 100000 in
theorem c_Ch_applyOne_45 : ct_Ch_applyOne 45 = ka_il 2 1 := rfl
theorem d_Ch_applyOne_45 : decode prog_2_method_5_code 45 = .ok (.iload_n 2, 1) := by decide +kernel
set_option maxRecDepth 100000 in
theorem c_Ch_applyOne_46 : ct_Ch_applyOne 46 = ka_al 0 1 := rfl
theorem d_Ch_applyOne_46 : decode prog_2_method_5_code 46 = .ok (.aload_n 0, 1) := by decide +kernel
set_option maxRecDepth 100000 in
theorem c_Ch_applyOne_47 : ct_Ch_applyOne 47 = ka_get 7 2 := rfl
theorem d_Ch_applyOne_47 : decode prog_2_method_5_code 47 = .ok (.getfield 18, 3) := by decide +kernel
set_option maxRecDepth 100000 in
theorem c_Ch_applyOne_50 : ct_Ch_applyOne 50 = ka_il 1 1 := rfl
theorem d_Ch_applyOne_50 : decode prog_2_method_5_code 50 = .ok (.iload_n 1, 1) := by decide +kernel
set_option maxRecDepth 100000 in
theorem c_Ch_applyOne_51 : ct_Ch_applyOne 51 = ka_iald := rfl
theorem d_Ch_applyOne_51 : decode prog_2_method_5_code 51 = .ok (.iaload, 1) := by decide +kernel
set_option maxRecDepth 100000 in
theorem c_Ch_applyOne_52 : ct_Ch_applyOne 52 = ka_cm (fun x y => ¬ x = y) 84 := rfl
theorem d_Ch_applyOne_52 : decode prog_2_method_5_code 52 = .ok (.if_icmp .ne 32, 3) := by decide +kernel
set_option maxRecDepth 100000 in
theorem c_Ch_applyOne_55 : ct_Ch_applyOne 55 = ka_al 3 1 := rfl
theorem d_Ch_applyOne_55 : decode prog_2_method_5_code 55 = .ok (.aload_n 3, 1) := by decide +kernel
set_option maxRecDepth 100000 in
theorem c_Ch_applyOne_56 : ct_Ch_applyOne 56 = ka_al 0 1 := rfl
theorem d_Ch_applyOne_56 : decode prog_2_method_5_code 56 = .ok (.aload_n 0, 1) := by decide +kernel
set_option maxRecDepth 100000 in
theorem c_Ch_applyOne_57 : ct_Ch_applyOne 57 = ka_get 7 1 := rfl
theorem d_Ch_applyOne_57 : decode prog_2_method_5_code 57 = .ok (.getfield 15, 3) := by decide +kernel
set_option maxRecDepth 100000 in
theorem c_Ch_applyOne_60 : ct_Ch_applyOne 60 = ka_il 1 1 := rfl
theorem d_Ch_applyOne_60 : decode prog_2_method_5_code 60 = .ok (.iload_n 1, 1) := by decide +kernel
set_option maxRecDepth 100000 in
theorem c_Ch_applyOne_61 : ct_Ch_applyOne 61 = ka_iald := rfl
theorem d_Ch_applyOne_61 : decode prog_2_method_5_code 61 = .ok (.iaload, 1) := by decide +kernel
set_option maxRecDepth 100000 in
theorem c_Ch_applyOne_62 : ct_Ch_applyOne 62 = ka_cl 0 1 := rfl
theorem d_Ch_applyOne_62 : decode prog_2_method_5_code 62 = .ok (.lconst 0, 1) := by decide +kernel
set_option maxRecDepth 100000 in
theorem c_Ch_applyOne_63 : ct_Ch_applyOne 63 = ka_cl (9223372036854775807) 3 := rfl
theorem d_Ch_applyOne_63 : decode prog_2_method_5_code 63 = .ok (.ldc2_w 68, 3) := by decide +kernel
set_option maxRecDepth 100000 in
theorem c_Ch_applyOne_66 : ct_Ch_applyOne 66 = ka_cv 74 3 6 0 0 := rfl
theorem d_Ch_applyOne_66 : decode prog_2_method_5_code 66 = .ok (.invokevirtual 70, 3) := by decide +kernel
set_option maxRecDepth 100000 in
theorem c_Ch_applyOne_69 : ct_Ch_applyOne 69 = ka_is 5 2 := rfl
theorem d_Ch_applyOne_69 : decode prog_2_method_5_code 69 = .ok (.istore 5, 2) := by decide +kernel
set_option maxRecDepth 100000 in
theorem c_Ch_applyOne_71 : ct_Ch_applyOne 71 = ka_il 4 2 := rfl
theorem d_Ch_applyOne_71 : decode prog_2_method_5_code 71 = .ok (.iload 4, 2) := by decide +kernel
set_option maxRecDepth 100000 in
theorem c_Ch_applyOne_73 : ct_Ch_applyOne 73 = ka_if (fun x => x = 0) 84 := rfl
theorem d_Ch_applyOne_73 : decode prog_2_method_5_code 73 = .ok (.ifCond .eq 11, 3) := by decide +kernel
set_option maxRecDepth 100000 in
theorem c_Ch_applyOne_76 : ct_Ch_applyOne 76 = ka_il 5 2 := rfl
theorem d_Ch_applyOne_76 : decode prog_2_method_5_code 76 = .ok (.iload 5, 2) := by decide +kernel
set_option maxRecDepth 100000 in
theorem c_Ch_applyOne_78 : ct_Ch_applyOne 78 = ka_if (fun x => ¬ x = 0) 84 := rfl
theorem d_Ch_applyOne_78 : decode prog_2_method_5_code 78 = .ok (.ifCond .ne 6, 3) := by decide +kernel
set_option maxRecDepth 100000 in
theorem c_Ch_applyOne_81 : ct_Ch_applyOne 81 = ka_ci (nI 16) 2 := rfl
theorem d_Ch_applyOne_81 : decode prog_2_method_5_code 81 = .ok (.bipush 16, 2) := by decide +kernel
set_option maxRecDepth 100000 in
theorem c_Ch_applyOne_83 : ct_Ch_applyOne 83 = ka_ri := rfl
theorem d_Ch_applyOne_83 : decode prog_2_method_5_code 83 = .ok (.ireturn, 1) := by decide +kernel
set_option maxRecDepth 100000 in
theorem c_Ch_applyOne_84 : ct_Ch_applyOne 84 = ka_il 2 1 := rfl
theorem d_Ch_applyOne_84 : decode prog_2_method_5_code 84 = .ok (.iload_n 2, 1) := by decide +kernel
set_option maxRecDepth 100000 in
theorem c_Ch_applyOne_85 : ct_Ch_applyOne 85 = ka_is 5 2 := rfl
theorem d_Ch_applyOne_85 : decode prog_2_method_5_code 85 = .ok (.istore 5, 2) := by decide +kernel
set_option maxRecDepth 100000 in
theorem c_Ch_applyOne_87 : ct_Ch_applyOne 87 = ka_il 5 2 := rfl
theorem d_Ch_applyOne_87 : decode prog_2_method_5_code 87 = .ok (.iload 5, 2) := by decide +kernel
set_option maxRecDepth 100000 in
theorem c_Ch_applyOne_89 : ct_Ch_applyOne 89 = ka_al 0 1 := rfl
theorem d_Ch_applyOne_89 : decode prog_2_method_5_code 89 = .ok (.aload_n 0, 1) := by decide +kernel
set_option maxRecDepth 100000 in
theorem c_Ch_applyOne_90 : ct_Ch_applyOne 90 = ka_get 7 2 := rfl
theorem d_Ch_applyOne_90 : decode prog_2_method_5_code 90 = .ok (.getfield 18, 3) := by decide +kernel
set_option maxRecDepth 100000 in
theorem c_Ch_applyOne_93 : ct_Ch_applyOne 93 = ka_il 1 1 := rfl
theorem d_Ch_applyOne_93 : decode prog_2_method_5_code 93 = .ok (.iload_n 1, 1) := by decide +kernel
set_option maxRecDepth 100000 in
theorem c_Ch_applyOne_94 : ct_Ch_applyOne 94 = ka_iald := rfl
theorem d_Ch_applyOne_94 : decode prog_2_method_5_code 94 = .ok (.iaload, 1) := by decide +kernel
set_option maxRecDepth 100000 in
theorem c_Ch_applyOne_95 : ct_Ch_applyOne 95 = ka_cm (fun x y => y ≤ x) 177 := rfl
theorem d_Ch_applyOne_95 : decode prog_2_method_5_code 95 = .ok (.if_icmp .ge 82, 3) := by decide +kernel
set_option maxRecDepth 100000 in
theorem c_Ch_applyOne_98 : ct_Ch_applyOne 98 = ka_al 0 1 := rfl
theorem d_Ch_applyOne_98 : decode prog_2_method_5_code 98 = .ok (.aload_n 0, 1) := by decide +kernel
set_option maxRecDepth 100000 in
theorem c_Ch_applyOne_99 : ct_Ch_applyOne 99 = ka_get 7 3 := rfl
theorem d_Ch_applyOne_99 : decode prog_2_method_5_code 99 = .ok (.getfield 21, 3) := by decide +kernel
set_option maxRecDepth 100000 in
theorem c_Ch_applyOne_102 : ct_Ch_applyOne 102 = ka_il 5 2 := rfl
theorem d_Ch_applyOne_102 : decode prog_2_method_5_code 102 = .ok (.iload 5, 2) := by decide +kernel
set_option maxRecDepth 100000 in
theorem c_Ch_applyOne_104 : ct_Ch_applyOne 104 = ka_lald := rfl
theorem d_Ch_applyOne_104 : decode prog_2_method_5_code 104 = .ok (.laload, 1) := by decide +kernel
set_option maxRecDepth 100000 in
theorem c_Ch_applyOne_105 : ct_Ch_applyOne 105 = ka_cl (-1) 3 := rfl
theorem d_Ch_applyOne_105 : decode prog_2_method_5_code 105 = .ok (.ldc2_w 76, 3) := by decide +kernel
set_option maxRecDepth 100000 in
theorem c_Ch_applyOne_108 : ct_Ch_applyOne 108 = ka_lcmp := rfl
theorem d_Ch_applyOne_108 : decode prog_2_method_5_code 108 = .ok (.lcmp, 1) := by decide +kernel
set_option maxRecDepth 100000 in
theorem c_Ch_applyOne_109 : ct_Ch_applyOne 109 = ka_if (fun x => ¬ x = 0) 115 := rfl
theorem d_Ch_applyOne_109 : decode prog_2_method_5_code 109 = .ok (.ifCond .ne 6, 3) := by decide +kernel
set_option maxRecDepth 100000 in
theorem c_Ch_applyOne_112 : ct_Ch_applyOne 112 = ka_ci (nI 21) 2 := rfl
theorem d_Ch_applyOne_112 : decode prog_2_method_5_code 112 = .ok (.bipush 21, 2) := by decide +kernel
set_option maxRecDepth 100000 in
theorem c_Ch_applyOne_114 : ct_Ch_applyOne 114 = ka_ri := rfl
theorem d_Ch_applyOne_114 : decode prog_2_method_5_code 114 = .ok (.ireturn, 1) := by decide +kernel
set_option maxRecDepth 100000 in
theorem c_Ch_applyOne_115 : ct_Ch_applyOne 115 = ka_il 4 2 := rfl
theorem d_Ch_applyOne_115 : decode prog_2_method_5_code 115 = .ok (.iload 4, 2) := by decide +kernel
set_option maxRecDepth 100000 in
theorem c_Ch_applyOne_117 : ct_Ch_applyOne 117 = ka_if (fun x => x = 0) 143 := rfl
theorem d_Ch_applyOne_117 : decode prog_2_method_5_code 117 = .ok (.ifCond .eq 26, 3) := by decide +kernel
set_option maxRecDepth 100000 in
theorem c_Ch_applyOne_120 : ct_Ch_applyOne 120 = ka_al 3 1 := rfl
theorem d_Ch_applyOne_120 : decode prog_2_method_5_code 120 = .ok (.aload_n 3, 1) := by decide +kernel
set_option maxRecDepth 100000 in
theorem c_Ch_applyOne_121 : ct_Ch_applyOne 121 = ka_al 0 1 := rfl
theorem d_Ch_applyOne_121 : decode prog_2_method_5_code 121 = .ok (.aload_n 0, 1) := by decide +kernel
set_option maxRecDepth 100000 in
theorem c_Ch_applyOne_122 : ct_Ch_applyOne 122 = ka_get 7 1 := rfl
theorem d_Ch_applyOne_122 : decode prog_2_method_5_code 122 = .ok (.getfield 15, 3) := by decide +kernel
set_option maxRecDepth 100000 in
theorem c_Ch_applyOne_125 : ct_Ch_applyOne 125 = ka_il 1 1 := rfl
theorem d_Ch_applyOne_125 : decode prog_2_method_5_code 125 = .ok (.iload_n 1, 1) := by decide +kernel
set_option maxRecDepth 100000 in
theorem c_Ch_applyOne_126 : ct_Ch_applyOne 126 = ka_iald := rfl
theorem d_Ch_applyOne_126 : decode prog_2_method_5_code 126 = .ok (.iaload, 1) := by decide +kernel
set_option maxRecDepth 100000 in
theorem c_Ch_applyOne_127 : ct_Ch_applyOne 127 = ka_al 0 1 := rfl
theorem d_Ch_applyOne_127 : decode prog_2_method_5_code 127 = .ok (.aload_n 0, 1) := by decide +kernel
set_option maxRecDepth 100000 in
theorem c_Ch_applyOne_128 : ct_Ch_applyOne 128 = ka_get 7 3 := rfl
theorem d_Ch_applyOne_128 : decode prog_2_method_5_code 128 = .ok (.getfield 21, 3) := by decide +kernel
set_option maxRecDepth 100000 in
theorem c_Ch_applyOne_131 : ct_Ch_applyOne 131 = ka_il 5 2 := rfl
theorem d_Ch_applyOne_131 : decode prog_2_method_5_code 131 = .ok (.iload 5, 2) := by decide +kernel
set_option maxRecDepth 100000 in
theorem c_Ch_applyOne_133 : ct_Ch_applyOne 133 = ka_lald := rfl
theorem d_Ch_applyOne_133 : decode prog_2_method_5_code 133 = .ok (.laload, 1) := by decide +kernel
set_option maxRecDepth 100000 in
theorem c_Ch_applyOne_134 : ct_Ch_applyOne 134 = ka_cv 73 2 6 0 0 := rfl
theorem d_Ch_applyOne_134 : decode prog_2_method_5_code 134 = .ok (.invokevirtual 78, 3) := by decide +kernel
set_option maxRecDepth 100000 in
theorem c_Ch_applyOne_137 : ct_Ch_applyOne 137 = ka_if (fun x => ¬ x = 0) 143 := rfl
theorem d_Ch_applyOne_137 : decode prog_2_method_5_code 137 = .ok (.ifCond .ne 6, 3) := by decide +kernel
set_option maxRecDepth 100000 in
theorem c_Ch_applyOne_140 : ct_Ch_applyOne 140 = ka_ci (nI 16) 2 := rfl
theorem d_Ch_applyOne_140 : decode prog_2_method_5_code 140 = .ok (.bipush 16, 2) := by decide +kernel
set_option maxRecDepth 100000 in
theorem c_Ch_applyOne_142 : ct_Ch_applyOne 142 = ka_ri := rfl
theorem d_Ch_applyOne_142 : decode prog_2_method_5_code 142 = .ok (.ireturn, 1) := by decide +kernel
set_option maxRecDepth 100000 in
theorem c_Ch_applyOne_143 : ct_Ch_applyOne 143 = ka_il 4 2 := rfl
theorem d_Ch_applyOne_143 : decode prog_2_method_5_code 143 = .ok (.iload 4, 2) := by decide +kernel
set_option maxRecDepth 100000 in
theorem c_Ch_applyOne_145 : ct_Ch_applyOne 145 = ka_if (fun x => ¬ x = 0) 171 := rfl
theorem d_Ch_applyOne_145 : decode prog_2_method_5_code 145 = .ok (.ifCond .ne 26, 3) := by decide +kernel
set_option maxRecDepth 100000 in
theorem c_Ch_applyOne_148 : ct_Ch_applyOne 148 = ka_al 3 1 := rfl
theorem d_Ch_applyOne_148 : decode prog_2_method_5_code 148 = .ok (.aload_n 3, 1) := by decide +kernel
set_option maxRecDepth 100000 in
theorem c_Ch_applyOne_149 : ct_Ch_applyOne 149 = ka_al 0 1 := rfl
theorem d_Ch_applyOne_149 : decode prog_2_method_5_code 149 = .ok (.aload_n 0, 1) := by decide +kernel
set_option maxRecDepth 100000 in
theorem c_Ch_applyOne_150 : ct_Ch_applyOne 150 = ka_get 7 1 := rfl
theorem d_Ch_applyOne_150 : decode prog_2_method_5_code 150 = .ok (.getfield 15, 3) := by decide +kernel
set_option maxRecDepth 100000 in
theorem c_Ch_applyOne_153 : ct_Ch_applyOne 153 = ka_il 1 1 := rfl
theorem d_Ch_applyOne_153 : decode prog_2_method_5_code 153 = .ok (.iload_n 1, 1) := by decide +kernel
set_option maxRecDepth 100000 in
theorem c_Ch_applyOne_154 : ct_Ch_applyOne 154 = ka_iald := rfl
theorem d_Ch_applyOne_154 : decode prog_2_method_5_code 154 = .ok (.iaload, 1) := by decide +kernel
set_option maxRecDepth 100000 in
theorem c_Ch_applyOne_155 : ct_Ch_applyOne 155 = ka_al 0 1 := rfl
theorem d_Ch_applyOne_155 : decode prog_2_method_5_code 155 = .ok (.aload_n 0, 1) := by decide +kernel
set_option maxRecDepth 100000 in
theorem c_Ch_applyOne_156 : ct_Ch_applyOne 156 = ka_get 7 3 := rfl
theorem d_Ch_applyOne_156 : decode prog_2_method_5_code 156 = .ok (.getfield 21, 3) := by decide +kernel
set_option maxRecDepth 100000 in
theorem c_Ch_applyOne_159 : ct_Ch_applyOne 159 = ka_il 5 2 := rfl
theorem d_Ch_applyOne_159 : decode prog_2_method_5_code 159 = .ok (.iload 5, 2) := by decide +kernel
set_option maxRecDepth 100000 in
theorem c_Ch_applyOne_161 : ct_Ch_applyOne 161 = ka_lald := rfl
theorem d_Ch_applyOne_161 : decode prog_2_method_5_code 161 = .ok (.laload, 1) := by decide +kernel
set_option maxRecDepth 100000 in
theorem c_Ch_applyOne_162 : ct_Ch_applyOne 162 = ka_cv 72 2 6 0 0 := rfl
theorem d_Ch_applyOne_162 : decode prog_2_method_5_code 162 = .ok (.invokevirtual 82, 3) := by decide +kernel
set_option maxRecDepth 100000 in
theorem c_Ch_applyOne_165 : ct_Ch_applyOne 165 = ka_if (fun x => ¬ x = 0) 171 := rfl
theorem d_Ch_applyOne_165 : decode prog_2_method_5_code 165 = .ok (.ifCond .ne 6, 3) := by decide +kernel
set_option maxRecDepth 100000 in
theorem c_Ch_applyOne_168 : ct_Ch_applyOne 168 = ka_ci (nI 20) 2 := rfl
theorem d_Ch_applyOne_168 : decode prog_2_method_5_code 168 = .ok (.bipush 20, 2) := by decide +kernel
set_option maxRecDepth 100000 in
theorem c_Ch_applyOne_170 : ct_Ch_applyOne 170 = ka_ri := rfl
theorem d_Ch_applyOne_170 : decode prog_2_method_5_code 170 = .ok (.ireturn, 1) := by decide +kernel
set_option maxRecDepth 100000 in
theorem c_Ch_applyOne_171 : ct_Ch_applyOne 171 = ka_inc 5 (nI 1) := rfl
theorem d_Ch_applyOne_171 : decode prog_2_method_5_code 171 = .ok (.iinc 5 1, 3) := by decide +kernel
set_option maxRecDepth 100000 in
theorem c_Ch_applyOne_174 : ct_Ch_applyOne 174 = ka_goto 87 := rfl
theorem d_Ch_applyOne_174 : decode prog_2_method_5_code 174 = .ok (.goto (-87), 3) := by decide +kernel
set_option maxRecDepth 100000 in
theorem c_Ch_applyOne_177 : ct_Ch_applyOne 177 = ka_ci (nI 0) 1 := rfl
theorem d_Ch_applyOne_177 : decode prog_2_method_5_code 177 = .ok (.iconst 0, 1) := by decide +kernel
set_option maxRecDepth 100000 in
theorem c_Ch_applyOne_178 : ct_Ch_applyOne 178 = ka_ri := rfl
theorem d_Ch_applyOne_178 : decode prog_2_method_5_code 178 = .ok (.ireturn, 1) := by decide +kernel
set_option maxRecDepth 100000 in
set_option maxHeartbeats 4000000 in
theorem s_Ch_applyOne_60 : ∀ pc, pc < 60 → kc_Sim kt kw_A kw_N kt_cl kt_En "DirectoryDesk$Changes" prog_2_method_5_code 6 (some .int) "applyOne" none pc (ct_Ch_applyOne pc) := by
  let P : Nat → Prop := fun pc => kc_Sim kt kw_A kw_N kt_cl kt_En "DirectoryDesk$Changes" prog_2_method_5_code 6 (some .int) "applyOne" none pc (ct_Ch_applyOne pc)
  exact kc_case (P := P) (kc_se rfl sm_no) (
  kc_case (P := P) (kc_se rfl sm_no) (
  kc_case (P := P) (kc_se c_Ch_applyOne_57 (sm_get (ci := 7) (C := "DirectoryDesk$Changes") (F := kF_Ch) rfl kin_Ch (Nat.le_of_ble_eq_true rfl) d_Ch_applyOne_57 (kw1 178 rfl rfl))) (
  kc_case (P := P) (kc_se c_Ch_applyOne_56 (sm_aload_n d_Ch_applyOne_56 rfl)) (
  kc_case (P := P) (kc_se c_Ch_applyOne_55 (sm_aload_n d_Ch_applyOne_55 rfl)) (
  kc_case (P := P) (kc_se rfl sm_no) (
  kc_case (P := P) (kc_se rfl sm_no) (
  kc_case (P := P) (kc_se c_Ch_applyOne_52 (sm_cm_ne d_Ch_applyOne_52 (by decide))) (
  kc_case (P := P) (kc_se c_Ch_applyOne_51 (sm_iald d_Ch_applyOne_51)) (
  kc_case (P := P) (kc_se c_Ch_applyOne_50 (sm_iload_n d_Ch_applyOne_50 rfl)) (
  kc_case (P := P) (kc_se rfl sm_no) (
  kc_case (P := P) (kc_se rfl sm_no) (
  kc_case (P := P) (kc_se c_Ch_applyOne_47 (sm_get (ci := 7) (C := "DirectoryDesk$Changes") (F := kF_Ch) rfl kin_Ch (Nat.le_of_ble_eq_true rfl) d_Ch_applyOne_47 (kw1 179 rfl rfl))) (
  kc_case (P := P) (kc_se c_Ch_applyOne_46 (sm_aload_n d_Ch_applyOne_46 rfl)) (
  kc_case (P := P) (kc_se c_Ch_applyOne_45 (sm_iload_n d_Ch_applyOne_45 rfl)) (
  kc_case (P := P) (kc_se rfl sm_no) (
  kc_case (P := P) (kc_se rfl sm_no) (
  kc_case (P := P) (kc_se c_Ch_applyOne_42 (sm_if_eq d_Ch_applyOne_42 (by decide))) (
  kc_case (P := P) (kc_se rfl sm_no) (
  kc_case (P := P) (kc_se c_Ch_applyOne_40 (sm_iload d_Ch_applyOne_40)) (
  kc_case (P := P) (kc_se rfl sm_no) (
  kc_case (P := P) (kc_se rfl sm_no) (
  kc_case (P := P) (kc_se c_Ch_applyOne_37 (sm_cm_eq d_Ch_applyOne_37 (by decide))) (
  kc_case (P := P) (kc_se c_Ch_applyOne_36 (sm_iconst d_Ch_applyOne_36 (by decide))) (
  kc_case (P := P) (kc_se c_Ch_applyOne_35 (sm_iald d_Ch_applyOne_35)) (
  kc_case (P := P) (kc_se c_Ch_applyOne_34 (sm_iload_n d_Ch_applyOne_34 rfl)) (
  kc_case (P := P) (kc_se rfl sm_no) (
  kc_case (P := P) (kc_se rfl sm_no) (
  kc_case (P := P) (kc_se c_Ch_applyOne_31 (sm_get (ci := 7) (C := "DirectoryDesk$Changes") (F := kF_Ch) rfl kin_Ch (Nat.le_of_ble_eq_true rfl) d_Ch_applyOne_31 (kw1 177 rfl rfl))) (
  kc_case (P := P) (kc_se c_Ch_applyOne_30 (sm_aload_n d_Ch_applyOne_30 rfl)) (
  kc_case (P := P) (kc_se rfl sm_no) (
  kc_case (P := P) (kc_se c_Ch_applyOne_28 (sm_istore d_Ch_applyOne_28 (Nat.le_of_ble_eq_true rfl))) (
  kc_case (P := P) (kc_se c_Ch_applyOne_27 (sm_iconst d_Ch_applyOne_27 (by decide))) (
  kc_case (P := P) (kc_se rfl sm_no) (
  kc_case (P := P) (kc_se rfl sm_no) (
  kc_case (P := P) (kc_se c_Ch_applyOne_24 (sm_goto d_Ch_applyOne_24 (by decide))) (
  kc_case (P := P) (kc_se c_Ch_applyOne_23 (sm_iconst d_Ch_applyOne_23 (by decide))) (
  kc_case (P := P) (kc_se rfl sm_no) (
  kc_case (P := P) (kc_se rfl sm_no) (
  kc_case (P := P) (kc_se c_Ch_applyOne_20 (sm_cm_ne d_Ch_applyOne_20 (by decide))) (
  kc_case (P := P) (kc_se c_Ch_applyOne_19 (sm_iconst d_Ch_applyOne_19 (by decide))) (
  kc_case (P := P) (kc_se c_Ch_applyOne_18 (sm_iald d_Ch_applyOne_18)) (
  kc_case (P := P) (kc_se c_Ch_applyOne_17 (sm_iload_n d_Ch_applyOne_17 rfl)) (
  kc_case (P := P) (kc_se rfl sm_no) (
  kc_case (P := P) (kc_se rfl sm_no) (
  kc_case (P := P) (kc_se c_Ch_applyOne_14 (sm_get (ci := 7) (C := "DirectoryDesk$Changes") (F := kF_Ch) rfl kin_Ch (Nat.le_of_ble_eq_true rfl) d_Ch_applyOne_14 (kw1 177 rfl rfl))) (
  kc_case (P := P) (kc_se c_Ch_applyOne_13 (sm_aload_n d_Ch_applyOne_13 rfl)) (
  kc_case (P := P) (kc_se c_Ch_applyOne_12 (sm_ri d_Ch_applyOne_12 rfl)) (
  kc_case (P := P) (kc_se rfl sm_no) (
  kc_case (P := P) (kc_se c_Ch_applyOne_10 (sm_bipush d_Ch_applyOne_10 (by decide))) (
  kc_case (P := P) (kc_se rfl sm_no) (
  kc_case (P := P) (kc_se rfl sm_no) (
  kc_case (P := P) (kc_se c_Ch_applyOne_7 (sm_cm_ne d_Ch_applyOne_7 (by decide))) (
  kc_case (P := P) (kc_se c_Ch_applyOne_6 (sm_iconst d_Ch_applyOne_6 (by decide))) (
  kc_case (P := P) (kc_se c_Ch_applyOne_5 (sm_iald d_Ch_applyOne_5)) (
  kc_case (P := P) (kc_se c_Ch_applyOne_4 (sm_iload_n d_Ch_applyOne_4 rfl)) (
  kc_case (P := P) (kc_se rfl sm_no) (
  kc_case (P := P) (kc_se rfl sm_no) (
  kc_case (P := P) (kc_se c_Ch_applyOne_1 (sm_get (ci := 7) (C := "DirectoryDesk$Changes") (F := kF_Ch) rfl kin_Ch (Nat.le_of_ble_eq_true rfl) d_Ch_applyOne_1 (kw1 178 rfl rfl))) (
  kc_case (P := P) (kc_se c_Ch_applyOne_0 (sm_aload_n d_Ch_applyOne_0 rfl)) (
  kc_case0))))))))))))))))))))))))))))))))))))))))))))))))))))))))))))
set_option maxRecDepth 100000 in
set_option maxHeartbeats 4000000 in
theorem s_Ch_applyOne_120 : ∀ pc, pc < 120 → kc_Sim kt kw_A kw_N kt_cl kt_En "DirectoryDesk$Changes" prog_2_method_5_code 6 (some .int) "applyOne" none pc (ct_Ch_applyOne pc) := by
  let P : Nat → Prop := fun pc => kc_Sim kt kw_A kw_N kt_cl kt_En "DirectoryDesk$Changes" prog_2_method_5_code 6 (some .int) "applyOne" none pc (ct_Ch_applyOne pc)
  exact kc_case (P := P) (kc_se rfl sm_no) (
  kc_case (P := P) (kc_se rfl sm_no) (
  kc_case (P := P) (kc_se c_Ch_applyOne_117 (sm_if_eq d_Ch_applyOne_117 (by decide))) (
  kc_case (P := P) (kc_se rfl sm_no) (
  kc_case (P := P) (kc_se c_Ch_applyOne_115 (sm_iload d_Ch_applyOne_115)) (
  kc_case (P := P) (kc_se c_Ch_applyOne_114 (sm_ri d_Ch_applyOne_114 rfl)) (
  kc_case (P := P) (kc_se rfl sm_no) (
  kc_case (P := P) (kc_se c_Ch_applyOne_112 (sm_bipush d_Ch_applyOne_112 (by decide))) (
  kc_case (P := P) (kc_se rfl sm_no) (
  kc_case (P := P) (kc_se rfl sm_no) (
  kc_case (P := P) (kc_se c_Ch_applyOne_109 (sm_if_ne d_Ch_applyOne_109 (by decide))) (
  kc_case (P := P) (kc_se c_Ch_applyOne_108 (sm_lcmp d_Ch_applyOne_108)) (
  kc_case (P := P) (kc_se rfl sm_no) (
  kc_case (P := P) (kc_se rfl sm_no) (
  kc_case (P := P) (kc_se c_Ch_applyOne_105 (sm_ldc2 d_Ch_applyOne_105 (kw3 90 rfl rfl))) (
  kc_case (P := P) (kc_se c_Ch_applyOne_104 (sm_lald d_Ch_applyOne_104)) (
  kc_case (P := P) (kc_se rfl sm_no) (
  kc_case (P := P) (kc_se c_Ch_applyOne_102 (sm_iload d_Ch_applyOne_102)) (
  kc_case (P := P) (kc_se rfl sm_no) (
  kc_case (P := P) (kc_se rfl sm_no) (
  kc_case (P := P) (kc_se c_Ch_applyOne_99 (sm_get (ci := 7) (C := "DirectoryDesk$Changes") (F := kF_Ch) rfl kin_Ch (Nat.le_of_ble_eq_true rfl) d_Ch_applyOne_99 (kw1 180 rfl rfl))) (
  kc_case (P := P) (kc_se c_Ch_applyOne_98 (sm_aload_n d_Ch_applyOne_98 rfl)) (
  kc_case (P := P) (kc_se rfl sm_no) (
  kc_case (P := P) (kc_se rfl sm_no) (
  kc_case (P := P) (kc_se c_Ch_applyOne_95 (sm_cm_ge d_Ch_applyOne_95 (by decide))) (
  kc_case (P := P) (kc_se c_Ch_applyOne_94 (sm_iald d_Ch_applyOne_94)) (
  kc_case (P := P) (kc_se c_Ch_applyOne_93 (sm_iload_n d_Ch_applyOne_93 rfl)) (
  kc_case (P := P) (kc_se rfl sm_no) (
  kc_case (P := P) (kc_se rfl sm_no) (
  kc_case (P := P) (kc_se c_Ch_applyOne_90 (sm_get (ci := 7) (C := "DirectoryDesk$Changes") (F := kF_Ch) rfl kin_Ch (Nat.le_of_ble_eq_true rfl) d_Ch_applyOne_90 (kw1 179 rfl rfl))) (
  kc_case (P := P) (kc_se c_Ch_applyOne_89 (sm_aload_n d_Ch_applyOne_89 rfl)) (
  kc_case (P := P) (kc_se rfl sm_no) (
  kc_case (P := P) (kc_se c_Ch_applyOne_87 (sm_iload d_Ch_applyOne_87)) (
  kc_case (P := P) (kc_se rfl sm_no) (
  kc_case (P := P) (kc_se c_Ch_applyOne_85 (sm_istore d_Ch_applyOne_85 (Nat.le_of_ble_eq_true rfl))) (
  kc_case (P := P) (kc_se c_Ch_applyOne_84 (sm_iload_n d_Ch_applyOne_84 rfl)) (
  kc_case (P := P) (kc_se c_Ch_applyOne_83 (sm_ri d_Ch_applyOne_83 rfl)) (
  kc_case (P := P) (kc_se rfl sm_no) (
  kc_case (P := P) (kc_se c_Ch_applyOne_81 (sm_bipush d_Ch_applyOne_81 (by decide))) (
  kc_case (P := P) (kc_se rfl sm_no) (
  kc_case (P := P) (kc_se rfl sm_no) (
  kc_case (P := P) (kc_se c_Ch_applyOne_78 (sm_if_ne d_Ch_applyOne_78 (by decide))) (
  kc_case (P := P) (kc_se rfl sm_no) (
  kc_case (P := P) (kc_se c_Ch_applyOne_76 (sm_iload d_Ch_applyOne_76)) (
  kc_case (P := P) (kc_se rfl sm_no) (
  kc_case (P := P) (kc_se rfl sm_no) (
  kc_case (P := P) (kc_se c_Ch_applyOne_73 (sm_if_eq d_Ch_applyOne_73 (by decide))) (
  kc_case (P := P) (kc_se rfl sm_no) (
  kc_case (P := P) (kc_se c_Ch_applyOne_71 (sm_iload d_Ch_applyOne_71)) (
  kc_case (P := P) (kc_se rfl sm_no) (
  kc_case (P := P) (kc_se c_Ch_applyOne_69 (sm_istore d_Ch_applyOne_69 (Nat.le_of_ble_eq_true rfl))) (
  kc_case (P := P) (kc_se rfl sm_no) (
  kc_case (P := P) (kc_se rfl sm_no) (
  kc_case (P := P) (kc_se c_Ch_applyOne_66 (sm_cv (j := 74) rfl rfl kw_o kw_g wc_Pa_removeBetween (Nat.le_of_ble_eq_true rfl) hd_Pa_removeBetween (ci := 6) (F := kF_Pa) (N := 3) rfl (kw3 86 rfl rfl) wi_Pa_removeBetween ws_Pa_removeBetween wn_Pa_removeBetween d_Ch_applyOne_66)) (
  kc_case (P := P) (kc_se rfl sm_no) (
  kc_case (P := P) (kc_se rfl sm_no) (
  kc_case (P := P) (kc_se c_Ch_applyOne_63 (sm_ldc2 d_Ch_applyOne_63 (kw3 85 rfl rfl))) (
  kc_case (P := P) (kc_se c_Ch_applyOne_62 (sm_lconst d_Ch_applyOne_62 (by decide))) (
  kc_case (P := P) (kc_se c_Ch_applyOne_61 (sm_iald d_Ch_applyOne_61)) (
  kc_case (P := P) (kc_se c_Ch_applyOne_60 (sm_iload_n d_Ch_applyOne_60 rfl)) (
  s_Ch_applyOne_60))))))))))))))))))))))))))))))))))))))))))))))))))))))))))))
set_option maxRecDepth 100000 in
set_option maxHeartbeats 4000000 in
theorem s_Ch_applyOne_179 : ∀ pc, pc < 179 → kc_Sim kt kw_A kw_N kt_cl kt_En "DirectoryDesk$Changes" prog_2_method_5_code 6 (some .int) "applyOne" none pc (ct_Ch_applyOne pc) := by
  let P : Nat → Prop := fun pc => kc_Sim kt kw_A kw_N kt_cl kt_En "DirectoryDesk$Changes" prog_2_method_5_code 6 (some .int) "applyOne" none pc (ct_Ch_applyOne pc)
  exact kc_case (P := P) (kc_se c_Ch_applyOne_178 (sm_ri d_Ch_applyOne_178 rfl)) (
  kc_case (P := P) (kc_se c_Ch_applyOne_177 (sm_iconst d_Ch_applyOne_177 (by decide))) (
  kc_case (P := P) (kc_se rfl sm_no) (
  kc_case (P := P) (kc_se rfl sm_no) (
  kc_case (P := P) (kc_se c_Ch_applyOne_174 (sm_goto d_Ch_applyOne_174 (by decide))) (
  kc_case (P := P) (kc_se rfl sm_no) (
  kc_case (P := P) (kc_se rfl sm_no) (
  kc_case (P := P) (kc_se c_Ch_applyOne_171 (sm_inc d_Ch_applyOne_171 (by decide) (Nat.le_of_ble_eq_true rfl))) (
  kc_case (P := P) (kc_se c_Ch_applyOne_170 (sm_ri d_Ch_applyOne_170 rfl)) (
  kc_case (P := P) (kc_se rfl sm_no) (
  kc_case (P := P) (kc_se c_Ch_applyOne_168 (sm_bipush d_Ch_applyOne_168 (by decide))) (
  kc_case (P := P) (kc_se rfl sm_no) (
  kc_case (P := P) (kc_se rfl sm_no) (
  kc_case (P := P) (kc_se c_Ch_applyOne_165 (sm_if_ne d_Ch_applyOne_165 (by decide))) (
  kc_case (P := P) (kc_se rfl sm_no) (
  kc_case (P := P) (kc_se rfl sm_no) (
  kc_case (P := P) (kc_se c_Ch_applyOne_162 (sm_cv (j := 72) rfl rfl kw_o kw_g wc_Pa_append (Nat.le_of_ble_eq_true rfl) hd_Pa_append (ci := 6) (F := kF_Pa) (N := 3) rfl (kw3 96 rfl rfl) wi_Pa_append ws_Pa_append wn_Pa_append d_Ch_applyOne_162)) (
  kc_case (P := P) (kc_se c_Ch_applyOne_161 (sm_lald d_Ch_applyOne_161)) (
  kc_case (P := P) (kc_se rfl sm_no) (
  kc_case (P := P) (kc_se c_Ch_applyOne_159 (sm_iload d_Ch_applyOne_159)) (
  kc_case (P := P) (kc_se rfl sm_no) (
  kc_case (P := P) (kc_se rfl sm_no) (
  kc_case (P := P) (kc_se c_Ch_applyOne_156 (sm_get (ci := 7) (C := "DirectoryDesk$Changes") (F := kF_Ch) rfl kin_Ch (Nat.le_of_ble_eq_true rfl) d_Ch_applyOne_156 (kw1 180 rfl rfl))) (
  kc_case (P := P) (kc_se c_Ch_applyOne_155 (sm_aload_n d_Ch_applyOne_155 rfl)) (
  kc_case (P := P) (kc_se c_Ch_applyOne_154 (sm_iald d_Ch_applyOne_154)) (
  kc_case (P := P) (kc_se c_Ch_applyOne_153 (sm_iload_n d_Ch_applyOne_153 rfl)) (
  kc_case (P := P) (kc_se rfl sm_no) (
  kc_case (P := P) (kc_se rfl sm_no) (
  kc_case (P := P) (kc_se c_Ch_applyOne_150 (sm_get (ci := 7) (C := "DirectoryDesk$Changes") (F := kF_Ch) rfl kin_Ch (Nat.le_of_ble_eq_true rfl) d_Ch_applyOne_150 (kw1 178 rfl rfl))) (
  kc_case (P := P) (kc_se c_Ch_applyOne_149 (sm_aload_n d_Ch_applyOne_149 rfl)) (
  kc_case (P := P) (kc_se c_Ch_applyOne_148 (sm_aload_n d_Ch_applyOne_148 rfl)) (
  kc_case (P := P) (kc_se rfl sm_no) (
  kc_case (P := P) (kc_se rfl sm_no) (
  kc_case (P := P) (kc_se c_Ch_applyOne_145 (sm_if_ne d_Ch_applyOne_145 (by decide))) (
  kc_case (P := P) (kc_se rfl sm_no) (
  kc_case (P := P) (kc_se c_Ch_applyOne_143 (sm_iload d_Ch_applyOne_143)) (
  kc_case (P := P) (kc_se c_Ch_applyOne_142 (sm_ri d_Ch_applyOne_142 rfl)) (
  kc_case (P := P) (kc_se rfl sm_no) (
  kc_case (P := P) (kc_se c_Ch_applyOne_140 (sm_bipush d_Ch_applyOne_140 (by decide))) (
  kc_case (P := P) (kc_se rfl sm_no) (
  kc_case (P := P) (kc_se rfl sm_no) (
  kc_case (P := P) (kc_se c_Ch_applyOne_137 (sm_if_ne d_Ch_applyOne_137 (by decide))) (
  kc_case (P := P) (kc_se rfl sm_no) (
  kc_case (P := P) (kc_se rfl sm_no) (
  kc_case (P := P) (kc_se c_Ch_applyOne_134 (sm_cv (j := 73) rfl rfl kw_o kw_g wc_Pa_remove (Nat.le_of_ble_eq_true rfl) hd_Pa_remove (ci := 6) (F := kF_Pa) (N := 3) rfl (kw3 91 rfl rfl) wi_Pa_remove ws_Pa_remove wn_Pa_remove d_Ch_applyOne_134)) (
  kc_case (P := P) (kc_se c_Ch_applyOne_133 (sm_lald d_Ch_applyOne_133)) (
  kc_case (P := P) (kc_se rfl sm_no) (
  kc_case (P := P) (kc_se c_Ch_applyOne_131 (sm_iload d_Ch_applyOne_131)) (
  kc_case (P := P) (kc_se rfl sm_no) (
  kc_case (P := P) (kc_se rfl sm_no) (
  kc_case (P := P) (kc_se c_Ch_applyOne_128 (sm_get (ci := 7) (C := "DirectoryDesk$Changes") (F := kF_Ch) rfl kin_Ch (Nat.le_of_ble_eq_true rfl) d_Ch_applyOne_128 (kw1 180 rfl rfl))) (
  kc_case (P := P) (kc_se c_Ch_applyOne_127 (sm_aload_n d_Ch_applyOne_127 rfl)) (
  kc_case (P := P) (kc_se c_Ch_applyOne_126 (sm_iald d_Ch_applyOne_126)) (
  kc_case (P := P) (kc_se c_Ch_applyOne_125 (sm_iload_n d_Ch_applyOne_125 rfl)) (
  kc_case (P := P) (kc_se rfl sm_no) (
  kc_case (P := P) (kc_se rfl sm_no) (
  kc_case (P := P) (kc_se c_Ch_applyOne_122 (sm_get (ci := 7) (C := "DirectoryDesk$Changes") (F := kF_Ch) rfl kin_Ch (Nat.le_of_ble_eq_true rfl) d_Ch_applyOne_122 (kw1 178 rfl rfl))) (
  kc_case (P := P) (kc_se c_Ch_applyOne_121 (sm_aload_n d_Ch_applyOne_121 rfl)) (
  kc_case (P := P) (kc_se c_Ch_applyOne_120 (sm_aload_n d_Ch_applyOne_120 rfl)) (
  s_Ch_applyOne_120)))))))))))))))))))))))))))))))))))))))))))))))))))))))))))
theorem ka_nth_no_Ch_applyOne (pc : Nat) (h : 179 ≤ pc) : ct_Ch_applyOne pc = ka_no := ka_nth_ge _ pc (Nat.le_trans (Nat.le_of_eq (by rfl)) h)
theorem s_Ch_applyOne (pc : Nat) : kc_Sim kt kw_A kw_N kt_cl kt_En "DirectoryDesk$Changes" prog_2_method_5_code 6 (some .int) "applyOne" none pc (ct_Ch_applyOne pc) := (Nat.lt_or_ge pc 179).elim (s_Ch_applyOne_179 pc) (fun h => kc_se (ka_nth_no_Ch_applyOne pc h) sm_no)
def cl_Qu_init_0 : List kc_A := [ka_al 0 1, ka_obj, ka_no, ka_no, ka_ret]
def ct_Qu_init : Nat → kc_A := fun pc => ka_nth (cl_Qu_init_0) pc
set_option maxRecDepth 100000 in
theorem c_Qu_init_0 : ct_Qu_init 0 = ka_al 0 1 := rfl
theorem d_Qu_init_0 : decode prog_7_method_1_code 0 = .ok (.aload_n 0, 1) := by decide +kernel
set_option maxRecDepth 100000 in
theorem c_Qu_init_1 : ct_Qu_init 1 = ka_obj := rfl
theorem d_Qu_init_1 : decode prog_7_method_1_code 1 = .ok (.invokespecial 3, 3) := by decide +kernel
set_option maxRecDepth 100000 in
theorem c_Qu_init_4 : ct_Qu_init 4 = ka_ret := rfl
theorem d_Qu_init_4 : decode prog_7_method_1_code 4 = .ok (.return_, 1) := by decide +kernel
set_option maxRecDepth 100000 in
set_option maxHeartbeats 4000000 in
theorem s_Qu_init_5 : ∀ pc, pc < 5 → kc_Sim kt kw_A kw_N kt_cl kt_En "DirectoryDesk$Query" prog_7_method_1_code 1 (none) "<init>" none pc (ct_Qu_init pc) := by
  let P : Nat → Prop := fun pc => kc_Sim kt kw_A kw_N kt_cl kt_En "DirectoryDesk$Query" prog_7_method_1_code 1 (none) "<init>" none pc (ct_Qu_init pc)
  exact kc_case (P := P) (kc_se c_Qu_init_4 (sm_ret d_Qu_init_4 rfl)) (
  kc_case (P := P) (kc_se rfl sm_no) (
  kc_case (P := P) (kc_se rfl sm_no) (
  kc_case (P := P) (kc_se c_Qu_init_1 (sm_obj d_Qu_init_1 (kw1 201 rfl rfl) (kw1 20 rfl rfl) (kw1 21 rfl rfl))) (
  kc_case (P := P) (kc_se c_Qu_init_0 (sm_aload_n d_Qu_init_0 rfl)) (
  kc_case0)))))
theorem ka_nth_no_Qu_init (pc : Nat) (h : 5 ≤ pc) : ct_Qu_init pc = ka_no := ka_nth_ge _ pc (Nat.le_trans (Nat.le_of_eq (by rfl)) h)
theorem s_Qu_init (pc : Nat) : kc_Sim kt kw_A kw_N kt_cl kt_En "DirectoryDesk$Query" prog_7_method_1_code 1 (none) "<init>" none pc (ct_Qu_init pc) := (Nat.lt_or_ge pc 5).elim (s_Qu_init_5 pc) (fun h => kc_se (ka_nth_no_Qu_init pc h) sm_no)
def cl_Qu_readFrom_0 : List kc_A := [ka_al 0 1, ka_al 1 1, ka_ci (nI 2) 1, ka_cv 34 1 1 0 0, ka_no, ka_no, ka_put 8 0 .int, ka_no, ka_no, ka_al 1 1, ka_ci (nI 3) 1, ka_cv 34 1 1 0 0, ka_no, ka_no, ka_pop, ka_al 0 1, ka_al 1 1, ka_cv 33 0 1 0 0, ka_no, ka_no, ka_put 8 1 .int, ka_no, ka_no, ka_al 0 1, ka_get 8 1, ka_no, ka_no, ka_if (fun x => 0 ≤ x) 35, ka_no, ka_no, ka_al 1 1, ka_ci (nI 1) 1, ka_put 1 4 .boolean, ka_no, ka_no, ka_al 1 1, ka_cv 33 0 1 0 0, ka_no, ka_no, ka_pop, ka_al 0 1, ka_al 1 1, ka_cv 35 0 1 0 0, ka_no, ka_no, ka_put 8 2 .boolean, ka_no, ka_no, ka_ret]
def ct_Qu_readFrom : Nat → kc_A := fun pc => ka_nth (cl_Qu_readFrom_0) pc
set_option maxRecDepth 100000 in
theorem c_Qu_readFrom_0 : ct_Qu_readFrom 0 = ka_al 0 1 := rfl
theorem d_Qu_readFrom_0 : decode prog_7_method_2_code 0 = .ok (.aload_n 0, 1) := by decide +kernel
set_option maxRecDepth 100000 in
theorem c_Qu_readFrom_1 : ct_Qu_readFrom 1 = ka_al 1 1 := rfl
theorem d_Qu_readFrom_1 : decode prog_7_method_2_code 1 = .ok (.aload_n 1, 1) := by decide +kernel
set_option maxRecDepth 100000 in
theorem c_Qu_readFrom_2 : ct_Qu_readFrom 2 = ka_ci (nI 2) 1 := rfl
theorem d_Qu_readFrom_2 : decode prog_7_method_2_code 2 = .ok (.iconst 2, 1) := by decide +kernel
set_option maxRecDepth 100000 in
theorem c_Qu_readFrom_3 : ct_Qu_readFrom 3 = ka_cv 34 1 1 0 0 := rfl
theorem d_Qu_readFrom_3 : decode prog_7_method_2_code 3 = .ok (.invokevirtual 9, 3) := by decide +kernel
set_option maxRecDepth 100000 in
theorem c_Qu_readFrom_6 : ct_Qu_readFrom 6 = ka_put 8 0 .int := rfl
theorem d_Qu_readFrom_6 : decode prog_7_method_2_code 6 = .ok (.putfield 15, 3) := by decide +kernel
set_option maxRecDepth 100000 in
theorem c_Qu_readFrom_9 : ct_Qu_readFrom 9 = ka_al 1 1 := rfl
theorem d_Qu_readFrom_9 : decode prog_7_method_2_code 9 = .ok (.aload_n 1, 1) := by decide +kernel
set_option maxRecDepth 100000 in
theorem c_Qu_readFrom_10 : ct_Qu_readFrom 10 = ka_ci (nI 3) 1 := rfl
theorem d_Qu_readFrom_10 : decode prog_7_method_2_code 10 = .ok (.iconst 3, 1) := by decide +kernel
set_option maxRecDepth 100000 in
theorem c_Qu_readFrom_11 : ct_Qu_readFrom 11 = ka_cv 34 1 1 0 0 := rfl
theorem d_Qu_readFrom_11 : decode prog_7_method_2_code 11 = .ok (.invokevirtual 9, 3) := by decide +kernel
set_option maxRecDepth 100000 in
theorem c_Qu_readFrom_14 : ct_Qu_readFrom 14 = ka_pop := rfl
theorem d_Qu_readFrom_14 : decode prog_7_method_2_code 14 = .ok (.pop, 1) := by decide +kernel
set_option maxRecDepth 100000 in
theorem c_Qu_readFrom_15 : ct_Qu_readFrom 15 = ka_al 0 1 := rfl
theorem d_Qu_readFrom_15 : decode prog_7_method_2_code 15 = .ok (.aload_n 0, 1) := by decide +kernel
set_option maxRecDepth 100000 in
theorem c_Qu_readFrom_16 : ct_Qu_readFrom 16 = ka_al 1 1 := rfl
theorem d_Qu_readFrom_16 : decode prog_7_method_2_code 16 = .ok (.aload_n 1, 1) := by decide +kernel
set_option maxRecDepth 100000 in
theorem c_Qu_readFrom_17 : ct_Qu_readFrom 17 = ka_cv 33 0 1 0 0 := rfl
theorem d_Qu_readFrom_17 : decode prog_7_method_2_code 17 = .ok (.invokevirtual 21, 3) := by decide +kernel
set_option maxRecDepth 100000 in
theorem c_Qu_readFrom_20 : ct_Qu_readFrom 20 = ka_put 8 1 .int := rfl
theorem d_Qu_readFrom_20 : decode prog_7_method_2_code 20 = .ok (.putfield 25, 3) := by decide +kernel
set_option maxRecDepth 100000 in
theorem c_Qu_readFrom_23 : ct_Qu_readFrom 23 = ka_al 0 1 := rfl
theorem d_Qu_readFrom_23 : decode prog_7_method_2_code 23 = .ok (.aload_n 0, 1) := by decide +kernel
set_option maxRecDepth 100000 in
theorem c_Qu_readFrom_24 : ct_Qu_readFrom 24 = ka_get 8 1 := rfl
theorem d_Qu_readFrom_24 : decode prog_7_method_2_code 24 = .ok (.getfield 25, 3) := by decide +kernel
set_option maxRecDepth 100000 in
theorem c_Qu_readFrom_27 : ct_Qu_readFrom 27 = ka_if (fun x => 0 ≤ x) 35 := rfl
theorem d_Qu_readFrom_27 : decode prog_7_method_2_code 27 = .ok (.ifCond .ge 8, 3) := by decide +kernel
set_option maxRecDepth 100000 in
theorem c_Qu_readFrom_30 : ct_Qu_readFrom 30 = ka_al 1 1 := rfl
theorem d_Qu_readFrom_30 : decode prog_7_method_2_code 30 = .ok (.aload_n 1, 1) := by decide +kernel
set_option maxRecDepth 100000 in
theorem c_Qu_readFrom_31 : ct_Qu_readFrom 31 = ka_ci (nI 1) 1 := rfl
theorem d_Qu_readFrom_31 : decode prog_7_method_2_code 31 = .ok (.iconst 1, 1) := by decide +kernel
set_option maxRecDepth 100000 in
theorem c_Qu_readFrom_32 : ct_Qu_readFrom 32 = ka_put 1 4 .boolean := rfl
theorem d_Qu_readFrom_32 : decode prog_7_method_2_code 32 = .ok (.putfield 28, 3) := by decide +kernel
set_option maxRecDepth 100000 in
theorem c_Qu_readFrom_35 : ct_Qu_readFrom 35 = ka_al 1 1 := rfl
theorem d_Qu_readFrom_35 : decode prog_7_method_2_code 35 = .ok (.aload_n 1, 1) := by decide +kernel
set_option maxRecDepth 100000 in
theorem c_Qu_readFrom_36 : ct_Qu_readFrom 36 = ka_cv 33 0 1 0 0 := rfl
theorem d_Qu_readFrom_36 : decode prog_7_method_2_code 36 = .ok (.invokevirtual 21, 3) := by decide +kernel
set_option maxRecDepth 100000 in
theorem c_Qu_readFrom_39 : ct_Qu_readFrom 39 = ka_pop := rfl
theorem d_Qu_readFrom_39 : decode prog_7_method_2_code 39 = .ok (.pop, 1) := by decide +kernel
set_option maxRecDepth 100000 in
theorem c_Qu_readFrom_40 : ct_Qu_readFrom 40 = ka_al 0 1 := rfl
theorem d_Qu_readFrom_40 : decode prog_7_method_2_code 40 = .ok (.aload_n 0, 1) := by decide +kernel
set_option maxRecDepth 100000 in
theorem c_Qu_readFrom_41 : ct_Qu_readFrom 41 = ka_al 1 1 := rfl
theorem d_Qu_readFrom_41 : decode prog_7_method_2_code 41 = .ok (.aload_n 1, 1) := by decide +kernel
set_option maxRecDepth 100000 in
theorem c_Qu_readFrom_42 : ct_Qu_readFrom 42 = ka_cv 35 0 1 0 0 := rfl
theorem d_Qu_readFrom_42 : decode prog_7_method_2_code 42 = .ok (.invokevirtual 32, 3) := by decide +kernel
set_option maxRecDepth 100000 in
theorem c_Qu_readFrom_45 : ct_Qu_readFrom 45 = ka_put 8 2 .boolean := rfl
theorem d_Qu_readFrom_45 : decode prog_7_method_2_code 45 = .ok (.putfield 36, 3) := by decide +kernel
set_option maxRecDepth 100000 in
theorem c_Qu_readFrom_48 : ct_Qu_readFrom 48 = ka_ret := rfl
theorem d_Qu_readFrom_48 : decode prog_7_method_2_code 48 = .ok (.return_, 1) := by decide +kernel
set_option maxRecDepth 100000 in
set_option maxHeartbeats 4000000 in
theorem s_Qu_readFrom_49 : ∀ pc, pc < 49 → kc_Sim kt kw_A kw_N kt_cl kt_En "DirectoryDesk$Query" prog_7_method_2_code 2 (none) "readFrom" none pc (ct_Qu_readFrom pc) := by
  let P : Nat → Prop := fun pc => kc_Sim kt kw_A kw_N kt_cl kt_En "DirectoryDesk$Query" prog_7_method_2_code 2 (none) "readFrom" none pc (ct_Qu_readFrom pc)
  exact kc_case (P := P) (kc_se c_Qu_readFrom_48 (sm_ret d_Qu_readFrom_48 rfl)) (
  kc_case (P := P) (kc_se rfl sm_no) (
  kc_case (P := P) (kc_se rfl sm_no) (
  kc_case (P := P) (kc_se c_Qu_readFrom_45 (sm_put (ci := 8) (C := "DirectoryDesk$Query") (F := kF_Qu) rfl kin_Qu kty_Qu ktk_Qu knm_Qu (Nat.le_of_ble_eq_true rfl) (by decide +kernel) d_Qu_readFrom_45 (kw1 204 rfl rfl) rfl)) (
  kc_case (P := P) (kc_se rfl sm_no) (
  kc_case (P := P) (kc_se rfl sm_no) (
  kc_case (P := P) (kc_se c_Qu_readFrom_42 (sm_cv (j := 35) rfl rfl kw_o kw_g wc_Rd_flag (Nat.le_of_ble_eq_true rfl) hd_Rd_flag (ci := 1) (F := kF_Rd) (N := 8) rfl (kw2 157 rfl rfl) wi_Rd_flag ws_Rd_flag wn_Rd_flag d_Qu_readFrom_42)) (
  kc_case (P := P) (kc_se c_Qu_readFrom_41 (sm_aload_n d_Qu_readFrom_41 rfl)) (
  kc_case (P := P) (kc_se c_Qu_readFrom_40 (sm_aload_n d_Qu_readFrom_40 rfl)) (
  kc_case (P := P) (kc_se c_Qu_readFrom_39 (sm_pop d_Qu_readFrom_39)) (
  kc_case (P := P) (kc_se rfl sm_no) (
  kc_case (P := P) (kc_se rfl sm_no) (
  kc_case (P := P) (kc_se c_Qu_readFrom_36 (sm_cv (j := 33) rfl rfl kw_o kw_g wc_Rd_number (Nat.le_of_ble_eq_true rfl) hd_Rd_number (ci := 1) (F := kF_Rd) (N := 8) rfl (kw2 156 rfl rfl) wi_Rd_number ws_Rd_number wn_Rd_number d_Qu_readFrom_36)) (
  kc_case (P := P) (kc_se c_Qu_readFrom_35 (sm_aload_n d_Qu_readFrom_35 rfl)) (
  kc_case (P := P) (kc_se rfl sm_no) (
  kc_case (P := P) (kc_se rfl sm_no) (
  kc_case (P := P) (kc_se c_Qu_readFrom_32 (sm_put (ci := 1) (C := "DirectoryDesk$Reader") (F := kF_Rd) rfl kin_Rd kty_Rd ktk_Rd knm_Rd (Nat.le_of_ble_eq_true rfl) (by decide +kernel) d_Qu_readFrom_32 (kw1 34 rfl rfl) rfl)) (
  kc_case (P := P) (kc_se c_Qu_readFrom_31 (sm_iconst d_Qu_readFrom_31 (by decide))) (
  kc_case (P := P) (kc_se c_Qu_readFrom_30 (sm_aload_n d_Qu_readFrom_30 rfl)) (
  kc_case (P := P) (kc_se rfl sm_no) (
  kc_case (P := P) (kc_se rfl sm_no) (
  kc_case (P := P) (kc_se c_Qu_readFrom_27 (sm_if_ge d_Qu_readFrom_27 (by decide))) (
  kc_case (P := P) (kc_se rfl sm_no) (
  kc_case (P := P) (kc_se rfl sm_no) (
  kc_case (P := P) (kc_se c_Qu_readFrom_24 (sm_get (ci := 8) (C := "DirectoryDesk$Query") (F := kF_Qu) rfl kin_Qu (Nat.le_of_ble_eq_true rfl) d_Qu_readFrom_24 (kw1 203 rfl rfl))) (
  kc_case (P := P) (kc_se c_Qu_readFrom_23 (sm_aload_n d_Qu_readFrom_23 rfl)) (
  kc_case (P := P) (kc_se rfl sm_no) (
  kc_case (P := P) (kc_se rfl sm_no) (
  kc_case (P := P) (kc_se c_Qu_readFrom_20 (sm_put (ci := 8) (C := "DirectoryDesk$Query") (F := kF_Qu) rfl kin_Qu kty_Qu ktk_Qu knm_Qu (Nat.le_of_ble_eq_true rfl) (by decide +kernel) d_Qu_readFrom_20 (kw1 203 rfl rfl) rfl)) (
  kc_case (P := P) (kc_se rfl sm_no) (
  kc_case (P := P) (kc_se rfl sm_no) (
  kc_case (P := P) (kc_se c_Qu_readFrom_17 (sm_cv (j := 33) rfl rfl kw_o kw_g wc_Rd_number (Nat.le_of_ble_eq_true rfl) hd_Rd_number (ci := 1) (F := kF_Rd) (N := 8) rfl (kw2 156 rfl rfl) wi_Rd_number ws_Rd_number wn_Rd_number d_Qu_readFrom_17)) (
  kc_case (P := P) (kc_se c_Qu_readFrom_16 (sm_aload_n d_Qu_readFrom_16 rfl)) (
  kc_case (P := P) (kc_se c_Qu_readFrom_15 (sm_aload_n d_Qu_readFrom_15 rfl)) (
  kc_case (P := P) (kc_se c_Qu_readFrom_14 (sm_pop d_Qu_readFrom_14)) (
  kc_case (P := P) (kc_se rfl sm_no) (
  kc_case (P := P) (kc_se rfl sm_no) (
  kc_case (P := P) (kc_se c_Qu_readFrom_11 (sm_cv (j := 34) rfl rfl kw_o kw_g wc_Rd_choice (Nat.le_of_ble_eq_true rfl) hd_Rd_choice (ci := 1) (F := kF_Rd) (N := 8) rfl (kw2 148 rfl rfl) wi_Rd_choice ws_Rd_choice wn_Rd_choice d_Qu_readFrom_11)) (
  kc_case (P := P) (kc_se c_Qu_readFrom_10 (sm_iconst d_Qu_readFrom_10 (by decide))) (
  kc_case (P := P) (kc_se c_Qu_readFrom_9 (sm_aload_n d_Qu_readFrom_9 rfl)) (
  kc_case (P := P) (kc_se rfl sm_no) (
  kc_case (P := P) (kc_se rfl sm_no) (
  kc_case (P := P) (kc_se c_Qu_readFrom_6 (sm_put (ci := 8) (C := "DirectoryDesk$Query") (F := kF_Qu) rfl kin_Qu kty_Qu ktk_Qu knm_Qu (Nat.le_of_ble_eq_true rfl) (by decide +kernel) d_Qu_readFrom_6 (kw1 202 rfl rfl) rfl)) (
  kc_case (P := P) (kc_se rfl sm_no) (
  kc_case (P := P) (kc_se rfl sm_no) (
  kc_case (P := P) (kc_se c_Qu_readFrom_3 (sm_cv (j := 34) rfl rfl kw_o kw_g wc_Rd_choice (Nat.le_of_ble_eq_true rfl) hd_Rd_choice (ci := 1) (F := kF_Rd) (N := 8) rfl (kw2 148 rfl rfl) wi_Rd_choice ws_Rd_choice wn_Rd_choice d_Qu_readFrom_3)) (
  kc_case (P := P) (kc_se c_Qu_readFrom_2 (sm_iconst d_Qu_readFrom_2 (by decide))) (
  kc_case (P := P) (kc_se c_Qu_readFrom_1 (sm_aload_n d_Qu_readFrom_1 rfl)) (
  kc_case (P := P) (kc_se c_Qu_readFrom_0 (sm_aload_n d_Qu_readFrom_0 rfl)) (
  kc_case0)))))))))))))))))))))))))))))))))))))))))))))))))
theorem ka_nth_no_Qu_readFrom (pc : Nat) (h : 49 ≤ pc) : ct_Qu_readFrom pc = ka_no := ka_nth_ge _ pc (Nat.le_trans (Nat.le_of_eq (by rfl)) h)
theorem s_Qu_readFrom (pc : Nat) : kc_Sim kt kw_A kw_N kt_cl kt_En "DirectoryDesk$Query" prog_7_method_2_code 2 (none) "readFrom" none pc (ct_Qu_readFrom pc) := (Nat.lt_or_ge pc 49).elim (s_Qu_readFrom_49 pc) (fun h => kc_se (ka_nth_no_Qu_readFrom pc h) sm_no)
def cl_Qu_readWantedTypes_0 : List kc_A := [ka_al 1 1, ka_ci (nI 48) 2, ka_no, ka_cv 28 1 1 0 0, ka_no, ka_no, ka_is 2 1, ka_al 0 1, ka_al 1 1, ka_cv 30 0 1 0 0, ka_no, ka_no, ka_if (fun x => x = 0) 19, ka_no, ka_no, ka_ci (nI 0) 1, ka_goto 21, ka_no, ka_no, ka_ci (nI 63) 2, ka_no, ka_put 8 3 .int, ka_no, ka_no, ka_ci (nI 0) 1, ka_is 3 1, ka_il 3 1, ka_ci (nI 12) 2, ka_no, ka_cm (fun x y => y ≤ x) 78, ka_no, ka_no, ka_al 1 1, ka_cv 30 0 1 0 0, ka_no, ka_no, ka_if (fun x => x = 0) 78, ka_no, ka_no, ka_al 1 1, ka_ci (nI 4) 1, ka_cv 37 1 1 0 0, ka_no, ka_no, ka_al 1 1, ka_cv 39 0 1 0 0, ka_no, ka_no, ka_is 4 2, ka_no, ka_il 4 2, ka_no, ka_ci (-1) 1, ka_cm (fun x y => x = y) 72, ka_no, ka_no, ka_al 0 1, ka_dup, ka_get 8 3, ka_no]
def cl_Qu_readWantedTypes_1 : List kc_A := [ka_no, ka_ci (nI 1) 1, ka_il 4 2, ka_no, ka_ci (nI 97) 2, ka_no, ka_ii (fun x y => x - y), ka_ii (fun x y => x <<< (y &&& 31)), ka_ii (fun x y => x ||| y), ka_put 8 3 .int, ka_no, ka_no, ka_inc 3 (nI 1), ka_no, ka_no, ka_goto 26, ka_no, ka_no, ka_al 1 1, ka_il 2 1, ka_cv 29 1 1 0 0, ka_no, ka_no, ka_ret]
def ct_Qu_readWantedTypes : Nat → kc_A := fun pc => ka_nth (cl_Qu_readWantedTypes_0 ++ (cl_Qu_readWantedTypes_1)) pc
set_option maxRecDepth 100000 in
theorem c_Qu_readWantedTypes_0 : ct_Qu_readWantedTypes 0 = ka_al 1 1 := rfl
theorem d_Qu_readWantedTypes_0 : decode prog_7_method_3_code 0 = .ok (.aload_n 1, 1) := by decide +kernel
set_option maxRecDepth 100000 in
theorem c_Qu_readWantedTypes_1 : ct_Qu_readWantedTypes 1 = ka_ci (nI 48) 2 := rfl
theorem d_Qu_readWantedTypes_1 : decode prog_7_method_3_code 1 = .ok (.bipush 48, 2) := by decide +kernel
set_option maxRecDepth 100000 in
theorem c_Qu_readWantedTypes_3 : ct_Qu_readWantedTypes 3 = ka_cv 28 1 1 0 0 := rfl
theorem d_Qu_readWantedTypes_3 : decode prog_7_method_3_code 3 = .ok (.invokevirtual 39, 3) := by decide +kernel
set_option maxRecDepth 100000 in
theorem c_Qu_readWantedTypes_6 : ct_Qu_readWantedTypes 6 = ka_is 2 1 := rfl
theorem d_Qu_readWantedTypes_6 : decode prog_7_method_3_code 6 = .ok (.istore_n 2, 1) := by decide +kernel
set_option maxRecDepth 100000 in
theorem c_Qu_readWantedTypes_7 : ct_Qu_readWantedTypes 7 = ka_al 0 1 := rfl
theorem d_Qu_readWantedTypes_7 : decode prog_7_method_3_code 7 = .ok (.aload_n 0, 1) := by decide +kernel
set_option maxRecDepth 100000 in
theorem c_Qu_readWantedTypes_8 : ct_Qu_readWantedTypes 8 = ka_al 1 1 := rfl
theorem d_Qu_readWantedTypes_8 : decode prog_7_method_3_code 8 = .ok (.aload_n 1, 1) := by decide +kernel
set_option maxRecDepth 100000 in
theorem c_Qu_readWantedTypes_9 : ct_Qu_readWantedTypes 9 = ka_cv 30 0 1 0 0 := rfl
theorem d_Qu_readWantedTypes_9 : decode prog_7_method_3_code 9 = .ok (.invokevirtual 42, 3) := by decide +kernel
set_option maxRecDepth 100000 in
theorem c_Qu_readWantedTypes_12 : ct_Qu_readWantedTypes 12 = ka_if (fun x => x = 0) 19 := rfl
theorem d_Qu_readWantedTypes_12 : decode prog_7_method_3_code 12 = .ok (.ifCond .eq 7, 3) := by decide +kernel
set_option maxRecDepth 100000 in
theorem c_Qu_readWantedTypes_15 : ct_Qu_readWantedTypes 15 = ka_ci (nI 0) 1 := rfl
theorem d_Qu_readWantedTypes_15 : decode prog_7_method_3_code 15 = .ok (.iconst 0, 1) := by decide +kernel
set_option maxRecDepth 100000 in
theorem c_Qu_readWantedTypes_16 : ct_Qu_readWantedTypes 16 = ka_goto 21 := rfl
theorem d_Qu_readWantedTypes_16 : decode prog_7_method_3_code 16 = .ok (.goto 5, 3) := by decide +kernel
set_option maxRecDepth 100000 in
theorem c_Qu_readWantedTypes_19 : ct_Qu_readWantedTypes 19 = ka_ci (nI 63) 2 := rfl
theorem d_Qu_readWantedTypes_19 : decode prog_7_method_3_code 19 = .ok (.bipush 63, 2) := by decide +kernel
set_option maxRecDepth 100000 in
theorem c_Qu_readWantedTypes_21 : ct_Qu_readWantedTypes 21 = ka_put 8 3 .int := rfl
theorem d_Qu_readWantedTypes_21 : decode prog_7_method_3_code 21 = .ok (.putfield 45, 3) := by decide +kernel
set_option maxRecDepth 100000 in
theorem c_Qu_readWantedTypes_24 : ct_Qu_readWantedTypes 24 = ka_ci (nI 0) 1 := rfl
theorem d_Qu_readWantedTypes_24 : decode prog_7_method_3_code 24 = .ok (.iconst 0, 1) := by decide +kernel
set_option maxRecDepth 100000 in
theorem c_Qu_readWantedTypes_25 : ct_Qu_readWantedTypes 25 = ka_is 3 1 := rfl
theorem d_Qu_readWantedTypes_25 : decode prog_7_method_3_code 25 = .ok (.istore_n 3, 1) := by decide +kernel
set_option maxRecDepth 100000 in
theorem c_Qu_readWantedTypes_26 : ct_Qu_readWantedTypes 26 = ka_il 3 1 := rfl
theorem d_Qu_readWantedTypes_26 : decode prog_7_method_3_code 26 = .ok (.iload_n 3, 1) := by decide +kernel
set_option maxRecDepth 100000 in
theorem c_Qu_readWantedTypes_27 : ct_Qu_readWantedTypes 27 = ka_ci (nI 12) 2 := rfl
theorem d_Qu_readWantedTypes_27 : decode prog_7_method_3_code 27 = .ok (.bipush 12, 2) := by decide +kernel
set_option maxRecDepth 100000 in
theorem c_Qu_readWantedTypes_29 : ct_Qu_readWantedTypes 29 = ka_cm (fun x y => y ≤ x) 78 := rfl
theorem d_Qu_readWantedTypes_29 : decode prog_7_method_3_code 29 = .ok (.if_icmp .ge 49, 3) := by decide +kernel
set_option maxRecDepth 100000 in
theorem c_Qu_readWantedTypes_32 : ct_Qu_readWantedTypes 32 = ka_al 1 1 := rfl
theorem d_Qu_readWantedTypes_32 : decode prog_7_method_3_code 32 = .ok (.aload_n 1, 1) := by decide +kernel
set_option maxRecDepth 100000 in
theorem c_Qu_readWantedTypes_33 : ct_Qu_readWantedTypes 33 = ka_cv 30 0 1 0 0 := rfl
theorem d_Qu_readWantedTypes_33 : decode prog_7_method_3_code 33 = .ok (.invokevirtual 42, 3) := by decide +kernel
set_option maxRecDepth 100000 in
theorem c_Qu_readWantedTypes_36 : ct_Qu_readWantedTypes 36 = ka_if (fun x => x = 0) 78 := rfl
theorem d_Qu_readWantedTypes_36 : decode prog_7_method_3_code 36 = .ok (.ifCond .eq 42, 3) := by decide +kernel
set_option maxRecDepth 100000 in
theorem c_Qu_readWantedTypes_39 : ct_Qu_readWantedTypes 39 = ka_al 1 1 := rfl
theorem d_Qu_readWantedTypes_39 : decode prog_7_method_3_code 39 = .ok (.aload_n 1, 1) := by decide +kernel
set_option maxRecDepth 100000 in
theorem c_Qu_readWantedTypes_40 : ct_Qu_readWantedTypes 40 = ka_ci (nI 4) 1 := rfl
theorem d_Qu_readWantedTypes_40 : decode prog_7_method_3_code 40 = .ok (.iconst 4, 1) := by decide +kernel
set_option maxRecDepth 100000 in
theorem c_Qu_readWantedTypes_41 : ct_Qu_readWantedTypes 41 = ka_cv 37 1 1 0 0 := rfl
theorem d_Qu_readWantedTypes_41 : decode prog_7_method_3_code 41 = .ok (.invokevirtual 48, 3) := by decide +kernel
set_option maxRecDepth 100000 in
theorem c_Qu_readWantedTypes_44 : ct_Qu_readWantedTypes 44 = ka_al 1 1 := rfl
theorem d_Qu_readWantedTypes_44 : decode prog_7_method_3_code 44 = .ok (.aload_n 1, 1) := by decide +kernel
set_option maxRecDepth 100000 in
theorem c_Qu_readWantedTypes_45 : ct_Qu_readWantedTypes 45 = ka_cv 39 0 1 0 0 := rfl
theorem d_Qu_readWantedTypes_45 : decode prog_7_method_3_code 45 = .ok (.invokevirtual 52, 3) := by decide +kernel
set_option maxRecDepth 100000 in
theorem c_Qu_readWantedTypes_48 : ct_Qu_readWantedTypes 48 = ka_is 4 2 := rfl
theorem d_Qu_readWantedTypes_48 : decode prog_7_method_3_code 48 = .ok (.istore 4, 2) := by decide +kernel
set_option maxRecDepth 100000 in
theorem c_Qu_readWantedTypes_50 : ct_Qu_readWantedTypes 50 = ka_il 4 2 := rfl
theorem d_Qu_readWantedTypes_50 : decode prog_7_method_3_code 50 = .ok (.iload 4, 2) := by decide +kernel
set_option maxRecDepth 100000 in
theorem c_Qu_readWantedTypes_52 : ct_Qu_readWantedTypes 52 = ka_ci (-1) 1 := rfl
theorem d_Qu_readWantedTypes_52 : decode prog_7_method_3_code 52 = .ok (.iconst (-1), 1) := by decide +kernel
set_option maxRecDepth 100000 in
theorem c_Qu_readWantedTypes_53 : ct_Qu_readWantedTypes 53 = ka_cm (fun x y => x = y) 72 := rfl
theorem d_Qu_readWantedTypes_53 : decode prog_7_method_3_code 53 = .ok (.if_icmp .eq 19, 3) := by decide +kernel
set_option maxRecDepth 100000 in
theorem c_Qu_readWantedTypes_56 : ct_Qu_readWantedTypes 56 = ka_al 0 1 := rfl
theorem d_Qu_readWantedTypes_56 : decode prog_7_method_3_code 56 = .ok (.aload_n 0, 1) := by decide +kernel
set_option maxRecDepth 100000 in
theorem c_Qu_readWantedTypes_57 : ct_Qu_readWantedTypes 57 = ka_dup := rfl
theorem d_Qu_readWantedTypes_57 : decode prog_7_method_3_code 57 = .ok (.dup, 1) := by decide +kernel
set_option maxRecDepth 100000 in
theorem c_Qu_readWantedTypes_58 : ct_Qu_readWantedTypes 58 = ka_get 8 3 := rfl
theorem d_Qu_readWantedTypes_58 : decode prog_7_method_3_code 58 = .ok (.getfield 45, 3) := by decide +kernel
set_option maxRecDepth 100000 in
theorem c_Qu_readWantedTypes_61 : ct_Qu_readWantedTypes 61 = ka_ci (nI 1) 1 := rfl
theorem d_Qu_readWantedTypes_61 : decode prog_7_method_3_code 61 = .ok (.iconst 1, 1) := by decide +kernel
set_option maxRecDepth 100000 in
theorem c_Qu_readWantedTypes_62 : ct_Qu_readWantedTypes 62 = ka_il 4 2 := rfl
theorem d_Qu_readWantedTypes_62 : decode prog_7_method_3_code 62 = .ok (.iload 4, 2) := by decide +kernel
set_option maxRecDepth 100000 in
theorem c_Qu_readWantedTypes_64 : ct_Qu_readWantedTypes 64 = ka_ci (nI 97) 2 := rfl
theorem d_Qu_readWantedTypes_64 : decode prog_7_method_3_code 64 = .ok (.bipush 97, 2) := by decide +kernel
set_option maxRecDepth 100000 in
theorem c_Qu_readWantedTypes_66 : ct_Qu_readWantedTypes 66 = ka_ii (fun x y => x - y) := rfl
theorem d_Qu_readWantedTypes_66 : decode prog_7_method_3_code 66 = .ok (.isub, 1) := by decide +kernel
set_option maxRecDepth 100000 in
theorem c_Qu_readWantedTypes_67 : ct_Qu_readWantedTypes 67 = ka_ii (fun x y => x <<< (y &&& 31)) := rfl
theorem d_Qu_readWantedTypes_67 : decode prog_7_method_3_code 67 = .ok (.ishl, 1) := by decide +kernel
set_option maxRecDepth 100000 in
theorem c_Qu_readWantedTypes_68 : ct_Qu_readWantedTypes 68 = ka_ii (fun x y => x ||| y) := rfl
theorem d_Qu_readWantedTypes_68 : decode prog_7_method_3_code 68 = .ok (.ior, 1) := by decide +kernel
set_option maxRecDepth 100000 in
theorem c_Qu_readWantedTypes_69 : ct_Qu_readWantedTypes 69 = ka_put 8 3 .int := rfl
theorem d_Qu_readWantedTypes_69 : decode prog_7_method_3_code 69 = .ok (.putfield 45, 3) := by decide +kernel
set_option maxRecDepth 100000 in
theorem c_Qu_readWantedTypes_72 : ct_Qu_readWantedTypes 72 = ka_inc 3 (nI 1) := rfl
theorem d_Qu_readWantedTypes_72 : decode prog_7_method_3_code 72 = .ok (.iinc 3 1, 3) := by decide +kernel
set_option maxRecDepth 100000 in
theorem c_Qu_readWantedTypes_75 : ct_Qu_readWantedTypes 75 = ka_goto 26 := rfl
theorem d_Qu_readWantedTypes_75 : decode prog_7_method_3_code 75 = .ok (.goto (-49), 3) := by decide +kernel
set_option maxRecDepth 100000 in
theorem c_Qu_readWantedTypes_78 : ct_Qu_readWantedTypes 78 = ka_al 1 1 := rfl
theorem d_Qu_readWantedTypes_78 : decode prog_7_method_3_code 78 = .ok (.aload_n 1, 1) := by decide +kernel
set_option maxRecDepth 100000 in
theorem c_Qu_readWantedTypes_79 : ct_Qu_readWantedTypes 79 = ka_il 2 1 := rfl
theorem d_Qu_readWantedTypes_79 : decode prog_7_method_3_code 79 = .ok (.iload_n 2, 1) := by decide +kernel
set_option maxRecDepth 100000 in
theorem c_Qu_readWantedTypes_80 : ct_Qu_readWantedTypes 80 = ka_cv 29 1 1 0 0 := rfl
theorem d_Qu_readWantedTypes_80 : decode prog_7_method_3_code 80 = .ok (.invokevirtual 55, 3) := by decide +kernel
set_option maxRecDepth 100000 in
theorem c_Qu_readWantedTypes_83 : ct_Qu_readWantedTypes 83 = ka_ret := rfl
theorem d_Qu_readWantedTypes_83 : decode prog_7_method_3_code 83 = .ok (.return_, 1) := by decide +kernel
set_option maxRecDepth 100000 in
set_option maxHeartbeats 4000000 in
theorem s_Qu_readWantedTypes_60 : ∀ pc, pc < 60 → kc_Sim kt kw_A kw_N kt_cl kt_En "DirectoryDesk$Query" prog_7_method_3_code 5 (none) "readWantedTypes" none pc (ct_Qu_readWantedTypes pc) := by
  let P : Nat → Prop := fun pc => kc_Sim kt kw_A kw_N kt_cl kt_En "DirectoryDesk$Query" prog_7_method_3_code 5 (none) "readWantedTypes" none pc (ct_Qu_readWantedTypes pc)
  exact kc_case (P := P) (kc_se rfl sm_no) (
  kc_case (P := P) (kc_se c_Qu_readWantedTypes_58 (sm_get (ci := 8) (C := "DirectoryDesk$Query") (F := kF_Qu) rfl kin_Qu (Nat.le_of_ble_eq_true rfl) d_Qu_readWantedTypes_58 (kw1 206 rfl rfl))) (
  kc_case (P := P) (kc_se c_Qu_readWantedTypes_57 (sm_dup d_Qu_readWantedTypes_57)) (
  kc_case (P := P) (kc_se c_Qu_readWantedTypes_56 (sm_aload_n d_Qu_readWantedTypes_56 rfl)) (
  kc_case (P := P) (kc_se rfl sm_no) (
  kc_case (P := P) (kc_se rfl sm_no) (
  kc_case (P := P) (kc_se c_Qu_readWantedTypes_53 (sm_cm_eq d_Qu_readWantedTypes_53 (by decide))) (
  kc_case (P := P) (kc_se c_Qu_readWantedTypes_52 (sm_iconst d_Qu_readWantedTypes_52 (by decide))) (
  kc_case (P := P) (kc_se rfl sm_no) (
  kc_case (P := P) (kc_se c_Qu_readWantedTypes_50 (sm_iload d_Qu_readWantedTypes_50)) (
  kc_case (P := P) (kc_se rfl sm_no) (
  kc_case (P := P) (kc_se c_Qu_readWantedTypes_48 (sm_istore d_Qu_readWantedTypes_48 (Nat.le_of_ble_eq_true rfl))) (
  kc_case (P := P) (kc_se rfl sm_no) (
  kc_case (P := P) (kc_se rfl sm_no) (
  kc_case (P := P) (kc_se c_Qu_readWantedTypes_45 (sm_cv (j := 39) rfl rfl kw_o kw_g wc_Rd_spanType (Nat.le_of_ble_eq_true rfl) hd_Rd_spanType (ci := 1) (F := kF_Rd) (N := 8) rfl (kw2 195 rfl rfl) wi_Rd_spanType ws_Rd_spanType wn_Rd_spanType d_Qu_readWantedTypes_45)) (
  kc_case (P := P) (kc_se c_Qu_readWantedTypes_44 (sm_aload_n d_Qu_readWantedTypes_44 rfl)) (
  kc_case (P := P) (kc_se rfl sm_no) (
  kc_case (P := P) (kc_se rfl sm_no) (
  kc_case (P := P) (kc_se c_Qu_readWantedTypes_41 (sm_cv (j := 37) rfl rfl kw_o kw_g wc_Rd_span (Nat.le_of_ble_eq_true rfl) hd_Rd_span (ci := 1) (F := kF_Rd) (N := 8) rfl (kw2 194 rfl rfl) wi_Rd_span ws_Rd_span wn_Rd_span d_Qu_readWantedTypes_41)) (
  kc_case (P := P) (kc_se c_Qu_readWantedTypes_40 (sm_iconst d_Qu_readWantedTypes_40 (by decide))) (
  kc_case (P := P) (kc_se c_Qu_readWantedTypes_39 (sm_aload_n d_Qu_readWantedTypes_39 rfl)) (
  kc_case (P := P) (kc_se rfl sm_no) (
  kc_case (P := P) (kc_se rfl sm_no) (
  kc_case (P := P) (kc_se c_Qu_readWantedTypes_36 (sm_if_eq d_Qu_readWantedTypes_36 (by decide))) (
  kc_case (P := P) (kc_se rfl sm_no) (
  kc_case (P := P) (kc_se rfl sm_no) (
  kc_case (P := P) (kc_se c_Qu_readWantedTypes_33 (sm_cv (j := 30) rfl rfl kw_o kw_g wc_Rd_hasMore (Nat.le_of_ble_eq_true rfl) hd_Rd_hasMore (ci := 1) (F := kF_Rd) (N := 8) rfl (kw2 193 rfl rfl) wi_Rd_hasMore ws_Rd_hasMore wn_Rd_hasMore d_Qu_readWantedTypes_33)) (
  kc_case (P := P) (kc_se c_Qu_readWantedTypes_32 (sm_aload_n d_Qu_readWantedTypes_32 rfl)) (
  kc_case (P := P) (kc_se rfl sm_no) (
  kc_case (P := P) (kc_se rfl sm_no) (
  kc_case (P := P) (kc_se c_Qu_readWantedTypes_29 (sm_cm_ge d_Qu_readWantedTypes_29 (by decide))) (
  kc_case (P := P) (kc_se rfl sm_no) (
  kc_case (P := P) (kc_se c_Qu_readWantedTypes_27 (sm_bipush d_Qu_readWantedTypes_27 (by decide))) (
  kc_case (P := P) (kc_se c_Qu_readWantedTypes_26 (sm_iload_n d_Qu_readWantedTypes_26 rfl)) (
  kc_case (P := P) (kc_se c_Qu_readWantedTypes_25 (sm_istore_n d_Qu_readWantedTypes_25 rfl (Nat.le_of_ble_eq_true rfl))) (
  kc_case (P := P) (kc_se c_Qu_readWantedTypes_24 (sm_iconst d_Qu_readWantedTypes_24 (by decide))) (
  kc_case (P := P) (kc_se rfl sm_no) (
  kc_case (P := P) (kc_se rfl sm_no) (
  kc_case (P := P) (kc_se c_Qu_readWantedTypes_21 (sm_put (ci := 8) (C := "DirectoryDesk$Query") (F := kF_Qu) rfl kin_Qu kty_Qu ktk_Qu knm_Qu (Nat.le_of_ble_eq_true rfl) (by decide +kernel) d_Qu_readWantedTypes_21 (kw1 206 rfl rfl) rfl)) (
  kc_case (P := P) (kc_se rfl sm_no) (
  kc_case (P := P) (kc_se c_Qu_readWantedTypes_19 (sm_bipush d_Qu_readWantedTypes_19 (by decide))) (
  kc_case (P := P) (kc_se rfl sm_no) (
  kc_case (P := P) (kc_se rfl sm_no) (
  kc_case (P := P) (kc_se c_Qu_readWantedTypes_16 (sm_goto d_Qu_readWantedTypes_16 (by decide))) (
  kc_case (P := P) (kc_se c_Qu_readWantedTypes_15 (sm_iconst d_Qu_readWantedTypes_15 (by decide))) (
  kc_case (P := P) (kc_se rfl sm_no) (
  kc_case (P := P) (kc_se rfl sm_no) (
  kc_case (P := P) (kc_se c_Qu_readWantedTypes_12 (sm_if_eq d_Qu_readWantedTypes_12 (by decide))) (
  kc_case (P := P) (kc_se rfl sm_no) (
  kc_case (P := P) (kc_se rfl sm_no) (
  kc_case (P := P) (kc_se c_Qu_readWantedTypes_9 (sm_cv (j := 30) rfl rfl kw_o kw_g wc_Rd_hasMore (Nat.le_of_ble_eq_true rfl) hd_Rd_hasMore (ci := 1) (F := kF_Rd) (N := 8) rfl (kw2 193 rfl rfl) wi_Rd_hasMore ws_Rd_hasMore wn_Rd_hasMore d_Qu_readWantedTypes_9)) (
  kc_case (P := P) (kc_se c_Qu_readWantedTypes_8 (sm_aload_n d_Qu_readWantedTypes_8 rfl)) (
  kc_case (P := P) (kc_se c_Qu_readWantedTypes_7 (sm_aload_n d_Qu_readWantedTypes_7 rfl)) (
  kc_case (P := P) (kc_se c_Qu_readWantedTypes_6 (sm_istore_n d_Qu_readWantedTypes_6 rfl (Nat.le_of_ble_eq_true rfl))) (
  kc_case (P := P) (kc_se rfl sm_no) (
  kc_case (P := P) (kc_se rfl sm_no) (
  kc_case (P := P) (kc_se c_Qu_readWantedTypes_3 (sm_cv (j := 28) rfl rfl kw_o kw_g wc_Rd_enter (Nat.le_of_ble_eq_true rfl) hd_Rd_enter (ci := 1) (F := kF_Rd) (N := 8) rfl (kw2 192 rfl rfl) wi_Rd_enter ws_Rd_enter wn_Rd_enter d_Qu_readWantedTypes_3)) (
  kc_case (P := P) (kc_se rfl sm_no) (
  kc_case (P := P) (kc_se c_Qu_readWantedTypes_1 (sm_bipush d_Qu_readWantedTypes_1 (by decide))) (
  kc_case (P := P) (kc_se c_Qu_readWantedTypes_0 (sm_aload_n d_Qu_readWantedTypes_0 rfl)) (
  kc_case0))))))))))))))))))))))))))))))))))))))))))))))))))))))))))))
set_option maxRecDepth 100000 in
set_option maxHeartbeats 4000000 in
theorem s_Qu_readWantedTypes_84 : ∀ pc, pc < 84 → kc_Sim kt kw_A kw_N kt_cl kt_En "DirectoryDesk$Query" prog_7_method_3_code 5 (none) "readWantedTypes" none pc (ct_Qu_readWantedTypes pc) := by
  let P : Nat → Prop := fun pc => kc_Sim kt kw_A kw_N kt_cl kt_En "DirectoryDesk$Query" prog_7_method_3_code 5 (none) "readWantedTypes" none pc (ct_Qu_readWantedTypes pc)
  exact kc_case (P := P) (kc_se c_Qu_readWantedTypes_83 (sm_ret d_Qu_readWantedTypes_83 rfl)) (
  kc_case (P := P) (kc_se rfl sm_no) (
  kc_case (P := P) (kc_se rfl sm_no) (
  kc_case (P := P) (kc_se c_Qu_readWantedTypes_80 (sm_cv (j := 29) rfl rfl kw_o kw_g wc_Rd_leave (Nat.le_of_ble_eq_true rfl) hd_Rd_leave (ci := 1) (F := kF_Rd) (N := 8) rfl (kw2 196 rfl rfl) wi_Rd_leave ws_Rd_leave wn_Rd_leave d_Qu_readWantedTypes_80)) (
  kc_case (P := P) (kc_se c_Qu_readWantedTypes_79 (sm_iload_n d_Qu_readWantedTypes_79 rfl)) (
  kc_case (P := P) (kc_se c_Qu_readWantedTypes_78 (sm_aload_n d_Qu_readWantedTypes_78 rfl)) (
  kc_case (P := P) (kc_se rfl sm_no) (
  kc_case (P := P) (kc_se rfl sm_no) (
  kc_case (P := P) (kc_se c_Qu_readWantedTypes_75 (sm_goto d_Qu_readWantedTypes_75 (by decide))) (
  kc_case (P := P) (kc_se rfl sm_no) (
  kc_case (P := P) (kc_se rfl sm_no) (
  kc_case (P := P) (kc_se c_Qu_readWantedTypes_72 (sm_inc d_Qu_readWantedTypes_72 (by decide) (Nat.le_of_ble_eq_true rfl))) (
  kc_case (P := P) (kc_se rfl sm_no) (
  kc_case (P := P) (kc_se rfl sm_no) (
  kc_case (P := P) (kc_se c_Qu_readWantedTypes_69 (sm_put (ci := 8) (C := "DirectoryDesk$Query") (F := kF_Qu) rfl kin_Qu kty_Qu ktk_Qu knm_Qu (Nat.le_of_ble_eq_true rfl) (by decide +kernel) d_Qu_readWantedTypes_69 (kw1 206 rfl rfl) rfl)) (
  kc_case (P := P) (kc_se c_Qu_readWantedTypes_68 (sm_ior d_Qu_readWantedTypes_68)) (
  kc_case (P := P) (kc_se c_Qu_readWantedTypes_67 (sm_ishl d_Qu_readWantedTypes_67)) (
  kc_case (P := P) (kc_se c_Qu_readWantedTypes_66 (sm_isub d_Qu_readWantedTypes_66)) (
  kc_case (P := P) (kc_se rfl sm_no) (
  kc_case (P := P) (kc_se c_Qu_readWantedTypes_64 (sm_bipush d_Qu_readWantedTypes_64 (by decide))) (
  kc_case (P := P) (kc_se rfl sm_no) (
  kc_case (P := P) (kc_se c_Qu_readWantedTypes_62 (sm_iload d_Qu_readWantedTypes_62)) (
  kc_case (P := P) (kc_se c_Qu_readWantedTypes_61 (sm_iconst d_Qu_readWantedTypes_61 (by decide))) (
  kc_case (P := P) (kc_se rfl sm_no) (
  s_Qu_readWantedTypes_60))))))))))))))))))))))))
theorem ka_nth_no_Qu_readWantedTypes (pc : Nat) (h : 84 ≤ pc) : ct_Qu_readWantedTypes pc = ka_no := ka_nth_ge _ pc (Nat.le_trans (Nat.le_of_eq (by rfl)) h)
theorem s_Qu_readWantedTypes (pc : Nat) : kc_Sim kt kw_A kw_N kt_cl kt_En "DirectoryDesk$Query" prog_7_method_3_code 5 (none) "readWantedTypes" none pc (ct_Qu_readWantedTypes pc) := (Nat.lt_or_ge pc 84).elim (s_Qu_readWantedTypes_84 pc) (fun h => kc_se (ka_nth_no_Qu_readWantedTypes pc h) sm_no)
def cl_Qu_wants_0 : List kc_A := [ka_al 0 1, ka_get 8 3, ka_no, ka_no, ka_il 1 1, ka_ci (nI 97) 2, ka_no, ka_ii (fun x y => x - y), ka_ii (fun x y => x >>> (y &&& 31)), ka_ci (nI 1) 1, ka_ii (fun x y => x &&& y), ka_if (fun x => x = 0) 18, ka_no, ka_no, ka_ci (nI 1) 1, ka_goto 19, ka_no, ka_no, ka_ci (nI 0) 1, ka_rz]
def ct_Qu_wants : Nat → kc_A := fun pc => ka_nth (cl_Qu_wants_0) pc
set_option maxRecDepth 100000 in
theorem c_Qu_wants_0 : ct_Qu_wants 0 = ka_al 0 1 := rfl
theorem d_Qu_wants_0 : decode prog_7_method_4_code 0 = .ok (.aload_n 0, 1) := by decide +kernel
set_option maxRecDepth 100000 in
theorem c_Qu_wants_1 : ct_Qu_wants 1 = ka_get 8 3 := rfl
theorem d_Qu_wants_1 : decode prog_7_method_4_code 1 = .ok (.getfield 45, 3) := by decide +kernel
set_option maxRecDepth 100000 in
theorem c_Qu_wants_4 : ct_Qu_wants 4 = ka_il 1 1 := rfl
theorem d_Qu_wants_4 : decode prog_7_method_4_code 4 = .ok (.iload_n 1, 1) := by decide +kernel
set_option maxRecDepth 100000 in
theorem c_Qu_wants_5 : ct_Qu_wants 5 = ka_ci (nI 97) 2 := rfl
theorem d_Qu_wants_5 : decode prog_7_method_4_code 5 = .ok (.bipush 97, 2) := by decide +kernel
set_option maxRecDepth 100000 in
theorem c_Qu_wants_7 : ct_Qu_wants 7 = ka_ii (fun x y => x - y) := rfl
theorem d_Qu_wants_7 : decode prog_7_method_4_code 7 = .ok (.isub, 1) := by decide +kernel
set_option maxRecDepth 100000 in
theorem c_Qu_wants_8 : ct_Qu_wants 8 = ka_ii (fun x y => x >>> (y &&& 31)) := rfl
theorem d_Qu_wants_8 : decode prog_7_method_4_code 8 = .ok (.ishr, 1) := by decide +kernel
set_option maxRecDepth 100000 in
theorem c_Qu_wants_9 : ct_Qu_wants 9 = ka_ci (nI 1) 1 := rfl
theorem d_Qu_wants_9 : decode prog_7_method_4_code 9 = .ok (.iconst 1, 1) := by decide +kernel
set_option maxRecDepth 100000 in
theorem c_Qu_wants_10 : ct_Qu_wants 10 = ka_ii (fun x y => x &&& y) := rfl
theorem d_Qu_wants_10 : decode prog_7_method_4_code 10 = .ok (.iand, 1) := by decide +kernel
set_option maxRecDepth 100000 in
theorem c_Qu_wants_11 : ct_Qu_wants 11 = ka_if (fun x => x = 0) 18 := rfl
theorem d_Qu_wants_11 : decode prog_7_method_4_code 11 = .ok (.ifCond .eq 7, 3) := by decide +kernel
set_option maxRecDepth 100000 in
theorem c_Qu_wants_14 : ct_Qu_wants 14 = ka_ci (nI 1) 1 := rfl
theorem d_Qu_wants_14 : decode prog_7_method_4_code 14 = .ok (.iconst 1, 1) := by decide +kernel
set_option maxRecDepth 100000 in
theorem c_Qu_wants_15 : ct_Qu_wants 15 = ka_goto 19 := rfl
theorem d_Qu_wants_15 : decode prog_7_method_4_code 15 = .ok (.goto 4, 3) := by decide +kernel
set_option maxRecDepth 100000 in
theorem c_Qu_wants_18 : ct_Qu_wants 18 = ka_ci (nI 0) 1 := rfl
theorem d_Qu_wants_18 : decode prog_7_method_4_code 18 = .ok (.iconst 0, 1) := by decide +kernel
set_option maxRecDepth 100000 in
theorem c_Qu_wants_19 : ct_Qu_wants 19 = ka_rz := rfl
theorem d_Qu_wants_19 : decode prog_7_method_4_code 19 = .ok (.ireturn, 1) := by decide +kernel
set_option maxRecDepth 100000 in
set_option maxHeartbeats 4000000 in
theorem s_Qu_wants_20 : ∀ pc, pc < 20 → kc_Sim kt kw_A kw_N kt_cl kt_En "DirectoryDesk$Query" prog_7_method_4_code 2 (some .boolean) "wants" none pc (ct_Qu_wants pc) := by
  let P : Nat → Prop := fun pc => kc_Sim kt kw_A kw_N kt_cl kt_En "DirectoryDesk$Query" prog_7_method_4_code 2 (some .boolean) "wants" none pc (ct_Qu_wants pc)
  exact kc_case (P := P) (kc_se c_Qu_wants_19 (sm_rz d_Qu_wants_19 rfl)) (
  kc_case (P := P) (kc_se c_Qu_wants_18 (sm_iconst d_Qu_wants_18 (by decide))) (
  kc_case (P := P) (kc_se rfl sm_no) (
  kc_case (P := P) (kc_se rfl sm_no) (
  kc_case (P := P) (kc_se c_Qu_wants_15 (sm_goto d_Qu_wants_15 (by decide))) (
  kc_case (P := P) (kc_se c_Qu_wants_14 (sm_iconst d_Qu_wants_14 (by decide))) (
  kc_case (P := P) (kc_se rfl sm_no) (
  kc_case (P := P) (kc_se rfl sm_no) (
  kc_case (P := P) (kc_se c_Qu_wants_11 (sm_if_eq d_Qu_wants_11 (by decide))) (
  kc_case (P := P) (kc_se c_Qu_wants_10 (sm_iand d_Qu_wants_10)) (
  kc_case (P := P) (kc_se c_Qu_wants_9 (sm_iconst d_Qu_wants_9 (by decide))) (
  kc_case (P := P) (kc_se c_Qu_wants_8 (sm_ishr d_Qu_wants_8)) (
  kc_case (P := P) (kc_se c_Qu_wants_7 (sm_isub d_Qu_wants_7)) (
  kc_case (P := P) (kc_se rfl sm_no) (
  kc_case (P := P) (kc_se c_Qu_wants_5 (sm_bipush d_Qu_wants_5 (by decide))) (
  kc_case (P := P) (kc_se c_Qu_wants_4 (sm_iload_n d_Qu_wants_4 rfl)) (
  kc_case (P := P) (kc_se rfl sm_no) (
  kc_case (P := P) (kc_se rfl sm_no) (
  kc_case (P := P) (kc_se c_Qu_wants_1 (sm_get (ci := 8) (C := "DirectoryDesk$Query") (F := kF_Qu) rfl kin_Qu (Nat.le_of_ble_eq_true rfl) d_Qu_wants_1 (kw1 206 rfl rfl))) (
  kc_case (P := P) (kc_se c_Qu_wants_0 (sm_aload_n d_Qu_wants_0 rfl)) (
  kc_case0))))))))))))))))))))
theorem ka_nth_no_Qu_wants (pc : Nat) (h : 20 ≤ pc) : ct_Qu_wants pc = ka_no := ka_nth_ge _ pc (Nat.le_trans (Nat.le_of_eq (by rfl)) h)
theorem s_Qu_wants (pc : Nat) : kc_Sim kt kw_A kw_N kt_cl kt_En "DirectoryDesk$Query" prog_7_method_4_code 2 (some .boolean) "wants" none pc (ct_Qu_wants pc) := (Nat.lt_or_ge pc 20).elim (s_Qu_wants_20 pc) (fun h => kc_se (ka_nth_no_Qu_wants pc h) sm_no)
def cl_Qu_isWithinLimit_0 : List kc_A := [ka_al 0 1, ka_get 8 1, ka_no, ka_no, ka_if (fun x => x = 0) 15, ka_no, ka_no, ka_il 1 1, ka_al 0 1, ka_get 8 1, ka_no, ka_no, ka_cm (fun x y => y < x) 19, ka_no, ka_no, ka_ci (nI 1) 1, ka_goto 20, ka_no, ka_no, ka_ci (nI 0) 1, ka_rz]
def ct_Qu_isWithinLimit : Nat → kc_A := fun pc => ka_nth (cl_Qu_isWithinLimit_0) pc
set_option maxRecDepth 100000 in
theorem c_Qu_isWithinLimit_0 : ct_Qu_isWithinLimit 0 = ka_al 0 1 := rfl
theorem d_Qu_isWithinLimit_0 : decode prog_7_method_5_code 0 = .ok (.aload_n 0, 1) := by decide +kernel
set_option maxRecDepth 100000 in
theorem c_Qu_isWithinLimit_1 : ct_Qu_isWithinLimit 1 = ka_get 8 1 := rfl
theorem d_Qu_isWithinLimit_1 : decode prog_7_method_5_code 1 = .ok (.getfield 25, 3) := by decide +kernel
set_option maxRecDepth 100000 in
theorem c_Qu_isWithinLimit_4 : ct_Qu_isWithinLimit 4 = ka_if (fun x => x = 0) 15 := rfl
theorem d_Qu_isWithinLimit_4 : decode prog_7_method_5_code 4 = .ok (.ifCond .eq 11, 3) := by decide +kernel
set_option maxRecDepth 100000 in
theorem c_Qu_isWithinLimit_7 : ct_Qu_isWithinLimit 7 = ka_il 1 1 := rfl
theorem d_Qu_isWithinLimit_7 : decode prog_7_method_5_code 7 = .ok (.iload_n 1, 1) := by decide +kernel
set_option maxRecDepth 100000 in
theorem c_Qu_isWithinLimit_8 : ct_Qu_isWithinLimit 8 = ka_al 0 1 := rfl
theorem d_Qu_isWithinLimit_8 : decode prog_7_method_5_code 8 = .ok (.aload_n 0, 1) := by decide +kernel
set_option maxRecDepth 100000 in
theorem c_Qu_isWithinLimit_9 : ct_Qu_isWithinLimit 9 = ka_get 8 1 := rfl
theorem d_Qu_isWithinLimit_9 : decode prog_7_method_5_code 9 = .ok (.getfield 25, 3) := by decide +kernel
set_option maxRecDepth 100000 in
theorem c_Qu_isWithinLimit_12 : ct_Qu_isWithinLimit 12 = ka_cm (fun x y => y < x) 19 := rfl
theorem d_Qu_isWithinLimit_12 : decode prog_7_method_5_code 12 = .ok (.if_icmp .gt 7, 3) := by decide +kernel
set_option maxRecDepth 100000 in
theorem c_Qu_isWithinLimit_15 : ct_Qu_isWithinLimit 15 = ka_ci (nI 1) 1 := rfl
theorem d_Qu_isWithinLimit_15 : decode prog_7_method_5_code 15 = .ok (.iconst 1, 1) := by decide +kernel
set_option maxRecDepth 100000 in
theorem c_Qu_isWithinLimit_16 : ct_Qu_isWithinLimit 16 = ka_goto 20 := rfl
theorem d_Qu_isWithinLimit_16 : decode prog_7_method_5_code 16 = .ok (.goto 4, 3) := by decide +kernel
set_option maxRecDepth 100000 in
theorem c_Qu_isWithinLimit_19 : ct_Qu_isWithinLimit 19 = ka_ci (nI 0) 1 := rfl
theorem d_Qu_isWithinLimit_19 : decode prog_7_method_5_code 19 = .ok (.iconst 0, 1) := by decide +kernel
set_option maxRecDepth 100000 in
theorem c_Qu_isWithinLimit_20 : ct_Qu_isWithinLimit 20 = ka_rz := rfl
theorem d_Qu_isWithinLimit_20 : decode prog_7_method_5_code 20 = .ok (.ireturn, 1) := by decide +kernel
set_option maxRecDepth 100000 in
set_option maxHeartbeats 4000000 in
theorem s_Qu_isWithinLimit_21 : ∀ pc, pc < 21 → kc_Sim kt kw_A kw_N kt_cl kt_En "DirectoryDesk$Query" prog_7_method_5_code 2 (some .boolean) "isWithinLimit" none pc (ct_Qu_isWithinLimit pc) := by
  let P : Nat → Prop := fun pc => kc_Sim kt kw_A kw_N kt_cl kt_En "DirectoryDesk$Query" prog_7_method_5_code 2 (some .boolean) "isWithinLimit" none pc (ct_Qu_isWithinLimit pc)
  exact kc_case (P := P) (kc_se c_Qu_isWithinLimit_20 (sm_rz d_Qu_isWithinLimit_20 rfl)) (
  kc_case (P := P) (kc_se c_Qu_isWithinLimit_19 (sm_iconst d_Qu_isWithinLimit_19 (by decide))) (
  kc_case (P := P) (kc_se rfl sm_no) (
  kc_case (P := P) (kc_se rfl sm_no) (
  kc_case (P := P) (kc_se c_Qu_isWithinLimit_16 (sm_goto d_Qu_isWithinLimit_16 (by decide))) (
  kc_case (P := P) (kc_se c_Qu_isWithinLimit_15 (sm_iconst d_Qu_isWithinLimit_15 (by decide))) (
  kc_case (P := P) (kc_se rfl sm_no) (
  kc_case (P := P) (kc_se rfl sm_no) (
  kc_case (P := P) (kc_se c_Qu_isWithinLimit_12 (sm_cm_gt d_Qu_isWithinLimit_12 (by decide))) (
  kc_case (P := P) (kc_se rfl sm_no) (
  kc_case (P := P) (kc_se rfl sm_no) (
  kc_case (P := P) (kc_se c_Qu_isWithinLimit_9 (sm_get (ci := 8) (C := "DirectoryDesk$Query") (F := kF_Qu) rfl kin_Qu (Nat.le_of_ble_eq_true rfl) d_Qu_isWithinLimit_9 (kw1 203 rfl rfl))) (
  kc_case (P := P) (kc_se c_Qu_isWithinLimit_8 (sm_aload_n d_Qu_isWithinLimit_8 rfl)) (
  kc_case (P := P) (kc_se c_Qu_isWithinLimit_7 (sm_iload_n d_Qu_isWithinLimit_7 rfl)) (
  kc_case (P := P) (kc_se rfl sm_no) (
  kc_case (P := P) (kc_se rfl sm_no) (
  kc_case (P := P) (kc_se c_Qu_isWithinLimit_4 (sm_if_eq d_Qu_isWithinLimit_4 (by decide))) (
  kc_case (P := P) (kc_se rfl sm_no) (
  kc_case (P := P) (kc_se rfl sm_no) (
  kc_case (P := P) (kc_se c_Qu_isWithinLimit_1 (sm_get (ci := 8) (C := "DirectoryDesk$Query") (F := kF_Qu) rfl kin_Qu (Nat.le_of_ble_eq_true rfl) d_Qu_isWithinLimit_1 (kw1 203 rfl rfl))) (
  kc_case (P := P) (kc_se c_Qu_isWithinLimit_0 (sm_aload_n d_Qu_isWithinLimit_0 rfl)) (
  kc_case0)))))))))))))))))))))
theorem ka_nth_no_Qu_isWithinLimit (pc : Nat) (h : 21 ≤ pc) : ct_Qu_isWithinLimit pc = ka_no := ka_nth_ge _ pc (Nat.le_trans (Nat.le_of_eq (by rfl)) h)
theorem s_Qu_isWithinLimit (pc : Nat) : kc_Sim kt kw_A kw_N kt_cl kt_En "DirectoryDesk$Query" prog_7_method_5_code 2 (some .boolean) "isWithinLimit" none pc (ct_Qu_isWithinLimit pc) := (Nat.lt_or_ge pc 21).elim (s_Qu_isWithinLimit_21 pc) (fun h => kc_se (ka_nth_no_Qu_isWithinLimit pc h) sm_no)
def cl_Qu_isInScope_0 : List kc_A := [ka_al 0 1, ka_get 8 0, ka_no, ka_no, ka_sw (fun x => if x = nI 0 then 32 else if x = nI 1 then 42 else 53), ka_no, ka_no, ka_no, ka_no, ka_no, ka_no, ka_no, ka_no, ka_no, ka_no, ka_no, ka_no, ka_no, ka_no, ka_no, ka_no, ka_no, ka_no, ka_no, ka_no, ka_no, ka_no, ka_no, ka_no, ka_no, ka_no, ka_no, ka_il 1 1, ka_if (fun x => ¬ x = 0) 40, ka_no, ka_no, ka_ci (nI 1) 1, ka_goto 41, ka_no, ka_no, ka_ci (nI 0) 1, ka_rz, ka_il 1 1, ka_ci (nI 1) 1, ka_cm (fun x y => ¬ x = y) 51, ka_no, ka_no, ka_ci (nI 1) 1, ka_goto 52, ka_no, ka_no, ka_ci (nI 0) 1, ka_rz, ka_il 1 1, ka_if (fun x => x < 0) 61, ka_no, ka_no, ka_ci (nI 1) 1, ka_goto 62, ka_no]
def cl_Qu_isInScope_1 : List kc_A := [ka_no, ka_ci (nI 0) 1, ka_rz]
def ct_Qu_isInScope : Nat → kc_A := fun pc => ka_nth (cl_Qu_isInScope_0 ++ (cl_Qu_isInScope_1)) pc
set_option maxRecDepth 100000 in
theorem c_Qu_isInScope_0 : ct_Qu_isInScope 0 = ka_al 0 1 := rfl
theorem d_Qu_isInScope_0 : decode prog_7_method_6_code 0 = .ok (.aload_n 0, 1) := by decide +kernel
set_option maxRecDepth 100000 in
theorem c_Qu_isInScope_1 : ct_Qu_isInScope 1 = ka_get 8 0 := rfl
theorem d_Qu_isInScope_1 : decode prog_7_method_6_code 1 = .ok (.getfield 15, 3) := by decide +kernel
set_option maxRecDepth 100000 in
theorem c_Qu_isInScope_4 : ct_Qu_isInScope 4 = ka_sw (fun x => if x = nI 0 then 32 else if x = nI 1 then 42 else 53) := rfl
theorem d_Qu_isInScope_4 : decode prog_7_method_6_code 4 = .ok (.lookupswitch 49 #[(0, 28), (1, 38)], 28) := by decide +kernel
set_option maxRecDepth 100000 in
theorem c_Qu_isInScope_32 : ct_Qu_isInScope 32 = ka_il 1 1 := rfl
theorem d_Qu_isInScope_32 : decode prog_7_method_6_code 32 = .ok (.iload_n 1, 1) := by decide +kernel
set_option maxRecDepth 100000 in
theorem c_Qu_isInScope_33 : ct_Qu_isInScope 33 = ka_if (fun x => ¬ x = 0) 40 := rfl
theorem d_Qu_isInScope_33 : decode prog_7_method_6_code 33 = .ok (.ifCond .ne 7, 3) := by decide +kernel
set_option maxRecDepth 100000 in
theorem c_Qu_isInScope_36 : ct_Qu_isInScope 36 = ka_ci (nI 1) 1 := rfl
theorem d_Qu_isInScope_36 : decode prog_7_method_6_code 36 = .ok (.iconst 1, 1) := by decide +kernel
set_option maxRecDepth 100000 in
theorem c_Qu_isInScope_37 : ct_Qu_isInScope 37 = ka_goto 41 := rfl
theorem d_Qu_isInScope_37 : decode prog_7_method_6_code 37 = .ok (.goto 4, 3) := by decide +kernel
set_option maxRecDepth 100000 in
theorem c_Qu_isInScope_40 : ct_Qu_isInScope 40 = ka_ci (nI 0) 1 := rfl
theorem d_Qu_isInScope_40 : decode prog_7_method_6_code 40 = .ok (.iconst 0, 1) := by decide +kernel
set_option maxRecDepth 100000 in
theorem c_Qu_isInScope_41 : ct_Qu_isInScope 41 = ka_rz := rfl
theorem d_Qu_isInScope_41 : decode prog_7_method_6_code 41 = .ok (.ireturn, 1) := by decide +kernel
set_option maxRecDepth 100000 in
theorem c_Qu_isInScope_42 : ct_Qu_isInScope 42 = ka_il 1 1 := rfl
theorem d_Qu_isInScope_42 : decode prog_7_method_6_code 42 = .ok (.iload_n 1, 1) := by decide +kernel
set_option maxRecDepth 100000 in
theorem c_Qu_isInScope_43 : ct_Qu_isInScope 43 = ka_ci (nI 1) 1 := rfl
theorem d_Qu_isInScope_43 : decode prog_7_method_6_code 43 = .ok (.iconst 1, 1) := by decide +kernel
set_option maxRecDepth 100000 in
theorem c_Qu_isInScope_44 : ct_Qu_isInScope 44 = ka_cm (fun x y => ¬ x = y) 51 := rfl
theorem d_Qu_isInScope_44 : decode prog_7_method_6_code 44 = .ok (.if_icmp .ne 7, 3) := by decide +kernel
set_option maxRecDepth 100000 in
theorem c_Qu_isInScope_47 : ct_Qu_isInScope 47 = ka_ci (nI 1) 1 := rfl
theorem d_Qu_isInScope_47 : decode prog_7_method_6_code 47 = .ok (.iconst 1, 1) := by decide +kernel
set_option maxRecDepth 100000 in
theorem c_Qu_isInScope_48 : ct_Qu_isInScope 48 = ka_goto 52 := rfl
theorem d_Qu_isInScope_48 : decode prog_7_method_6_code 48 = .ok (.goto 4, 3) := by decide +kernel
set_option maxRecDepth 100000 in
theorem c_Qu_isInScope_51 : ct_Qu_isInScope 51 = ka_ci (nI 0) 1 := rfl
theorem d_Qu_isInScope_51 : decode prog_7_method_6_code 51 = .ok (.iconst 0, 1) := by decide +kernel
set_option maxRecDepth 100000 in
theorem c_Qu_isInScope_52 : ct_Qu_isInScope 52 = ka_rz := rfl
theorem d_Qu_isInScope_52 : decode prog_7_method_6_code 52 = .ok (.ireturn, 1) := by decide +kernel
set_option maxRecDepth 100000 in
theorem c_Qu_isInScope_53 : ct_Qu_isInScope 53 = ka_il 1 1 := rfl
theorem d_Qu_isInScope_53 : decode prog_7_method_6_code 53 = .ok (.iload_n 1, 1) := by decide +kernel
set_option maxRecDepth 100000 in
theorem c_Qu_isInScope_54 : ct_Qu_isInScope 54 = ka_if (fun x => x < 0) 61 := rfl
theorem d_Qu_isInScope_54 : decode prog_7_method_6_code 54 = .ok (.ifCond .lt 7, 3) := by decide +kernel
set_option maxRecDepth 100000 in
theorem c_Qu_isInScope_57 : ct_Qu_isInScope 57 = ka_ci (nI 1) 1 := rfl
theorem d_Qu_isInScope_57 : decode prog_7_method_6_code 57 = .ok (.iconst 1, 1) := by decide +kernel
set_option maxRecDepth 100000 in
theorem c_Qu_isInScope_58 : ct_Qu_isInScope 58 = ka_goto 62 := rfl
theorem d_Qu_isInScope_58 : decode prog_7_method_6_code 58 = .ok (.goto 4, 3) := by decide +kernel
set_option maxRecDepth 100000 in
theorem c_Qu_isInScope_61 : ct_Qu_isInScope 61 = ka_ci (nI 0) 1 := rfl
theorem d_Qu_isInScope_61 : decode prog_7_method_6_code 61 = .ok (.iconst 0, 1) := by decide +kernel
set_option maxRecDepth 100000 in
theorem c_Qu_isInScope_62 : ct_Qu_isInScope 62 = ka_rz := rfl
theorem d_Qu_isInScope_62 : decode prog_7_method_6_code 62 = .ok (.ireturn, 1) := by decide +kernel
set_option maxRecDepth 100000 in
set_option maxHeartbeats 4000000 in
theorem s_Qu_isInScope_60 : ∀ pc, pc < 60 → kc_Sim kt kw_A kw_N kt_cl kt_En "DirectoryDesk$Query" prog_7_method_6_code 2 (some .boolean) "isInScope" none pc (ct_Qu_isInScope pc) := by
  let P : Nat → Prop := fun pc => kc_Sim kt kw_A kw_N kt_cl kt_En "DirectoryDesk$Query" prog_7_method_6_code 2 (some .boolean) "isInScope" none pc (ct_Qu_isInScope pc)
  exact kc_case (P := P) (kc_se rfl sm_no) (
  kc_case (P := P) (kc_se c_Qu_isInScope_58 (sm_goto d_Qu_isInScope_58 (by decide))) (
  kc_case (P := P) (kc_se c_Qu_isInScope_57 (sm_iconst d_Qu_isInScope_57 (by decide))) (
  kc_case (P := P) (kc_se rfl sm_no) (
  kc_case (P := P) (kc_se rfl sm_no) (
  kc_case (P := P) (kc_se c_Qu_isInScope_54 (sm_if_lt d_Qu_isInScope_54 (by decide))) (
  kc_case (P := P) (kc_se c_Qu_isInScope_53 (sm_iload_n d_Qu_isInScope_53 rfl)) (
  kc_case (P := P) (kc_se c_Qu_isInScope_52 (sm_rz d_Qu_isInScope_52 rfl)) (
  kc_case (P := P) (kc_se c_Qu_isInScope_51 (sm_iconst d_Qu_isInScope_51 (by decide))) (
  kc_case (P := P) (kc_se rfl sm_no) (
  kc_case (P := P) (kc_se rfl sm_no) (
  kc_case (P := P) (kc_se c_Qu_isInScope_48 (sm_goto d_Qu_isInScope_48 (by decide))) (
  kc_case (P := P) (kc_se c_Qu_isInScope_47 (sm_iconst d_Qu_isInScope_47 (by decide))) (
  kc_case (P := P) (kc_se rfl sm_no) (
  kc_case (P := P) (kc_se rfl sm_no) (
  kc_case (P := P) (kc_se c_Qu_isInScope_44 (sm_cm_ne d_Qu_isInScope_44 (by decide))) (
  kc_case (P := P) (kc_se c_Qu_isInScope_43 (sm_iconst d_Qu_isInScope_43 (by decide))) (
  kc_case (P := P) (kc_se c_Qu_isInScope_42 (sm_iload_n d_Qu_isInScope_42 rfl)) (
  kc_case (P := P) (kc_se c_Qu_isInScope_41 (sm_rz d_Qu_isInScope_41 rfl)) (
  kc_case (P := P) (kc_se c_Qu_isInScope_40 (sm_iconst d_Qu_isInScope_40 (by decide))) (
  kc_case (P := P) (kc_se rfl sm_no) (
  kc_case (P := P) (kc_se rfl sm_no) (
  kc_case (P := P) (kc_se c_Qu_isInScope_37 (sm_goto d_Qu_isInScope_37 (by decide))) (
  kc_case (P := P) (kc_se c_Qu_isInScope_36 (sm_iconst d_Qu_isInScope_36 (by decide))) (
  kc_case (P := P) (kc_se rfl sm_no) (
  kc_case (P := P) (kc_se rfl sm_no) (
  kc_case (P := P) (kc_se c_Qu_isInScope_33 (sm_if_ne d_Qu_isInScope_33 (by decide))) (
  kc_case (P := P) (kc_se c_Qu_isInScope_32 (sm_iload_n d_Qu_isInScope_32 rfl)) (
  kc_case (P := P) (kc_se rfl sm_no) (
  kc_case (P := P) (kc_se rfl sm_no) (
  kc_case (P := P) (kc_se rfl sm_no) (
  kc_case (P := P) (kc_se rfl sm_no) (
  kc_case (P := P) (kc_se rfl sm_no) (
  kc_case (P := P) (kc_se rfl sm_no) (
  kc_case (P := P) (kc_se rfl sm_no) (
  kc_case (P := P) (kc_se rfl sm_no) (
  kc_case (P := P) (kc_se rfl sm_no) (
  kc_case (P := P) (kc_se rfl sm_no) (
  kc_case (P := P) (kc_se rfl sm_no) (
  kc_case (P := P) (kc_se rfl sm_no) (
  kc_case (P := P) (kc_se rfl sm_no) (
  kc_case (P := P) (kc_se rfl sm_no) (
  kc_case (P := P) (kc_se rfl sm_no) (
  kc_case (P := P) (kc_se rfl sm_no) (
  kc_case (P := P) (kc_se rfl sm_no) (
  kc_case (P := P) (kc_se rfl sm_no) (
  kc_case (P := P) (kc_se rfl sm_no) (
  kc_case (P := P) (kc_se rfl sm_no) (
  kc_case (P := P) (kc_se rfl sm_no) (
  kc_case (P := P) (kc_se rfl sm_no) (
  kc_case (P := P) (kc_se rfl sm_no) (
  kc_case (P := P) (kc_se rfl sm_no) (
  kc_case (P := P) (kc_se rfl sm_no) (
  kc_case (P := P) (kc_se rfl sm_no) (
  kc_case (P := P) (kc_se rfl sm_no) (
  kc_case (P := P) (kc_se c_Qu_isInScope_4 (sm_lsw d_Qu_isInScope_4 (by decide +kernel) (by
    intro x
    by_cases h0 : x = nI 0
    · subst h0; decide +kernel
    by_cases h1 : x = nI 1
    · subst h1; decide +kernel
    rw [lv_osw h0 (by decide +kernel), lv_osw h1 (by decide +kernel)]
    show _ = ((if x = nI 0 then 32 else if x = nI 1 then 42 else 53 : Nat) : Int)
    rw [if_neg h0, if_neg h1]
    show ((4 : Nat) : Int) + 49 = ((53 : Nat) : Int)
    decide))) (
  kc_case (P := P) (kc_se rfl sm_no) (
  kc_case (P := P) (kc_se rfl sm_no) (
  kc_case (P := P) (kc_se c_Qu_isInScope_1 (sm_get (ci := 8) (C := "DirectoryDesk$Query") (F := kF_Qu) rfl kin_Qu (Nat.le_of_ble_eq_true rfl) d_Qu_isInScope_1 (kw1 202 rfl rfl))) (
  kc_case (P := P) (kc_se c_Qu_isInScope_0 (sm_aload_n d_Qu_isInScope_0 rfl)) (
  kc_case0))))))))))))))))))))))))))))))))))))))))))))))))))))))))))))
set_option maxRecDepth 100000 in
set_option maxHeartbeats 4000000 in
theorem s_Qu_isInScope_63 : ∀ pc, pc < 63 → kc_Sim kt kw_A kw_N kt_cl kt_En "DirectoryDesk$Query" prog_7_method_6_code 2 (some .boolean) "isInScope" none pc (ct_Qu_isInScope pc) := by
  let P : Nat → Prop := fun pc => kc_Sim kt kw_A kw_N kt_cl kt_En "DirectoryDesk$Query" prog_7_method_6_code 2 (some .boolean) "isInScope" none pc (ct_Qu_isInScope pc)
  exact kc_case (P := P) (kc_se c_Qu_isInScope_62 (sm_rz d_Qu_isInScope_62 rfl)) (
  kc_case (P := P) (kc_se c_Qu_isInScope_61 (sm_iconst d_Qu_isInScope_61 (by decide))) (
  kc_case (P := P) (kc_se rfl sm_no) (
  s_Qu_isInScope_60)))
theorem ka_nth_no_Qu_isInScope (pc : Nat) (h : 63 ≤ pc) : ct_Qu_isInScope pc = ka_no := ka_nth_ge _ pc (Nat.le_trans (Nat.le_of_eq (by rfl)) h)
theorem s_Qu_isInScope (pc : Nat) : kc_Sim kt kw_A kw_N kt_cl kt_En "DirectoryDesk$Query" prog_7_method_6_code 2 (some .boolean) "isInScope" none pc (ct_Qu_isInScope pc) := (Nat.lt_or_ge pc 63).elim (s_Qu_isInScope_63 pc) (fun h => kc_se (ka_nth_no_Qu_isInScope pc h) sm_no)
def cl_Fi_init_0 : List kc_A := [ka_al 0 1, ka_obj, ka_no, ka_no, ka_al 0 1, ka_ci (nI 20) 2, ka_no, ka_newi, ka_no, ka_put 9 0 (.array .int), ka_no, ka_no, ka_al 0 1, ka_ci (nI 20) 2, ka_no, ka_newi, ka_no, ka_put 9 1 (.array .int), ka_no, ka_no, ka_al 0 1, ka_ci (nI 20) 2, ka_no, ka_newl, ka_no, ka_put 9 2 (.array .long), ka_no, ka_no, ka_al 0 1, ka_ci (nI 20) 2, ka_no, ka_newi, ka_no, ka_put 9 3 (.array .int), ka_no, ka_no, ka_ret]
def ct_Fi_init : Nat → kc_A := fun pc => ka_nth (cl_Fi_init_0) pc
set_option maxRecDepth 100000 in
theorem c_Fi_init_0 : ct_Fi_init 0 = ka_al 0 1 := rfl
theorem d_Fi_init_0 : decode prog_4_method_1_code 0 = .ok (.aload_n 0, 1) := by decide +kernel
set_option maxRecDepth 100000 in
theorem c_Fi_init_1 : ct_Fi_init 1 = ka_obj := rfl
theorem d_Fi_init_1 : decode prog_4_method_1_code 1 = .ok (.invokespecial 3, 3) := by decide +kernel
set_option maxRecDepth 100000 in
theorem c_Fi_init_4 : ct_Fi_init 4 = ka_al 0 1 := rfl
theorem d_Fi_init_4 : decode prog_4_method_1_code 4 = .ok (.aload_n 0, 1) := by decide +kernel
set_option maxRecDepth 100000 in
theorem c_Fi_init_5 : ct_Fi_init 5 = ka_ci (nI 20) 2 := rfl
theorem d_Fi_init_5 : decode prog_4_method_1_code 5 = .ok (.bipush 20, 2) := by decide +kernel
set_option maxRecDepth 100000 in
theorem c_Fi_init_7 : ct_Fi_init 7 = ka_newi := rfl
theorem d_Fi_init_7 : decode prog_4_method_1_code 7 = .ok (.newarray .int, 2) := by decide +kernel
set_option maxRecDepth 100000 in
theorem c_Fi_init_9 : ct_Fi_init 9 = ka_put 9 0 (.array .int) := rfl
theorem d_Fi_init_9 : decode prog_4_method_1_code 9 = .ok (.putfield 9, 3) := by decide +kernel
set_option maxRecDepth 100000 in
theorem c_Fi_init_12 : ct_Fi_init 12 = ka_al 0 1 := rfl
theorem d_Fi_init_12 : decode prog_4_method_1_code 12 = .ok (.aload_n 0, 1) := by decide +kernel
set_option maxRecDepth 100000 in
theorem c_Fi_init_13 : ct_Fi_init 13 = ka_ci (nI 20) 2 := rfl
theorem d_Fi_init_13 : decode prog_4_method_1_code 13 = .ok (.bipush 20, 2) := by decide +kernel
set_option maxRecDepth 100000 in
theorem c_Fi_init_15 : ct_Fi_init 15 = ka_newi := rfl
theorem d_Fi_init_15 : decode prog_4_method_1_code 15 = .ok (.newarray .int, 2) := by decide +kernel
set_option maxRecDepth 100000 in
theorem c_Fi_init_17 : ct_Fi_init 17 = ka_put 9 1 (.array .int) := rfl
theorem d_Fi_init_17 : decode prog_4_method_1_code 17 = .ok (.putfield 15, 3) := by decide +kernel
set_option maxRecDepth 100000 in
theorem c_Fi_init_20 : ct_Fi_init 20 = ka_al 0 1 := rfl
theorem d_Fi_init_20 : decode prog_4_method_1_code 20 = .ok (.aload_n 0, 1) := by decide +kernel
set_option maxRecDepth 100000 in
theorem c_Fi_init_21 : ct_Fi_init 21 = ka_ci (nI 20) 2 := rfl
theorem d_Fi_init_21 : decode prog_4_method_1_code 21 = .ok (.bipush 20, 2) := by decide +kernel
set_option maxRecDepth 100000 in
theorem c_Fi_init_23 : ct_Fi_init 23 = ka_newl := rfl
theorem d_Fi_init_23 : decode prog_4_method_1_code 23 = .ok (.newarray .long, 2) := by decide +kernel
set_option maxRecDepth 100000 in
theorem c_Fi_init_25 : ct_Fi_init 25 = ka_put 9 2 (.array .long) := rfl
theorem d_Fi_init_25 : decode prog_4_method_1_code 25 = .ok (.putfield 18, 3) := by decide +kernel
set_option maxRecDepth 100000 in
theorem c_Fi_init_28 : ct_Fi_init 28 = ka_al 0 1 := rfl
theorem d_Fi_init_28 : decode prog_4_method_1_code 28 = .ok (.aload_n 0, 1) := by decide +kernel
set_option maxRecDepth 100000 in
theorem c_Fi_init_29 : ct_Fi_init 29 = ka_ci (nI 20) 2 := rfl
theorem d_Fi_init_29 : decode prog_4_method_1_code 29 = .ok (.bipush 20, 2) := by decide +kernel
set_option maxRecDepth 100000 in
theorem c_Fi_init_31 : ct_Fi_init 31 = ka_newi := rfl
theorem d_Fi_init_31 : decode prog_4_method_1_code 31 = .ok (.newarray .int, 2) := by decide +kernel
set_option maxRecDepth 100000 in
theorem c_Fi_init_33 : ct_Fi_init 33 = ka_put 9 3 (.array .int) := rfl
theorem d_Fi_init_33 : decode prog_4_method_1_code 33 = .ok (.putfield 22, 3) := by decide +kernel
set_option maxRecDepth 100000 in
theorem c_Fi_init_36 : ct_Fi_init 36 = ka_ret := rfl
theorem d_Fi_init_36 : decode prog_4_method_1_code 36 = .ok (.return_, 1) := by decide +kernel
set_option maxRecDepth 100000 in
set_option maxHeartbeats 4000000 in
theorem s_Fi_init_37 : ∀ pc, pc < 37 → kc_Sim kt kw_A kw_N kt_cl kt_En "DirectoryDesk$Filters" prog_4_method_1_code 1 (none) "<init>" none pc (ct_Fi_init pc) := by
  let P : Nat → Prop := fun pc => kc_Sim kt kw_A kw_N kt_cl kt_En "DirectoryDesk$Filters" prog_4_method_1_code 1 (none) "<init>" none pc (ct_Fi_init pc)
  exact kc_case (P := P) (kc_se c_Fi_init_36 (sm_ret d_Fi_init_36 rfl)) (
  kc_case (P := P) (kc_se rfl sm_no) (
  kc_case (P := P) (kc_se rfl sm_no) (
  kc_case (P := P) (kc_se c_Fi_init_33 (sm_putF (ci := 9) (C := "DirectoryDesk$Filters") (F := kF_Fi) rfl kin_Fi kty_Fi ktk_Fi knm_Fi (Nat.le_of_ble_eq_true rfl) (by decide +kernel) d_Fi_init_33 (kw1 225 rfl rfl) rfl rfl rfl)) (
  kc_case (P := P) (kc_se rfl sm_no) (
  kc_case (P := P) (kc_se c_Fi_init_31 (sm_newi rfl d_Fi_init_31 (kw1 62 rfl rfl))) (
  kc_case (P := P) (kc_se rfl sm_no) (
  kc_case (P := P) (kc_se c_Fi_init_29 (sm_bipush d_Fi_init_29 (by decide))) (
  kc_case (P := P) (kc_se c_Fi_init_28 (sm_aload_n d_Fi_init_28 rfl)) (
  kc_case (P := P) (kc_se rfl sm_no) (
  kc_case (P := P) (kc_se rfl sm_no) (
  kc_case (P := P) (kc_se c_Fi_init_25 (sm_putF (ci := 9) (C := "DirectoryDesk$Filters") (F := kF_Fi) rfl kin_Fi kty_Fi ktk_Fi knm_Fi (Nat.le_of_ble_eq_true rfl) (by decide +kernel) d_Fi_init_25 (kw1 224 rfl rfl) rfl rfl rfl)) (
  kc_case (P := P) (kc_se rfl sm_no) (
  kc_case (P := P) (kc_se c_Fi_init_23 (sm_newl rfl d_Fi_init_23 (kw1 115 rfl rfl))) (
  kc_case (P := P) (kc_se rfl sm_no) (
  kc_case (P := P) (kc_se c_Fi_init_21 (sm_bipush d_Fi_init_21 (by decide))) (
  kc_case (P := P) (kc_se c_Fi_init_20 (sm_aload_n d_Fi_init_20 rfl)) (
  kc_case (P := P) (kc_se rfl sm_no) (
  kc_case (P := P) (kc_se rfl sm_no) (
  kc_case (P := P) (kc_se c_Fi_init_17 (sm_putF (ci := 9) (C := "DirectoryDesk$Filters") (F := kF_Fi) rfl kin_Fi kty_Fi ktk_Fi knm_Fi (Nat.le_of_ble_eq_true rfl) (by decide +kernel) d_Fi_init_17 (kw1 223 rfl rfl) rfl rfl rfl)) (
  kc_case (P := P) (kc_se rfl sm_no) (
  kc_case (P := P) (kc_se c_Fi_init_15 (sm_newi rfl d_Fi_init_15 (kw1 62 rfl rfl))) (
  kc_case (P := P) (kc_se rfl sm_no) (
  kc_case (P := P) (kc_se c_Fi_init_13 (sm_bipush d_Fi_init_13 (by decide))) (
  kc_case (P := P) (kc_se c_Fi_init_12 (sm_aload_n d_Fi_init_12 rfl)) (
  kc_case (P := P) (kc_se rfl sm_no) (
  kc_case (P := P) (kc_se rfl sm_no) (
  kc_case (P := P) (kc_se c_Fi_init_9 (sm_putF (ci := 9) (C := "DirectoryDesk$Filters") (F := kF_Fi) rfl kin_Fi kty_Fi ktk_Fi knm_Fi (Nat.le_of_ble_eq_true rfl) (by decide +kernel) d_Fi_init_9 (kw1 222 rfl rfl) rfl rfl rfl)) (
  kc_case (P := P) (kc_se rfl sm_no) (
  kc_case (P := P) (kc_se c_Fi_init_7 (sm_newi rfl d_Fi_init_7 (kw1 62 rfl rfl))) (
  kc_case (P := P) (kc_se rfl sm_no) (
  kc_case (P := P) (kc_se c_Fi_init_5 (sm_bipush d_Fi_init_5 (by decide))) (
  kc_case (P := P) (kc_se c_Fi_init_4 (sm_aload_n d_Fi_init_4 rfl)) (
  kc_case (P := P) (kc_se rfl sm_no) (
  kc_case (P := P) (kc_se rfl sm_no) (
  kc_case (P := P) (kc_se c_Fi_init_1 (sm_obj d_Fi_init_1 (kw1 221 rfl rfl) (kw1 20 rfl rfl) (kw1 21 rfl rfl))) (
  kc_case (P := P) (kc_se c_Fi_init_0 (sm_aload_n d_Fi_init_0 rfl)) (
  kc_case0)))))))))))))))))))))))))))))))))))))
theorem ka_nth_no_Fi_init (pc : Nat) (h : 37 ≤ pc) : ct_Fi_init pc = ka_no := ka_nth_ge _ pc (Nat.le_trans (Nat.le_of_eq (by rfl)) h)
theorem s_Fi_init (pc : Nat) : kc_Sim kt kw_A kw_N kt_cl kt_En "DirectoryDesk$Filters" prog_4_method_1_code 1 (none) "<init>" none pc (ct_Fi_init pc) := (Nat.lt_or_ge pc 37).elim (s_Fi_init_37 pc) (fun h => kc_se (ka_nth_no_Fi_init pc h) sm_no)
def cl_Fi_readFrom_0 : List kc_A := [ka_al 0 1, ka_ci (nI 0) 1, ka_put 9 4 .int, ka_no, ka_no, ka_al 0 1, ka_al 1 1, ka_ci (nI 1) 1, ka_cv 90 2 9 0 0, ka_no, ka_no, ka_ret]
def ct_Fi_readFrom : Nat → kc_A := fun pc => ka_nth (cl_Fi_readFrom_0) pc
set_option maxRecDepth 100000 in
theorem c_Fi_readFrom_0 : ct_Fi_readFrom 0 = ka_al 0 1 := rfl
theorem d_Fi_readFrom_0 : decode prog_4_method_2_code 0 = .ok (.aload_n 0, 1) := by decide +kernel
set_option maxRecDepth 100000 in
theorem c_Fi_readFrom_1 : ct_Fi_readFrom 1 = ka_ci (nI 0) 1 := rfl
theorem d_Fi_readFrom_1 : decode prog_4_method_2_code 1 = .ok (.iconst 0, 1) := by decide +kernel
set_option maxRecDepth 100000 in
theorem c_Fi_readFrom_2 : ct_Fi_readFrom 2 = ka_put 9 4 .int := rfl
theorem d_Fi_readFrom_2 : decode prog_4_method_2_code 2 = .ok (.putfield 25, 3) := by decide +kernel
set_option maxRecDepth 100000 in
theorem c_Fi_readFrom_5 : ct_Fi_readFrom 5 = ka_al 0 1 := rfl
theorem d_Fi_readFrom_5 : decode prog_4_method_2_code 5 = .ok (.aload_n 0, 1) := by decide +kernel
set_option maxRecDepth 100000 in
theorem c_Fi_readFrom_6 : ct_Fi_readFrom 6 = ka_al 1 1 := rfl
theorem d_Fi_readFrom_6 : decode prog_4_method_2_code 6 = .ok (.aload_n 1, 1) := by decide +kernel
set_option maxRecDepth 100000 in
theorem c_Fi_readFrom_7 : ct_Fi_readFrom 7 = ka_ci (nI 1) 1 := rfl
theorem d_Fi_readFrom_7 : decode prog_4_method_2_code 7 = .ok (.iconst 1, 1) := by decide +kernel
set_option maxRecDepth 100000 in
theorem c_Fi_readFrom_8 : ct_Fi_readFrom 8 = ka_cv 90 2 9 0 0 := rfl
theorem d_Fi_readFrom_8 : decode prog_4_method_2_code 8 = .ok (.invokevirtual 29, 3) := by decide +kernel
set_option maxRecDepth 100000 in
theorem c_Fi_readFrom_11 : ct_Fi_readFrom 11 = ka_ret := rfl
theorem d_Fi_readFrom_11 : decode prog_4_method_2_code 11 = .ok (.return_, 1) := by decide +kernel
set_option maxRecDepth 100000 in
set_option maxHeartbeats 4000000 in
theorem s_Fi_readFrom_12 : ∀ pc, pc < 12 → kc_Sim kt kw_A kw_N kt_cl kt_En "DirectoryDesk$Filters" prog_4_method_2_code 2 (none) "readFrom" none pc (ct_Fi_readFrom pc) := by
  let P : Nat → Prop := fun pc => kc_Sim kt kw_A kw_N kt_cl kt_En "DirectoryDesk$Filters" prog_4_method_2_code 2 (none) "readFrom" none pc (ct_Fi_readFrom pc)
  exact kc_case (P := P) (kc_se c_Fi_readFrom_11 (sm_ret d_Fi_readFrom_11 rfl)) (
  kc_case (P := P) (kc_se rfl sm_no) (
  kc_case (P := P) (kc_se rfl sm_no) (
  kc_case (P := P) (kc_se c_Fi_readFrom_8 (sm_cv (j := 90) rfl rfl kw_o kw_g wc_Fi_readOne (Nat.le_of_ble_eq_true rfl) hd_Fi_readOne (ci := 9) (F := kF_Fi) (N := 5) rfl (kw2 165 rfl rfl) wi_Fi_readOne ws_Fi_readOne wn_Fi_readOne d_Fi_readFrom_8)) (
  kc_case (P := P) (kc_se c_Fi_readFrom_7 (sm_iconst d_Fi_readFrom_7 (by decide))) (
  kc_case (P := P) (kc_se c_Fi_readFrom_6 (sm_aload_n d_Fi_readFrom_6 rfl)) (
  kc_case (P := P) (kc_se c_Fi_readFrom_5 (sm_aload_n d_Fi_readFrom_5 rfl)) (
  kc_case (P := P) (kc_se rfl sm_no) (
  kc_case (P := P) (kc_se rfl sm_no) (
  kc_case (P := P) (kc_se c_Fi_readFrom_2 (sm_put (ci := 9) (C := "DirectoryDesk$Filters") (F := kF_Fi) rfl kin_Fi kty_Fi ktk_Fi knm_Fi (Nat.le_of_ble_eq_true rfl) (by decide +kernel) d_Fi_readFrom_2 (kw1 226 rfl rfl) rfl)) (
  kc_case (P := P) (kc_se c_Fi_readFrom_1 (sm_iconst d_Fi_readFrom_1 (by decide))) (
  kc_case (P := P) (kc_se c_Fi_readFrom_0 (sm_aload_n d_Fi_readFrom_0 rfl)) (
  kc_case0))))))))))))
theorem ka_nth_no_Fi_readFrom (pc : Nat) (h : 12 ≤ pc) : ct_Fi_readFrom pc = ka_no := ka_nth_ge _ pc (Nat.le_trans (Nat.le_of_eq (by rfl)) h)
theorem s_Fi_readFrom (pc : Nat) : kc_Sim kt kw_A kw_N kt_cl kt_En "DirectoryDesk$Filters" prog_4_method_2_code 2 (none) "readFrom" none pc (ct_Fi_readFrom pc) := (Nat.lt_or_ge pc 12).elim (s_Fi_readFrom_12 pc) (fun h => kc_se (ka_nth_no_Fi_readFrom pc h) sm_no)
def cl_Fi_areTrueFor_0 : List kc_A := [ka_al 0 1, ka_ci (nI 0) 1, ka_al 1 1, ka_ci (nI 1) 1, ka_cv 93 3 9 0 0, ka_no, ka_no, ka_ci (nI 2) 1, ka_cm (fun x y => ¬ x = y) 15, ka_no, ka_no, ka_ci (nI 1) 1, ka_goto 16, ka_no, ka_no, ka_ci (nI 0) 1, ka_rz]
def ct_Fi_areTrueFor : Nat → kc_A := fun pc => ka_nth (cl_Fi_areTrueFor_0) pc
set_option maxRecDepth 100000 in
theorem c_Fi_areTrueFor_0 : ct_Fi_areTrueFor 0 = ka_al 0 1 := rfl
theorem d_Fi_areTrueFor_0 : decode prog_4_method_3_code 0 = .ok (.aload_n 0, 1) := by decide +kernel
set_option maxRecDepth 100000 in
theorem c_Fi_areTrueFor_1 : ct_Fi_areTrueFor 1 = ka_ci (nI 0) 1 := rfl
theorem d_Fi_areTrueFor_1 : decode prog_4_method_3_code 1 = .ok (.iconst 0, 1) := by decide +kernel
set_option maxRecDepth 100000 in
theorem c_Fi_areTrueFor_2 : ct_Fi_areTrueFor 2 = ka_al 1 1 := rfl
theorem d_Fi_areTrueFor_2 : decode prog_4_method_3_code 2 = .ok (.aload_n 1, 1) := by decide +kernel
set_option maxRecDepth 100000 in
theorem c_Fi_areTrueFor_3 : ct_Fi_areTrueFor 3 = ka_ci (nI 1) 1 := rfl
theorem d_Fi_areTrueFor_3 : decode prog_4_method_3_code 3 = .ok (.iconst 1, 1) := by decide +kernel
set_option maxRecDepth 100000 in
theorem c_Fi_areTrueFor_4 : ct_Fi_areTrueFor 4 = ka_cv 93 3 9 0 0 := rfl
theorem d_Fi_areTrueFor_4 : decode prog_4_method_3_code 4 = .ok (.invokevirtual 33, 3) := by decide +kernel
set_option maxRecDepth 100000 in
theorem c_Fi_areTrueFor_7 : ct_Fi_areTrueFor 7 = ka_ci (nI 2) 1 := rfl
theorem d_Fi_areTrueFor_7 : decode prog_4_method_3_code 7 = .ok (.iconst 2, 1) := by decide +kernel
set_option maxRecDepth 100000 in
theorem c_Fi_areTrueFor_8 : ct_Fi_areTrueFor 8 = ka_cm (fun x y => ¬ x = y) 15 := rfl
theorem d_Fi_areTrueFor_8 : decode prog_4_method_3_code 8 = .ok (.if_icmp .ne 7, 3) := by decide +kernel
set_option maxRecDepth 100000 in
theorem c_Fi_areTrueFor_11 : ct_Fi_areTrueFor 11 = ka_ci (nI 1) 1 := rfl
theorem d_Fi_areTrueFor_11 : decode prog_4_method_3_code 11 = .ok (.iconst 1, 1) := by decide +kernel
set_option maxRecDepth 100000 in
theorem c_Fi_areTrueFor_12 : ct_Fi_areTrueFor 12 = ka_goto 16 := rfl
theorem d_Fi_areTrueFor_12 : decode prog_4_method_3_code 12 = .ok (.goto 4, 3) := by decide +kernel
set_option maxRecDepth 100000 in
theorem c_Fi_areTrueFor_15 : ct_Fi_areTrueFor 15 = ka_ci (nI 0) 1 := rfl
theorem d_Fi_areTrueFor_15 : decode prog_4_method_3_code 15 = .ok (.iconst 0, 1) := by decide +kernel
set_option maxRecDepth 100000 in
theorem c_Fi_areTrueFor_16 : ct_Fi_areTrueFor 16 = ka_rz := rfl
theorem d_Fi_areTrueFor_16 : decode prog_4_method_3_code 16 = .ok (.ireturn, 1) := by decide +kernel
set_option maxRecDepth 100000 in
set_option maxHeartbeats 4000000 in
theorem s_Fi_areTrueFor_17 : ∀ pc, pc < 17 → kc_Sim kt kw_A kw_N kt_cl kt_En "DirectoryDesk$Filters" prog_4_method_3_code 2 (some .boolean) "areTrueFor" none pc (ct_Fi_areTrueFor pc) := by
  let P : Nat → Prop := fun pc => kc_Sim kt kw_A kw_N kt_cl kt_En "DirectoryDesk$Filters" prog_4_method_3_code 2 (some .boolean) "areTrueFor" none pc (ct_Fi_areTrueFor pc)
  exact kc_case (P := P) (kc_se c_Fi_areTrueFor_16 (sm_rz d_Fi_areTrueFor_16 rfl)) (
  kc_case (P := P) (kc_se c_Fi_areTrueFor_15 (sm_iconst d_Fi_areTrueFor_15 (by decide))) (
  kc_case (P := P) (kc_se rfl sm_no) (
  kc_case (P := P) (kc_se rfl sm_no) (
  kc_case (P := P) (kc_se c_Fi_areTrueFor_12 (sm_goto d_Fi_areTrueFor_12 (by decide))) (
  kc_case (P := P) (kc_se c_Fi_areTrueFor_11 (sm_iconst d_Fi_areTrueFor_11 (by decide))) (
  kc_case (P := P) (kc_se rfl sm_no) (
  kc_case (P := P) (kc_se rfl sm_no) (
  kc_case (P := P) (kc_se c_Fi_areTrueFor_8 (sm_cm_ne d_Fi_areTrueFor_8 (by decide))) (
  kc_case (P := P) (kc_se c_Fi_areTrueFor_7 (sm_iconst d_Fi_areTrueFor_7 (by decide))) (
  kc_case (P := P) (kc_se rfl sm_no) (
  kc_case (P := P) (kc_se rfl sm_no) (
  kc_case (P := P) (kc_se c_Fi_areTrueFor_4 (sm_cv (j := 93) rfl rfl kw_o kw_g wc_Fi_judge (Nat.le_of_ble_eq_true rfl) hd_Fi_judge (ci := 9) (F := kF_Fi) (N := 5) rfl (kw2 210 rfl rfl) wi_Fi_judge ws_Fi_judge wn_Fi_judge d_Fi_areTrueFor_4)) (
  kc_case (P := P) (kc_se c_Fi_areTrueFor_3 (sm_iconst d_Fi_areTrueFor_3 (by decide))) (
  kc_case (P := P) (kc_se c_Fi_areTrueFor_2 (sm_aload_n d_Fi_areTrueFor_2 rfl)) (
  kc_case (P := P) (kc_se c_Fi_areTrueFor_1 (sm_iconst d_Fi_areTrueFor_1 (by decide))) (
  kc_case (P := P) (kc_se c_Fi_areTrueFor_0 (sm_aload_n d_Fi_areTrueFor_0 rfl)) (
  kc_case0)))))))))))))))))
theorem ka_nth_no_Fi_areTrueFor (pc : Nat) (h : 17 ≤ pc) : ct_Fi_areTrueFor pc = ka_no := ka_nth_ge _ pc (Nat.le_trans (Nat.le_of_eq (by rfl)) h)
theorem s_Fi_areTrueFor (pc : Nat) : kc_Sim kt kw_A kw_N kt_cl kt_En "DirectoryDesk$Filters" prog_4_method_3_code 2 (some .boolean) "areTrueFor" none pc (ct_Fi_areTrueFor pc) := (Nat.lt_or_ge pc 17).elim (s_Fi_areTrueFor_17 pc) (fun h => kc_se (ka_nth_no_Fi_areTrueFor pc h) sm_no)
def cl_Fi_readOne_0 : List kc_A := [ka_il 2 1, ka_ci (nI 6) 2, ka_no, ka_cm (fun x y => y < x) 15, ka_no, ka_no, ka_al 0 1, ka_get 9 4, ka_no, ka_no, ka_ci (nI 20) 2, ka_no, ka_cm (fun x y => x < y) 21, ka_no, ka_no, ka_al 1 1, ka_ci (nI 1) 1, ka_put 1 4 .boolean, ka_no, ka_no, ka_ret, ka_al 0 1, ka_get 9 4, ka_no, ka_no, ka_is 3 1, ka_al 0 1, ka_dup, ka_get 9 4, ka_no, ka_no, ka_ci (nI 1) 1, ka_ii (fun x y => x + y), ka_put 9 4 .int, ka_no, ka_no, ka_al 0 1, ka_get 9 0, ka_no, ka_no, ka_il 3 1, ka_al 1 1, ka_cv 32 0 1 0 0, ka_no, ka_no, ka_iast, ka_al 0 1, ka_get 9 0, ka_no, ka_no, ka_il 3 1, ka_iald, ka_sw (fun x => if x = nI 135 then 139 else if x = nI 160 then 120 else if x = nI 161 then 120 else if x = nI 162 then 120 else if x = nI 163 then 130 else if x = nI 165 then 130 else if x = nI 166 then 130 else 159), ka_no, ka_no, ka_no, ka_no, ka_no, ka_no, ka_no]
def cl_Fi_readOne_1 : List kc_A := [ka_no, ka_no, ka_no, ka_no, ka_no, ka_no, ka_no, ka_no, ka_no, ka_no, ka_no, ka_no, ka_no, ka_no, ka_no, ka_no, ka_no, ka_no, ka_no, ka_no, ka_no, ka_no, ka_no, ka_no, ka_no, ka_no, ka_no, ka_no, ka_no, ka_no, ka_no, ka_no, ka_no, ka_no, ka_no, ka_no, ka_no, ka_no, ka_no, ka_no, ka_no, ka_no, ka_no, ka_no, ka_no, ka_no, ka_no, ka_no, ka_no, ka_no, ka_no, ka_no, ka_no, ka_no, ka_no, ka_no, ka_no, ka_no, ka_no, ka_no]
def cl_Fi_readOne_2 : List kc_A := [ka_al 0 1, ka_al 1 1, ka_il 3 1, ka_il 2 1, ka_cv 91 3 9 0 0, ka_no, ka_no, ka_goto 164, ka_no, ka_no, ka_al 0 1, ka_al 1 1, ka_il 3 1, ka_cv 92 2 9 0 0, ka_no, ka_no, ka_goto 164, ka_no, ka_no, ka_al 1 1, ka_ci (nI 135) 3, ka_no, ka_no, ka_cv 37 1 1 0 0, ka_no, ka_no, ka_al 0 1, ka_get 9 1, ka_no, ka_no, ka_il 3 1, ka_al 1 1, ka_cv 39 0 1 0 0, ka_no, ka_no, ka_iast, ka_goto 164, ka_no, ka_no, ka_al 1 1, ka_ci (nI 1) 1, ka_put 1 4 .boolean, ka_no, ka_no, ka_al 0 1, ka_get 9 3, ka_no, ka_no, ka_il 3 1, ka_al 0 1, ka_get 9 4, ka_no, ka_no, ka_iast, ka_ret]
def ct_Fi_readOne : Nat → kc_A := fun pc => ka_nth (cl_Fi_readOne_0 ++ (cl_Fi_readOne_1 ++ (cl_Fi_readOne_2))) pc
set_option maxRecDepth 100000 in
theorem c_Fi_readOne_0 : ct_Fi_readOne 0 = ka_il 2 1 := rfl
theorem d_Fi_readOne_0 : decode prog_4_method_4_code 0 = .ok (.iload_n 2, 1) := by decide +kernel
set_option maxRecDepth 100000 in
theorem c_Fi_readOne_1 : ct_Fi_readOne 1 = ka_ci (nI 6) 2 := rfl
theorem d_Fi_readOne_1 : decode prog_4_method_4_code 1 = .ok (.bipush 6, 2) := by decide +kernel
set_option maxRecDepth 100000 in
theorem c_Fi_readOne_3 : ct_Fi_readOne 3 = ka_cm (fun x y => y < x) 15 := rfl
theorem d_Fi_readOne_3 : decode prog_4_method_4_code 3 = .ok (.if_icmp .gt 12, 3) := by decide +kernel
set_option maxRecDepth 100000 in
theorem c_Fi_readOne_6 : ct_Fi_readOne 6 = ka_al 0 1 := rfl
theorem d_Fi_readOne_6 : decode prog_4_method_4_code 6 = .ok (.aload_n 0, 1) := by decide +kernel
set_option maxRecDepth 100000 in
theorem c_Fi_readOne_7 : ct_Fi_readOne 7 = ka_get 9 4 := rfl
theorem d_Fi_readOne_7 : decode prog_4_method_4_code 7 = .ok (.getfield 25, 3) := by decide +kernel
set_option maxRecDepth 100000 in
theorem c_Fi_readOne_10 : ct_Fi_readOne 10 = ka_ci (nI 20) 2 := rfl
theorem d_Fi_readOne_10 : decode prog_4_method_4_code 10 = .ok (.bipush 20, 2) := by decide +kernel
set_option maxRecDepth 100000 in
theorem c_Fi_readOne_12 : ct_Fi_readOne 12 = ka_cm (fun x y => x < y) 21 := rfl
theorem d_Fi_readOne_12 : decode prog_4_method_4_code 12 = .ok (.if_icmp .lt 9, 3) := by decide +kernel
set_option maxRecDepth 100000 in
theorem c_Fi_readOne_15 : ct_Fi_readOne 15 = ka_al 1 1 := rfl
theorem d_Fi_readOne_15 : decode prog_4_method_4_code 15 = .ok (.aload_n 1, 1) := by decide +kernel
set_option maxRecDepth 100000 in
theorem c_Fi_readOne_16 : ct_Fi_readOne 16 = ka_ci (nI 1) 1 := rfl
theorem d_Fi_readOne_16 : decode prog_4_method_4_code 16 = .ok (.iconst 1, 1) := by decide +kernel
set_option maxRecDepth 100000 in
theorem c_Fi_readOne_17 : ct_Fi_readOne 17 = ka_put 1 4 .boolean := rfl
theorem d_Fi_readOne_17 : decode prog_4_method_4_code 17 = .ok (.putfield 37, 3) := by decide +kernel
set_option maxRecDepth 100000 in
theorem c_Fi_readOne_20 : ct_Fi_readOne 20 = ka_ret := rfl
theorem d_Fi_readOne_20 : decode prog_4_method_4_code 20 = .ok (.return_, 1) := by decide +kernel
set_option maxRecDepth 100000 in
theorem c_Fi_readOne_21 : ct_Fi_readOne 21 = ka_al 0 1 := rfl
theorem d_Fi_readOne_21 : decode prog_4_method_4_code 21 = .ok (.aload_n 0, 1) := by decide +kernel
set_option maxRecDepth 100000 in
theorem c_Fi_readOne_22 : ct_Fi_readOne 22 = ka_get 9 4 := rfl
theorem d_Fi_readOne_22 : decode prog_4_method_4_code 22 = .ok (.getfield 25, 3) := by decide +kernel
set_option maxRecDepth 100000 in
theorem c_Fi_readOne_25 : ct_Fi_readOne 25 = ka_is 3 1 := rfl
theorem d_Fi_readOne_25 : decode prog_4_method_4_code 25 = .ok (.istore_n 3, 1) := by decide +kernel
set_option maxRecDepth 100000 in
theorem c_Fi_readOne_26 : ct_Fi_readOne 26 = ka_al 0 1 := rfl
theorem d_Fi_readOne_26 : decode prog_4_method_4_code 26 = .ok (.aload_n 0, 1) := by decide +kernel
set_option maxRecDepth 100000 in
theorem c_Fi_readOne_27 : ct_Fi_readOne 27 = ka_dup := rfl
theorem d_Fi_readOne_27 : decode prog_4_method_4_code 27 = .ok (.dup, 1) := by decide +kernel
set_option maxRecDepth 100000 in
theorem c_Fi_readOne_28 : ct_Fi_readOne 28 = ka_get 9 4 := rfl
theorem d_Fi_readOne_28 : decode prog_4_method_4_code 28 = .ok (.getfield 25, 3) := by decide +kernel
set_option maxRecDepth 100000 in
theorem c_Fi_readOne_31 : ct_Fi_readOne 31 = ka_ci (nI 1) 1 := rfl
theorem d_Fi_readOne_31 : decode prog_4_method_4_code 31 = .ok (.iconst 1, 1) := by decide +kernel
set_option maxRecDepth 100000 in
theorem c_Fi_readOne_32 : ct_Fi_readOne 32 = ka_ii (fun x y => x + y) := rfl
theorem d_Fi_readOne_32 : decode prog_4_method_4_code 32 = .ok (.iadd, 1) := by decide +kernel
set_option maxRecDepth 100000 in
theorem c_Fi_readOne_33 : ct_Fi_readOne 33 = ka_put 9 4 .int := rfl
theorem d_Fi_readOne_33 : decode prog_4_method_4_code 33 = .ok (.putfield 25, 3) := by decide +kernel
set_option maxRecDepth 100000 in
theorem c_Fi_readOne_36 : ct_Fi_readOne 36 = ka_al 0 1 := rfl
theorem d_Fi_readOne_36 : decode prog_4_method_4_code 36 = .ok (.aload_n 0, 1) := by decide +kernel
set_option maxRecDepth 100000 in
theorem c_Fi_readOne_37 : ct_Fi_readOne 37 = ka_get 9 0 := rfl
theorem d_Fi_readOne_37 : decode prog_4_method_4_code 37 = .ok (.getfield 9, 3) := by decide +kernel
set_option maxRecDepth 100000 in
theorem c_Fi_readOne_40 : ct_Fi_readOne 40 = ka_il 3 1 := rfl
theorem d_Fi_readOne_40 : decode prog_4_method_4_code 40 = .ok (.iload_n 3, 1) := by decide +kernel
set_option maxRecDepth 100000 in
theorem c_Fi_readOne_41 : ct_Fi_readOne 41 = ka_al 1 1 := rfl
theorem d_Fi_readOne_41 : decode prog_4_method_4_code 41 = .ok (.aload_n 1, 1) := by decide +kernel
set_option maxRecDepth 100000 in
theorem c_Fi_readOne_42 : ct_Fi_readOne 42 = ka_cv 32 0 1 0 0 := rfl
theorem d_Fi_readOne_42 : decode prog_4_method_4_code 42 = .ok (.invokevirtual 43, 3) := by decide +kernel
set_option maxRecDepth 100000 in
theorem c_Fi_readOne_45 : ct_Fi_readOne 45 = ka_iast := rfl
theorem d_Fi_readOne_45 : decode prog_4_method_4_code 45 = .ok (.iastore, 1) := by decide +kernel
set_option maxRecDepth 100000 in
theorem c_Fi_readOne_46 : ct_Fi_readOne 46 = ka_al 0 1 := rfl
theorem d_Fi_readOne_46 : decode prog_4_method_4_code 46 = .ok (.aload_n 0, 1) := by decide +kernel
set_option maxRecDepth 100000 in
theorem c_Fi_readOne_47 : ct_Fi_readOne 47 = ka_get 9 0 := rfl
theorem d_Fi_readOne_47 : decode prog_4_method_4_code 47 = .ok (.getfield 9, 3) := by decide +kernel
set_option maxRecDepth 100000 in
theorem c_Fi_readOne_50 : ct_Fi_readOne 50 = ka_il 3 1 := rfl
theorem d_Fi_readOne_50 : decode prog_4_method_4_code 50 = .ok (.iload_n 3, 1) := by decide +kernel
set_option maxRecDepth 100000 in
theorem c_Fi_readOne_51 : ct_Fi_readOne 51 = ka_iald := rfl
theorem d_Fi_readOne_51 : decode prog_4_method_4_code 51 = .ok (.iaload, 1) := by decide +kernel
set_option maxRecDepth 100000 in
theorem c_Fi_readOne_52 : ct_Fi_readOne 52 = ka_sw (fun x => if x = nI 135 then 139 else if x = nI 160 then 120 else if x = nI 161 then 120 else if x = nI 162 then 120 else if x = nI 163 then 130 else if x = nI 165 then 130 else if x = nI 166 then 130 else 159) := rfl
theorem d_Fi_readOne_52 : decode prog_4_method_4_code 52 = .ok (.lookupswitch 107 #[(135, 87), (160, 68), (161, 68), (162, 68), (163, 78), (165, 78), (166, 78)], 68) := by decide +kernel
set_option maxRecDepth 100000 in
theorem c_Fi_readOne_120 : ct_Fi_readOne 120 = ka_al 0 1 := rfl
theorem d_Fi_readOne_120 : decode prog_4_method_4_code 120 = .ok (.aload_n 0, 1) := by decide +kernel
set_option maxRecDepth 100000 in
theorem c_Fi_readOne_121 : ct_Fi_readOne 121 = ka_al 1 1 := rfl
theorem d_Fi_readOne_121 : decode prog_4_method_4_code 121 = .ok (.aload_n 1, 1) := by decide +kernel
set_option maxRecDepth 100000 in
theorem c_Fi_readOne_122 : ct_Fi_readOne 122 = ka_il 3 1 := rfl
theorem d_Fi_readOne_122 : decode prog_4_method_4_code 122 = .ok (.iload_n 3, 1) := by decide +kernel
set_option maxRecDepth 100000 in
theorem c_Fi_readOne_123 : ct_Fi_readOne 123 = ka_il 2 1 := rfl
theorem d_Fi_readOne_123 : decode prog_4_method_4_code 123 = .ok (.iload_n 2, 1) := by decide +kernel
set_option maxRecDepth 100000 in
theorem c_Fi_readOne_124 : ct_Fi_readOne 124 = ka_cv 91 3 9 0 0 := rfl
theorem d_Fi_readOne_124 : decode prog_4_method_4_code 124 = .ok (.invokevirtual 47, 3) := by decide +kernel
set_option maxRecDepth 100000 in
theorem c_Fi_readOne_127 : ct_Fi_readOne 127 = ka_goto 164 := rfl
theorem d_Fi_readOne_127 : decode prog_4_method_4_code 127 = .ok (.goto 37, 3) := by decide +kernel
set_option maxRecDepth 100000 in
theorem c_Fi_readOne_130 : ct_Fi_readOne 130 = ka_al 0 1 := rfl
theorem d_Fi_readOne_130 : decode prog_4_method_4_code 130 = .ok (.aload_n 0, 1) := by decide +kernel
set_option maxRecDepth 100000 in
theorem c_Fi_readOne_131 : ct_Fi_readOne 131 = ka_al 1 1 := rfl
theorem d_Fi_readOne_131 : decode prog_4_method_4_code 131 = .ok (.aload_n 1, 1) := by decide +kernel
set_option maxRecDepth 100000 in
theorem c_Fi_readOne_132 : ct_Fi_readOne 132 = ka_il 3 1 := rfl
theorem d_Fi_readOne_132 : decode prog_4_method_4_code 132 = .ok (.iload_n 3, 1) := by decide +kernel
set_option maxRecDepth 100000 in
theorem c_Fi_readOne_133 : ct_Fi_readOne 133 = ka_cv 92 2 9 0 0 := rfl
theorem d_Fi_readOne_133 : decode prog_4_method_4_code 133 = .ok (.invokevirtual 51, 3) := by decide +kernel
set_option maxRecDepth 100000 in
theorem c_Fi_readOne_136 : ct_Fi_readOne 136 = ka_goto 164 := rfl
theorem d_Fi_readOne_136 : decode prog_4_method_4_code 136 = .ok (.goto 28, 3) := by decide +kernel
set_option maxRecDepth 100000 in
theorem c_Fi_readOne_139 : ct_Fi_readOne 139 = ka_al 1 1 := rfl
theorem d_Fi_readOne_139 : decode prog_4_method_4_code 139 = .ok (.aload_n 1, 1) := by decide +kernel
set_option maxRecDepth 100000 in
theorem c_Fi_readOne_140 : ct_Fi_readOne 140 = ka_ci (nI 135) 3 := rfl
theorem d_Fi_readOne_140 : decode prog_4_method_4_code 140 = .ok (.sipush 135, 3) := by decide +kernel
set_option maxRecDepth 100000 in
theorem c_Fi_readOne_143 : ct_Fi_readOne 143 = ka_cv 37 1 1 0 0 := rfl
theorem d_Fi_readOne_143 : decode prog_4_method_4_code 143 = .ok (.invokevirtual 54, 3) := by decide +kernel
set_option maxRecDepth 100000 in
theorem c_Fi_readOne_146 : ct_Fi_readOne 146 = ka_al 0 1 := rfl
theorem d_Fi_readOne_146 : decode prog_4_method_4_code 146 = .ok (.aload_n 0, 1) := by decide +kernel
set_option maxRecDepth 100000 in
theorem c_Fi_readOne_147 : ct_Fi_readOne 147 = ka_get 9 1 := rfl
theorem d_Fi_readOne_147 : decode prog_4_method_4_code 147 = .ok (.getfield 15, 3) := by decide +kernel
set_option maxRecDepth 100000 in
theorem c_Fi_readOne_150 : ct_Fi_readOne 150 = ka_il 3 1 := rfl
theorem d_Fi_readOne_150 : decode prog_4_method_4_code 150 = .ok (.iload_n 3, 1) := by decide +kernel
set_option maxRecDepth 100000 in
theorem c_Fi_readOne_151 : ct_Fi_readOne 151 = ka_al 1 1 := rfl
theorem d_Fi_readOne_151 : decode prog_4_method_4_code 151 = .ok (.aload_n 1, 1) := by decide +kernel
set_option maxRecDepth 100000 in
theorem c_Fi_readOne_152 : ct_Fi_readOne 152 = ka_cv 39 0 1 0 0 := rfl
theorem d_Fi_readOne_152 : decode prog_4_method_4_code 152 = .ok (.invokevirtual 58, 3) := by decide +kernel
set_option maxRecDepth 100000 in
theorem c_Fi_readOne_155 : ct_Fi_readOne 155 = ka_iast := rfl
theorem d_Fi_readOne_155 : decode prog_4_method_4_code 155 = .ok (.iastore, 1) := by decide +kernel
set_option maxRecDepth 100000 in
theorem c_Fi_readOne_156 : ct_Fi_readOne 156 = ka_goto 164 := rfl
theorem d_Fi_readOne_156 : decode prog_4_method_4_code 156 = .ok (.goto 8, 3) := by decide +kernel
set_option maxRecDepth 100000 in
theorem c_Fi_readOne_159 : ct_Fi_readOne 159 = ka_al 1 1 := rfl
theorem d_Fi_readOne_159 : decode prog_4_method_4_code 159 = .ok (.aload_n 1, 1) := by decide +kernel
set_option maxRecDepth 100000 in
theorem c_Fi_readOne_160 : ct_Fi_readOne 160 = ka_ci (nI 1) 1 := rfl
theorem d_Fi_readOne_160 : decode prog_4_method_4_code 160 = .ok (.iconst 1, 1) := by decide +kernel
set_option maxRecDepth 100000 in
theorem c_Fi_readOne_161 : ct_Fi_readOne 161 = ka_put 1 4 .boolean := rfl
theorem d_Fi_readOne_161 : decode prog_4_method_4_code 161 = .ok (.putfield 37, 3) := by decide +kernel
set_option maxRecDepth 100000 in
theorem c_Fi_readOne_164 : ct_Fi_readOne 164 = ka_al 0 1 := rfl
theorem d_Fi_readOne_164 : decode prog_4_method_4_code 164 = .ok (.aload_n 0, 1) := by decide +kernel
set_option maxRecDepth 100000 in
theorem c_Fi_readOne_165 : ct_Fi_readOne 165 = ka_get 9 3 := rfl
theorem d_Fi_readOne_165 : decode prog_4_method_4_code 165 = .ok (.getfield 22, 3) := by decide +kernel
set_option maxRecDepth 100000 in
theorem c_Fi_readOne_168 : ct_Fi_readOne 168 = ka_il 3 1 := rfl
theorem d_Fi_readOne_168 : decode prog_4_method_4_code 168 = .ok (.iload_n 3, 1) := by decide +kernel
set_option maxRecDepth 100000 in
theorem c_Fi_readOne_169 : ct_Fi_readOne 169 = ka_al 0 1 := rfl
theorem d_Fi_readOne_169 : decode prog_4_method_4_code 169 = .ok (.aload_n 0, 1) := by decide +kernel
set_option maxRecDepth 100000 in
theorem c_Fi_readOne_170 : ct_Fi_readOne 170 = ka_get 9 4 := rfl
theorem d_Fi_readOne_170 : decode prog_4_method_4_code 170 = .ok (.getfield 25, 3) := by decide +kernel
set_option maxRecDepth 100000 in
theorem c_Fi_readOne_173 : ct_Fi_readOne 173 = ka_iast := rfl
theorem d_Fi_readOne_173 : decode prog_4_method_4_code 173 = .ok (.iastore, 1) := by decide +kernel
set_option maxRecDepth 100000 in
theorem c_Fi_readOne_174 : ct_Fi_readOne 174 = ka_ret := rfl
theorem d_Fi_readOne_174 : decode prog_4_method_4_code 174 = .ok (.return_, 1) := by decide +kernel
set_option maxRecDepth 100000 in
set_option maxHeartbeats 4000000 in
theorem s_Fi_readOne_60 : ∀ pc, pc < 60 → kc_Sim kt kw_A kw_N kt_cl kt_En "DirectoryDesk$Filters" prog_4_method_4_code 4 (none) "readOne" none pc (ct_Fi_readOne pc) := by
  let P : Nat → Prop := fun pc => kc_Sim kt kw_A kw_N kt_cl kt_En "DirectoryDesk$Filters" prog_4_method_4_code 4 (none) "readOne" none pc (ct_Fi_readOne pc)
  exact kc_case (P := P) (kc_se rfl sm_no) (
  kc_case (P := P) (kc_se rfl sm_no) (
  kc_case (P := P) (kc_se rfl sm_no) (
  kc_case (P := P) (kc_se rfl sm_no) (
  kc_case (P := P) (kc_se rfl sm_no) (
  kc_case (P := P) (kc_se rfl sm_no) (
  kc_case (P := P) (kc_se rfl sm_no) (
  kc_case (P := P) (kc_se c_Fi_readOne_52 (sm_lsw d_Fi_readOne_52 (by decide +kernel) (by
    intro x
    by_cases h135 : x = nI 135
    · subst h135; decide +kernel
    by_cases h160 : x = nI 160
    · subst h160; decide +kernel
    by_cases h161 : x = nI 161
    · subst h161; decide +kernel
    by_cases h162 : x = nI 162
    · subst h162; decide +kernel
    by_cases h163 : x = nI 163
    · subst h163; decide +kernel
    by_cases h165 : x = nI 165
    · subst h165; decide +kernel
    by_cases h166 : x = nI 166
    · subst h166; decide +kernel
    rw [lv_osw h135 (by decide +kernel), lv_osw h160 (by decide +kernel), lv_osw h161 (by decide +kernel), lv_osw h162 (by decide +kernel), lv_osw h163 (by decide +kernel), lv_osw h165 (by decide +kernel), lv_osw h166 (by decide +kernel)]
    show _ = ((if x = nI 135 then 139 else if x = nI 160 then 120 else if x = nI 161 then 120 else if x = nI 162 then 120 else if x = nI 163 then 130 else if x = nI 165 then 130 else if x = nI 166 then 130 else 159 : Nat) : Int)
    rw [if_neg h135, if_neg h160, if_neg h161, if_neg h162, if_neg h163, if_neg h165, if_neg h166]
    show ((52 : Nat) : Int) + 107 = ((159 : Nat) : Int)
    decide))) (
  kc_case (P := P) (kc_se c_Fi_readOne_51 (sm_iald d_Fi_readOne_51)) (
  kc_case (P := P) (kc_se c_Fi_readOne_50 (sm_iload_n d_Fi_readOne_50 rfl)) (
  kc_case (P := P) (kc_se rfl sm_no) (
  kc_case (P := P) (kc_se rfl sm_no) (
  kc_case (P := P) (kc_se c_Fi_readOne_47 (sm_get (ci := 9) (C := "DirectoryDesk$Filters") (F := kF_Fi) rfl kin_Fi (Nat.le_of_ble_eq_true rfl) d_Fi_readOne_47 (kw1 222 rfl rfl))) (
  kc_case (P := P) (kc_se c_Fi_readOne_46 (sm_aload_n d_Fi_readOne_46 rfl)) (
  kc_case (P := P) (kc_se c_Fi_readOne_45 (sm_iast d_Fi_readOne_45)) (
  kc_case (P := P) (kc_se rfl sm_no) (
  kc_case (P := P) (kc_se rfl sm_no) (
  kc_case (P := P) (kc_se c_Fi_readOne_42 (sm_cv (j := 32) rfl rfl kw_o kw_g wc_Rd_nextTag (Nat.le_of_ble_eq_true rfl) hd_Rd_nextTag (ci := 1) (F := kF_Rd) (N := 8) rfl (kw2 169 rfl rfl) wi_Rd_nextTag ws_Rd_nextTag wn_Rd_nextTag d_Fi_readOne_42)) (
  kc_case (P := P) (kc_se c_Fi_readOne_41 (sm_aload_n d_Fi_readOne_41 rfl)) (
  kc_case (P := P) (kc_se c_Fi_readOne_40 (sm_iload_n d_Fi_readOne_40 rfl)) (
  kc_case (P := P) (kc_se rfl sm_no) (
  kc_case (P := P) (kc_se rfl sm_no) (
  kc_case (P := P) (kc_se c_Fi_readOne_37 (sm_get (ci := 9) (C := "DirectoryDesk$Filters") (F := kF_Fi) rfl kin_Fi (Nat.le_of_ble_eq_true rfl) d_Fi_readOne_37 (kw1 222 rfl rfl))) (
  kc_case (P := P) (kc_se c_Fi_readOne_36 (sm_aload_n d_Fi_readOne_36 rfl)) (
  kc_case (P := P) (kc_se rfl sm_no) (
  kc_case (P := P) (kc_se rfl sm_no) (
  kc_case (P := P) (kc_se c_Fi_readOne_33 (sm_put (ci := 9) (C := "DirectoryDesk$Filters") (F := kF_Fi) rfl kin_Fi kty_Fi ktk_Fi knm_Fi (Nat.le_of_ble_eq_true rfl) (by decide +kernel) d_Fi_readOne_33 (kw1 226 rfl rfl) rfl)) (
  kc_case (P := P) (kc_se c_Fi_readOne_32 (sm_iadd d_Fi_readOne_32)) (
  kc_case (P := P) (kc_se c_Fi_readOne_31 (sm_iconst d_Fi_readOne_31 (by decide))) (
  kc_case (P := P) (kc_se rfl sm_no) (
  kc_case (P := P) (kc_se rfl sm_no) (
  kc_case (P := P) (kc_se c_Fi_readOne_28 (sm_get (ci := 9) (C := "DirectoryDesk$Filters") (F := kF_Fi) rfl kin_Fi (Nat.le_of_ble_eq_true rfl) d_Fi_readOne_28 (kw1 226 rfl rfl))) (
  kc_case (P := P) (kc_se c_Fi_readOne_27 (sm_dup d_Fi_readOne_27)) (
  kc_case (P := P) (kc_se c_Fi_readOne_26 (sm_aload_n d_Fi_readOne_26 rfl)) (
  kc_case (P := P) (kc_se c_Fi_readOne_25 (sm_istore_n d_Fi_readOne_25 rfl (Nat.le_of_ble_eq_true rfl))) (
  kc_case (P := P) (kc_se rfl sm_no) (
  kc_case (P := P) (kc_se rfl sm_no) (
  kc_case (P := P) (kc_se c_Fi_readOne_22 (sm_get (ci := 9) (C := "DirectoryDesk$Filters") (F := kF_Fi) rfl kin_Fi (Nat.le_of_ble_eq_true rfl) d_Fi_readOne_22 (kw1 226 rfl rfl))) (
  kc_case (P := P) (kc_se c_Fi_readOne_21 (sm_aload_n d_Fi_readOne_21 rfl)) (
  kc_case (P := P) (kc_se c_Fi_readOne_20 (sm_ret d_Fi_readOne_20 rfl)) (
  kc_case (P := P) (kc_se rfl sm_no) (
  kc_case (P := P) (kc_se rfl sm_no) (
  kc_case (P := P) (kc_se c_Fi_readOne_17 (sm_put (ci := 1) (C := "DirectoryDesk$Reader") (F := kF_Rd) rfl kin_Rd kty_Rd ktk_Rd knm_Rd (Nat.le_of_ble_eq_true rfl) (by decide +kernel) d_Fi_readOne_17 (kw1 36 rfl rfl) rfl)) (
  kc_case (P := P) (kc_se c_Fi_readOne_16 (sm_iconst d_Fi_readOne_16 (by decide))) (
  kc_case (P := P) (kc_se c_Fi_readOne_15 (sm_aload_n d_Fi_readOne_15 rfl)) (
  kc_case (P := P) (kc_se rfl sm_no) (
  kc_case (P := P) (kc_se rfl sm_no) (
  kc_case (P := P) (kc_se c_Fi_readOne_12 (sm_cm_lt d_Fi_readOne_12 (by decide))) (
  kc_case (P := P) (kc_se rfl sm_no) (
  kc_case (P := P) (kc_se c_Fi_readOne_10 (sm_bipush d_Fi_readOne_10 (by decide))) (
  kc_case (P := P) (kc_se rfl sm_no) (
  kc_case (P := P) (kc_se rfl sm_no) (
  kc_case (P := P) (kc_se c_Fi_readOne_7 (sm_get (ci := 9) (C := "DirectoryDesk$Filters") (F := kF_Fi) rfl kin_Fi (Nat.le_of_ble_eq_true rfl) d_Fi_readOne_7 (kw1 226 rfl rfl))) (
  kc_case (P := P) (kc_se c_Fi_readOne_6 (sm_aload_n d_Fi_readOne_6 rfl)) (
  kc_case (P := P) (kc_se rfl sm_no) (
  kc_case (P := P) (kc_se rfl sm_no) (
  kc_case (P := P) (kc_se c_Fi_readOne_3 (sm_cm_gt d_Fi_readOne_3 (by decide))) (
  kc_case (P := P) (kc_se rfl sm_no) (
  kc_case (P := P) (kc_se c_Fi_readOne_1 (sm_bipush d_Fi_readOne_1 (by decide))) (
  kc_case (P := P) (kc_se c_Fi_readOne_0 (sm_iload_n d_Fi_readOne_0 rfl)) (
  kc_case0))))))))))))))))))))))))))))))))))))))))))))))))))))))))))))
set_option maxRecDepth 100000 in
set_option maxHeartbeats 4000000 in
theorem s_Fi_readOne_120 : ∀ pc, pc < 120 → kc_Sim kt kw_A kw_N kt_cl kt_En "DirectoryDesk$Filters" prog_4_method_4_code 4 (none) "readOne" none pc (ct_Fi_readOne pc) := by
  let P : Nat → Prop := fun pc => kc_Sim kt kw_A kw_N kt_cl kt_En "DirectoryDesk$Filters" prog_4_method_4_code 4 (none) "readOne" none pc (ct_Fi_readOne pc)
  exact kc_case (P := P) (kc_se rfl sm_no) (
  kc_case (P := P) (kc_se rfl sm_no) (
  kc_case (P := P) (kc_se rfl sm_no) (
  kc_case (P := P) (kc_se rfl sm_no) (
  kc_case (P := P) (kc_se rfl sm_no) (
  kc_case (P := P) (kc_se rfl sm_no) (
  kc_case (P := P) (kc_se rfl sm_no) (
  kc_case (P := P) (kc_se rfl sm_no) (
  kc_case (P := P) (kc_se rfl sm_no) (
  kc_case (P := P) (kc_se rfl sm_no) (
  kc_case (P := P) (kc_se rfl sm_no) (
  kc_case (P := P) (kc_se rfl sm_no) (
  kc_case (P := P) (kc_se rfl sm_no) (
  kc_case (P := P) (kc_se rfl sm_no) (
  kc_case (P := P) (kc_se rfl sm_no) (
  kc_case (P := P) (kc_se rfl sm_no) (
  kc_case (P := P) (kc_se rfl sm_no) (
  kc_case (P := P) (kc_se rfl sm_no) (
  kc_case (P := P) (kc_se rfl sm_no) (
  kc_case (P := P) (kc_se rfl sm_no) (
  kc_case (P := P) (kc_se rfl sm_no) (
  kc_case (P := P) (kc_se rfl sm_no) (
  kc_case (P := P) (kc_se rfl sm_no) (
  kc_case (P := P) (kc_se rfl sm_no) (
  kc_case (P := P) (kc_se rfl sm_no) (
  kc_case (P := P) (kc_se rfl sm_no) (
  kc_case (P := P) (kc_se rfl sm_no) (
  kc_case (P := P) (kc_se rfl sm_no) (
  kc_case (P := P) (kc_se rfl sm_no) (
  kc_case (P := P) (kc_se rfl sm_no) (
  kc_case (P := P) (kc_se rfl sm_no) (
  kc_case (P := P) (kc_se rfl sm_no) (
  kc_case (P := P) (kc_se rfl sm_no) (
  kc_case (P := P) (kc_se rfl sm_no) (
  kc_case (P := P) (kc_se rfl sm_no) (
  kc_case (P := P) (kc_se rfl sm_no) (
  kc_case (P := P) (kc_se rfl sm_no) (
  kc_case (P := P) (kc_se rfl sm_no) (
  kc_case (P := P) (kc_se rfl sm_no) (
  kc_case (P := P) (kc_se rfl sm_no) (
  kc_case (P := P) (kc_se rfl sm_no) (
  kc_case (P := P) (kc_se rfl sm_no) (
  kc_case (P := P) (kc_se rfl sm_no) (
  kc_case (P := P) (kc_se rfl sm_no) (
  kc_case (P := P) (kc_se rfl sm_no) (
  kc_case (P := P) (kc_se rfl sm_no) (
  kc_case (P := P) (kc_se rfl sm_no) (
  kc_case (P := P) (kc_se rfl sm_no) (
  kc_case (P := P) (kc_se rfl sm_no) (
  kc_case (P := P) (kc_se rfl sm_no) (
  kc_case (P := P) (kc_se rfl sm_no) (
  kc_case (P := P) (kc_se rfl sm_no) (
  kc_case (P := P) (kc_se rfl sm_no) (
  kc_case (P := P) (kc_se rfl sm_no) (
  kc_case (P := P) (kc_se rfl sm_no) (
  kc_case (P := P) (kc_se rfl sm_no) (
  kc_case (P := P) (kc_se rfl sm_no) (
  kc_case (P := P) (kc_se rfl sm_no) (
  kc_case (P := P) (kc_se rfl sm_no) (
  kc_case (P := P) (kc_se rfl sm_no) (
  s_Fi_readOne_60))))))))))))))))))))))))))))))))))))))))))))))))))))))))))))
set_option maxRecDepth 100000 in
set_option maxHeartbeats 4000000 in
theorem s_Fi_readOne_175 : ∀ pc, pc < 175 → kc_Sim kt kw_A kw_N kt_cl kt_En "DirectoryDesk$Filters" prog_4_method_4_code 4 (none) "readOne" none pc (ct_Fi_readOne pc) := by
  let P : Nat → Prop := fun pc => kc_Sim kt kw_A kw_N kt_cl kt_En "DirectoryDesk$Filters" prog_4_method_4_code 4 (none) "readOne" none pc (ct_Fi_readOne pc)
  exact kc_case (P := P) (kc_se c_Fi_readOne_174 (sm_ret d_Fi_readOne_174 rfl)) (
  kc_case (P := P) (kc_se c_Fi_readOne_173 (sm_iast d_Fi_readOne_173)) (
  kc_case (P := P) (kc_se rfl sm_no) (
  kc_case (P := P) (kc_se rfl sm_no) (
  kc_case (P := P) (kc_se c_Fi_readOne_170 (sm_get (ci := 9) (C := "DirectoryDesk$Filters") (F := kF_Fi) rfl kin_Fi (Nat.le_of_ble_eq_true rfl) d_Fi_readOne_170 (kw1 226 rfl rfl))) (
  kc_case (P := P) (kc_se c_Fi_readOne_169 (sm_aload_n d_Fi_readOne_169 rfl)) (
  kc_case (P := P) (kc_se c_Fi_readOne_168 (sm_iload_n d_Fi_readOne_168 rfl)) (
  kc_case (P := P) (kc_se rfl sm_no) (
  kc_case (P := P) (kc_se rfl sm_no) (
  kc_case (P := P) (kc_se c_Fi_readOne_165 (sm_get (ci := 9) (C := "DirectoryDesk$Filters") (F := kF_Fi) rfl kin_Fi (Nat.le_of_ble_eq_true rfl) d_Fi_readOne_165 (kw1 225 rfl rfl))) (
  kc_case (P := P) (kc_se c_Fi_readOne_164 (sm_aload_n d_Fi_readOne_164 rfl)) (
  kc_case (P := P) (kc_se rfl sm_no) (
  kc_case (P := P) (kc_se rfl sm_no) (
  kc_case (P := P) (kc_se c_Fi_readOne_161 (sm_put (ci := 1) (C := "DirectoryDesk$Reader") (F := kF_Rd) rfl kin_Rd kty_Rd ktk_Rd knm_Rd (Nat.le_of_ble_eq_true rfl) (by decide +kernel) d_Fi_readOne_161 (kw1 36 rfl rfl) rfl)) (
  kc_case (P := P) (kc_se c_Fi_readOne_160 (sm_iconst d_Fi_readOne_160 (by decide))) (
  kc_case (P := P) (kc_se c_Fi_readOne_159 (sm_aload_n d_Fi_readOne_159 rfl)) (
  kc_case (P := P) (kc_se rfl sm_no) (
  kc_case (P := P) (kc_se rfl sm_no) (
  kc_case (P := P) (kc_se c_Fi_readOne_156 (sm_goto d_Fi_readOne_156 (by decide))) (
  kc_case (P := P) (kc_se c_Fi_readOne_155 (sm_iast d_Fi_readOne_155)) (
  kc_case (P := P) (kc_se rfl sm_no) (
  kc_case (P := P) (kc_se rfl sm_no) (
  kc_case (P := P) (kc_se c_Fi_readOne_152 (sm_cv (j := 39) rfl rfl kw_o kw_g wc_Rd_spanType (Nat.le_of_ble_eq_true rfl) hd_Rd_spanType (ci := 1) (F := kF_Rd) (N := 8) rfl (kw2 182 rfl rfl) wi_Rd_spanType ws_Rd_spanType wn_Rd_spanType d_Fi_readOne_152)) (
  kc_case (P := P) (kc_se c_Fi_readOne_151 (sm_aload_n d_Fi_readOne_151 rfl)) (
  kc_case (P := P) (kc_se c_Fi_readOne_150 (sm_iload_n d_Fi_readOne_150 rfl)) (
  kc_case (P := P) (kc_se rfl sm_no) (
  kc_case (P := P) (kc_se rfl sm_no) (
  kc_case (P := P) (kc_se c_Fi_readOne_147 (sm_get (ci := 9) (C := "DirectoryDesk$Filters") (F := kF_Fi) rfl kin_Fi (Nat.le_of_ble_eq_true rfl) d_Fi_readOne_147 (kw1 223 rfl rfl))) (
  kc_case (P := P) (kc_se c_Fi_readOne_146 (sm_aload_n d_Fi_readOne_146 rfl)) (
  kc_case (P := P) (kc_se rfl sm_no) (
  kc_case (P := P) (kc_se rfl sm_no) (
  kc_case (P := P) (kc_se c_Fi_readOne_143 (sm_cv (j := 37) rfl rfl kw_o kw_g wc_Rd_span (Nat.le_of_ble_eq_true rfl) hd_Rd_span (ci := 1) (F := kF_Rd) (N := 8) rfl (kw2 181 rfl rfl) wi_Rd_span ws_Rd_span wn_Rd_span d_Fi_readOne_143)) (
  kc_case (P := P) (kc_se rfl sm_no) (
  kc_case (P := P) (kc_se rfl sm_no) (
  kc_case (P := P) (kc_se c_Fi_readOne_140 (sm_sipush d_Fi_readOne_140 (by decide))) (
  kc_case (P := P) (kc_se c_Fi_readOne_139 (sm_aload_n d_Fi_readOne_139 rfl)) (
  kc_case (P := P) (kc_se rfl sm_no) (
  kc_case (P := P) (kc_se rfl sm_no) (
  kc_case (P := P) (kc_se c_Fi_readOne_136 (sm_goto d_Fi_readOne_136 (by decide))) (
  kc_case (P := P) (kc_se rfl sm_no) (
  kc_case (P := P) (kc_se rfl sm_no) (
  kc_case (P := P) (kc_se c_Fi_readOne_133 (sm_cv (j := 92) rfl rfl kw_o kw_g wc_Fi_readPair (Nat.le_of_ble_eq_true rfl) hd_Fi_readPair (ci := 9) (F := kF_Fi) (N := 5) rfl (kw2 177 rfl rfl) wi_Fi_readPair ws_Fi_readPair wn_Fi_readPair d_Fi_readOne_133)) (
  kc_case (P := P) (kc_se c_Fi_readOne_132 (sm_iload_n d_Fi_readOne_132 rfl)) (
  kc_case (P := P) (kc_se c_Fi_readOne_131 (sm_aload_n d_Fi_readOne_131 rfl)) (
  kc_case (P := P) (kc_se c_Fi_readOne_130 (sm_aload_n d_Fi_readOne_130 rfl)) (
  kc_case (P := P) (kc_se rfl sm_no) (
  kc_case (P := P) (kc_se rfl sm_no) (
  kc_case (P := P) (kc_se c_Fi_readOne_127 (sm_goto d_Fi_readOne_127 (by decide))) (
  kc_case (P := P) (kc_se rfl sm_no) (
  kc_case (P := P) (kc_se rfl sm_no) (
  kc_case (P := P) (kc_se c_Fi_readOne_124 (sm_cv (j := 91) rfl rfl kw_o kw_g wc_Fi_readInner (Nat.le_of_ble_eq_true rfl) hd_Fi_readInner (ci := 9) (F := kF_Fi) (N := 5) rfl (kw2 170 rfl rfl) wi_Fi_readInner ws_Fi_readInner wn_Fi_readInner d_Fi_readOne_124)) (
  kc_case (P := P) (kc_se c_Fi_readOne_123 (sm_iload_n d_Fi_readOne_123 rfl)) (
  kc_case (P := P) (kc_se c_Fi_readOne_122 (sm_iload_n d_Fi_readOne_122 rfl)) (
  kc_case (P := P) (kc_se c_Fi_readOne_121 (sm_aload_n d_Fi_readOne_121 rfl)) (
  kc_case (P := P) (kc_se c_Fi_readOne_120 (sm_aload_n d_Fi_readOne_120 rfl)) (
  s_Fi_readOne_120)))))))))))))))))))))))))))))))))))))))))))))))))))))))
theorem ka_nth_no_Fi_readOne (pc : Nat) (h : 175 ≤ pc) : ct_Fi_readOne pc = ka_no := ka_nth_ge _ pc (Nat.le_trans (Nat.le_of_eq (by rfl)) h)
theorem s_Fi_readOne (pc : Nat) : kc_Sim kt kw_A kw_N kt_cl kt_En "DirectoryDesk$Filters" prog_4_method_4_code 4 (none) "readOne" none pc (ct_Fi_readOne pc) := (Nat.lt_or_ge pc 175).elim (s_Fi_readOne_175 pc) (fun h => kc_se (ka_nth_no_Fi_readOne pc h) sm_no)
def cl_Fi_readInner_0 : List kc_A := [ka_al 0 1, ka_get 9 0, ka_no, ka_no, ka_il 2 1, ka_iald, ka_ci (nI 162) 3, ka_no, ka_no, ka_cm (fun x y => ¬ x = y) 16, ka_no, ka_no, ka_ci (nI 1) 1, ka_goto 17, ka_no, ka_no, ka_ci (nI 0) 1, ka_is 4 2, ka_no, ka_al 1 1, ka_al 0 1, ka_get 9 0, ka_no, ka_no, ka_il 2 1, ka_iald, ka_cv 28 1 1 0 0, ka_no, ka_no, ka_is 5 2, ka_no, ka_il 4 2, ka_no, ka_if (fun x => x = 0) 48, ka_no, ka_no, ka_al 1 1, ka_cv 30 0 1 0 0, ka_no, ka_no, ka_if (fun x => ¬ x = 0) 48, ka_no, ka_no, ka_al 1 1, ka_ci (nI 1) 1, ka_put 1 4 .boolean, ka_no, ka_no, ka_il 4 2, ka_no, ka_if (fun x => x = 0) 57, ka_no, ka_no, ka_ci (nI 1) 1, ka_goto 59, ka_no, ka_no, ka_ci (nI 20) 2, ka_no, ka_is 6 2]
def cl_Fi_readInner_1 : List kc_A := [ka_no, ka_ci (nI 0) 1, ka_is 7 2, ka_no, ka_il 7 2, ka_no, ka_il 6 2, ka_no, ka_cm (fun x y => y ≤ x) 92, ka_no, ka_no, ka_al 1 1, ka_cv 30 0 1 0 0, ka_no, ka_no, ka_if (fun x => x = 0) 92, ka_no, ka_no, ka_al 0 1, ka_al 1 1, ka_il 3 1, ka_ci (nI 1) 1, ka_ii (fun x y => x + y), ka_cv 90 2 9 0 0, ka_no, ka_no, ka_inc 7 (nI 1), ka_no, ka_no, ka_goto 64, ka_no, ka_no, ka_al 1 1, ka_il 5 2, ka_no, ka_cv 29 1 1 0 0, ka_no, ka_no, ka_ret]
def ct_Fi_readInner : Nat → kc_A := fun pc => ka_nth (cl_Fi_readInner_0 ++ (cl_Fi_readInner_1)) pc
set_option maxRecDepth 100000 in
theorem c_Fi_readInner_0 : ct_Fi_readInner 0 = ka_al 0 1 := rfl
theorem d_Fi_readInner_0 : decode prog_4_method_5_code 0 = .ok (.aload_n 0, 1) := by decide +kernel
set_option maxRecDepth 100000 in
theorem c_Fi_readInner_1 : ct_Fi_readInner 1 = ka_get 9 0 := rfl
theorem d_Fi_readInner_1 : decode prog_4_method_5_code 1 = .ok (.getfield 9, 3) := by decide +kernel
set_option maxRecDepth 100000 in
theorem c_Fi_readInner_4 : ct_Fi_readInner 4 = ka_il 2 1 := rfl
theorem d_Fi_readInner_4 : decode prog_4_method_5_code 4 = .ok (.iload_n 2, 1) := by decide +kernel
set_option maxRecDepth 100000 in
theorem c_Fi_readInner_5 : ct_Fi_readInner 5 = ka_iald := rfl
theorem d_Fi_readInner_5 : decode prog_4_method_5_code 5 = .ok (.iaload, 1) := by decide +kernel
set_option maxRecDepth 100000 in
theorem c_Fi_readInner_6 : ct_Fi_readInner 6 = ka_ci (nI 162) 3 := rfl
theorem d_Fi_readInner_6 : decode prog_4_method_5_code 6 = .ok (.sipush 162, 3) := by decide +kernel
set_option maxRecDepth 100000 in
theorem c_Fi_readInner_9 : ct_Fi_readInner 9 = ka_cm (fun x y => ¬ x = y) 16 := rfl
theorem d_Fi_readInner_9 : decode prog_4_method_5_code 9 = .ok (.if_icmp .ne 7, 3) := by decide +kernel
set_option maxRecDepth 100000 in
theorem c_Fi_readInner_12 : ct_Fi_readInner 12 = ka_ci (nI 1) 1 := rfl
theorem d_Fi_readInner_12 : decode prog_4_method_5_code 12 = .ok (.iconst 1, 1) := by decide +kernel
set_option maxRecDepth 100000 in
theorem c_Fi_readInner_13 : ct_Fi_readInner 13 = ka_goto 17 := rfl
theorem d_Fi_readInner_13 : decode prog_4_method_5_code 13 = .ok (.goto 4, 3) := by decide +kernel
set_option maxRecDepth 100000 in
theorem c_Fi_readInner_16 : ct_Fi_readInner 16 = ka_ci (nI 0) 1 := rfl
theorem d_Fi_readInner_16 : decode prog_4_method_5_code 16 = .ok (.iconst 0, 1) := by decide +kernel
set_option maxRecDepth 100000 in
theorem c_Fi_readInner_17 : ct_Fi_readInner 17 = ka_is 4 2 := rfl
theorem d_Fi_readInner_17 : decode prog_4_method_5_code 17 = .ok (.istore 4, 2) := by decide +kernel
set_option maxRecDepth 100000 in
theorem c_Fi_readInner_19 : ct_Fi_readInner 19 = ka_al 1 1 := rfl
theorem d_Fi_readInner_19 : decode prog_4_method_5_code 19 = .ok (.aload_n 1, 1) := by decide +kernel
set_option maxRecDepth 100000 in
theorem c_Fi_readInner_20 : ct_Fi_readInner 20 = ka_al 0 1 := rfl
theorem d_Fi_readInner_20 : decode prog_4_method_5_code 20 = .ok (.aload_n 0, 1) := by decide +kernel
set_option maxRecDepth 100000 in
theorem c_Fi_readInner_21 : ct_Fi_readInner 21 = ka_get 9 0 := rfl
theorem d_Fi_readInner_21 : decode prog_4_method_5_code 21 = .ok (.getfield 9, 3) := by decide +kernel
set_option maxRecDepth 100000 in
theorem c_Fi_readInner_24 : ct_Fi_readInner 24 = ka_il 2 1 := rfl
theorem d_Fi_readInner_24 : decode prog_4_method_5_code 24 = .ok (.iload_n 2, 1) := by decide +kernel
set_option maxRecDepth 100000 in
theorem c_Fi_readInner_25 : ct_Fi_readInner 25 = ka_iald := rfl
theorem d_Fi_readInner_25 : decode prog_4_method_5_code 25 = .ok (.iaload, 1) := by decide +kernel
set_option maxRecDepth 100000 in
theorem c_Fi_readInner_26 : ct_Fi_readInner 26 = ka_cv 28 1 1 0 0 := rfl
theorem d_Fi_readInner_26 : decode prog_4_method_5_code 26 = .ok (.invokevirtual 61, 3) := by decide +kernel
set_option maxRecDepth 100000 in
theorem c_Fi_readInner_29 : ct_Fi_readInner 29 = ka_is 5 2 := rfl
theorem d_Fi_readInner_29 : decode prog_4_method_5_code 29 = .ok (.istore 5, 2) := by decide +kernel
set_option maxRecDepth 100000 in
theorem c_Fi_readInner_31 : ct_Fi_readInner 31 = ka_il 4 2 := rfl
theorem d_Fi_readInner_31 : decode prog_4_method_5_code 31 = .ok (.iload 4, 2) := by decide +kernel
set_option maxRecDepth 100000 in
theorem c_Fi_readInner_33 : ct_Fi_readInner 33 = ka_if (fun x => x = 0) 48 := rfl
theorem d_Fi_readInner_33 : decode prog_4_method_5_code 33 = .ok (.ifCond .eq 15, 3) := by decide +kernel
set_option maxRecDepth 100000 in
theorem c_Fi_readInner_36 : ct_Fi_readInner 36 = ka_al 1 1 := rfl
theorem d_Fi_readInner_36 : decode prog_4_method_5_code 36 = .ok (.aload_n 1, 1) := by decide +kernel
set_option maxRecDepth 100000 in
theorem c_Fi_readInner_37 : ct_Fi_readInner 37 = ka_cv 30 0 1 0 0 := rfl
theorem d_Fi_readInner_37 : decode prog_4_method_5_code 37 = .ok (.invokevirtual 65, 3) := by decide +kernel
set_option maxRecDepth 100000 in
theorem c_Fi_readInner_40 : ct_Fi_readInner 40 = ka_if (fun x => ¬ x = 0) 48 := rfl
theorem d_Fi_readInner_40 : decode prog_4_method_5_code 40 = .ok (.ifCond .ne 8, 3) := by decide +kernel
set_option maxRecDepth 100000 in
theorem c_Fi_readInner_43 : ct_Fi_readInner 43 = ka_al 1 1 := rfl
theorem d_Fi_readInner_43 : decode prog_4_method_5_code 43 = .ok (.aload_n 1, 1) := by decide +kernel
set_option maxRecDepth 100000 in
theorem c_Fi_readInner_44 : ct_Fi_readInner 44 = ka_ci (nI 1) 1 := rfl
theorem d_Fi_readInner_44 : decode prog_4_method_5_code 44 = .ok (.iconst 1, 1) := by decide +kernel
set_option maxRecDepth 100000 in
theorem c_Fi_readInner_45 : ct_Fi_readInner 45 = ka_put 1 4 .boolean := rfl
theorem d_Fi_readInner_45 : decode prog_4_method_5_code 45 = .ok (.putfield 37, 3) := by decide +kernel
set_option maxRecDepth 100000 in
theorem c_Fi_readInner_48 : ct_Fi_readInner 48 = ka_il 4 2 := rfl
theorem d_Fi_readInner_48 : decode prog_4_method_5_code 48 = .ok (.iload 4, 2) := by decide +kernel
set_option maxRecDepth 100000 in
theorem c_Fi_readInner_50 : ct_Fi_readInner 50 = ka_if (fun x => x = 0) 57 := rfl
theorem d_Fi_readInner_50 : decode prog_4_method_5_code 50 = .ok (.ifCond .eq 7, 3) := by decide +kernel
set_option maxRecDepth 100000 in
theorem c_Fi_readInner_53 : ct_Fi_readInner 53 = ka_ci (nI 1) 1 := rfl
theorem d_Fi_readInner_53 : decode prog_4_method_5_code 53 = .ok (.iconst 1, 1) := by decide +kernel
set_option maxRecDepth 100000 in
theorem c_Fi_readInner_54 : ct_Fi_readInner 54 = ka_goto 59 := rfl
theorem d_Fi_readInner_54 : decode prog_4_method_5_code 54 = .ok (.goto 5, 3) := by decide +kernel
set_option maxRecDepth 100000 in
theorem c_Fi_readInner_57 : ct_Fi_readInner 57 = ka_ci (nI 20) 2 := rfl
theorem d_Fi_readInner_57 : decode prog_4_method_5_code 57 = .ok (.bipush 20, 2) := by decide +kernel
set_option maxRecDepth 100000 in
theorem c_Fi_readInner_59 : ct_Fi_readInner 59 = ka_is 6 2 := rfl
theorem d_Fi_readInner_59 : decode prog_4_method_5_code 59 = .ok (.istore 6, 2) := by decide +kernel
set_option maxRecDepth 100000 in
theorem c_Fi_readInner_61 : ct_Fi_readInner 61 = ka_ci (nI 0) 1 := rfl
theorem d_Fi_readInner_61 : decode prog_4_method_5_code 61 = .ok (.iconst 0, 1) := by decide +kernel
set_option maxRecDepth 100000 in
theorem c_Fi_readInner_62 : ct_Fi_readInner 62 = ka_is 7 2 := rfl
theorem d_Fi_readInner_62 : decode prog_4_method_5_code 62 = .ok (.istore 7, 2) := by decide +kernel
set_option maxRecDepth 100000 in
theorem c_Fi_readInner_64 : ct_Fi_readInner 64 = ka_il 7 2 := rfl
theorem d_Fi_readInner_64 : decode prog_4_method_5_code 64 = .ok (.iload 7, 2) := by decide +kernel
set_option maxRecDepth 100000 in
theorem c_Fi_readInner_66 : ct_Fi_readInner 66 = ka_il 6 2 := rfl
theorem d_Fi_readInner_66 : decode prog_4_method_5_code 66 = .ok (.iload 6, 2) := by decide +kernel
set_option maxRecDepth 100000 in
theorem c_Fi_readInner_68 : ct_Fi_readInner 68 = ka_cm (fun x y => y ≤ x) 92 := rfl
theorem d_Fi_readInner_68 : decode prog_4_method_5_code 68 = .ok (.if_icmp .ge 24, 3) := by decide +kernel
set_option maxRecDepth 100000 in
theorem c_Fi_readInner_71 : ct_Fi_readInner 71 = ka_al 1 1 := rfl
theorem d_Fi_readInner_71 : decode prog_4_method_5_code 71 = .ok (.aload_n 1, 1) := by decide +kernel
set_option maxRecDepth 100000 in
theorem c_Fi_readInner_72 : ct_Fi_readInner 72 = ka_cv 30 0 1 0 0 := rfl
theorem d_Fi_readInner_72 : decode prog_4_method_5_code 72 = .ok (.invokevirtual 65, 3) := by decide +kernel
set_option maxRecDepth 100000 in
theorem c_Fi_readInner_75 : ct_Fi_readInner 75 = ka_if (fun x => x = 0) 92 := rfl
theorem d_Fi_readInner_75 : decode prog_4_method_5_code 75 = .ok (.ifCond .eq 17, 3) := by decide +kernel
set_option maxRecDepth 100000 in
theorem c_Fi_readInner_78 : ct_Fi_readInner 78 = ka_al 0 1 := rfl
theorem d_Fi_readInner_78 : decode prog_4_method_5_code 78 = .ok (.aload_n 0, 1) := by decide +kernel
set_option maxRecDepth 100000 in
theorem c_Fi_readInner_79 : ct_Fi_readInner 79 = ka_al 1 1 := rfl
theorem d_Fi_readInner_79 : decode prog_4_method_5_code 79 = .ok (.aload_n 1, 1) := by decide +kernel
set_option maxRecDepth 100000 in
theorem c_Fi_readInner_80 : ct_Fi_readInner 80 = ka_il 3 1 := rfl
theorem d_Fi_readInner_80 : decode prog_4_method_5_code 80 = .ok (.iload_n 3, 1) := by decide +kernel
set_option maxRecDepth 100000 in
theorem c_Fi_readInner_81 : ct_Fi_readInner 81 = ka_ci (nI 1) 1 := rfl
theorem d_Fi_readInner_81 : decode prog_4_method_5_code 81 = .ok (.iconst 1, 1) := by decide +kernel
set_option maxRecDepth 100000 in
theorem c_Fi_readInner_82 : ct_Fi_readInner 82 = ka_ii (fun x y => x + y) := rfl
theorem d_Fi_readInner_82 : decode prog_4_method_5_code 82 = .ok (.iadd, 1) := by decide +kernel
set_option maxRecDepth 100000 in
theorem c_Fi_readInner_83 : ct_Fi_readInner 83 = ka_cv 90 2 9 0 0 := rfl
theorem d_Fi_readInner_83 : decode prog_4_method_5_code 83 = .ok (.invokevirtual 29, 3) := by decide +kernel
set_option maxRecDepth 100000 in
theorem c_Fi_readInner_86 : ct_Fi_readInner 86 = ka_inc 7 (nI 1) := rfl
theorem d_Fi_readInner_86 : decode prog_4_method_5_code 86 = .ok (.iinc 7 1, 3) := by decide +kernel
set_option maxRecDepth 100000 in
theorem c_Fi_readInner_89 : ct_Fi_readInner 89 = ka_goto 64 := rfl
theorem d_Fi_readInner_89 : decode prog_4_method_5_code 89 = .ok (.goto (-25), 3) := by decide +kernel
set_option maxRecDepth 100000 in
theorem c_Fi_readInner_92 : ct_Fi_readInner 92 = ka_al 1 1 := rfl
theorem d_Fi_readInner_92 : decode prog_4_method_5_code 92 = .ok (.aload_n 1, 1) := by decide +kernel
set_option maxRecDepth 100000 in
theorem c_Fi_readInner_93 : ct_Fi_readInner 93 = ka_il 5 2 := rfl
theorem d_Fi_readInner_93 : decode prog_4_method_5_code 93 = .ok (.iload 5, 2) := by decide +kernel
set_option maxRecDepth 100000 in
theorem c_Fi_readInner_95 : ct_Fi_readInner 95 = ka_cv 29 1 1 0 0 := rfl
theorem d_Fi_readInner_95 : decode prog_4_method_5_code 95 = .ok (.invokevirtual 69, 3) := by decide +kernel
set_option maxRecDepth 100000 in
theorem c_Fi_readInner_98 : ct_Fi_readInner 98 = ka_ret := rfl
theorem d_Fi_readInner_98 : decode prog_4_method_5_code 98 = .ok (.return_, 1) := by decide +kernel
set_option maxRecDepth 100000 in
set_option maxHeartbeats 4000000 in
theorem s_Fi_readInner_60 : ∀ pc, pc < 60 → kc_Sim kt kw_A kw_N kt_cl kt_En "DirectoryDesk$Filters" prog_4_method_5_code 8 (none) "readInner" none pc (ct_Fi_readInner pc) := by
  let P : Nat → Prop := fun pc => kc_Sim kt kw_A kw_N kt_cl kt_En "DirectoryDesk$Filters" prog_4_method_5_code 8 (none) "readInner" none pc (ct_Fi_readInner pc)
  exact kc_case (P := P) (kc_se c_Fi_readInner_59 (sm_istore d_Fi_readInner_59 (Nat.le_of_ble_eq_true rfl))) (
  kc_case (P := P) (kc_se rfl sm_no) (
  kc_case (P := P) (kc_se c_Fi_readInner_57 (sm_bipush d_Fi_readInner_57 (by decide))) (
  kc_case (P := P) (kc_se rfl sm_no) (
  kc_case (P := P) (kc_se rfl sm_no) (
  kc_case (P := P) (kc_se c_Fi_readInner_54 (sm_goto d_Fi_readInner_54 (by decide))) (
  kc_case (P := P) (kc_se c_Fi_readInner_53 (sm_iconst d_Fi_readInner_53 (by decide))) (
  kc_case (P := P) (kc_se rfl sm_no) (
  kc_case (P := P) (kc_se rfl sm_no) (
  kc_case (P := P) (kc_se c_Fi_readInner_50 (sm_if_eq d_Fi_readInner_50 (by decide))) (
  kc_case (P := P) (kc_se rfl sm_no) (
  kc_case (P := P) (kc_se c_Fi_readInner_48 (sm_iload d_Fi_readInner_48)) (
  kc_case (P := P) (kc_se rfl sm_no) (
  kc_case (P := P) (kc_se rfl sm_no) (
  kc_case (P := P) (kc_se c_Fi_readInner_45 (sm_put (ci := 1) (C := "DirectoryDesk$Reader") (F := kF_Rd) rfl kin_Rd kty_Rd ktk_Rd knm_Rd (Nat.le_of_ble_eq_true rfl) (by decide +kernel) d_Fi_readInner_45 (kw1 36 rfl rfl) rfl)) (
  kc_case (P := P) (kc_se c_Fi_readInner_44 (sm_iconst d_Fi_readInner_44 (by decide))) (
  kc_case (P := P) (kc_se c_Fi_readInner_43 (sm_aload_n d_Fi_readInner_43 rfl)) (
  kc_case (P := P) (kc_se rfl sm_no) (
  kc_case (P := P) (kc_se rfl sm_no) (
  kc_case (P := P) (kc_se c_Fi_readInner_40 (sm_if_ne d_Fi_readInner_40 (by decide))) (
  kc_case (P := P) (kc_se rfl sm_no) (
  kc_case (P := P) (kc_se rfl sm_no) (
  kc_case (P := P) (kc_se c_Fi_readInner_37 (sm_cv (j := 30) rfl rfl kw_o kw_g wc_Rd_hasMore (Nat.le_of_ble_eq_true rfl) hd_Rd_hasMore (ci := 1) (F := kF_Rd) (N := 8) rfl (kw2 175 rfl rfl) wi_Rd_hasMore ws_Rd_hasMore wn_Rd_hasMore d_Fi_readInner_37)) (
  kc_case (P := P) (kc_se c_Fi_readInner_36 (sm_aload_n d_Fi_readInner_36 rfl)) (
  kc_case (P := P) (kc_se rfl sm_no) (
  kc_case (P := P) (kc_se rfl sm_no) (
  kc_case (P := P) (kc_se c_Fi_readInner_33 (sm_if_eq d_Fi_readInner_33 (by decide))) (
  kc_case (P := P) (kc_se rfl sm_no) (
  kc_case (P := P) (kc_se c_Fi_readInner_31 (sm_iload d_Fi_readInner_31)) (
  kc_case (P := P) (kc_se rfl sm_no) (
  kc_case (P := P) (kc_se c_Fi_readInner_29 (sm_istore d_Fi_readInner_29 (Nat.le_of_ble_eq_true rfl))) (
  kc_case (P := P) (kc_se rfl sm_no) (
  kc_case (P := P) (kc_se rfl sm_no) (
  kc_case (P := P) (kc_se c_Fi_readInner_26 (sm_cv (j := 28) rfl rfl kw_o kw_g wc_Rd_enter (Nat.le_of_ble_eq_true rfl) hd_Rd_enter (ci := 1) (F := kF_Rd) (N := 8) rfl (kw2 174 rfl rfl) wi_Rd_enter ws_Rd_enter wn_Rd_enter d_Fi_readInner_26)) (
  kc_case (P := P) (kc_se c_Fi_readInner_25 (sm_iald d_Fi_readInner_25)) (
  kc_case (P := P) (kc_se c_Fi_readInner_24 (sm_iload_n d_Fi_readInner_24 rfl)) (
  kc_case (P := P) (kc_se rfl sm_no) (
  kc_case (P := P) (kc_se rfl sm_no) (
  kc_case (P := P) (kc_se c_Fi_readInner_21 (sm_get (ci := 9) (C := "DirectoryDesk$Filters") (F := kF_Fi) rfl kin_Fi (Nat.le_of_ble_eq_true rfl) d_Fi_readInner_21 (kw1 222 rfl rfl))) (
  kc_case (P := P) (kc_se c_Fi_readInner_20 (sm_aload_n d_Fi_readInner_20 rfl)) (
  kc_case (P := P) (kc_se c_Fi_readInner_19 (sm_aload_n d_Fi_readInner_19 rfl)) (
  kc_case (P := P) (kc_se rfl sm_no) (
  kc_case (P := P) (kc_se c_Fi_readInner_17 (sm_istore d_Fi_readInner_17 (Nat.le_of_ble_eq_true rfl))) (
  kc_case (P := P) (kc_se c_Fi_readInner_16 (sm_iconst d_Fi_readInner_16 (by decide))) (
  kc_case (P := P) (kc_se rfl sm_no) (
  kc_case (P := P) (kc_se rfl sm_no) (
  kc_case (P := P) (kc_se c_Fi_readInner_13 (sm_goto d_Fi_readInner_13 (by decide))) (
  kc_case (P := P) (kc_se c_Fi_readInner_12 (sm_iconst d_Fi_readInner_12 (by decide))) (
  kc_case (P := P) (kc_se rfl sm_no) (
  kc_case (P := P) (kc_se rfl sm_no) (
  kc_case (P := P) (kc_se c_Fi_readInner_9 (sm_cm_ne d_Fi_readInner_9 (by decide))) (
  kc_case (P := P) (kc_se rfl sm_no) (
  kc_case (P := P) (kc_se rfl sm_no) (
  kc_case (P := P) (kc_se c_Fi_readInner_6 (sm_sipush d_Fi_readInner_6 (by decide))) (
  kc_case (P := P) (kc_se c_Fi_readInner_5 (sm_iald d_Fi_readInner_5)) (
  kc_case (P := P) (kc_se c_Fi_readInner_4 (sm_iload_n d_Fi_readInner_4 rfl)) (
  kc_case (P := P) (kc_se rfl sm_no) (
  kc_case (P := P) (kc_se rfl sm_no) (
  kc_case (P := P) (kc_se c_Fi_readInner_1 (sm_get (ci := 9) (C := "DirectoryDesk$Filters") (F := kF_Fi) rfl kin_Fi (Nat.le_of_ble_eq_true rfl) d_Fi_readInner_1 (kw1 222 rfl rfl))) (
  kc_case (P := P) (kc_se c_Fi_readInner_0 (sm_aload_n d_Fi_readInner_0 rfl)) (
  kc_case0))))))))))))))))))))))))))))))))))))))))))))))))))))))))))))
set_option maxRecDepth 100000 in
set_option maxHeartbeats 4000000 in
theorem s_Fi_readInner_99 : ∀ pc, pc < 99 → kc_Sim kt kw_A kw_N kt_cl kt_En "DirectoryDesk$Filters" prog_4_method_5_code 8 (none) "readInner" none pc (ct_Fi_readInner pc) := by
  let P : Nat → Prop := fun pc => kc_Sim kt kw_A kw_N kt_cl kt_En "DirectoryDesk$Filters" prog_4_method_5_code 8 (none) "readInner" none pc (ct_Fi_readInner pc)
  exact kc_case (P := P) (kc_se c_Fi_readInner_98 (sm_ret d_Fi_readInner_98 rfl)) (
  kc_case (P := P) (kc_se rfl sm_no) (
  kc_case (P := P) (kc_se rfl sm_no) (
  kc_case (P := P) (kc_se c_Fi_readInner_95 (sm_cv (j := 29) rfl rfl kw_o kw_g wc_Rd_leave (Nat.le_of_ble_eq_true rfl) hd_Rd_leave (ci := 1) (F := kF_Rd) (N := 8) rfl (kw2 176 rfl rfl) wi_Rd_leave ws_Rd_leave wn_Rd_leave d_Fi_readInner_95)) (
  kc_case (P := P) (kc_se rfl sm_no) (
  kc_case (P := P) (kc_se c_Fi_readInner_93 (sm_iload d_Fi_readInner_93)) (
  kc_case (P := P) (kc_se c_Fi_readInner_92 (sm_aload_n d_Fi_readInner_92 rfl)) (
  kc_case (P := P) (kc_se rfl sm_no) (
  kc_case (P := P) (kc_se rfl sm_no) (
  kc_case (P := P) (kc_se c_Fi_readInner_89 (sm_goto d_Fi_readInner_89 (by decide))) (
  kc_case (P := P) (kc_se rfl sm_no) (
  kc_case (P := P) (kc_se rfl sm_no) (
  kc_case (P := P) (kc_se c_Fi_readInner_86 (sm_inc d_Fi_readInner_86 (by decide) (Nat.le_of_ble_eq_true rfl))) (
  kc_case (P := P) (kc_se rfl sm_no) (
  kc_case (P := P) (kc_se rfl sm_no) (
  kc_case (P := P) (kc_se c_Fi_readInner_83 (sm_cv (j := 90) rfl rfl kw_o kw_g wc_Fi_readOne (Nat.le_of_ble_eq_true rfl) hd_Fi_readOne (ci := 9) (F := kF_Fi) (N := 5) rfl (kw2 165 rfl rfl) wi_Fi_readOne ws_Fi_readOne wn_Fi_readOne d_Fi_readInner_83)) (
  kc_case (P := P) (kc_se c_Fi_readInner_82 (sm_iadd d_Fi_readInner_82)) (
  kc_case (P := P) (kc_se c_Fi_readInner_81 (sm_iconst d_Fi_readInner_81 (by decide))) (
  kc_case (P := P) (kc_se c_Fi_readInner_80 (sm_iload_n d_Fi_readInner_80 rfl)) (
  kc_case (P := P) (kc_se c_Fi_readInner_79 (sm_aload_n d_Fi_readInner_79 rfl)) (
  kc_case (P := P) (kc_se c_Fi_readInner_78 (sm_aload_n d_Fi_readInner_78 rfl)) (
  kc_case (P := P) (kc_se rfl sm_no) (
  kc_case (P := P) (kc_se rfl sm_no) (
  kc_case (P := P) (kc_se c_Fi_readInner_75 (sm_if_eq d_Fi_readInner_75 (by decide))) (
  kc_case (P := P) (kc_se rfl sm_no) (
  kc_case (P := P) (kc_se rfl sm_no) (
  kc_case (P := P) (kc_se c_Fi_readInner_72 (sm_cv (j := 30) rfl rfl kw_o kw_g wc_Rd_hasMore (Nat.le_of_ble_eq_true rfl) hd_Rd_hasMore (ci := 1) (F := kF_Rd) (N := 8) rfl (kw2 175 rfl rfl) wi_Rd_hasMore ws_Rd_hasMore wn_Rd_hasMore d_Fi_readInner_72)) (
  kc_case (P := P) (kc_se c_Fi_readInner_71 (sm_aload_n d_Fi_readInner_71 rfl)) (
  kc_case (P := P) (kc_se rfl sm_no) (
  kc_case (P := P) (kc_se rfl sm_no) (
  kc_case (P := P) (kc_se c_Fi_readInner_68 (sm_cm_ge d_Fi_readInner_68 (by decide))) (
  kc_case (P := P) (kc_se rfl sm_no) (
  kc_case (P := P) (kc_se c_Fi_readInner_66 (sm_iload d_Fi_readInner_66)) (
  kc_case (P := P) (kc_se rfl sm_no) (
  kc_case (P := P) (kc_se c_Fi_readInner_64 (sm_iload d_Fi_readInner_64)) (
  kc_case (P := P) (kc_se rfl sm_no) (
  kc_case (P := P) (kc_se c_Fi_readInner_62 (sm_istore d_Fi_readInner_62 (Nat.le_of_ble_eq_true rfl))) (
  kc_case (P := P) (kc_se c_Fi_readInner_61 (sm_iconst d_Fi_readInner_61 (by decide))) (
  kc_case (P := P) (kc_se rfl sm_no) (
  s_Fi_readInner_60)))))))))))))))))))))))))))))))))))))))
theorem ka_nth_no_Fi_readInner (pc : Nat) (h : 99 ≤ pc) : ct_Fi_readInner pc = ka_no := ka_nth_ge _ pc (Nat.le_trans (Nat.le_of_eq (by rfl)) h)
theorem s_Fi_readInner (pc : Nat) : kc_Sim kt kw_A kw_N kt_cl kt_En "DirectoryDesk$Filters" prog_4_method_5_code 8 (none) "readInner" none pc (ct_Fi_readInner pc) := (Nat.lt_or_ge pc 99).elim (s_Fi_readInner_99 pc) (fun h => kc_se (ka_nth_no_Fi_readInner pc h) sm_no)
def cl_Fi_readPair_0 : List kc_A := [ka_al 1 1, ka_al 0 1, ka_get 9 0, ka_no, ka_no, ka_il 2 1, ka_iald, ka_cv 28 1 1 0 0, ka_no, ka_no, ka_is 3 1, ka_al 1 1, ka_ci (nI 4) 1, ka_cv 37 1 1 0 0, ka_no, ka_no, ka_al 0 1, ka_get 9 1, ka_no, ka_no, ka_il 2 1, ka_al 1 1, ka_cv 39 0 1 0 0, ka_no, ka_no, ka_iast, ka_al 1 1, ka_ci (nI 4) 1, ka_cv 37 1 1 0 0, ka_no, ka_no, ka_al 0 1, ka_get 9 2, ka_no, ka_no, ka_il 2 1, ka_al 1 1, ka_cv 40 0 1 0 0, ka_no, ka_no, ka_last, ka_al 1 1, ka_il 3 1, ka_cv 29 1 1 0 0, ka_no, ka_no, ka_ret]
def ct_Fi_readPair : Nat → kc_A := fun pc => ka_nth (cl_Fi_readPair_0) pc
set_option maxRecDepth 100000 in
theorem c_Fi_readPair_0 : ct_Fi_readPair 0 = ka_al 1 1 := rfl
theorem d_Fi_readPair_0 : decode prog_4_method_6_code 0 = .ok (.aload_n 1, 1) := by decide +kernel
set_option maxRecDepth 100000 in
theorem c_Fi_readPair_1 : ct_Fi_readPair 1 = ka_al 0 1 := rfl
theorem d_Fi_readPair_1 : decode prog_4_method_6_code 1 = .ok (.aload_n 0, 1) := by decide +kernel
set_option maxRecDepth 100000 in
theorem c_Fi_readPair_2 : ct_Fi_readPair 2 = ka_get 9 0 := rfl
theorem d_Fi_readPair_2 : decode prog_4_method_6_code 2 = .ok (.getfield 9, 3) := by decide +kernel
set_option maxRecDepth 100000 in
theorem c_Fi_readPair_5 : ct_Fi_readPair 5 = ka_il 2 1 := rfl
theorem d_Fi_readPair_5 : decode prog_4_method_6_code 5 = .ok (.iload_n 2, 1) := by decide +kernel
set_option maxRecDepth 100000 in
theorem c_Fi_readPair_6 : ct_Fi_readPair 6 = ka_iald := rfl
theorem d_Fi_readPair_6 : decode prog_4_method_6_code 6 = .ok (.iaload, 1) := by decide +kernel
set_option maxRecDepth 100000 in
theorem c_Fi_readPair_7 : ct_Fi_readPair 7 = ka_cv 28 1 1 0 0 := rfl
theorem d_Fi_readPair_7 : decode prog_4_method_6_code 7 = .ok (.invokevirtual 61, 3) := by decide +kernel
set_option maxRecDepth 100000 in
theorem c_Fi_readPair_10 : ct_Fi_readPair 10 = ka_is 3 1 := rfl
theorem d_Fi_readPair_10 : decode prog_4_method_6_code 10 = .ok (.istore_n 3, 1) := by decide +kernel
set_option maxRecDepth 100000 in
theorem c_Fi_readPair_11 : ct_Fi_readPair 11 = ka_al 1 1 := rfl
theorem d_Fi_readPair_11 : decode prog_4_method_6_code 11 = .ok (.aload_n 1, 1) := by decide +kernel
set_option maxRecDepth 100000 in
theorem c_Fi_readPair_12 : ct_Fi_readPair 12 = ka_ci (nI 4) 1 := rfl
theorem d_Fi_readPair_12 : decode prog_4_method_6_code 12 = .ok (.iconst 4, 1) := by decide +kernel
set_option maxRecDepth 100000 in
theorem c_Fi_readPair_13 : ct_Fi_readPair 13 = ka_cv 37 1 1 0 0 := rfl
theorem d_Fi_readPair_13 : decode prog_4_method_6_code 13 = .ok (.invokevirtual 54, 3) := by decide +kernel
set_option maxRecDepth 100000 in
theorem c_Fi_readPair_16 : ct_Fi_readPair 16 = ka_al 0 1 := rfl
theorem d_Fi_readPair_16 : decode prog_4_method_6_code 16 = .ok (.aload_n 0, 1) := by decide +kernel
set_option maxRecDepth 100000 in
theorem c_Fi_readPair_17 : ct_Fi_readPair 17 = ka_get 9 1 := rfl
theorem d_Fi_readPair_17 : decode prog_4_method_6_code 17 = .ok (.getfield 15, 3) := by decide +kernel
set_option maxRecDepth 100000 in
theorem c_Fi_readPair_20 : ct_Fi_readPair 20 = ka_il 2 1 := rfl
theorem d_Fi_readPair_20 : decode prog_4_method_6_code 20 = .ok (.iload_n 2, 1) := by decide +kernel
set_option maxRecDepth 100000 in
theorem c_Fi_readPair_21 : ct_Fi_readPair 21 = ka_al 1 1 := rfl
theorem d_Fi_readPair_21 : decode prog_4_method_6_code 21 = .ok (.aload_n 1, 1) := by decide +kernel
set_option maxRecDepth 100000 in
theorem c_Fi_readPair_22 : ct_Fi_readPair 22 = ka_cv 39 0 1 0 0 := rfl
theorem d_Fi_readPair_22 : decode prog_4_method_6_code 22 = .ok (.invokevirtual 58, 3) := by decide +kernel
set_option maxRecDepth 100000 in
theorem c_Fi_readPair_25 : ct_Fi_readPair 25 = ka_iast := rfl
theorem d_Fi_readPair_25 : decode prog_4_method_6_code 25 = .ok (.iastore, 1) := by decide +kernel
set_option maxRecDepth 100000 in
theorem c_Fi_readPair_26 : ct_Fi_readPair 26 = ka_al 1 1 := rfl
theorem d_Fi_readPair_26 : decode prog_4_method_6_code 26 = .ok (.aload_n 1, 1) := by decide +kernel
set_option maxRecDepth 100000 in
theorem c_Fi_readPair_27 : ct_Fi_readPair 27 = ka_ci (nI 4) 1 := rfl
theorem d_Fi_readPair_27 : decode prog_4_method_6_code 27 = .ok (.iconst 4, 1) := by decide +kernel
set_option maxRecDepth 100000 in
theorem c_Fi_readPair_28 : ct_Fi_readPair 28 = ka_cv 37 1 1 0 0 := rfl
theorem d_Fi_readPair_28 : decode prog_4_method_6_code 28 = .ok (.invokevirtual 54, 3) := by decide +kernel
set_option maxRecDepth 100000 in
theorem c_Fi_readPair_31 : ct_Fi_readPair 31 = ka_al 0 1 := rfl
theorem d_Fi_readPair_31 : decode prog_4_method_6_code 31 = .ok (.aload_n 0, 1) := by decide +kernel
set_option maxRecDepth 100000 in
theorem c_Fi_readPair_32 : ct_Fi_readPair 32 = ka_get 9 2 := rfl
theorem d_Fi_readPair_32 : decode prog_4_method_6_code 32 = .ok (.getfield 18, 3) := by decide +kernel
set_option maxRecDepth 100000 in
theorem c_Fi_readPair_35 : ct_Fi_readPair 35 = ka_il 2 1 := rfl
theorem d_Fi_readPair_35 : decode prog_4_method_6_code 35 = .ok (.iload_n 2, 1) := by decide +kernel
set_option maxRecDepth 100000 in
theorem c_Fi_readPair_36 : ct_Fi_readPair 36 = ka_al 1 1 := rfl
theorem d_Fi_readPair_36 : decode prog_4_method_6_code 36 = .ok (.aload_n 1, 1) := by decide +kernel
set_option maxRecDepth 100000 in
theorem c_Fi_readPair_37 : ct_Fi_readPair 37 = ka_cv 40 0 1 0 0 := rfl
theorem d_Fi_readPair_37 : decode prog_4_method_6_code 37 = .ok (.invokevirtual 72, 3) := by decide +kernel
set_option maxRecDepth 100000 in
theorem c_Fi_readPair_40 : ct_Fi_readPair 40 = ka_last := rfl
theorem d_Fi_readPair_40 : decode prog_4_method_6_code 40 = .ok (.lastore, 1) := by decide +kernel
set_option maxRecDepth 100000 in
theorem c_Fi_readPair_41 : ct_Fi_readPair 41 = ka_al 1 1 := rfl
theorem d_Fi_readPair_41 : decode prog_4_method_6_code 41 = .ok (.aload_n 1, 1) := by decide +kernel
set_option maxRecDepth 100000 in
theorem c_Fi_readPair_42 : ct_Fi_readPair 42 = ka_il 3 1 := rfl
theorem d_Fi_readPair_42 : decode prog_4_method_6_code 42 = .ok (.iload_n 3, 1) := by decide +kernel
set_option maxRecDepth 100000 in
theorem c_Fi_readPair_43 : ct_Fi_readPair 43 = ka_cv 29 1 1 0 0 := rfl
theorem d_Fi_readPair_43 : decode prog_4_method_6_code 43 = .ok (.invokevirtual 69, 3) := by decide +kernel
set_option maxRecDepth 100000 in
theorem c_Fi_readPair_46 : ct_Fi_readPair 46 = ka_ret := rfl
theorem d_Fi_readPair_46 : decode prog_4_method_6_code 46 = .ok (.return_, 1) := by decide +kernel
set_option maxRecDepth 100000 in
set_option maxHeartbeats 4000000 in
theorem s_Fi_readPair_47 : ∀ pc, pc < 47 → kc_Sim kt kw_A kw_N kt_cl kt_En "DirectoryDesk$Filters" prog_4_method_6_code 4 (none) "readPair" none pc (ct_Fi_readPair pc) := by
  let P : Nat → Prop := fun pc => kc_Sim kt kw_A kw_N kt_cl kt_En "DirectoryDesk$Filters" prog_4_method_6_code 4 (none) "readPair" none pc (ct_Fi_readPair pc)
  exact kc_case (P := P) (kc_se c_Fi_readPair_46 (sm_ret d_Fi_readPair_46 rfl)) (
  kc_case (P := P) (kc_se rfl sm_no) (
  kc_case (P := P) (kc_se rfl sm_no) (
  kc_case (P := P) (kc_se c_Fi_readPair_43 (sm_cv (j := 29) rfl rfl kw_o kw_g wc_Rd_leave (Nat.le_of_ble_eq_true rfl) hd_Rd_leave (ci := 1) (F := kF_Rd) (N := 8) rfl (kw2 176 rfl rfl) wi_Rd_leave ws_Rd_leave wn_Rd_leave d_Fi_readPair_43)) (
  kc_case (P := P) (kc_se c_Fi_readPair_42 (sm_iload_n d_Fi_readPair_42 rfl)) (
  kc_case (P := P) (kc_se c_Fi_readPair_41 (sm_aload_n d_Fi_readPair_41 rfl)) (
  kc_case (P := P) (kc_se c_Fi_readPair_40 (sm_last d_Fi_readPair_40)) (
  kc_case (P := P) (kc_se rfl sm_no) (
  kc_case (P := P) (kc_se rfl sm_no) (
  kc_case (P := P) (kc_se c_Fi_readPair_37 (sm_cv (j := 40) rfl rfl kw_o kw_g wc_Rd_spanValue (Nat.le_of_ble_eq_true rfl) hd_Rd_spanValue (ci := 1) (F := kF_Rd) (N := 8) rfl (kw2 187 rfl rfl) wi_Rd_spanValue ws_Rd_spanValue wn_Rd_spanValue d_Fi_readPair_37)) (
  kc_case (P := P) (kc_se c_Fi_readPair_36 (sm_aload_n d_Fi_readPair_36 rfl)) (
  kc_case (P := P) (kc_se c_Fi_readPair_35 (sm_iload_n d_Fi_readPair_35 rfl)) (
  kc_case (P := P) (kc_se rfl sm_no) (
  kc_case (P := P) (kc_se rfl sm_no) (
  kc_case (P := P) (kc_se c_Fi_readPair_32 (sm_get (ci := 9) (C := "DirectoryDesk$Filters") (F := kF_Fi) rfl kin_Fi (Nat.le_of_ble_eq_true rfl) d_Fi_readPair_32 (kw1 224 rfl rfl))) (
  kc_case (P := P) (kc_se c_Fi_readPair_31 (sm_aload_n d_Fi_readPair_31 rfl)) (
  kc_case (P := P) (kc_se rfl sm_no) (
  kc_case (P := P) (kc_se rfl sm_no) (
  kc_case (P := P) (kc_se c_Fi_readPair_28 (sm_cv (j := 37) rfl rfl kw_o kw_g wc_Rd_span (Nat.le_of_ble_eq_true rfl) hd_Rd_span (ci := 1) (F := kF_Rd) (N := 8) rfl (kw2 181 rfl rfl) wi_Rd_span ws_Rd_span wn_Rd_span d_Fi_readPair_28)) (
  kc_case (P := P) (kc_se c_Fi_readPair_27 (sm_iconst d_Fi_readPair_27 (by decide))) (
  kc_case (P := P) (kc_se c_Fi_readPair_26 (sm_aload_n d_Fi_readPair_26 rfl)) (
  kc_case (P := P) (kc_se c_Fi_readPair_25 (sm_iast d_Fi_readPair_25)) (
  kc_case (P := P) (kc_se rfl sm_no) (
  kc_case (P := P) (kc_se rfl sm_no) (
  kc_case (P := P) (kc_se c_Fi_readPair_22 (sm_cv (j := 39) rfl rfl kw_o kw_g wc_Rd_spanType (Nat.le_of_ble_eq_true rfl) hd_Rd_spanType (ci := 1) (F := kF_Rd) (N := 8) rfl (kw2 182 rfl rfl) wi_Rd_spanType ws_Rd_spanType wn_Rd_spanType d_Fi_readPair_22)) (
  kc_case (P := P) (kc_se c_Fi_readPair_21 (sm_aload_n d_Fi_readPair_21 rfl)) (
  kc_case (P := P) (kc_se c_Fi_readPair_20 (sm_iload_n d_Fi_readPair_20 rfl)) (
  kc_case (P := P) (kc_se rfl sm_no) (
  kc_case (P := P) (kc_se rfl sm_no) (
  kc_case (P := P) (kc_se c_Fi_readPair_17 (sm_get (ci := 9) (C := "DirectoryDesk$Filters") (F := kF_Fi) rfl kin_Fi (Nat.le_of_ble_eq_true rfl) d_Fi_readPair_17 (kw1 223 rfl rfl))) (
  kc_case (P := P) (kc_se c_Fi_readPair_16 (sm_aload_n d_Fi_readPair_16 rfl)) (
  kc_case (P := P) (kc_se rfl sm_no) (
  kc_case (P := P) (kc_se rfl sm_no) (
  kc_case (P := P) (kc_se c_Fi_readPair_13 (sm_cv (j := 37) rfl rfl kw_o kw_g wc_Rd_span (Nat.le_of_ble_eq_true rfl) hd_Rd_span (ci := 1) (F := kF_Rd) (N := 8) rfl (kw2 181 rfl rfl) wi_Rd_span ws_Rd_span wn_Rd_span d_Fi_readPair_13)) (
  kc_case (P := P) (kc_se c_Fi_readPair_12 (sm_iconst d_Fi_readPair_12 (by decide))) (
  kc_case (P := P) (kc_se c_Fi_readPair_11 (sm_aload_n d_Fi_readPair_11 rfl)) (
  kc_case (P := P) (kc_se c_Fi_readPair_10 (sm_istore_n d_Fi_readPair_10 rfl (Nat.le_of_ble_eq_true rfl))) (
  kc_case (P := P) (kc_se rfl sm_no) (
  kc_case (P := P) (kc_se rfl sm_no) (
  kc_case (P := P) (kc_se c_Fi_readPair_7 (sm_cv (j := 28) rfl rfl kw_o kw_g wc_Rd_enter (Nat.le_of_ble_eq_true rfl) hd_Rd_enter (ci := 1) (F := kF_Rd) (N := 8) rfl (kw2 174 rfl rfl) wi_Rd_enter ws_Rd_enter wn_Rd_enter d_Fi_readPair_7)) (
  kc_case (P := P) (kc_se c_Fi_readPair_6 (sm_iald d_Fi_readPair_6)) (
  kc_case (P := P) (kc_se c_Fi_readPair_5 (sm_iload_n d_Fi_readPair_5 rfl)) (
  kc_case (P := P) (kc_se rfl sm_no) (
  kc_case (P := P) (kc_se rfl sm_no) (
  kc_case (P := P) (kc_se c_Fi_readPair_2 (sm_get (ci := 9) (C := "DirectoryDesk$Filters") (F := kF_Fi) rfl kin_Fi (Nat.le_of_ble_eq_true rfl) d_Fi_readPair_2 (kw1 222 rfl rfl))) (
  kc_case (P := P) (kc_se c_Fi_readPair_1 (sm_aload_n d_Fi_readPair_1 rfl)) (
  kc_case (P := P) (kc_se c_Fi_readPair_0 (sm_aload_n d_Fi_readPair_0 rfl)) (
  kc_case0)))))))))))))))))))))))))))))))))))))))))))))))
theorem ka_nth_no_Fi_readPair (pc : Nat) (h : 47 ≤ pc) : ct_Fi_readPair pc = ka_no := ka_nth_ge _ pc (Nat.le_trans (Nat.le_of_eq (by rfl)) h)
theorem s_Fi_readPair (pc : Nat) : kc_Sim kt kw_A kw_N kt_cl kt_En "DirectoryDesk$Filters" prog_4_method_6_code 4 (none) "readPair" none pc (ct_Fi_readPair pc) := (Nat.lt_or_ge pc 47).elim (s_Fi_readPair_47 pc) (fun h => kc_se (ka_nth_no_Fi_readPair pc h) sm_no)
