/-! code of methods, decode rows, and that the JVM follows (by program) -/
def cl_Dk_answerEntry_0 : List kc_A := [ka_al 0 1, ka_get 0 1, ka_no, ka_no, ka_get 2 1, ka_no, ka_no, ka_is 2 1, ka_al 0 1, ka_get 0 1, ka_no, ka_no, ka_ci (nI 48) 2, ka_no, ka_cv 48 1 2 0 0, ka_no, ka_no, ka_is 3 1, ka_al 0 1, ka_get 0 1, ka_no, ka_no, ka_al 0 1, ka_get 0 0, ka_no, ka_no, ka_get 1 5, ka_no, ka_no, ka_cv 50 1 2 0 0, ka_no, ka_no, ka_al 0 1, ka_get 0 1, ka_no, ka_no, ka_ci (nI 100) 2, ka_no, ka_cv 48 1 2 0 0, ka_no, ka_no, ka_is 4 2, ka_no, ka_al 0 1, ka_get 0 1, ka_no, ka_no, ka_al 1 1, ka_get 4 0, ka_no, ka_no, ka_cv 53 1 2 0 0, ka_no, ka_no, ka_al 0 1, ka_get 0 1, ka_no, ka_no, ka_ci (nI 48) 2, ka_no]
def cl_Dk_answerEntry_1 : List kc_A := [ka_cv 48 1 2 0 0, ka_no, ka_no, ka_is 5 2, ka_no, ka_ci (nI 97) 2, ka_no, ka_is 6 2, ka_no, ka_il 6 2, ka_no, ka_ci (nI 102) 2, ka_no, ka_cm (fun x y => y < x) 120, ka_no, ka_no, ka_al 0 1, ka_get 0 5, ka_no, ka_no, ka_il 6 2, ka_no, ka_cv 84 1 8 0 0, ka_no, ka_no, ka_if (fun x => x = 0) 114, ka_no, ka_no, ka_al 1 1, ka_get 4 1, ka_no, ka_no, ka_il 6 2, ka_no, ka_cl 0 1, ka_cl (9223372036854775807) 3, ka_no, ka_no, ka_cv 70 3 6 0 0, ka_no, ka_no, ka_if (fun x => x = 0) 114, ka_no, ka_no, ka_al 0 1, ka_al 1 1, ka_get 4 1, ka_no, ka_no, ka_il 6 2, ka_no, ka_cv 22 2 0 0 0, ka_no, ka_no, ka_inc 6 (nI 1), ka_no, ka_no, ka_goto 69, ka_no, ka_no]
def cl_Dk_answerEntry_2 : List kc_A := [ka_al 0 1, ka_get 0 1, ka_no, ka_no, ka_il 5 2, ka_no, ka_cv 49 1 2 0 0, ka_no, ka_no, ka_al 0 1, ka_get 0 1, ka_no, ka_no, ka_il 4 2, ka_no, ka_cv 49 1 2 0 0, ka_no, ka_no, ka_al 0 1, ka_get 0 1, ka_no, ka_no, ka_il 3 1, ka_cv 49 1 2 0 0, ka_no, ka_no, ka_al 0 1, ka_get 0 1, ka_no, ka_no, ka_get 2 1, ka_no, ka_no, ka_il 3 1, ka_ii (fun x y => x - y), ka_ci (nI 127) 2, ka_no, ka_cm (fun x y => y < x) 177, ka_no, ka_no, ka_al 0 1, ka_get 0 1, ka_no, ka_no, ka_get 2 1, ka_no, ka_no, ka_ci (nI 284) 3, ka_no, ka_no, ka_cm (fun x y => y < x) 177, ka_no, ka_no, ka_ci (nI 1) 1, ka_goto 178, ka_no, ka_no, ka_ci (nI 0) 1, ka_is 6 2, ka_no]
def cl_Dk_answerEntry_3 : List kc_A := [ka_il 6 2, ka_no, ka_if (fun x => ¬ x = 0) 193, ka_no, ka_no, ka_al 0 1, ka_get 0 1, ka_no, ka_no, ka_il 2 1, ka_put 2 1 .int, ka_no, ka_no, ka_il 6 2, ka_no, ka_rz]
def ct_Dk_answerEntry : Nat → kc_A := fun pc => ka_nth (cl_Dk_answerEntry_0 ++ (cl_Dk_answerEntry_1 ++ (cl_Dk_answerEntry_2 ++ (cl_Dk_answerEntry_3)))) pc
set_option maxRecDepth 100000 in
theorem c_Dk_answerEntry_0 : ct_Dk_answerEntry 0 = ka_al 0 1 := rfl
theorem d_Dk_answerEntry_0 : decode prog_1_method_22_code 0 = .ok (.aload_n 0, 1) := by decide +kernel
set_option maxRecDepth 100000 in
theorem c_Dk_answerEntry_1 : ct_Dk_answerEntry 1 = ka_get 0 1 := rfl
theorem d_Dk_answerEntry_1 : decode prog_1_method_22_code 1 = .ok (.getfield 19, 3) := by decide +kernel
set_option maxRecDepth 100000 in
theorem c_Dk_answerEntry_4 : ct_Dk_answerEntry 4 = ka_get 2 1 := rfl
theorem d_Dk_answerEntry_4 : decode prog_1_method_22_code 4 = .ok (.getfield 109, 3) := by decide +kernel
set_option maxRecDepth 100000 in
theorem c_Dk_answerEntry_7 : ct_Dk_answerEntry 7 = ka_is 2 1 := rfl
theorem d_Dk_answerEntry_7 : decode prog_1_method_22_code 7 = .ok (.istore_n 2, 1) := by decide +kernel
set_option maxRecDepth 100000 in
theorem c_Dk_answerEntry_8 : ct_Dk_answerEntry 8 = ka_al 0 1 := rfl
theorem d_Dk_answerEntry_8 : decode prog_1_method_22_code 8 = .ok (.aload_n 0, 1) := by decide +kernel
set_option maxRecDepth 100000 in
theorem c_Dk_answerEntry_9 : ct_Dk_answerEntry 9 = ka_get 0 1 := rfl
theorem d_Dk_answerEntry_9 : decode prog_1_method_22_code 9 = .ok (.getfield 19, 3) := by decide +kernel
set_option maxRecDepth 100000 in
theorem c_Dk_answerEntry_12 : ct_Dk_answerEntry 12 = ka_ci (nI 48) 2 := rfl
theorem d_Dk_answerEntry_12 : decode prog_1_method_22_code 12 = .ok (.bipush 48, 2) := by decide +kernel
set_option maxRecDepth 100000 in
theorem c_Dk_answerEntry_14 : ct_Dk_answerEntry 14 = ka_cv 48 1 2 0 0 := rfl
theorem d_Dk_answerEntry_14 : decode prog_1_method_22_code 14 = .ok (.invokevirtual 238, 3) := by decide +kernel
set_option maxRecDepth 100000 in
theorem c_Dk_answerEntry_17 : ct_Dk_answerEntry 17 = ka_is 3 1 := rfl
theorem d_Dk_answerEntry_17 : decode prog_1_method_22_code 17 = .ok (.istore_n 3, 1) := by decide +kernel
set_option maxRecDepth 100000 in
theorem c_Dk_answerEntry_18 : ct_Dk_answerEntry 18 = ka_al 0 1 := rfl
theorem d_Dk_answerEntry_18 : decode prog_1_method_22_code 18 = .ok (.aload_n 0, 1) := by decide +kernel
set_option maxRecDepth 100000 in
theorem c_Dk_answerEntry_19 : ct_Dk_answerEntry 19 = ka_get 0 1 := rfl
theorem d_Dk_answerEntry_19 : decode prog_1_method_22_code 19 = .ok (.getfield 19, 3) := by decide +kernel
set_option maxRecDepth 100000 in
theorem c_Dk_answerEntry_22 : ct_Dk_answerEntry 22 = ka_al 0 1 := rfl
theorem d_Dk_answerEntry_22 : decode prog_1_method_22_code 22 = .ok (.aload_n 0, 1) := by decide +kernel
set_option maxRecDepth 100000 in
theorem c_Dk_answerEntry_23 : ct_Dk_answerEntry 23 = ka_get 0 0 := rfl
theorem d_Dk_answerEntry_23 : decode prog_1_method_22_code 23 = .ok (.getfield 10, 3) := by decide +kernel
set_option maxRecDepth 100000 in
theorem c_Dk_answerEntry_26 : ct_Dk_answerEntry 26 = ka_get 1 5 := rfl
theorem d_Dk_answerEntry_26 : decode prog_1_method_22_code 26 = .ok (.getfield 242, 3) := by decide +kernel
set_option maxRecDepth 100000 in
theorem c_Dk_answerEntry_29 : ct_Dk_answerEntry 29 = ka_cv 50 1 2 0 0 := rfl
theorem d_Dk_answerEntry_29 : decode prog_1_method_22_code 29 = .ok (.invokevirtual 245, 3) := by decide +kernel
set_option maxRecDepth 100000 in
theorem c_Dk_answerEntry_32 : ct_Dk_answerEntry 32 = ka_al 0 1 := rfl
theorem d_Dk_answerEntry_32 : decode prog_1_method_22_code 32 = .ok (.aload_n 0, 1) := by decide +kernel
set_option maxRecDepth 100000 in
theorem c_Dk_answerEntry_33 : ct_Dk_answerEntry 33 = ka_get 0 1 := rfl
theorem d_Dk_answerEntry_33 : decode prog_1_method_22_code 33 = .ok (.getfield 19, 3) := by decide +kernel
set_option maxRecDepth 100000 in
theorem c_Dk_answerEntry_36 : ct_Dk_answerEntry 36 = ka_ci (nI 100) 2 := rfl
theorem d_Dk_answerEntry_36 : decode prog_1_method_22_code 36 = .ok (.bipush 100, 2) := by decide +kernel
set_option maxRecDepth 100000 in
theorem c_Dk_answerEntry_38 : ct_Dk_answerEntry 38 = ka_cv 48 1 2 0 0 := rfl
theorem d_Dk_answerEntry_38 : decode prog_1_method_22_code 38 = .ok (.invokevirtual 238, 3) := by decide +kernel
set_option maxRecDepth 100000 in
theorem c_Dk_answerEntry_41 : ct_Dk_answerEntry 41 = ka_is 4 2 := rfl
theorem d_Dk_answerEntry_41 : decode prog_1_method_22_code 41 = .ok (.istore 4, 2) := by decide +kernel
set_option maxRecDepth 100000 in
theorem c_Dk_answerEntry_43 : ct_Dk_answerEntry 43 = ka_al 0 1 := rfl
theorem d_Dk_answerEntry_43 : decode prog_1_method_22_code 43 = .ok (.aload_n 0, 1) := by decide +kernel
set_option maxRecDepth 100000 in
theorem c_Dk_answerEntry_44 : ct_Dk_answerEntry 44 = ka_get 0 1 := rfl
theorem d_Dk_answerEntry_44 : decode prog_1_method_22_code 44 = .ok (.getfield 19, 3) := by decide +kernel
set_option maxRecDepth 100000 in
theorem c_Dk_answerEntry_47 : ct_Dk_answerEntry 47 = ka_al 1 1 := rfl
theorem d_Dk_answerEntry_47 : decode prog_1_method_22_code 47 = .ok (.aload_n 1, 1) := by decide +kernel
set_option maxRecDepth 100000 in
theorem c_Dk_answerEntry_48 : ct_Dk_answerEntry 48 = ka_get 4 0 := rfl
theorem d_Dk_answerEntry_48 : decode prog_1_method_22_code 48 = .ok (.getfield 123, 3) := by decide +kernel
set_option maxRecDepth 100000 in
theorem c_Dk_answerEntry_51 : ct_Dk_answerEntry 51 = ka_cv 53 1 2 0 0 := rfl
theorem d_Dk_answerEntry_51 : decode prog_1_method_22_code 51 = .ok (.invokevirtual 247, 3) := by decide +kernel
set_option maxRecDepth 100000 in
theorem c_Dk_answerEntry_54 : ct_Dk_answerEntry 54 = ka_al 0 1 := rfl
theorem d_Dk_answerEntry_54 : decode prog_1_method_22_code 54 = .ok (.aload_n 0, 1) := by decide +kernel
set_option maxRecDepth 100000 in
theorem c_Dk_answerEntry_55 : ct_Dk_answerEntry 55 = ka_get 0 1 := rfl
theorem d_Dk_answerEntry_55 : decode prog_1_method_22_code 55 = .ok (.getfield 19, 3) := by decide +kernel
set_option maxRecDepth 100000 in
theorem c_Dk_answerEntry_58 : ct_Dk_answerEntry 58 = ka_ci (nI 48) 2 := rfl
theorem d_Dk_answerEntry_58 : decode prog_1_method_22_code 58 = .ok (.bipush 48, 2) := by decide +kernel
set_option maxRecDepth 100000 in
theorem c_Dk_answerEntry_60 : ct_Dk_answerEntry 60 = ka_cv 48 1 2 0 0 := rfl
theorem d_Dk_answerEntry_60 : decode prog_1_method_22_code 60 = .ok (.invokevirtual 238, 3) := by decide +kernel
set_option maxRecDepth 100000 in
theorem c_Dk_answerEntry_63 : ct_Dk_answerEntry 63 = ka_is 5 2 := rfl
theorem d_Dk_answerEntry_63 : decode prog_1_method_22_code 63 = .ok (.istore 5, 2) := by decide +kernel
set_option maxRecDepth 100000 in
theorem c_Dk_answerEntry_65 : ct_Dk_answerEntry 65 = ka_ci (nI 97) 2 := rfl
theorem d_Dk_answerEntry_65 : decode prog_1_method_22_code 65 = .ok (.bipush 97, 2) := by decide +kernel
set_option maxRecDepth 100000 in
theorem c_Dk_answerEntry_67 : ct_Dk_answerEntry 67 = ka_is 6 2 := rfl
theorem d_Dk_answerEntry_67 : decode prog_1_method_22_code 67 = .ok (.istore 6, 2) := by decide +kernel
set_option maxRecDepth 100000 in
theorem c_Dk_answerEntry_69 : ct_Dk_answerEntry 69 = ka_il 6 2 := rfl
theorem d_Dk_answerEntry_69 : decode prog_1_method_22_code 69 = .ok (.iload 6, 2) := by decide +kernel
set_option maxRecDepth 100000 in
theorem c_Dk_answerEntry_71 : ct_Dk_answerEntry 71 = ka_ci (nI 102) 2 := rfl
theorem d_Dk_answerEntry_71 : decode prog_1_method_22_code 71 = .ok (.bipush 102, 2) := by decide +kernel
set_option maxRecDepth 100000 in
theorem c_Dk_answerEntry_73 : ct_Dk_answerEntry 73 = ka_cm (fun x y => y < x) 120 := rfl
theorem d_Dk_answerEntry_73 : decode prog_1_method_22_code 73 = .ok (.if_icmp .gt 47, 3) := by decide +kernel
set_option maxRecDepth 100000 in
theorem c_Dk_answerEntry_76 : ct_Dk_answerEntry 76 = ka_al 0 1 := rfl
theorem d_Dk_answerEntry_76 : decode prog_1_method_22_code 76 = .ok (.aload_n 0, 1) := by decide +kernel
set_option maxRecDepth 100000 in
theorem c_Dk_answerEntry_77 : ct_Dk_answerEntry 77 = ka_get 0 5 := rfl
theorem d_Dk_answerEntry_77 : decode prog_1_method_22_code 77 = .ok (.getfield 47, 3) := by decide +kernel
set_option maxRecDepth 100000 in
theorem c_Dk_answerEntry_80 : ct_Dk_answerEntry 80 = ka_il 6 2 := rfl
theorem d_Dk_answerEntry_80 : decode prog_1_method_22_code 80 = .ok (.iload 6, 2) := by decide +kernel
set_option maxRecDepth 100000 in
theorem c_Dk_answerEntry_82 : ct_Dk_answerEntry 82 = ka_cv 84 1 8 0 0 := rfl
theorem d_Dk_answerEntry_82 : decode prog_1_method_22_code 82 = .ok (.invokevirtual 250, 3) := by decide +kernel
set_option maxRecDepth 100000 in
theorem c_Dk_answerEntry_85 : ct_Dk_answerEntry 85 = ka_if (fun x => x = 0) 114 := rfl
theorem d_Dk_answerEntry_85 : decode prog_1_method_22_code 85 = .ok (.ifCond .eq 29, 3) := by decide +kernel
set_option maxRecDepth 100000 in
theorem c_Dk_answerEntry_88 : ct_Dk_answerEntry 88 = ka_al 1 1 := rfl
theorem d_Dk_answerEntry_88 : decode prog_1_method_22_code 88 = .ok (.aload_n 1, 1) := by decide +kernel
set_option maxRecDepth 100000 in
theorem c_Dk_answerEntry_89 : ct_Dk_answerEntry 89 = ka_get 4 1 := rfl
theorem d_Dk_answerEntry_89 : decode prog_1_method_22_code 89 = .ok (.getfield 131, 3) := by decide +kernel
set_option maxRecDepth 100000 in
theorem c_Dk_answerEntry_92 : ct_Dk_answerEntry 92 = ka_il 6 2 := rfl
theorem d_Dk_answerEntry_92 : decode prog_1_method_22_code 92 = .ok (.iload 6, 2) := by decide +kernel
set_option maxRecDepth 100000 in
theorem c_Dk_answerEntry_94 : ct_Dk_answerEntry 94 = ka_cl 0 1 := rfl
theorem d_Dk_answerEntry_94 : decode prog_1_method_22_code 94 = .ok (.lconst 0, 1) := by decide +kernel
set_option maxRecDepth 100000 in
theorem c_Dk_answerEntry_95 : ct_Dk_answerEntry 95 = ka_cl (9223372036854775807) 3 := rfl
theorem d_Dk_answerEntry_95 : decode prog_1_method_22_code 95 = .ok (.ldc2_w 253, 3) := by decide +kernel
set_option maxRecDepth 100000 in
theorem c_Dk_answerEntry_98 : ct_Dk_answerEntry 98 = ka_cv 70 3 6 0 0 := rfl
theorem d_Dk_answerEntry_98 : decode prog_1_method_22_code 98 = .ok (.invokevirtual 255, 3) := by decide +kernel
set_option maxRecDepth 100000 in
theorem c_Dk_answerEntry_101 : ct_Dk_answerEntry 101 = ka_if (fun x => x = 0) 114 := rfl
theorem d_Dk_answerEntry_101 : decode prog_1_method_22_code 101 = .ok (.ifCond .eq 13, 3) := by decide +kernel
set_option maxRecDepth 100000 in
theorem c_Dk_answerEntry_104 : ct_Dk_answerEntry 104 = ka_al 0 1 := rfl
theorem d_Dk_answerEntry_104 : decode prog_1_method_22_code 104 = .ok (.aload_n 0, 1) := by decide +kernel
set_option maxRecDepth 100000 in
theorem c_Dk_answerEntry_105 : ct_Dk_answerEntry 105 = ka_al 1 1 := rfl
theorem d_Dk_answerEntry_105 : decode prog_1_method_22_code 105 = .ok (.aload_n 1, 1) := by decide +kernel
set_option maxRecDepth 100000 in
theorem c_Dk_answerEntry_106 : ct_Dk_answerEntry 106 = ka_get 4 1 := rfl
theorem d_Dk_answerEntry_106 : decode prog_1_method_22_code 106 = .ok (.getfield 131, 3) := by decide +kernel
set_option maxRecDepth 100000 in
theorem c_Dk_answerEntry_109 : ct_Dk_answerEntry 109 = ka_il 6 2 := rfl
theorem d_Dk_answerEntry_109 : decode prog_1_method_22_code 109 = .ok (.iload 6, 2) := by decide +kernel
set_option maxRecDepth 100000 in
theorem c_Dk_answerEntry_111 : ct_Dk_answerEntry 111 = ka_cv 22 2 0 0 0 := rfl
theorem d_Dk_answerEntry_111 : decode prog_1_method_22_code 111 = .ok (.invokevirtual 259, 3) := by decide +kernel
set_option maxRecDepth 100000 in
theorem c_Dk_answerEntry_114 : ct_Dk_answerEntry 114 = ka_inc 6 (nI 1) := rfl
theorem d_Dk_answerEntry_114 : decode prog_1_method_22_code 114 = .ok (.iinc 6 1, 3) := by decide +kernel
set_option maxRecDepth 100000 in
theorem c_Dk_answerEntry_117 : ct_Dk_answerEntry 117 = ka_goto 69 := rfl
theorem d_Dk_answerEntry_117 : decode prog_1_method_22_code 117 = .ok (.goto (-48), 3) := by decide +kernel
set_option maxRecDepth 100000 in
theorem c_Dk_answerEntry_120 : ct_Dk_answerEntry 120 = ka_al 0 1 := rfl
theorem d_Dk_answerEntry_120 : decode prog_1_method_22_code 120 = .ok (.aload_n 0, 1) := by decide +kernel
set_option maxRecDepth 100000 in
theorem c_Dk_answerEntry_121 : ct_Dk_answerEntry 121 = ka_get 0 1 := rfl
theorem d_Dk_answerEntry_121 : decode prog_1_method_22_code 121 = .ok (.getfield 19, 3) := by decide +kernel
set_option maxRecDepth 100000 in
theorem c_Dk_answerEntry_124 : ct_Dk_answerEntry 124 = ka_il 5 2 := rfl
theorem d_Dk_answerEntry_124 : decode prog_1_method_22_code 124 = .ok (.iload 5, 2) := by decide +kernel
set_option maxRecDepth 100000 in
theorem c_Dk_answerEntry_126 : ct_Dk_answerEntry 126 = ka_cv 49 1 2 0 0 := rfl
theorem d_Dk_answerEntry_126 : decode prog_1_method_22_code 126 = .ok (.invokevirtual 263, 3) := by decide +kernel
set_option maxRecDepth 100000 in
theorem c_Dk_answerEntry_129 : ct_Dk_answerEntry 129 = ka_al 0 1 := rfl
theorem d_Dk_answerEntry_129 : decode prog_1_method_22_code 129 = .ok (.aload_n 0, 1) := by decide +kernel
set_option maxRecDepth 100000 in
theorem c_Dk_answerEntry_130 : ct_Dk_answerEntry 130 = ka_get 0 1 := rfl
theorem d_Dk_answerEntry_130 : decode prog_1_method_22_code 130 = .ok (.getfield 19, 3) := by decide +kernel
set_option maxRecDepth 100000 in
theorem c_Dk_answerEntry_133 : ct_Dk_answerEntry 133 = ka_il 4 2 := rfl
theorem d_Dk_answerEntry_133 : decode prog_1_method_22_code 133 = .ok (.iload 4, 2) := by decide +kernel
set_option maxRecDepth 100000 in
theorem c_Dk_answerEntry_135 : ct_Dk_answerEntry 135 = ka_cv 49 1 2 0 0 := rfl
theorem d_Dk_answerEntry_135 : decode prog_1_method_22_code 135 = .ok (.invokevirtual 263, 3) := by decide +kernel
set_option maxRecDepth 100000 in
theorem c_Dk_answerEntry_138 : ct_Dk_answerEntry 138 = ka_al 0 1 := rfl
theorem d_Dk_answerEntry_138 : decode prog_1_method_22_code 138 = .ok (.aload_n 0, 1) := by decide +kernel
set_option maxRecDepth 100000 in
theorem c_Dk_answerEntry_139 : ct_Dk_answerEntry 139 = ka_get 0 1 := rfl
theorem d_Dk_answerEntry_139 : decode prog_1_method_22_code 139 = .ok (.getfield 19, 3) := by decide +kernel
set_option maxRecDepth 100000 in
theorem c_Dk_answerEntry_142 : ct_Dk_answerEntry 142 = ka_il 3 1 := rfl
theorem d_Dk_answerEntry_142 : decode prog_1_method_22_code 142 = .ok (.iload_n 3, 1) := by decide +kernel
set_option maxRecDepth 100000 in
theorem c_Dk_answerEntry_143 : ct_Dk_answerEntry 143 = ka_cv 49 1 2 0 0 := rfl
theorem d_Dk_answerEntry_143 : decode prog_1_method_22_code 143 = .ok (.invokevirtual 263, 3) := by decide +kernel
set_option maxRecDepth 100000 in
theorem c_Dk_answerEntry_146 : ct_Dk_answerEntry 146 = ka_al 0 1 := rfl
theorem d_Dk_answerEntry_146 : decode prog_1_method_22_code 146 = .ok (.aload_n 0, 1) := by decide +kernel
set_option maxRecDepth 100000 in
theorem c_Dk_answerEntry_147 : ct_Dk_answerEntry 147 = ka_get 0 1 := rfl
theorem d_Dk_answerEntry_147 : decode prog_1_method_22_code 147 = .ok (.getfield 19, 3) := by decide +kernel
set_option maxRecDepth 100000 in
theorem c_Dk_answerEntry_150 : ct_Dk_answerEntry 150 = ka_get 2 1 := rfl
theorem d_Dk_answerEntry_150 : decode prog_1_method_22_code 150 = .ok (.getfield 109, 3) := by decide +kernel
set_option maxRecDepth 100000 in
theorem c_Dk_answerEntry_153 : ct_Dk_answerEntry 153 = ka_il 3 1 := rfl
theorem d_Dk_answerEntry_153 : decode prog_1_method_22_code 153 = .ok (.iload_n 3, 1) := by decide +kernel
set_option maxRecDepth 100000 in
theorem c_Dk_answerEntry_154 : ct_Dk_answerEntry 154 = ka_ii (fun x y => x - y) := rfl
theorem d_Dk_answerEntry_154 : decode prog_1_method_22_code 154 = .ok (.isub, 1) := by decide +kernel
set_option maxRecDepth 100000 in
theorem c_Dk_answerEntry_155 : ct_Dk_answerEntry 155 = ka_ci (nI 127) 2 := rfl
theorem d_Dk_answerEntry_155 : decode prog_1_method_22_code 155 = .ok (.bipush 127, 2) := by decide +kernel
set_option maxRecDepth 100000 in
theorem c_Dk_answerEntry_157 : ct_Dk_answerEntry 157 = ka_cm (fun x y => y < x) 177 := rfl
theorem d_Dk_answerEntry_157 : decode prog_1_method_22_code 157 = .ok (.if_icmp .gt 20, 3) := by decide +kernel
set_option maxRecDepth 100000 in
theorem c_Dk_answerEntry_160 : ct_Dk_answerEntry 160 = ka_al 0 1 := rfl
theorem d_Dk_answerEntry_160 : decode prog_1_method_22_code 160 = .ok (.aload_n 0, 1) := by decide +kernel
set_option maxRecDepth 100000 in
theorem c_Dk_answerEntry_161 : ct_Dk_answerEntry 161 = ka_get 0 1 := rfl
theorem d_Dk_answerEntry_161 : decode prog_1_method_22_code 161 = .ok (.getfield 19, 3) := by decide +kernel
set_option maxRecDepth 100000 in
theorem c_Dk_answerEntry_164 : ct_Dk_answerEntry 164 = ka_get 2 1 := rfl
theorem d_Dk_answerEntry_164 : decode prog_1_method_22_code 164 = .ok (.getfield 109, 3) := by decide +kernel
set_option maxRecDepth 100000 in
theorem c_Dk_answerEntry_167 : ct_Dk_answerEntry 167 = ka_ci (nI 284) 3 := rfl
theorem d_Dk_answerEntry_167 : decode prog_1_method_22_code 167 = .ok (.sipush 284, 3) := by decide +kernel
set_option maxRecDepth 100000 in
theorem c_Dk_answerEntry_170 : ct_Dk_answerEntry 170 = ka_cm (fun x y => y < x) 177 := rfl
theorem d_Dk_answerEntry_170 : decode prog_1_method_22_code 170 = .ok (.if_icmp .gt 7, 3) := by decide +kernel
set_option maxRecDepth 100000 in
theorem c_Dk_answerEntry_173 : ct_Dk_answerEntry 173 = ka_ci (nI 1) 1 := rfl
theorem d_Dk_answerEntry_173 : decode prog_1_method_22_code 173 = .ok (.iconst 1, 1) := by decide +kernel
set_option maxRecDepth 100000 in
theorem c_Dk_answerEntry_174 : ct_Dk_answerEntry 174 = ka_goto 178 := rfl
theorem d_Dk_answerEntry_174 : decode prog_1_method_22_code 174 = .ok (.goto 4, 3) := by decide +kernel
set_option maxRecDepth 100000 in
theorem c_Dk_answerEntry_177 : ct_Dk_answerEntry 177 = ka_ci (nI 0) 1 := rfl
theorem d_Dk_answerEntry_177 : decode prog_1_method_22_code 177 = .ok (.iconst 0, 1) := by decide +kernel
set_option maxRecDepth 100000 in
theorem c_Dk_answerEntry_178 : ct_Dk_answerEntry 178 = ka_is 6 2 := rfl
theorem d_Dk_answerEntry_178 : decode prog_1_method_22_code 178 = .ok (.istore 6, 2) := by decide +kernel
set_option maxRecDepth 100000 in
theorem c_Dk_answerEntry_180 : ct_Dk_answerEntry 180 = ka_il 6 2 := rfl
theorem d_Dk_answerEntry_180 : decode prog_1_method_22_code 180 = .ok (.iload 6, 2) := by decide +kernel
set_option maxRecDepth 100000 in
theorem c_Dk_answerEntry_182 : ct_Dk_answerEntry 182 = ka_if (fun x => ¬ x = 0) 193 := rfl
theorem d_Dk_answerEntry_182 : decode prog_1_method_22_code 182 = .ok (.ifCond .ne 11, 3) := by decide +kernel
set_option maxRecDepth 100000 in
theorem c_Dk_answerEntry_185 : ct_Dk_answerEntry 185 = ka_al 0 1 := rfl
theorem d_Dk_answerEntry_185 : decode prog_1_method_22_code 185 = .ok (.aload_n 0, 1) := by decide +kernel
set_option maxRecDepth 100000 in
theorem c_Dk_answerEntry_186 : ct_Dk_answerEntry 186 = ka_get 0 1 := rfl
theorem d_Dk_answerEntry_186 : decode prog_1_method_22_code 186 = .ok (.getfield 19, 3) := by decide +kernel
set_option maxRecDepth 100000 in
theorem c_Dk_answerEntry_189 : ct_Dk_answerEntry 189 = ka_il 2 1 := rfl
theorem d_Dk_answerEntry_189 : decode prog_1_method_22_code 189 = .ok (.iload_n 2, 1) := by decide +kernel
set_option maxRecDepth 100000 in
theorem c_Dk_answerEntry_190 : ct_Dk_answerEntry 190 = ka_put 2 1 .int := rfl
theorem d_Dk_answerEntry_190 : decode prog_1_method_22_code 190 = .ok (.putfield 109, 3) := by decide +kernel
set_option maxRecDepth 100000 in
theorem c_Dk_answerEntry_193 : ct_Dk_answerEntry 193 = ka_il 6 2 := rfl
theorem d_Dk_answerEntry_193 : decode prog_1_method_22_code 193 = .ok (.iload 6, 2) := by decide +kernel
set_option maxRecDepth 100000 in
theorem c_Dk_answerEntry_195 : ct_Dk_answerEntry 195 = ka_rz := rfl
theorem d_Dk_answerEntry_195 : decode prog_1_method_22_code 195 = .ok (.ireturn, 1) := by decide +kernel
set_option maxRecDepth 100000 in
set_option maxHeartbeats 4000000 in
theorem s_Dk_answerEntry_60 : ∀ pc, pc < 60 → kc_Sim kt kw_A kw_N kt_cl kt_En "DirectoryDesk" prog_1_method_22_code 7 (some .boolean) "answerEntry" none pc (ct_Dk_answerEntry pc) := by
  let P : Nat → Prop := fun pc => kc_Sim kt kw_A kw_N kt_cl kt_En "DirectoryDesk" prog_1_method_22_code 7 (some .boolean) "answerEntry" none pc (ct_Dk_answerEntry pc)
  exact kc_case (P := P) (kc_se rfl sm_no) (
  kc_case (P := P) (kc_se c_Dk_answerEntry_58 (sm_bipush d_Dk_answerEntry_58 (by decide))) (
  kc_case (P := P) (kc_se rfl sm_no) (
  kc_case (P := P) (kc_se rfl sm_no) (
  kc_case (P := P) (kc_se c_Dk_answerEntry_55 (sm_get (ci := 0) (C := "DirectoryDesk") (F := kF_Dk) rfl kin_Dk (Nat.le_of_ble_eq_true rfl) d_Dk_answerEntry_55 (kw2 1 rfl rfl))) (
  kc_case (P := P) (kc_se c_Dk_answerEntry_54 (sm_aload_n d_Dk_answerEntry_54 rfl)) (
  kc_case (P := P) (kc_se rfl sm_no) (
  kc_case (P := P) (kc_se rfl sm_no) (
  kc_case (P := P) (kc_se c_Dk_answerEntry_51 (sm_cv (j := 53) rfl rfl kw_o kw_g wc_Wr_name (Nat.le_of_ble_eq_true rfl) hd_Wr_name (ci := 2) (F := kF_Wr) (N := 2) rfl (kw3 19 rfl rfl) wi_Wr_name ws_Wr_name wn_Wr_name d_Dk_answerEntry_51)) (
  kc_case (P := P) (kc_se rfl sm_no) (
  kc_case (P := P) (kc_se rfl sm_no) (
  kc_case (P := P) (kc_se c_Dk_answerEntry_48 (sm_get (ci := 4) (C := "DirectoryDesk$Entry") (F := kF_En) rfl kin_En (Nat.le_of_ble_eq_true rfl) d_Dk_answerEntry_48 (kw1 137 rfl rfl))) (
  kc_case (P := P) (kc_se c_Dk_answerEntry_47 (sm_aload_n d_Dk_answerEntry_47 rfl)) (
  kc_case (P := P) (kc_se rfl sm_no) (
  kc_case (P := P) (kc_se rfl sm_no) (
  kc_case (P := P) (kc_se c_Dk_answerEntry_44 (sm_get (ci := 0) (C := "DirectoryDesk") (F := kF_Dk) rfl kin_Dk (Nat.le_of_ble_eq_true rfl) d_Dk_answerEntry_44 (kw2 1 rfl rfl))) (
  kc_case (P := P) (kc_se c_Dk_answerEntry_43 (sm_aload_n d_Dk_answerEntry_43 rfl)) (
  kc_case (P := P) (kc_se rfl sm_no) (
  kc_case (P := P) (kc_se c_Dk_answerEntry_41 (sm_istore d_Dk_answerEntry_41 (Nat.le_of_ble_eq_true rfl))) (
  kc_case (P := P) (kc_se rfl sm_no) (
  kc_case (P := P) (kc_se rfl sm_no) (
  kc_case (P := P) (kc_se c_Dk_answerEntry_38 (sm_cv (j := 48) rfl rfl kw_o kw_g wc_Wr_begin (Nat.le_of_ble_eq_true rfl) hd_Wr_begin (ci := 2) (F := kF_Wr) (N := 2) rfl (kw3 2 rfl rfl) wi_Wr_begin ws_Wr_begin wn_Wr_begin d_Dk_answerEntry_38)) (
  kc_case (P := P) (kc_se rfl sm_no) (
  kc_case (P := P) (kc_se c_Dk_answerEntry_36 (sm_bipush d_Dk_answerEntry_36 (by decide))) (
  kc_case (P := P) (kc_se rfl sm_no) (
  kc_case (P := P) (kc_se rfl sm_no) (
  kc_case (P := P) (kc_se c_Dk_answerEntry_33 (sm_get (ci := 0) (C := "DirectoryDesk") (F := kF_Dk) rfl kin_Dk (Nat.le_of_ble_eq_true rfl) d_Dk_answerEntry_33 (kw2 1 rfl rfl))) (
  kc_case (P := P) (kc_se c_Dk_answerEntry_32 (sm_aload_n d_Dk_answerEntry_32 rfl)) (
  kc_case (P := P) (kc_se rfl sm_no) (
  kc_case (P := P) (kc_se rfl sm_no) (
  kc_case (P := P) (kc_se c_Dk_answerEntry_29 (sm_cv (j := 50) rfl rfl kw_o kw_g wc_Wr_number (Nat.le_of_ble_eq_true rfl) hd_Wr_number (ci := 2) (F := kF_Wr) (N := 2) rfl (kw3 10 rfl rfl) wi_Wr_number ws_Wr_number wn_Wr_number d_Dk_answerEntry_29)) (
  kc_case (P := P) (kc_se rfl sm_no) (
  kc_case (P := P) (kc_se rfl sm_no) (
  kc_case (P := P) (kc_se c_Dk_answerEntry_26 (sm_get (ci := 1) (C := "DirectoryDesk$Reader") (F := kF_Rd) rfl kin_Rd (Nat.le_of_ble_eq_true rfl) d_Dk_answerEntry_26 (kw1 38 rfl rfl))) (
  kc_case (P := P) (kc_se rfl sm_no) (
  kc_case (P := P) (kc_se rfl sm_no) (
  kc_case (P := P) (kc_se c_Dk_answerEntry_23 (sm_get (ci := 0) (C := "DirectoryDesk") (F := kF_Dk) rfl kin_Dk (Nat.le_of_ble_eq_true rfl) d_Dk_answerEntry_23 (kw2 0 rfl rfl))) (
  kc_case (P := P) (kc_se c_Dk_answerEntry_22 (sm_aload_n d_Dk_answerEntry_22 rfl)) (
  kc_case (P := P) (kc_se rfl sm_no) (
  kc_case (P := P) (kc_se rfl sm_no) (
  kc_case (P := P) (kc_se c_Dk_answerEntry_19 (sm_get (ci := 0) (C := "DirectoryDesk") (F := kF_Dk) rfl kin_Dk (Nat.le_of_ble_eq_true rfl) d_Dk_answerEntry_19 (kw2 1 rfl rfl))) (
  kc_case (P := P) (kc_se c_Dk_answerEntry_18 (sm_aload_n d_Dk_answerEntry_18 rfl)) (
  kc_case (P := P) (kc_se c_Dk_answerEntry_17 (sm_istore_n d_Dk_answerEntry_17 rfl (Nat.le_of_ble_eq_true rfl))) (
  kc_case (P := P) (kc_se rfl sm_no) (
  kc_case (P := P) (kc_se rfl sm_no) (
  kc_case (P := P) (kc_se c_Dk_answerEntry_14 (sm_cv (j := 48) rfl rfl kw_o kw_g wc_Wr_begin (Nat.le_of_ble_eq_true rfl) hd_Wr_begin (ci := 2) (F := kF_Wr) (N := 2) rfl (kw3 2 rfl rfl) wi_Wr_begin ws_Wr_begin wn_Wr_begin d_Dk_answerEntry_14)) (
  kc_case (P := P) (kc_se rfl sm_no) (
  kc_case (P := P) (kc_se c_Dk_answerEntry_12 (sm_bipush d_Dk_answerEntry_12 (by decide))) (
  kc_case (P := P) (kc_se rfl sm_no) (
  kc_case (P := P) (kc_se rfl sm_no) (
  kc_case (P := P) (kc_se c_Dk_answerEntry_9 (sm_get (ci := 0) (C := "DirectoryDesk") (F := kF_Dk) rfl kin_Dk (Nat.le_of_ble_eq_true rfl) d_Dk_answerEntry_9 (kw2 1 rfl rfl))) (
  kc_case (P := P) (kc_se c_Dk_answerEntry_8 (sm_aload_n d_Dk_answerEntry_8 rfl)) (
  kc_case (P := P) (kc_se c_Dk_answerEntry_7 (sm_istore_n d_Dk_answerEntry_7 rfl (Nat.le_of_ble_eq_true rfl))) (
  kc_case (P := P) (kc_se rfl sm_no) (
  kc_case (P := P) (kc_se rfl sm_no) (
  kc_case (P := P) (kc_se c_Dk_answerEntry_4 (sm_get (ci := 2) (C := "DirectoryDesk$Writer") (F := kF_Wr) rfl kin_Wr (Nat.le_of_ble_eq_true rfl) d_Dk_answerEntry_4 (kw1 72 rfl rfl))) (
  kc_case (P := P) (kc_se rfl sm_no) (
  kc_case (P := P) (kc_se rfl sm_no) (
  kc_case (P := P) (kc_se c_Dk_answerEntry_1 (sm_get (ci := 0) (C := "DirectoryDesk") (F := kF_Dk) rfl kin_Dk (Nat.le_of_ble_eq_true rfl) d_Dk_answerEntry_1 (kw2 1 rfl rfl))) (
  kc_case (P := P) (kc_se c_Dk_answerEntry_0 (sm_aload_n d_Dk_answerEntry_0 rfl)) (
  kc_case0))))))))))))))))))))))))))))))))))))))))))))))))))))))))))))
set_option maxRecDepth 100000 in
set_option maxHeartbeats 4000000 in
theorem s_Dk_answerEntry_120 : ∀ pc, pc < 120 → kc_Sim kt kw_A kw_N kt_cl kt_En "DirectoryDesk" prog_1_method_22_code 7 (some .boolean) "answerEntry" none pc (ct_Dk_answerEntry pc) := by
  let P : Nat → Prop := fun pc => kc_Sim kt kw_A kw_N kt_cl kt_En "DirectoryDesk" prog_1_method_22_code 7 (some .boolean) "answerEntry" none pc (ct_Dk_answerEntry pc)
  exact kc_case (P := P) (kc_se rfl sm_no) (
  kc_case (P := P) (kc_se rfl sm_no) (
  kc_case (P := P) (kc_se c_Dk_answerEntry_117 (sm_goto d_Dk_answerEntry_117 (by decide))) (
  kc_case (P := P) (kc_se rfl sm_no) (
  kc_case (P := P) (kc_se rfl sm_no) (
  kc_case (P := P) (kc_se c_Dk_answerEntry_114 (sm_inc d_Dk_answerEntry_114 (by decide) (Nat.le_of_ble_eq_true rfl))) (
  kc_case (P := P) (kc_se rfl sm_no) (
  kc_case (P := P) (kc_se rfl sm_no) (
  kc_case (P := P) (kc_se c_Dk_answerEntry_111 (sm_cv (j := 22) rfl rfl kw_o kw_g wc_Dk_answerAttribute (Nat.le_of_ble_eq_true rfl) hd_Dk_answerAttribute (ci := 0) (F := kF_Dk) (N := 10) rfl (kw3 33 rfl rfl) wi_Dk_answerAttribute ws_Dk_answerAttribute wn_Dk_answerAttribute d_Dk_answerEntry_111)) (
  kc_case (P := P) (kc_se rfl sm_no) (
  kc_case (P := P) (kc_se c_Dk_answerEntry_109 (sm_iload d_Dk_answerEntry_109)) (
  kc_case (P := P) (kc_se rfl sm_no) (
  kc_case (P := P) (kc_se rfl sm_no) (
  kc_case (P := P) (kc_se c_Dk_answerEntry_106 (sm_get (ci := 4) (C := "DirectoryDesk$Entry") (F := kF_En) rfl kin_En (Nat.le_of_ble_eq_true rfl) d_Dk_answerEntry_106 (kw1 140 rfl rfl))) (
  kc_case (P := P) (kc_se c_Dk_answerEntry_105 (sm_aload_n d_Dk_answerEntry_105 rfl)) (
  kc_case (P := P) (kc_se c_Dk_answerEntry_104 (sm_aload_n d_Dk_answerEntry_104 rfl)) (
  kc_case (P := P) (kc_se rfl sm_no) (
  kc_case (P := P) (kc_se rfl sm_no) (
  kc_case (P := P) (kc_se c_Dk_answerEntry_101 (sm_if_eq d_Dk_answerEntry_101 (by decide))) (
  kc_case (P := P) (kc_se rfl sm_no) (
  kc_case (P := P) (kc_se rfl sm_no) (
  kc_case (P := P) (kc_se c_Dk_answerEntry_98 (sm_cv (j := 70) rfl rfl kw_o kw_g wc_Pa_hasBetween (Nat.le_of_ble_eq_true rfl) hd_Pa_hasBetween (ci := 6) (F := kF_Pa) (N := 3) rfl (kw3 32 rfl rfl) wi_Pa_hasBetween ws_Pa_hasBetween wn_Pa_hasBetween d_Dk_answerEntry_98)) (
  kc_case (P := P) (kc_se rfl sm_no) (
  kc_case (P := P) (kc_se rfl sm_no) (
  kc_case (P := P) (kc_se c_Dk_answerEntry_95 (sm_ldc2 d_Dk_answerEntry_95 (kw3 31 rfl rfl))) (
  kc_case (P := P) (kc_se c_Dk_answerEntry_94 (sm_lconst d_Dk_answerEntry_94 (by decide))) (
  kc_case (P := P) (kc_se rfl sm_no) (
  kc_case (P := P) (kc_se c_Dk_answerEntry_92 (sm_iload d_Dk_answerEntry_92)) (
  kc_case (P := P) (kc_se rfl sm_no) (
  kc_case (P := P) (kc_se rfl sm_no) (
  kc_case (P := P) (kc_se c_Dk_answerEntry_89 (sm_get (ci := 4) (C := "DirectoryDesk$Entry") (F := kF_En) rfl kin_En (Nat.le_of_ble_eq_true rfl) d_Dk_answerEntry_89 (kw1 140 rfl rfl))) (
  kc_case (P := P) (kc_se c_Dk_answerEntry_88 (sm_aload_n d_Dk_answerEntry_88 rfl)) (
  kc_case (P := P) (kc_se rfl sm_no) (
  kc_case (P := P) (kc_se rfl sm_no) (
  kc_case (P := P) (kc_se c_Dk_answerEntry_85 (sm_if_eq d_Dk_answerEntry_85 (by decide))) (
  kc_case (P := P) (kc_se rfl sm_no) (
  kc_case (P := P) (kc_se rfl sm_no) (
  kc_case (P := P) (kc_se c_Dk_answerEntry_82 (sm_cv (j := 84) rfl rfl kw_o kw_g wc_Qu_wants (Nat.le_of_ble_eq_true rfl) hd_Qu_wants (ci := 8) (F := kF_Qu) (N := 4) rfl (kw3 27 rfl rfl) wi_Qu_wants ws_Qu_wants wn_Qu_wants d_Dk_answerEntry_82)) (
  kc_case (P := P) (kc_se rfl sm_no) (
  kc_case (P := P) (kc_se c_Dk_answerEntry_80 (sm_iload d_Dk_answerEntry_80)) (
  kc_case (P := P) (kc_se rfl sm_no) (
  kc_case (P := P) (kc_se rfl sm_no) (
  kc_case (P := P) (kc_se c_Dk_answerEntry_77 (sm_get (ci := 0) (C := "DirectoryDesk") (F := kF_Dk) rfl kin_Dk (Nat.le_of_ble_eq_true rfl) d_Dk_answerEntry_77 (kw2 5 rfl rfl))) (
  kc_case (P := P) (kc_se c_Dk_answerEntry_76 (sm_aload_n d_Dk_answerEntry_76 rfl)) (
  kc_case (P := P) (kc_se rfl sm_no) (
  kc_case (P := P) (kc_se rfl sm_no) (
  kc_case (P := P) (kc_se c_Dk_answerEntry_73 (sm_cm_gt d_Dk_answerEntry_73 (by decide))) (
  kc_case (P := P) (kc_se rfl sm_no) (
  kc_case (P := P) (kc_se c_Dk_answerEntry_71 (sm_bipush d_Dk_answerEntry_71 (by decide))) (
  kc_case (P := P) (kc_se rfl sm_no) (
  kc_case (P := P) (kc_se c_Dk_answerEntry_69 (sm_iload d_Dk_answerEntry_69)) (
  kc_case (P := P) (kc_se rfl sm_no) (
  kc_case (P := P) (kc_se c_Dk_answerEntry_67 (sm_istore d_Dk_answerEntry_67 (Nat.le_of_ble_eq_true rfl))) (
  kc_case (P := P) (kc_se rfl sm_no) (
  kc_case (P := P) (kc_se c_Dk_answerEntry_65 (sm_bipush d_Dk_answerEntry_65 (by decide))) (
  kc_case (P := P) (kc_se rfl sm_no) (
  kc_case (P := P) (kc_se c_Dk_answerEntry_63 (sm_istore d_Dk_answerEntry_63 (Nat.le_of_ble_eq_true rfl))) (
  kc_case (P := P) (kc_se rfl sm_no) (
  kc_case (P := P) (kc_se rfl sm_no) (
  kc_case (P := P) (kc_se c_Dk_answerEntry_60 (sm_cv (j := 48) rfl rfl kw_o kw_g wc_Wr_begin (Nat.le_of_ble_eq_true rfl) hd_Wr_begin (ci := 2) (F := kF_Wr) (N := 2) rfl (kw3 2 rfl rfl) wi_Wr_begin ws_Wr_begin wn_Wr_begin d_Dk_answerEntry_60)) (
  s_Dk_answerEntry_60))))))))))))))))))))))))))))))))))))))))))))))))))))))))))))
set_option maxRecDepth 100000 in
set_option maxHeartbeats 4000000 in
theorem s_Dk_answerEntry_180 : ∀ pc, pc < 180 → kc_Sim kt kw_A kw_N kt_cl kt_En "DirectoryDesk" prog_1_method_22_code 7 (some .boolean) "answerEntry" none pc (ct_Dk_answerEntry pc) := by
  let P : Nat → Prop := fun pc => kc_Sim kt kw_A kw_N kt_cl kt_En "DirectoryDesk" prog_1_method_22_code 7 (some .boolean) "answerEntry" none pc (ct_Dk_answerEntry pc)
  exact kc_case (P := P) (kc_se rfl sm_no) (
  kc_case (P := P) (kc_se c_Dk_answerEntry_178 (sm_istore d_Dk_answerEntry_178 (Nat.le_of_ble_eq_true rfl))) (
  kc_case (P := P) (kc_se c_Dk_answerEntry_177 (sm_iconst d_Dk_answerEntry_177 (by decide))) (
  kc_case (P := P) (kc_se rfl sm_no) (
  kc_case (P := P) (kc_se rfl sm_no) (
  kc_case (P := P) (kc_se c_Dk_answerEntry_174 (sm_goto d_Dk_answerEntry_174 (by decide))) (
  kc_case (P := P) (kc_se c_Dk_answerEntry_173 (sm_iconst d_Dk_answerEntry_173 (by decide))) (
  kc_case (P := P) (kc_se rfl sm_no) (
  kc_case (P := P) (kc_se rfl sm_no) (
  kc_case (P := P) (kc_se c_Dk_answerEntry_170 (sm_cm_gt d_Dk_answerEntry_170 (by decide))) (
  kc_case (P := P) (kc_se rfl sm_no) (
  kc_case (P := P) (kc_se rfl sm_no) (
  kc_case (P := P) (kc_se c_Dk_answerEntry_167 (sm_sipush d_Dk_answerEntry_167 (by decide))) (
  kc_case (P := P) (kc_se rfl sm_no) (
  kc_case (P := P) (kc_se rfl sm_no) (
  kc_case (P := P) (kc_se c_Dk_answerEntry_164 (sm_get (ci := 2) (C := "DirectoryDesk$Writer") (F := kF_Wr) rfl kin_Wr (Nat.le_of_ble_eq_true rfl) d_Dk_answerEntry_164 (kw1 72 rfl rfl))) (
  kc_case (P := P) (kc_se rfl sm_no) (
  kc_case (P := P) (kc_se rfl sm_no) (
  kc_case (P := P) (kc_se c_Dk_answerEntry_161 (sm_get (ci := 0) (C := "DirectoryDesk") (F := kF_Dk) rfl kin_Dk (Nat.le_of_ble_eq_true rfl) d_Dk_answerEntry_161 (kw2 1 rfl rfl))) (
  kc_case (P := P) (kc_se c_Dk_answerEntry_160 (sm_aload_n d_Dk_answerEntry_160 rfl)) (
  kc_case (P := P) (kc_se rfl sm_no) (
  kc_case (P := P) (kc_se rfl sm_no) (
  kc_case (P := P) (kc_se c_Dk_answerEntry_157 (sm_cm_gt d_Dk_answerEntry_157 (by decide))) (
  kc_case (P := P) (kc_se rfl sm_no) (
  kc_case (P := P) (kc_se c_Dk_answerEntry_155 (sm_bipush d_Dk_answerEntry_155 (by decide))) (
  kc_case (P := P) (kc_se c_Dk_answerEntry_154 (sm_isub d_Dk_answerEntry_154)) (
  kc_case (P := P) (kc_se c_Dk_answerEntry_153 (sm_iload_n d_Dk_answerEntry_153 rfl)) (
  kc_case (P := P) (kc_se rfl sm_no) (
  kc_case (P := P) (kc_se rfl sm_no) (
  kc_case (P := P) (kc_se c_Dk_answerEntry_150 (sm_get (ci := 2) (C := "DirectoryDesk$Writer") (F := kF_Wr) rfl kin_Wr (Nat.le_of_ble_eq_true rfl) d_Dk_answerEntry_150 (kw1 72 rfl rfl))) (
  kc_case (P := P) (kc_se rfl sm_no) (
  kc_case (P := P) (kc_se rfl sm_no) (
  kc_case (P := P) (kc_se c_Dk_answerEntry_147 (sm_get (ci := 0) (C := "DirectoryDesk") (F := kF_Dk) rfl kin_Dk (Nat.le_of_ble_eq_true rfl) d_Dk_answerEntry_147 (kw2 1 rfl rfl))) (
  kc_case (P := P) (kc_se c_Dk_answerEntry_146 (sm_aload_n d_Dk_answerEntry_146 rfl)) (
  kc_case (P := P) (kc_se rfl sm_no) (
  kc_case (P := P) (kc_se rfl sm_no) (
  kc_case (P := P) (kc_se c_Dk_answerEntry_143 (sm_cv (j := 49) rfl rfl kw_o kw_g wc_Wr_finish (Nat.le_of_ble_eq_true rfl) hd_Wr_finish (ci := 2) (F := kF_Wr) (N := 2) rfl (kw3 45 rfl rfl) wi_Wr_finish ws_Wr_finish wn_Wr_finish d_Dk_answerEntry_143)) (
  kc_case (P := P) (kc_se c_Dk_answerEntry_142 (sm_iload_n d_Dk_answerEntry_142 rfl)) (
  kc_case (P := P) (kc_se rfl sm_no) (
  kc_case (P := P) (kc_se rfl sm_no) (
  kc_case (P := P) (kc_se c_Dk_answerEntry_139 (sm_get (ci := 0) (C := "DirectoryDesk") (F := kF_Dk) rfl kin_Dk (Nat.le_of_ble_eq_true rfl) d_Dk_answerEntry_139 (kw2 1 rfl rfl))) (
  kc_case (P := P) (kc_se c_Dk_answerEntry_138 (sm_aload_n d_Dk_answerEntry_138 rfl)) (
  kc_case (P := P) (kc_se rfl sm_no) (
  kc_case (P := P) (kc_se rfl sm_no) (
  kc_case (P := P) (kc_se c_Dk_answerEntry_135 (sm_cv (j := 49) rfl rfl kw_o kw_g wc_Wr_finish (Nat.le_of_ble_eq_true rfl) hd_Wr_finish (ci := 2) (F := kF_Wr) (N := 2) rfl (kw3 45 rfl rfl) wi_Wr_finish ws_Wr_finish wn_Wr_finish d_Dk_answerEntry_135)) (
  kc_case (P := P) (kc_se rfl sm_no) (
  kc_case (P := P) (kc_se c_Dk_answerEntry_133 (sm_iload d_Dk_answerEntry_133)) (
  kc_case (P := P) (kc_se rfl sm_no) (
  kc_case (P := P) (kc_se rfl sm_no) (
  kc_case (P := P) (kc_se c_Dk_answerEntry_130 (sm_get (ci := 0) (C := "DirectoryDesk") (F := kF_Dk) rfl kin_Dk (Nat.le_of_ble_eq_true rfl) d_Dk_answerEntry_130 (kw2 1 rfl rfl))) (
  kc_case (P := P) (kc_se c_Dk_answerEntry_129 (sm_aload_n d_Dk_answerEntry_129 rfl)) (
  kc_case (P := P) (kc_se rfl sm_no) (
  kc_case (P := P) (kc_se rfl sm_no) (
  kc_case (P := P) (kc_se c_Dk_answerEntry_126 (sm_cv (j := 49) rfl rfl kw_o kw_g wc_Wr_finish (Nat.le_of_ble_eq_true rfl) hd_Wr_finish (ci := 2) (F := kF_Wr) (N := 2) rfl (kw3 45 rfl rfl) wi_Wr_finish ws_Wr_finish wn_Wr_finish d_Dk_answerEntry_126)) (
  kc_case (P := P) (kc_se rfl sm_no) (
  kc_case (P := P) (kc_se c_Dk_answerEntry_124 (sm_iload d_Dk_answerEntry_124)) (
  kc_case (P := P) (kc_se rfl sm_no) (
  kc_case (P := P) (kc_se rfl sm_no) (
  kc_case (P := P) (kc_se c_Dk_answerEntry_121 (sm_get (ci := 0) (C := "DirectoryDesk") (F := kF_Dk) rfl kin_Dk (Nat.le_of_ble_eq_true rfl) d_Dk_answerEntry_121 (kw2 1 rfl rfl))) (
  kc_case (P := P) (kc_se c_Dk_answerEntry_120 (sm_aload_n d_Dk_answerEntry_120 rfl)) (
  s_Dk_answerEntry_120))))))))))))))))))))))))))))))))))))))))))))))))))))))))))))
set_option maxRecDepth 100000 in
set_option maxHeartbeats 4000000 in
theorem s_Dk_answerEntry_196 : ∀ pc, pc < 196 → kc_Sim kt kw_A kw_N kt_cl kt_En "DirectoryDesk" prog_1_method_22_code 7 (some .boolean) "answerEntry" none pc (ct_Dk_answerEntry pc) := by
  let P : Nat → Prop := fun pc => kc_Sim kt kw_A kw_N kt_cl kt_En "DirectoryDesk" prog_1_method_22_code 7 (some .boolean) "answerEntry" none pc (ct_Dk_answerEntry pc)
  exact kc_case (P := P) (kc_se c_Dk_answerEntry_195 (sm_rz d_Dk_answerEntry_195 rfl)) (
  kc_case (P := P) (kc_se rfl sm_no) (
  kc_case (P := P) (kc_se c_Dk_answerEntry_193 (sm_iload d_Dk_answerEntry_193)) (
  kc_case (P := P) (kc_se rfl sm_no) (
  kc_case (P := P) (kc_se rfl sm_no) (
  kc_case (P := P) (kc_se c_Dk_answerEntry_190 (sm_put (ci := 2) (C := "DirectoryDesk$Writer") (F := kF_Wr) rfl kin_Wr kty_Wr ktk_Wr knm_Wr (Nat.le_of_ble_eq_true rfl) (by decide +kernel) d_Dk_answerEntry_190 (kw1 72 rfl rfl) rfl)) (
  kc_case (P := P) (kc_se c_Dk_answerEntry_189 (sm_iload_n d_Dk_answerEntry_189 rfl)) (
  kc_case (P := P) (kc_se rfl sm_no) (
  kc_case (P := P) (kc_se rfl sm_no) (
  kc_case (P := P) (kc_se c_Dk_answerEntry_186 (sm_get (ci := 0) (C := "DirectoryDesk") (F := kF_Dk) rfl kin_Dk (Nat.le_of_ble_eq_true rfl) d_Dk_answerEntry_186 (kw2 1 rfl rfl))) (
  kc_case (P := P) (kc_se c_Dk_answerEntry_185 (sm_aload_n d_Dk_answerEntry_185 rfl)) (
  kc_case (P := P) (kc_se rfl sm_no) (
  kc_case (P := P) (kc_se rfl sm_no) (
  kc_case (P := P) (kc_se c_Dk_answerEntry_182 (sm_if_ne d_Dk_answerEntry_182 (by decide))) (
  kc_case (P := P) (kc_se rfl sm_no) (
  kc_case (P := P) (kc_se c_Dk_answerEntry_180 (sm_iload d_Dk_answerEntry_180)) (
  s_Dk_answerEntry_180))))))))))))))))
theorem ka_nth_no_Dk_answerEntry (pc : Nat) (h : 196 ≤ pc) : ct_Dk_answerEntry pc = ka_no := ka_nth_ge _ pc (Nat.le_trans (Nat.le_of_eq (by rfl)) h)
theorem s_Dk_answerEntry (pc : Nat) : kc_Sim kt kw_A kw_N kt_cl kt_En "DirectoryDesk" prog_1_method_22_code 7 (some .boolean) "answerEntry" none pc (ct_Dk_answerEntry pc) := (Nat.lt_or_ge pc 196).elim (s_Dk_answerEntry_196 pc) (fun h => kc_se (ka_nth_no_Dk_answerEntry pc h) sm_no)
def cl_Dk_answerAttribute_0 : List kc_A := [ka_al 0 1, ka_get 0 1, ka_no, ka_no, ka_ci (nI 48) 2, ka_no, ka_cv 48 1 2 0 0, ka_no, ka_no, ka_is 3 1, ka_al 0 1, ka_get 0 1, ka_no, ka_no, ka_il 2 1, ka_cv 51 1 2 0 0, ka_no, ka_no, ka_al 0 1, ka_get 0 1, ka_no, ka_no, ka_ci (nI 49) 2, ka_no, ka_cv 48 1 2 0 0, ka_no, ka_no, ka_is 4 2, ka_no, ka_ci (nI 0) 1, ka_is 5 2, ka_no, ka_il 5 2, ka_no, ka_al 1 1, ka_get 6 2, ka_no, ka_no, ka_cm (fun x y => y ≤ x) 82, ka_no, ka_no, ka_al 0 1, ka_get 0 5, ka_no, ka_no, ka_get 8 2, ka_no, ka_no, ka_if (fun x => ¬ x = 0) 82, ka_no, ka_no, ka_al 1 1, ka_get 6 0, ka_no, ka_no, ka_il 5 2, ka_no, ka_iald, ka_il 2 1, ka_cm (fun x y => ¬ x = y) 76]
def cl_Dk_answerAttribute_1 : List kc_A := [ka_no, ka_no, ka_al 0 1, ka_get 0 1, ka_no, ka_no, ka_al 1 1, ka_get 6 1, ka_no, ka_no, ka_il 5 2, ka_no, ka_lald, ka_cv 52 1 2 0 0, ka_no, ka_no, ka_inc 5 (nI 1), ka_no, ka_no, ka_goto 32, ka_no, ka_no, ka_al 0 1, ka_get 0 1, ka_no, ka_no, ka_il 4 2, ka_no, ka_cv 49 1 2 0 0, ka_no, ka_no, ka_al 0 1, ka_get 0 1, ka_no, ka_no, ka_il 3 1, ka_cv 49 1 2 0 0, ka_no, ka_no, ka_ret]
def ct_Dk_answerAttribute : Nat → kc_A := fun pc => ka_nth (cl_Dk_answerAttribute_0 ++ (cl_Dk_answerAttribute_1)) pc
set_option maxRecDepth 100000 in
theorem c_Dk_answerAttribute_0 : ct_Dk_answerAttribute 0 = ka_al 0 1 := rfl
theorem d_Dk_answerAttribute_0 : decode prog_1_method_23_code 0 = .ok (.aload_n 0, 1) := by decide +kernel
set_option maxRecDepth 100000 in
theorem c_Dk_answerAttribute_1 : ct_Dk_answerAttribute 1 = ka_get 0 1 := rfl
theorem d_Dk_answerAttribute_1 : decode prog_1_method_23_code 1 = .ok (.getfield 19, 3) := by decide +kernel
set_option maxRecDepth 100000 in
theorem c_Dk_answerAttribute_4 : ct_Dk_answerAttribute 4 = ka_ci (nI 48) 2 := rfl
theorem d_Dk_answerAttribute_4 : decode prog_1_method_23_code 4 = .ok (.bipush 48, 2) := by decide +kernel
set_option maxRecDepth 100000 in
theorem c_Dk_answerAttribute_6 : ct_Dk_answerAttribute 6 = ka_cv 48 1 2 0 0 := rfl
theorem d_Dk_answerAttribute_6 : decode prog_1_method_23_code 6 = .ok (.invokevirtual 238, 3) := by decide +kernel
set_option maxRecDepth 100000 in
theorem c_Dk_answerAttribute_9 : ct_Dk_answerAttribute 9 = ka_is 3 1 := rfl
theorem d_Dk_answerAttribute_9 : decode prog_1_method_23_code 9 = .ok (.istore_n 3, 1) := by decide +kernel
set_option maxRecDepth 100000 in
theorem c_Dk_answerAttribute_10 : ct_Dk_answerAttribute 10 = ka_al 0 1 := rfl
theorem d_Dk_answerAttribute_10 : decode prog_1_method_23_code 10 = .ok (.aload_n 0, 1) := by decide +kernel
set_option maxRecDepth 100000 in
theorem c_Dk_answerAttribute_11 : ct_Dk_answerAttribute 11 = ka_get 0 1 := rfl
theorem d_Dk_answerAttribute_11 : decode prog_1_method_23_code 11 = .ok (.getfield 19, 3) := by decide +kernel
set_option maxRecDepth 100000 in
theorem c_Dk_answerAttribute_14 : ct_Dk_answerAttribute 14 = ka_il 2 1 := rfl
theorem d_Dk_answerAttribute_14 : decode prog_1_method_23_code 14 = .ok (.iload_n 2, 1) := by decide +kernel
set_option maxRecDepth 100000 in
theorem c_Dk_answerAttribute_15 : ct_Dk_answerAttribute 15 = ka_cv 51 1 2 0 0 := rfl
theorem d_Dk_answerAttribute_15 : decode prog_1_method_23_code 15 = .ok (.invokevirtual 266, 3) := by decide +kernel
set_option maxRecDepth 100000 in
theorem c_Dk_answerAttribute_18 : ct_Dk_answerAttribute 18 = ka_al 0 1 := rfl
theorem d_Dk_answerAttribute_18 : decode prog_1_method_23_code 18 = .ok (.aload_n 0, 1) := by decide +kernel
set_option maxRecDepth 100000 in
theorem c_Dk_answerAttribute_19 : ct_Dk_answerAttribute 19 = ka_get 0 1 := rfl
theorem d_Dk_answerAttribute_19 : decode prog_1_method_23_code 19 = .ok (.getfield 19, 3) := by decide +kernel
set_option maxRecDepth 100000 in
theorem c_Dk_answerAttribute_22 : ct_Dk_answerAttribute 22 = ka_ci (nI 49) 2 := rfl
theorem d_Dk_answerAttribute_22 : decode prog_1_method_23_code 22 = .ok (.bipush 49, 2) := by decide +kernel
set_option maxRecDepth 100000 in
theorem c_Dk_answerAttribute_24 : ct_Dk_answerAttribute 24 = ka_cv 48 1 2 0 0 := rfl
theorem d_Dk_answerAttribute_24 : decode prog_1_method_23_code 24 = .ok (.invokevirtual 238, 3) := by decide +kernel
set_option maxRecDepth 100000 in
theorem c_Dk_answerAttribute_27 : ct_Dk_answerAttribute 27 = ka_is 4 2 := rfl
theorem d_Dk_answerAttribute_27 : decode prog_1_method_23_code 27 = .ok (.istore 4, 2) := by decide +kernel
set_option maxRecDepth 100000 in
theorem c_Dk_answerAttribute_29 : ct_Dk_answerAttribute 29 = ka_ci (nI 0) 1 := rfl
theorem d_Dk_answerAttribute_29 : decode prog_1_method_23_code 29 = .ok (.iconst 0, 1) := by decide +kernel
set_option maxRecDepth 100000 in
theorem c_Dk_answerAttribute_30 : ct_Dk_answerAttribute 30 = ka_is 5 2 := rfl
theorem d_Dk_answerAttribute_30 : decode prog_1_method_23_code 30 = .ok (.istore 5, 2) := by decide +kernel
set_option maxRecDepth 100000 in
theorem c_Dk_answerAttribute_32 : ct_Dk_answerAttribute 32 = ka_il 5 2 := rfl
theorem d_Dk_answerAttribute_32 : decode prog_1_method_23_code 32 = .ok (.iload 5, 2) := by decide +kernel
set_option maxRecDepth 100000 in
theorem c_Dk_answerAttribute_34 : ct_Dk_answerAttribute 34 = ka_al 1 1 := rfl
theorem d_Dk_answerAttribute_34 : decode prog_1_method_23_code 34 = .ok (.aload_n 1, 1) := by decide +kernel
set_option maxRecDepth 100000 in
theorem c_Dk_answerAttribute_35 : ct_Dk_answerAttribute 35 = ka_get 6 2 := rfl
theorem d_Dk_answerAttribute_35 : decode prog_1_method_23_code 35 = .ok (.getfield 134, 3) := by decide +kernel
set_option maxRecDepth 100000 in
theorem c_Dk_answerAttribute_38 : ct_Dk_answerAttribute 38 = ka_cm (fun x y => y ≤ x) 82 := rfl
theorem d_Dk_answerAttribute_38 : decode prog_1_method_23_code 38 = .ok (.if_icmp .ge 44, 3) := by decide +kernel
set_option maxRecDepth 100000 in
theorem c_Dk_answerAttribute_41 : ct_Dk_answerAttribute 41 = ka_al 0 1 := rfl
theorem d_Dk_answerAttribute_41 : decode prog_1_method_23_code 41 = .ok (.aload_n 0, 1) := by decide +kernel
set_option maxRecDepth 100000 in
theorem c_Dk_answerAttribute_42 : ct_Dk_answerAttribute 42 = ka_get 0 5 := rfl
theorem d_Dk_answerAttribute_42 : decode prog_1_method_23_code 42 = .ok (.getfield 47, 3) := by decide +kernel
set_option maxRecDepth 100000 in
theorem c_Dk_answerAttribute_45 : ct_Dk_answerAttribute 45 = ka_get 8 2 := rfl
theorem d_Dk_answerAttribute_45 : decode prog_1_method_23_code 45 = .ok (.getfield 269, 3) := by decide +kernel
set_option maxRecDepth 100000 in
theorem c_Dk_answerAttribute_48 : ct_Dk_answerAttribute 48 = ka_if (fun x => ¬ x = 0) 82 := rfl
theorem d_Dk_answerAttribute_48 : decode prog_1_method_23_code 48 = .ok (.ifCond .ne 34, 3) := by decide +kernel
set_option maxRecDepth 100000 in
theorem c_Dk_answerAttribute_51 : ct_Dk_answerAttribute 51 = ka_al 1 1 := rfl
theorem d_Dk_answerAttribute_51 : decode prog_1_method_23_code 51 = .ok (.aload_n 1, 1) := by decide +kernel
set_option maxRecDepth 100000 in
theorem c_Dk_answerAttribute_52 : ct_Dk_answerAttribute 52 = ka_get 6 0 := rfl
theorem d_Dk_answerAttribute_52 : decode prog_1_method_23_code 52 = .ok (.getfield 139, 3) := by decide +kernel
set_option maxRecDepth 100000 in
theorem c_Dk_answerAttribute_55 : ct_Dk_answerAttribute 55 = ka_il 5 2 := rfl
theorem d_Dk_answerAttribute_55 : decode prog_1_method_23_code 55 = .ok (.iload 5, 2) := by decide +kernel
set_option maxRecDepth 100000 in
theorem c_Dk_answerAttribute_57 : ct_Dk_answerAttribute 57 = ka_iald := rfl
theorem d_Dk_answerAttribute_57 : decode prog_1_method_23_code 57 = .ok (.iaload, 1) := by decide +kernel
set_option maxRecDepth 100000 in
theorem c_Dk_answerAttribute_58 : ct_Dk_answerAttribute 58 = ka_il 2 1 := rfl
theorem d_Dk_answerAttribute_58 : decode prog_1_method_23_code 58 = .ok (.iload_n 2, 1) := by decide +kernel
set_option maxRecDepth 100000 in
theorem c_Dk_answerAttribute_59 : ct_Dk_answerAttribute 59 = ka_cm (fun x y => ¬ x = y) 76 := rfl
theorem d_Dk_answerAttribute_59 : decode prog_1_method_23_code 59 = .ok (.if_icmp .ne 17, 3) := by decide +kernel
set_option maxRecDepth 100000 in
theorem c_Dk_answerAttribute_62 : ct_Dk_answerAttribute 62 = ka_al 0 1 := rfl
theorem d_Dk_answerAttribute_62 : decode prog_1_method_23_code 62 = .ok (.aload_n 0, 1) := by decide +kernel
set_option maxRecDepth 100000 in
theorem c_Dk_answerAttribute_63 : ct_Dk_answerAttribute 63 = ka_get 0 1 := rfl
theorem d_Dk_answerAttribute_63 : decode prog_1_method_23_code 63 = .ok (.getfield 19, 3) := by decide +kernel
set_option maxRecDepth 100000 in
theorem c_Dk_answerAttribute_66 : ct_Dk_answerAttribute 66 = ka_al 1 1 := rfl
theorem d_Dk_answerAttribute_66 : decode prog_1_method_23_code 66 = .ok (.aload_n 1, 1) := by decide +kernel
set_option maxRecDepth 100000 in
theorem c_Dk_answerAttribute_67 : ct_Dk_answerAttribute 67 = ka_get 6 1 := rfl
theorem d_Dk_answerAttribute_67 : decode prog_1_method_23_code 67 = .ok (.getfield 142, 3) := by decide +kernel
set_option maxRecDepth 100000 in
theorem c_Dk_answerAttribute_70 : ct_Dk_answerAttribute 70 = ka_il 5 2 := rfl
theorem d_Dk_answerAttribute_70 : decode prog_1_method_23_code 70 = .ok (.iload 5, 2) := by decide +kernel
set_option maxRecDepth 100000 in
theorem c_Dk_answerAttribute_72 : ct_Dk_answerAttribute 72 = ka_lald := rfl
theorem d_Dk_answerAttribute_72 : decode prog_1_method_23_code 72 = .ok (.laload, 1) := by decide +kernel
set_option maxRecDepth 100000 in
theorem c_Dk_answerAttribute_73 : ct_Dk_answerAttribute 73 = ka_cv 52 1 2 0 0 := rfl
theorem d_Dk_answerAttribute_73 : decode prog_1_method_23_code 73 = .ok (.invokevirtual 272, 3) := by decide +kernel
set_option maxRecDepth 100000 in
theorem c_Dk_answerAttribute_76 : ct_Dk_answerAttribute 76 = ka_inc 5 (nI 1) := rfl
theorem d_Dk_answerAttribute_76 : decode prog_1_method_23_code 76 = .ok (.iinc 5 1, 3) := by decide +kernel
set_option maxRecDepth 100000 in
theorem c_Dk_answerAttribute_79 : ct_Dk_answerAttribute 79 = ka_goto 32 := rfl
theorem d_Dk_answerAttribute_79 : decode prog_1_method_23_code 79 = .ok (.goto (-47), 3) := by decide +kernel
set_option maxRecDepth 100000 in
theorem c_Dk_answerAttribute_82 : ct_Dk_answerAttribute 82 = ka_al 0 1 := rfl
theorem d_Dk_answerAttribute_82 : decode prog_1_method_23_code 82 = .ok (.aload_n 0, 1) := by decide +kernel
set_option maxRecDepth 100000 in
theorem c_Dk_answerAttribute_83 : ct_Dk_answerAttribute 83 = ka_get 0 1 := rfl
theorem d_Dk_answerAttribute_83 : decode prog_1_method_23_code 83 = .ok (.getfield 19, 3) := by decide +kernel
set_option maxRecDepth 100000 in
theorem c_Dk_answerAttribute_86 : ct_Dk_answerAttribute 86 = ka_il 4 2 := rfl
theorem d_Dk_answerAttribute_86 : decode prog_1_method_23_code 86 = .ok (.iload 4, 2) := by decide +kernel
set_option maxRecDepth 100000 in
theorem c_Dk_answerAttribute_88 : ct_Dk_answerAttribute 88 = ka_cv 49 1 2 0 0 := rfl
theorem d_Dk_answerAttribute_88 : decode prog_1_method_23_code 88 = .ok (.invokevirtual 263, 3) := by decide +kernel
set_option maxRecDepth 100000 in
theorem c_Dk_answerAttribute_91 : ct_Dk_answerAttribute 91 = ka_al 0 1 := rfl
theorem d_Dk_answerAttribute_91 : decode prog_1_method_23_code 91 = .ok (.aload_n 0, 1) := by decide +kernel
set_option maxRecDepth 100000 in
theorem c_Dk_answerAttribute_92 : ct_Dk_answerAttribute 92 = ka_get 0 1 := rfl
theorem d_Dk_answerAttribute_92 : decode prog_1_method_23_code 92 = .ok (.getfield 19, 3) := by decide +kernel
set_option maxRecDepth 100000 in
theorem c_Dk_answerAttribute_95 : ct_Dk_answerAttribute 95 = ka_il 3 1 := rfl
theorem d_Dk_answerAttribute_95 : decode prog_1_method_23_code 95 = .ok (.iload_n 3, 1) := by decide +kernel
set_option maxRecDepth 100000 in
theorem c_Dk_answerAttribute_96 : ct_Dk_answerAttribute 96 = ka_cv 49 1 2 0 0 := rfl
theorem d_Dk_answerAttribute_96 : decode prog_1_method_23_code 96 = .ok (.invokevirtual 263, 3) := by decide +kernel
set_option maxRecDepth 100000 in
theorem c_Dk_answerAttribute_99 : ct_Dk_answerAttribute 99 = ka_ret := rfl
theorem d_Dk_answerAttribute_99 : decode prog_1_method_23_code 99 = .ok (.return_, 1) := by decide +kernel
set_option maxRecDepth 100000 in
set_option maxHeartbeats 4000000 in
theorem s_Dk_answerAttribute_60 : ∀ pc, pc < 60 → kc_Sim kt kw_A kw_N kt_cl kt_En "DirectoryDesk" prog_1_method_23_code 6 (none) "answerAttribute" none pc (ct_Dk_answerAttribute pc) := by
  let P : Nat → Prop := fun pc => kc_Sim kt kw_A kw_N kt_cl kt_En "DirectoryDesk" prog_1_method_23_code 6 (none) "answerAttribute" none pc (ct_Dk_answerAttribute pc)
  exact kc_case (P := P) (kc_se c_Dk_answerAttribute_59 (sm_cm_ne d_Dk_answerAttribute_59 (by decide))) (
  kc_case (P := P) (kc_se c_Dk_answerAttribute_58 (sm_iload_n d_Dk_answerAttribute_58 rfl)) (
  kc_case (P := P) (kc_se c_Dk_answerAttribute_57 (sm_iald d_Dk_answerAttribute_57)) (
  kc_case (P := P) (kc_se rfl sm_no) (
  kc_case (P := P) (kc_se c_Dk_answerAttribute_55 (sm_iload d_Dk_answerAttribute_55)) (
  kc_case (P := P) (kc_se rfl sm_no) (
  kc_case (P := P) (kc_se rfl sm_no) (
  kc_case (P := P) (kc_se c_Dk_answerAttribute_52 (sm_get (ci := 6) (C := "DirectoryDesk$Pairs") (F := kF_Pa) rfl kin_Pa (Nat.le_of_ble_eq_true rfl) d_Dk_answerAttribute_52 (kw1 123 rfl rfl))) (
  kc_case (P := P) (kc_se c_Dk_answerAttribute_51 (sm_aload_n d_Dk_answerAttribute_51 rfl)) (
  kc_case (P := P) (kc_se rfl sm_no) (
  kc_case (P := P) (kc_se rfl sm_no) (
  kc_case (P := P) (kc_se c_Dk_answerAttribute_48 (sm_if_ne d_Dk_answerAttribute_48 (by decide))) (
  kc_case (P := P) (kc_se rfl sm_no) (
  kc_case (P := P) (kc_se rfl sm_no) (
  kc_case (P := P) (kc_se c_Dk_answerAttribute_45 (sm_get (ci := 8) (C := "DirectoryDesk$Query") (F := kF_Qu) rfl kin_Qu (Nat.le_of_ble_eq_true rfl) d_Dk_answerAttribute_45 (kw1 205 rfl rfl))) (
  kc_case (P := P) (kc_se rfl sm_no) (
  kc_case (P := P) (kc_se rfl sm_no) (
  kc_case (P := P) (kc_se c_Dk_answerAttribute_42 (sm_get (ci := 0) (C := "DirectoryDesk") (F := kF_Dk) rfl kin_Dk (Nat.le_of_ble_eq_true rfl) d_Dk_answerAttribute_42 (kw2 5 rfl rfl))) (
  kc_case (P := P) (kc_se c_Dk_answerAttribute_41 (sm_aload_n d_Dk_answerAttribute_41 rfl)) (
  kc_case (P := P) (kc_se rfl sm_no) (
  kc_case (P := P) (kc_se rfl sm_no) (
  kc_case (P := P) (kc_se c_Dk_answerAttribute_38 (sm_cm_ge d_Dk_answerAttribute_38 (by decide))) (
  kc_case (P := P) (kc_se rfl sm_no) (
  kc_case (P := P) (kc_se rfl sm_no) (
  kc_case (P := P) (kc_se c_Dk_answerAttribute_35 (sm_get (ci := 6) (C := "DirectoryDesk$Pairs") (F := kF_Pa) rfl kin_Pa (Nat.le_of_ble_eq_true rfl) d_Dk_answerAttribute_35 (kw1 127 rfl rfl))) (
  kc_case (P := P) (kc_se c_Dk_answerAttribute_34 (sm_aload_n d_Dk_answerAttribute_34 rfl)) (
  kc_case (P := P) (kc_se rfl sm_no) (
  kc_case (P := P) (kc_se c_Dk_answerAttribute_32 (sm_iload d_Dk_answerAttribute_32)) (
  kc_case (P := P) (kc_se rfl sm_no) (
  kc_case (P := P) (kc_se c_Dk_answerAttribute_30 (sm_istore d_Dk_answerAttribute_30 (Nat.le_of_ble_eq_true rfl))) (
  kc_case (P := P) (kc_se c_Dk_answerAttribute_29 (sm_iconst d_Dk_answerAttribute_29 (by decide))) (
  kc_case (P := P) (kc_se rfl sm_no) (
  kc_case (P := P) (kc_se c_Dk_answerAttribute_27 (sm_istore d_Dk_answerAttribute_27 (Nat.le_of_ble_eq_true rfl))) (
  kc_case (P := P) (kc_se rfl sm_no) (
  kc_case (P := P) (kc_se rfl sm_no) (
  kc_case (P := P) (kc_se c_Dk_answerAttribute_24 (sm_cv (j := 48) rfl rfl kw_o kw_g wc_Wr_begin (Nat.le_of_ble_eq_true rfl) hd_Wr_begin (ci := 2) (F := kF_Wr) (N := 2) rfl (kw3 2 rfl rfl) wi_Wr_begin ws_Wr_begin wn_Wr_begin d_Dk_answerAttribute_24)) (
  kc_case (P := P) (kc_se rfl sm_no) (
  kc_case (P := P) (kc_se c_Dk_answerAttribute_22 (sm_bipush d_Dk_answerAttribute_22 (by decide))) (
  kc_case (P := P) (kc_se rfl sm_no) (
  kc_case (P := P) (kc_se rfl sm_no) (
  kc_case (P := P) (kc_se c_Dk_answerAttribute_19 (sm_get (ci := 0) (C := "DirectoryDesk") (F := kF_Dk) rfl kin_Dk (Nat.le_of_ble_eq_true rfl) d_Dk_answerAttribute_19 (kw2 1 rfl rfl))) (
  kc_case (P := P) (kc_se c_Dk_answerAttribute_18 (sm_aload_n d_Dk_answerAttribute_18 rfl)) (
  kc_case (P := P) (kc_se rfl sm_no) (
  kc_case (P := P) (kc_se rfl sm_no) (
  kc_case (P := P) (kc_se c_Dk_answerAttribute_15 (sm_cv (j := 51) rfl rfl kw_o kw_g wc_Wr_letter (Nat.le_of_ble_eq_true rfl) hd_Wr_letter (ci := 2) (F := kF_Wr) (N := 2) rfl (kw3 37 rfl rfl) wi_Wr_letter ws_Wr_letter wn_Wr_letter d_Dk_answerAttribute_15)) (
  kc_case (P := P) (kc_se c_Dk_answerAttribute_14 (sm_iload_n d_Dk_answerAttribute_14 rfl)) (
  kc_case (P := P) (kc_se rfl sm_no) (
  kc_case (P := P) (kc_se rfl sm_no) (
  kc_case (P := P) (kc_se c_Dk_answerAttribute_11 (sm_get (ci := 0) (C := "DirectoryDesk") (F := kF_Dk) rfl kin_Dk (Nat.le_of_ble_eq_true rfl) d_Dk_answerAttribute_11 (kw2 1 rfl rfl))) (
  kc_case (P := P) (kc_se c_Dk_answerAttribute_10 (sm_aload_n d_Dk_answerAttribute_10 rfl)) (
  kc_case (P := P) (kc_se c_Dk_answerAttribute_9 (sm_istore_n d_Dk_answerAttribute_9 rfl (Nat.le_of_ble_eq_true rfl))) (
  kc_case (P := P) (kc_se rfl sm_no) (
  kc_case (P := P) (kc_se rfl sm_no) (
  kc_case (P := P) (kc_se c_Dk_answerAttribute_6 (sm_cv (j := 48) rfl rfl kw_o kw_g wc_Wr_begin (Nat.le_of_ble_eq_true rfl) hd_Wr_begin (ci := 2) (F := kF_Wr) (N := 2) rfl (kw3 2 rfl rfl) wi_Wr_begin ws_Wr_begin wn_Wr_begin d_Dk_answerAttribute_6)) (
  kc_case (P := P) (kc_se rfl sm_no) (
  kc_case (P := P) (kc_se c_Dk_answerAttribute_4 (sm_bipush d_Dk_answerAttribute_4 (by decide))) (
  kc_case (P := P) (kc_se rfl sm_no) (
  kc_case (P := P) (kc_se rfl sm_no) (
  kc_case (P := P) (kc_se c_Dk_answerAttribute_1 (sm_get (ci := 0) (C := "DirectoryDesk") (F := kF_Dk) rfl kin_Dk (Nat.le_of_ble_eq_true rfl) d_Dk_answerAttribute_1 (kw2 1 rfl rfl))) (
  kc_case (P := P) (kc_se c_Dk_answerAttribute_0 (sm_aload_n d_Dk_answerAttribute_0 rfl)) (
  kc_case0))))))))))))))))))))))))))))))))))))))))))))))))))))))))))))
set_option maxRecDepth 100000 in
set_option maxHeartbeats 4000000 in
theorem s_Dk_answerAttribute_100 : ∀ pc, pc < 100 → kc_Sim kt kw_A kw_N kt_cl kt_En "DirectoryDesk" prog_1_method_23_code 6 (none) "answerAttribute" none pc (ct_Dk_answerAttribute pc) := by
  let P : Nat → Prop := fun pc => kc_Sim kt kw_A kw_N kt_cl kt_En "DirectoryDesk" prog_1_method_23_code 6 (none) "answerAttribute" none pc (ct_Dk_answerAttribute pc)
  exact kc_case (P := P) (kc_se c_Dk_answerAttribute_99 (sm_ret d_Dk_answerAttribute_99 rfl)) (
  kc_case (P := P) (kc_se rfl sm_no) (
  kc_case (P := P) (kc_se rfl sm_no) (
  kc_case (P := P) (kc_se c_Dk_answerAttribute_96 (sm_cv (j := 49) rfl rfl kw_o kw_g wc_Wr_finish (Nat.le_of_ble_eq_true rfl) hd_Wr_finish (ci := 2) (F := kF_Wr) (N := 2) rfl (kw3 45 rfl rfl) wi_Wr_finish ws_Wr_finish wn_Wr_finish d_Dk_answerAttribute_96)) (
  kc_case (P := P) (kc_se c_Dk_answerAttribute_95 (sm_iload_n d_Dk_answerAttribute_95 rfl)) (
  kc_case (P := P) (kc_se rfl sm_no) (
  kc_case (P := P) (kc_se rfl sm_no) (
  kc_case (P := P) (kc_se c_Dk_answerAttribute_92 (sm_get (ci := 0) (C := "DirectoryDesk") (F := kF_Dk) rfl kin_Dk (Nat.le_of_ble_eq_true rfl) d_Dk_answerAttribute_92 (kw2 1 rfl rfl))) (
  kc_case (P := P) (kc_se c_Dk_answerAttribute_91 (sm_aload_n d_Dk_answerAttribute_91 rfl)) (
  kc_case (P := P) (kc_se rfl sm_no) (
  kc_case (P := P) (kc_se rfl sm_no) (
  kc_case (P := P) (kc_se c_Dk_answerAttribute_88 (sm_cv (j := 49) rfl rfl kw_o kw_g wc_Wr_finish (Nat.le_of_ble_eq_true rfl) hd_Wr_finish (ci := 2) (F := kF_Wr) (N := 2) rfl (kw3 45 rfl rfl) wi_Wr_finish ws_Wr_finish wn_Wr_finish d_Dk_answerAttribute_88)) (
  kc_case (P := P) (kc_se rfl sm_no) (
  kc_case (P := P) (kc_se c_Dk_answerAttribute_86 (sm_iload d_Dk_answerAttribute_86)) (
  kc_case (P := P) (kc_se rfl sm_no) (
  kc_case (P := P) (kc_se rfl sm_no) (
  kc_case (P := P) (kc_se c_Dk_answerAttribute_83 (sm_get (ci := 0) (C := "DirectoryDesk") (F := kF_Dk) rfl kin_Dk (Nat.le_of_ble_eq_true rfl) d_Dk_answerAttribute_83 (kw2 1 rfl rfl))) (
  kc_case (P := P) (kc_se c_Dk_answerAttribute_82 (sm_aload_n d_Dk_answerAttribute_82 rfl)) (
  kc_case (P := P) (kc_se rfl sm_no) (
  kc_case (P := P) (kc_se rfl sm_no) (
  kc_case (P := P) (kc_se c_Dk_answerAttribute_79 (sm_goto d_Dk_answerAttribute_79 (by decide))) (
  kc_case (P := P) (kc_se rfl sm_no) (
  kc_case (P := P) (kc_se rfl sm_no) (
  kc_case (P := P) (kc_se c_Dk_answerAttribute_76 (sm_inc d_Dk_answerAttribute_76 (by decide) (Nat.le_of_ble_eq_true rfl))) (
  kc_case (P := P) (kc_se rfl sm_no) (
  kc_case (P := P) (kc_se rfl sm_no) (
  kc_case (P := P) (kc_se c_Dk_answerAttribute_73 (sm_cv (j := 52) rfl rfl kw_o kw_g wc_Wr_value (Nat.le_of_ble_eq_true rfl) hd_Wr_value (ci := 2) (F := kF_Wr) (N := 2) rfl (kw3 41 rfl rfl) wi_Wr_value ws_Wr_value wn_Wr_value d_Dk_answerAttribute_73)) (
  kc_case (P := P) (kc_se c_Dk_answerAttribute_72 (sm_lald d_Dk_answerAttribute_72)) (
  kc_case (P := P) (kc_se rfl sm_no) (
  kc_case (P := P) (kc_se c_Dk_answerAttribute_70 (sm_iload d_Dk_answerAttribute_70)) (
  kc_case (P := P) (kc_se rfl sm_no) (
  kc_case (P := P) (kc_se rfl sm_no) (
  kc_case (P := P) (kc_se c_Dk_answerAttribute_67 (sm_get (ci := 6) (C := "DirectoryDesk$Pairs") (F := kF_Pa) rfl kin_Pa (Nat.le_of_ble_eq_true rfl) d_Dk_answerAttribute_67 (kw1 125 rfl rfl))) (
  kc_case (P := P) (kc_se c_Dk_answerAttribute_66 (sm_aload_n d_Dk_answerAttribute_66 rfl)) (
  kc_case (P := P) (kc_se rfl sm_no) (
  kc_case (P := P) (kc_se rfl sm_no) (
  kc_case (P := P) (kc_se c_Dk_answerAttribute_63 (sm_get (ci := 0) (C := "DirectoryDesk") (F := kF_Dk) rfl kin_Dk (Nat.le_of_ble_eq_true rfl) d_Dk_answerAttribute_63 (kw2 1 rfl rfl))) (
  kc_case (P := P) (kc_se c_Dk_answerAttribute_62 (sm_aload_n d_Dk_answerAttribute_62 rfl)) (
  kc_case (P := P) (kc_se rfl sm_no) (
  kc_case (P := P) (kc_se rfl sm_no) (
  s_Dk_answerAttribute_60))))))))))))))))))))))))))))))))))))))))
theorem ka_nth_no_Dk_answerAttribute (pc : Nat) (h : 100 ≤ pc) : ct_Dk_answerAttribute pc = ka_no := ka_nth_ge _ pc (Nat.le_trans (Nat.le_of_eq (by rfl)) h)
theorem s_Dk_answerAttribute (pc : Nat) : kc_Sim kt kw_A kw_N kt_cl kt_En "DirectoryDesk" prog_1_method_23_code 6 (none) "answerAttribute" none pc (ct_Dk_answerAttribute pc) := (Nat.lt_or_ge pc 100).elim (s_Dk_answerAttribute_100 pc) (fun h => kc_se (ka_nth_no_Dk_answerAttribute pc h) sm_no)
def cl_Dk_conclude_0 : List kc_A := [ka_al 0 1, ka_get 0 1, ka_no, ka_no, ka_ci (nI 48) 2, ka_no, ka_cv 48 1 2 0 0, ka_no, ka_no, ka_is 3 1, ka_al 0 1, ka_get 0 1, ka_no, ka_no, ka_al 0 1, ka_get 0 0, ka_no, ka_no, ka_get 1 5, ka_no, ka_no, ka_cv 50 1 2 0 0, ka_no, ka_no, ka_al 0 1, ka_get 0 1, ka_no, ka_no, ka_il 1 1, ka_cv 48 1 2 0 0, ka_no, ka_no, ka_is 4 2, ka_no, ka_al 0 1, ka_get 0 1, ka_no, ka_no, ka_ci (nI 10) 2, ka_no, ka_cv 48 1 2 0 0, ka_no, ka_no, ka_is 5 2, ka_no, ka_al 0 1, ka_get 0 1, ka_no, ka_no, ka_il 2 1, ka_cv 47 1 2 0 0, ka_no, ka_no, ka_al 0 1, ka_get 0 1, ka_no, ka_no, ka_il 5 2, ka_no, ka_cv 49 1 2 0 0]
def cl_Dk_conclude_1 : List kc_A := [ka_no, ka_no, ka_il 2 1, ka_ci (nI 32) 2, ka_no, ka_cm (fun x y => ¬ x = y) 82, ka_no, ka_no, ka_al 0 1, ka_get 0 2, ka_no, ka_no, ka_al 0 1, ka_get 0 3, ka_no, ka_no, ka_cv 57 1 3 0 0, ka_no, ka_no, ka_goto 83, ka_no, ka_no, ka_ci (-1) 1, ka_is 6 2, ka_no, ka_il 6 2, ka_no, ka_ci (-1) 1, ka_cm (fun x y => ¬ x = y) 103, ka_no, ka_no, ka_al 0 1, ka_get 0 1, ka_no, ka_no, ka_ci (nI 4) 1, ka_cv 48 1 2 0 0, ka_no, ka_no, ka_pop, ka_goto 123, ka_no, ka_no, ka_al 0 1, ka_get 0 1, ka_no, ka_no, ka_al 0 1, ka_get 0 2, ka_no, ka_no, ka_get 3 0, ka_no, ka_no, ka_il 6 2, ka_no, ka_aald, ka_get 4 0, ka_no, ka_no]
def cl_Dk_conclude_2 : List kc_A := [ka_cv 53 1 2 0 0, ka_no, ka_no, ka_al 0 1, ka_get 0 1, ka_no, ka_no, ka_ci (nI 4) 1, ka_cv 48 1 2 0 0, ka_no, ka_no, ka_pop, ka_al 0 1, ka_get 0 1, ka_no, ka_no, ka_il 4 2, ka_no, ka_cv 49 1 2 0 0, ka_no, ka_no, ka_al 0 1, ka_get 0 1, ka_no, ka_no, ka_il 3 1, ka_cv 49 1 2 0 0, ka_no, ka_no, ka_ret]
def ct_Dk_conclude : Nat → kc_A := fun pc => ka_nth (cl_Dk_conclude_0 ++ (cl_Dk_conclude_1 ++ (cl_Dk_conclude_2))) pc
set_option maxRecDepth 100000 in
theorem c_Dk_conclude_0 : ct_Dk_conclude 0 = ka_al 0 1 := rfl
theorem d_Dk_conclude_0 : decode prog_1_method_24_code 0 = .ok (.aload_n 0, 1) := by decide +kernel
set_option maxRecDepth 100000 in
theorem c_Dk_conclude_1 : ct_Dk_conclude 1 = ka_get 0 1 := rfl
theorem d_Dk_conclude_1 : decode prog_1_method_24_code 1 = .ok (.getfield 19, 3) := by decide +kernel
set_option maxRecDepth 100000 in
theorem c_Dk_conclude_4 : ct_Dk_conclude 4 = ka_ci (nI 48) 2 := rfl
theorem d_Dk_conclude_4 : decode prog_1_method_24_code 4 = .ok (.bipush 48, 2) := by decide +kernel
set_option maxRecDepth 100000 in
theorem c_Dk_conclude_6 : ct_Dk_conclude 6 = ka_cv 48 1 2 0 0 := rfl
theorem d_Dk_conclude_6 : decode prog_1_method_24_code 6 = .ok (.invokevirtual 238, 3) := by decide +kernel
set_option maxRecDepth 100000 in
theorem c_Dk_conclude_9 : ct_Dk_conclude 9 = ka_is 3 1 := rfl
theorem d_Dk_conclude_9 : decode prog_1_method_24_code 9 = .ok (.istore_n 3, 1) := by decide +kernel
set_option maxRecDepth 100000 in
theorem c_Dk_conclude_10 : ct_Dk_conclude 10 = ka_al 0 1 := rfl
theorem d_Dk_conclude_10 : decode prog_1_method_24_code 10 = .ok (.aload_n 0, 1) := by decide +kernel
set_option maxRecDepth 100000 in
theorem c_Dk_conclude_11 : ct_Dk_conclude 11 = ka_get 0 1 := rfl
theorem d_Dk_conclude_11 : decode prog_1_method_24_code 11 = .ok (.getfield 19, 3) := by decide +kernel
set_option maxRecDepth 100000 in
theorem c_Dk_conclude_14 : ct_Dk_conclude 14 = ka_al 0 1 := rfl
theorem d_Dk_conclude_14 : decode prog_1_method_24_code 14 = .ok (.aload_n 0, 1) := by decide +kernel
set_option maxRecDepth 100000 in
theorem c_Dk_conclude_15 : ct_Dk_conclude 15 = ka_get 0 0 := rfl
theorem d_Dk_conclude_15 : decode prog_1_method_24_code 15 = .ok (.getfield 10, 3) := by decide +kernel
set_option maxRecDepth 100000 in
theorem c_Dk_conclude_18 : ct_Dk_conclude 18 = ka_get 1 5 := rfl
theorem d_Dk_conclude_18 : decode prog_1_method_24_code 18 = .ok (.getfield 242, 3) := by decide +kernel
set_option maxRecDepth 100000 in
theorem c_Dk_conclude_21 : ct_Dk_conclude 21 = ka_cv 50 1 2 0 0 := rfl
theorem d_Dk_conclude_21 : decode prog_1_method_24_code 21 = .ok (.invokevirtual 245, 3) := by decide +kernel
set_option maxRecDepth 100000 in
theorem c_Dk_conclude_24 : ct_Dk_conclude 24 = ka_al 0 1 := rfl
theorem d_Dk_conclude_24 : decode prog_1_method_24_code 24 = .ok (.aload_n 0, 1) := by decide +kernel
set_option maxRecDepth 100000 in
theorem c_Dk_conclude_25 : ct_Dk_conclude 25 = ka_get 0 1 := rfl
theorem d_Dk_conclude_25 : decode prog_1_method_24_code 25 = .ok (.getfield 19, 3) := by decide +kernel
set_option maxRecDepth 100000 in
theorem c_Dk_conclude_28 : ct_Dk_conclude 28 = ka_il 1 1 := rfl
theorem d_Dk_conclude_28 : decode prog_1_method_24_code 28 = .ok (.iload_n 1, 1) := by decide +kernel
set_option maxRecDepth 100000 in
theorem c_Dk_conclude_29 : ct_Dk_conclude 29 = ka_cv 48 1 2 0 0 := rfl
theorem d_Dk_conclude_29 : decode prog_1_method_24_code 29 = .ok (.invokevirtual 238, 3) := by decide +kernel
set_option maxRecDepth 100000 in
theorem c_Dk_conclude_32 : ct_Dk_conclude 32 = ka_is 4 2 := rfl
theorem d_Dk_conclude_32 : decode prog_1_method_24_code 32 = .ok (.istore 4, 2) := by decide +kernel
set_option maxRecDepth 100000 in
theorem c_Dk_conclude_34 : ct_Dk_conclude 34 = ka_al 0 1 := rfl
theorem d_Dk_conclude_34 : decode prog_1_method_24_code 34 = .ok (.aload_n 0, 1) := by decide +kernel
set_option maxRecDepth 100000 in
theorem c_Dk_conclude_35 : ct_Dk_conclude 35 = ka_get 0 1 := rfl
theorem d_Dk_conclude_35 : decode prog_1_method_24_code 35 = .ok (.getfield 19, 3) := by decide +kernel
set_option maxRecDepth 100000 in
theorem c_Dk_conclude_38 : ct_Dk_conclude 38 = ka_ci (nI 10) 2 := rfl
theorem d_Dk_conclude_38 : decode prog_1_method_24_code 38 = .ok (.bipush 10, 2) := by decide +kernel
set_option maxRecDepth 100000 in
theorem c_Dk_conclude_40 : ct_Dk_conclude 40 = ka_cv 48 1 2 0 0 := rfl
theorem d_Dk_conclude_40 : decode prog_1_method_24_code 40 = .ok (.invokevirtual 238, 3) := by decide +kernel
set_option maxRecDepth 100000 in
theorem c_Dk_conclude_43 : ct_Dk_conclude 43 = ka_is 5 2 := rfl
theorem d_Dk_conclude_43 : decode prog_1_method_24_code 43 = .ok (.istore 5, 2) := by decide +kernel
set_option maxRecDepth 100000 in
theorem c_Dk_conclude_45 : ct_Dk_conclude 45 = ka_al 0 1 := rfl
theorem d_Dk_conclude_45 : decode prog_1_method_24_code 45 = .ok (.aload_n 0, 1) := by decide +kernel
set_option maxRecDepth 100000 in
theorem c_Dk_conclude_46 : ct_Dk_conclude 46 = ka_get 0 1 := rfl
theorem d_Dk_conclude_46 : decode prog_1_method_24_code 46 = .ok (.getfield 19, 3) := by decide +kernel
set_option maxRecDepth 100000 in
theorem c_Dk_conclude_49 : ct_Dk_conclude 49 = ka_il 2 1 := rfl
theorem d_Dk_conclude_49 : decode prog_1_method_24_code 49 = .ok (.iload_n 2, 1) := by decide +kernel
set_option maxRecDepth 100000 in
theorem c_Dk_conclude_50 : ct_Dk_conclude 50 = ka_cv 47 1 2 0 0 := rfl
theorem d_Dk_conclude_50 : decode prog_1_method_24_code 50 = .ok (.invokevirtual 276, 3) := by decide +kernel
set_option maxRecDepth 100000 in
theorem c_Dk_conclude_53 : ct_Dk_conclude 53 = ka_al 0 1 := rfl
theorem d_Dk_conclude_53 : decode prog_1_method_24_code 53 = .ok (.aload_n 0, 1) := by decide +kernel
set_option maxRecDepth 100000 in
theorem c_Dk_conclude_54 : ct_Dk_conclude 54 = ka_get 0 1 := rfl
theorem d_Dk_conclude_54 : decode prog_1_method_24_code 54 = .ok (.getfield 19, 3) := by decide +kernel
set_option maxRecDepth 100000 in
theorem c_Dk_conclude_57 : ct_Dk_conclude 57 = ka_il 5 2 := rfl
theorem d_Dk_conclude_57 : decode prog_1_method_24_code 57 = .ok (.iload 5, 2) := by decide +kernel
set_option maxRecDepth 100000 in
theorem c_Dk_conclude_59 : ct_Dk_conclude 59 = ka_cv 49 1 2 0 0 := rfl
theorem d_Dk_conclude_59 : decode prog_1_method_24_code 59 = .ok (.invokevirtual 263, 3) := by decide +kernel
set_option maxRecDepth 100000 in
theorem c_Dk_conclude_62 : ct_Dk_conclude 62 = ka_il 2 1 := rfl
theorem d_Dk_conclude_62 : decode prog_1_method_24_code 62 = .ok (.iload_n 2, 1) := by decide +kernel
set_option maxRecDepth 100000 in
theorem c_Dk_conclude_63 : ct_Dk_conclude 63 = ka_ci (nI 32) 2 := rfl
theorem d_Dk_conclude_63 : decode prog_1_method_24_code 63 = .ok (.bipush 32, 2) := by decide +kernel
set_option maxRecDepth 100000 in
theorem c_Dk_conclude_65 : ct_Dk_conclude 65 = ka_cm (fun x y => ¬ x = y) 82 := rfl
theorem d_Dk_conclude_65 : decode prog_1_method_24_code 65 = .ok (.if_icmp .ne 17, 3) := by decide +kernel
set_option maxRecDepth 100000 in
theorem c_Dk_conclude_68 : ct_Dk_conclude 68 = ka_al 0 1 := rfl
theorem d_Dk_conclude_68 : decode prog_1_method_24_code 68 = .ok (.aload_n 0, 1) := by decide +kernel
set_option maxRecDepth 100000 in
theorem c_Dk_conclude_69 : ct_Dk_conclude 69 = ka_get 0 2 := rfl
theorem d_Dk_conclude_69 : decode prog_1_method_24_code 69 = .ok (.getfield 26, 3) := by decide +kernel
set_option maxRecDepth 100000 in
theorem c_Dk_conclude_72 : ct_Dk_conclude 72 = ka_al 0 1 := rfl
theorem d_Dk_conclude_72 : decode prog_1_method_24_code 72 = .ok (.aload_n 0, 1) := by decide +kernel
set_option maxRecDepth 100000 in
theorem c_Dk_conclude_73 : ct_Dk_conclude 73 = ka_get 0 3 := rfl
theorem d_Dk_conclude_73 : decode prog_1_method_24_code 73 = .ok (.getfield 33, 3) := by decide +kernel
set_option maxRecDepth 100000 in
theorem c_Dk_conclude_76 : ct_Dk_conclude 76 = ka_cv 57 1 3 0 0 := rfl
theorem d_Dk_conclude_76 : decode prog_1_method_24_code 76 = .ok (.invokevirtual 279, 3) := by decide +kernel
set_option maxRecDepth 100000 in
theorem c_Dk_conclude_79 : ct_Dk_conclude 79 = ka_goto 83 := rfl
theorem d_Dk_conclude_79 : decode prog_1_method_24_code 79 = .ok (.goto 4, 3) := by decide +kernel
set_option maxRecDepth 100000 in
theorem c_Dk_conclude_82 : ct_Dk_conclude 82 = ka_ci (-1) 1 := rfl
theorem d_Dk_conclude_82 : decode prog_1_method_24_code 82 = .ok (.iconst (-1), 1) := by decide +kernel
set_option maxRecDepth 100000 in
theorem c_Dk_conclude_83 : ct_Dk_conclude 83 = ka_is 6 2 := rfl
theorem d_Dk_conclude_83 : decode prog_1_method_24_code 83 = .ok (.istore 6, 2) := by decide +kernel
set_option maxRecDepth 100000 in
theorem c_Dk_conclude_85 : ct_Dk_conclude 85 = ka_il 6 2 := rfl
theorem d_Dk_conclude_85 : decode prog_1_method_24_code 85 = .ok (.iload 6, 2) := by decide +kernel
set_option maxRecDepth 100000 in
theorem c_Dk_conclude_87 : ct_Dk_conclude 87 = ka_ci (-1) 1 := rfl
theorem d_Dk_conclude_87 : decode prog_1_method_24_code 87 = .ok (.iconst (-1), 1) := by decide +kernel
set_option maxRecDepth 100000 in
theorem c_Dk_conclude_88 : ct_Dk_conclude 88 = ka_cm (fun x y => ¬ x = y) 103 := rfl
theorem d_Dk_conclude_88 : decode prog_1_method_24_code 88 = .ok (.if_icmp .ne 15, 3) := by decide +kernel
set_option maxRecDepth 100000 in
theorem c_Dk_conclude_91 : ct_Dk_conclude 91 = ka_al 0 1 := rfl
theorem d_Dk_conclude_91 : decode prog_1_method_24_code 91 = .ok (.aload_n 0, 1) := by decide +kernel
set_option maxRecDepth 100000 in
theorem c_Dk_conclude_92 : ct_Dk_conclude 92 = ka_get 0 1 := rfl
theorem d_Dk_conclude_92 : decode prog_1_method_24_code 92 = .ok (.getfield 19, 3) := by decide +kernel
set_option maxRecDepth 100000 in
theorem c_Dk_conclude_95 : ct_Dk_conclude 95 = ka_ci (nI 4) 1 := rfl
theorem d_Dk_conclude_95 : decode prog_1_method_24_code 95 = .ok (.iconst 4, 1) := by decide +kernel
set_option maxRecDepth 100000 in
theorem c_Dk_conclude_96 : ct_Dk_conclude 96 = ka_cv 48 1 2 0 0 := rfl
theorem d_Dk_conclude_96 : decode prog_1_method_24_code 96 = .ok (.invokevirtual 238, 3) := by decide +kernel
set_option maxRecDepth 100000 in
theorem c_Dk_conclude_99 : ct_Dk_conclude 99 = ka_pop := rfl
theorem d_Dk_conclude_99 : decode prog_1_method_24_code 99 = .ok (.pop, 1) := by decide +kernel
set_option maxRecDepth 100000 in
theorem c_Dk_conclude_100 : ct_Dk_conclude 100 = ka_goto 123 := rfl
theorem d_Dk_conclude_100 : decode prog_1_method_24_code 100 = .ok (.goto 23, 3) := by decide +kernel
set_option maxRecDepth 100000 in
theorem c_Dk_conclude_103 : ct_Dk_conclude 103 = ka_al 0 1 := rfl
theorem d_Dk_conclude_103 : decode prog_1_method_24_code 103 = .ok (.aload_n 0, 1) := by decide +kernel
set_option maxRecDepth 100000 in
theorem c_Dk_conclude_104 : ct_Dk_conclude 104 = ka_get 0 1 := rfl
theorem d_Dk_conclude_104 : decode prog_1_method_24_code 104 = .ok (.getfield 19, 3) := by decide +kernel
set_option maxRecDepth 100000 in
theorem c_Dk_conclude_107 : ct_Dk_conclude 107 = ka_al 0 1 := rfl
theorem d_Dk_conclude_107 : decode prog_1_method_24_code 107 = .ok (.aload_n 0, 1) := by decide +kernel
set_option maxRecDepth 100000 in
theorem c_Dk_conclude_108 : ct_Dk_conclude 108 = ka_get 0 2 := rfl
theorem d_Dk_conclude_108 : decode prog_1_method_24_code 108 = .ok (.getfield 26, 3) := by decide +kernel
set_option maxRecDepth 100000 in
theorem c_Dk_conclude_111 : ct_Dk_conclude 111 = ka_get 3 0 := rfl
theorem d_Dk_conclude_111 : decode prog_1_method_24_code 111 = .ok (.getfield 119, 3) := by decide +kernel
set_option maxRecDepth 100000 in
theorem c_Dk_conclude_114 : ct_Dk_conclude 114 = ka_il 6 2 := rfl
theorem d_Dk_conclude_114 : decode prog_1_method_24_code 114 = .ok (.iload 6, 2) := by decide +kernel
set_option maxRecDepth 100000 in
theorem c_Dk_conclude_116 : ct_Dk_conclude 116 = ka_aald := rfl
theorem d_Dk_conclude_116 : decode prog_1_method_24_code 116 = .ok (.aaload, 1) := by decide +kernel
set_option maxRecDepth 100000 in
theorem c_Dk_conclude_117 : ct_Dk_conclude 117 = ka_get 4 0 := rfl
theorem d_Dk_conclude_117 : decode prog_1_method_24_code 117 = .ok (.getfield 123, 3) := by decide +kernel
set_option maxRecDepth 100000 in
theorem c_Dk_conclude_120 : ct_Dk_conclude 120 = ka_cv 53 1 2 0 0 := rfl
theorem d_Dk_conclude_120 : decode prog_1_method_24_code 120 = .ok (.invokevirtual 247, 3) := by decide +kernel
set_option maxRecDepth 100000 in
theorem c_Dk_conclude_123 : ct_Dk_conclude 123 = ka_al 0 1 := rfl
theorem d_Dk_conclude_123 : decode prog_1_method_24_code 123 = .ok (.aload_n 0, 1) := by decide +kernel
set_option maxRecDepth 100000 in
theorem c_Dk_conclude_124 : ct_Dk_conclude 124 = ka_get 0 1 := rfl
theorem d_Dk_conclude_124 : decode prog_1_method_24_code 124 = .ok (.getfield 19, 3) := by decide +kernel
set_option maxRecDepth 100000 in
theorem c_Dk_conclude_127 : ct_Dk_conclude 127 = ka_ci (nI 4) 1 := rfl
theorem d_Dk_conclude_127 : decode prog_1_method_24_code 127 = .ok (.iconst 4, 1) := by decide +kernel
set_option maxRecDepth 100000 in
theorem c_Dk_conclude_128 : ct_Dk_conclude 128 = ka_cv 48 1 2 0 0 := rfl
theorem d_Dk_conclude_128 : decode prog_1_method_24_code 128 = .ok (.invokevirtual 238, 3) := by decide +kernel
set_option maxRecDepth 100000 in
theorem c_Dk_conclude_131 : ct_Dk_conclude 131 = ka_pop := rfl
theorem d_Dk_conclude_131 : decode prog_1_method_24_code 131 = .ok (.pop, 1) := by decide +kernel
set_option maxRecDepth 100000 in
theorem c_Dk_conclude_132 : ct_Dk_conclude 132 = ka_al 0 1 := rfl
theorem d_Dk_conclude_132 : decode prog_1_method_24_code 132 = .ok (.aload_n 0, 1) := by decide +kernel
set_option maxRecDepth 100000 in
theorem c_Dk_conclude_133 : ct_Dk_conclude 133 = ka_get 0 1 := rfl
theorem d_Dk_conclude_133 : decode prog_1_method_24_code 133 = .ok (.getfield 19, 3) := by decide +kernel
set_option maxRecDepth 100000 in
theorem c_Dk_conclude_136 : ct_Dk_conclude 136 = ka_il 4 2 := rfl
theorem d_Dk_conclude_136 : decode prog_1_method_24_code 136 = .ok (.iload 4, 2) := by decide +kernel
set_option maxRecDepth 100000 in
theorem c_Dk_conclude_138 : ct_Dk_conclude 138 = ka_cv 49 1 2 0 0 := rfl
theorem d_Dk_conclude_138 : decode prog_1_method_24_code 138 = .ok (.invokevirtual 263, 3) := by decide +kernel
set_option maxRecDepth 100000 in
theorem c_Dk_conclude_141 : ct_Dk_conclude 141 = ka_al 0 1 := rfl
theorem d_Dk_conclude_141 : decode prog_1_method_24_code 141 = .ok (.aload_n 0, 1) := by decide +kernel
set_option maxRecDepth 100000 in
theorem c_Dk_conclude_142 : ct_Dk_conclude 142 = ka_get 0 1 := rfl
theorem d_Dk_conclude_142 : decode prog_1_method_24_code 142 = .ok (.getfield 19, 3) := by decide +kernel
set_option maxRecDepth 100000 in
theorem c_Dk_conclude_145 : ct_Dk_conclude 145 = ka_il 3 1 := rfl
theorem d_Dk_conclude_145 : decode prog_1_method_24_code 145 = .ok (.iload_n 3, 1) := by decide +kernel
set_option maxRecDepth 100000 in
theorem c_Dk_conclude_146 : ct_Dk_conclude 146 = ka_cv 49 1 2 0 0 := rfl
theorem d_Dk_conclude_146 : decode prog_1_method_24_code 146 = .ok (.invokevirtual 263, 3) := by decide +kernel
set_option maxRecDepth 100000 in
theorem c_Dk_conclude_149 : ct_Dk_conclude 149 = ka_ret := rfl
theorem d_Dk_conclude_149 : decode prog_1_method_24_code 149 = .ok (.return_, 1) := by decide +kernel
set_option maxRecDepth 100000 in
set_option maxHeartbeats 4000000 in
theorem s_Dk_conclude_60 : ∀ pc, pc < 60 → kc_Sim kt kw_A kw_N kt_cl kt_En "DirectoryDesk" prog_1_method_24_code 7 (none) "conclude" none pc (ct_Dk_conclude pc) := by
  let P : Nat → Prop := fun pc => kc_Sim kt kw_A kw_N kt_cl kt_En "DirectoryDesk" prog_1_method_24_code 7 (none) "conclude" none pc (ct_Dk_conclude pc)
  exact kc_case (P := P) (kc_se c_Dk_conclude_59 (sm_cv (j := 49) rfl rfl kw_o kw_g wc_Wr_finish (Nat.le_of_ble_eq_true rfl) hd_Wr_finish (ci := 2) (F := kF_Wr) (N := 2) rfl (kw3 45 rfl rfl) wi_Wr_finish ws_Wr_finish wn_Wr_finish d_Dk_conclude_59)) (
  kc_case (P := P) (kc_se rfl sm_no) (
  kc_case (P := P) (kc_se c_Dk_conclude_57 (sm_iload d_Dk_conclude_57)) (
  kc_case (P := P) (kc_se rfl sm_no) (
  kc_case (P := P) (kc_se rfl sm_no) (
  kc_case (P := P) (kc_se c_Dk_conclude_54 (sm_get (ci := 0) (C := "DirectoryDesk") (F := kF_Dk) rfl kin_Dk (Nat.le_of_ble_eq_true rfl) d_Dk_conclude_54 (kw2 1 rfl rfl))) (
  kc_case (P := P) (kc_se c_Dk_conclude_53 (sm_aload_n d_Dk_conclude_53 rfl)) (
  kc_case (P := P) (kc_se rfl sm_no) (
  kc_case (P := P) (kc_se rfl sm_no) (
  kc_case (P := P) (kc_se c_Dk_conclude_50 (sm_cv (j := 47) rfl rfl kw_o kw_g wc_Wr_put (Nat.le_of_ble_eq_true rfl) hd_Wr_put (ci := 2) (F := kF_Wr) (N := 2) rfl (kw3 132 rfl rfl) wi_Wr_put ws_Wr_put wn_Wr_put d_Dk_conclude_50)) (
  kc_case (P := P) (kc_se c_Dk_conclude_49 (sm_iload_n d_Dk_conclude_49 rfl)) (
  kc_case (P := P) (kc_se rfl sm_no) (
  kc_case (P := P) (kc_se rfl sm_no) (
  kc_case (P := P) (kc_se c_Dk_conclude_46 (sm_get (ci := 0) (C := "DirectoryDesk") (F := kF_Dk) rfl kin_Dk (Nat.le_of_ble_eq_true rfl) d_Dk_conclude_46 (kw2 1 rfl rfl))) (
  kc_case (P := P) (kc_se c_Dk_conclude_45 (sm_aload_n d_Dk_conclude_45 rfl)) (
  kc_case (P := P) (kc_se rfl sm_no) (
  kc_case (P := P) (kc_se c_Dk_conclude_43 (sm_istore d_Dk_conclude_43 (Nat.le_of_ble_eq_true rfl))) (
  kc_case (P := P) (kc_se rfl sm_no) (
  kc_case (P := P) (kc_se rfl sm_no) (
  kc_case (P := P) (kc_se c_Dk_conclude_40 (sm_cv (j := 48) rfl rfl kw_o kw_g wc_Wr_begin (Nat.le_of_ble_eq_true rfl) hd_Wr_begin (ci := 2) (F := kF_Wr) (N := 2) rfl (kw3 2 rfl rfl) wi_Wr_begin ws_Wr_begin wn_Wr_begin d_Dk_conclude_40)) (
  kc_case (P := P) (kc_se rfl sm_no) (
  kc_case (P := P) (kc_se c_Dk_conclude_38 (sm_bipush d_Dk_conclude_38 (by decide))) (
  kc_case (P := P) (kc_se rfl sm_no) (
  kc_case (P := P) (kc_se rfl sm_no) (
  kc_case (P := P) (kc_se c_Dk_conclude_35 (sm_get (ci := 0) (C := "DirectoryDesk") (F := kF_Dk) rfl kin_Dk (Nat.le_of_ble_eq_true rfl) d_Dk_conclude_35 (kw2 1 rfl rfl))) (
  kc_case (P := P) (kc_se c_Dk_conclude_34 (sm_aload_n d_Dk_conclude_34 rfl)) (
  kc_case (P := P) (kc_se rfl sm_no) (
  kc_case (P := P) (kc_se c_Dk_conclude_32 (sm_istore d_Dk_conclude_32 (Nat.le_of_ble_eq_true rfl))) (
  kc_case (P := P) (kc_se rfl sm_no) (
  kc_case (P := P) (kc_se rfl sm_no) (
  kc_case (P := P) (kc_se c_Dk_conclude_29 (sm_cv (j := 48) rfl rfl kw_o kw_g wc_Wr_begin (Nat.le_of_ble_eq_true rfl) hd_Wr_begin (ci := 2) (F := kF_Wr) (N := 2) rfl (kw3 2 rfl rfl) wi_Wr_begin ws_Wr_begin wn_Wr_begin d_Dk_conclude_29)) (
  kc_case (P := P) (kc_se c_Dk_conclude_28 (sm_iload_n d_Dk_conclude_28 rfl)) (
  kc_case (P := P) (kc_se rfl sm_no) (
  kc_case (P := P) (kc_se rfl sm_no) (
  kc_case (P := P) (kc_se c_Dk_conclude_25 (sm_get (ci := 0) (C := "DirectoryDesk") (F := kF_Dk) rfl kin_Dk (Nat.le_of_ble_eq_true rfl) d_Dk_conclude_25 (kw2 1 rfl rfl))) (
  kc_case (P := P) (kc_se c_Dk_conclude_24 (sm_aload_n d_Dk_conclude_24 rfl)) (
  kc_case (P := P) (kc_se rfl sm_no) (
  kc_case (P := P) (kc_se rfl sm_no) (
  kc_case (P := P) (kc_se c_Dk_conclude_21 (sm_cv (j := 50) rfl rfl kw_o kw_g wc_Wr_number (Nat.le_of_ble_eq_true rfl) hd_Wr_number (ci := 2) (F := kF_Wr) (N := 2) rfl (kw3 10 rfl rfl) wi_Wr_number ws_Wr_number wn_Wr_number d_Dk_conclude_21)) (
  kc_case (P := P) (kc_se rfl sm_no) (
  kc_case (P := P) (kc_se rfl sm_no) (
  kc_case (P := P) (kc_se c_Dk_conclude_18 (sm_get (ci := 1) (C := "DirectoryDesk$Reader") (F := kF_Rd) rfl kin_Rd (Nat.le_of_ble_eq_true rfl) d_Dk_conclude_18 (kw1 38 rfl rfl))) (
  kc_case (P := P) (kc_se rfl sm_no) (
  kc_case (P := P) (kc_se rfl sm_no) (
  kc_case (P := P) (kc_se c_Dk_conclude_15 (sm_get (ci := 0) (C := "DirectoryDesk") (F := kF_Dk) rfl kin_Dk (Nat.le_of_ble_eq_true rfl) d_Dk_conclude_15 (kw2 0 rfl rfl))) (
  kc_case (P := P) (kc_se c_Dk_conclude_14 (sm_aload_n d_Dk_conclude_14 rfl)) (
  kc_case (P := P) (kc_se rfl sm_no) (
  kc_case (P := P) (kc_se rfl sm_no) (
  kc_case (P := P) (kc_se c_Dk_conclude_11 (sm_get (ci := 0) (C := "DirectoryDesk") (F := kF_Dk) rfl kin_Dk (Nat.le_of_ble_eq_true rfl) d_Dk_conclude_11 (kw2 1 rfl rfl))) (
  kc_case (P := P) (kc_se c_Dk_conclude_10 (sm_aload_n d_Dk_conclude_10 rfl)) (
  kc_case (P := P) (kc_se c_Dk_conclude_9 (sm_istore_n d_Dk_conclude_9 rfl (Nat.le_of_ble_eq_true rfl))) (
  kc_case (P := P) (kc_se rfl sm_no) (
  kc_case (P := P) (kc_se rfl sm_no) (
  kc_case (P := P) (kc_se c_Dk_conclude_6 (sm_cv (j := 48) rfl rfl kw_o kw_g wc_Wr_begin (Nat.le_of_ble_eq_true rfl) hd_Wr_begin (ci := 2) (F := kF_Wr) (N := 2) rfl (kw3 2 rfl rfl) wi_Wr_begin ws_Wr_begin wn_Wr_begin d_Dk_conclude_6)) (
  kc_case (P := P) (kc_se rfl sm_no) (
  kc_case (P := P) (kc_se c_Dk_conclude_4 (sm_bipush d_Dk_conclude_4 (by decide))) (
  kc_case (P := P) (kc_se rfl sm_no) (
  kc_case (P := P) (kc_se rfl sm_no) (
  kc_case (P := P) (kc_se c_Dk_conclude_1 (sm_get (ci := 0) (C := "DirectoryDesk") (F := kF_Dk) rfl kin_Dk (Nat.le_of_ble_eq_true rfl) d_Dk_conclude_1 (kw2 1 rfl rfl))) (
  kc_case (P := P) (kc_se c_Dk_conclude_0 (sm_aload_n d_Dk_conclude_0 rfl)) (
  kc_case0))))))))))))))))))))))))))))))))))))))))))))))))))))))))))))
set_option maxRecDepth 100000 in
set_option maxHeartbeats 4000000 in
theorem s_Dk_conclude_120 : ∀ pc, pc < 120 → kc_Sim kt kw_A kw_N kt_cl kt_En "DirectoryDesk" prog_1_method_24_code 7 (none) "conclude" none pc (ct_Dk_conclude pc) := by
  let P : Nat → Prop := fun pc => kc_Sim kt kw_A kw_N kt_cl kt_En "DirectoryDesk" prog_1_method_24_code 7 (none) "conclude" none pc (ct_Dk_conclude pc)
  exact kc_case (P := P) (kc_se rfl sm_no) (
  kc_case (P := P) (kc_se rfl sm_no) (
  kc_case (P := P) (kc_se c_Dk_conclude_117 (sm_get (ci := 4) (C := "DirectoryDesk$Entry") (F := kF_En) rfl kin_En (Nat.le_of_ble_eq_true rfl) d_Dk_conclude_117 (kw1 137 rfl rfl))) (
  kc_case (P := P) (kc_se c_Dk_conclude_116 (sm_aald d_Dk_conclude_116)) (
  kc_case (P := P) (kc_se rfl sm_no) (
  kc_case (P := P) (kc_se c_Dk_conclude_114 (sm_iload d_Dk_conclude_114)) (
  kc_case (P := P) (kc_se rfl sm_no) (
  kc_case (P := P) (kc_se rfl sm_no) (
  kc_case (P := P) (kc_se c_Dk_conclude_111 (sm_get (ci := 3) (C := "DirectoryDesk$Tree") (F := kF_Tr) rfl kin_Tr (Nat.le_of_ble_eq_true rfl) d_Dk_conclude_111 (kw1 161 rfl rfl))) (
  kc_case (P := P) (kc_se rfl sm_no) (
  kc_case (P := P) (kc_se rfl sm_no) (
  kc_case (P := P) (kc_se c_Dk_conclude_108 (sm_get (ci := 0) (C := "DirectoryDesk") (F := kF_Dk) rfl kin_Dk (Nat.le_of_ble_eq_true rfl) d_Dk_conclude_108 (kw2 2 rfl rfl))) (
  kc_case (P := P) (kc_se c_Dk_conclude_107 (sm_aload_n d_Dk_conclude_107 rfl)) (
  kc_case (P := P) (kc_se rfl sm_no) (
  kc_case (P := P) (kc_se rfl sm_no) (
  kc_case (P := P) (kc_se c_Dk_conclude_104 (sm_get (ci := 0) (C := "DirectoryDesk") (F := kF_Dk) rfl kin_Dk (Nat.le_of_ble_eq_true rfl) d_Dk_conclude_104 (kw2 1 rfl rfl))) (
  kc_case (P := P) (kc_se c_Dk_conclude_103 (sm_aload_n d_Dk_conclude_103 rfl)) (
  kc_case (P := P) (kc_se rfl sm_no) (
  kc_case (P := P) (kc_se rfl sm_no) (
  kc_case (P := P) (kc_se c_Dk_conclude_100 (sm_goto d_Dk_conclude_100 (by decide))) (
  kc_case (P := P) (kc_se c_Dk_conclude_99 (sm_pop d_Dk_conclude_99)) (
  kc_case (P := P) (kc_se rfl sm_no) (
  kc_case (P := P) (kc_se rfl sm_no) (
  kc_case (P := P) (kc_se c_Dk_conclude_96 (sm_cv (j := 48) rfl rfl kw_o kw_g wc_Wr_begin (Nat.le_of_ble_eq_true rfl) hd_Wr_begin (ci := 2) (F := kF_Wr) (N := 2) rfl (kw3 2 rfl rfl) wi_Wr_begin ws_Wr_begin wn_Wr_begin d_Dk_conclude_96)) (
  kc_case (P := P) (kc_se c_Dk_conclude_95 (sm_iconst d_Dk_conclude_95 (by decide))) (
  kc_case (P := P) (kc_se rfl sm_no) (
  kc_case (P := P) (kc_se rfl sm_no) (
  kc_case (P := P) (kc_se c_Dk_conclude_92 (sm_get (ci := 0) (C := "DirectoryDesk") (F := kF_Dk) rfl kin_Dk (Nat.le_of_ble_eq_true rfl) d_Dk_conclude_92 (kw2 1 rfl rfl))) (
  kc_case (P := P) (kc_se c_Dk_conclude_91 (sm_aload_n d_Dk_conclude_91 rfl)) (
  kc_case (P := P) (kc_se rfl sm_no) (
  kc_case (P := P) (kc_se rfl sm_no) (
  kc_case (P := P) (kc_se c_Dk_conclude_88 (sm_cm_ne d_Dk_conclude_88 (by decide))) (
  kc_case (P := P) (kc_se c_Dk_conclude_87 (sm_iconst d_Dk_conclude_87 (by decide))) (
  kc_case (P := P) (kc_se rfl sm_no) (
  kc_case (P := P) (kc_se c_Dk_conclude_85 (sm_iload d_Dk_conclude_85)) (
  kc_case (P := P) (kc_se rfl sm_no) (
  kc_case (P := P) (kc_se c_Dk_conclude_83 (sm_istore d_Dk_conclude_83 (Nat.le_of_ble_eq_true rfl))) (
  kc_case (P := P) (kc_se c_Dk_conclude_82 (sm_iconst d_Dk_conclude_82 (by decide))) (
  kc_case (P := P) (kc_se rfl sm_no) (
  kc_case (P := P) (kc_se rfl sm_no) (
  kc_case (P := P) (kc_se c_Dk_conclude_79 (sm_goto d_Dk_conclude_79 (by decide))) (
  kc_case (P := P) (kc_se rfl sm_no) (
  kc_case (P := P) (kc_se rfl sm_no) (
  kc_case (P := P) (kc_se c_Dk_conclude_76 (sm_cv (j := 57) rfl rfl kw_o kw_g wc_Tr_findNearestAbove (Nat.le_of_ble_eq_true rfl) hd_Tr_findNearestAbove (ci := 3) (F := kF_Tr) (N := 2) rfl (kw3 133 rfl rfl) wi_Tr_findNearestAbove ws_Tr_findNearestAbove wn_Tr_findNearestAbove d_Dk_conclude_76)) (
  kc_case (P := P) (kc_se rfl sm_no) (
  kc_case (P := P) (kc_se rfl sm_no) (
  kc_case (P := P) (kc_se c_Dk_conclude_73 (sm_get (ci := 0) (C := "DirectoryDesk") (F := kF_Dk) rfl kin_Dk (Nat.le_of_ble_eq_true rfl) d_Dk_conclude_73 (kw2 3 rfl rfl))) (
  kc_case (P := P) (kc_se c_Dk_conclude_72 (sm_aload_n d_Dk_conclude_72 rfl)) (
  kc_case (P := P) (kc_se rfl sm_no) (
  kc_case (P := P) (kc_se rfl sm_no) (
  kc_case (P := P) (kc_se c_Dk_conclude_69 (sm_get (ci := 0) (C := "DirectoryDesk") (F := kF_Dk) rfl kin_Dk (Nat.le_of_ble_eq_true rfl) d_Dk_conclude_69 (kw2 2 rfl rfl))) (
  kc_case (P := P) (kc_se c_Dk_conclude_68 (sm_aload_n d_Dk_conclude_68 rfl)) (
  kc_case (P := P) (kc_se rfl sm_no) (
  kc_case (P := P) (kc_se rfl sm_no) (
  kc_case (P := P) (kc_se c_Dk_conclude_65 (sm_cm_ne d_Dk_conclude_65 (by decide))) (
  kc_case (P := P) (kc_se rfl sm_no) (
  kc_case (P := P) (kc_se c_Dk_conclude_63 (sm_bipush d_Dk_conclude_63 (by decide))) (
  kc_case (P := P) (kc_se c_Dk_conclude_62 (sm_iload_n d_Dk_conclude_62 rfl)) (
  kc_case (P := P) (kc_se rfl sm_no) (
  kc_case (P := P) (kc_se rfl sm_no) (
  s_Dk_conclude_60))))))))))))))))))))))))))))))))))))))))))))))))))))))))))))
set_option maxRecDepth 100000 in
set_option maxHeartbeats 4000000 in
theorem s_Dk_conclude_150 : ∀ pc, pc < 150 → kc_Sim kt kw_A kw_N kt_cl kt_En "DirectoryDesk" prog_1_method_24_code 7 (none) "conclude" none pc (ct_Dk_conclude pc) := by
  let P : Nat → Prop := fun pc => kc_Sim kt kw_A kw_N kt_cl kt_En "DirectoryDesk" prog_1_method_24_code 7 (none) "conclude" none pc (ct_Dk_conclude pc)
  exact kc_case (P := P) (kc_se c_Dk_conclude_149 (sm_ret d_Dk_conclude_149 rfl)) (
  kc_case (P := P) (kc_se rfl sm_no) (
  kc_case (P := P) (kc_se rfl sm_no) (
  kc_case (P := P) (kc_se c_Dk_conclude_146 (sm_cv (j := 49) rfl rfl kw_o kw_g wc_Wr_finish (Nat.le_of_ble_eq_true rfl) hd_Wr_finish (ci := 2) (F := kF_Wr) (N := 2) rfl (kw3 45 rfl rfl) wi_Wr_finish ws_Wr_finish wn_Wr_finish d_Dk_conclude_146)) (
  kc_case (P := P) (kc_se c_Dk_conclude_145 (sm_iload_n d_Dk_conclude_145 rfl)) (
  kc_case (P := P) (kc_se rfl sm_no) (
  kc_case (P := P) (kc_se rfl sm_no) (
  kc_case (P := P) (kc_se c_Dk_conclude_142 (sm_get (ci := 0) (C := "DirectoryDesk") (F := kF_Dk) rfl kin_Dk (Nat.le_of_ble_eq_true rfl) d_Dk_conclude_142 (kw2 1 rfl rfl))) (
  kc_case (P := P) (kc_se c_Dk_conclude_141 (sm_aload_n d_Dk_conclude_141 rfl)) (
  kc_case (P := P) (kc_se rfl sm_no) (
  kc_case (P := P) (kc_se rfl sm_no) (
  kc_case (P := P) (kc_se c_Dk_conclude_138 (sm_cv (j := 49) rfl rfl kw_o kw_g wc_Wr_finish (Nat.le_of_ble_eq_true rfl) hd_Wr_finish (ci := 2) (F := kF_Wr) (N := 2) rfl (kw3 45 rfl rfl) wi_Wr_finish ws_Wr_finish wn_Wr_finish d_Dk_conclude_138)) (
  kc_case (P := P) (kc_se rfl sm_no) (
  kc_case (P := P) (kc_se c_Dk_conclude_136 (sm_iload d_Dk_conclude_136)) (
  kc_case (P := P) (kc_se rfl sm_no) (
  kc_case (P := P) (kc_se rfl sm_no) (
  kc_case (P := P) (kc_se c_Dk_conclude_133 (sm_get (ci := 0) (C := "DirectoryDesk") (F := kF_Dk) rfl kin_Dk (Nat.le_of_ble_eq_true rfl) d_Dk_conclude_133 (kw2 1 rfl rfl))) (
  kc_case (P := P) (kc_se c_Dk_conclude_132 (sm_aload_n d_Dk_conclude_132 rfl)) (
  kc_case (P := P) (kc_se c_Dk_conclude_131 (sm_pop d_Dk_conclude_131)) (
  kc_case (P := P) (kc_se rfl sm_no) (
  kc_case (P := P) (kc_se rfl sm_no) (
  kc_case (P := P) (kc_se c_Dk_conclude_128 (sm_cv (j := 48) rfl rfl kw_o kw_g wc_Wr_begin (Nat.le_of_ble_eq_true rfl) hd_Wr_begin (ci := 2) (F := kF_Wr) (N := 2) rfl (kw3 2 rfl rfl) wi_Wr_begin ws_Wr_begin wn_Wr_begin d_Dk_conclude_128)) (
  kc_case (P := P) (kc_se c_Dk_conclude_127 (sm_iconst d_Dk_conclude_127 (by decide))) (
  kc_case (P := P) (kc_se rfl sm_no) (
  kc_case (P := P) (kc_se rfl sm_no) (
  kc_case (P := P) (kc_se c_Dk_conclude_124 (sm_get (ci := 0) (C := "DirectoryDesk") (F := kF_Dk) rfl kin_Dk (Nat.le_of_ble_eq_true rfl) d_Dk_conclude_124 (kw2 1 rfl rfl))) (
  kc_case (P := P) (kc_se c_Dk_conclude_123 (sm_aload_n d_Dk_conclude_123 rfl)) (
  kc_case (P := P) (kc_se rfl sm_no) (
  kc_case (P := P) (kc_se rfl sm_no) (
  kc_case (P := P) (kc_se c_Dk_conclude_120 (sm_cv (j := 53) rfl rfl kw_o kw_g wc_Wr_name (Nat.le_of_ble_eq_true rfl) hd_Wr_name (ci := 2) (F := kF_Wr) (N := 2) rfl (kw3 19 rfl rfl) wi_Wr_name ws_Wr_name wn_Wr_name d_Dk_conclude_120)) (
  s_Dk_conclude_120))))))))))))))))))))))))))))))
theorem ka_nth_no_Dk_conclude (pc : Nat) (h : 150 ≤ pc) : ct_Dk_conclude pc = ka_no := ka_nth_ge _ pc (Nat.le_trans (Nat.le_of_eq (by rfl)) h)
theorem s_Dk_conclude (pc : Nat) : kc_Sim kt kw_A kw_N kt_cl kt_En "DirectoryDesk" prog_1_method_24_code 7 (none) "conclude" none pc (ct_Dk_conclude pc) := (Nat.lt_or_ge pc 150).elim (s_Dk_conclude_150 pc) (fun h => kc_se (ka_nth_no_Dk_conclude pc h) sm_no)
def cl_Rd_init_0 : List kc_A := [ka_al 0 1, ka_obj, ka_no, ka_no, ka_al 0 1, ka_ci (nI 200) 3, ka_no, ka_no, ka_newi, ka_no, ka_put 1 0 (.array .int), ka_no, ka_no, ka_ret]
def ct_Rd_init : Nat → kc_A := fun pc => ka_nth (cl_Rd_init_0) pc
set_option maxRecDepth 100000 in
theorem c_Rd_init_0 : ct_Rd_init 0 = ka_al 0 1 := rfl
theorem d_Rd_init_0 : decode prog_8_method_1_code 0 = .ok (.aload_n 0, 1) := by decide +kernel
set_option maxRecDepth 100000 in
theorem c_Rd_init_1 : ct_Rd_init 1 = ka_obj := rfl
theorem d_Rd_init_1 : decode prog_8_method_1_code 1 = .ok (.invokespecial 3, 3) := by decide +kernel
set_option maxRecDepth 100000 in
theorem c_Rd_init_4 : ct_Rd_init 4 = ka_al 0 1 := rfl
theorem d_Rd_init_4 : decode prog_8_method_1_code 4 = .ok (.aload_n 0, 1) := by decide +kernel
set_option maxRecDepth 100000 in
theorem c_Rd_init_5 : ct_Rd_init 5 = ka_ci (nI 200) 3 := rfl
theorem d_Rd_init_5 : decode prog_8_method_1_code 5 = .ok (.sipush 200, 3) := by decide +kernel
set_option maxRecDepth 100000 in
theorem c_Rd_init_8 : ct_Rd_init 8 = ka_newi := rfl
theorem d_Rd_init_8 : decode prog_8_method_1_code 8 = .ok (.newarray .int, 2) := by decide +kernel
set_option maxRecDepth 100000 in
theorem c_Rd_init_10 : ct_Rd_init 10 = ka_put 1 0 (.array .int) := rfl
theorem d_Rd_init_10 : decode prog_8_method_1_code 10 = .ok (.putfield 9, 3) := by decide +kernel
set_option maxRecDepth 100000 in
theorem c_Rd_init_13 : ct_Rd_init 13 = ka_ret := rfl
theorem d_Rd_init_13 : decode prog_8_method_1_code 13 = .ok (.return_, 1) := by decide +kernel
set_option maxRecDepth 100000 in
set_option maxHeartbeats 4000000 in
theorem s_Rd_init_14 : ∀ pc, pc < 14 → kc_Sim kt kw_A kw_N kt_cl kt_En "DirectoryDesk$Reader" prog_8_method_1_code 1 (none) "<init>" none pc (ct_Rd_init pc) := by
  let P : Nat → Prop := fun pc => kc_Sim kt kw_A kw_N kt_cl kt_En "DirectoryDesk$Reader" prog_8_method_1_code 1 (none) "<init>" none pc (ct_Rd_init pc)
  exact kc_case (P := P) (kc_se c_Rd_init_13 (sm_ret d_Rd_init_13 rfl)) (
  kc_case (P := P) (kc_se rfl sm_no) (
  kc_case (P := P) (kc_se rfl sm_no) (
  kc_case (P := P) (kc_se c_Rd_init_10 (sm_putF (ci := 1) (C := "DirectoryDesk$Reader") (F := kF_Rd) rfl kin_Rd kty_Rd ktk_Rd knm_Rd (Nat.le_of_ble_eq_true rfl) (by decide +kernel) d_Rd_init_10 (kw1 28 rfl rfl) rfl rfl rfl)) (
  kc_case (P := P) (kc_se rfl sm_no) (
  kc_case (P := P) (kc_se c_Rd_init_8 (sm_newi rfl d_Rd_init_8 (kw1 62 rfl rfl))) (
  kc_case (P := P) (kc_se rfl sm_no) (
  kc_case (P := P) (kc_se rfl sm_no) (
  kc_case (P := P) (kc_se c_Rd_init_5 (sm_sipush d_Rd_init_5 (by decide))) (
  kc_case (P := P) (kc_se c_Rd_init_4 (sm_aload_n d_Rd_init_4 rfl)) (
  kc_case (P := P) (kc_se rfl sm_no) (
  kc_case (P := P) (kc_se rfl sm_no) (
  kc_case (P := P) (kc_se c_Rd_init_1 (sm_obj d_Rd_init_1 (kw1 27 rfl rfl) (kw1 20 rfl rfl) (kw1 21 rfl rfl))) (
  kc_case (P := P) (kc_se c_Rd_init_0 (sm_aload_n d_Rd_init_0 rfl)) (
  kc_case0))))))))))))))
theorem ka_nth_no_Rd_init (pc : Nat) (h : 14 ≤ pc) : ct_Rd_init pc = ka_no := ka_nth_ge _ pc (Nat.le_trans (Nat.le_of_eq (by rfl)) h)
theorem s_Rd_init (pc : Nat) : kc_Sim kt kw_A kw_N kt_cl kt_En "DirectoryDesk$Reader" prog_8_method_1_code 1 (none) "<init>" none pc (ct_Rd_init pc) := (Nat.lt_or_ge pc 14).elim (s_Rd_init_14 pc) (fun h => kc_se (ka_nth_no_Rd_init pc h) sm_no)
def cl_Rd_clear_0 : List kc_A := [ka_al 0 1, ka_ci (nI 0) 1, ka_put 1 1 .int, ka_no, ka_no, ka_ret]
def ct_Rd_clear : Nat → kc_A := fun pc => ka_nth (cl_Rd_clear_0) pc
set_option maxRecDepth 100000 in
theorem c_Rd_clear_0 : ct_Rd_clear 0 = ka_al 0 1 := rfl
theorem d_Rd_clear_0 : decode prog_8_method_2_code 0 = .ok (.aload_n 0, 1) := by decide +kernel
set_option maxRecDepth 100000 in
theorem c_Rd_clear_1 : ct_Rd_clear 1 = ka_ci (nI 0) 1 := rfl
theorem d_Rd_clear_1 : decode prog_8_method_2_code 1 = .ok (.iconst 0, 1) := by decide +kernel
set_option maxRecDepth 100000 in
theorem c_Rd_clear_2 : ct_Rd_clear 2 = ka_put 1 1 .int := rfl
theorem d_Rd_clear_2 : decode prog_8_method_2_code 2 = .ok (.putfield 15, 3) := by decide +kernel
set_option maxRecDepth 100000 in
theorem c_Rd_clear_5 : ct_Rd_clear 5 = ka_ret := rfl
theorem d_Rd_clear_5 : decode prog_8_method_2_code 5 = .ok (.return_, 1) := by decide +kernel
set_option maxRecDepth 100000 in
set_option maxHeartbeats 4000000 in
theorem s_Rd_clear_6 : ∀ pc, pc < 6 → kc_Sim kt kw_A kw_N kt_cl kt_En "DirectoryDesk$Reader" prog_8_method_2_code 1 (none) "clear" none pc (ct_Rd_clear pc) := by
  let P : Nat → Prop := fun pc => kc_Sim kt kw_A kw_N kt_cl kt_En "DirectoryDesk$Reader" prog_8_method_2_code 1 (none) "clear" none pc (ct_Rd_clear pc)
  exact kc_case (P := P) (kc_se c_Rd_clear_5 (sm_ret d_Rd_clear_5 rfl)) (
  kc_case (P := P) (kc_se rfl sm_no) (
  kc_case (P := P) (kc_se rfl sm_no) (
  kc_case (P := P) (kc_se c_Rd_clear_2 (sm_put (ci := 1) (C := "DirectoryDesk$Reader") (F := kF_Rd) rfl kin_Rd kty_Rd ktk_Rd knm_Rd (Nat.le_of_ble_eq_true rfl) (by decide +kernel) d_Rd_clear_2 (kw1 30 rfl rfl) rfl)) (
  kc_case (P := P) (kc_se c_Rd_clear_1 (sm_iconst d_Rd_clear_1 (by decide))) (
  kc_case (P := P) (kc_se c_Rd_clear_0 (sm_aload_n d_Rd_clear_0 rfl)) (
  kc_case0))))))
theorem ka_nth_no_Rd_clear (pc : Nat) (h : 6 ≤ pc) : ct_Rd_clear pc = ka_no := ka_nth_ge _ pc (Nat.le_trans (Nat.le_of_eq (by rfl)) h)
theorem s_Rd_clear (pc : Nat) : kc_Sim kt kw_A kw_N kt_cl kt_En "DirectoryDesk$Reader" prog_8_method_2_code 1 (none) "clear" none pc (ct_Rd_clear pc) := (Nat.lt_or_ge pc 6).elim (s_Rd_clear_6 pc) (fun h => kc_se (ka_nth_no_Rd_clear pc h) sm_no)
def cl_Rd_take_0 : List kc_A := [ka_il 3 1, ka_ci (nI 1) 1, ka_ii (fun x y => x - y), ka_is 4 2, ka_no, ka_il 4 2, ka_no, ka_if (fun x => x < 0) 59, ka_no, ka_no, ka_al 0 1, ka_get 1 1, ka_no, ka_no, ka_al 0 1, ka_get 1 0, ka_no, ka_no, ka_alen, ka_cm (fun x y => y ≤ x) 59, ka_no, ka_no, ka_al 0 1, ka_get 1 0, ka_no, ka_no, ka_al 0 1, ka_get 1 1, ka_no, ka_no, ka_ll 1 1, ka_ci (nI 8) 2, ka_no, ka_il 4 2, ka_no, ka_ii (fun x y => x * y), ka_lsh (fun x y => x >>> (y.toInt64 &&& 63)), ka_l2i, ka_ci (nI 255) 3, ka_no, ka_no, ka_ii (fun x y => x &&& y), ka_iast, ka_al 0 1, ka_dup, ka_get 1 1, ka_no, ka_no, ka_ci (nI 1) 1, ka_ii (fun x y => x + y), ka_put 1 1 .int, ka_no, ka_no, ka_inc 4 (-1), ka_no, ka_no, ka_goto 5, ka_no, ka_no, ka_ret]
def ct_Rd_take : Nat → kc_A := fun pc => ka_nth (cl_Rd_take_0) pc
set_option maxRecDepth 100000 in
theorem c_Rd_take_0 : ct_Rd_take 0 = ka_il 3 1 := rfl
theorem d_Rd_take_0 : decode prog_8_method_3_code 0 = .ok (.iload_n 3, 1) := by decide +kernel
set_option maxRecDepth 100000 in
theorem c_Rd_take_1 : ct_Rd_take 1 = ka_ci (nI 1) 1 := rfl
theorem d_Rd_take_1 : decode prog_8_method_3_code 1 = .ok (.iconst 1, 1) := by decide +kernel
set_option maxRecDepth 100000 in
theorem c_Rd_take_2 : ct_Rd_take 2 = ka_ii (fun x y => x - y) := rfl
theorem d_Rd_take_2 : decode prog_8_method_3_code 2 = .ok (.isub, 1) := by decide +kernel
set_option maxRecDepth 100000 in
theorem c_Rd_take_3 : ct_Rd_take 3 = ka_is 4 2 := rfl
theorem d_Rd_take_3 : decode prog_8_method_3_code 3 = .ok (.istore 4, 2) := by decide +kernel
set_option maxRecDepth 100000 in
theorem c_Rd_take_5 : ct_Rd_take 5 = ka_il 4 2 := rfl
theorem d_Rd_take_5 : decode prog_8_method_3_code 5 = .ok (.iload 4, 2) := by decide +kernel
set_option maxRecDepth 100000 in
theorem c_Rd_take_7 : ct_Rd_take 7 = ka_if (fun x => x < 0) 59 := rfl
theorem d_Rd_take_7 : decode prog_8_method_3_code 7 = .ok (.ifCond .lt 52, 3) := by decide +kernel
set_option maxRecDepth 100000 in
theorem c_Rd_take_10 : ct_Rd_take 10 = ka_al 0 1 := rfl
theorem d_Rd_take_10 : decode prog_8_method_3_code 10 = .ok (.aload_n 0, 1) := by decide +kernel
set_option maxRecDepth 100000 in
theorem c_Rd_take_11 : ct_Rd_take 11 = ka_get 1 1 := rfl
theorem d_Rd_take_11 : decode prog_8_method_3_code 11 = .ok (.getfield 15, 3) := by decide +kernel
set_option maxRecDepth 100000 in
theorem c_Rd_take_14 : ct_Rd_take 14 = ka_al 0 1 := rfl
theorem d_Rd_take_14 : decode prog_8_method_3_code 14 = .ok (.aload_n 0, 1) := by decide +kernel
set_option maxRecDepth 100000 in
theorem c_Rd_take_15 : ct_Rd_take 15 = ka_get 1 0 := rfl
theorem d_Rd_take_15 : decode prog_8_method_3_code 15 = .ok (.getfield 9, 3) := by decide +kernel
set_option maxRecDepth 100000 in
theorem c_Rd_take_18 : ct_Rd_take 18 = ka_alen := rfl
theorem d_Rd_take_18 : decode prog_8_method_3_code 18 = .ok (.arraylength, 1) := by decide +kernel
set_option maxRecDepth 100000 in
theorem c_Rd_take_19 : ct_Rd_take 19 = ka_cm (fun x y => y ≤ x) 59 := rfl
theorem d_Rd_take_19 : decode prog_8_method_3_code 19 = .ok (.if_icmp .ge 40, 3) := by decide +kernel
set_option maxRecDepth 100000 in
theorem c_Rd_take_22 : ct_Rd_take 22 = ka_al 0 1 := rfl
theorem d_Rd_take_22 : decode prog_8_method_3_code 22 = .ok (.aload_n 0, 1) := by decide +kernel
set_option maxRecDepth 100000 in
theorem c_Rd_take_23 : ct_Rd_take 23 = ka_get 1 0 := rfl
theorem d_Rd_take_23 : decode prog_8_method_3_code 23 = .ok (.getfield 9, 3) := by decide +kernel
set_option maxRecDepth 100000 in
theorem c_Rd_take_26 : ct_Rd_take 26 = ka_al 0 1 := rfl
theorem d_Rd_take_26 : decode prog_8_method_3_code 26 = .ok (.aload_n 0, 1) := by decide +kernel
set_option maxRecDepth 100000 in
theorem c_Rd_take_27 : ct_Rd_take 27 = ka_get 1 1 := rfl
theorem d_Rd_take_27 : decode prog_8_method_3_code 27 = .ok (.getfield 15, 3) := by decide +kernel
set_option maxRecDepth 100000 in
theorem c_Rd_take_30 : ct_Rd_take 30 = ka_ll 1 1 := rfl
theorem d_Rd_take_30 : decode prog_8_method_3_code 30 = .ok (.lload_n 1, 1) := by decide +kernel
set_option maxRecDepth 100000 in
theorem c_Rd_take_31 : ct_Rd_take 31 = ka_ci (nI 8) 2 := rfl
theorem d_Rd_take_31 : decode prog_8_method_3_code 31 = .ok (.bipush 8, 2) := by decide +kernel
set_option maxRecDepth 100000 in
theorem c_Rd_take_33 : ct_Rd_take 33 = ka_il 4 2 := rfl
theorem d_Rd_take_33 : decode prog_8_method_3_code 33 = .ok (.iload 4, 2) := by decide +kernel
set_option maxRecDepth 100000 in
theorem c_Rd_take_35 : ct_Rd_take 35 = ka_ii (fun x y => x * y) := rfl
theorem d_Rd_take_35 : decode prog_8_method_3_code 35 = .ok (.imul, 1) := by decide +kernel
set_option maxRecDepth 100000 in
theorem c_Rd_take_36 : ct_Rd_take 36 = ka_lsh (fun x y => x >>> (y.toInt64 &&& 63)) := rfl
theorem d_Rd_take_36 : decode prog_8_method_3_code 36 = .ok (.lshr, 1) := by decide +kernel
set_option maxRecDepth 100000 in
theorem c_Rd_take_37 : ct_Rd_take 37 = ka_l2i := rfl
theorem d_Rd_take_37 : decode prog_8_method_3_code 37 = .ok (.l2i, 1) := by decide +kernel
set_option maxRecDepth 100000 in
theorem c_Rd_take_38 : ct_Rd_take 38 = ka_ci (nI 255) 3 := rfl
theorem d_Rd_take_38 : decode prog_8_method_3_code 38 = .ok (.sipush 255, 3) := by decide +kernel
set_option maxRecDepth 100000 in
theorem c_Rd_take_41 : ct_Rd_take 41 = ka_ii (fun x y => x &&& y) := rfl
theorem d_Rd_take_41 : decode prog_8_method_3_code 41 = .ok (.iand, 1) := by decide +kernel
set_option maxRecDepth 100000 in
theorem c_Rd_take_42 : ct_Rd_take 42 = ka_iast := rfl
theorem d_Rd_take_42 : decode prog_8_method_3_code 42 = .ok (.iastore, 1) := by decide +kernel
set_option maxRecDepth 100000 in
theorem c_Rd_take_43 : ct_Rd_take 43 = ka_al 0 1 := rfl
theorem d_Rd_take_43 : decode prog_8_method_3_code 43 = .ok (.aload_n 0, 1) := by decide +kernel
set_option maxRecDepth 100000 in
theorem c_Rd_take_44 : ct_Rd_take 44 = ka_dup := rfl
theorem d_Rd_take_44 : decode prog_8_method_3_code 44 = .ok (.dup, 1) := by decide +kernel
set_option maxRecDepth 100000 in
theorem c_Rd_take_45 : ct_Rd_take 45 = ka_get 1 1 := rfl
theorem d_Rd_take_45 : decode prog_8_method_3_code 45 = .ok (.getfield 15, 3) := by decide +kernel
set_option maxRecDepth 100000 in
theorem c_Rd_take_48 : ct_Rd_take 48 = ka_ci (nI 1) 1 := rfl
theorem d_Rd_take_48 : decode prog_8_method_3_code 48 = .ok (.iconst 1, 1) := by decide +kernel
set_option maxRecDepth 100000 in
theorem c_Rd_take_49 : ct_Rd_take 49 = ka_ii (fun x y => x + y) := rfl
theorem d_Rd_take_49 : decode prog_8_method_3_code 49 = .ok (.iadd, 1) := by decide +kernel
set_option maxRecDepth 100000 in
theorem c_Rd_take_50 : ct_Rd_take 50 = ka_put 1 1 .int := rfl
theorem d_Rd_take_50 : decode prog_8_method_3_code 50 = .ok (.putfield 15, 3) := by decide +kernel
set_option maxRecDepth 100000 in
theorem c_Rd_take_53 : ct_Rd_take 53 = ka_inc 4 (-1) := rfl
theorem d_Rd_take_53 : decode prog_8_method_3_code 53 = .ok (.iinc 4 (-1), 3) := by decide +kernel
set_option maxRecDepth 100000 in
theorem c_Rd_take_56 : ct_Rd_take 56 = ka_goto 5 := rfl
theorem d_Rd_take_56 : decode prog_8_method_3_code 56 = .ok (.goto (-51), 3) := by decide +kernel
set_option maxRecDepth 100000 in
theorem c_Rd_take_59 : ct_Rd_take 59 = ka_ret := rfl
theorem d_Rd_take_59 : decode prog_8_method_3_code 59 = .ok (.return_, 1) := by decide +kernel
set_option maxRecDepth 100000 in
set_option maxHeartbeats 4000000 in
theorem s_Rd_take_60 : ∀ pc, pc < 60 → kc_Sim kt kw_A kw_N kt_cl kt_En "DirectoryDesk$Reader" prog_8_method_3_code 5 (none) "take" none pc (ct_Rd_take pc) := by
  let P : Nat → Prop := fun pc => kc_Sim kt kw_A kw_N kt_cl kt_En "DirectoryDesk$Reader" prog_8_method_3_code 5 (none) "take" none pc (ct_Rd_take pc)
  exact kc_case (P := P) (kc_se c_Rd_take_59 (sm_ret d_Rd_take_59 rfl)) (
  kc_case (P := P) (kc_se rfl sm_no) (
  kc_case (P := P) (kc_se rfl sm_no) (
  kc_case (P := P) (kc_se c_Rd_take_56 (sm_goto d_Rd_take_56 (by decide))) (
  kc_case (P := P) (kc_se rfl sm_no) (
  kc_case (P := P) (kc_se rfl sm_no) (
  kc_case (P := P) (kc_se c_Rd_take_53 (sm_inc d_Rd_take_53 (by decide) (Nat.le_of_ble_eq_true rfl))) (
  kc_case (P := P) (kc_se rfl sm_no) (
  kc_case (P := P) (kc_se rfl sm_no) (
  kc_case (P := P) (kc_se c_Rd_take_50 (sm_put (ci := 1) (C := "DirectoryDesk$Reader") (F := kF_Rd) rfl kin_Rd kty_Rd ktk_Rd knm_Rd (Nat.le_of_ble_eq_true rfl) (by decide +kernel) d_Rd_take_50 (kw1 30 rfl rfl) rfl)) (
  kc_case (P := P) (kc_se c_Rd_take_49 (sm_iadd d_Rd_take_49)) (
  kc_case (P := P) (kc_se c_Rd_take_48 (sm_iconst d_Rd_take_48 (by decide))) (
  kc_case (P := P) (kc_se rfl sm_no) (
  kc_case (P := P) (kc_se rfl sm_no) (
  kc_case (P := P) (kc_se c_Rd_take_45 (sm_get (ci := 1) (C := "DirectoryDesk$Reader") (F := kF_Rd) rfl kin_Rd (Nat.le_of_ble_eq_true rfl) d_Rd_take_45 (kw1 30 rfl rfl))) (
  kc_case (P := P) (kc_se c_Rd_take_44 (sm_dup d_Rd_take_44)) (
  kc_case (P := P) (kc_se c_Rd_take_43 (sm_aload_n d_Rd_take_43 rfl)) (
  kc_case (P := P) (kc_se c_Rd_take_42 (sm_iast d_Rd_take_42)) (
  kc_case (P := P) (kc_se c_Rd_take_41 (sm_iand d_Rd_take_41)) (
  kc_case (P := P) (kc_se rfl sm_no) (
  kc_case (P := P) (kc_se rfl sm_no) (
  kc_case (P := P) (kc_se c_Rd_take_38 (sm_sipush d_Rd_take_38 (by decide))) (
  kc_case (P := P) (kc_se c_Rd_take_37 (sm_l2i d_Rd_take_37)) (
  kc_case (P := P) (kc_se c_Rd_take_36 (sm_lshr d_Rd_take_36)) (
  kc_case (P := P) (kc_se c_Rd_take_35 (sm_imul d_Rd_take_35)) (
  kc_case (P := P) (kc_se rfl sm_no) (
  kc_case (P := P) (kc_se c_Rd_take_33 (sm_iload d_Rd_take_33)) (
  kc_case (P := P) (kc_se rfl sm_no) (
  kc_case (P := P) (kc_se c_Rd_take_31 (sm_bipush d_Rd_take_31 (by decide))) (
  kc_case (P := P) (kc_se c_Rd_take_30 (sm_lload_n d_Rd_take_30 rfl)) (
  kc_case (P := P) (kc_se rfl sm_no) (
  kc_case (P := P) (kc_se rfl sm_no) (
  kc_case (P := P) (kc_se c_Rd_take_27 (sm_get (ci := 1) (C := "DirectoryDesk$Reader") (F := kF_Rd) rfl kin_Rd (Nat.le_of_ble_eq_true rfl) d_Rd_take_27 (kw1 30 rfl rfl))) (
  kc_case (P := P) (kc_se c_Rd_take_26 (sm_aload_n d_Rd_take_26 rfl)) (
  kc_case (P := P) (kc_se rfl sm_no) (
  kc_case (P := P) (kc_se rfl sm_no) (
  kc_case (P := P) (kc_se c_Rd_take_23 (sm_get (ci := 1) (C := "DirectoryDesk$Reader") (F := kF_Rd) rfl kin_Rd (Nat.le_of_ble_eq_true rfl) d_Rd_take_23 (kw1 28 rfl rfl))) (
  kc_case (P := P) (kc_se c_Rd_take_22 (sm_aload_n d_Rd_take_22 rfl)) (
  kc_case (P := P) (kc_se rfl sm_no) (
  kc_case (P := P) (kc_se rfl sm_no) (
  kc_case (P := P) (kc_se c_Rd_take_19 (sm_cm_ge d_Rd_take_19 (by decide))) (
  kc_case (P := P) (kc_se c_Rd_take_18 (sm_alen d_Rd_take_18)) (
  kc_case (P := P) (kc_se rfl sm_no) (
  kc_case (P := P) (kc_se rfl sm_no) (
  kc_case (P := P) (kc_se c_Rd_take_15 (sm_get (ci := 1) (C := "DirectoryDesk$Reader") (F := kF_Rd) rfl kin_Rd (Nat.le_of_ble_eq_true rfl) d_Rd_take_15 (kw1 28 rfl rfl))) (
  kc_case (P := P) (kc_se c_Rd_take_14 (sm_aload_n d_Rd_take_14 rfl)) (
  kc_case (P := P) (kc_se rfl sm_no) (
  kc_case (P := P) (kc_se rfl sm_no) (
  kc_case (P := P) (kc_se c_Rd_take_11 (sm_get (ci := 1) (C := "DirectoryDesk$Reader") (F := kF_Rd) rfl kin_Rd (Nat.le_of_ble_eq_true rfl) d_Rd_take_11 (kw1 30 rfl rfl))) (
  kc_case (P := P) (kc_se c_Rd_take_10 (sm_aload_n d_Rd_take_10 rfl)) (
  kc_case (P := P) (kc_se rfl sm_no) (
  kc_case (P := P) (kc_se rfl sm_no) (
  kc_case (P := P) (kc_se c_Rd_take_7 (sm_if_lt d_Rd_take_7 (by decide))) (
  kc_case (P := P) (kc_se rfl sm_no) (
  kc_case (P := P) (kc_se c_Rd_take_5 (sm_iload d_Rd_take_5)) (
  kc_case (P := P) (kc_se rfl sm_no) (
  kc_case (P := P) (kc_se c_Rd_take_3 (sm_istore d_Rd_take_3 (Nat.le_of_ble_eq_true rfl))) (
  kc_case (P := P) (kc_se c_Rd_take_2 (sm_isub d_Rd_take_2)) (
  kc_case (P := P) (kc_se c_Rd_take_1 (sm_iconst d_Rd_take_1 (by decide))) (
  kc_case (P := P) (kc_se c_Rd_take_0 (sm_iload_n d_Rd_take_0 rfl)) (
  kc_case0))))))))))))))))))))))))))))))))))))))))))))))))))))))))))))
theorem ka_nth_no_Rd_take (pc : Nat) (h : 60 ≤ pc) : ct_Rd_take pc = ka_no := ka_nth_ge _ pc (Nat.le_trans (Nat.le_of_eq (by rfl)) h)
theorem s_Rd_take (pc : Nat) : kc_Sim kt kw_A kw_N kt_cl kt_En "DirectoryDesk$Reader" prog_8_method_3_code 5 (none) "take" none pc (ct_Rd_take pc) := (Nat.lt_or_ge pc 60).elim (s_Rd_take_60 pc) (fun h => kc_se (ka_nth_no_Rd_take pc h) sm_no)
def cl_Rd_readFrame_0 : List kc_A := [ka_al 0 1, ka_ci (nI 0) 1, ka_put 1 2 .int, ka_no, ka_no, ka_al 0 1, ka_al 0 1, ka_get 1 1, ka_no, ka_no, ka_put 1 3 .int, ka_no, ka_no, ka_al 0 1, ka_ci (nI 0) 1, ka_put 1 4 .boolean, ka_no, ka_no, ka_al 0 1, ka_ci (nI 48) 2, ka_no, ka_cv 28 1 1 0 0, ka_no, ka_no, ka_pop, ka_al 0 1, ka_al 0 1, ka_cv 33 0 1 0 0, ka_no, ka_no, ka_put 1 5 .int, ka_no, ka_no, ka_al 0 1, ka_cv 32 0 1 0 0, ka_no, ka_no, ka_is 1 1, ka_al 0 1, ka_il 1 1, ka_cv 28 1 1 0 0, ka_no, ka_no, ka_pop, ka_al 0 1, ka_get 1 4, ka_no, ka_no, ka_if (fun x => ¬ x = 0) 73, ka_no, ka_no, ka_al 0 1, ka_get 1 5, ka_no, ka_no, ka_if (fun x => x < 0) 73, ka_no, ka_no, ka_al 0 1, ka_get 1 3]
def cl_Rd_readFrame_1 : List kc_A := [ka_no, ka_no, ka_al 0 1, ka_get 1 1, ka_no, ka_no, ka_cm (fun x y => ¬ x = y) 73, ka_no, ka_no, ka_il 1 1, ka_goto 74, ka_no, ka_no, ka_ci (-1) 1, ka_ri]
def ct_Rd_readFrame : Nat → kc_A := fun pc => ka_nth (cl_Rd_readFrame_0 ++ (cl_Rd_readFrame_1)) pc
set_option maxRecDepth 100000 in
theorem c_Rd_readFrame_0 : ct_Rd_readFrame 0 = ka_al 0 1 := rfl
theorem d_Rd_readFrame_0 : decode prog_8_method_4_code 0 = .ok (.aload_n 0, 1) := by decide +kernel
set_option maxRecDepth 100000 in
theorem c_Rd_readFrame_1 : ct_Rd_readFrame 1 = ka_ci (nI 0) 1 := rfl
theorem d_Rd_readFrame_1 : decode prog_8_method_4_code 1 = .ok (.iconst 0, 1) := by decide +kernel
set_option maxRecDepth 100000 in
theorem c_Rd_readFrame_2 : ct_Rd_readFrame 2 = ka_put 1 2 .int := rfl
theorem d_Rd_readFrame_2 : decode prog_8_method_4_code 2 = .ok (.putfield 19, 3) := by decide +kernel
set_option maxRecDepth 100000 in
theorem c_Rd_readFrame_5 : ct_Rd_readFrame 5 = ka_al 0 1 := rfl
theorem d_Rd_readFrame_5 : decode prog_8_method_4_code 5 = .ok (.aload_n 0, 1) := by decide +kernel
set_option maxRecDepth 100000 in
theorem c_Rd_readFrame_6 : ct_Rd_readFrame 6 = ka_al 0 1 := rfl
theorem d_Rd_readFrame_6 : decode prog_8_method_4_code 6 = .ok (.aload_n 0, 1) := by decide +kernel
set_option maxRecDepth 100000 in
theorem c_Rd_readFrame_7 : ct_Rd_readFrame 7 = ka_get 1 1 := rfl
theorem d_Rd_readFrame_7 : decode prog_8_method_4_code 7 = .ok (.getfield 15, 3) := by decide +kernel
set_option maxRecDepth 100000 in
theorem c_Rd_readFrame_10 : ct_Rd_readFrame 10 = ka_put 1 3 .int := rfl
theorem d_Rd_readFrame_10 : decode prog_8_method_4_code 10 = .ok (.putfield 22, 3) := by decide +kernel
set_option maxRecDepth 100000 in
theorem c_Rd_readFrame_13 : ct_Rd_readFrame 13 = ka_al 0 1 := rfl
theorem d_Rd_readFrame_13 : decode prog_8_method_4_code 13 = .ok (.aload_n 0, 1) := by decide +kernel
set_option maxRecDepth 100000 in
theorem c_Rd_readFrame_14 : ct_Rd_readFrame 14 = ka_ci (nI 0) 1 := rfl
theorem d_Rd_readFrame_14 : decode prog_8_method_4_code 14 = .ok (.iconst 0, 1) := by decide +kernel
set_option maxRecDepth 100000 in
theorem c_Rd_readFrame_15 : ct_Rd_readFrame 15 = ka_put 1 4 .boolean := rfl
theorem d_Rd_readFrame_15 : decode prog_8_method_4_code 15 = .ok (.putfield 25, 3) := by decide +kernel
set_option maxRecDepth 100000 in
theorem c_Rd_readFrame_18 : ct_Rd_readFrame 18 = ka_al 0 1 := rfl
theorem d_Rd_readFrame_18 : decode prog_8_method_4_code 18 = .ok (.aload_n 0, 1) := by decide +kernel
set_option maxRecDepth 100000 in
theorem c_Rd_readFrame_19 : ct_Rd_readFrame 19 = ka_ci (nI 48) 2 := rfl
theorem d_Rd_readFrame_19 : decode prog_8_method_4_code 19 = .ok (.bipush 48, 2) := by decide +kernel
set_option maxRecDepth 100000 in
theorem c_Rd_readFrame_21 : ct_Rd_readFrame 21 = ka_cv 28 1 1 0 0 := rfl
theorem d_Rd_readFrame_21 : decode prog_8_method_4_code 21 = .ok (.invokevirtual 29, 3) := by decide +kernel
set_option maxRecDepth 100000 in
theorem c_Rd_readFrame_24 : ct_Rd_readFrame 24 = ka_pop := rfl
theorem d_Rd_readFrame_24 : decode prog_8_method_4_code 24 = .ok (.pop, 1) := by decide +kernel
set_option maxRecDepth 100000 in
theorem c_Rd_readFrame_25 : ct_Rd_readFrame 25 = ka_al 0 1 := rfl
theorem d_Rd_readFrame_25 : decode prog_8_method_4_code 25 = .ok (.aload_n 0, 1) := by decide +kernel
set_option maxRecDepth 100000 in
theorem c_Rd_readFrame_26 : ct_Rd_readFrame 26 = ka_al 0 1 := rfl
theorem d_Rd_readFrame_26 : decode prog_8_method_4_code 26 = .ok (.aload_n 0, 1) := by decide +kernel
set_option maxRecDepth 100000 in
theorem c_Rd_readFrame_27 : ct_Rd_readFrame 27 = ka_cv 33 0 1 0 0 := rfl
theorem d_Rd_readFrame_27 : decode prog_8_method_4_code 27 = .ok (.invokevirtual 33, 3) := by decide +kernel
set_option maxRecDepth 100000 in
theorem c_Rd_readFrame_30 : ct_Rd_readFrame 30 = ka_put 1 5 .int := rfl
theorem d_Rd_readFrame_30 : decode prog_8_method_4_code 30 = .ok (.putfield 37, 3) := by decide +kernel
set_option maxRecDepth 100000 in
theorem c_Rd_readFrame_33 : ct_Rd_readFrame 33 = ka_al 0 1 := rfl
theorem d_Rd_readFrame_33 : decode prog_8_method_4_code 33 = .ok (.aload_n 0, 1) := by decide +kernel
set_option maxRecDepth 100000 in
theorem c_Rd_readFrame_34 : ct_Rd_readFrame 34 = ka_cv 32 0 1 0 0 := rfl
theorem d_Rd_readFrame_34 : decode prog_8_method_4_code 34 = .ok (.invokevirtual 40, 3) := by decide +kernel
set_option maxRecDepth 100000 in
theorem c_Rd_readFrame_37 : ct_Rd_readFrame 37 = ka_is 1 1 := rfl
theorem d_Rd_readFrame_37 : decode prog_8_method_4_code 37 = .ok (.istore_n 1, 1) := by decide +kernel
set_option maxRecDepth 100000 in
theorem c_Rd_readFrame_38 : ct_Rd_readFrame 38 = ka_al 0 1 := rfl
theorem d_Rd_readFrame_38 : decode prog_8_method_4_code 38 = .ok (.aload_n 0, 1) := by decide +kernel
set_option maxRecDepth 100000 in
theorem c_Rd_readFrame_39 : ct_Rd_readFrame 39 = ka_il 1 1 := rfl
theorem d_Rd_readFrame_39 : decode prog_8_method_4_code 39 = .ok (.iload_n 1, 1) := by decide +kernel
set_option maxRecDepth 100000 in
theorem c_Rd_readFrame_40 : ct_Rd_readFrame 40 = ka_cv 28 1 1 0 0 := rfl
theorem d_Rd_readFrame_40 : decode prog_8_method_4_code 40 = .ok (.invokevirtual 29, 3) := by decide +kernel
set_option maxRecDepth 100000 in
theorem c_Rd_readFrame_43 : ct_Rd_readFrame 43 = ka_pop := rfl
theorem d_Rd_readFrame_43 : decode prog_8_method_4_code 43 = .ok (.pop, 1) := by decide +kernel
set_option maxRecDepth 100000 in
theorem c_Rd_readFrame_44 : ct_Rd_readFrame 44 = ka_al 0 1 := rfl
theorem d_Rd_readFrame_44 : decode prog_8_method_4_code 44 = .ok (.aload_n 0, 1) := by decide +kernel
set_option maxRecDepth 100000 in
theorem c_Rd_readFrame_45 : ct_Rd_readFrame 45 = ka_get 1 4 := rfl
theorem d_Rd_readFrame_45 : decode prog_8_method_4_code 45 = .ok (.getfield 25, 3) := by decide +kernel
set_option maxRecDepth 100000 in
theorem c_Rd_readFrame_48 : ct_Rd_readFrame 48 = ka_if (fun x => ¬ x = 0) 73 := rfl
theorem d_Rd_readFrame_48 : decode prog_8_method_4_code 48 = .ok (.ifCond .ne 25, 3) := by decide +kernel
set_option maxRecDepth 100000 in
theorem c_Rd_readFrame_51 : ct_Rd_readFrame 51 = ka_al 0 1 := rfl
theorem d_Rd_readFrame_51 : decode prog_8_method_4_code 51 = .ok (.aload_n 0, 1) := by decide +kernel
set_option maxRecDepth 100000 in
theorem c_Rd_readFrame_52 : ct_Rd_readFrame 52 = ka_get 1 5 := rfl
theorem d_Rd_readFrame_52 : decode prog_8_method_4_code 52 = .ok (.getfield 37, 3) := by decide +kernel
set_option maxRecDepth 100000 in
theorem c_Rd_readFrame_55 : ct_Rd_readFrame 55 = ka_if (fun x => x < 0) 73 := rfl
theorem d_Rd_readFrame_55 : decode prog_8_method_4_code 55 = .ok (.ifCond .lt 18, 3) := by decide +kernel
set_option maxRecDepth 100000 in
theorem c_Rd_readFrame_58 : ct_Rd_readFrame 58 = ka_al 0 1 := rfl
theorem d_Rd_readFrame_58 : decode prog_8_method_4_code 58 = .ok (.aload_n 0, 1) := by decide +kernel
set_option maxRecDepth 100000 in
theorem c_Rd_readFrame_59 : ct_Rd_readFrame 59 = ka_get 1 3 := rfl
theorem d_Rd_readFrame_59 : decode prog_8_method_4_code 59 = .ok (.getfield 22, 3) := by decide +kernel
set_option maxRecDepth 100000 in
theorem c_Rd_readFrame_62 : ct_Rd_readFrame 62 = ka_al 0 1 := rfl
theorem d_Rd_readFrame_62 : decode prog_8_method_4_code 62 = .ok (.aload_n 0, 1) := by decide +kernel
set_option maxRecDepth 100000 in
theorem c_Rd_readFrame_63 : ct_Rd_readFrame 63 = ka_get 1 1 := rfl
theorem d_Rd_readFrame_63 : decode prog_8_method_4_code 63 = .ok (.getfield 15, 3) := by decide +kernel
set_option maxRecDepth 100000 in
theorem c_Rd_readFrame_66 : ct_Rd_readFrame 66 = ka_cm (fun x y => ¬ x = y) 73 := rfl
theorem d_Rd_readFrame_66 : decode prog_8_method_4_code 66 = .ok (.if_icmp .ne 7, 3) := by decide +kernel
set_option maxRecDepth 100000 in
theorem c_Rd_readFrame_69 : ct_Rd_readFrame 69 = ka_il 1 1 := rfl
theorem d_Rd_readFrame_69 : decode prog_8_method_4_code 69 = .ok (.iload_n 1, 1) := by decide +kernel
set_option maxRecDepth 100000 in
theorem c_Rd_readFrame_70 : ct_Rd_readFrame 70 = ka_goto 74 := rfl
theorem d_Rd_readFrame_70 : decode prog_8_method_4_code 70 = .ok (.goto 4, 3) := by decide +kernel
set_option maxRecDepth 100000 in
theorem c_Rd_readFrame_73 : ct_Rd_readFrame 73 = ka_ci (-1) 1 := rfl
theorem d_Rd_readFrame_73 : decode prog_8_method_4_code 73 = .ok (.iconst (-1), 1) := by decide +kernel
set_option maxRecDepth 100000 in
theorem c_Rd_readFrame_74 : ct_Rd_readFrame 74 = ka_ri := rfl
theorem d_Rd_readFrame_74 : decode prog_8_method_4_code 74 = .ok (.ireturn, 1) := by decide +kernel
set_option maxRecDepth 100000 in
set_option maxHeartbeats 4000000 in
theorem s_Rd_readFrame_60 : ∀ pc, pc < 60 → kc_Sim kt kw_A kw_N kt_cl kt_En "DirectoryDesk$Reader" prog_8_method_4_code 2 (some .int) "readFrame" none pc (ct_Rd_readFrame pc) := by
  let P : Nat → Prop := fun pc => kc_Sim kt kw_A kw_N kt_cl kt_En "DirectoryDesk$Reader" prog_8_method_4_code 2 (some .int) "readFrame" none pc (ct_Rd_readFrame pc)
  exact kc_case (P := P) (kc_se c_Rd_readFrame_59 (sm_get (ci := 1) (C := "DirectoryDesk$Reader") (F := kF_Rd) rfl kin_Rd (Nat.le_of_ble_eq_true rfl) d_Rd_readFrame_59 (kw1 33 rfl rfl))) (
  kc_case (P := P) (kc_se c_Rd_readFrame_58 (sm_aload_n d_Rd_readFrame_58 rfl)) (
  kc_case (P := P) (kc_se rfl sm_no) (
  kc_case (P := P) (kc_se rfl sm_no) (
  kc_case (P := P) (kc_se c_Rd_readFrame_55 (sm_if_lt d_Rd_readFrame_55 (by decide))) (
  kc_case (P := P) (kc_se rfl sm_no) (
  kc_case (P := P) (kc_se rfl sm_no) (
  kc_case (P := P) (kc_se c_Rd_readFrame_52 (sm_get (ci := 1) (C := "DirectoryDesk$Reader") (F := kF_Rd) rfl kin_Rd (Nat.le_of_ble_eq_true rfl) d_Rd_readFrame_52 (kw1 37 rfl rfl))) (
  kc_case (P := P) (kc_se c_Rd_readFrame_51 (sm_aload_n d_Rd_readFrame_51 rfl)) (
  kc_case (P := P) (kc_se rfl sm_no) (
  kc_case (P := P) (kc_se rfl sm_no) (
  kc_case (P := P) (kc_se c_Rd_readFrame_48 (sm_if_ne d_Rd_readFrame_48 (by decide))) (
  kc_case (P := P) (kc_se rfl sm_no) (
  kc_case (P := P) (kc_se rfl sm_no) (
  kc_case (P := P) (kc_se c_Rd_readFrame_45 (sm_get (ci := 1) (C := "DirectoryDesk$Reader") (F := kF_Rd) rfl kin_Rd (Nat.le_of_ble_eq_true rfl) d_Rd_readFrame_45 (kw1 35 rfl rfl))) (
  kc_case (P := P) (kc_se c_Rd_readFrame_44 (sm_aload_n d_Rd_readFrame_44 rfl)) (
  kc_case (P := P) (kc_se c_Rd_readFrame_43 (sm_pop d_Rd_readFrame_43)) (
  kc_case (P := P) (kc_se rfl sm_no) (
  kc_case (P := P) (kc_se rfl sm_no) (
  kc_case (P := P) (kc_se c_Rd_readFrame_40 (sm_cv (j := 28) rfl rfl kw_o kw_g wc_Rd_enter (Nat.le_of_ble_eq_true rfl) hd_Rd_enter (ci := 1) (F := kF_Rd) (N := 8) rfl (kw2 59 rfl rfl) wi_Rd_enter ws_Rd_enter wn_Rd_enter d_Rd_readFrame_40)) (
  kc_case (P := P) (kc_se c_Rd_readFrame_39 (sm_iload_n d_Rd_readFrame_39 rfl)) (
  kc_case (P := P) (kc_se c_Rd_readFrame_38 (sm_aload_n d_Rd_readFrame_38 rfl)) (
  kc_case (P := P) (kc_se c_Rd_readFrame_37 (sm_istore_n d_Rd_readFrame_37 rfl (Nat.le_of_ble_eq_true rfl))) (
  kc_case (P := P) (kc_se rfl sm_no) (
  kc_case (P := P) (kc_se rfl sm_no) (
  kc_case (P := P) (kc_se c_Rd_readFrame_34 (sm_cv (j := 32) rfl rfl kw_o kw_g wc_Rd_nextTag (Nat.le_of_ble_eq_true rfl) hd_Rd_nextTag (ci := 1) (F := kF_Rd) (N := 8) rfl (kw2 79 rfl rfl) wi_Rd_nextTag ws_Rd_nextTag wn_Rd_nextTag d_Rd_readFrame_34)) (
  kc_case (P := P) (kc_se c_Rd_readFrame_33 (sm_aload_n d_Rd_readFrame_33 rfl)) (
  kc_case (P := P) (kc_se rfl sm_no) (
  kc_case (P := P) (kc_se rfl sm_no) (
  kc_case (P := P) (kc_se c_Rd_readFrame_30 (sm_put (ci := 1) (C := "DirectoryDesk$Reader") (F := kF_Rd) rfl kin_Rd kty_Rd ktk_Rd knm_Rd (Nat.le_of_ble_eq_true rfl) (by decide +kernel) d_Rd_readFrame_30 (kw1 37 rfl rfl) rfl)) (
  kc_case (P := P) (kc_se rfl sm_no) (
  kc_case (P := P) (kc_se rfl sm_no) (
  kc_case (P := P) (kc_se c_Rd_readFrame_27 (sm_cv (j := 33) rfl rfl kw_o kw_g wc_Rd_number (Nat.le_of_ble_eq_true rfl) hd_Rd_number (ci := 1) (F := kF_Rd) (N := 8) rfl (kw2 63 rfl rfl) wi_Rd_number ws_Rd_number wn_Rd_number d_Rd_readFrame_27)) (
  kc_case (P := P) (kc_se c_Rd_readFrame_26 (sm_aload_n d_Rd_readFrame_26 rfl)) (
  kc_case (P := P) (kc_se c_Rd_readFrame_25 (sm_aload_n d_Rd_readFrame_25 rfl)) (
  kc_case (P := P) (kc_se c_Rd_readFrame_24 (sm_pop d_Rd_readFrame_24)) (
  kc_case (P := P) (kc_se rfl sm_no) (
  kc_case (P := P) (kc_se rfl sm_no) (
  kc_case (P := P) (kc_se c_Rd_readFrame_21 (sm_cv (j := 28) rfl rfl kw_o kw_g wc_Rd_enter (Nat.le_of_ble_eq_true rfl) hd_Rd_enter (ci := 1) (F := kF_Rd) (N := 8) rfl (kw2 59 rfl rfl) wi_Rd_enter ws_Rd_enter wn_Rd_enter d_Rd_readFrame_21)) (
  kc_case (P := P) (kc_se rfl sm_no) (
  kc_case (P := P) (kc_se c_Rd_readFrame_19 (sm_bipush d_Rd_readFrame_19 (by decide))) (
  kc_case (P := P) (kc_se c_Rd_readFrame_18 (sm_aload_n d_Rd_readFrame_18 rfl)) (
  kc_case (P := P) (kc_se rfl sm_no) (
  kc_case (P := P) (kc_se rfl sm_no) (
  kc_case (P := P) (kc_se c_Rd_readFrame_15 (sm_put (ci := 1) (C := "DirectoryDesk$Reader") (F := kF_Rd) rfl kin_Rd kty_Rd ktk_Rd knm_Rd (Nat.le_of_ble_eq_true rfl) (by decide +kernel) d_Rd_readFrame_15 (kw1 35 rfl rfl) rfl)) (
  kc_case (P := P) (kc_se c_Rd_readFrame_14 (sm_iconst d_Rd_readFrame_14 (by decide))) (
  kc_case (P := P) (kc_se c_Rd_readFrame_13 (sm_aload_n d_Rd_readFrame_13 rfl)) (
  kc_case (P := P) (kc_se rfl sm_no) (
  kc_case (P := P) (kc_se rfl sm_no) (
  kc_case (P := P) (kc_se c_Rd_readFrame_10 (sm_put (ci := 1) (C := "DirectoryDesk$Reader") (F := kF_Rd) rfl kin_Rd kty_Rd ktk_Rd knm_Rd (Nat.le_of_ble_eq_true rfl) (by decide +kernel) d_Rd_readFrame_10 (kw1 33 rfl rfl) rfl)) (
  kc_case (P := P) (kc_se rfl sm_no) (
  kc_case (P := P) (kc_se rfl sm_no) (
  kc_case (P := P) (kc_se c_Rd_readFrame_7 (sm_get (ci := 1) (C := "DirectoryDesk$Reader") (F := kF_Rd) rfl kin_Rd (Nat.le_of_ble_eq_true rfl) d_Rd_readFrame_7 (kw1 30 rfl rfl))) (
  kc_case (P := P) (kc_se c_Rd_readFrame_6 (sm_aload_n d_Rd_readFrame_6 rfl)) (
  kc_case (P := P) (kc_se c_Rd_readFrame_5 (sm_aload_n d_Rd_readFrame_5 rfl)) (
  kc_case (P := P) (kc_se rfl sm_no) (
  kc_case (P := P) (kc_se rfl sm_no) (
  kc_case (P := P) (kc_se c_Rd_readFrame_2 (sm_put (ci := 1) (C := "DirectoryDesk$Reader") (F := kF_Rd) rfl kin_Rd kty_Rd ktk_Rd knm_Rd (Nat.le_of_ble_eq_true rfl) (by decide +kernel) d_Rd_readFrame_2 (kw1 32 rfl rfl) rfl)) (
  kc_case (P := P) (kc_se c_Rd_readFrame_1 (sm_iconst d_Rd_readFrame_1 (by decide))) (
  kc_case (P := P) (kc_se c_Rd_readFrame_0 (sm_aload_n d_Rd_readFrame_0 rfl)) (
  kc_case0))))))))))))))))))))))))))))))))))))))))))))))))))))))))))))
set_option maxRecDepth 100000 in
set_option maxHeartbeats 4000000 in
theorem s_Rd_readFrame_75 : ∀ pc, pc < 75 → kc_Sim kt kw_A kw_N kt_cl kt_En "DirectoryDesk$Reader" prog_8_method_4_code 2 (some .int) "readFrame" none pc (ct_Rd_readFrame pc) := by
  let P : Nat → Prop := fun pc => kc_Sim kt kw_A kw_N kt_cl kt_En "DirectoryDesk$Reader" prog_8_method_4_code 2 (some .int) "readFrame" none pc (ct_Rd_readFrame pc)
  exact kc_case (P := P) (kc_se c_Rd_readFrame_74 (sm_ri d_Rd_readFrame_74 rfl)) (
  kc_case (P := P) (kc_se c_Rd_readFrame_73 (sm_iconst d_Rd_readFrame_73 (by decide))) (
  kc_case (P := P) (kc_se rfl sm_no) (
  kc_case (P := P) (kc_se rfl sm_no) (
  kc_case (P := P) (kc_se c_Rd_readFrame_70 (sm_goto d_Rd_readFrame_70 (by decide))) (
  kc_case (P := P) (kc_se c_Rd_readFrame_69 (sm_iload_n d_Rd_readFrame_69 rfl)) (
  kc_case (P := P) (kc_se rfl sm_no) (
  kc_case (P := P) (kc_se rfl sm_no) (
  kc_case (P := P) (kc_se c_Rd_readFrame_66 (sm_cm_ne d_Rd_readFrame_66 (by decide))) (
  kc_case (P := P) (kc_se rfl sm_no) (
  kc_case (P := P) (kc_se rfl sm_no) (
  kc_case (P := P) (kc_se c_Rd_readFrame_63 (sm_get (ci := 1) (C := "DirectoryDesk$Reader") (F := kF_Rd) rfl kin_Rd (Nat.le_of_ble_eq_true rfl) d_Rd_readFrame_63 (kw1 30 rfl rfl))) (
  kc_case (P := P) (kc_se c_Rd_readFrame_62 (sm_aload_n d_Rd_readFrame_62 rfl)) (
  kc_case (P := P) (kc_se rfl sm_no) (
  kc_case (P := P) (kc_se rfl sm_no) (
  s_Rd_readFrame_60)))))))))))))))
theorem ka_nth_no_Rd_readFrame (pc : Nat) (h : 75 ≤ pc) : ct_Rd_readFrame pc = ka_no := ka_nth_ge _ pc (Nat.le_trans (Nat.le_of_eq (by rfl)) h)
theorem s_Rd_readFrame (pc : Nat) : kc_Sim kt kw_A kw_N kt_cl kt_En "DirectoryDesk$Reader" prog_8_method_4_code 2 (some .int) "readFrame" none pc (ct_Rd_readFrame pc) := (Nat.lt_or_ge pc 75).elim (s_Rd_readFrame_75 pc) (fun h => kc_se (ka_nth_no_Rd_readFrame pc h) sm_no)
def cl_Rd_enter_0 : List kc_A := [ka_al 0 1, ka_get 1 3, ka_no, ka_no, ka_is 2 1, ka_al 0 1, ka_get 1 2, ka_no, ka_no, ka_ci (nI 2) 1, ka_ii (fun x y => x + y), ka_al 0 1, ka_get 1 3, ka_no, ka_no, ka_cm (fun x y => y ≤ x) 39, ka_no, ka_no, ka_al 0 1, ka_get 1 0, ka_no, ka_no, ka_al 0 1, ka_get 1 2, ka_no, ka_no, ka_ci (nI 1) 1, ka_ii (fun x y => x + y), ka_iald, ka_ci (nI 129) 3, ka_no, ka_no, ka_cm (fun x y => ¬ x = y) 39, ka_no, ka_no, ka_ci (nI 1) 1, ka_goto 40, ka_no, ka_no, ka_ci (nI 0) 1, ka_is 3 1, ka_il 3 1, ka_if (fun x => x = 0) 54, ka_no, ka_no, ka_al 0 1, ka_get 1 2, ka_no, ka_no, ka_ci (nI 3) 1, ka_ii (fun x y => x + y), ka_goto 60, ka_no, ka_no, ka_al 0 1, ka_get 1 2, ka_no, ka_no, ka_ci (nI 2) 1, ka_ii (fun x y => x + y)]
def cl_Rd_enter_1 : List kc_A := [ka_is 4 2, ka_no, ka_al 0 1, ka_get 1 4, ka_no, ka_no, ka_if (fun x => ¬ x = 0) 130, ka_no, ka_no, ka_il 4 2, ka_no, ka_al 0 1, ka_get 1 3, ka_no, ka_no, ka_cm (fun x y => y < x) 130, ka_no, ka_no, ka_al 0 1, ka_get 1 0, ka_no, ka_no, ka_al 0 1, ka_get 1 2, ka_no, ka_no, ka_iald, ka_il 1 1, ka_cm (fun x y => ¬ x = y) 130, ka_no, ka_no, ka_il 3 1, ka_if (fun x => ¬ x = 0) 111, ka_no, ka_no, ka_al 0 1, ka_get 1 0, ka_no, ka_no, ka_al 0 1, ka_get 1 2, ka_no, ka_no, ka_ci (nI 1) 1, ka_ii (fun x y => x + y), ka_iald, ka_ci (nI 127) 2, ka_no, ka_cm (fun x y => y < x) 130, ka_no, ka_no, ka_al 0 1, ka_get 1 0, ka_no, ka_no, ka_il 4 2, ka_no, ka_ci (nI 1) 1, ka_ii (fun x y => x - y), ka_iald]
def cl_Rd_enter_2 : List kc_A := [ka_al 0 1, ka_get 1 3, ka_no, ka_no, ka_il 4 2, ka_no, ka_ii (fun x y => x - y), ka_cm (fun x y => x ≤ y) 137, ka_no, ka_no, ka_al 0 1, ka_ci (nI 1) 1, ka_put 1 4 .boolean, ka_no, ka_no, ka_il 2 1, ka_ri, ka_al 0 1, ka_il 4 2, ka_no, ka_put 1 2 .int, ka_no, ka_no, ka_al 0 1, ka_il 4 2, ka_no, ka_al 0 1, ka_get 1 0, ka_no, ka_no, ka_il 4 2, ka_no, ka_ci (nI 1) 1, ka_ii (fun x y => x - y), ka_iald, ka_ii (fun x y => x + y), ka_put 1 3 .int, ka_no, ka_no, ka_il 2 1, ka_ri]
def ct_Rd_enter : Nat → kc_A := fun pc => ka_nth (cl_Rd_enter_0 ++ (cl_Rd_enter_1 ++ (cl_Rd_enter_2))) pc
set_option maxRecDepth 100000 in
theorem c_Rd_enter_0 : ct_Rd_enter 0 = ka_al 0 1 := rfl
theorem d_Rd_enter_0 : decode prog_8_method_5_code 0 = .ok (.aload_n 0, 1) := by decide +kernel
set_option maxRecDepth 100000 in
theorem c_Rd_enter_1 : ct_Rd_enter 1 = ka_get 1 3 := rfl
theorem d_Rd_enter_1 : decode prog_8_method_5_code 1 = .ok (.getfield 22, 3) := by decide +kernel
set_option maxRecDepth 100000 in
theorem c_Rd_enter_4 : ct_Rd_enter 4 = ka_is 2 1 := rfl
theorem d_Rd_enter_4 : decode prog_8_method_5_code 4 = .ok (.istore_n 2, 1) := by decide +kernel
set_option maxRecDepth 100000 in
theorem c_Rd_enter_5 : ct_Rd_enter 5 = ka_al 0 1 := rfl
theorem d_Rd_enter_5 : decode prog_8_method_5_code 5 = .ok (.aload_n 0, 1) := by decide +kernel
set_option maxRecDepth 100000 in
theorem c_Rd_enter_6 : ct_Rd_enter 6 = ka_get 1 2 := rfl
theorem d_Rd_enter_6 : decode prog_8_method_5_code 6 = .ok (.getfield 19, 3) := by decide +kernel
set_option maxRecDepth 100000 in
theorem c_Rd_enter_9 : ct_Rd_enter 9 = ka_ci (nI 2) 1 := rfl
theorem d_Rd_enter_9 : decode prog_8_method_5_code 9 = .ok (.iconst 2, 1) := by decide +kernel
set_option maxRecDepth 100000 in
theorem c_Rd_enter_10 : ct_Rd_enter 10 = ka_ii (fun x y => x + y) := rfl
theorem d_Rd_enter_10 : decode prog_8_method_5_code 10 = .ok (.iadd, 1) := by decide +kernel
set_option maxRecDepth 100000 in
theorem c_Rd_enter_11 : ct_Rd_enter 11 = ka_al 0 1 := rfl
theorem d_Rd_enter_11 : decode prog_8_method_5_code 11 = .ok (.aload_n 0, 1) := by decide +kernel
set_option maxRecDepth 100000 in
theorem c_Rd_enter_12 : ct_Rd_enter 12 = ka_get 1 3 := rfl
theorem d_Rd_enter_12 : decode prog_8_method_5_code 12 = .ok (.getfield 22, 3) := by decide +kernel
set_option maxRecDepth 100000 in
theorem c_Rd_enter_15 : ct_Rd_enter 15 = ka_cm (fun x y => y ≤ x) 39 := rfl
theorem d_Rd_enter_15 : decode prog_8_method_5_code 15 = .ok (.if_icmp .ge 24, 3) := by decide +kernel
set_option maxRecDepth 100000 in
theorem c_Rd_enter_18 : ct_Rd_enter 18 = ka_al 0 1 := rfl
theorem d_Rd_enter_18 : decode prog_8_method_5_code 18 = .ok (.aload_n 0, 1) := by decide +kernel
set_option maxRecDepth 100000 in
theorem c_Rd_enter_19 : ct_Rd_enter 19 = ka_get 1 0 := rfl
theorem d_Rd_enter_19 : decode prog_8_method_5_code 19 = .ok (.getfield 9, 3) := by decide +kernel
set_option maxRecDepth 100000 in
theorem c_Rd_enter_22 : ct_Rd_enter 22 = ka_al 0 1 := rfl
theorem d_Rd_enter_22 : decode prog_8_method_5_code 22 = .ok (.aload_n 0, 1) := by decide +kernel
set_option maxRecDepth 100000 in
theorem c_Rd_enter_23 : ct_Rd_enter 23 = ka_get 1 2 := rfl
theorem d_Rd_enter_23 : decode prog_8_method_5_code 23 = .ok (.getfield 19, 3) := by decide +kernel
set_option maxRecDepth 100000 in
theorem c_Rd_enter_26 : ct_Rd_enter 26 = ka_ci (nI 1) 1 := rfl
theorem d_Rd_enter_26 : decode prog_8_method_5_code 26 = .ok (.iconst 1, 1) := by decide +kernel
set_option maxRecDepth 100000 in
theorem c_Rd_enter_27 : ct_Rd_enter 27 = ka_ii (fun x y => x + y) := rfl
theorem d_Rd_enter_27 : decode prog_8_method_5_code 27 = .ok (.iadd, 1) := by decide +kernel
set_option maxRecDepth 100000 in
theorem c_Rd_enter_28 : ct_Rd_enter 28 = ka_iald := rfl
theorem d_Rd_enter_28 : decode prog_8_method_5_code 28 = .ok (.iaload, 1) := by decide +kernel
set_option maxRecDepth 100000 in
theorem c_Rd_enter_29 : ct_Rd_enter 29 = ka_ci (nI 129) 3 := rfl
theorem d_Rd_enter_29 : decode prog_8_method_5_code 29 = .ok (.sipush 129, 3) := by decide +kernel
set_option maxRecDepth 100000 in
theorem c_Rd_enter_32 : ct_Rd_enter 32 = ka_cm (fun x y => ¬ x = y) 39 := rfl
theorem d_Rd_enter_32 : decode prog_8_method_5_code 32 = .ok (.if_icmp .ne 7, 3) := by decide +kernel
set_option maxRecDepth 100000 in
theorem c_Rd_enter_35 : ct_Rd_enter 35 = ka_ci (nI 1) 1 := rfl
theorem d_Rd_enter_35 : decode prog_8_method_5_code 35 = .ok (.iconst 1, 1) := by decide +kernel
set_option maxRecDepth 100000 in
theorem c_Rd_enter_36 : ct_Rd_enter 36 = ka_goto 40 := rfl
theorem d_Rd_enter_36 : decode prog_8_method_5_code 36 = .ok (.goto 4, 3) := by decide +kernel
set_option maxRecDepth 100000 in
theorem c_Rd_enter_39 : ct_Rd_enter 39 = ka_ci (nI 0) 1 := rfl
theorem d_Rd_enter_39 : decode prog_8_method_5_code 39 = .ok (.iconst 0, 1) := by decide +kernel
set_option maxRecDepth 100000 in
theorem c_Rd_enter_40 : ct_Rd_enter 40 = ka_is 3 1 := rfl
theorem d_Rd_enter_40 : decode prog_8_method_5_code 40 = .ok (.istore_n 3, 1) := by decide +kernel
set_option maxRecDepth 100000 in
theorem c_Rd_enter_41 : ct_Rd_enter 41 = ka_il 3 1 := rfl
theorem d_Rd_enter_41 : decode prog_8_method_5_code 41 = .ok (.iload_n 3, 1) := by decide +kernel
set_option maxRecDepth 100000 in
theorem c_Rd_enter_42 : ct_Rd_enter 42 = ka_if (fun x => x = 0) 54 := rfl
theorem d_Rd_enter_42 : decode prog_8_method_5_code 42 = .ok (.ifCond .eq 12, 3) := by decide +kernel
set_option maxRecDepth 100000 in
theorem c_Rd_enter_45 : ct_Rd_enter 45 = ka_al 0 1 := rfl
theorem d_Rd_enter_45 : decode prog_8_method_5_code 45 = .ok (.aload_n 0, 1) := by decide +kernel
set_option maxRecDepth 100000 in
theorem c_Rd_enter_46 : ct_Rd_enter 46 = ka_get 1 2 := rfl
theorem d_Rd_enter_46 : decode prog_8_method_5_code 46 = .ok (.getfield 19, 3) := by decide +kernel
set_option maxRecDepth 100000 in
theorem c_Rd_enter_49 : ct_Rd_enter 49 = ka_ci (nI 3) 1 := rfl
theorem d_Rd_enter_49 : decode prog_8_method_5_code 49 = .ok (.iconst 3, 1) := by decide +kernel
set_option maxRecDepth 100000 in
theorem c_Rd_enter_50 : ct_Rd_enter 50 = ka_ii (fun x y => x + y) := rfl
theorem d_Rd_enter_50 : decode prog_8_method_5_code 50 = .ok (.iadd, 1) := by decide +kernel
set_option maxRecDepth 100000 in
theorem c_Rd_enter_51 : ct_Rd_enter 51 = ka_goto 60 := rfl
theorem d_Rd_enter_51 : decode prog_8_method_5_code 51 = .ok (.goto 9, 3) := by decide +kernel
set_option maxRecDepth 100000 in
theorem c_Rd_enter_54 : ct_Rd_enter 54 = ka_al 0 1 := rfl
theorem d_Rd_enter_54 : decode prog_8_method_5_code 54 = .ok (.aload_n 0, 1) := by decide +kernel
set_option maxRecDepth 100000 in
theorem c_Rd_enter_55 : ct_Rd_enter 55 = ka_get 1 2 := rfl
theorem d_Rd_enter_55 : decode prog_8_method_5_code 55 = .ok (.getfield 19, 3) := by decide +kernel
set_option maxRecDepth 100000 in
theorem c_Rd_enter_58 : ct_Rd_enter 58 = ka_ci (nI 2) 1 := rfl
theorem d_Rd_enter_58 : decode prog_8_method_5_code 58 = .ok (.iconst 2, 1) := by decide +kernel
set_option maxRecDepth 100000 in
theorem c_Rd_enter_59 : ct_Rd_enter 59 = ka_ii (fun x y => x + y) := rfl
theorem d_Rd_enter_59 : decode prog_8_method_5_code 59 = .ok (.iadd, 1) := by decide +kernel
set_option maxRecDepth 100000 in
theorem c_Rd_enter_60 : ct_Rd_enter 60 = ka_is 4 2 := rfl
theorem d_Rd_enter_60 : decode prog_8_method_5_code 60 = .ok (.istore 4, 2) := by decide +kernel
set_option maxRecDepth 100000 in
theorem c_Rd_enter_62 : ct_Rd_enter 62 = ka_al 0 1 := rfl
theorem d_Rd_enter_62 : decode prog_8_method_5_code 62 = .ok (.aload_n 0, 1) := by decide +kernel
set_option maxRecDepth 100000 in
theorem c_Rd_enter_63 : ct_Rd_enter 63 = ka_get 1 4 := rfl
theorem d_Rd_enter_63 : decode prog_8_method_5_code 63 = .ok (.getfield 25, 3) := by decide +kernel
set_option maxRecDepth 100000 in
theorem c_Rd_enter_66 : ct_Rd_enter 66 = ka_if (fun x => ¬ x = 0) 130 := rfl
theorem d_Rd_enter_66 : decode prog_8_method_5_code 66 = .ok (.ifCond .ne 64, 3) := by decide +kernel
set_option maxRecDepth 100000 in
theorem c_Rd_enter_69 : ct_Rd_enter 69 = ka_il 4 2 := rfl
theorem d_Rd_enter_69 : decode prog_8_method_5_code 69 = .ok (.iload 4, 2) := by decide +kernel
set_option maxRecDepth 100000 in
theorem c_Rd_enter_71 : ct_Rd_enter 71 = ka_al 0 1 := rfl
theorem d_Rd_enter_71 : decode prog_8_method_5_code 71 = .ok (.aload_n 0, 1) := by decide +kernel
set_option maxRecDepth 100000 in
theorem c_Rd_enter_72 : ct_Rd_enter 72 = ka_get 1 3 := rfl
theorem d_Rd_enter_72 : decode prog_8_method_5_code 72 = .ok (.getfield 22, 3) := by decide +kernel
set_option maxRecDepth 100000 in
theorem c_Rd_enter_75 : ct_Rd_enter 75 = ka_cm (fun x y => y < x) 130 := rfl
theorem d_Rd_enter_75 : decode prog_8_method_5_code 75 = .ok (.if_icmp .gt 55, 3) := by decide +kernel
set_option maxRecDepth 100000 in
theorem c_Rd_enter_78 : ct_Rd_enter 78 = ka_al 0 1 := rfl
theorem d_Rd_enter_78 : decode prog_8_method_5_code 78 = .ok (.aload_n 0, 1) := by decide +kernel
set_option maxRecDepth 100000 in
theorem c_Rd_enter_79 : ct_Rd_enter 79 = ka_get 1 0 := rfl
theorem d_Rd_enter_79 : decode prog_8_method_5_code 79 = .ok (.getfield 9, 3) := by decide +kernel
set_option maxRecDepth 100000 in
theorem c_Rd_enter_82 : ct_Rd_enter 82 = ka_al 0 1 := rfl
theorem d_Rd_enter_82 : decode prog_8_method_5_code 82 = .ok (.aload_n 0, 1) := by decide +kernel
set_option maxRecDepth 100000 in
theorem c_Rd_enter_83 : ct_Rd_enter 83 = ka_get 1 2 := rfl
theorem d_Rd_enter_83 : decode prog_8_method_5_code 83 = .ok (.getfield 19, 3) := by decide +kernel
set_option maxRecDepth 100000 in
theorem c_Rd_enter_86 : ct_Rd_enter 86 = ka_iald := rfl
theorem d_Rd_enter_86 : decode prog_8_method_5_code 86 = .ok (.iaload, 1) := by decide +kernel
set_option maxRecDepth 100000 in
theorem c_Rd_enter_87 : ct_Rd_enter 87 = ka_il 1 1 := rfl
theorem d_Rd_enter_87 : decode prog_8_method_5_code 87 = .ok (.iload_n 1, 1) := by decide +kernel
set_option maxRecDepth 100000 in
theorem c_Rd_enter_88 : ct_Rd_enter 88 = ka_cm (fun x y => ¬ x = y) 130 := rfl
theorem d_Rd_enter_88 : decode prog_8_method_5_code 88 = .ok (.if_icmp .ne 42, 3) := by decide +kernel
set_option maxRecDepth 100000 in
theorem c_Rd_enter_91 : ct_Rd_enter 91 = ka_il 3 1 := rfl
theorem d_Rd_enter_91 : decode prog_8_method_5_code 91 = .ok (.iload_n 3, 1) := by decide +kernel
set_option maxRecDepth 100000 in
theorem c_Rd_enter_92 : ct_Rd_enter 92 = ka_if (fun x => ¬ x = 0) 111 := rfl
theorem d_Rd_enter_92 : decode prog_8_method_5_code 92 = .ok (.ifCond .ne 19, 3) := by decide +kernel
set_option maxRecDepth 100000 in
theorem c_Rd_enter_95 : ct_Rd_enter 95 = ka_al 0 1 := rfl
theorem d_Rd_enter_95 : decode prog_8_method_5_code 95 = .ok (.aload_n 0, 1) := by decide +kernel
set_option maxRecDepth 100000 in
theorem c_Rd_enter_96 : ct_Rd_enter 96 = ka_get 1 0 := rfl
theorem d_Rd_enter_96 : decode prog_8_method_5_code 96 = .ok (.getfield 9, 3) := by decide +kernel
set_option maxRecDepth 100000 in
theorem c_Rd_enter_99 : ct_Rd_enter 99 = ka_al 0 1 := rfl
theorem d_Rd_enter_99 : decode prog_8_method_5_code 99 = .ok (.aload_n 0, 1) := by decide +kernel
set_option maxRecDepth 100000 in
theorem c_Rd_enter_100 : ct_Rd_enter 100 = ka_get 1 2 := rfl
theorem d_Rd_enter_100 : decode prog_8_method_5_code 100 = .ok (.getfield 19, 3) := by decide +kernel
set_option maxRecDepth 100000 in
theorem c_Rd_enter_103 : ct_Rd_enter 103 = ka_ci (nI 1) 1 := rfl
theorem d_Rd_enter_103 : decode prog_8_method_5_code 103 = .ok (.iconst 1, 1) := by decide +kernel
set_option maxRecDepth 100000 in
theorem c_Rd_enter_104 : ct_Rd_enter 104 = ka_ii (fun x y => x + y) := rfl
theorem d_Rd_enter_104 : decode prog_8_method_5_code 104 = .ok (.iadd, 1) := by decide +kernel
set_option maxRecDepth 100000 in
theorem c_Rd_enter_105 : ct_Rd_enter 105 = ka_iald := rfl
theorem d_Rd_enter_105 : decode prog_8_method_5_code 105 = .ok (.iaload, 1) := by decide +kernel
set_option maxRecDepth 100000 in
theorem c_Rd_enter_106 : ct_Rd_enter 106 = ka_ci (nI 127) 2 := rfl
theorem d_Rd_enter_106 : decode prog_8_method_5_code 106 = .ok (.bipush 127, 2) := by decide +kernel
set_option maxRecDepth 100000 in
theorem c_Rd_enter_108 : ct_Rd_enter 108 = ka_cm (fun x y => y < x) 130 := rfl
theorem d_Rd_enter_108 : decode prog_8_method_5_code 108 = .ok (.if_icmp .gt 22, 3) := by decide +kernel
set_option maxRecDepth 100000 in
theorem c_Rd_enter_111 : ct_Rd_enter 111 = ka_al 0 1 := rfl
theorem d_Rd_enter_111 : decode prog_8_method_5_code 111 = .ok (.aload_n 0, 1) := by decide +kernel
set_option maxRecDepth 100000 in
theorem c_Rd_enter_112 : ct_Rd_enter 112 = ka_get 1 0 := rfl
theorem d_Rd_enter_112 : decode prog_8_method_5_code 112 = .ok (.getfield 9, 3) := by decide +kernel
set_option maxRecDepth 100000 in
theorem c_Rd_enter_115 : ct_Rd_enter 115 = ka_il 4 2 := rfl
theorem d_Rd_enter_115 : decode prog_8_method_5_code 115 = .ok (.iload 4, 2) := by decide +kernel
set_option maxRecDepth 100000 in
theorem c_Rd_enter_117 : ct_Rd_enter 117 = ka_ci (nI 1) 1 := rfl
theorem d_Rd_enter_117 : decode prog_8_method_5_code 117 = .ok (.iconst 1, 1) := by decide +kernel
set_option maxRecDepth 100000 in
theorem c_Rd_enter_118 : ct_Rd_enter 118 = ka_ii (fun x y => x - y) := rfl
theorem d_Rd_enter_118 : decode prog_8_method_5_code 118 = .ok (.isub, 1) := by decide +kernel
set_option maxRecDepth 100000 in
theorem c_Rd_enter_119 : ct_Rd_enter 119 = ka_iald := rfl
theorem d_Rd_enter_119 : decode prog_8_method_5_code 119 = .ok (.iaload, 1) := by decide +kernel
set_option maxRecDepth 100000 in
theorem c_Rd_enter_120 : ct_Rd_enter 120 = ka_al 0 1 := rfl
theorem d_Rd_enter_120 : decode prog_8_method_5_code 120 = .ok (.aload_n 0, 1) := by decide +kernel
set_option maxRecDepth 100000 in
theorem c_Rd_enter_121 : ct_Rd_enter 121 = ka_get 1 3 := rfl
theorem d_Rd_enter_121 : decode prog_8_method_5_code 121 = .ok (.getfield 22, 3) := by decide +kernel
set_option maxRecDepth 100000 in
theorem c_Rd_enter_124 : ct_Rd_enter 124 = ka_il 4 2 := rfl
theorem d_Rd_enter_124 : decode prog_8_method_5_code 124 = .ok (.iload 4, 2) := by decide +kernel
set_option maxRecDepth 100000 in
theorem c_Rd_enter_126 : ct_Rd_enter 126 = ka_ii (fun x y => x - y) := rfl
theorem d_Rd_enter_126 : decode prog_8_method_5_code 126 = .ok (.isub, 1) := by decide +kernel
set_option maxRecDepth 100000 in
theorem c_Rd_enter_127 : ct_Rd_enter 127 = ka_cm (fun x y => x ≤ y) 137 := rfl
theorem d_Rd_enter_127 : decode prog_8_method_5_code 127 = .ok (.if_icmp .le 10, 3) := by decide +kernel
set_option maxRecDepth 100000 in
theorem c_Rd_enter_130 : ct_Rd_enter 130 = ka_al 0 1 := rfl
theorem d_Rd_enter_130 : decode prog_8_method_5_code 130 = .ok (.aload_n 0, 1) := by decide +kernel
set_option maxRecDepth 100000 in
theorem c_Rd_enter_131 : ct_Rd_enter 131 = ka_ci (nI 1) 1 := rfl
theorem d_Rd_enter_131 : decode prog_8_method_5_code 131 = .ok (.iconst 1, 1) := by decide +kernel
set_option maxRecDepth 100000 in
theorem c_Rd_enter_132 : ct_Rd_enter 132 = ka_put 1 4 .boolean := rfl
theorem d_Rd_enter_132 : decode prog_8_method_5_code 132 = .ok (.putfield 25, 3) := by decide +kernel
set_option maxRecDepth 100000 in
theorem c_Rd_enter_135 : ct_Rd_enter 135 = ka_il 2 1 := rfl
theorem d_Rd_enter_135 : decode prog_8_method_5_code 135 = .ok (.iload_n 2, 1) := by decide +kernel
set_option maxRecDepth 100000 in
theorem c_Rd_enter_136 : ct_Rd_enter 136 = ka_ri := rfl
theorem d_Rd_enter_136 : decode prog_8_method_5_code 136 = .ok (.ireturn, 1) := by decide +kernel
set_option maxRecDepth 100000 in
theorem c_Rd_enter_137 : ct_Rd_enter 137 = ka_al 0 1 := rfl
theorem d_Rd_enter_137 : decode prog_8_method_5_code 137 = .ok (.aload_n 0, 1) := by decide +kernel
set_option maxRecDepth 100000 in
theorem c_Rd_enter_138 : ct_Rd_enter 138 = ka_il 4 2 := rfl
theorem d_Rd_enter_138 : decode prog_8_method_5_code 138 = .ok (.iload 4, 2) := by decide +kernel
set_option maxRecDepth 100000 in
theorem c_Rd_enter_140 : ct_Rd_enter 140 = ka_put 1 2 .int := rfl
theorem d_Rd_enter_140 : decode prog_8_method_5_code 140 = .ok (.putfield 19, 3) := by decide +kernel
set_option maxRecDepth 100000 in
theorem c_Rd_enter_143 : ct_Rd_enter 143 = ka_al 0 1 := rfl
theorem d_Rd_enter_143 : decode prog_8_method_5_code 143 = .ok (.aload_n 0, 1) := by decide +kernel
set_option maxRecDepth 100000 in
theorem c_Rd_enter_144 : ct_Rd_enter 144 = ka_il 4 2 := rfl
theorem d_Rd_enter_144 : decode prog_8_method_5_code 144 = .ok (.iload 4, 2) := by decide +kernel
set_option maxRecDepth 100000 in
theorem c_Rd_enter_146 : ct_Rd_enter 146 = ka_al 0 1 := rfl
theorem d_Rd_enter_146 : decode prog_8_method_5_code 146 = .ok (.aload_n 0, 1) := by decide +kernel
set_option maxRecDepth 100000 in
theorem c_Rd_enter_147 : ct_Rd_enter 147 = ka_get 1 0 := rfl
theorem d_Rd_enter_147 : decode prog_8_method_5_code 147 = .ok (.getfield 9, 3) := by decide +kernel
set_option maxRecDepth 100000 in
theorem c_Rd_enter_150 : ct_Rd_enter 150 = ka_il 4 2 := rfl
theorem d_Rd_enter_150 : decode prog_8_method_5_code 150 = .ok (.iload 4, 2) := by decide +kernel
set_option maxRecDepth 100000 in
theorem c_Rd_enter_152 : ct_Rd_enter 152 = ka_ci (nI 1) 1 := rfl
theorem d_Rd_enter_152 : decode prog_8_method_5_code 152 = .ok (.iconst 1, 1) := by decide +kernel
set_option maxRecDepth 100000 in
theorem c_Rd_enter_153 : ct_Rd_enter 153 = ka_ii (fun x y => x - y) := rfl
theorem d_Rd_enter_153 : decode prog_8_method_5_code 153 = .ok (.isub, 1) := by decide +kernel
set_option maxRecDepth 100000 in
theorem c_Rd_enter_154 : ct_Rd_enter 154 = ka_iald := rfl
theorem d_Rd_enter_154 : decode prog_8_method_5_code 154 = .ok (.iaload, 1) := by decide +kernel
set_option maxRecDepth 100000 in
theorem c_Rd_enter_155 : ct_Rd_enter 155 = ka_ii (fun x y => x + y) := rfl
theorem d_Rd_enter_155 : decode prog_8_method_5_code 155 = .ok (.iadd, 1) := by decide +kernel
set_option maxRecDepth 100000 in
theorem c_Rd_enter_156 : ct_Rd_enter 156 = ka_put 1 3 .int := rfl
theorem d_Rd_enter_156 : decode prog_8_method_5_code 156 = .ok (.putfield 22, 3) := by decide +kernel
set_option maxRecDepth 100000 in
theorem c_Rd_enter_159 : ct_Rd_enter 159 = ka_il 2 1 := rfl
theorem d_Rd_enter_159 : decode prog_8_method_5_code 159 = .ok (.iload_n 2, 1) := by decide +kernel
set_option maxRecDepth 100000 in
theorem c_Rd_enter_160 : ct_Rd_enter 160 = ka_ri := rfl
theorem d_Rd_enter_160 : decode prog_8_method_5_code 160 = .ok (.ireturn, 1) := by decide +kernel
set_option maxRecDepth 100000 in
set_option maxHeartbeats 4000000 in
theorem s_Rd_enter_60 : ∀ pc, pc < 60 → kc_Sim kt kw_A kw_N kt_cl kt_En "DirectoryDesk$Reader" prog_8_method_5_code 5 (some .int) "enter" none pc (ct_Rd_enter pc) := by
  let P : Nat → Prop := fun pc => kc_Sim kt kw_A kw_N kt_cl kt_En "DirectoryDesk$Reader" prog_8_method_5_code 5 (some .int) "enter" none pc (ct_Rd_enter pc)
  exact kc_case (P := P) (kc_se c_Rd_enter_59 (sm_iadd d_Rd_enter_59)) (
  kc_case (P := P) (kc_se c_Rd_enter_58 (sm_iconst d_Rd_enter_58 (by decide))) (
  kc_case (P := P) (kc_se rfl sm_no) (
  kc_case (P := P) (kc_se rfl sm_no) (
  kc_case (P := P) (kc_se c_Rd_enter_55 (sm_get (ci := 1) (C := "DirectoryDesk$Reader") (F := kF_Rd) rfl kin_Rd (Nat.le_of_ble_eq_true rfl) d_Rd_enter_55 (kw1 32 rfl rfl))) (
  kc_case (P := P) (kc_se c_Rd_enter_54 (sm_aload_n d_Rd_enter_54 rfl)) (
  kc_case (P := P) (kc_se rfl sm_no) (
  kc_case (P := P) (kc_se rfl sm_no) (
  kc_case (P := P) (kc_se c_Rd_enter_51 (sm_goto d_Rd_enter_51 (by decide))) (
  kc_case (P := P) (kc_se c_Rd_enter_50 (sm_iadd d_Rd_enter_50)) (
  kc_case (P := P) (kc_se c_Rd_enter_49 (sm_iconst d_Rd_enter_49 (by decide))) (
  kc_case (P := P) (kc_se rfl sm_no) (
  kc_case (P := P) (kc_se rfl sm_no) (
  kc_case (P := P) (kc_se c_Rd_enter_46 (sm_get (ci := 1) (C := "DirectoryDesk$Reader") (F := kF_Rd) rfl kin_Rd (Nat.le_of_ble_eq_true rfl) d_Rd_enter_46 (kw1 32 rfl rfl))) (
  kc_case (P := P) (kc_se c_Rd_enter_45 (sm_aload_n d_Rd_enter_45 rfl)) (
  kc_case (P := P) (kc_se rfl sm_no) (
  kc_case (P := P) (kc_se rfl sm_no) (
  kc_case (P := P) (kc_se c_Rd_enter_42 (sm_if_eq d_Rd_enter_42 (by decide))) (
  kc_case (P := P) (kc_se c_Rd_enter_41 (sm_iload_n d_Rd_enter_41 rfl)) (
  kc_case (P := P) (kc_se c_Rd_enter_40 (sm_istore_n d_Rd_enter_40 rfl (Nat.le_of_ble_eq_true rfl))) (
  kc_case (P := P) (kc_se c_Rd_enter_39 (sm_iconst d_Rd_enter_39 (by decide))) (
  kc_case (P := P) (kc_se rfl sm_no) (
  kc_case (P := P) (kc_se rfl sm_no) (
  kc_case (P := P) (kc_se c_Rd_enter_36 (sm_goto d_Rd_enter_36 (by decide))) (
  kc_case (P := P) (kc_se c_Rd_enter_35 (sm_iconst d_Rd_enter_35 (by decide))) (
  kc_case (P := P) (kc_se rfl sm_no) (
  kc_case (P := P) (kc_se rfl sm_no) (
  kc_case (P := P) (kc_se c_Rd_enter_32 (sm_cm_ne d_Rd_enter_32 (by decide))) (
  kc_case (P := P) (kc_se rfl sm_no) (
  kc_case (P := P) (kc_se rfl sm_no) (
  kc_case (P := P) (kc_se c_Rd_enter_29 (sm_sipush d_Rd_enter_29 (by decide))) (
  kc_case (P := P) (kc_se c_Rd_enter_28 (sm_iald d_Rd_enter_28)) (
  kc_case (P := P) (kc_se c_Rd_enter_27 (sm_iadd d_Rd_enter_27)) (
  kc_case (P := P) (kc_se c_Rd_enter_26 (sm_iconst d_Rd_enter_26 (by decide))) (
  kc_case (P := P) (kc_se rfl sm_no) (
  kc_case (P := P) (kc_se rfl sm_no) (
  kc_case (P := P) (kc_se c_Rd_enter_23 (sm_get (ci := 1) (C := "DirectoryDesk$Reader") (F := kF_Rd) rfl kin_Rd (Nat.le_of_ble_eq_true rfl) d_Rd_enter_23 (kw1 32 rfl rfl))) (
  kc_case (P := P) (kc_se c_Rd_enter_22 (sm_aload_n d_Rd_enter_22 rfl)) (
  kc_case (P := P) (kc_se rfl sm_no) (
  kc_case (P := P) (kc_se rfl sm_no) (
  kc_case (P := P) (kc_se c_Rd_enter_19 (sm_get (ci := 1) (C := "DirectoryDesk$Reader") (F := kF_Rd) rfl kin_Rd (Nat.le_of_ble_eq_true rfl) d_Rd_enter_19 (kw1 28 rfl rfl))) (
  kc_case (P := P) (kc_se c_Rd_enter_18 (sm_aload_n d_Rd_enter_18 rfl)) (
  kc_case (P := P) (kc_se rfl sm_no) (
  kc_case (P := P) (kc_se rfl sm_no) (
  kc_case (P := P) (kc_se c_Rd_enter_15 (sm_cm_ge d_Rd_enter_15 (by decide))) (
  kc_case (P := P) (kc_se rfl sm_no) (
  kc_case (P := P) (kc_se rfl sm_no) (
  kc_case (P := P) (kc_se c_Rd_enter_12 (sm_get (ci := 1) (C := "DirectoryDesk$Reader") (F := kF_Rd) rfl kin_Rd (Nat.le_of_ble_eq_true rfl) d_Rd_enter_12 (kw1 33 rfl rfl))) (
  kc_case (P := P) (kc_se c_Rd_enter_11 (sm_aload_n d_Rd_enter_11 rfl)) (
  kc_case (P := P) (kc_se c_Rd_enter_10 (sm_iadd d_Rd_enter_10)) (
  kc_case (P := P) (kc_se c_Rd_enter_9 (sm_iconst d_Rd_enter_9 (by decide))) (
  kc_case (P := P) (kc_se rfl sm_no) (
  kc_case (P := P) (kc_se rfl sm_no) (
  kc_case (P := P) (kc_se c_Rd_enter_6 (sm_get (ci := 1) (C := "DirectoryDesk$Reader") (F := kF_Rd) rfl kin_Rd (Nat.le_of_ble_eq_true rfl) d_Rd_enter_6 (kw1 32 rfl rfl))) (
  kc_case (P := P) (kc_se c_Rd_enter_5 (sm_aload_n d_Rd_enter_5 rfl)) (
  kc_case (P := P) (kc_se c_Rd_enter_4 (sm_istore_n d_Rd_enter_4 rfl (Nat.le_of_ble_eq_true rfl))) (
  kc_case (P := P) (kc_se rfl sm_no) (
  kc_case (P := P) (kc_se rfl sm_no) (
  kc_case (P := P) (kc_se c_Rd_enter_1 (sm_get (ci := 1) (C := "DirectoryDesk$Reader") (F := kF_Rd) rfl kin_Rd (Nat.le_of_ble_eq_true rfl) d_Rd_enter_1 (kw1 33 rfl rfl))) (
  kc_case (P := P) (kc_se c_Rd_enter_0 (sm_aload_n d_Rd_enter_0 rfl)) (
  kc_case0))))))))))))))))))))))))))))))))))))))))))))))))))))))))))))
set_option maxRecDepth 100000 in
set_option maxHeartbeats 4000000 in
theorem s_Rd_enter_120 : ∀ pc, pc < 120 → kc_Sim kt kw_A kw_N kt_cl kt_En "DirectoryDesk$Reader" prog_8_method_5_code 5 (some .int) "enter" none pc (ct_Rd_enter pc) := by
  let P : Nat → Prop := fun pc => kc_Sim kt kw_A kw_N kt_cl kt_En "DirectoryDesk$Reader" prog_8_method_5_code 5 (some .int) "enter" none pc (ct_Rd_enter pc)
  exact kc_case (P := P) (kc_se c_Rd_enter_119 (sm_iald d_Rd_enter_119)) (
  kc_case (P := P) (kc_se c_Rd_enter_118 (sm_isub d_Rd_enter_118)) (
  kc_case (P := P) (kc_se c_Rd_enter_117 (sm_iconst d_Rd_enter_117 (by decide))) (
  kc_case (P := P) (kc_se rfl sm_no) (
  kc_case (P := P) (kc_se c_Rd_enter_115 (sm_iload d_Rd_enter_115)) (
  kc_case (P := P) (kc_se rfl sm_no) (
  kc_case (P := P) (kc_se rfl sm_no) (
  kc_case (P := P) (kc_se c_Rd_enter_112 (sm_get (ci := 1) (C := "DirectoryDesk$Reader") (F := kF_Rd) rfl kin_Rd (Nat.le_of_ble_eq_true rfl) d_Rd_enter_112 (kw1 28 rfl rfl))) (
  kc_case (P := P) (kc_se c_Rd_enter_111 (sm_aload_n d_Rd_enter_111 rfl)) (
  kc_case (P := P) (kc_se rfl sm_no) (
  kc_case (P := P) (kc_se rfl sm_no) (
  kc_case (P := P) (kc_se c_Rd_enter_108 (sm_cm_gt d_Rd_enter_108 (by decide))) (
  kc_case (P := P) (kc_se rfl sm_no) (
  kc_case (P := P) (kc_se c_Rd_enter_106 (sm_bipush d_Rd_enter_106 (by decide))) (
  kc_case (P := P) (kc_se c_Rd_enter_105 (sm_iald d_Rd_enter_105)) (
  kc_case (P := P) (kc_se c_Rd_enter_104 (sm_iadd d_Rd_enter_104)) (
  kc_case (P := P) (kc_se c_Rd_enter_103 (sm_iconst d_Rd_enter_103 (by decide))) (
  kc_case (P := P) (kc_se rfl sm_no) (
  kc_case (P := P) (kc_se rfl sm_no) (
  kc_case (P := P) (kc_se c_Rd_enter_100 (sm_get (ci := 1) (C := "DirectoryDesk$Reader") (F := kF_Rd) rfl kin_Rd (Nat.le_of_ble_eq_true rfl) d_Rd_enter_100 (kw1 32 rfl rfl))) (
  kc_case (P := P) (kc_se c_Rd_enter_99 (sm_aload_n d_Rd_enter_99 rfl)) (
  kc_case (P := P) (kc_se rfl sm_no) (
  kc_case (P := P) (kc_se rfl sm_no) (
  kc_case (P := P) (kc_se c_Rd_enter_96 (sm_get (ci := 1) (C := "DirectoryDesk$Reader") (F := kF_Rd) rfl kin_Rd (Nat.le_of_ble_eq_true rfl) d_Rd_enter_96 (kw1 28 rfl rfl))) (
  kc_case (P := P) (kc_se c_Rd_enter_95 (sm_aload_n d_Rd_enter_95 rfl)) (
  kc_case (P := P) (kc_se rfl sm_no) (
  kc_case (P := P) (kc_se rfl sm_no) (
  kc_case (P := P) (kc_se c_Rd_enter_92 (sm_if_ne d_Rd_enter_92 (by decide))) (
  kc_case (P := P) (kc_se c_Rd_enter_91 (sm_iload_n d_Rd_enter_91 rfl)) (
  kc_case (P := P) (kc_se rfl sm_no) (
  kc_case (P := P) (kc_se rfl sm_no) (
  kc_case (P := P) (kc_se c_Rd_enter_88 (sm_cm_ne d_Rd_enter_88 (by decide))) (
  kc_case (P := P) (kc_se c_Rd_enter_87 (sm_iload_n d_Rd_enter_87 rfl)) (
  kc_case (P := P) (kc_se c_Rd_enter_86 (sm_iald d_Rd_enter_86)) (
  kc_case (P := P) (kc_se rfl sm_no) (
  kc_case (P := P) (kc_se rfl sm_no) (
  kc_case (P := P) (kc_se c_Rd_enter_83 (sm_get (ci := 1) (C := "DirectoryDesk$Reader") (F := kF_Rd) rfl kin_Rd (Nat.le_of_ble_eq_true rfl) d_Rd_enter_83 (kw1 32 rfl rfl))) (
  kc_case (P := P) (kc_se c_Rd_enter_82 (sm_aload_n d_Rd_enter_82 rfl)) (
  kc_case (P := P) (kc_se rfl sm_no) (
  kc_case (P := P) (kc_se rfl sm_no) (
  kc_case (P := P) (kc_se c_Rd_enter_79 (sm_get (ci := 1) (C := "DirectoryDesk$Reader") (F := kF_Rd) rfl kin_Rd (Nat.le_of_ble_eq_true rfl) d_Rd_enter_79 (kw1 28 rfl rfl))) (
  kc_case (P := P) (kc_se c_Rd_enter_78 (sm_aload_n d_Rd_enter_78 rfl)) (
  kc_case (P := P) (kc_se rfl sm_no) (
  kc_case (P := P) (kc_se rfl sm_no) (
  kc_case (P := P) (kc_se c_Rd_enter_75 (sm_cm_gt d_Rd_enter_75 (by decide))) (
  kc_case (P := P) (kc_se rfl sm_no) (
  kc_case (P := P) (kc_se rfl sm_no) (
  kc_case (P := P) (kc_se c_Rd_enter_72 (sm_get (ci := 1) (C := "DirectoryDesk$Reader") (F := kF_Rd) rfl kin_Rd (Nat.le_of_ble_eq_true rfl) d_Rd_enter_72 (kw1 33 rfl rfl))) (
  kc_case (P := P) (kc_se c_Rd_enter_71 (sm_aload_n d_Rd_enter_71 rfl)) (
  kc_case (P := P) (kc_se rfl sm_no) (
  kc_case (P := P) (kc_se c_Rd_enter_69 (sm_iload d_Rd_enter_69)) (
  kc_case (P := P) (kc_se rfl sm_no) (
  kc_case (P := P) (kc_se rfl sm_no) (
  kc_case (P := P) (kc_se c_Rd_enter_66 (sm_if_ne d_Rd_enter_66 (by decide))) (
  kc_case (P := P) (kc_se rfl sm_no) (
  kc_case (P := P) (kc_se rfl sm_no) (
  kc_case (P := P) (kc_se c_Rd_enter_63 (sm_get (ci := 1) (C := "DirectoryDesk$Reader") (F := kF_Rd) rfl kin_Rd (Nat.le_of_ble_eq_true rfl) d_Rd_enter_63 (kw1 35 rfl rfl))) (
  kc_case (P := P) (kc_se c_Rd_enter_62 (sm_aload_n d_Rd_enter_62 rfl)) (
  kc_case (P := P) (kc_se rfl sm_no) (
  kc_case (P := P) (kc_se c_Rd_enter_60 (sm_istore d_Rd_enter_60 (Nat.le_of_ble_eq_true rfl))) (
  s_Rd_enter_60))))))))))))))))))))))))))))))))))))))))))))))))))))))))))))
set_option maxRecDepth 100000 in
set_option maxHeartbeats 4000000 in
theorem s_Rd_enter_161 : ∀ pc, pc < 161 → kc_Sim kt kw_A kw_N kt_cl kt_En "DirectoryDesk$Reader" prog_8_method_5_code 5 (some .int) "enter" none pc (ct_Rd_enter pc) := by
  let P : Nat → Prop := fun pc => kc_Sim kt kw_A kw_N kt_cl kt_En "DirectoryDesk$Reader" prog_8_method_5_code 5 (some .int) "enter" none pc (ct_Rd_enter pc)
  exact kc_case (P := P) (kc_se c_Rd_enter_160 (sm_ri d_Rd_enter_160 rfl)) (
  kc_case (P := P) (kc_se c_Rd_enter_159 (sm_iload_n d_Rd_enter_159 rfl)) (
  kc_case (P := P) (kc_se rfl sm_no) (
  kc_case (P := P) (kc_se rfl sm_no) (
  kc_case (P := P) (kc_se c_Rd_enter_156 (sm_put (ci := 1) (C := "DirectoryDesk$Reader") (F := kF_Rd) rfl kin_Rd kty_Rd ktk_Rd knm_Rd (Nat.le_of_ble_eq_true rfl) (by decide +kernel) d_Rd_enter_156 (kw1 33 rfl rfl) rfl)) (
  kc_case (P := P) (kc_se c_Rd_enter_155 (sm_iadd d_Rd_enter_155)) (
  kc_case (P := P) (kc_se c_Rd_enter_154 (sm_iald d_Rd_enter_154)) (
  kc_case (P := P) (kc_se c_Rd_enter_153 (sm_isub d_Rd_enter_153)) (
  kc_case (P := P) (kc_se c_Rd_enter_152 (sm_iconst d_Rd_enter_152 (by decide))) (
  kc_case (P := P) (kc_se rfl sm_no) (
  kc_case (P := P) (kc_se c_Rd_enter_150 (sm_iload d_Rd_enter_150)) (
  kc_case (P := P) (kc_se rfl sm_no) (
  kc_case (P := P) (kc_se rfl sm_no) (
  kc_case (P := P) (kc_se c_Rd_enter_147 (sm_get (ci := 1) (C := "DirectoryDesk$Reader") (F := kF_Rd) rfl kin_Rd (Nat.le_of_ble_eq_true rfl) d_Rd_enter_147 (kw1 28 rfl rfl))) (
  kc_case (P := P) (kc_se c_Rd_enter_146 (sm_aload_n d_Rd_enter_146 rfl)) (
  kc_case (P := P) (kc_se rfl sm_no) (
  kc_case (P := P) (kc_se c_Rd_enter_144 (sm_iload d_Rd_enter_144)) (
  kc_case (P := P) (kc_se c_Rd_enter_143 (sm_aload_n d_Rd_enter_143 rfl)) (
  kc_case (P := P) (kc_se rfl sm_no) (
  kc_case (P := P) (kc_se rfl sm_no) (
  kc_case (P := P) (kc_se c_Rd_enter_140 (sm_put (ci := 1) (C := "DirectoryDesk$Reader") (F := kF_Rd) rfl kin_Rd kty_Rd ktk_Rd knm_Rd (Nat.le_of_ble_eq_true rfl) (by decide +kernel) d_Rd_enter_140 (kw1 32 rfl rfl) rfl)) (
  kc_case (P := P) (kc_se rfl sm_no) (
  kc_case (P := P) (kc_se c_Rd_enter_138 (sm_iload d_Rd_enter_138)) (
  kc_case (P := P) (kc_se c_Rd_enter_137 (sm_aload_n d_Rd_enter_137 rfl)) (
  kc_case (P := P) (kc_se c_Rd_enter_136 (sm_ri d_Rd_enter_136 rfl)) (
  kc_case (P := P) (kc_se c_Rd_enter_135 (sm_iload_n d_Rd_enter_135 rfl)) (
  kc_case (P := P) (kc_se rfl sm_no) (
  kc_case (P := P) (kc_se rfl sm_no) (
  kc_case (P := P) (kc_se c_Rd_enter_132 (sm_put (ci := 1) (C := "DirectoryDesk$Reader") (F := kF_Rd) rfl kin_Rd kty_Rd ktk_Rd knm_Rd (Nat.le_of_ble_eq_true rfl) (by decide +kernel) d_Rd_enter_132 (kw1 35 rfl rfl) rfl)) (
  kc_case (P := P) (kc_se c_Rd_enter_131 (sm_iconst d_Rd_enter_131 (by decide))) (
  kc_case (P := P) (kc_se c_Rd_enter_130 (sm_aload_n d_Rd_enter_130 rfl)) (
  kc_case (P := P) (kc_se rfl sm_no) (
  kc_case (P := P) (kc_se rfl sm_no) (
  kc_case (P := P) (kc_se c_Rd_enter_127 (sm_cm_le d_Rd_enter_127 (by decide))) (
  kc_case (P := P) (kc_se c_Rd_enter_126 (sm_isub d_Rd_enter_126)) (
  kc_case (P := P) (kc_se rfl sm_no) (
  kc_case (P := P) (kc_se c_Rd_enter_124 (sm_iload d_Rd_enter_124)) (
  kc_case (P := P) (kc_se rfl sm_no) (
  kc_case (P := P) (kc_se rfl sm_no) (
  kc_case (P := P) (kc_se c_Rd_enter_121 (sm_get (ci := 1) (C := "DirectoryDesk$Reader") (F := kF_Rd) rfl kin_Rd (Nat.le_of_ble_eq_true rfl) d_Rd_enter_121 (kw1 33 rfl rfl))) (
  kc_case (P := P) (kc_se c_Rd_enter_120 (sm_aload_n d_Rd_enter_120 rfl)) (
  s_Rd_enter_120)))))))))))))))))))))))))))))))))))))))))
theorem ka_nth_no_Rd_enter (pc : Nat) (h : 161 ≤ pc) : ct_Rd_enter pc = ka_no := ka_nth_ge _ pc (Nat.le_trans (Nat.le_of_eq (by rfl)) h)
theorem s_Rd_enter (pc : Nat) : kc_Sim kt kw_A kw_N kt_cl kt_En "DirectoryDesk$Reader" prog_8_method_5_code 5 (some .int) "enter" none pc (ct_Rd_enter pc) := (Nat.lt_or_ge pc 161).elim (s_Rd_enter_161 pc) (fun h => kc_se (ka_nth_no_Rd_enter pc h) sm_no)
def cl_Rd_leave_0 : List kc_A := [ka_al 0 1, ka_get 1 2, ka_no, ka_no, ka_al 0 1, ka_get 1 3, ka_no, ka_no, ka_cm (fun x y => x = y) 16, ka_no, ka_no, ka_al 0 1, ka_ci (nI 1) 1, ka_put 1 4 .boolean, ka_no, ka_no, ka_al 0 1, ka_il 1 1, ka_put 1 3 .int, ka_no, ka_no, ka_ret]
def ct_Rd_leave : Nat → kc_A := fun pc => ka_nth (cl_Rd_leave_0) pc
set_option maxRecDepth 100000 in
theorem c_Rd_leave_0 : ct_Rd_leave 0 = ka_al 0 1 := rfl
theorem d_Rd_leave_0 : decode prog_8_method_6_code 0 = .ok (.aload_n 0, 1) := by decide +kernel
set_option maxRecDepth 100000 in
theorem c_Rd_leave_1 : ct_Rd_leave 1 = ka_get 1 2 := rfl
theorem d_Rd_leave_1 : decode prog_8_method_6_code 1 = .ok (.getfield 19, 3) := by decide +kernel
set_option maxRecDepth 100000 in
theorem c_Rd_leave_4 : ct_Rd_leave 4 = ka_al 0 1 := rfl
theorem d_Rd_leave_4 : decode prog_8_method_6_code 4 = .ok (.aload_n 0, 1) := by decide +kernel
set_option maxRecDepth 100000 in
theorem c_Rd_leave_5 : ct_Rd_leave 5 = ka_get 1 3 := rfl
theorem d_Rd_leave_5 : decode prog_8_method_6_code 5 = .ok (.getfield 22, 3) := by decide +kernel
set_option maxRecDepth 100000 in
theorem c_Rd_leave_8 : ct_Rd_leave 8 = ka_cm (fun x y => x = y) 16 := rfl
theorem d_Rd_leave_8 : decode prog_8_method_6_code 8 = .ok (.if_icmp .eq 8, 3) := by decide +kernel
set_option maxRecDepth 100000 in
theorem c_Rd_leave_11 : ct_Rd_leave 11 = ka_al 0 1 := rfl
theorem d_Rd_leave_11 : decode prog_8_method_6_code 11 = .ok (.aload_n 0, 1) := by decide +kernel
set_option maxRecDepth 100000 in
theorem c_Rd_leave_12 : ct_Rd_leave 12 = ka_ci (nI 1) 1 := rfl
theorem d_Rd_leave_12 : decode prog_8_method_6_code 12 = .ok (.iconst 1, 1) := by decide +kernel
set_option maxRecDepth 100000 in
theorem c_Rd_leave_13 : ct_Rd_leave 13 = ka_put 1 4 .boolean := rfl
theorem d_Rd_leave_13 : decode prog_8_method_6_code 13 = .ok (.putfield 25, 3) := by decide +kernel
set_option maxRecDepth 100000 in
theorem c_Rd_leave_16 : ct_Rd_leave 16 = ka_al 0 1 := rfl
theorem d_Rd_leave_16 : decode prog_8_method_6_code 16 = .ok (.aload_n 0, 1) := by decide +kernel
set_option maxRecDepth 100000 in
theorem c_Rd_leave_17 : ct_Rd_leave 17 = ka_il 1 1 := rfl
theorem d_Rd_leave_17 : decode prog_8_method_6_code 17 = .ok (.iload_n 1, 1) := by decide +kernel
set_option maxRecDepth 100000 in
theorem c_Rd_leave_18 : ct_Rd_leave 18 = ka_put 1 3 .int := rfl
theorem d_Rd_leave_18 : decode prog_8_method_6_code 18 = .ok (.putfield 22, 3) := by decide +kernel
set_option maxRecDepth 100000 in
theorem c_Rd_leave_21 : ct_Rd_leave 21 = ka_ret := rfl
theorem d_Rd_leave_21 : decode prog_8_method_6_code 21 = .ok (.return_, 1) := by decide +kernel
set_option maxRecDepth 100000 in
set_option maxHeartbeats 4000000 in
theorem s_Rd_leave_22 : ∀ pc, pc < 22 → kc_Sim kt kw_A kw_N kt_cl kt_En "DirectoryDesk$Reader" prog_8_method_6_code 2 (none) "leave" none pc (ct_Rd_leave pc) := by
  let P : Nat → Prop := fun pc => kc_Sim kt kw_A kw_N kt_cl kt_En "DirectoryDesk$Reader" prog_8_method_6_code 2 (none) "leave" none pc (ct_Rd_leave pc)
  exact kc_case (P := P) (kc_se c_Rd_leave_21 (sm_ret d_Rd_leave_21 rfl)) (
  kc_case (P := P) (kc_se rfl sm_no) (
  kc_case (P := P) (kc_se rfl sm_no) (
  kc_case (P := P) (kc_se c_Rd_leave_18 (sm_put (ci := 1) (C := "DirectoryDesk$Reader") (F := kF_Rd) rfl kin_Rd kty_Rd ktk_Rd knm_Rd (Nat.le_of_ble_eq_true rfl) (by decide +kernel) d_Rd_leave_18 (kw1 33 rfl rfl) rfl)) (
  kc_case (P := P) (kc_se c_Rd_leave_17 (sm_iload_n d_Rd_leave_17 rfl)) (
  kc_case (P := P) (kc_se c_Rd_leave_16 (sm_aload_n d_Rd_leave_16 rfl)) (
  kc_case (P := P) (kc_se rfl sm_no) (
  kc_case (P := P) (kc_se rfl sm_no) (
  kc_case (P := P) (kc_se c_Rd_leave_13 (sm_put (ci := 1) (C := "DirectoryDesk$Reader") (F := kF_Rd) rfl kin_Rd kty_Rd ktk_Rd knm_Rd (Nat.le_of_ble_eq_true rfl) (by decide +kernel) d_Rd_leave_13 (kw1 35 rfl rfl) rfl)) (
  kc_case (P := P) (kc_se c_Rd_leave_12 (sm_iconst d_Rd_leave_12 (by decide))) (
  kc_case (P := P) (kc_se c_Rd_leave_11 (sm_aload_n d_Rd_leave_11 rfl)) (
  kc_case (P := P) (kc_se rfl sm_no) (
  kc_case (P := P) (kc_se rfl sm_no) (
  kc_case (P := P) (kc_se c_Rd_leave_8 (sm_cm_eq d_Rd_leave_8 (by decide))) (
  kc_case (P := P) (kc_se rfl sm_no) (
  kc_case (P := P) (kc_se rfl sm_no) (
  kc_case (P := P) (kc_se c_Rd_leave_5 (sm_get (ci := 1) (C := "DirectoryDesk$Reader") (F := kF_Rd) rfl kin_Rd (Nat.le_of_ble_eq_true rfl) d_Rd_leave_5 (kw1 33 rfl rfl))) (
  kc_case (P := P) (kc_se c_Rd_leave_4 (sm_aload_n d_Rd_leave_4 rfl)) (
  kc_case (P := P) (kc_se rfl sm_no) (
  kc_case (P := P) (kc_se rfl sm_no) (
  kc_case (P := P) (kc_se c_Rd_leave_1 (sm_get (ci := 1) (C := "DirectoryDesk$Reader") (F := kF_Rd) rfl kin_Rd (Nat.le_of_ble_eq_true rfl) d_Rd_leave_1 (kw1 32 rfl rfl))) (
  kc_case (P := P) (kc_se c_Rd_leave_0 (sm_aload_n d_Rd_leave_0 rfl)) (
  kc_case0))))))))))))))))))))))
theorem ka_nth_no_Rd_leave (pc : Nat) (h : 22 ≤ pc) : ct_Rd_leave pc = ka_no := ka_nth_ge _ pc (Nat.le_trans (Nat.le_of_eq (by rfl)) h)
theorem s_Rd_leave (pc : Nat) : kc_Sim kt kw_A kw_N kt_cl kt_En "DirectoryDesk$Reader" prog_8_method_6_code 2 (none) "leave" none pc (ct_Rd_leave pc) := (Nat.lt_or_ge pc 22).elim (s_Rd_leave_22 pc) (fun h => kc_se (ka_nth_no_Rd_leave pc h) sm_no)
def cl_Rd_hasMore_0 : List kc_A := [ka_al 0 1, ka_get 1 4, ka_no, ka_no, ka_if (fun x => ¬ x = 0) 22, ka_no, ka_no, ka_al 0 1, ka_get 1 2, ka_no, ka_no, ka_al 0 1, ka_get 1 3, ka_no, ka_no, ka_cm (fun x y => y ≤ x) 22, ka_no, ka_no, ka_ci (nI 1) 1, ka_goto 23, ka_no, ka_no, ka_ci (nI 0) 1, ka_rz]
def ct_Rd_hasMore : Nat → kc_A := fun pc => ka_nth (cl_Rd_hasMore_0) pc
set_option maxRecDepth 100000 in
theorem c_Rd_hasMore_0 : ct_Rd_hasMore 0 = ka_al 0 1 := rfl
theorem d_Rd_hasMore_0 : decode prog_8_method_7_code 0 = .ok (.aload_n 0, 1) := by decide +kernel
set_option maxRecDepth 100000 in
theorem c_Rd_hasMore_1 : ct_Rd_hasMore 1 = ka_get 1 4 := rfl
theorem d_Rd_hasMore_1 : decode prog_8_method_7_code 1 = .ok (.getfield 25, 3) := by decide +kernel
set_option maxRecDepth 100000 in
theorem c_Rd_hasMore_4 : ct_Rd_hasMore 4 = ka_if (fun x => ¬ x = 0) 22 := rfl
theorem d_Rd_hasMore_4 : decode prog_8_method_7_code 4 = .ok (.ifCond .ne 18, 3) := by decide +kernel
set_option maxRecDepth 100000 in
theorem c_Rd_hasMore_7 : ct_Rd_hasMore 7 = ka_al 0 1 := rfl
theorem d_Rd_hasMore_7 : decode prog_8_method_7_code 7 = .ok (.aload_n 0, 1) := by decide +kernel
set_option maxRecDepth 100000 in
theorem c_Rd_hasMore_8 : ct_Rd_hasMore 8 = ka_get 1 2 := rfl
theorem d_Rd_hasMore_8 : decode prog_8_method_7_code 8 = .ok (.getfield 19, 3) := by decide +kernel
set_option maxRecDepth 100000 in
theorem c_Rd_hasMore_11 : ct_Rd_hasMore 11 = ka_al 0 1 := rfl
theorem d_Rd_hasMore_11 : decode prog_8_method_7_code 11 = .ok (.aload_n 0, 1) := by decide +kernel
set_option maxRecDepth 100000 in
theorem c_Rd_hasMore_12 : ct_Rd_hasMore 12 = ka_get 1 3 := rfl
theorem d_Rd_hasMore_12 : decode prog_8_method_7_code 12 = .ok (.getfield 22, 3) := by decide +kernel
set_option maxRecDepth 100000 in
theorem c_Rd_hasMore_15 : ct_Rd_hasMore 15 = ka_cm (fun x y => y ≤ x) 22 := rfl
theorem d_Rd_hasMore_15 : decode prog_8_method_7_code 15 = .ok (.if_icmp .ge 7, 3) := by decide +kernel
set_option maxRecDepth 100000 in
theorem c_Rd_hasMore_18 : ct_Rd_hasMore 18 = ka_ci (nI 1) 1 := rfl
theorem d_Rd_hasMore_18 : decode prog_8_method_7_code 18 = .ok (.iconst 1, 1) := by decide +kernel
set_option maxRecDepth 100000 in
theorem c_Rd_hasMore_19 : ct_Rd_hasMore 19 = ka_goto 23 := rfl
theorem d_Rd_hasMore_19 : decode prog_8_method_7_code 19 = .ok (.goto 4, 3) := by decide +kernel
set_option maxRecDepth 100000 in
theorem c_Rd_hasMore_22 : ct_Rd_hasMore 22 = ka_ci (nI 0) 1 := rfl
theorem d_Rd_hasMore_22 : decode prog_8_method_7_code 22 = .ok (.iconst 0, 1) := by decide +kernel
set_option maxRecDepth 100000 in
theorem c_Rd_hasMore_23 : ct_Rd_hasMore 23 = ka_rz := rfl
theorem d_Rd_hasMore_23 : decode prog_8_method_7_code 23 = .ok (.ireturn, 1) := by decide +kernel
set_option maxRecDepth 100000 in
set_option maxHeartbeats 4000000 in
theorem s_Rd_hasMore_24 : ∀ pc, pc < 24 → kc_Sim kt kw_A kw_N kt_cl kt_En "DirectoryDesk$Reader" prog_8_method_7_code 1 (some .boolean) "hasMore" none pc (ct_Rd_hasMore pc) := by
  let P : Nat → Prop := fun pc => kc_Sim kt kw_A kw_N kt_cl kt_En "DirectoryDesk$Reader" prog_8_method_7_code 1 (some .boolean) "hasMore" none pc (ct_Rd_hasMore pc)
  exact kc_case (P := P) (kc_se c_Rd_hasMore_23 (sm_rz d_Rd_hasMore_23 rfl)) (
  kc_case (P := P) (kc_se c_Rd_hasMore_22 (sm_iconst d_Rd_hasMore_22 (by decide))) (
  kc_case (P := P) (kc_se rfl sm_no) (
  kc_case (P := P) (kc_se rfl sm_no) (
  kc_case (P := P) (kc_se c_Rd_hasMore_19 (sm_goto d_Rd_hasMore_19 (by decide))) (
  kc_case (P := P) (kc_se c_Rd_hasMore_18 (sm_iconst d_Rd_hasMore_18 (by decide))) (
  kc_case (P := P) (kc_se rfl sm_no) (
  kc_case (P := P) (kc_se rfl sm_no) (
  kc_case (P := P) (kc_se c_Rd_hasMore_15 (sm_cm_ge d_Rd_hasMore_15 (by decide))) (
  kc_case (P := P) (kc_se rfl sm_no) (
  kc_case (P := P) (kc_se rfl sm_no) (
  kc_case (P := P) (kc_se c_Rd_hasMore_12 (sm_get (ci := 1) (C := "DirectoryDesk$Reader") (F := kF_Rd) rfl kin_Rd (Nat.le_of_ble_eq_true rfl) d_Rd_hasMore_12 (kw1 33 rfl rfl))) (
  kc_case (P := P) (kc_se c_Rd_hasMore_11 (sm_aload_n d_Rd_hasMore_11 rfl)) (
  kc_case (P := P) (kc_se rfl sm_no) (
  kc_case (P := P) (kc_se rfl sm_no) (
  kc_case (P := P) (kc_se c_Rd_hasMore_8 (sm_get (ci := 1) (C := "DirectoryDesk$Reader") (F := kF_Rd) rfl kin_Rd (Nat.le_of_ble_eq_true rfl) d_Rd_hasMore_8 (kw1 32 rfl rfl))) (
  kc_case (P := P) (kc_se c_Rd_hasMore_7 (sm_aload_n d_Rd_hasMore_7 rfl)) (
  kc_case (P := P) (kc_se rfl sm_no) (
  kc_case (P := P) (kc_se rfl sm_no) (
  kc_case (P := P) (kc_se c_Rd_hasMore_4 (sm_if_ne d_Rd_hasMore_4 (by decide))) (
  kc_case (P := P) (kc_se rfl sm_no) (
  kc_case (P := P) (kc_se rfl sm_no) (
  kc_case (P := P) (kc_se c_Rd_hasMore_1 (sm_get (ci := 1) (C := "DirectoryDesk$Reader") (F := kF_Rd) rfl kin_Rd (Nat.le_of_ble_eq_true rfl) d_Rd_hasMore_1 (kw1 35 rfl rfl))) (
  kc_case (P := P) (kc_se c_Rd_hasMore_0 (sm_aload_n d_Rd_hasMore_0 rfl)) (
  kc_case0))))))))))))))))))))))))
theorem ka_nth_no_Rd_hasMore (pc : Nat) (h : 24 ≤ pc) : ct_Rd_hasMore pc = ka_no := ka_nth_ge _ pc (Nat.le_trans (Nat.le_of_eq (by rfl)) h)
theorem s_Rd_hasMore (pc : Nat) : kc_Sim kt kw_A kw_N kt_cl kt_En "DirectoryDesk$Reader" prog_8_method_7_code 1 (some .boolean) "hasMore" none pc (ct_Rd_hasMore pc) := (Nat.lt_or_ge pc 24).elim (s_Rd_hasMore_24 pc) (fun h => kc_se (ka_nth_no_Rd_hasMore pc h) sm_no)
