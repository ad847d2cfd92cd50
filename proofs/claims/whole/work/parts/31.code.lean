/-! code of methods, decode rows, and that the JVM follows (by program) -/
def cl_Dk_add_0 : List kc_A := [ka_al 0 1, ka_get 0 0, ka_no, ka_no, ka_ci (nI 4) 1, ka_cv 37 1 1 0 0, ka_no, ka_no, ka_al 0 1, ka_get 0 3, ka_no, ka_no, ka_al 0 1, ka_get 0 0, ka_no, ka_no, ka_cv 63 1 5 0 0, ka_no, ka_no, ka_al 0 1, ka_get 0 4, ka_no, ka_no, ka_al 0 1, ka_get 0 0, ka_no, ka_no, ka_ci (nI 0) 1, ka_cv 77 2 7 0 0, ka_no, ka_no, ka_al 0 1, ka_cv 18 0 0 0 0, ka_no, ka_no, ka_is 1 1, ka_il 1 1, ka_if (fun x => x = 0) 42, ka_no, ka_no, ka_il 1 1, ka_ri, ka_al 0 1, ka_get 0 2, ka_no, ka_no, ka_al 0 1, ka_get 0 3, ka_no, ka_no, ka_ci (nI 0) 1, ka_cv 56 2 3 0 0, ka_no, ka_no, ka_ci (-1) 1, ka_cm (fun x y => x = y) 61, ka_no, ka_no, ka_ci (nI 68) 2, ka_no]
def cl_Dk_add_1 : List kc_A := [ka_ri, ka_al 0 1, ka_get 0 3, ka_no, ka_no, ka_get 5 2, ka_no, ka_no, ka_ci (nI 1) 1, ka_cm (fun x y => x ≤ y) 91, ka_no, ka_no, ka_al 0 1, ka_get 0 2, ka_no, ka_no, ka_al 0 1, ka_get 0 3, ka_no, ka_no, ka_ci (nI 1) 1, ka_cv 56 2 3 0 0, ka_no, ka_no, ka_ci (-1) 1, ka_cm (fun x y => ¬ x = y) 91, ka_no, ka_no, ka_ci (nI 32) 2, ka_no, ka_ri, ka_al 0 1, ka_get 0 7, ka_no, ka_no, ka_ci (nI 0) 1, ka_put 6 2 .int, ka_no, ka_no, ka_al 0 1, ka_get 0 4, ka_no, ka_no, ka_al 0 1, ka_get 0 7, ka_no, ka_no, ka_cv 79 1 7 0 0, ka_no, ka_no, ka_is 1 1, ka_il 1 1, ka_if (fun x => x = 0) 117, ka_no, ka_no, ka_il 1 1, ka_ri, ka_al 0 1, ka_get 0 7, ka_no]
def cl_Dk_add_2 : List kc_A := [ka_no, ka_al 0 1, ka_get 0 3, ka_no, ka_no, ka_cv 71 1 6 0 0, ka_no, ka_no, ka_if (fun x => ¬ x = 0) 134, ka_no, ka_no, ka_ci (nI 64) 2, ka_no, ka_ri, ka_al 0 1, ka_get 0 2, ka_no, ka_no, ka_get 3 1, ka_no, ka_no, ka_ci (nI 16) 2, ka_no, ka_cm (fun x y => y ≤ x) 158, ka_no, ka_no, ka_al 0 1, ka_get 0 7, ka_no, ka_no, ka_get 6 2, ka_no, ka_no, ka_ci (nI 6) 2, ka_no, ka_cm (fun x y => x ≤ y) 161, ka_no, ka_no, ka_ci (nI 53) 2, ka_no, ka_ri, ka_al 0 1, ka_get 0 2, ka_no, ka_no, ka_al 0 1, ka_get 0 3, ka_no, ka_no, ka_al 0 1, ka_get 0 7, ka_no, ka_no, ka_cv 59 2 3 0 0, ka_no, ka_no, ka_ci (nI 0) 1, ka_ri]
def ct_Dk_add : Nat → kc_A := fun pc => ka_nth (cl_Dk_add_0 ++ (cl_Dk_add_1 ++ (cl_Dk_add_2))) pc
set_option maxRecDepth 100000 in
theorem c_Dk_add_0 : ct_Dk_add 0 = ka_al 0 1 := rfl
theorem d_Dk_add_0 : decode prog_1_method_16_code 0 = .ok (.aload_n 0, 1) := by decide +kernel
set_option maxRecDepth 100000 in
theorem c_Dk_add_1 : ct_Dk_add 1 = ka_get 0 0 := rfl
theorem d_Dk_add_1 : decode prog_1_method_16_code 1 = .ok (.getfield 10, 3) := by decide +kernel
set_option maxRecDepth 100000 in
theorem c_Dk_add_4 : ct_Dk_add 4 = ka_ci (nI 4) 1 := rfl
theorem d_Dk_add_4 : decode prog_1_method_16_code 4 = .ok (.iconst 4, 1) := by decide +kernel
set_option maxRecDepth 100000 in
theorem c_Dk_add_5 : ct_Dk_add 5 = ka_cv 37 1 1 0 0 := rfl
theorem d_Dk_add_5 : decode prog_1_method_16_code 5 = .ok (.invokevirtual 149, 3) := by decide +kernel
set_option maxRecDepth 100000 in
theorem c_Dk_add_8 : ct_Dk_add 8 = ka_al 0 1 := rfl
theorem d_Dk_add_8 : decode prog_1_method_16_code 8 = .ok (.aload_n 0, 1) := by decide +kernel
set_option maxRecDepth 100000 in
theorem c_Dk_add_9 : ct_Dk_add 9 = ka_get 0 3 := rfl
theorem d_Dk_add_9 : decode prog_1_method_16_code 9 = .ok (.getfield 33, 3) := by decide +kernel
set_option maxRecDepth 100000 in
theorem c_Dk_add_12 : ct_Dk_add 12 = ka_al 0 1 := rfl
theorem d_Dk_add_12 : decode prog_1_method_16_code 12 = .ok (.aload_n 0, 1) := by decide +kernel
set_option maxRecDepth 100000 in
theorem c_Dk_add_13 : ct_Dk_add 13 = ka_get 0 0 := rfl
theorem d_Dk_add_13 : decode prog_1_method_16_code 13 = .ok (.getfield 10, 3) := by decide +kernel
set_option maxRecDepth 100000 in
theorem c_Dk_add_16 : ct_Dk_add 16 = ka_cv 63 1 5 0 0 := rfl
theorem d_Dk_add_16 : decode prog_1_method_16_code 16 = .ok (.invokevirtual 152, 3) := by decide +kernel
set_option maxRecDepth 100000 in
theorem c_Dk_add_19 : ct_Dk_add 19 = ka_al 0 1 := rfl
theorem d_Dk_add_19 : decode prog_1_method_16_code 19 = .ok (.aload_n 0, 1) := by decide +kernel
set_option maxRecDepth 100000 in
theorem c_Dk_add_20 : ct_Dk_add 20 = ka_get 0 4 := rfl
theorem d_Dk_add_20 : decode prog_1_method_16_code 20 = .ok (.getfield 40, 3) := by decide +kernel
set_option maxRecDepth 100000 in
theorem c_Dk_add_23 : ct_Dk_add 23 = ka_al 0 1 := rfl
theorem d_Dk_add_23 : decode prog_1_method_16_code 23 = .ok (.aload_n 0, 1) := by decide +kernel
set_option maxRecDepth 100000 in
theorem c_Dk_add_24 : ct_Dk_add 24 = ka_get 0 0 := rfl
theorem d_Dk_add_24 : decode prog_1_method_16_code 24 = .ok (.getfield 10, 3) := by decide +kernel
set_option maxRecDepth 100000 in
theorem c_Dk_add_27 : ct_Dk_add 27 = ka_ci (nI 0) 1 := rfl
theorem d_Dk_add_27 : decode prog_1_method_16_code 27 = .ok (.iconst 0, 1) := by decide +kernel
set_option maxRecDepth 100000 in
theorem c_Dk_add_28 : ct_Dk_add 28 = ka_cv 77 2 7 0 0 := rfl
theorem d_Dk_add_28 : decode prog_1_method_16_code 28 = .ok (.invokevirtual 180, 3) := by decide +kernel
set_option maxRecDepth 100000 in
theorem c_Dk_add_31 : ct_Dk_add 31 = ka_al 0 1 := rfl
theorem d_Dk_add_31 : decode prog_1_method_16_code 31 = .ok (.aload_n 0, 1) := by decide +kernel
set_option maxRecDepth 100000 in
theorem c_Dk_add_32 : ct_Dk_add 32 = ka_cv 18 0 0 0 0 := rfl
theorem d_Dk_add_32 : decode prog_1_method_16_code 32 = .ok (.invokevirtual 183, 3) := by decide +kernel
set_option maxRecDepth 100000 in
theorem c_Dk_add_35 : ct_Dk_add 35 = ka_is 1 1 := rfl
theorem d_Dk_add_35 : decode prog_1_method_16_code 35 = .ok (.istore_n 1, 1) := by decide +kernel
set_option maxRecDepth 100000 in
theorem c_Dk_add_36 : ct_Dk_add 36 = ka_il 1 1 := rfl
theorem d_Dk_add_36 : decode prog_1_method_16_code 36 = .ok (.iload_n 1, 1) := by decide +kernel
set_option maxRecDepth 100000 in
theorem c_Dk_add_37 : ct_Dk_add 37 = ka_if (fun x => x = 0) 42 := rfl
theorem d_Dk_add_37 : decode prog_1_method_16_code 37 = .ok (.ifCond .eq 5, 3) := by decide +kernel
set_option maxRecDepth 100000 in
theorem c_Dk_add_40 : ct_Dk_add 40 = ka_il 1 1 := rfl
theorem d_Dk_add_40 : decode prog_1_method_16_code 40 = .ok (.iload_n 1, 1) := by decide +kernel
set_option maxRecDepth 100000 in
theorem c_Dk_add_41 : ct_Dk_add 41 = ka_ri := rfl
theorem d_Dk_add_41 : decode prog_1_method_16_code 41 = .ok (.ireturn, 1) := by decide +kernel
set_option maxRecDepth 100000 in
theorem c_Dk_add_42 : ct_Dk_add 42 = ka_al 0 1 := rfl
theorem d_Dk_add_42 : decode prog_1_method_16_code 42 = .ok (.aload_n 0, 1) := by decide +kernel
set_option maxRecDepth 100000 in
theorem c_Dk_add_43 : ct_Dk_add 43 = ka_get 0 2 := rfl
theorem d_Dk_add_43 : decode prog_1_method_16_code 43 = .ok (.getfield 26, 3) := by decide +kernel
set_option maxRecDepth 100000 in
theorem c_Dk_add_46 : ct_Dk_add 46 = ka_al 0 1 := rfl
theorem d_Dk_add_46 : decode prog_1_method_16_code 46 = .ok (.aload_n 0, 1) := by decide +kernel
set_option maxRecDepth 100000 in
theorem c_Dk_add_47 : ct_Dk_add 47 = ka_get 0 3 := rfl
theorem d_Dk_add_47 : decode prog_1_method_16_code 47 = .ok (.getfield 33, 3) := by decide +kernel
set_option maxRecDepth 100000 in
theorem c_Dk_add_50 : ct_Dk_add 50 = ka_ci (nI 0) 1 := rfl
theorem d_Dk_add_50 : decode prog_1_method_16_code 50 = .ok (.iconst 0, 1) := by decide +kernel
set_option maxRecDepth 100000 in
theorem c_Dk_add_51 : ct_Dk_add 51 = ka_cv 56 2 3 0 0 := rfl
theorem d_Dk_add_51 : decode prog_1_method_16_code 51 = .ok (.invokevirtual 169, 3) := by decide +kernel
set_option maxRecDepth 100000 in
theorem c_Dk_add_54 : ct_Dk_add 54 = ka_ci (-1) 1 := rfl
theorem d_Dk_add_54 : decode prog_1_method_16_code 54 = .ok (.iconst (-1), 1) := by decide +kernel
set_option maxRecDepth 100000 in
theorem c_Dk_add_55 : ct_Dk_add 55 = ka_cm (fun x y => x = y) 61 := rfl
theorem d_Dk_add_55 : decode prog_1_method_16_code 55 = .ok (.if_icmp .eq 6, 3) := by decide +kernel
set_option maxRecDepth 100000 in
theorem c_Dk_add_58 : ct_Dk_add 58 = ka_ci (nI 68) 2 := rfl
theorem d_Dk_add_58 : decode prog_1_method_16_code 58 = .ok (.bipush 68, 2) := by decide +kernel
set_option maxRecDepth 100000 in
theorem c_Dk_add_60 : ct_Dk_add 60 = ka_ri := rfl
theorem d_Dk_add_60 : decode prog_1_method_16_code 60 = .ok (.ireturn, 1) := by decide +kernel
set_option maxRecDepth 100000 in
theorem c_Dk_add_61 : ct_Dk_add 61 = ka_al 0 1 := rfl
theorem d_Dk_add_61 : decode prog_1_method_16_code 61 = .ok (.aload_n 0, 1) := by decide +kernel
set_option maxRecDepth 100000 in
theorem c_Dk_add_62 : ct_Dk_add 62 = ka_get 0 3 := rfl
theorem d_Dk_add_62 : decode prog_1_method_16_code 62 = .ok (.getfield 33, 3) := by decide +kernel
set_option maxRecDepth 100000 in
theorem c_Dk_add_65 : ct_Dk_add 65 = ka_get 5 2 := rfl
theorem d_Dk_add_65 : decode prog_1_method_16_code 65 = .ok (.getfield 128, 3) := by decide +kernel
set_option maxRecDepth 100000 in
theorem c_Dk_add_68 : ct_Dk_add 68 = ka_ci (nI 1) 1 := rfl
theorem d_Dk_add_68 : decode prog_1_method_16_code 68 = .ok (.iconst 1, 1) := by decide +kernel
set_option maxRecDepth 100000 in
theorem c_Dk_add_69 : ct_Dk_add 69 = ka_cm (fun x y => x ≤ y) 91 := rfl
theorem d_Dk_add_69 : decode prog_1_method_16_code 69 = .ok (.if_icmp .le 22, 3) := by decide +kernel
set_option maxRecDepth 100000 in
theorem c_Dk_add_72 : ct_Dk_add 72 = ka_al 0 1 := rfl
theorem d_Dk_add_72 : decode prog_1_method_16_code 72 = .ok (.aload_n 0, 1) := by decide +kernel
set_option maxRecDepth 100000 in
theorem c_Dk_add_73 : ct_Dk_add 73 = ka_get 0 2 := rfl
theorem d_Dk_add_73 : decode prog_1_method_16_code 73 = .ok (.getfield 26, 3) := by decide +kernel
set_option maxRecDepth 100000 in
theorem c_Dk_add_76 : ct_Dk_add 76 = ka_al 0 1 := rfl
theorem d_Dk_add_76 : decode prog_1_method_16_code 76 = .ok (.aload_n 0, 1) := by decide +kernel
set_option maxRecDepth 100000 in
theorem c_Dk_add_77 : ct_Dk_add 77 = ka_get 0 3 := rfl
theorem d_Dk_add_77 : decode prog_1_method_16_code 77 = .ok (.getfield 33, 3) := by decide +kernel
set_option maxRecDepth 100000 in
theorem c_Dk_add_80 : ct_Dk_add 80 = ka_ci (nI 1) 1 := rfl
theorem d_Dk_add_80 : decode prog_1_method_16_code 80 = .ok (.iconst 1, 1) := by decide +kernel
set_option maxRecDepth 100000 in
theorem c_Dk_add_81 : ct_Dk_add 81 = ka_cv 56 2 3 0 0 := rfl
theorem d_Dk_add_81 : decode prog_1_method_16_code 81 = .ok (.invokevirtual 169, 3) := by decide +kernel
set_option maxRecDepth 100000 in
theorem c_Dk_add_84 : ct_Dk_add 84 = ka_ci (-1) 1 := rfl
theorem d_Dk_add_84 : decode prog_1_method_16_code 84 = .ok (.iconst (-1), 1) := by decide +kernel
set_option maxRecDepth 100000 in
theorem c_Dk_add_85 : ct_Dk_add 85 = ka_cm (fun x y => ¬ x = y) 91 := rfl
theorem d_Dk_add_85 : decode prog_1_method_16_code 85 = .ok (.if_icmp .ne 6, 3) := by decide +kernel
set_option maxRecDepth 100000 in
theorem c_Dk_add_88 : ct_Dk_add 88 = ka_ci (nI 32) 2 := rfl
theorem d_Dk_add_88 : decode prog_1_method_16_code 88 = .ok (.bipush 32, 2) := by decide +kernel
set_option maxRecDepth 100000 in
theorem c_Dk_add_90 : ct_Dk_add 90 = ka_ri := rfl
theorem d_Dk_add_90 : decode prog_1_method_16_code 90 = .ok (.ireturn, 1) := by decide +kernel
set_option maxRecDepth 100000 in
theorem c_Dk_add_91 : ct_Dk_add 91 = ka_al 0 1 := rfl
theorem d_Dk_add_91 : decode prog_1_method_16_code 91 = .ok (.aload_n 0, 1) := by decide +kernel
set_option maxRecDepth 100000 in
theorem c_Dk_add_92 : ct_Dk_add 92 = ka_get 0 7 := rfl
theorem d_Dk_add_92 : decode prog_1_method_16_code 92 = .ok (.getfield 63, 3) := by decide +kernel
set_option maxRecDepth 100000 in
theorem c_Dk_add_95 : ct_Dk_add 95 = ka_ci (nI 0) 1 := rfl
theorem d_Dk_add_95 : decode prog_1_method_16_code 95 = .ok (.iconst 0, 1) := by decide +kernel
set_option maxRecDepth 100000 in
theorem c_Dk_add_96 : ct_Dk_add 96 = ka_put 6 2 .int := rfl
theorem d_Dk_add_96 : decode prog_1_method_16_code 96 = .ok (.putfield 134, 3) := by decide +kernel
set_option maxRecDepth 100000 in
theorem c_Dk_add_99 : ct_Dk_add 99 = ka_al 0 1 := rfl
theorem d_Dk_add_99 : decode prog_1_method_16_code 99 = .ok (.aload_n 0, 1) := by decide +kernel
set_option maxRecDepth 100000 in
theorem c_Dk_add_100 : ct_Dk_add 100 = ka_get 0 4 := rfl
theorem d_Dk_add_100 : decode prog_1_method_16_code 100 = .ok (.getfield 40, 3) := by decide +kernel
set_option maxRecDepth 100000 in
theorem c_Dk_add_103 : ct_Dk_add 103 = ka_al 0 1 := rfl
theorem d_Dk_add_103 : decode prog_1_method_16_code 103 = .ok (.aload_n 0, 1) := by decide +kernel
set_option maxRecDepth 100000 in
theorem c_Dk_add_104 : ct_Dk_add 104 = ka_get 0 7 := rfl
theorem d_Dk_add_104 : decode prog_1_method_16_code 104 = .ok (.getfield 63, 3) := by decide +kernel
set_option maxRecDepth 100000 in
theorem c_Dk_add_107 : ct_Dk_add 107 = ka_cv 79 1 7 0 0 := rfl
theorem d_Dk_add_107 : decode prog_1_method_16_code 107 = .ok (.invokevirtual 186, 3) := by decide +kernel
set_option maxRecDepth 100000 in
theorem c_Dk_add_110 : ct_Dk_add 110 = ka_is 1 1 := rfl
theorem d_Dk_add_110 : decode prog_1_method_16_code 110 = .ok (.istore_n 1, 1) := by decide +kernel
set_option maxRecDepth 100000 in
theorem c_Dk_add_111 : ct_Dk_add 111 = ka_il 1 1 := rfl
theorem d_Dk_add_111 : decode prog_1_method_16_code 111 = .ok (.iload_n 1, 1) := by decide +kernel
set_option maxRecDepth 100000 in
theorem c_Dk_add_112 : ct_Dk_add 112 = ka_if (fun x => x = 0) 117 := rfl
theorem d_Dk_add_112 : decode prog_1_method_16_code 112 = .ok (.ifCond .eq 5, 3) := by decide +kernel
set_option maxRecDepth 100000 in
theorem c_Dk_add_115 : ct_Dk_add 115 = ka_il 1 1 := rfl
theorem d_Dk_add_115 : decode prog_1_method_16_code 115 = .ok (.iload_n 1, 1) := by decide +kernel
set_option maxRecDepth 100000 in
theorem c_Dk_add_116 : ct_Dk_add 116 = ka_ri := rfl
theorem d_Dk_add_116 : decode prog_1_method_16_code 116 = .ok (.ireturn, 1) := by decide +kernel
set_option maxRecDepth 100000 in
theorem c_Dk_add_117 : ct_Dk_add 117 = ka_al 0 1 := rfl
theorem d_Dk_add_117 : decode prog_1_method_16_code 117 = .ok (.aload_n 0, 1) := by decide +kernel
set_option maxRecDepth 100000 in
theorem c_Dk_add_118 : ct_Dk_add 118 = ka_get 0 7 := rfl
theorem d_Dk_add_118 : decode prog_1_method_16_code 118 = .ok (.getfield 63, 3) := by decide +kernel
set_option maxRecDepth 100000 in
theorem c_Dk_add_121 : ct_Dk_add 121 = ka_al 0 1 := rfl
theorem d_Dk_add_121 : decode prog_1_method_16_code 121 = .ok (.aload_n 0, 1) := by decide +kernel
set_option maxRecDepth 100000 in
theorem c_Dk_add_122 : ct_Dk_add 122 = ka_get 0 3 := rfl
theorem d_Dk_add_122 : decode prog_1_method_16_code 122 = .ok (.getfield 33, 3) := by decide +kernel
set_option maxRecDepth 100000 in
theorem c_Dk_add_125 : ct_Dk_add 125 = ka_cv 71 1 6 0 0 := rfl
theorem d_Dk_add_125 : decode prog_1_method_16_code 125 = .ok (.invokevirtual 190, 3) := by decide +kernel
set_option maxRecDepth 100000 in
theorem c_Dk_add_128 : ct_Dk_add 128 = ka_if (fun x => ¬ x = 0) 134 := rfl
theorem d_Dk_add_128 : decode prog_1_method_16_code 128 = .ok (.ifCond .ne 6, 3) := by decide +kernel
set_option maxRecDepth 100000 in
theorem c_Dk_add_131 : ct_Dk_add 131 = ka_ci (nI 64) 2 := rfl
theorem d_Dk_add_131 : decode prog_1_method_16_code 131 = .ok (.bipush 64, 2) := by decide +kernel
set_option maxRecDepth 100000 in
theorem c_Dk_add_133 : ct_Dk_add 133 = ka_ri := rfl
theorem d_Dk_add_133 : decode prog_1_method_16_code 133 = .ok (.ireturn, 1) := by decide +kernel
set_option maxRecDepth 100000 in
theorem c_Dk_add_134 : ct_Dk_add 134 = ka_al 0 1 := rfl
theorem d_Dk_add_134 : decode prog_1_method_16_code 134 = .ok (.aload_n 0, 1) := by decide +kernel
set_option maxRecDepth 100000 in
theorem c_Dk_add_135 : ct_Dk_add 135 = ka_get 0 2 := rfl
theorem d_Dk_add_135 : decode prog_1_method_16_code 135 = .ok (.getfield 26, 3) := by decide +kernel
set_option maxRecDepth 100000 in
theorem c_Dk_add_138 : ct_Dk_add 138 = ka_get 3 1 := rfl
theorem d_Dk_add_138 : decode prog_1_method_16_code 138 = .ok (.getfield 116, 3) := by decide +kernel
set_option maxRecDepth 100000 in
theorem c_Dk_add_141 : ct_Dk_add 141 = ka_ci (nI 16) 2 := rfl
theorem d_Dk_add_141 : decode prog_1_method_16_code 141 = .ok (.bipush 16, 2) := by decide +kernel
set_option maxRecDepth 100000 in
theorem c_Dk_add_143 : ct_Dk_add 143 = ka_cm (fun x y => y ≤ x) 158 := rfl
theorem d_Dk_add_143 : decode prog_1_method_16_code 143 = .ok (.if_icmp .ge 15, 3) := by decide +kernel
set_option maxRecDepth 100000 in
theorem c_Dk_add_146 : ct_Dk_add 146 = ka_al 0 1 := rfl
theorem d_Dk_add_146 : decode prog_1_method_16_code 146 = .ok (.aload_n 0, 1) := by decide +kernel
set_option maxRecDepth 100000 in
theorem c_Dk_add_147 : ct_Dk_add 147 = ka_get 0 7 := rfl
theorem d_Dk_add_147 : decode prog_1_method_16_code 147 = .ok (.getfield 63, 3) := by decide +kernel
set_option maxRecDepth 100000 in
theorem c_Dk_add_150 : ct_Dk_add 150 = ka_get 6 2 := rfl
theorem d_Dk_add_150 : decode prog_1_method_16_code 150 = .ok (.getfield 134, 3) := by decide +kernel
set_option maxRecDepth 100000 in
theorem c_Dk_add_153 : ct_Dk_add 153 = ka_ci (nI 6) 2 := rfl
theorem d_Dk_add_153 : decode prog_1_method_16_code 153 = .ok (.bipush 6, 2) := by decide +kernel
set_option maxRecDepth 100000 in
theorem c_Dk_add_155 : ct_Dk_add 155 = ka_cm (fun x y => x ≤ y) 161 := rfl
theorem d_Dk_add_155 : decode prog_1_method_16_code 155 = .ok (.if_icmp .le 6, 3) := by decide +kernel
set_option maxRecDepth 100000 in
theorem c_Dk_add_158 : ct_Dk_add 158 = ka_ci (nI 53) 2 := rfl
theorem d_Dk_add_158 : decode prog_1_method_16_code 158 = .ok (.bipush 53, 2) := by decide +kernel
set_option maxRecDepth 100000 in
theorem c_Dk_add_160 : ct_Dk_add 160 = ka_ri := rfl
theorem d_Dk_add_160 : decode prog_1_method_16_code 160 = .ok (.ireturn, 1) := by decide +kernel
set_option maxRecDepth 100000 in
theorem c_Dk_add_161 : ct_Dk_add 161 = ka_al 0 1 := rfl
theorem d_Dk_add_161 : decode prog_1_method_16_code 161 = .ok (.aload_n 0, 1) := by decide +kernel
set_option maxRecDepth 100000 in
theorem c_Dk_add_162 : ct_Dk_add 162 = ka_get 0 2 := rfl
theorem d_Dk_add_162 : decode prog_1_method_16_code 162 = .ok (.getfield 26, 3) := by decide +kernel
set_option maxRecDepth 100000 in
theorem c_Dk_add_165 : ct_Dk_add 165 = ka_al 0 1 := rfl
theorem d_Dk_add_165 : decode prog_1_method_16_code 165 = .ok (.aload_n 0, 1) := by decide +kernel
set_option maxRecDepth 100000 in
theorem c_Dk_add_166 : ct_Dk_add 166 = ka_get 0 3 := rfl
theorem d_Dk_add_166 : decode prog_1_method_16_code 166 = .ok (.getfield 33, 3) := by decide +kernel
set_option maxRecDepth 100000 in
theorem c_Dk_add_169 : ct_Dk_add 169 = ka_al 0 1 := rfl
theorem d_Dk_add_169 : decode prog_1_method_16_code 169 = .ok (.aload_n 0, 1) := by decide +kernel
set_option maxRecDepth 100000 in
theorem c_Dk_add_170 : ct_Dk_add 170 = ka_get 0 7 := rfl
theorem d_Dk_add_170 : decode prog_1_method_16_code 170 = .ok (.getfield 63, 3) := by decide +kernel
set_option maxRecDepth 100000 in
theorem c_Dk_add_173 : ct_Dk_add 173 = ka_cv 59 2 3 0 0 := rfl
theorem d_Dk_add_173 : decode prog_1_method_16_code 173 = .ok (.invokevirtual 194, 3) := by decide +kernel
set_option maxRecDepth 100000 in
theorem c_Dk_add_176 : ct_Dk_add 176 = ka_ci (nI 0) 1 := rfl
theorem d_Dk_add_176 : decode prog_1_method_16_code 176 = .ok (.iconst 0, 1) := by decide +kernel
set_option maxRecDepth 100000 in
theorem c_Dk_add_177 : ct_Dk_add 177 = ka_ri := rfl
theorem d_Dk_add_177 : decode prog_1_method_16_code 177 = .ok (.ireturn, 1) := by decide +kernel
set_option maxRecDepth 100000 in
set_option maxHeartbeats 4000000 in
theorem s_Dk_add_60 : ∀ pc, pc < 60 → kc_Sim kt kw_A kw_N kt_cl kt_En "DirectoryDesk" prog_1_method_16_code 2 (some .int) "add" none pc (ct_Dk_add pc) := by
  let P : Nat → Prop := fun pc => kc_Sim kt kw_A kw_N kt_cl kt_En "DirectoryDesk" prog_1_method_16_code 2 (some .int) "add" none pc (ct_Dk_add pc)
  exact kc_case (P := P) (kc_se rfl sm_no) (
  kc_case (P := P) (kc_se c_Dk_add_58 (sm_bipush d_Dk_add_58 (by decide))) (
  kc_case (P := P) (kc_se rfl sm_no) (
  kc_case (P := P) (kc_se rfl sm_no) (
  kc_case (P := P) (kc_se c_Dk_add_55 (sm_cm_eq d_Dk_add_55 (by decide))) (
  kc_case (P := P) (kc_se c_Dk_add_54 (sm_iconst d_Dk_add_54 (by decide))) (
  kc_case (P := P) (kc_se rfl sm_no) (
  kc_case (P := P) (kc_se rfl sm_no) (
  kc_case (P := P) (kc_se c_Dk_add_51 (sm_cv (j := 56) rfl rfl kw_o kw_g wc_Tr_find (Nat.le_of_ble_eq_true rfl) hd_Tr_find (ci := 3) (F := kF_Tr) (N := 2) rfl (kw2 126 rfl rfl) wi_Tr_find ws_Tr_find wn_Tr_find d_Dk_add_51)) (
  kc_case (P := P) (kc_se c_Dk_add_50 (sm_iconst d_Dk_add_50 (by decide))) (
  kc_case (P := P) (kc_se rfl sm_no) (
  kc_case (P := P) (kc_se rfl sm_no) (
  kc_case (P := P) (kc_se c_Dk_add_47 (sm_get (ci := 0) (C := "DirectoryDesk") (F := kF_Dk) rfl kin_Dk (Nat.le_of_ble_eq_true rfl) d_Dk_add_47 (kw2 3 rfl rfl))) (
  kc_case (P := P) (kc_se c_Dk_add_46 (sm_aload_n d_Dk_add_46 rfl)) (
  kc_case (P := P) (kc_se rfl sm_no) (
  kc_case (P := P) (kc_se rfl sm_no) (
  kc_case (P := P) (kc_se c_Dk_add_43 (sm_get (ci := 0) (C := "DirectoryDesk") (F := kF_Dk) rfl kin_Dk (Nat.le_of_ble_eq_true rfl) d_Dk_add_43 (kw2 2 rfl rfl))) (
  kc_case (P := P) (kc_se c_Dk_add_42 (sm_aload_n d_Dk_add_42 rfl)) (
  kc_case (P := P) (kc_se c_Dk_add_41 (sm_ri d_Dk_add_41 rfl)) (
  kc_case (P := P) (kc_se c_Dk_add_40 (sm_iload_n d_Dk_add_40 rfl)) (
  kc_case (P := P) (kc_se rfl sm_no) (
  kc_case (P := P) (kc_se rfl sm_no) (
  kc_case (P := P) (kc_se c_Dk_add_37 (sm_if_eq d_Dk_add_37 (by decide))) (
  kc_case (P := P) (kc_se c_Dk_add_36 (sm_iload_n d_Dk_add_36 rfl)) (
  kc_case (P := P) (kc_se c_Dk_add_35 (sm_istore_n d_Dk_add_35 rfl (Nat.le_of_ble_eq_true rfl))) (
  kc_case (P := P) (kc_se rfl sm_no) (
  kc_case (P := P) (kc_se rfl sm_no) (
  kc_case (P := P) (kc_se c_Dk_add_32 (sm_cv (j := 18) rfl rfl kw_o kw_g wc_Dk_changingCode (Nat.le_of_ble_eq_true rfl) hd_Dk_changingCode (ci := 0) (F := kF_Dk) (N := 10) rfl (kw3 65 rfl rfl) wi_Dk_changingCode ws_Dk_changingCode wn_Dk_changingCode d_Dk_add_32)) (
  kc_case (P := P) (kc_se c_Dk_add_31 (sm_aload_n d_Dk_add_31 rfl)) (
  kc_case (P := P) (kc_se rfl sm_no) (
  kc_case (P := P) (kc_se rfl sm_no) (
  kc_case (P := P) (kc_se c_Dk_add_28 (sm_cv (j := 77) rfl rfl kw_o kw_g wc_Ch_readFrom (Nat.le_of_ble_eq_true rfl) hd_Ch_readFrom (ci := 7) (F := kF_Ch) (N := 6) rfl (kw3 50 rfl rfl) wi_Ch_readFrom ws_Ch_readFrom wn_Ch_readFrom d_Dk_add_28)) (
  kc_case (P := P) (kc_se c_Dk_add_27 (sm_iconst d_Dk_add_27 (by decide))) (
  kc_case (P := P) (kc_se rfl sm_no) (
  kc_case (P := P) (kc_se rfl sm_no) (
  kc_case (P := P) (kc_se c_Dk_add_24 (sm_get (ci := 0) (C := "DirectoryDesk") (F := kF_Dk) rfl kin_Dk (Nat.le_of_ble_eq_true rfl) d_Dk_add_24 (kw2 0 rfl rfl))) (
  kc_case (P := P) (kc_se c_Dk_add_23 (sm_aload_n d_Dk_add_23 rfl)) (
  kc_case (P := P) (kc_se rfl sm_no) (
  kc_case (P := P) (kc_se rfl sm_no) (
  kc_case (P := P) (kc_se c_Dk_add_20 (sm_get (ci := 0) (C := "DirectoryDesk") (F := kF_Dk) rfl kin_Dk (Nat.le_of_ble_eq_true rfl) d_Dk_add_20 (kw2 4 rfl rfl))) (
  kc_case (P := P) (kc_se c_Dk_add_19 (sm_aload_n d_Dk_add_19 rfl)) (
  kc_case (P := P) (kc_se rfl sm_no) (
  kc_case (P := P) (kc_se rfl sm_no) (
  kc_case (P := P) (kc_se c_Dk_add_16 (sm_cv (j := 63) rfl rfl kw_o kw_g wc_Nm_readFrom (Nat.le_of_ble_eq_true rfl) hd_Nm_readFrom (ci := 5) (F := kF_Nm) (N := 3) rfl (kw2 93 rfl rfl) wi_Nm_readFrom ws_Nm_readFrom wn_Nm_readFrom d_Dk_add_16)) (
  kc_case (P := P) (kc_se rfl sm_no) (
  kc_case (P := P) (kc_se rfl sm_no) (
  kc_case (P := P) (kc_se c_Dk_add_13 (sm_get (ci := 0) (C := "DirectoryDesk") (F := kF_Dk) rfl kin_Dk (Nat.le_of_ble_eq_true rfl) d_Dk_add_13 (kw2 0 rfl rfl))) (
  kc_case (P := P) (kc_se c_Dk_add_12 (sm_aload_n d_Dk_add_12 rfl)) (
  kc_case (P := P) (kc_se rfl sm_no) (
  kc_case (P := P) (kc_se rfl sm_no) (
  kc_case (P := P) (kc_se c_Dk_add_9 (sm_get (ci := 0) (C := "DirectoryDesk") (F := kF_Dk) rfl kin_Dk (Nat.le_of_ble_eq_true rfl) d_Dk_add_9 (kw2 3 rfl rfl))) (
  kc_case (P := P) (kc_se c_Dk_add_8 (sm_aload_n d_Dk_add_8 rfl)) (
  kc_case (P := P) (kc_se rfl sm_no) (
  kc_case (P := P) (kc_se rfl sm_no) (
  kc_case (P := P) (kc_se c_Dk_add_5 (sm_cv (j := 37) rfl rfl kw_o kw_g wc_Rd_span (Nat.le_of_ble_eq_true rfl) hd_Rd_span (ci := 1) (F := kF_Rd) (N := 8) rfl (kw2 92 rfl rfl) wi_Rd_span ws_Rd_span wn_Rd_span d_Dk_add_5)) (
  kc_case (P := P) (kc_se c_Dk_add_4 (sm_iconst d_Dk_add_4 (by decide))) (
  kc_case (P := P) (kc_se rfl sm_no) (
  kc_case (P := P) (kc_se rfl sm_no) (
  kc_case (P := P) (kc_se c_Dk_add_1 (sm_get (ci := 0) (C := "DirectoryDesk") (F := kF_Dk) rfl kin_Dk (Nat.le_of_ble_eq_true rfl) d_Dk_add_1 (kw2 0 rfl rfl))) (
  kc_case (P := P) (kc_se c_Dk_add_0 (sm_aload_n d_Dk_add_0 rfl)) (
  kc_case0))))))))))))))))))))))))))))))))))))))))))))))))))))))))))))
set_option maxRecDepth 100000 in
set_option maxHeartbeats 4000000 in
theorem s_Dk_add_120 : ∀ pc, pc < 120 → kc_Sim kt kw_A kw_N kt_cl kt_En "DirectoryDesk" prog_1_method_16_code 2 (some .int) "add" none pc (ct_Dk_add pc) := by
  let P : Nat → Prop := fun pc => kc_Sim kt kw_A kw_N kt_cl kt_En "DirectoryDesk" prog_1_method_16_code 2 (some .int) "add" none pc (ct_Dk_add pc)
  exact kc_case (P := P) (kc_se rfl sm_no) (
  kc_case (P := P) (kc_se c_Dk_add_118 (sm_get (ci := 0) (C := "DirectoryDesk") (F := kF_Dk) rfl kin_Dk (Nat.le_of_ble_eq_true rfl) d_Dk_add_118 (kw2 7 rfl rfl))) (
  kc_case (P := P) (kc_se c_Dk_add_117 (sm_aload_n d_Dk_add_117 rfl)) (
  kc_case (P := P) (kc_se c_Dk_add_116 (sm_ri d_Dk_add_116 rfl)) (
  kc_case (P := P) (kc_se c_Dk_add_115 (sm_iload_n d_Dk_add_115 rfl)) (
  kc_case (P := P) (kc_se rfl sm_no) (
  kc_case (P := P) (kc_se rfl sm_no) (
  kc_case (P := P) (kc_se c_Dk_add_112 (sm_if_eq d_Dk_add_112 (by decide))) (
  kc_case (P := P) (kc_se c_Dk_add_111 (sm_iload_n d_Dk_add_111 rfl)) (
  kc_case (P := P) (kc_se c_Dk_add_110 (sm_istore_n d_Dk_add_110 rfl (Nat.le_of_ble_eq_true rfl))) (
  kc_case (P := P) (kc_se rfl sm_no) (
  kc_case (P := P) (kc_se rfl sm_no) (
  kc_case (P := P) (kc_se c_Dk_add_107 (sm_cv (j := 79) rfl rfl kw_o kw_g wc_Ch_applyTo (Nat.le_of_ble_eq_true rfl) hd_Ch_applyTo (ci := 7) (F := kF_Ch) (N := 6) rfl (kw3 77 rfl rfl) wi_Ch_applyTo ws_Ch_applyTo wn_Ch_applyTo d_Dk_add_107)) (
  kc_case (P := P) (kc_se rfl sm_no) (
  kc_case (P := P) (kc_se rfl sm_no) (
  kc_case (P := P) (kc_se c_Dk_add_104 (sm_get (ci := 0) (C := "DirectoryDesk") (F := kF_Dk) rfl kin_Dk (Nat.le_of_ble_eq_true rfl) d_Dk_add_104 (kw2 7 rfl rfl))) (
  kc_case (P := P) (kc_se c_Dk_add_103 (sm_aload_n d_Dk_add_103 rfl)) (
  kc_case (P := P) (kc_se rfl sm_no) (
  kc_case (P := P) (kc_se rfl sm_no) (
  kc_case (P := P) (kc_se c_Dk_add_100 (sm_get (ci := 0) (C := "DirectoryDesk") (F := kF_Dk) rfl kin_Dk (Nat.le_of_ble_eq_true rfl) d_Dk_add_100 (kw2 4 rfl rfl))) (
  kc_case (P := P) (kc_se c_Dk_add_99 (sm_aload_n d_Dk_add_99 rfl)) (
  kc_case (P := P) (kc_se rfl sm_no) (
  kc_case (P := P) (kc_se rfl sm_no) (
  kc_case (P := P) (kc_se c_Dk_add_96 (sm_put (ci := 6) (C := "DirectoryDesk$Pairs") (F := kF_Pa) rfl kin_Pa kty_Pa ktk_Pa knm_Pa (Nat.le_of_ble_eq_true rfl) (by decide +kernel) d_Dk_add_96 (kw1 127 rfl rfl) rfl)) (
  kc_case (P := P) (kc_se c_Dk_add_95 (sm_iconst d_Dk_add_95 (by decide))) (
  kc_case (P := P) (kc_se rfl sm_no) (
  kc_case (P := P) (kc_se rfl sm_no) (
  kc_case (P := P) (kc_se c_Dk_add_92 (sm_get (ci := 0) (C := "DirectoryDesk") (F := kF_Dk) rfl kin_Dk (Nat.le_of_ble_eq_true rfl) d_Dk_add_92 (kw2 7 rfl rfl))) (
  kc_case (P := P) (kc_se c_Dk_add_91 (sm_aload_n d_Dk_add_91 rfl)) (
  kc_case (P := P) (kc_se c_Dk_add_90 (sm_ri d_Dk_add_90 rfl)) (
  kc_case (P := P) (kc_se rfl sm_no) (
  kc_case (P := P) (kc_se c_Dk_add_88 (sm_bipush d_Dk_add_88 (by decide))) (
  kc_case (P := P) (kc_se rfl sm_no) (
  kc_case (P := P) (kc_se rfl sm_no) (
  kc_case (P := P) (kc_se c_Dk_add_85 (sm_cm_ne d_Dk_add_85 (by decide))) (
  kc_case (P := P) (kc_se c_Dk_add_84 (sm_iconst d_Dk_add_84 (by decide))) (
  kc_case (P := P) (kc_se rfl sm_no) (
  kc_case (P := P) (kc_se rfl sm_no) (
  kc_case (P := P) (kc_se c_Dk_add_81 (sm_cv (j := 56) rfl rfl kw_o kw_g wc_Tr_find (Nat.le_of_ble_eq_true rfl) hd_Tr_find (ci := 3) (F := kF_Tr) (N := 2) rfl (kw2 126 rfl rfl) wi_Tr_find ws_Tr_find wn_Tr_find d_Dk_add_81)) (
  kc_case (P := P) (kc_se c_Dk_add_80 (sm_iconst d_Dk_add_80 (by decide))) (
  kc_case (P := P) (kc_se rfl sm_no) (
  kc_case (P := P) (kc_se rfl sm_no) (
  kc_case (P := P) (kc_se c_Dk_add_77 (sm_get (ci := 0) (C := "DirectoryDesk") (F := kF_Dk) rfl kin_Dk (Nat.le_of_ble_eq_true rfl) d_Dk_add_77 (kw2 3 rfl rfl))) (
  kc_case (P := P) (kc_se c_Dk_add_76 (sm_aload_n d_Dk_add_76 rfl)) (
  kc_case (P := P) (kc_se rfl sm_no) (
  kc_case (P := P) (kc_se rfl sm_no) (
  kc_case (P := P) (kc_se c_Dk_add_73 (sm_get (ci := 0) (C := "DirectoryDesk") (F := kF_Dk) rfl kin_Dk (Nat.le_of_ble_eq_true rfl) d_Dk_add_73 (kw2 2 rfl rfl))) (
  kc_case (P := P) (kc_se c_Dk_add_72 (sm_aload_n d_Dk_add_72 rfl)) (
  kc_case (P := P) (kc_se rfl sm_no) (
  kc_case (P := P) (kc_se rfl sm_no) (
  kc_case (P := P) (kc_se c_Dk_add_69 (sm_cm_le d_Dk_add_69 (by decide))) (
  kc_case (P := P) (kc_se c_Dk_add_68 (sm_iconst d_Dk_add_68 (by decide))) (
  kc_case (P := P) (kc_se rfl sm_no) (
  kc_case (P := P) (kc_se rfl sm_no) (
  kc_case (P := P) (kc_se c_Dk_add_65 (sm_get (ci := 5) (C := "DirectoryDesk$Name") (F := kF_Nm) rfl kin_Nm (Nat.le_of_ble_eq_true rfl) d_Dk_add_65 (kw1 106 rfl rfl))) (
  kc_case (P := P) (kc_se rfl sm_no) (
  kc_case (P := P) (kc_se rfl sm_no) (
  kc_case (P := P) (kc_se c_Dk_add_62 (sm_get (ci := 0) (C := "DirectoryDesk") (F := kF_Dk) rfl kin_Dk (Nat.le_of_ble_eq_true rfl) d_Dk_add_62 (kw2 3 rfl rfl))) (
  kc_case (P := P) (kc_se c_Dk_add_61 (sm_aload_n d_Dk_add_61 rfl)) (
  kc_case (P := P) (kc_se c_Dk_add_60 (sm_ri d_Dk_add_60 rfl)) (
  s_Dk_add_60))))))))))))))))))))))))))))))))))))))))))))))))))))))))))))
set_option maxRecDepth 100000 in
set_option maxHeartbeats 4000000 in
theorem s_Dk_add_178 : ∀ pc, pc < 178 → kc_Sim kt kw_A kw_N kt_cl kt_En "DirectoryDesk" prog_1_method_16_code 2 (some .int) "add" none pc (ct_Dk_add pc) := by
  let P : Nat → Prop := fun pc => kc_Sim kt kw_A kw_N kt_cl kt_En "DirectoryDesk" prog_1_method_16_code 2 (some .int) "add" none pc (ct_Dk_add pc)
  exact kc_case (P := P) (kc_se c_Dk_add_177 (sm_ri d_Dk_add_177 rfl)) (
  kc_case (P := P) (kc_se c_Dk_add_176 (sm_iconst d_Dk_add_176 (by decide))) (
  kc_case (P := P) (kc_se rfl sm_no) (
  kc_case (P := P) (kc_se rfl sm_no) (
  kc_case (P := P) (kc_se c_Dk_add_173 (sm_cv (j := 59) rfl rfl kw_o kw_g wc_Tr_append (Nat.le_of_ble_eq_true rfl) hd_Tr_append (ci := 3) (F := kF_Tr) (N := 2) rfl (kw3 105 rfl rfl) wi_Tr_append ws_Tr_append wn_Tr_append d_Dk_add_173)) (
  kc_case (P := P) (kc_se rfl sm_no) (
  kc_case (P := P) (kc_se rfl sm_no) (
  kc_case (P := P) (kc_se c_Dk_add_170 (sm_get (ci := 0) (C := "DirectoryDesk") (F := kF_Dk) rfl kin_Dk (Nat.le_of_ble_eq_true rfl) d_Dk_add_170 (kw2 7 rfl rfl))) (
  kc_case (P := P) (kc_se c_Dk_add_169 (sm_aload_n d_Dk_add_169 rfl)) (
  kc_case (P := P) (kc_se rfl sm_no) (
  kc_case (P := P) (kc_se rfl sm_no) (
  kc_case (P := P) (kc_se c_Dk_add_166 (sm_get (ci := 0) (C := "DirectoryDesk") (F := kF_Dk) rfl kin_Dk (Nat.le_of_ble_eq_true rfl) d_Dk_add_166 (kw2 3 rfl rfl))) (
  kc_case (P := P) (kc_se c_Dk_add_165 (sm_aload_n d_Dk_add_165 rfl)) (
  kc_case (P := P) (kc_se rfl sm_no) (
  kc_case (P := P) (kc_se rfl sm_no) (
  kc_case (P := P) (kc_se c_Dk_add_162 (sm_get (ci := 0) (C := "DirectoryDesk") (F := kF_Dk) rfl kin_Dk (Nat.le_of_ble_eq_true rfl) d_Dk_add_162 (kw2 2 rfl rfl))) (
  kc_case (P := P) (kc_se c_Dk_add_161 (sm_aload_n d_Dk_add_161 rfl)) (
  kc_case (P := P) (kc_se c_Dk_add_160 (sm_ri d_Dk_add_160 rfl)) (
  kc_case (P := P) (kc_se rfl sm_no) (
  kc_case (P := P) (kc_se c_Dk_add_158 (sm_bipush d_Dk_add_158 (by decide))) (
  kc_case (P := P) (kc_se rfl sm_no) (
  kc_case (P := P) (kc_se rfl sm_no) (
  kc_case (P := P) (kc_se c_Dk_add_155 (sm_cm_le d_Dk_add_155 (by decide))) (
  kc_case (P := P) (kc_se rfl sm_no) (
  kc_case (P := P) (kc_se c_Dk_add_153 (sm_bipush d_Dk_add_153 (by decide))) (
  kc_case (P := P) (kc_se rfl sm_no) (
  kc_case (P := P) (kc_se rfl sm_no) (
  kc_case (P := P) (kc_se c_Dk_add_150 (sm_get (ci := 6) (C := "DirectoryDesk$Pairs") (F := kF_Pa) rfl kin_Pa (Nat.le_of_ble_eq_true rfl) d_Dk_add_150 (kw1 127 rfl rfl))) (
  kc_case (P := P) (kc_se rfl sm_no) (
  kc_case (P := P) (kc_se rfl sm_no) (
  kc_case (P := P) (kc_se c_Dk_add_147 (sm_get (ci := 0) (C := "DirectoryDesk") (F := kF_Dk) rfl kin_Dk (Nat.le_of_ble_eq_true rfl) d_Dk_add_147 (kw2 7 rfl rfl))) (
  kc_case (P := P) (kc_se c_Dk_add_146 (sm_aload_n d_Dk_add_146 rfl)) (
  kc_case (P := P) (kc_se rfl sm_no) (
  kc_case (P := P) (kc_se rfl sm_no) (
  kc_case (P := P) (kc_se c_Dk_add_143 (sm_cm_ge d_Dk_add_143 (by decide))) (
  kc_case (P := P) (kc_se rfl sm_no) (
  kc_case (P := P) (kc_se c_Dk_add_141 (sm_bipush d_Dk_add_141 (by decide))) (
  kc_case (P := P) (kc_se rfl sm_no) (
  kc_case (P := P) (kc_se rfl sm_no) (
  kc_case (P := P) (kc_se c_Dk_add_138 (sm_get (ci := 3) (C := "DirectoryDesk$Tree") (F := kF_Tr) rfl kin_Tr (Nat.le_of_ble_eq_true rfl) d_Dk_add_138 (kw1 163 rfl rfl))) (
  kc_case (P := P) (kc_se rfl sm_no) (
  kc_case (P := P) (kc_se rfl sm_no) (
  kc_case (P := P) (kc_se c_Dk_add_135 (sm_get (ci := 0) (C := "DirectoryDesk") (F := kF_Dk) rfl kin_Dk (Nat.le_of_ble_eq_true rfl) d_Dk_add_135 (kw2 2 rfl rfl))) (
  kc_case (P := P) (kc_se c_Dk_add_134 (sm_aload_n d_Dk_add_134 rfl)) (
  kc_case (P := P) (kc_se c_Dk_add_133 (sm_ri d_Dk_add_133 rfl)) (
  kc_case (P := P) (kc_se rfl sm_no) (
  kc_case (P := P) (kc_se c_Dk_add_131 (sm_bipush d_Dk_add_131 (by decide))) (
  kc_case (P := P) (kc_se rfl sm_no) (
  kc_case (P := P) (kc_se rfl sm_no) (
  kc_case (P := P) (kc_se c_Dk_add_128 (sm_if_ne d_Dk_add_128 (by decide))) (
  kc_case (P := P) (kc_se rfl sm_no) (
  kc_case (P := P) (kc_se rfl sm_no) (
  kc_case (P := P) (kc_se c_Dk_add_125 (sm_cv (j := 71) rfl rfl kw_o kw_g wc_Pa_hasOwnPartOf (Nat.le_of_ble_eq_true rfl) hd_Pa_hasOwnPartOf (ci := 6) (F := kF_Pa) (N := 3) rfl (kw3 97 rfl rfl) wi_Pa_hasOwnPartOf ws_Pa_hasOwnPartOf wn_Pa_hasOwnPartOf d_Dk_add_125)) (
  kc_case (P := P) (kc_se rfl sm_no) (
  kc_case (P := P) (kc_se rfl sm_no) (
  kc_case (P := P) (kc_se c_Dk_add_122 (sm_get (ci := 0) (C := "DirectoryDesk") (F := kF_Dk) rfl kin_Dk (Nat.le_of_ble_eq_true rfl) d_Dk_add_122 (kw2 3 rfl rfl))) (
  kc_case (P := P) (kc_se c_Dk_add_121 (sm_aload_n d_Dk_add_121 rfl)) (
  kc_case (P := P) (kc_se rfl sm_no) (
  s_Dk_add_120))))))))))))))))))))))))))))))))))))))))))))))))))))))))))
theorem ka_nth_no_Dk_add (pc : Nat) (h : 178 ≤ pc) : ct_Dk_add pc = ka_no := ka_nth_ge _ pc (Nat.le_trans (Nat.le_of_eq (by rfl)) h)
theorem s_Dk_add (pc : Nat) : kc_Sim kt kw_A kw_N kt_cl kt_En "DirectoryDesk" prog_1_method_16_code 2 (some .int) "add" none pc (ct_Dk_add pc) := (Nat.lt_or_ge pc 178).elim (s_Dk_add_178 pc) (fun h => kc_se (ka_nth_no_Dk_add pc h) sm_no)
def cl_Dk_delete_0 : List kc_A := [ka_al 0 1, ka_get 0 0, ka_no, ka_no, ka_cv 38 0 1 0 0, ka_no, ka_no, ka_al 0 1, ka_get 0 3, ka_no, ka_no, ka_al 0 1, ka_get 0 0, ka_no, ka_no, ka_cv 63 1 5 0 0, ka_no, ka_no, ka_al 0 1, ka_cv 18 0 0 0 0, ka_no, ka_no, ka_is 1 1, ka_il 1 1, ka_if (fun x => x = 0) 29, ka_no, ka_no, ka_il 1 1, ka_ri, ka_al 0 1, ka_get 0 2, ka_no, ka_no, ka_al 0 1, ka_get 0 3, ka_no, ka_no, ka_ci (nI 0) 1, ka_cv 56 2 3 0 0, ka_no, ka_no, ka_is 2 1, ka_il 2 1, ka_ci (-1) 1, ka_cm (fun x y => ¬ x = y) 50, ka_no, ka_no, ka_ci (nI 32) 2, ka_no, ka_ri, ka_al 0 1, ka_get 0 2, ka_no, ka_no, ka_al 0 1, ka_get 0 3, ka_no, ka_no, ka_cv 58 1 3 0 0, ka_no]
def cl_Dk_delete_1 : List kc_A := [ka_no, ka_if (fun x => x = 0) 67, ka_no, ka_no, ka_ci (nI 66) 2, ka_no, ka_ri, ka_al 0 1, ka_get 0 2, ka_no, ka_no, ka_il 2 1, ka_cv 60 1 3 0 0, ka_no, ka_no, ka_ci (nI 0) 1, ka_ri]
def ct_Dk_delete : Nat → kc_A := fun pc => ka_nth (cl_Dk_delete_0 ++ (cl_Dk_delete_1)) pc
set_option maxRecDepth 100000 in
theorem c_Dk_delete_0 : ct_Dk_delete 0 = ka_al 0 1 := rfl
theorem d_Dk_delete_0 : decode prog_1_method_17_code 0 = .ok (.aload_n 0, 1) := by decide +kernel
set_option maxRecDepth 100000 in
theorem c_Dk_delete_1 : ct_Dk_delete 1 = ka_get 0 0 := rfl
theorem d_Dk_delete_1 : decode prog_1_method_17_code 1 = .ok (.getfield 10, 3) := by decide +kernel
set_option maxRecDepth 100000 in
theorem c_Dk_delete_4 : ct_Dk_delete 4 = ka_cv 38 0 1 0 0 := rfl
theorem d_Dk_delete_4 : decode prog_1_method_17_code 4 = .ok (.invokevirtual 198, 3) := by decide +kernel
set_option maxRecDepth 100000 in
theorem c_Dk_delete_7 : ct_Dk_delete 7 = ka_al 0 1 := rfl
theorem d_Dk_delete_7 : decode prog_1_method_17_code 7 = .ok (.aload_n 0, 1) := by decide +kernel
set_option maxRecDepth 100000 in
theorem c_Dk_delete_8 : ct_Dk_delete 8 = ka_get 0 3 := rfl
theorem d_Dk_delete_8 : decode prog_1_method_17_code 8 = .ok (.getfield 33, 3) := by decide +kernel
set_option maxRecDepth 100000 in
theorem c_Dk_delete_11 : ct_Dk_delete 11 = ka_al 0 1 := rfl
theorem d_Dk_delete_11 : decode prog_1_method_17_code 11 = .ok (.aload_n 0, 1) := by decide +kernel
set_option maxRecDepth 100000 in
theorem c_Dk_delete_12 : ct_Dk_delete 12 = ka_get 0 0 := rfl
theorem d_Dk_delete_12 : decode prog_1_method_17_code 12 = .ok (.getfield 10, 3) := by decide +kernel
set_option maxRecDepth 100000 in
theorem c_Dk_delete_15 : ct_Dk_delete 15 = ka_cv 63 1 5 0 0 := rfl
theorem d_Dk_delete_15 : decode prog_1_method_17_code 15 = .ok (.invokevirtual 152, 3) := by decide +kernel
set_option maxRecDepth 100000 in
theorem c_Dk_delete_18 : ct_Dk_delete 18 = ka_al 0 1 := rfl
theorem d_Dk_delete_18 : decode prog_1_method_17_code 18 = .ok (.aload_n 0, 1) := by decide +kernel
set_option maxRecDepth 100000 in
theorem c_Dk_delete_19 : ct_Dk_delete 19 = ka_cv 18 0 0 0 0 := rfl
theorem d_Dk_delete_19 : decode prog_1_method_17_code 19 = .ok (.invokevirtual 183, 3) := by decide +kernel
set_option maxRecDepth 100000 in
theorem c_Dk_delete_22 : ct_Dk_delete 22 = ka_is 1 1 := rfl
theorem d_Dk_delete_22 : decode prog_1_method_17_code 22 = .ok (.istore_n 1, 1) := by decide +kernel
set_option maxRecDepth 100000 in
theorem c_Dk_delete_23 : ct_Dk_delete 23 = ka_il 1 1 := rfl
theorem d_Dk_delete_23 : decode prog_1_method_17_code 23 = .ok (.iload_n 1, 1) := by decide +kernel
set_option maxRecDepth 100000 in
theorem c_Dk_delete_24 : ct_Dk_delete 24 = ka_if (fun x => x = 0) 29 := rfl
theorem d_Dk_delete_24 : decode prog_1_method_17_code 24 = .ok (.ifCond .eq 5, 3) := by decide +kernel
set_option maxRecDepth 100000 in
theorem c_Dk_delete_27 : ct_Dk_delete 27 = ka_il 1 1 := rfl
theorem d_Dk_delete_27 : decode prog_1_method_17_code 27 = .ok (.iload_n 1, 1) := by decide +kernel
set_option maxRecDepth 100000 in
theorem c_Dk_delete_28 : ct_Dk_delete 28 = ka_ri := rfl
theorem d_Dk_delete_28 : decode prog_1_method_17_code 28 = .ok (.ireturn, 1) := by decide +kernel
set_option maxRecDepth 100000 in
theorem c_Dk_delete_29 : ct_Dk_delete 29 = ka_al 0 1 := rfl
theorem d_Dk_delete_29 : decode prog_1_method_17_code 29 = .ok (.aload_n 0, 1) := by decide +kernel
set_option maxRecDepth 100000 in
theorem c_Dk_delete_30 : ct_Dk_delete 30 = ka_get 0 2 := rfl
theorem d_Dk_delete_30 : decode prog_1_method_17_code 30 = .ok (.getfield 26, 3) := by decide +kernel
set_option maxRecDepth 100000 in
theorem c_Dk_delete_33 : ct_Dk_delete 33 = ka_al 0 1 := rfl
theorem d_Dk_delete_33 : decode prog_1_method_17_code 33 = .ok (.aload_n 0, 1) := by decide +kernel
set_option maxRecDepth 100000 in
theorem c_Dk_delete_34 : ct_Dk_delete 34 = ka_get 0 3 := rfl
theorem d_Dk_delete_34 : decode prog_1_method_17_code 34 = .ok (.getfield 33, 3) := by decide +kernel
set_option maxRecDepth 100000 in
theorem c_Dk_delete_37 : ct_Dk_delete 37 = ka_ci (nI 0) 1 := rfl
theorem d_Dk_delete_37 : decode prog_1_method_17_code 37 = .ok (.iconst 0, 1) := by decide +kernel
set_option maxRecDepth 100000 in
theorem c_Dk_delete_38 : ct_Dk_delete 38 = ka_cv 56 2 3 0 0 := rfl
theorem d_Dk_delete_38 : decode prog_1_method_17_code 38 = .ok (.invokevirtual 169, 3) := by decide +kernel
set_option maxRecDepth 100000 in
theorem c_Dk_delete_41 : ct_Dk_delete 41 = ka_is 2 1 := rfl
theorem d_Dk_delete_41 : decode prog_1_method_17_code 41 = .ok (.istore_n 2, 1) := by decide +kernel
set_option maxRecDepth 100000 in
theorem c_Dk_delete_42 : ct_Dk_delete 42 = ka_il 2 1 := rfl
theorem d_Dk_delete_42 : decode prog_1_method_17_code 42 = .ok (.iload_n 2, 1) := by decide +kernel
set_option maxRecDepth 100000 in
theorem c_Dk_delete_43 : ct_Dk_delete 43 = ka_ci (-1) 1 := rfl
theorem d_Dk_delete_43 : decode prog_1_method_17_code 43 = .ok (.iconst (-1), 1) := by decide +kernel
set_option maxRecDepth 100000 in
theorem c_Dk_delete_44 : ct_Dk_delete 44 = ka_cm (fun x y => ¬ x = y) 50 := rfl
theorem d_Dk_delete_44 : decode prog_1_method_17_code 44 = .ok (.if_icmp .ne 6, 3) := by decide +kernel
set_option maxRecDepth 100000 in
theorem c_Dk_delete_47 : ct_Dk_delete 47 = ka_ci (nI 32) 2 := rfl
theorem d_Dk_delete_47 : decode prog_1_method_17_code 47 = .ok (.bipush 32, 2) := by decide +kernel
set_option maxRecDepth 100000 in
theorem c_Dk_delete_49 : ct_Dk_delete 49 = ka_ri := rfl
theorem d_Dk_delete_49 : decode prog_1_method_17_code 49 = .ok (.ireturn, 1) := by decide +kernel
set_option maxRecDepth 100000 in
theorem c_Dk_delete_50 : ct_Dk_delete 50 = ka_al 0 1 := rfl
theorem d_Dk_delete_50 : decode prog_1_method_17_code 50 = .ok (.aload_n 0, 1) := by decide +kernel
set_option maxRecDepth 100000 in
theorem c_Dk_delete_51 : ct_Dk_delete 51 = ka_get 0 2 := rfl
theorem d_Dk_delete_51 : decode prog_1_method_17_code 51 = .ok (.getfield 26, 3) := by decide +kernel
set_option maxRecDepth 100000 in
theorem c_Dk_delete_54 : ct_Dk_delete 54 = ka_al 0 1 := rfl
theorem d_Dk_delete_54 : decode prog_1_method_17_code 54 = .ok (.aload_n 0, 1) := by decide +kernel
set_option maxRecDepth 100000 in
theorem c_Dk_delete_55 : ct_Dk_delete 55 = ka_get 0 3 := rfl
theorem d_Dk_delete_55 : decode prog_1_method_17_code 55 = .ok (.getfield 33, 3) := by decide +kernel
set_option maxRecDepth 100000 in
theorem c_Dk_delete_58 : ct_Dk_delete 58 = ka_cv 58 1 3 0 0 := rfl
theorem d_Dk_delete_58 : decode prog_1_method_17_code 58 = .ok (.invokevirtual 201, 3) := by decide +kernel
set_option maxRecDepth 100000 in
theorem c_Dk_delete_61 : ct_Dk_delete 61 = ka_if (fun x => x = 0) 67 := rfl
theorem d_Dk_delete_61 : decode prog_1_method_17_code 61 = .ok (.ifCond .eq 6, 3) := by decide +kernel
set_option maxRecDepth 100000 in
theorem c_Dk_delete_64 : ct_Dk_delete 64 = ka_ci (nI 66) 2 := rfl
theorem d_Dk_delete_64 : decode prog_1_method_17_code 64 = .ok (.bipush 66, 2) := by decide +kernel
set_option maxRecDepth 100000 in
theorem c_Dk_delete_66 : ct_Dk_delete 66 = ka_ri := rfl
theorem d_Dk_delete_66 : decode prog_1_method_17_code 66 = .ok (.ireturn, 1) := by decide +kernel
set_option maxRecDepth 100000 in
theorem c_Dk_delete_67 : ct_Dk_delete 67 = ka_al 0 1 := rfl
theorem d_Dk_delete_67 : decode prog_1_method_17_code 67 = .ok (.aload_n 0, 1) := by decide +kernel
set_option maxRecDepth 100000 in
theorem c_Dk_delete_68 : ct_Dk_delete 68 = ka_get 0 2 := rfl
theorem d_Dk_delete_68 : decode prog_1_method_17_code 68 = .ok (.getfield 26, 3) := by decide +kernel
set_option maxRecDepth 100000 in
theorem c_Dk_delete_71 : ct_Dk_delete 71 = ka_il 2 1 := rfl
theorem d_Dk_delete_71 : decode prog_1_method_17_code 71 = .ok (.iload_n 2, 1) := by decide +kernel
set_option maxRecDepth 100000 in
theorem c_Dk_delete_72 : ct_Dk_delete 72 = ka_cv 60 1 3 0 0 := rfl
theorem d_Dk_delete_72 : decode prog_1_method_17_code 72 = .ok (.invokevirtual 204, 3) := by decide +kernel
set_option maxRecDepth 100000 in
theorem c_Dk_delete_75 : ct_Dk_delete 75 = ka_ci (nI 0) 1 := rfl
theorem d_Dk_delete_75 : decode prog_1_method_17_code 75 = .ok (.iconst 0, 1) := by decide +kernel
set_option maxRecDepth 100000 in
theorem c_Dk_delete_76 : ct_Dk_delete 76 = ka_ri := rfl
theorem d_Dk_delete_76 : decode prog_1_method_17_code 76 = .ok (.ireturn, 1) := by decide +kernel
set_option maxRecDepth 100000 in
set_option maxHeartbeats 4000000 in
theorem s_Dk_delete_60 : ∀ pc, pc < 60 → kc_Sim kt kw_A kw_N kt_cl kt_En "DirectoryDesk" prog_1_method_17_code 3 (some .int) "delete" none pc (ct_Dk_delete pc) := by
  let P : Nat → Prop := fun pc => kc_Sim kt kw_A kw_N kt_cl kt_En "DirectoryDesk" prog_1_method_17_code 3 (some .int) "delete" none pc (ct_Dk_delete pc)
  exact kc_case (P := P) (kc_se rfl sm_no) (
  kc_case (P := P) (kc_se c_Dk_delete_58 (sm_cv (j := 58) rfl rfl kw_o kw_g wc_Tr_hasChildOf (Nat.le_of_ble_eq_true rfl) hd_Tr_hasChildOf (ci := 3) (F := kF_Tr) (N := 2) rfl (kw3 120 rfl rfl) wi_Tr_hasChildOf ws_Tr_hasChildOf wn_Tr_hasChildOf d_Dk_delete_58)) (
  kc_case (P := P) (kc_se rfl sm_no) (
  kc_case (P := P) (kc_se rfl sm_no) (
  kc_case (P := P) (kc_se c_Dk_delete_55 (sm_get (ci := 0) (C := "DirectoryDesk") (F := kF_Dk) rfl kin_Dk (Nat.le_of_ble_eq_true rfl) d_Dk_delete_55 (kw2 3 rfl rfl))) (
  kc_case (P := P) (kc_se c_Dk_delete_54 (sm_aload_n d_Dk_delete_54 rfl)) (
  kc_case (P := P) (kc_se rfl sm_no) (
  kc_case (P := P) (kc_se rfl sm_no) (
  kc_case (P := P) (kc_se c_Dk_delete_51 (sm_get (ci := 0) (C := "DirectoryDesk") (F := kF_Dk) rfl kin_Dk (Nat.le_of_ble_eq_true rfl) d_Dk_delete_51 (kw2 2 rfl rfl))) (
  kc_case (P := P) (kc_se c_Dk_delete_50 (sm_aload_n d_Dk_delete_50 rfl)) (
  kc_case (P := P) (kc_se c_Dk_delete_49 (sm_ri d_Dk_delete_49 rfl)) (
  kc_case (P := P) (kc_se rfl sm_no) (
  kc_case (P := P) (kc_se c_Dk_delete_47 (sm_bipush d_Dk_delete_47 (by decide))) (
  kc_case (P := P) (kc_se rfl sm_no) (
  kc_case (P := P) (kc_se rfl sm_no) (
  kc_case (P := P) (kc_se c_Dk_delete_44 (sm_cm_ne d_Dk_delete_44 (by decide))) (
  kc_case (P := P) (kc_se c_Dk_delete_43 (sm_iconst d_Dk_delete_43 (by decide))) (
  kc_case (P := P) (kc_se c_Dk_delete_42 (sm_iload_n d_Dk_delete_42 rfl)) (
  kc_case (P := P) (kc_se c_Dk_delete_41 (sm_istore_n d_Dk_delete_41 rfl (Nat.le_of_ble_eq_true rfl))) (
  kc_case (P := P) (kc_se rfl sm_no) (
  kc_case (P := P) (kc_se rfl sm_no) (
  kc_case (P := P) (kc_se c_Dk_delete_38 (sm_cv (j := 56) rfl rfl kw_o kw_g wc_Tr_find (Nat.le_of_ble_eq_true rfl) hd_Tr_find (ci := 3) (F := kF_Tr) (N := 2) rfl (kw2 126 rfl rfl) wi_Tr_find ws_Tr_find wn_Tr_find d_Dk_delete_38)) (
  kc_case (P := P) (kc_se c_Dk_delete_37 (sm_iconst d_Dk_delete_37 (by decide))) (
  kc_case (P := P) (kc_se rfl sm_no) (
  kc_case (P := P) (kc_se rfl sm_no) (
  kc_case (P := P) (kc_se c_Dk_delete_34 (sm_get (ci := 0) (C := "DirectoryDesk") (F := kF_Dk) rfl kin_Dk (Nat.le_of_ble_eq_true rfl) d_Dk_delete_34 (kw2 3 rfl rfl))) (
  kc_case (P := P) (kc_se c_Dk_delete_33 (sm_aload_n d_Dk_delete_33 rfl)) (
  kc_case (P := P) (kc_se rfl sm_no) (
  kc_case (P := P) (kc_se rfl sm_no) (
  kc_case (P := P) (kc_se c_Dk_delete_30 (sm_get (ci := 0) (C := "DirectoryDesk") (F := kF_Dk) rfl kin_Dk (Nat.le_of_ble_eq_true rfl) d_Dk_delete_30 (kw2 2 rfl rfl))) (
  kc_case (P := P) (kc_se c_Dk_delete_29 (sm_aload_n d_Dk_delete_29 rfl)) (
  kc_case (P := P) (kc_se c_Dk_delete_28 (sm_ri d_Dk_delete_28 rfl)) (
  kc_case (P := P) (kc_se c_Dk_delete_27 (sm_iload_n d_Dk_delete_27 rfl)) (
  kc_case (P := P) (kc_se rfl sm_no) (
  kc_case (P := P) (kc_se rfl sm_no) (
  kc_case (P := P) (kc_se c_Dk_delete_24 (sm_if_eq d_Dk_delete_24 (by decide))) (
  kc_case (P := P) (kc_se c_Dk_delete_23 (sm_iload_n d_Dk_delete_23 rfl)) (
  kc_case (P := P) (kc_se c_Dk_delete_22 (sm_istore_n d_Dk_delete_22 rfl (Nat.le_of_ble_eq_true rfl))) (
  kc_case (P := P) (kc_se rfl sm_no) (
  kc_case (P := P) (kc_se rfl sm_no) (
  kc_case (P := P) (kc_se c_Dk_delete_19 (sm_cv (j := 18) rfl rfl kw_o kw_g wc_Dk_changingCode (Nat.le_of_ble_eq_true rfl) hd_Dk_changingCode (ci := 0) (F := kF_Dk) (N := 10) rfl (kw3 65 rfl rfl) wi_Dk_changingCode ws_Dk_changingCode wn_Dk_changingCode d_Dk_delete_19)) (
  kc_case (P := P) (kc_se c_Dk_delete_18 (sm_aload_n d_Dk_delete_18 rfl)) (
  kc_case (P := P) (kc_se rfl sm_no) (
  kc_case (P := P) (kc_se rfl sm_no) (
  kc_case (P := P) (kc_se c_Dk_delete_15 (sm_cv (j := 63) rfl rfl kw_o kw_g wc_Nm_readFrom (Nat.le_of_ble_eq_true rfl) hd_Nm_readFrom (ci := 5) (F := kF_Nm) (N := 3) rfl (kw2 93 rfl rfl) wi_Nm_readFrom ws_Nm_readFrom wn_Nm_readFrom d_Dk_delete_15)) (
  kc_case (P := P) (kc_se rfl sm_no) (
  kc_case (P := P) (kc_se rfl sm_no) (
  kc_case (P := P) (kc_se c_Dk_delete_12 (sm_get (ci := 0) (C := "DirectoryDesk") (F := kF_Dk) rfl kin_Dk (Nat.le_of_ble_eq_true rfl) d_Dk_delete_12 (kw2 0 rfl rfl))) (
  kc_case (P := P) (kc_se c_Dk_delete_11 (sm_aload_n d_Dk_delete_11 rfl)) (
  kc_case (P := P) (kc_se rfl sm_no) (
  kc_case (P := P) (kc_se rfl sm_no) (
  kc_case (P := P) (kc_se c_Dk_delete_8 (sm_get (ci := 0) (C := "DirectoryDesk") (F := kF_Dk) rfl kin_Dk (Nat.le_of_ble_eq_true rfl) d_Dk_delete_8 (kw2 3 rfl rfl))) (
  kc_case (P := P) (kc_se c_Dk_delete_7 (sm_aload_n d_Dk_delete_7 rfl)) (
  kc_case (P := P) (kc_se rfl sm_no) (
  kc_case (P := P) (kc_se rfl sm_no) (
  kc_case (P := P) (kc_se c_Dk_delete_4 (sm_cv (j := 38) rfl rfl kw_o kw_g wc_Rd_spanRest (Nat.le_of_ble_eq_true rfl) hd_Rd_spanRest (ci := 1) (F := kF_Rd) (N := 8) rfl (kw3 119 rfl rfl) wi_Rd_spanRest ws_Rd_spanRest wn_Rd_spanRest d_Dk_delete_4)) (
  kc_case (P := P) (kc_se rfl sm_no) (
  kc_case (P := P) (kc_se rfl sm_no) (
  kc_case (P := P) (kc_se c_Dk_delete_1 (sm_get (ci := 0) (C := "DirectoryDesk") (F := kF_Dk) rfl kin_Dk (Nat.le_of_ble_eq_true rfl) d_Dk_delete_1 (kw2 0 rfl rfl))) (
  kc_case (P := P) (kc_se c_Dk_delete_0 (sm_aload_n d_Dk_delete_0 rfl)) (
  kc_case0))))))))))))))))))))))))))))))))))))))))))))))))))))))))))))
set_option maxRecDepth 100000 in
set_option maxHeartbeats 4000000 in
theorem s_Dk_delete_77 : ∀ pc, pc < 77 → kc_Sim kt kw_A kw_N kt_cl kt_En "DirectoryDesk" prog_1_method_17_code 3 (some .int) "delete" none pc (ct_Dk_delete pc) := by
  let P : Nat → Prop := fun pc => kc_Sim kt kw_A kw_N kt_cl kt_En "DirectoryDesk" prog_1_method_17_code 3 (some .int) "delete" none pc (ct_Dk_delete pc)
  exact kc_case (P := P) (kc_se c_Dk_delete_76 (sm_ri d_Dk_delete_76 rfl)) (
  kc_case (P := P) (kc_se c_Dk_delete_75 (sm_iconst d_Dk_delete_75 (by decide))) (
  kc_case (P := P) (kc_se rfl sm_no) (
  kc_case (P := P) (kc_se rfl sm_no) (
  kc_case (P := P) (kc_se c_Dk_delete_72 (sm_cv (j := 60) rfl rfl kw_o kw_g wc_Tr_removeAt (Nat.le_of_ble_eq_true rfl) hd_Tr_removeAt (ci := 3) (F := kF_Tr) (N := 2) rfl (kw3 124 rfl rfl) wi_Tr_removeAt ws_Tr_removeAt wn_Tr_removeAt d_Dk_delete_72)) (
  kc_case (P := P) (kc_se c_Dk_delete_71 (sm_iload_n d_Dk_delete_71 rfl)) (
  kc_case (P := P) (kc_se rfl sm_no) (
  kc_case (P := P) (kc_se rfl sm_no) (
  kc_case (P := P) (kc_se c_Dk_delete_68 (sm_get (ci := 0) (C := "DirectoryDesk") (F := kF_Dk) rfl kin_Dk (Nat.le_of_ble_eq_true rfl) d_Dk_delete_68 (kw2 2 rfl rfl))) (
  kc_case (P := P) (kc_se c_Dk_delete_67 (sm_aload_n d_Dk_delete_67 rfl)) (
  kc_case (P := P) (kc_se c_Dk_delete_66 (sm_ri d_Dk_delete_66 rfl)) (
  kc_case (P := P) (kc_se rfl sm_no) (
  kc_case (P := P) (kc_se c_Dk_delete_64 (sm_bipush d_Dk_delete_64 (by decide))) (
  kc_case (P := P) (kc_se rfl sm_no) (
  kc_case (P := P) (kc_se rfl sm_no) (
  kc_case (P := P) (kc_se c_Dk_delete_61 (sm_if_eq d_Dk_delete_61 (by decide))) (
  kc_case (P := P) (kc_se rfl sm_no) (
  s_Dk_delete_60)))))))))))))))))
theorem ka_nth_no_Dk_delete (pc : Nat) (h : 77 ≤ pc) : ct_Dk_delete pc = ka_no := ka_nth_ge _ pc (Nat.le_trans (Nat.le_of_eq (by rfl)) h)
theorem s_Dk_delete (pc : Nat) : kc_Sim kt kw_A kw_N kt_cl kt_En "DirectoryDesk" prog_1_method_17_code 3 (some .int) "delete" none pc (ct_Dk_delete pc) := (Nat.lt_or_ge pc 77).elim (s_Dk_delete_77 pc) (fun h => kc_se (ka_nth_no_Dk_delete pc h) sm_no)
def cl_Dk_modify_0 : List kc_A := [ka_al 0 1, ka_get 0 0, ka_no, ka_no, ka_ci (nI 4) 1, ka_cv 37 1 1 0 0, ka_no, ka_no, ka_al 0 1, ka_get 0 3, ka_no, ka_no, ka_al 0 1, ka_get 0 0, ka_no, ka_no, ka_cv 63 1 5 0 0, ka_no, ka_no, ka_al 0 1, ka_get 0 4, ka_no, ka_no, ka_al 0 1, ka_get 0 0, ka_no, ka_no, ka_ci (nI 1) 1, ka_cv 77 2 7 0 0, ka_no, ka_no, ka_al 0 1, ka_cv 18 0 0 0 0, ka_no, ka_no, ka_is 1 1, ka_il 1 1, ka_if (fun x => x = 0) 42, ka_no, ka_no, ka_il 1 1, ka_ri, ka_al 0 1, ka_get 0 2, ka_no, ka_no, ka_al 0 1, ka_get 0 3, ka_no, ka_no, ka_ci (nI 0) 1, ka_cv 56 2 3 0 0, ka_no, ka_no, ka_is 2 1, ka_il 2 1, ka_ci (-1) 1, ka_cm (fun x y => ¬ x = y) 63, ka_no, ka_no]
def cl_Dk_modify_1 : List kc_A := [ka_ci (nI 32) 2, ka_no, ka_ri, ka_al 0 1, ka_get 0 7, ka_no, ka_no, ka_al 0 1, ka_get 0 2, ka_no, ka_no, ka_get 3 0, ka_no, ka_no, ka_il 2 1, ka_aald, ka_get 4 1, ka_no, ka_no, ka_cv 75 1 6 0 0, ka_no, ka_no, ka_al 0 1, ka_get 0 4, ka_no, ka_no, ka_al 0 1, ka_get 0 7, ka_no, ka_no, ka_cv 79 1 7 0 0, ka_no, ka_no, ka_is 1 1, ka_il 1 1, ka_if (fun x => x = 0) 100, ka_no, ka_no, ka_il 1 1, ka_ri, ka_al 0 1, ka_get 0 7, ka_no, ka_no, ka_al 0 1, ka_get 0 3, ka_no, ka_no, ka_cv 71 1 6 0 0, ka_no, ka_no, ka_if (fun x => ¬ x = 0) 117, ka_no, ka_no, ka_ci (nI 67) 2, ka_no, ka_ri, ka_al 0 1, ka_get 0 7, ka_no]
def cl_Dk_modify_2 : List kc_A := [ka_no, ka_get 6 2, ka_no, ka_no, ka_ci (nI 6) 2, ka_no, ka_cm (fun x y => x ≤ y) 132, ka_no, ka_no, ka_ci (nI 53) 2, ka_no, ka_ri, ka_al 0 1, ka_get 0 2, ka_no, ka_no, ka_get 3 0, ka_no, ka_no, ka_il 2 1, ka_aald, ka_get 4 1, ka_no, ka_no, ka_al 0 1, ka_get 0 7, ka_no, ka_no, ka_cv 75 1 6 0 0, ka_no, ka_no, ka_ci (nI 0) 1, ka_ri]
def ct_Dk_modify : Nat → kc_A := fun pc => ka_nth (cl_Dk_modify_0 ++ (cl_Dk_modify_1 ++ (cl_Dk_modify_2))) pc
set_option maxRecDepth 100000 in
theorem c_Dk_modify_0 : ct_Dk_modify 0 = ka_al 0 1 := rfl
theorem d_Dk_modify_0 : decode prog_1_method_18_code 0 = .ok (.aload_n 0, 1) := by decide +kernel
set_option maxRecDepth 100000 in
theorem c_Dk_modify_1 : ct_Dk_modify 1 = ka_get 0 0 := rfl
theorem d_Dk_modify_1 : decode prog_1_method_18_code 1 = .ok (.getfield 10, 3) := by decide +kernel
set_option maxRecDepth 100000 in
theorem c_Dk_modify_4 : ct_Dk_modify 4 = ka_ci (nI 4) 1 := rfl
theorem d_Dk_modify_4 : decode prog_1_method_18_code 4 = .ok (.iconst 4, 1) := by decide +kernel
set_option maxRecDepth 100000 in
theorem c_Dk_modify_5 : ct_Dk_modify 5 = ka_cv 37 1 1 0 0 := rfl
theorem d_Dk_modify_5 : decode prog_1_method_18_code 5 = .ok (.invokevirtual 149, 3) := by decide +kernel
set_option maxRecDepth 100000 in
theorem c_Dk_modify_8 : ct_Dk_modify 8 = ka_al 0 1 := rfl
theorem d_Dk_modify_8 : decode prog_1_method_18_code 8 = .ok (.aload_n 0, 1) := by decide +kernel
set_option maxRecDepth 100000 in
theorem c_Dk_modify_9 : ct_Dk_modify 9 = ka_get 0 3 := rfl
theorem d_Dk_modify_9 : decode prog_1_method_18_code 9 = .ok (.getfield 33, 3) := by decide +kernel
set_option maxRecDepth 100000 in
theorem c_Dk_modify_12 : ct_Dk_modify 12 = ka_al 0 1 := rfl
theorem d_Dk_modify_12 : decode prog_1_method_18_code 12 = .ok (.aload_n 0, 1) := by decide +kernel
set_option maxRecDepth 100000 in
theorem c_Dk_modify_13 : ct_Dk_modify 13 = ka_get 0 0 := rfl
theorem d_Dk_modify_13 : decode prog_1_method_18_code 13 = .ok (.getfield 10, 3) := by decide +kernel
set_option maxRecDepth 100000 in
theorem c_Dk_modify_16 : ct_Dk_modify 16 = ka_cv 63 1 5 0 0 := rfl
theorem d_Dk_modify_16 : decode prog_1_method_18_code 16 = .ok (.invokevirtual 152, 3) := by decide +kernel
set_option maxRecDepth 100000 in
theorem c_Dk_modify_19 : ct_Dk_modify 19 = ka_al 0 1 := rfl
theorem d_Dk_modify_19 : decode prog_1_method_18_code 19 = .ok (.aload_n 0, 1) := by decide +kernel
set_option maxRecDepth 100000 in
theorem c_Dk_modify_20 : ct_Dk_modify 20 = ka_get 0 4 := rfl
theorem d_Dk_modify_20 : decode prog_1_method_18_code 20 = .ok (.getfield 40, 3) := by decide +kernel
set_option maxRecDepth 100000 in
theorem c_Dk_modify_23 : ct_Dk_modify 23 = ka_al 0 1 := rfl
theorem d_Dk_modify_23 : decode prog_1_method_18_code 23 = .ok (.aload_n 0, 1) := by decide +kernel
set_option maxRecDepth 100000 in
theorem c_Dk_modify_24 : ct_Dk_modify 24 = ka_get 0 0 := rfl
theorem d_Dk_modify_24 : decode prog_1_method_18_code 24 = .ok (.getfield 10, 3) := by decide +kernel
set_option maxRecDepth 100000 in
theorem c_Dk_modify_27 : ct_Dk_modify 27 = ka_ci (nI 1) 1 := rfl
theorem d_Dk_modify_27 : decode prog_1_method_18_code 27 = .ok (.iconst 1, 1) := by decide +kernel
set_option maxRecDepth 100000 in
theorem c_Dk_modify_28 : ct_Dk_modify 28 = ka_cv 77 2 7 0 0 := rfl
theorem d_Dk_modify_28 : decode prog_1_method_18_code 28 = .ok (.invokevirtual 180, 3) := by decide +kernel
set_option maxRecDepth 100000 in
theorem c_Dk_modify_31 : ct_Dk_modify 31 = ka_al 0 1 := rfl
theorem d_Dk_modify_31 : decode prog_1_method_18_code 31 = .ok (.aload_n 0, 1) := by decide +kernel
set_option maxRecDepth 100000 in
theorem c_Dk_modify_32 : ct_Dk_modify 32 = ka_cv 18 0 0 0 0 := rfl
theorem d_Dk_modify_32 : decode prog_1_method_18_code 32 = .ok (.invokevirtual 183, 3) := by decide +kernel
set_option maxRecDepth 100000 in
theorem c_Dk_modify_35 : ct_Dk_modify 35 = ka_is 1 1 := rfl
theorem d_Dk_modify_35 : decode prog_1_method_18_code 35 = .ok (.istore_n 1, 1) := by decide +kernel
set_option maxRecDepth 100000 in
theorem c_Dk_modify_36 : ct_Dk_modify 36 = ka_il 1 1 := rfl
theorem d_Dk_modify_36 : decode prog_1_method_18_code 36 = .ok (.iload_n 1, 1) := by decide +kernel
set_option maxRecDepth 100000 in
theorem c_Dk_modify_37 : ct_Dk_modify 37 = ka_if (fun x => x = 0) 42 := rfl
theorem d_Dk_modify_37 : decode prog_1_method_18_code 37 = .ok (.ifCond .eq 5, 3) := by decide +kernel
set_option maxRecDepth 100000 in
theorem c_Dk_modify_40 : ct_Dk_modify 40 = ka_il 1 1 := rfl
theorem d_Dk_modify_40 : decode prog_1_method_18_code 40 = .ok (.iload_n 1, 1) := by decide +kernel
set_option maxRecDepth 100000 in
theorem c_Dk_modify_41 : ct_Dk_modify 41 = ka_ri := rfl
theorem d_Dk_modify_41 : decode prog_1_method_18_code 41 = .ok (.ireturn, 1) := by decide +kernel
set_option maxRecDepth 100000 in
theorem c_Dk_modify_42 : ct_Dk_modify 42 = ka_al 0 1 := rfl
theorem d_Dk_modify_42 : decode prog_1_method_18_code 42 = .ok (.aload_n 0, 1) := by decide +kernel
set_option maxRecDepth 100000 in
theorem c_Dk_modify_43 : ct_Dk_modify 43 = ka_get 0 2 := rfl
theorem d_Dk_modify_43 : decode prog_1_method_18_code 43 = .ok (.getfield 26, 3) := by decide +kernel
set_option maxRecDepth 100000 in
theorem c_Dk_modify_46 : ct_Dk_modify 46 = ka_al 0 1 := rfl
theorem d_Dk_modify_46 : decode prog_1_method_18_code 46 = .ok (.aload_n 0, 1) := by decide +kernel
set_option maxRecDepth 100000 in
theorem c_Dk_modify_47 : ct_Dk_modify 47 = ka_get 0 3 := rfl
theorem d_Dk_modify_47 : decode prog_1_method_18_code 47 = .ok (.getfield 33, 3) := by decide +kernel
set_option maxRecDepth 100000 in
theorem c_Dk_modify_50 : ct_Dk_modify 50 = ka_ci (nI 0) 1 := rfl
theorem d_Dk_modify_50 : decode prog_1_method_18_code 50 = .ok (.iconst 0, 1) := by decide +kernel
set_option maxRecDepth 100000 in
theorem c_Dk_modify_51 : ct_Dk_modify 51 = ka_cv 56 2 3 0 0 := rfl
theorem d_Dk_modify_51 : decode prog_1_method_18_code 51 = .ok (.invokevirtual 169, 3) := by decide +kernel
set_option maxRecDepth 100000 in
theorem c_Dk_modify_54 : ct_Dk_modify 54 = ka_is 2 1 := rfl
theorem d_Dk_modify_54 : decode prog_1_method_18_code 54 = .ok (.istore_n 2, 1) := by decide +kernel
set_option maxRecDepth 100000 in
theorem c_Dk_modify_55 : ct_Dk_modify 55 = ka_il 2 1 := rfl
theorem d_Dk_modify_55 : decode prog_1_method_18_code 55 = .ok (.iload_n 2, 1) := by decide +kernel
set_option maxRecDepth 100000 in
theorem c_Dk_modify_56 : ct_Dk_modify 56 = ka_ci (-1) 1 := rfl
theorem d_Dk_modify_56 : decode prog_1_method_18_code 56 = .ok (.iconst (-1), 1) := by decide +kernel
set_option maxRecDepth 100000 in
theorem c_Dk_modify_57 : ct_Dk_modify 57 = ka_cm (fun x y => ¬ x = y) 63 := rfl
theorem d_Dk_modify_57 : decode prog_1_method_18_code 57 = .ok (.if_icmp .ne 6, 3) := by decide +kernel
set_option maxRecDepth 100000 in
theorem c_Dk_modify_60 : ct_Dk_modify 60 = ka_ci (nI 32) 2 := rfl
theorem d_Dk_modify_60 : decode prog_1_method_18_code 60 = .ok (.bipush 32, 2) := by decide +kernel
set_option maxRecDepth 100000 in
theorem c_Dk_modify_62 : ct_Dk_modify 62 = ka_ri := rfl
theorem d_Dk_modify_62 : decode prog_1_method_18_code 62 = .ok (.ireturn, 1) := by decide +kernel
set_option maxRecDepth 100000 in
theorem c_Dk_modify_63 : ct_Dk_modify 63 = ka_al 0 1 := rfl
theorem d_Dk_modify_63 : decode prog_1_method_18_code 63 = .ok (.aload_n 0, 1) := by decide +kernel
set_option maxRecDepth 100000 in
theorem c_Dk_modify_64 : ct_Dk_modify 64 = ka_get 0 7 := rfl
theorem d_Dk_modify_64 : decode prog_1_method_18_code 64 = .ok (.getfield 63, 3) := by decide +kernel
set_option maxRecDepth 100000 in
theorem c_Dk_modify_67 : ct_Dk_modify 67 = ka_al 0 1 := rfl
theorem d_Dk_modify_67 : decode prog_1_method_18_code 67 = .ok (.aload_n 0, 1) := by decide +kernel
set_option maxRecDepth 100000 in
theorem c_Dk_modify_68 : ct_Dk_modify 68 = ka_get 0 2 := rfl
theorem d_Dk_modify_68 : decode prog_1_method_18_code 68 = .ok (.getfield 26, 3) := by decide +kernel
set_option maxRecDepth 100000 in
theorem c_Dk_modify_71 : ct_Dk_modify 71 = ka_get 3 0 := rfl
theorem d_Dk_modify_71 : decode prog_1_method_18_code 71 = .ok (.getfield 119, 3) := by decide +kernel
set_option maxRecDepth 100000 in
theorem c_Dk_modify_74 : ct_Dk_modify 74 = ka_il 2 1 := rfl
theorem d_Dk_modify_74 : decode prog_1_method_18_code 74 = .ok (.iload_n 2, 1) := by decide +kernel
set_option maxRecDepth 100000 in
theorem c_Dk_modify_75 : ct_Dk_modify 75 = ka_aald := rfl
theorem d_Dk_modify_75 : decode prog_1_method_18_code 75 = .ok (.aaload, 1) := by decide +kernel
set_option maxRecDepth 100000 in
theorem c_Dk_modify_76 : ct_Dk_modify 76 = ka_get 4 1 := rfl
theorem d_Dk_modify_76 : decode prog_1_method_18_code 76 = .ok (.getfield 131, 3) := by decide +kernel
set_option maxRecDepth 100000 in
theorem c_Dk_modify_79 : ct_Dk_modify 79 = ka_cv 75 1 6 0 0 := rfl
theorem d_Dk_modify_79 : decode prog_1_method_18_code 79 = .ok (.invokevirtual 207, 3) := by decide +kernel
set_option maxRecDepth 100000 in
theorem c_Dk_modify_82 : ct_Dk_modify 82 = ka_al 0 1 := rfl
theorem d_Dk_modify_82 : decode prog_1_method_18_code 82 = .ok (.aload_n 0, 1) := by decide +kernel
set_option maxRecDepth 100000 in
theorem c_Dk_modify_83 : ct_Dk_modify 83 = ka_get 0 4 := rfl
theorem d_Dk_modify_83 : decode prog_1_method_18_code 83 = .ok (.getfield 40, 3) := by decide +kernel
set_option maxRecDepth 100000 in
theorem c_Dk_modify_86 : ct_Dk_modify 86 = ka_al 0 1 := rfl
theorem d_Dk_modify_86 : decode prog_1_method_18_code 86 = .ok (.aload_n 0, 1) := by decide +kernel
set_option maxRecDepth 100000 in
theorem c_Dk_modify_87 : ct_Dk_modify 87 = ka_get 0 7 := rfl
theorem d_Dk_modify_87 : decode prog_1_method_18_code 87 = .ok (.getfield 63, 3) := by decide +kernel
set_option maxRecDepth 100000 in
theorem c_Dk_modify_90 : ct_Dk_modify 90 = ka_cv 79 1 7 0 0 := rfl
theorem d_Dk_modify_90 : decode prog_1_method_18_code 90 = .ok (.invokevirtual 186, 3) := by decide +kernel
set_option maxRecDepth 100000 in
theorem c_Dk_modify_93 : ct_Dk_modify 93 = ka_is 1 1 := rfl
theorem d_Dk_modify_93 : decode prog_1_method_18_code 93 = .ok (.istore_n 1, 1) := by decide +kernel
set_option maxRecDepth 100000 in
theorem c_Dk_modify_94 : ct_Dk_modify 94 = ka_il 1 1 := rfl
theorem d_Dk_modify_94 : decode prog_1_method_18_code 94 = .ok (.iload_n 1, 1) := by decide +kernel
set_option maxRecDepth 100000 in
theorem c_Dk_modify_95 : ct_Dk_modify 95 = ka_if (fun x => x = 0) 100 := rfl
theorem d_Dk_modify_95 : decode prog_1_method_18_code 95 = .ok (.ifCond .eq 5, 3) := by decide +kernel
set_option maxRecDepth 100000 in
theorem c_Dk_modify_98 : ct_Dk_modify 98 = ka_il 1 1 := rfl
theorem d_Dk_modify_98 : decode prog_1_method_18_code 98 = .ok (.iload_n 1, 1) := by decide +kernel
set_option maxRecDepth 100000 in
theorem c_Dk_modify_99 : ct_Dk_modify 99 = ka_ri := rfl
theorem d_Dk_modify_99 : decode prog_1_method_18_code 99 = .ok (.ireturn, 1) := by decide +kernel
set_option maxRecDepth 100000 in
theorem c_Dk_modify_100 : ct_Dk_modify 100 = ka_al 0 1 := rfl
theorem d_Dk_modify_100 : decode prog_1_method_18_code 100 = .ok (.aload_n 0, 1) := by decide +kernel
set_option maxRecDepth 100000 in
theorem c_Dk_modify_101 : ct_Dk_modify 101 = ka_get 0 7 := rfl
theorem d_Dk_modify_101 : decode prog_1_method_18_code 101 = .ok (.getfield 63, 3) := by decide +kernel
set_option maxRecDepth 100000 in
theorem c_Dk_modify_104 : ct_Dk_modify 104 = ka_al 0 1 := rfl
theorem d_Dk_modify_104 : decode prog_1_method_18_code 104 = .ok (.aload_n 0, 1) := by decide +kernel
set_option maxRecDepth 100000 in
theorem c_Dk_modify_105 : ct_Dk_modify 105 = ka_get 0 3 := rfl
theorem d_Dk_modify_105 : decode prog_1_method_18_code 105 = .ok (.getfield 33, 3) := by decide +kernel
set_option maxRecDepth 100000 in
theorem c_Dk_modify_108 : ct_Dk_modify 108 = ka_cv 71 1 6 0 0 := rfl
theorem d_Dk_modify_108 : decode prog_1_method_18_code 108 = .ok (.invokevirtual 190, 3) := by decide +kernel
set_option maxRecDepth 100000 in
theorem c_Dk_modify_111 : ct_Dk_modify 111 = ka_if (fun x => ¬ x = 0) 117 := rfl
theorem d_Dk_modify_111 : decode prog_1_method_18_code 111 = .ok (.ifCond .ne 6, 3) := by decide +kernel
set_option maxRecDepth 100000 in
theorem c_Dk_modify_114 : ct_Dk_modify 114 = ka_ci (nI 67) 2 := rfl
theorem d_Dk_modify_114 : decode prog_1_method_18_code 114 = .ok (.bipush 67, 2) := by decide +kernel
set_option maxRecDepth 100000 in
theorem c_Dk_modify_116 : ct_Dk_modify 116 = ka_ri := rfl
theorem d_Dk_modify_116 : decode prog_1_method_18_code 116 = .ok (.ireturn, 1) := by decide +kernel
set_option maxRecDepth 100000 in
theorem c_Dk_modify_117 : ct_Dk_modify 117 = ka_al 0 1 := rfl
theorem d_Dk_modify_117 : decode prog_1_method_18_code 117 = .ok (.aload_n 0, 1) := by decide +kernel
set_option maxRecDepth 100000 in
theorem c_Dk_modify_118 : ct_Dk_modify 118 = ka_get 0 7 := rfl
theorem d_Dk_modify_118 : decode prog_1_method_18_code 118 = .ok (.getfield 63, 3) := by decide +kernel
set_option maxRecDepth 100000 in
theorem c_Dk_modify_121 : ct_Dk_modify 121 = ka_get 6 2 := rfl
theorem d_Dk_modify_121 : decode prog_1_method_18_code 121 = .ok (.getfield 134, 3) := by decide +kernel
set_option maxRecDepth 100000 in
theorem c_Dk_modify_124 : ct_Dk_modify 124 = ka_ci (nI 6) 2 := rfl
theorem d_Dk_modify_124 : decode prog_1_method_18_code 124 = .ok (.bipush 6, 2) := by decide +kernel
set_option maxRecDepth 100000 in
theorem c_Dk_modify_126 : ct_Dk_modify 126 = ka_cm (fun x y => x ≤ y) 132 := rfl
theorem d_Dk_modify_126 : decode prog_1_method_18_code 126 = .ok (.if_icmp .le 6, 3) := by decide +kernel
set_option maxRecDepth 100000 in
theorem c_Dk_modify_129 : ct_Dk_modify 129 = ka_ci (nI 53) 2 := rfl
theorem d_Dk_modify_129 : decode prog_1_method_18_code 129 = .ok (.bipush 53, 2) := by decide +kernel
set_option maxRecDepth 100000 in
theorem c_Dk_modify_131 : ct_Dk_modify 131 = ka_ri := rfl
theorem d_Dk_modify_131 : decode prog_1_method_18_code 131 = .ok (.ireturn, 1) := by decide +kernel
set_option maxRecDepth 100000 in
theorem c_Dk_modify_132 : ct_Dk_modify 132 = ka_al 0 1 := rfl
theorem d_Dk_modify_132 : decode prog_1_method_18_code 132 = .ok (.aload_n 0, 1) := by decide +kernel
set_option maxRecDepth 100000 in
theorem c_Dk_modify_133 : ct_Dk_modify 133 = ka_get 0 2 := rfl
theorem d_Dk_modify_133 : decode prog_1_method_18_code 133 = .ok (.getfield 26, 3) := by decide +kernel
set_option maxRecDepth 100000 in
theorem c_Dk_modify_136 : ct_Dk_modify 136 = ka_get 3 0 := rfl
theorem d_Dk_modify_136 : decode prog_1_method_18_code 136 = .ok (.getfield 119, 3) := by decide +kernel
set_option maxRecDepth 100000 in
theorem c_Dk_modify_139 : ct_Dk_modify 139 = ka_il 2 1 := rfl
theorem d_Dk_modify_139 : decode prog_1_method_18_code 139 = .ok (.iload_n 2, 1) := by decide +kernel
set_option maxRecDepth 100000 in
theorem c_Dk_modify_140 : ct_Dk_modify 140 = ka_aald := rfl
theorem d_Dk_modify_140 : decode prog_1_method_18_code 140 = .ok (.aaload, 1) := by decide +kernel
set_option maxRecDepth 100000 in
theorem c_Dk_modify_141 : ct_Dk_modify 141 = ka_get 4 1 := rfl
theorem d_Dk_modify_141 : decode prog_1_method_18_code 141 = .ok (.getfield 131, 3) := by decide +kernel
set_option maxRecDepth 100000 in
theorem c_Dk_modify_144 : ct_Dk_modify 144 = ka_al 0 1 := rfl
theorem d_Dk_modify_144 : decode prog_1_method_18_code 144 = .ok (.aload_n 0, 1) := by decide +kernel
set_option maxRecDepth 100000 in
theorem c_Dk_modify_145 : ct_Dk_modify 145 = ka_get 0 7 := rfl
theorem d_Dk_modify_145 : decode prog_1_method_18_code 145 = .ok (.getfield 63, 3) := by decide +kernel
set_option maxRecDepth 100000 in
theorem c_Dk_modify_148 : ct_Dk_modify 148 = ka_cv 75 1 6 0 0 := rfl
theorem d_Dk_modify_148 : decode prog_1_method_18_code 148 = .ok (.invokevirtual 207, 3) := by decide +kernel
set_option maxRecDepth 100000 in
theorem c_Dk_modify_151 : ct_Dk_modify 151 = ka_ci (nI 0) 1 := rfl
theorem d_Dk_modify_151 : decode prog_1_method_18_code 151 = .ok (.iconst 0, 1) := by decide +kernel
set_option maxRecDepth 100000 in
theorem c_Dk_modify_152 : ct_Dk_modify 152 = ka_ri := rfl
theorem d_Dk_modify_152 : decode prog_1_method_18_code 152 = .ok (.ireturn, 1) := by decide +kernel
set_option maxRecDepth 100000 in
set_option maxHeartbeats 4000000 in
theorem s_Dk_modify_60 : ∀ pc, pc < 60 → kc_Sim kt kw_A kw_N kt_cl kt_En "DirectoryDesk" prog_1_method_18_code 3 (some .int) "modify" none pc (ct_Dk_modify pc) := by
  let P : Nat → Prop := fun pc => kc_Sim kt kw_A kw_N kt_cl kt_En "DirectoryDesk" prog_1_method_18_code 3 (some .int) "modify" none pc (ct_Dk_modify pc)
  exact kc_case (P := P) (kc_se rfl sm_no) (
  kc_case (P := P) (kc_se rfl sm_no) (
  kc_case (P := P) (kc_se c_Dk_modify_57 (sm_cm_ne d_Dk_modify_57 (by decide))) (
  kc_case (P := P) (kc_se c_Dk_modify_56 (sm_iconst d_Dk_modify_56 (by decide))) (
  kc_case (P := P) (kc_se c_Dk_modify_55 (sm_iload_n d_Dk_modify_55 rfl)) (
  kc_case (P := P) (kc_se c_Dk_modify_54 (sm_istore_n d_Dk_modify_54 rfl (Nat.le_of_ble_eq_true rfl))) (
  kc_case (P := P) (kc_se rfl sm_no) (
  kc_case (P := P) (kc_se rfl sm_no) (
  kc_case (P := P) (kc_se c_Dk_modify_51 (sm_cv (j := 56) rfl rfl kw_o kw_g wc_Tr_find (Nat.le_of_ble_eq_true rfl) hd_Tr_find (ci := 3) (F := kF_Tr) (N := 2) rfl (kw2 126 rfl rfl) wi_Tr_find ws_Tr_find wn_Tr_find d_Dk_modify_51)) (
  kc_case (P := P) (kc_se c_Dk_modify_50 (sm_iconst d_Dk_modify_50 (by decide))) (
  kc_case (P := P) (kc_se rfl sm_no) (
  kc_case (P := P) (kc_se rfl sm_no) (
  kc_case (P := P) (kc_se c_Dk_modify_47 (sm_get (ci := 0) (C := "DirectoryDesk") (F := kF_Dk) rfl kin_Dk (Nat.le_of_ble_eq_true rfl) d_Dk_modify_47 (kw2 3 rfl rfl))) (
  kc_case (P := P) (kc_se c_Dk_modify_46 (sm_aload_n d_Dk_modify_46 rfl)) (
  kc_case (P := P) (kc_se rfl sm_no) (
  kc_case (P := P) (kc_se rfl sm_no) (
  kc_case (P := P) (kc_se c_Dk_modify_43 (sm_get (ci := 0) (C := "DirectoryDesk") (F := kF_Dk) rfl kin_Dk (Nat.le_of_ble_eq_true rfl) d_Dk_modify_43 (kw2 2 rfl rfl))) (
  kc_case (P := P) (kc_se c_Dk_modify_42 (sm_aload_n d_Dk_modify_42 rfl)) (
  kc_case (P := P) (kc_se c_Dk_modify_41 (sm_ri d_Dk_modify_41 rfl)) (
  kc_case (P := P) (kc_se c_Dk_modify_40 (sm_iload_n d_Dk_modify_40 rfl)) (
  kc_case (P := P) (kc_se rfl sm_no) (
  kc_case (P := P) (kc_se rfl sm_no) (
  kc_case (P := P) (kc_se c_Dk_modify_37 (sm_if_eq d_Dk_modify_37 (by decide))) (
  kc_case (P := P) (kc_se c_Dk_modify_36 (sm_iload_n d_Dk_modify_36 rfl)) (
  kc_case (P := P) (kc_se c_Dk_modify_35 (sm_istore_n d_Dk_modify_35 rfl (Nat.le_of_ble_eq_true rfl))) (
  kc_case (P := P) (kc_se rfl sm_no) (
  kc_case (P := P) (kc_se rfl sm_no) (
  kc_case (P := P) (kc_se c_Dk_modify_32 (sm_cv (j := 18) rfl rfl kw_o kw_g wc_Dk_changingCode (Nat.le_of_ble_eq_true rfl) hd_Dk_changingCode (ci := 0) (F := kF_Dk) (N := 10) rfl (kw3 65 rfl rfl) wi_Dk_changingCode ws_Dk_changingCode wn_Dk_changingCode d_Dk_modify_32)) (
  kc_case (P := P) (kc_se c_Dk_modify_31 (sm_aload_n d_Dk_modify_31 rfl)) (
  kc_case (P := P) (kc_se rfl sm_no) (
  kc_case (P := P) (kc_se rfl sm_no) (
  kc_case (P := P) (kc_se c_Dk_modify_28 (sm_cv (j := 77) rfl rfl kw_o kw_g wc_Ch_readFrom (Nat.le_of_ble_eq_true rfl) hd_Ch_readFrom (ci := 7) (F := kF_Ch) (N := 6) rfl (kw3 50 rfl rfl) wi_Ch_readFrom ws_Ch_readFrom wn_Ch_readFrom d_Dk_modify_28)) (
  kc_case (P := P) (kc_se c_Dk_modify_27 (sm_iconst d_Dk_modify_27 (by decide))) (
  kc_case (P := P) (kc_se rfl sm_no) (
  kc_case (P := P) (kc_se rfl sm_no) (
  kc_case (P := P) (kc_se c_Dk_modify_24 (sm_get (ci := 0) (C := "DirectoryDesk") (F := kF_Dk) rfl kin_Dk (Nat.le_of_ble_eq_true rfl) d_Dk_modify_24 (kw2 0 rfl rfl))) (
  kc_case (P := P) (kc_se c_Dk_modify_23 (sm_aload_n d_Dk_modify_23 rfl)) (
  kc_case (P := P) (kc_se rfl sm_no) (
  kc_case (P := P) (kc_se rfl sm_no) (
  kc_case (P := P) (kc_se c_Dk_modify_20 (sm_get (ci := 0) (C := "DirectoryDesk") (F := kF_Dk) rfl kin_Dk (Nat.le_of_ble_eq_true rfl) d_Dk_modify_20 (kw2 4 rfl rfl))) (
  kc_case (P := P) (kc_se c_Dk_modify_19 (sm_aload_n d_Dk_modify_19 rfl)) (
  kc_case (P := P) (kc_se rfl sm_no) (
  kc_case (P := P) (kc_se rfl sm_no) (
  kc_case (P := P) (kc_se c_Dk_modify_16 (sm_cv (j := 63) rfl rfl kw_o kw_g wc_Nm_readFrom (Nat.le_of_ble_eq_true rfl) hd_Nm_readFrom (ci := 5) (F := kF_Nm) (N := 3) rfl (kw2 93 rfl rfl) wi_Nm_readFrom ws_Nm_readFrom wn_Nm_readFrom d_Dk_modify_16)) (
  kc_case (P := P) (kc_se rfl sm_no) (
  kc_case (P := P) (kc_se rfl sm_no) (
  kc_case (P := P) (kc_se c_Dk_modify_13 (sm_get (ci := 0) (C := "DirectoryDesk") (F := kF_Dk) rfl kin_Dk (Nat.le_of_ble_eq_true rfl) d_Dk_modify_13 (kw2 0 rfl rfl))) (
  kc_case (P := P) (kc_se c_Dk_modify_12 (sm_aload_n d_Dk_modify_12 rfl)) (
  kc_case (P := P) (kc_se rfl sm_no) (
  kc_case (P := P) (kc_se rfl sm_no) (
  kc_case (P := P) (kc_se c_Dk_modify_9 (sm_get (ci := 0) (C := "DirectoryDesk") (F := kF_Dk) rfl kin_Dk (Nat.le_of_ble_eq_true rfl) d_Dk_modify_9 (kw2 3 rfl rfl))) (
  kc_case (P := P) (kc_se c_Dk_modify_8 (sm_aload_n d_Dk_modify_8 rfl)) (
  kc_case (P := P) (kc_se rfl sm_no) (
  kc_case (P := P) (kc_se rfl sm_no) (
  kc_case (P := P) (kc_se c_Dk_modify_5 (sm_cv (j := 37) rfl rfl kw_o kw_g wc_Rd_span (Nat.le_of_ble_eq_true rfl) hd_Rd_span (ci := 1) (F := kF_Rd) (N := 8) rfl (kw2 92 rfl rfl) wi_Rd_span ws_Rd_span wn_Rd_span d_Dk_modify_5)) (
  kc_case (P := P) (kc_se c_Dk_modify_4 (sm_iconst d_Dk_modify_4 (by decide))) (
  kc_case (P := P) (kc_se rfl sm_no) (
  kc_case (P := P) (kc_se rfl sm_no) (
  kc_case (P := P) (kc_se c_Dk_modify_1 (sm_get (ci := 0) (C := "DirectoryDesk") (F := kF_Dk) rfl kin_Dk (Nat.le_of_ble_eq_true rfl) d_Dk_modify_1 (kw2 0 rfl rfl))) (
  kc_case (P := P) (kc_se c_Dk_modify_0 (sm_aload_n d_Dk_modify_0 rfl)) (
  kc_case0))))))))))))))))))))))))))))))))))))))))))))))))))))))))))))
set_option maxRecDepth 100000 in
set_option maxHeartbeats 4000000 in
theorem s_Dk_modify_120 : ∀ pc, pc < 120 → kc_Sim kt kw_A kw_N kt_cl kt_En "DirectoryDesk" prog_1_method_18_code 3 (some .int) "modify" none pc (ct_Dk_modify pc) := by
  let P : Nat → Prop := fun pc => kc_Sim kt kw_A kw_N kt_cl kt_En "DirectoryDesk" prog_1_method_18_code 3 (some .int) "modify" none pc (ct_Dk_modify pc)
  exact kc_case (P := P) (kc_se rfl sm_no) (
  kc_case (P := P) (kc_se c_Dk_modify_118 (sm_get (ci := 0) (C := "DirectoryDesk") (F := kF_Dk) rfl kin_Dk (Nat.le_of_ble_eq_true rfl) d_Dk_modify_118 (kw2 7 rfl rfl))) (
  kc_case (P := P) (kc_se c_Dk_modify_117 (sm_aload_n d_Dk_modify_117 rfl)) (
  kc_case (P := P) (kc_se c_Dk_modify_116 (sm_ri d_Dk_modify_116 rfl)) (
  kc_case (P := P) (kc_se rfl sm_no) (
  kc_case (P := P) (kc_se c_Dk_modify_114 (sm_bipush d_Dk_modify_114 (by decide))) (
  kc_case (P := P) (kc_se rfl sm_no) (
  kc_case (P := P) (kc_se rfl sm_no) (
  kc_case (P := P) (kc_se c_Dk_modify_111 (sm_if_ne d_Dk_modify_111 (by decide))) (
  kc_case (P := P) (kc_se rfl sm_no) (
  kc_case (P := P) (kc_se rfl sm_no) (
  kc_case (P := P) (kc_se c_Dk_modify_108 (sm_cv (j := 71) rfl rfl kw_o kw_g wc_Pa_hasOwnPartOf (Nat.le_of_ble_eq_true rfl) hd_Pa_hasOwnPartOf (ci := 6) (F := kF_Pa) (N := 3) rfl (kw3 97 rfl rfl) wi_Pa_hasOwnPartOf ws_Pa_hasOwnPartOf wn_Pa_hasOwnPartOf d_Dk_modify_108)) (
  kc_case (P := P) (kc_se rfl sm_no) (
  kc_case (P := P) (kc_se rfl sm_no) (
  kc_case (P := P) (kc_se c_Dk_modify_105 (sm_get (ci := 0) (C := "DirectoryDesk") (F := kF_Dk) rfl kin_Dk (Nat.le_of_ble_eq_true rfl) d_Dk_modify_105 (kw2 3 rfl rfl))) (
  kc_case (P := P) (kc_se c_Dk_modify_104 (sm_aload_n d_Dk_modify_104 rfl)) (
  kc_case (P := P) (kc_se rfl sm_no) (
  kc_case (P := P) (kc_se rfl sm_no) (
  kc_case (P := P) (kc_se c_Dk_modify_101 (sm_get (ci := 0) (C := "DirectoryDesk") (F := kF_Dk) rfl kin_Dk (Nat.le_of_ble_eq_true rfl) d_Dk_modify_101 (kw2 7 rfl rfl))) (
  kc_case (P := P) (kc_se c_Dk_modify_100 (sm_aload_n d_Dk_modify_100 rfl)) (
  kc_case (P := P) (kc_se c_Dk_modify_99 (sm_ri d_Dk_modify_99 rfl)) (
  kc_case (P := P) (kc_se c_Dk_modify_98 (sm_iload_n d_Dk_modify_98 rfl)) (
  kc_case (P := P) (kc_se rfl sm_no) (
  kc_case (P := P) (kc_se rfl sm_no) (
  kc_case (P := P) (kc_se c_Dk_modify_95 (sm_if_eq d_Dk_modify_95 (by decide))) (
  kc_case (P := P) (kc_se c_Dk_modify_94 (sm_iload_n d_Dk_modify_94 rfl)) (
  kc_case (P := P) (kc_se c_Dk_modify_93 (sm_istore_n d_Dk_modify_93 rfl (Nat.le_of_ble_eq_true rfl))) (
  kc_case (P := P) (kc_se rfl sm_no) (
  kc_case (P := P) (kc_se rfl sm_no) (
  kc_case (P := P) (kc_se c_Dk_modify_90 (sm_cv (j := 79) rfl rfl kw_o kw_g wc_Ch_applyTo (Nat.le_of_ble_eq_true rfl) hd_Ch_applyTo (ci := 7) (F := kF_Ch) (N := 6) rfl (kw3 77 rfl rfl) wi_Ch_applyTo ws_Ch_applyTo wn_Ch_applyTo d_Dk_modify_90)) (
  kc_case (P := P) (kc_se rfl sm_no) (
  kc_case (P := P) (kc_se rfl sm_no) (
  kc_case (P := P) (kc_se c_Dk_modify_87 (sm_get (ci := 0) (C := "DirectoryDesk") (F := kF_Dk) rfl kin_Dk (Nat.le_of_ble_eq_true rfl) d_Dk_modify_87 (kw2 7 rfl rfl))) (
  kc_case (P := P) (kc_se c_Dk_modify_86 (sm_aload_n d_Dk_modify_86 rfl)) (
  kc_case (P := P) (kc_se rfl sm_no) (
  kc_case (P := P) (kc_se rfl sm_no) (
  kc_case (P := P) (kc_se c_Dk_modify_83 (sm_get (ci := 0) (C := "DirectoryDesk") (F := kF_Dk) rfl kin_Dk (Nat.le_of_ble_eq_true rfl) d_Dk_modify_83 (kw2 4 rfl rfl))) (
  kc_case (P := P) (kc_se c_Dk_modify_82 (sm_aload_n d_Dk_modify_82 rfl)) (
  kc_case (P := P) (kc_se rfl sm_no) (
  kc_case (P := P) (kc_se rfl sm_no) (
  kc_case (P := P) (kc_se c_Dk_modify_79 (sm_cv (j := 75) rfl rfl kw_o kw_g wc_Pa_copyFrom (Nat.le_of_ble_eq_true rfl) hd_Pa_copyFrom (ci := 6) (F := kF_Pa) (N := 3) rfl (kw3 69 rfl rfl) wi_Pa_copyFrom ws_Pa_copyFrom wn_Pa_copyFrom d_Dk_modify_79)) (
  kc_case (P := P) (kc_se rfl sm_no) (
  kc_case (P := P) (kc_se rfl sm_no) (
  kc_case (P := P) (kc_se c_Dk_modify_76 (sm_get (ci := 4) (C := "DirectoryDesk$Entry") (F := kF_En) rfl kin_En (Nat.le_of_ble_eq_true rfl) d_Dk_modify_76 (kw1 140 rfl rfl))) (
  kc_case (P := P) (kc_se c_Dk_modify_75 (sm_aald d_Dk_modify_75)) (
  kc_case (P := P) (kc_se c_Dk_modify_74 (sm_iload_n d_Dk_modify_74 rfl)) (
  kc_case (P := P) (kc_se rfl sm_no) (
  kc_case (P := P) (kc_se rfl sm_no) (
  kc_case (P := P) (kc_se c_Dk_modify_71 (sm_get (ci := 3) (C := "DirectoryDesk$Tree") (F := kF_Tr) rfl kin_Tr (Nat.le_of_ble_eq_true rfl) d_Dk_modify_71 (kw1 161 rfl rfl))) (
  kc_case (P := P) (kc_se rfl sm_no) (
  kc_case (P := P) (kc_se rfl sm_no) (
  kc_case (P := P) (kc_se c_Dk_modify_68 (sm_get (ci := 0) (C := "DirectoryDesk") (F := kF_Dk) rfl kin_Dk (Nat.le_of_ble_eq_true rfl) d_Dk_modify_68 (kw2 2 rfl rfl))) (
  kc_case (P := P) (kc_se c_Dk_modify_67 (sm_aload_n d_Dk_modify_67 rfl)) (
  kc_case (P := P) (kc_se rfl sm_no) (
  kc_case (P := P) (kc_se rfl sm_no) (
  kc_case (P := P) (kc_se c_Dk_modify_64 (sm_get (ci := 0) (C := "DirectoryDesk") (F := kF_Dk) rfl kin_Dk (Nat.le_of_ble_eq_true rfl) d_Dk_modify_64 (kw2 7 rfl rfl))) (
  kc_case (P := P) (kc_se c_Dk_modify_63 (sm_aload_n d_Dk_modify_63 rfl)) (
  kc_case (P := P) (kc_se c_Dk_modify_62 (sm_ri d_Dk_modify_62 rfl)) (
  kc_case (P := P) (kc_se rfl sm_no) (
  kc_case (P := P) (kc_se c_Dk_modify_60 (sm_bipush d_Dk_modify_60 (by decide))) (
  s_Dk_modify_60))))))))))))))))))))))))))))))))))))))))))))))))))))))))))))
set_option maxRecDepth 100000 in
set_option maxHeartbeats 4000000 in
theorem s_Dk_modify_153 : ∀ pc, pc < 153 → kc_Sim kt kw_A kw_N kt_cl kt_En "DirectoryDesk" prog_1_method_18_code 3 (some .int) "modify" none pc (ct_Dk_modify pc) := by
  let P : Nat → Prop := fun pc => kc_Sim kt kw_A kw_N kt_cl kt_En "DirectoryDesk" prog_1_method_18_code 3 (some .int) "modify" none pc (ct_Dk_modify pc)
  exact kc_case (P := P) (kc_se c_Dk_modify_152 (sm_ri d_Dk_modify_152 rfl)) (
  kc_case (P := P) (kc_se c_Dk_modify_151 (sm_iconst d_Dk_modify_151 (by decide))) (
  kc_case (P := P) (kc_se rfl sm_no) (
  kc_case (P := P) (kc_se rfl sm_no) (
  kc_case (P := P) (kc_se c_Dk_modify_148 (sm_cv (j := 75) rfl rfl kw_o kw_g wc_Pa_copyFrom (Nat.le_of_ble_eq_true rfl) hd_Pa_copyFrom (ci := 6) (F := kF_Pa) (N := 3) rfl (kw3 69 rfl rfl) wi_Pa_copyFrom ws_Pa_copyFrom wn_Pa_copyFrom d_Dk_modify_148)) (
  kc_case (P := P) (kc_se rfl sm_no) (
  kc_case (P := P) (kc_se rfl sm_no) (
  kc_case (P := P) (kc_se c_Dk_modify_145 (sm_get (ci := 0) (C := "DirectoryDesk") (F := kF_Dk) rfl kin_Dk (Nat.le_of_ble_eq_true rfl) d_Dk_modify_145 (kw2 7 rfl rfl))) (
  kc_case (P := P) (kc_se c_Dk_modify_144 (sm_aload_n d_Dk_modify_144 rfl)) (
  kc_case (P := P) (kc_se rfl sm_no) (
  kc_case (P := P) (kc_se rfl sm_no) (
  kc_case (P := P) (kc_se c_Dk_modify_141 (sm_get (ci := 4) (C := "DirectoryDesk$Entry") (F := kF_En) rfl kin_En (Nat.le_of_ble_eq_true rfl) d_Dk_modify_141 (kw1 140 rfl rfl))) (
  kc_case (P := P) (kc_se c_Dk_modify_140 (sm_aald d_Dk_modify_140)) (
  kc_case (P := P) (kc_se c_Dk_modify_139 (sm_iload_n d_Dk_modify_139 rfl)) (
  kc_case (P := P) (kc_se rfl sm_no) (
  kc_case (P := P) (kc_se rfl sm_no) (
  kc_case (P := P) (kc_se c_Dk_modify_136 (sm_get (ci := 3) (C := "DirectoryDesk$Tree") (F := kF_Tr) rfl kin_Tr (Nat.le_of_ble_eq_true rfl) d_Dk_modify_136 (kw1 161 rfl rfl))) (
  kc_case (P := P) (kc_se rfl sm_no) (
  kc_case (P := P) (kc_se rfl sm_no) (
  kc_case (P := P) (kc_se c_Dk_modify_133 (sm_get (ci := 0) (C := "DirectoryDesk") (F := kF_Dk) rfl kin_Dk (Nat.le_of_ble_eq_true rfl) d_Dk_modify_133 (kw2 2 rfl rfl))) (
  kc_case (P := P) (kc_se c_Dk_modify_132 (sm_aload_n d_Dk_modify_132 rfl)) (
  kc_case (P := P) (kc_se c_Dk_modify_131 (sm_ri d_Dk_modify_131 rfl)) (
  kc_case (P := P) (kc_se rfl sm_no) (
  kc_case (P := P) (kc_se c_Dk_modify_129 (sm_bipush d_Dk_modify_129 (by decide))) (
  kc_case (P := P) (kc_se rfl sm_no) (
  kc_case (P := P) (kc_se rfl sm_no) (
  kc_case (P := P) (kc_se c_Dk_modify_126 (sm_cm_le d_Dk_modify_126 (by decide))) (
  kc_case (P := P) (kc_se rfl sm_no) (
  kc_case (P := P) (kc_se c_Dk_modify_124 (sm_bipush d_Dk_modify_124 (by decide))) (
  kc_case (P := P) (kc_se rfl sm_no) (
  kc_case (P := P) (kc_se rfl sm_no) (
  kc_case (P := P) (kc_se c_Dk_modify_121 (sm_get (ci := 6) (C := "DirectoryDesk$Pairs") (F := kF_Pa) rfl kin_Pa (Nat.le_of_ble_eq_true rfl) d_Dk_modify_121 (kw1 127 rfl rfl))) (
  kc_case (P := P) (kc_se rfl sm_no) (
  s_Dk_modify_120)))))))))))))))))))))))))))))))))
theorem ka_nth_no_Dk_modify (pc : Nat) (h : 153 ≤ pc) : ct_Dk_modify pc = ka_no := ka_nth_ge _ pc (Nat.le_trans (Nat.le_of_eq (by rfl)) h)
theorem s_Dk_modify (pc : Nat) : kc_Sim kt kw_A kw_N kt_cl kt_En "DirectoryDesk" prog_1_method_18_code 3 (some .int) "modify" none pc (ct_Dk_modify pc) := (Nat.lt_or_ge pc 153).elim (s_Dk_modify_153 pc) (fun h => kc_se (ka_nth_no_Dk_modify pc h) sm_no)
def cl_Dk_changingCode_0 : List kc_A := [ka_al 0 1, ka_get 0 0, ka_no, ka_no, ka_cv 31 0 1 0 0, ka_no, ka_no, ka_if (fun x => ¬ x = 0) 12, ka_no, ka_no, ka_ci (nI 2) 1, ka_ri, ka_al 0 1, ka_get 0 9, ka_no, ka_no, ka_if (fun x => ¬ x = 0) 22, ka_no, ka_no, ka_ci (nI 50) 2, ka_no, ka_ri, ka_al 0 1, ka_get 0 3, ka_no, ka_no, ka_get 5 2, ka_no, ka_no, ka_ci (nI 1) 1, ka_cm (fun x y => y ≤ x) 38, ka_no, ka_no, ka_ci (nI 34) 2, ka_no, ka_goto 39, ka_no, ka_no, ka_ci (nI 0) 1, ka_ri]
def ct_Dk_changingCode : Nat → kc_A := fun pc => ka_nth (cl_Dk_changingCode_0) pc
set_option maxRecDepth 100000 in
theorem c_Dk_changingCode_0 : ct_Dk_changingCode 0 = ka_al 0 1 := rfl
theorem d_Dk_changingCode_0 : decode prog_1_method_19_code 0 = .ok (.aload_n 0, 1) := by decide +kernel
set_option maxRecDepth 100000 in
theorem c_Dk_changingCode_1 : ct_Dk_changingCode 1 = ka_get 0 0 := rfl
theorem d_Dk_changingCode_1 : decode prog_1_method_19_code 1 = .ok (.getfield 10, 3) := by decide +kernel
set_option maxRecDepth 100000 in
theorem c_Dk_changingCode_4 : ct_Dk_changingCode 4 = ka_cv 31 0 1 0 0 := rfl
theorem d_Dk_changingCode_4 : decode prog_1_method_19_code 4 = .ok (.invokevirtual 156, 3) := by decide +kernel
set_option maxRecDepth 100000 in
theorem c_Dk_changingCode_7 : ct_Dk_changingCode 7 = ka_if (fun x => ¬ x = 0) 12 := rfl
theorem d_Dk_changingCode_7 : decode prog_1_method_19_code 7 = .ok (.ifCond .ne 5, 3) := by decide +kernel
set_option maxRecDepth 100000 in
theorem c_Dk_changingCode_10 : ct_Dk_changingCode 10 = ka_ci (nI 2) 1 := rfl
theorem d_Dk_changingCode_10 : decode prog_1_method_19_code 10 = .ok (.iconst 2, 1) := by decide +kernel
set_option maxRecDepth 100000 in
theorem c_Dk_changingCode_11 : ct_Dk_changingCode 11 = ka_ri := rfl
theorem d_Dk_changingCode_11 : decode prog_1_method_19_code 11 = .ok (.ireturn, 1) := by decide +kernel
set_option maxRecDepth 100000 in
theorem c_Dk_changingCode_12 : ct_Dk_changingCode 12 = ka_al 0 1 := rfl
theorem d_Dk_changingCode_12 : decode prog_1_method_19_code 12 = .ok (.aload_n 0, 1) := by decide +kernel
set_option maxRecDepth 100000 in
theorem c_Dk_changingCode_13 : ct_Dk_changingCode 13 = ka_get 0 9 := rfl
theorem d_Dk_changingCode_13 : decode prog_1_method_19_code 13 = .ok (.getfield 71, 3) := by decide +kernel
set_option maxRecDepth 100000 in
theorem c_Dk_changingCode_16 : ct_Dk_changingCode 16 = ka_if (fun x => ¬ x = 0) 22 := rfl
theorem d_Dk_changingCode_16 : decode prog_1_method_19_code 16 = .ok (.ifCond .ne 6, 3) := by decide +kernel
set_option maxRecDepth 100000 in
theorem c_Dk_changingCode_19 : ct_Dk_changingCode 19 = ka_ci (nI 50) 2 := rfl
theorem d_Dk_changingCode_19 : decode prog_1_method_19_code 19 = .ok (.bipush 50, 2) := by decide +kernel
set_option maxRecDepth 100000 in
theorem c_Dk_changingCode_21 : ct_Dk_changingCode 21 = ka_ri := rfl
theorem d_Dk_changingCode_21 : decode prog_1_method_19_code 21 = .ok (.ireturn, 1) := by decide +kernel
set_option maxRecDepth 100000 in
theorem c_Dk_changingCode_22 : ct_Dk_changingCode 22 = ka_al 0 1 := rfl
theorem d_Dk_changingCode_22 : decode prog_1_method_19_code 22 = .ok (.aload_n 0, 1) := by decide +kernel
set_option maxRecDepth 100000 in
theorem c_Dk_changingCode_23 : ct_Dk_changingCode 23 = ka_get 0 3 := rfl
theorem d_Dk_changingCode_23 : decode prog_1_method_19_code 23 = .ok (.getfield 33, 3) := by decide +kernel
set_option maxRecDepth 100000 in
theorem c_Dk_changingCode_26 : ct_Dk_changingCode 26 = ka_get 5 2 := rfl
theorem d_Dk_changingCode_26 : decode prog_1_method_19_code 26 = .ok (.getfield 128, 3) := by decide +kernel
set_option maxRecDepth 100000 in
theorem c_Dk_changingCode_29 : ct_Dk_changingCode 29 = ka_ci (nI 1) 1 := rfl
theorem d_Dk_changingCode_29 : decode prog_1_method_19_code 29 = .ok (.iconst 1, 1) := by decide +kernel
set_option maxRecDepth 100000 in
theorem c_Dk_changingCode_30 : ct_Dk_changingCode 30 = ka_cm (fun x y => y ≤ x) 38 := rfl
theorem d_Dk_changingCode_30 : decode prog_1_method_19_code 30 = .ok (.if_icmp .ge 8, 3) := by decide +kernel
set_option maxRecDepth 100000 in
theorem c_Dk_changingCode_33 : ct_Dk_changingCode 33 = ka_ci (nI 34) 2 := rfl
theorem d_Dk_changingCode_33 : decode prog_1_method_19_code 33 = .ok (.bipush 34, 2) := by decide +kernel
set_option maxRecDepth 100000 in
theorem c_Dk_changingCode_35 : ct_Dk_changingCode 35 = ka_goto 39 := rfl
theorem d_Dk_changingCode_35 : decode prog_1_method_19_code 35 = .ok (.goto 4, 3) := by decide +kernel
set_option maxRecDepth 100000 in
theorem c_Dk_changingCode_38 : ct_Dk_changingCode 38 = ka_ci (nI 0) 1 := rfl
theorem d_Dk_changingCode_38 : decode prog_1_method_19_code 38 = .ok (.iconst 0, 1) := by decide +kernel
set_option maxRecDepth 100000 in
theorem c_Dk_changingCode_39 : ct_Dk_changingCode 39 = ka_ri := rfl
theorem d_Dk_changingCode_39 : decode prog_1_method_19_code 39 = .ok (.ireturn, 1) := by decide +kernel
set_option maxRecDepth 100000 in
set_option maxHeartbeats 4000000 in
theorem s_Dk_changingCode_40 : ∀ pc, pc < 40 → kc_Sim kt kw_A kw_N kt_cl kt_En "DirectoryDesk" prog_1_method_19_code 1 (some .int) "changingCode" none pc (ct_Dk_changingCode pc) := by
  let P : Nat → Prop := fun pc => kc_Sim kt kw_A kw_N kt_cl kt_En "DirectoryDesk" prog_1_method_19_code 1 (some .int) "changingCode" none pc (ct_Dk_changingCode pc)
  exact kc_case (P := P) (kc_se c_Dk_changingCode_39 (sm_ri d_Dk_changingCode_39 rfl)) (
  kc_case (P := P) (kc_se c_Dk_changingCode_38 (sm_iconst d_Dk_changingCode_38 (by decide))) (
  kc_case (P := P) (kc_se rfl sm_no) (
  kc_case (P := P) (kc_se rfl sm_no) (
  kc_case (P := P) (kc_se c_Dk_changingCode_35 (sm_goto d_Dk_changingCode_35 (by decide))) (
  kc_case (P := P) (kc_se rfl sm_no) (
  kc_case (P := P) (kc_se c_Dk_changingCode_33 (sm_bipush d_Dk_changingCode_33 (by decide))) (
  kc_case (P := P) (kc_se rfl sm_no) (
  kc_case (P := P) (kc_se rfl sm_no) (
  kc_case (P := P) (kc_se c_Dk_changingCode_30 (sm_cm_ge d_Dk_changingCode_30 (by decide))) (
  kc_case (P := P) (kc_se c_Dk_changingCode_29 (sm_iconst d_Dk_changingCode_29 (by decide))) (
  kc_case (P := P) (kc_se rfl sm_no) (
  kc_case (P := P) (kc_se rfl sm_no) (
  kc_case (P := P) (kc_se c_Dk_changingCode_26 (sm_get (ci := 5) (C := "DirectoryDesk$Name") (F := kF_Nm) rfl kin_Nm (Nat.le_of_ble_eq_true rfl) d_Dk_changingCode_26 (kw1 106 rfl rfl))) (
  kc_case (P := P) (kc_se rfl sm_no) (
  kc_case (P := P) (kc_se rfl sm_no) (
  kc_case (P := P) (kc_se c_Dk_changingCode_23 (sm_get (ci := 0) (C := "DirectoryDesk") (F := kF_Dk) rfl kin_Dk (Nat.le_of_ble_eq_true rfl) d_Dk_changingCode_23 (kw2 3 rfl rfl))) (
  kc_case (P := P) (kc_se c_Dk_changingCode_22 (sm_aload_n d_Dk_changingCode_22 rfl)) (
  kc_case (P := P) (kc_se c_Dk_changingCode_21 (sm_ri d_Dk_changingCode_21 rfl)) (
  kc_case (P := P) (kc_se rfl sm_no) (
  kc_case (P := P) (kc_se c_Dk_changingCode_19 (sm_bipush d_Dk_changingCode_19 (by decide))) (
  kc_case (P := P) (kc_se rfl sm_no) (
  kc_case (P := P) (kc_se rfl sm_no) (
  kc_case (P := P) (kc_se c_Dk_changingCode_16 (sm_if_ne d_Dk_changingCode_16 (by decide))) (
  kc_case (P := P) (kc_se rfl sm_no) (
  kc_case (P := P) (kc_se rfl sm_no) (
  kc_case (P := P) (kc_se c_Dk_changingCode_13 (sm_get (ci := 0) (C := "DirectoryDesk") (F := kF_Dk) rfl kin_Dk (Nat.le_of_ble_eq_true rfl) d_Dk_changingCode_13 (kw2 9 rfl rfl))) (
  kc_case (P := P) (kc_se c_Dk_changingCode_12 (sm_aload_n d_Dk_changingCode_12 rfl)) (
  kc_case (P := P) (kc_se c_Dk_changingCode_11 (sm_ri d_Dk_changingCode_11 rfl)) (
  kc_case (P := P) (kc_se c_Dk_changingCode_10 (sm_iconst d_Dk_changingCode_10 (by decide))) (
  kc_case (P := P) (kc_se rfl sm_no) (
  kc_case (P := P) (kc_se rfl sm_no) (
  kc_case (P := P) (kc_se c_Dk_changingCode_7 (sm_if_ne d_Dk_changingCode_7 (by decide))) (
  kc_case (P := P) (kc_se rfl sm_no) (
  kc_case (P := P) (kc_se rfl sm_no) (
  kc_case (P := P) (kc_se c_Dk_changingCode_4 (sm_cv (j := 31) rfl rfl kw_o kw_g wc_Rd_isReadWell (Nat.le_of_ble_eq_true rfl) hd_Rd_isReadWell (ci := 1) (F := kF_Rd) (N := 8) rfl (kw2 118 rfl rfl) wi_Rd_isReadWell ws_Rd_isReadWell wn_Rd_isReadWell d_Dk_changingCode_4)) (
  kc_case (P := P) (kc_se rfl sm_no) (
  kc_case (P := P) (kc_se rfl sm_no) (
  kc_case (P := P) (kc_se c_Dk_changingCode_1 (sm_get (ci := 0) (C := "DirectoryDesk") (F := kF_Dk) rfl kin_Dk (Nat.le_of_ble_eq_true rfl) d_Dk_changingCode_1 (kw2 0 rfl rfl))) (
  kc_case (P := P) (kc_se c_Dk_changingCode_0 (sm_aload_n d_Dk_changingCode_0 rfl)) (
  kc_case0))))))))))))))))))))))))))))))))))))))))
theorem ka_nth_no_Dk_changingCode (pc : Nat) (h : 40 ≤ pc) : ct_Dk_changingCode pc = ka_no := ka_nth_ge _ pc (Nat.le_trans (Nat.le_of_eq (by rfl)) h)
theorem s_Dk_changingCode (pc : Nat) : kc_Sim kt kw_A kw_N kt_cl kt_En "DirectoryDesk" prog_1_method_19_code 1 (some .int) "changingCode" none pc (ct_Dk_changingCode pc) := (Nat.lt_or_ge pc 40).elim (s_Dk_changingCode_40 pc) (fun h => kc_se (ka_nth_no_Dk_changingCode pc h) sm_no)
def cl_Dk_search_0 : List kc_A := [ka_al 0 1, ka_get 0 0, ka_no, ka_no, ka_ci (nI 4) 1, ka_cv 37 1 1 0 0, ka_no, ka_no, ka_al 0 1, ka_get 0 3, ka_no, ka_no, ka_al 0 1, ka_get 0 0, ka_no, ka_no, ka_cv 63 1 5 0 0, ka_no, ka_no, ka_al 0 1, ka_get 0 5, ka_no, ka_no, ka_al 0 1, ka_get 0 0, ka_no, ka_no, ka_cv 82 1 8 0 0, ka_no, ka_no, ka_al 0 1, ka_get 0 6, ka_no, ka_no, ka_al 0 1, ka_get 0 0, ka_no, ka_no, ka_cv 88 1 9 0 0, ka_no, ka_no, ka_al 0 1, ka_get 0 5, ka_no, ka_no, ka_al 0 1, ka_get 0 0, ka_no, ka_no, ka_cv 83 1 8 0 0, ka_no, ka_no, ka_al 0 1, ka_get 0 0, ka_no, ka_no, ka_cv 31 0 1 0 0, ka_no, ka_no, ka_if (fun x => ¬ x = 0) 64]
def cl_Dk_search_1 : List kc_A := [ka_no, ka_no, ka_ci (nI 2) 1, ka_ri, ka_al 0 1, ka_get 0 3, ka_no, ka_no, ka_get 5 2, ka_no, ka_no, ka_ci (-1) 1, ka_cm (fun x y => ¬ x = y) 78, ka_no, ka_no, ka_ci (nI 34) 2, ka_no, ka_ri, ka_al 0 1, ka_get 0 3, ka_no, ka_no, ka_get 5 2, ka_no, ka_no, ka_if (fun x => x ≤ 0) 107, ka_no, ka_no, ka_al 0 1, ka_get 0 2, ka_no, ka_no, ka_al 0 1, ka_get 0 3, ka_no, ka_no, ka_ci (nI 0) 1, ka_cv 56 2 3 0 0, ka_no, ka_no, ka_ci (-1) 1, ka_cm (fun x y => ¬ x = y) 107, ka_no, ka_no, ka_ci (nI 32) 2, ka_no, ka_ri, ka_al 0 1, ka_cv 20 0 0 0 0, ka_no, ka_no, ka_ri]
def ct_Dk_search : Nat → kc_A := fun pc => ka_nth (cl_Dk_search_0 ++ (cl_Dk_search_1)) pc
set_option maxRecDepth 100000 in
theorem c_Dk_search_0 : ct_Dk_search 0 = ka_al 0 1 := rfl
theorem d_Dk_search_0 : decode prog_1_method_20_code 0 = .ok (.aload_n 0, 1) := by decide +kernel
set_option maxRecDepth 100000 in
theorem c_Dk_search_1 : ct_Dk_search 1 = ka_get 0 0 := rfl
theorem d_Dk_search_1 : decode prog_1_method_20_code 1 = .ok (.getfield 10, 3) := by decide +kernel
set_option maxRecDepth 100000 in
theorem c_Dk_search_4 : ct_Dk_search 4 = ka_ci (nI 4) 1 := rfl
theorem d_Dk_search_4 : decode prog_1_method_20_code 4 = .ok (.iconst 4, 1) := by decide +kernel
set_option maxRecDepth 100000 in
theorem c_Dk_search_5 : ct_Dk_search 5 = ka_cv 37 1 1 0 0 := rfl
theorem d_Dk_search_5 : decode prog_1_method_20_code 5 = .ok (.invokevirtual 149, 3) := by decide +kernel
set_option maxRecDepth 100000 in
theorem c_Dk_search_8 : ct_Dk_search 8 = ka_al 0 1 := rfl
theorem d_Dk_search_8 : decode prog_1_method_20_code 8 = .ok (.aload_n 0, 1) := by decide +kernel
set_option maxRecDepth 100000 in
theorem c_Dk_search_9 : ct_Dk_search 9 = ka_get 0 3 := rfl
theorem d_Dk_search_9 : decode prog_1_method_20_code 9 = .ok (.getfield 33, 3) := by decide +kernel
set_option maxRecDepth 100000 in
theorem c_Dk_search_12 : ct_Dk_search 12 = ka_al 0 1 := rfl
theorem d_Dk_search_12 : decode prog_1_method_20_code 12 = .ok (.aload_n 0, 1) := by decide +kernel
set_option maxRecDepth 100000 in
theorem c_Dk_search_13 : ct_Dk_search 13 = ka_get 0 0 := rfl
theorem d_Dk_search_13 : decode prog_1_method_20_code 13 = .ok (.getfield 10, 3) := by decide +kernel
set_option maxRecDepth 100000 in
theorem c_Dk_search_16 : ct_Dk_search 16 = ka_cv 63 1 5 0 0 := rfl
theorem d_Dk_search_16 : decode prog_1_method_20_code 16 = .ok (.invokevirtual 152, 3) := by decide +kernel
set_option maxRecDepth 100000 in
theorem c_Dk_search_19 : ct_Dk_search 19 = ka_al 0 1 := rfl
theorem d_Dk_search_19 : decode prog_1_method_20_code 19 = .ok (.aload_n 0, 1) := by decide +kernel
set_option maxRecDepth 100000 in
theorem c_Dk_search_20 : ct_Dk_search 20 = ka_get 0 5 := rfl
theorem d_Dk_search_20 : decode prog_1_method_20_code 20 = .ok (.getfield 47, 3) := by decide +kernel
set_option maxRecDepth 100000 in
theorem c_Dk_search_23 : ct_Dk_search 23 = ka_al 0 1 := rfl
theorem d_Dk_search_23 : decode prog_1_method_20_code 23 = .ok (.aload_n 0, 1) := by decide +kernel
set_option maxRecDepth 100000 in
theorem c_Dk_search_24 : ct_Dk_search 24 = ka_get 0 0 := rfl
theorem d_Dk_search_24 : decode prog_1_method_20_code 24 = .ok (.getfield 10, 3) := by decide +kernel
set_option maxRecDepth 100000 in
theorem c_Dk_search_27 : ct_Dk_search 27 = ka_cv 82 1 8 0 0 := rfl
theorem d_Dk_search_27 : decode prog_1_method_20_code 27 = .ok (.invokevirtual 211, 3) := by decide +kernel
set_option maxRecDepth 100000 in
theorem c_Dk_search_30 : ct_Dk_search 30 = ka_al 0 1 := rfl
theorem d_Dk_search_30 : decode prog_1_method_20_code 30 = .ok (.aload_n 0, 1) := by decide +kernel
set_option maxRecDepth 100000 in
theorem c_Dk_search_31 : ct_Dk_search 31 = ka_get 0 6 := rfl
theorem d_Dk_search_31 : decode prog_1_method_20_code 31 = .ok (.getfield 54, 3) := by decide +kernel
set_option maxRecDepth 100000 in
theorem c_Dk_search_34 : ct_Dk_search 34 = ka_al 0 1 := rfl
theorem d_Dk_search_34 : decode prog_1_method_20_code 34 = .ok (.aload_n 0, 1) := by decide +kernel
set_option maxRecDepth 100000 in
theorem c_Dk_search_35 : ct_Dk_search 35 = ka_get 0 0 := rfl
theorem d_Dk_search_35 : decode prog_1_method_20_code 35 = .ok (.getfield 10, 3) := by decide +kernel
set_option maxRecDepth 100000 in
theorem c_Dk_search_38 : ct_Dk_search 38 = ka_cv 88 1 9 0 0 := rfl
theorem d_Dk_search_38 : decode prog_1_method_20_code 38 = .ok (.invokevirtual 212, 3) := by decide +kernel
set_option maxRecDepth 100000 in
theorem c_Dk_search_41 : ct_Dk_search 41 = ka_al 0 1 := rfl
theorem d_Dk_search_41 : decode prog_1_method_20_code 41 = .ok (.aload_n 0, 1) := by decide +kernel
set_option maxRecDepth 100000 in
theorem c_Dk_search_42 : ct_Dk_search 42 = ka_get 0 5 := rfl
theorem d_Dk_search_42 : decode prog_1_method_20_code 42 = .ok (.getfield 47, 3) := by decide +kernel
set_option maxRecDepth 100000 in
theorem c_Dk_search_45 : ct_Dk_search 45 = ka_al 0 1 := rfl
theorem d_Dk_search_45 : decode prog_1_method_20_code 45 = .ok (.aload_n 0, 1) := by decide +kernel
set_option maxRecDepth 100000 in
theorem c_Dk_search_46 : ct_Dk_search 46 = ka_get 0 0 := rfl
theorem d_Dk_search_46 : decode prog_1_method_20_code 46 = .ok (.getfield 10, 3) := by decide +kernel
set_option maxRecDepth 100000 in
theorem c_Dk_search_49 : ct_Dk_search 49 = ka_cv 83 1 8 0 0 := rfl
theorem d_Dk_search_49 : decode prog_1_method_20_code 49 = .ok (.invokevirtual 213, 3) := by decide +kernel
set_option maxRecDepth 100000 in
theorem c_Dk_search_52 : ct_Dk_search 52 = ka_al 0 1 := rfl
theorem d_Dk_search_52 : decode prog_1_method_20_code 52 = .ok (.aload_n 0, 1) := by decide +kernel
set_option maxRecDepth 100000 in
theorem c_Dk_search_53 : ct_Dk_search 53 = ka_get 0 0 := rfl
theorem d_Dk_search_53 : decode prog_1_method_20_code 53 = .ok (.getfield 10, 3) := by decide +kernel
set_option maxRecDepth 100000 in
theorem c_Dk_search_56 : ct_Dk_search 56 = ka_cv 31 0 1 0 0 := rfl
theorem d_Dk_search_56 : decode prog_1_method_20_code 56 = .ok (.invokevirtual 156, 3) := by decide +kernel
set_option maxRecDepth 100000 in
theorem c_Dk_search_59 : ct_Dk_search 59 = ka_if (fun x => ¬ x = 0) 64 := rfl
theorem d_Dk_search_59 : decode prog_1_method_20_code 59 = .ok (.ifCond .ne 5, 3) := by decide +kernel
set_option maxRecDepth 100000 in
theorem c_Dk_search_62 : ct_Dk_search 62 = ka_ci (nI 2) 1 := rfl
theorem d_Dk_search_62 : decode prog_1_method_20_code 62 = .ok (.iconst 2, 1) := by decide +kernel
set_option maxRecDepth 100000 in
theorem c_Dk_search_63 : ct_Dk_search 63 = ka_ri := rfl
theorem d_Dk_search_63 : decode prog_1_method_20_code 63 = .ok (.ireturn, 1) := by decide +kernel
set_option maxRecDepth 100000 in
theorem c_Dk_search_64 : ct_Dk_search 64 = ka_al 0 1 := rfl
theorem d_Dk_search_64 : decode prog_1_method_20_code 64 = .ok (.aload_n 0, 1) := by decide +kernel
set_option maxRecDepth 100000 in
theorem c_Dk_search_65 : ct_Dk_search 65 = ka_get 0 3 := rfl
theorem d_Dk_search_65 : decode prog_1_method_20_code 65 = .ok (.getfield 33, 3) := by decide +kernel
set_option maxRecDepth 100000 in
theorem c_Dk_search_68 : ct_Dk_search 68 = ka_get 5 2 := rfl
theorem d_Dk_search_68 : decode prog_1_method_20_code 68 = .ok (.getfield 128, 3) := by decide +kernel
set_option maxRecDepth 100000 in
theorem c_Dk_search_71 : ct_Dk_search 71 = ka_ci (-1) 1 := rfl
theorem d_Dk_search_71 : decode prog_1_method_20_code 71 = .ok (.iconst (-1), 1) := by decide +kernel
set_option maxRecDepth 100000 in
theorem c_Dk_search_72 : ct_Dk_search 72 = ka_cm (fun x y => ¬ x = y) 78 := rfl
theorem d_Dk_search_72 : decode prog_1_method_20_code 72 = .ok (.if_icmp .ne 6, 3) := by decide +kernel
set_option maxRecDepth 100000 in
theorem c_Dk_search_75 : ct_Dk_search 75 = ka_ci (nI 34) 2 := rfl
theorem d_Dk_search_75 : decode prog_1_method_20_code 75 = .ok (.bipush 34, 2) := by decide +kernel
set_option maxRecDepth 100000 in
theorem c_Dk_search_77 : ct_Dk_search 77 = ka_ri := rfl
theorem d_Dk_search_77 : decode prog_1_method_20_code 77 = .ok (.ireturn, 1) := by decide +kernel
set_option maxRecDepth 100000 in
theorem c_Dk_search_78 : ct_Dk_search 78 = ka_al 0 1 := rfl
theorem d_Dk_search_78 : decode prog_1_method_20_code 78 = .ok (.aload_n 0, 1) := by decide +kernel
set_option maxRecDepth 100000 in
theorem c_Dk_search_79 : ct_Dk_search 79 = ka_get 0 3 := rfl
theorem d_Dk_search_79 : decode prog_1_method_20_code 79 = .ok (.getfield 33, 3) := by decide +kernel
set_option maxRecDepth 100000 in
theorem c_Dk_search_82 : ct_Dk_search 82 = ka_get 5 2 := rfl
theorem d_Dk_search_82 : decode prog_1_method_20_code 82 = .ok (.getfield 128, 3) := by decide +kernel
set_option maxRecDepth 100000 in
theorem c_Dk_search_85 : ct_Dk_search 85 = ka_if (fun x => x ≤ 0) 107 := rfl
theorem d_Dk_search_85 : decode prog_1_method_20_code 85 = .ok (.ifCond .le 22, 3) := by decide +kernel
set_option maxRecDepth 100000 in
theorem c_Dk_search_88 : ct_Dk_search 88 = ka_al 0 1 := rfl
theorem d_Dk_search_88 : decode prog_1_method_20_code 88 = .ok (.aload_n 0, 1) := by decide +kernel
set_option maxRecDepth 100000 in
theorem c_Dk_search_89 : ct_Dk_search 89 = ka_get 0 2 := rfl
theorem d_Dk_search_89 : decode prog_1_method_20_code 89 = .ok (.getfield 26, 3) := by decide +kernel
set_option maxRecDepth 100000 in
theorem c_Dk_search_92 : ct_Dk_search 92 = ka_al 0 1 := rfl
theorem d_Dk_search_92 : decode prog_1_method_20_code 92 = .ok (.aload_n 0, 1) := by decide +kernel
set_option maxRecDepth 100000 in
theorem c_Dk_search_93 : ct_Dk_search 93 = ka_get 0 3 := rfl
theorem d_Dk_search_93 : decode prog_1_method_20_code 93 = .ok (.getfield 33, 3) := by decide +kernel
set_option maxRecDepth 100000 in
theorem c_Dk_search_96 : ct_Dk_search 96 = ka_ci (nI 0) 1 := rfl
theorem d_Dk_search_96 : decode prog_1_method_20_code 96 = .ok (.iconst 0, 1) := by decide +kernel
set_option maxRecDepth 100000 in
theorem c_Dk_search_97 : ct_Dk_search 97 = ka_cv 56 2 3 0 0 := rfl
theorem d_Dk_search_97 : decode prog_1_method_20_code 97 = .ok (.invokevirtual 169, 3) := by decide +kernel
set_option maxRecDepth 100000 in
theorem c_Dk_search_100 : ct_Dk_search 100 = ka_ci (-1) 1 := rfl
theorem d_Dk_search_100 : decode prog_1_method_20_code 100 = .ok (.iconst (-1), 1) := by decide +kernel
set_option maxRecDepth 100000 in
theorem c_Dk_search_101 : ct_Dk_search 101 = ka_cm (fun x y => ¬ x = y) 107 := rfl
theorem d_Dk_search_101 : decode prog_1_method_20_code 101 = .ok (.if_icmp .ne 6, 3) := by decide +kernel
set_option maxRecDepth 100000 in
theorem c_Dk_search_104 : ct_Dk_search 104 = ka_ci (nI 32) 2 := rfl
theorem d_Dk_search_104 : decode prog_1_method_20_code 104 = .ok (.bipush 32, 2) := by decide +kernel
set_option maxRecDepth 100000 in
theorem c_Dk_search_106 : ct_Dk_search 106 = ka_ri := rfl
theorem d_Dk_search_106 : decode prog_1_method_20_code 106 = .ok (.ireturn, 1) := by decide +kernel
set_option maxRecDepth 100000 in
theorem c_Dk_search_107 : ct_Dk_search 107 = ka_al 0 1 := rfl
theorem d_Dk_search_107 : decode prog_1_method_20_code 107 = .ok (.aload_n 0, 1) := by decide +kernel
set_option maxRecDepth 100000 in
theorem c_Dk_search_108 : ct_Dk_search 108 = ka_cv 20 0 0 0 0 := rfl
theorem d_Dk_search_108 : decode prog_1_method_20_code 108 = .ok (.invokevirtual 216, 3) := by decide +kernel
set_option maxRecDepth 100000 in
theorem c_Dk_search_111 : ct_Dk_search 111 = ka_ri := rfl
theorem d_Dk_search_111 : decode prog_1_method_20_code 111 = .ok (.ireturn, 1) := by decide +kernel
set_option maxRecDepth 100000 in
set_option maxHeartbeats 4000000 in
theorem s_Dk_search_60 : ∀ pc, pc < 60 → kc_Sim kt kw_A kw_N kt_cl kt_En "DirectoryDesk" prog_1_method_20_code 1 (some .int) "search" none pc (ct_Dk_search pc) := by
  let P : Nat → Prop := fun pc => kc_Sim kt kw_A kw_N kt_cl kt_En "DirectoryDesk" prog_1_method_20_code 1 (some .int) "search" none pc (ct_Dk_search pc)
  exact kc_case (P := P) (kc_se c_Dk_search_59 (sm_if_ne d_Dk_search_59 (by decide))) (
  kc_case (P := P) (kc_se rfl sm_no) (
  kc_case (P := P) (kc_se rfl sm_no) (
  kc_case (P := P) (kc_se c_Dk_search_56 (sm_cv (j := 31) rfl rfl kw_o kw_g wc_Rd_isReadWell (Nat.le_of_ble_eq_true rfl) hd_Rd_isReadWell (ci := 1) (F := kF_Rd) (N := 8) rfl (kw2 118 rfl rfl) wi_Rd_isReadWell ws_Rd_isReadWell wn_Rd_isReadWell d_Dk_search_56)) (
  kc_case (P := P) (kc_se rfl sm_no) (
  kc_case (P := P) (kc_se rfl sm_no) (
  kc_case (P := P) (kc_se c_Dk_search_53 (sm_get (ci := 0) (C := "DirectoryDesk") (F := kF_Dk) rfl kin_Dk (Nat.le_of_ble_eq_true rfl) d_Dk_search_53 (kw2 0 rfl rfl))) (
  kc_case (P := P) (kc_se c_Dk_search_52 (sm_aload_n d_Dk_search_52 rfl)) (
  kc_case (P := P) (kc_se rfl sm_no) (
  kc_case (P := P) (kc_se rfl sm_no) (
  kc_case (P := P) (kc_se c_Dk_search_49 (sm_cv (j := 83) rfl rfl kw_o kw_g wc_Qu_readWantedTypes (Nat.le_of_ble_eq_true rfl) hd_Qu_readWantedTypes (ci := 8) (F := kF_Qu) (N := 4) rfl (kw2 188 rfl rfl) wi_Qu_readWantedTypes ws_Qu_readWantedTypes wn_Qu_readWantedTypes d_Dk_search_49)) (
  kc_case (P := P) (kc_se rfl sm_no) (
  kc_case (P := P) (kc_se rfl sm_no) (
  kc_case (P := P) (kc_se c_Dk_search_46 (sm_get (ci := 0) (C := "DirectoryDesk") (F := kF_Dk) rfl kin_Dk (Nat.le_of_ble_eq_true rfl) d_Dk_search_46 (kw2 0 rfl rfl))) (
  kc_case (P := P) (kc_se c_Dk_search_45 (sm_aload_n d_Dk_search_45 rfl)) (
  kc_case (P := P) (kc_se rfl sm_no) (
  kc_case (P := P) (kc_se rfl sm_no) (
  kc_case (P := P) (kc_se c_Dk_search_42 (sm_get (ci := 0) (C := "DirectoryDesk") (F := kF_Dk) rfl kin_Dk (Nat.le_of_ble_eq_true rfl) d_Dk_search_42 (kw2 5 rfl rfl))) (
  kc_case (P := P) (kc_se c_Dk_search_41 (sm_aload_n d_Dk_search_41 rfl)) (
  kc_case (P := P) (kc_se rfl sm_no) (
  kc_case (P := P) (kc_se rfl sm_no) (
  kc_case (P := P) (kc_se c_Dk_search_38 (sm_cv (j := 88) rfl rfl kw_o kw_g wc_Fi_readFrom (Nat.le_of_ble_eq_true rfl) hd_Fi_readFrom (ci := 9) (F := kF_Fi) (N := 5) rfl (kw2 161 rfl rfl) wi_Fi_readFrom ws_Fi_readFrom wn_Fi_readFrom d_Dk_search_38)) (
  kc_case (P := P) (kc_se rfl sm_no) (
  kc_case (P := P) (kc_se rfl sm_no) (
  kc_case (P := P) (kc_se c_Dk_search_35 (sm_get (ci := 0) (C := "DirectoryDesk") (F := kF_Dk) rfl kin_Dk (Nat.le_of_ble_eq_true rfl) d_Dk_search_35 (kw2 0 rfl rfl))) (
  kc_case (P := P) (kc_se c_Dk_search_34 (sm_aload_n d_Dk_search_34 rfl)) (
  kc_case (P := P) (kc_se rfl sm_no) (
  kc_case (P := P) (kc_se rfl sm_no) (
  kc_case (P := P) (kc_se c_Dk_search_31 (sm_get (ci := 0) (C := "DirectoryDesk") (F := kF_Dk) rfl kin_Dk (Nat.le_of_ble_eq_true rfl) d_Dk_search_31 (kw2 6 rfl rfl))) (
  kc_case (P := P) (kc_se c_Dk_search_30 (sm_aload_n d_Dk_search_30 rfl)) (
  kc_case (P := P) (kc_se rfl sm_no) (
  kc_case (P := P) (kc_se rfl sm_no) (
  kc_case (P := P) (kc_se c_Dk_search_27 (sm_cv (j := 82) rfl rfl kw_o kw_g wc_Qu_readFrom (Nat.le_of_ble_eq_true rfl) hd_Qu_readFrom (ci := 8) (F := kF_Qu) (N := 4) rfl (kw2 144 rfl rfl) wi_Qu_readFrom ws_Qu_readFrom wn_Qu_readFrom d_Dk_search_27)) (
  kc_case (P := P) (kc_se rfl sm_no) (
  kc_case (P := P) (kc_se rfl sm_no) (
  kc_case (P := P) (kc_se c_Dk_search_24 (sm_get (ci := 0) (C := "DirectoryDesk") (F := kF_Dk) rfl kin_Dk (Nat.le_of_ble_eq_true rfl) d_Dk_search_24 (kw2 0 rfl rfl))) (
  kc_case (P := P) (kc_se c_Dk_search_23 (sm_aload_n d_Dk_search_23 rfl)) (
  kc_case (P := P) (kc_se rfl sm_no) (
  kc_case (P := P) (kc_se rfl sm_no) (
  kc_case (P := P) (kc_se c_Dk_search_20 (sm_get (ci := 0) (C := "DirectoryDesk") (F := kF_Dk) rfl kin_Dk (Nat.le_of_ble_eq_true rfl) d_Dk_search_20 (kw2 5 rfl rfl))) (
  kc_case (P := P) (kc_se c_Dk_search_19 (sm_aload_n d_Dk_search_19 rfl)) (
  kc_case (P := P) (kc_se rfl sm_no) (
  kc_case (P := P) (kc_se rfl sm_no) (
  kc_case (P := P) (kc_se c_Dk_search_16 (sm_cv (j := 63) rfl rfl kw_o kw_g wc_Nm_readFrom (Nat.le_of_ble_eq_true rfl) hd_Nm_readFrom (ci := 5) (F := kF_Nm) (N := 3) rfl (kw2 93 rfl rfl) wi_Nm_readFrom ws_Nm_readFrom wn_Nm_readFrom d_Dk_search_16)) (
  kc_case (P := P) (kc_se rfl sm_no) (
  kc_case (P := P) (kc_se rfl sm_no) (
  kc_case (P := P) (kc_se c_Dk_search_13 (sm_get (ci := 0) (C := "DirectoryDesk") (F := kF_Dk) rfl kin_Dk (Nat.le_of_ble_eq_true rfl) d_Dk_search_13 (kw2 0 rfl rfl))) (
  kc_case (P := P) (kc_se c_Dk_search_12 (sm_aload_n d_Dk_search_12 rfl)) (
  kc_case (P := P) (kc_se rfl sm_no) (
  kc_case (P := P) (kc_se rfl sm_no) (
  kc_case (P := P) (kc_se c_Dk_search_9 (sm_get (ci := 0) (C := "DirectoryDesk") (F := kF_Dk) rfl kin_Dk (Nat.le_of_ble_eq_true rfl) d_Dk_search_9 (kw2 3 rfl rfl))) (
  kc_case (P := P) (kc_se c_Dk_search_8 (sm_aload_n d_Dk_search_8 rfl)) (
  kc_case (P := P) (kc_se rfl sm_no) (
  kc_case (P := P) (kc_se rfl sm_no) (
  kc_case (P := P) (kc_se c_Dk_search_5 (sm_cv (j := 37) rfl rfl kw_o kw_g wc_Rd_span (Nat.le_of_ble_eq_true rfl) hd_Rd_span (ci := 1) (F := kF_Rd) (N := 8) rfl (kw2 92 rfl rfl) wi_Rd_span ws_Rd_span wn_Rd_span d_Dk_search_5)) (
  kc_case (P := P) (kc_se c_Dk_search_4 (sm_iconst d_Dk_search_4 (by decide))) (
  kc_case (P := P) (kc_se rfl sm_no) (
  kc_case (P := P) (kc_se rfl sm_no) (
  kc_case (P := P) (kc_se c_Dk_search_1 (sm_get (ci := 0) (C := "DirectoryDesk") (F := kF_Dk) rfl kin_Dk (Nat.le_of_ble_eq_true rfl) d_Dk_search_1 (kw2 0 rfl rfl))) (
  kc_case (P := P) (kc_se c_Dk_search_0 (sm_aload_n d_Dk_search_0 rfl)) (
  kc_case0))))))))))))))))))))))))))))))))))))))))))))))))))))))))))))
set_option maxRecDepth 100000 in
set_option maxHeartbeats 4000000 in
theorem s_Dk_search_112 : ∀ pc, pc < 112 → kc_Sim kt kw_A kw_N kt_cl kt_En "DirectoryDesk" prog_1_method_20_code 1 (some .int) "search" none pc (ct_Dk_search pc) := by
  let P : Nat → Prop := fun pc => kc_Sim kt kw_A kw_N kt_cl kt_En "DirectoryDesk" prog_1_method_20_code 1 (some .int) "search" none pc (ct_Dk_search pc)
  exact kc_case (P := P) (kc_se c_Dk_search_111 (sm_ri d_Dk_search_111 rfl)) (
  kc_case (P := P) (kc_se rfl sm_no) (
  kc_case (P := P) (kc_se rfl sm_no) (
  kc_case (P := P) (kc_se c_Dk_search_108 (sm_cv (j := 20) rfl rfl kw_o kw_g wc_Dk_answerFound (Nat.le_of_ble_eq_true rfl) hd_Dk_answerFound (ci := 0) (F := kF_Dk) (N := 10) rfl (kw2 197 rfl rfl) wi_Dk_answerFound ws_Dk_answerFound wn_Dk_answerFound d_Dk_search_108)) (
  kc_case (P := P) (kc_se c_Dk_search_107 (sm_aload_n d_Dk_search_107 rfl)) (
  kc_case (P := P) (kc_se c_Dk_search_106 (sm_ri d_Dk_search_106 rfl)) (
  kc_case (P := P) (kc_se rfl sm_no) (
  kc_case (P := P) (kc_se c_Dk_search_104 (sm_bipush d_Dk_search_104 (by decide))) (
  kc_case (P := P) (kc_se rfl sm_no) (
  kc_case (P := P) (kc_se rfl sm_no) (
  kc_case (P := P) (kc_se c_Dk_search_101 (sm_cm_ne d_Dk_search_101 (by decide))) (
  kc_case (P := P) (kc_se c_Dk_search_100 (sm_iconst d_Dk_search_100 (by decide))) (
  kc_case (P := P) (kc_se rfl sm_no) (
  kc_case (P := P) (kc_se rfl sm_no) (
  kc_case (P := P) (kc_se c_Dk_search_97 (sm_cv (j := 56) rfl rfl kw_o kw_g wc_Tr_find (Nat.le_of_ble_eq_true rfl) hd_Tr_find (ci := 3) (F := kF_Tr) (N := 2) rfl (kw2 126 rfl rfl) wi_Tr_find ws_Tr_find wn_Tr_find d_Dk_search_97)) (
  kc_case (P := P) (kc_se c_Dk_search_96 (sm_iconst d_Dk_search_96 (by decide))) (
  kc_case (P := P) (kc_se rfl sm_no) (
  kc_case (P := P) (kc_se rfl sm_no) (
  kc_case (P := P) (kc_se c_Dk_search_93 (sm_get (ci := 0) (C := "DirectoryDesk") (F := kF_Dk) rfl kin_Dk (Nat.le_of_ble_eq_true rfl) d_Dk_search_93 (kw2 3 rfl rfl))) (
  kc_case (P := P) (kc_se c_Dk_search_92 (sm_aload_n d_Dk_search_92 rfl)) (
  kc_case (P := P) (kc_se rfl sm_no) (
  kc_case (P := P) (kc_se rfl sm_no) (
  kc_case (P := P) (kc_se c_Dk_search_89 (sm_get (ci := 0) (C := "DirectoryDesk") (F := kF_Dk) rfl kin_Dk (Nat.le_of_ble_eq_true rfl) d_Dk_search_89 (kw2 2 rfl rfl))) (
  kc_case (P := P) (kc_se c_Dk_search_88 (sm_aload_n d_Dk_search_88 rfl)) (
  kc_case (P := P) (kc_se rfl sm_no) (
  kc_case (P := P) (kc_se rfl sm_no) (
  kc_case (P := P) (kc_se c_Dk_search_85 (sm_if_le d_Dk_search_85 (by decide))) (
  kc_case (P := P) (kc_se rfl sm_no) (
  kc_case (P := P) (kc_se rfl sm_no) (
  kc_case (P := P) (kc_se c_Dk_search_82 (sm_get (ci := 5) (C := "DirectoryDesk$Name") (F := kF_Nm) rfl kin_Nm (Nat.le_of_ble_eq_true rfl) d_Dk_search_82 (kw1 106 rfl rfl))) (
  kc_case (P := P) (kc_se rfl sm_no) (
  kc_case (P := P) (kc_se rfl sm_no) (
  kc_case (P := P) (kc_se c_Dk_search_79 (sm_get (ci := 0) (C := "DirectoryDesk") (F := kF_Dk) rfl kin_Dk (Nat.le_of_ble_eq_true rfl) d_Dk_search_79 (kw2 3 rfl rfl))) (
  kc_case (P := P) (kc_se c_Dk_search_78 (sm_aload_n d_Dk_search_78 rfl)) (
  kc_case (P := P) (kc_se c_Dk_search_77 (sm_ri d_Dk_search_77 rfl)) (
  kc_case (P := P) (kc_se rfl sm_no) (
  kc_case (P := P) (kc_se c_Dk_search_75 (sm_bipush d_Dk_search_75 (by decide))) (
  kc_case (P := P) (kc_se rfl sm_no) (
  kc_case (P := P) (kc_se rfl sm_no) (
  kc_case (P := P) (kc_se c_Dk_search_72 (sm_cm_ne d_Dk_search_72 (by decide))) (
  kc_case (P := P) (kc_se c_Dk_search_71 (sm_iconst d_Dk_search_71 (by decide))) (
  kc_case (P := P) (kc_se rfl sm_no) (
  kc_case (P := P) (kc_se rfl sm_no) (
  kc_case (P := P) (kc_se c_Dk_search_68 (sm_get (ci := 5) (C := "DirectoryDesk$Name") (F := kF_Nm) rfl kin_Nm (Nat.le_of_ble_eq_true rfl) d_Dk_search_68 (kw1 106 rfl rfl))) (
  kc_case (P := P) (kc_se rfl sm_no) (
  kc_case (P := P) (kc_se rfl sm_no) (
  kc_case (P := P) (kc_se c_Dk_search_65 (sm_get (ci := 0) (C := "DirectoryDesk") (F := kF_Dk) rfl kin_Dk (Nat.le_of_ble_eq_true rfl) d_Dk_search_65 (kw2 3 rfl rfl))) (
  kc_case (P := P) (kc_se c_Dk_search_64 (sm_aload_n d_Dk_search_64 rfl)) (
  kc_case (P := P) (kc_se c_Dk_search_63 (sm_ri d_Dk_search_63 rfl)) (
  kc_case (P := P) (kc_se c_Dk_search_62 (sm_iconst d_Dk_search_62 (by decide))) (
  kc_case (P := P) (kc_se rfl sm_no) (
  kc_case (P := P) (kc_se rfl sm_no) (
  s_Dk_search_60))))))))))))))))))))))))))))))))))))))))))))))))))))
theorem ka_nth_no_Dk_search (pc : Nat) (h : 112 ≤ pc) : ct_Dk_search pc = ka_no := ka_nth_ge _ pc (Nat.le_trans (Nat.le_of_eq (by rfl)) h)
theorem s_Dk_search (pc : Nat) : kc_Sim kt kw_A kw_N kt_cl kt_En "DirectoryDesk" prog_1_method_20_code 1 (some .int) "search" none pc (ct_Dk_search pc) := (Nat.lt_or_ge pc 112).elim (s_Dk_search_112 pc) (fun h => kc_se (ka_nth_no_Dk_search pc h) sm_no)
def cl_Dk_answerFound_0 : List kc_A := [ka_ci (nI 0) 1, ka_is 1 1, ka_ci (nI 1) 1, ka_is 2 1, ka_ci (nI 0) 1, ka_is 3 1, ka_il 3 1, ka_al 0 1, ka_get 0 2, ka_no, ka_no, ka_get 3 1, ka_no, ka_no, ka_cm (fun x y => y ≤ x) 110, ka_no, ka_no, ka_al 0 1, ka_get 0 5, ka_no, ka_no, ka_al 0 1, ka_get 0 2, ka_no, ka_no, ka_get 3 0, ka_no, ka_no, ka_il 3 1, ka_aald, ka_get 4 0, ka_no, ka_no, ka_al 0 1, ka_get 0 3, ka_no, ka_no, ka_cv 67 1 5 0 0, ka_no, ka_no, ka_cv 86 1 8 0 0, ka_no, ka_no, ka_is 4 2, ka_no, ka_il 4 2, ka_no, ka_if (fun x => x = 0) 104, ka_no, ka_no, ka_al 0 1, ka_get 0 6, ka_no, ka_no, ka_al 0 1, ka_get 0 2, ka_no, ka_no, ka_get 3 0, ka_no]
def cl_Dk_answerFound_1 : List kc_A := [ka_no, ka_il 3 1, ka_aald, ka_get 4 1, ka_no, ka_no, ka_cv 89 1 9 0 0, ka_no, ka_no, ka_if (fun x => x = 0) 104, ka_no, ka_no, ka_inc 1 (nI 1), ka_no, ka_no, ka_il 2 1, ka_if (fun x => x = 0) 104, ka_no, ka_no, ka_al 0 1, ka_get 0 5, ka_no, ka_no, ka_il 1 1, ka_cv 85 1 8 0 0, ka_no, ka_no, ka_if (fun x => x = 0) 104, ka_no, ka_no, ka_al 0 1, ka_al 0 1, ka_get 0 2, ka_no, ka_no, ka_get 3 0, ka_no, ka_no, ka_il 3 1, ka_aald, ka_cv 21 1 0 0 0, ka_no, ka_no, ka_is 2 1, ka_inc 3 (nI 1), ka_no, ka_no, ka_goto 6, ka_no, ka_no, ka_al 0 1, ka_get 0 5, ka_no, ka_no, ka_il 1 1, ka_cv 85 1 8 0 0, ka_no, ka_no, ka_if (fun x => ¬ x = 0) 123, ka_no]
def cl_Dk_answerFound_2 : List kc_A := [ka_no, ka_ci (nI 4) 1, ka_ri, ka_il 2 1, ka_if (fun x => x = 0) 131, ka_no, ka_no, ka_ci (nI 0) 1, ka_goto 133, ka_no, ka_no, ka_ci (nI 11) 2, ka_no, ka_ri]
def ct_Dk_answerFound : Nat → kc_A := fun pc => ka_nth (cl_Dk_answerFound_0 ++ (cl_Dk_answerFound_1 ++ (cl_Dk_answerFound_2))) pc
set_option maxRecDepth 100000 in
theorem c_Dk_answerFound_0 : ct_Dk_answerFound 0 = ka_ci (nI 0) 1 := rfl
theorem d_Dk_answerFound_0 : decode prog_1_method_21_code 0 = .ok (.iconst 0, 1) := by decide +kernel
set_option maxRecDepth 100000 in
theorem c_Dk_answerFound_1 : ct_Dk_answerFound 1 = ka_is 1 1 := rfl
theorem d_Dk_answerFound_1 : decode prog_1_method_21_code 1 = .ok (.istore_n 1, 1) := by decide +kernel
set_option maxRecDepth 100000 in
theorem c_Dk_answerFound_2 : ct_Dk_answerFound 2 = ka_ci (nI 1) 1 := rfl
theorem d_Dk_answerFound_2 : decode prog_1_method_21_code 2 = .ok (.iconst 1, 1) := by decide +kernel
set_option maxRecDepth 100000 in
theorem c_Dk_answerFound_3 : ct_Dk_answerFound 3 = ka_is 2 1 := rfl
theorem d_Dk_answerFound_3 : decode prog_1_method_21_code 3 = .ok (.istore_n 2, 1) := by decide +kernel
set_option maxRecDepth 100000 in
theorem c_Dk_answerFound_4 : ct_Dk_answerFound 4 = ka_ci (nI 0) 1 := rfl
theorem d_Dk_answerFound_4 : decode prog_1_method_21_code 4 = .ok (.iconst 0, 1) := by decide +kernel
set_option maxRecDepth 100000 in
theorem c_Dk_answerFound_5 : ct_Dk_answerFound 5 = ka_is 3 1 := rfl
theorem d_Dk_answerFound_5 : decode prog_1_method_21_code 5 = .ok (.istore_n 3, 1) := by decide +kernel
set_option maxRecDepth 100000 in
theorem c_Dk_answerFound_6 : ct_Dk_answerFound 6 = ka_il 3 1 := rfl
theorem d_Dk_answerFound_6 : decode prog_1_method_21_code 6 = .ok (.iload_n 3, 1) := by decide +kernel
set_option maxRecDepth 100000 in
theorem c_Dk_answerFound_7 : ct_Dk_answerFound 7 = ka_al 0 1 := rfl
theorem d_Dk_answerFound_7 : decode prog_1_method_21_code 7 = .ok (.aload_n 0, 1) := by decide +kernel
set_option maxRecDepth 100000 in
theorem c_Dk_answerFound_8 : ct_Dk_answerFound 8 = ka_get 0 2 := rfl
theorem d_Dk_answerFound_8 : decode prog_1_method_21_code 8 = .ok (.getfield 26, 3) := by decide +kernel
set_option maxRecDepth 100000 in
theorem c_Dk_answerFound_11 : ct_Dk_answerFound 11 = ka_get 3 1 := rfl
theorem d_Dk_answerFound_11 : decode prog_1_method_21_code 11 = .ok (.getfield 116, 3) := by decide +kernel
set_option maxRecDepth 100000 in
theorem c_Dk_answerFound_14 : ct_Dk_answerFound 14 = ka_cm (fun x y => y ≤ x) 110 := rfl
theorem d_Dk_answerFound_14 : decode prog_1_method_21_code 14 = .ok (.if_icmp .ge 96, 3) := by decide +kernel
set_option maxRecDepth 100000 in
theorem c_Dk_answerFound_17 : ct_Dk_answerFound 17 = ka_al 0 1 := rfl
theorem d_Dk_answerFound_17 : decode prog_1_method_21_code 17 = .ok (.aload_n 0, 1) := by decide +kernel
set_option maxRecDepth 100000 in
theorem c_Dk_answerFound_18 : ct_Dk_answerFound 18 = ka_get 0 5 := rfl
theorem d_Dk_answerFound_18 : decode prog_1_method_21_code 18 = .ok (.getfield 47, 3) := by decide +kernel
set_option maxRecDepth 100000 in
theorem c_Dk_answerFound_21 : ct_Dk_answerFound 21 = ka_al 0 1 := rfl
theorem d_Dk_answerFound_21 : decode prog_1_method_21_code 21 = .ok (.aload_n 0, 1) := by decide +kernel
set_option maxRecDepth 100000 in
theorem c_Dk_answerFound_22 : ct_Dk_answerFound 22 = ka_get 0 2 := rfl
theorem d_Dk_answerFound_22 : decode prog_1_method_21_code 22 = .ok (.getfield 26, 3) := by decide +kernel
set_option maxRecDepth 100000 in
theorem c_Dk_answerFound_25 : ct_Dk_answerFound 25 = ka_get 3 0 := rfl
theorem d_Dk_answerFound_25 : decode prog_1_method_21_code 25 = .ok (.getfield 119, 3) := by decide +kernel
set_option maxRecDepth 100000 in
theorem c_Dk_answerFound_28 : ct_Dk_answerFound 28 = ka_il 3 1 := rfl
theorem d_Dk_answerFound_28 : decode prog_1_method_21_code 28 = .ok (.iload_n 3, 1) := by decide +kernel
set_option maxRecDepth 100000 in
theorem c_Dk_answerFound_29 : ct_Dk_answerFound 29 = ka_aald := rfl
theorem d_Dk_answerFound_29 : decode prog_1_method_21_code 29 = .ok (.aaload, 1) := by decide +kernel
set_option maxRecDepth 100000 in
theorem c_Dk_answerFound_30 : ct_Dk_answerFound 30 = ka_get 4 0 := rfl
theorem d_Dk_answerFound_30 : decode prog_1_method_21_code 30 = .ok (.getfield 123, 3) := by decide +kernel
set_option maxRecDepth 100000 in
theorem c_Dk_answerFound_33 : ct_Dk_answerFound 33 = ka_al 0 1 := rfl
theorem d_Dk_answerFound_33 : decode prog_1_method_21_code 33 = .ok (.aload_n 0, 1) := by decide +kernel
set_option maxRecDepth 100000 in
theorem c_Dk_answerFound_34 : ct_Dk_answerFound 34 = ka_get 0 3 := rfl
theorem d_Dk_answerFound_34 : decode prog_1_method_21_code 34 = .ok (.getfield 33, 3) := by decide +kernel
set_option maxRecDepth 100000 in
theorem c_Dk_answerFound_37 : ct_Dk_answerFound 37 = ka_cv 67 1 5 0 0 := rfl
theorem d_Dk_answerFound_37 : decode prog_1_method_21_code 37 = .ok (.invokevirtual 219, 3) := by decide +kernel
set_option maxRecDepth 100000 in
theorem c_Dk_answerFound_40 : ct_Dk_answerFound 40 = ka_cv 86 1 8 0 0 := rfl
theorem d_Dk_answerFound_40 : decode prog_1_method_21_code 40 = .ok (.invokevirtual 223, 3) := by decide +kernel
set_option maxRecDepth 100000 in
theorem c_Dk_answerFound_43 : ct_Dk_answerFound 43 = ka_is 4 2 := rfl
theorem d_Dk_answerFound_43 : decode prog_1_method_21_code 43 = .ok (.istore 4, 2) := by decide +kernel
set_option maxRecDepth 100000 in
theorem c_Dk_answerFound_45 : ct_Dk_answerFound 45 = ka_il 4 2 := rfl
theorem d_Dk_answerFound_45 : decode prog_1_method_21_code 45 = .ok (.iload 4, 2) := by decide +kernel
set_option maxRecDepth 100000 in
theorem c_Dk_answerFound_47 : ct_Dk_answerFound 47 = ka_if (fun x => x = 0) 104 := rfl
theorem d_Dk_answerFound_47 : decode prog_1_method_21_code 47 = .ok (.ifCond .eq 57, 3) := by decide +kernel
set_option maxRecDepth 100000 in
theorem c_Dk_answerFound_50 : ct_Dk_answerFound 50 = ka_al 0 1 := rfl
theorem d_Dk_answerFound_50 : decode prog_1_method_21_code 50 = .ok (.aload_n 0, 1) := by decide +kernel
set_option maxRecDepth 100000 in
theorem c_Dk_answerFound_51 : ct_Dk_answerFound 51 = ka_get 0 6 := rfl
theorem d_Dk_answerFound_51 : decode prog_1_method_21_code 51 = .ok (.getfield 54, 3) := by decide +kernel
set_option maxRecDepth 100000 in
theorem c_Dk_answerFound_54 : ct_Dk_answerFound 54 = ka_al 0 1 := rfl
theorem d_Dk_answerFound_54 : decode prog_1_method_21_code 54 = .ok (.aload_n 0, 1) := by decide +kernel
set_option maxRecDepth 100000 in
theorem c_Dk_answerFound_55 : ct_Dk_answerFound 55 = ka_get 0 2 := rfl
theorem d_Dk_answerFound_55 : decode prog_1_method_21_code 55 = .ok (.getfield 26, 3) := by decide +kernel
set_option maxRecDepth 100000 in
theorem c_Dk_answerFound_58 : ct_Dk_answerFound 58 = ka_get 3 0 := rfl
theorem d_Dk_answerFound_58 : decode prog_1_method_21_code 58 = .ok (.getfield 119, 3) := by decide +kernel
set_option maxRecDepth 100000 in
theorem c_Dk_answerFound_61 : ct_Dk_answerFound 61 = ka_il 3 1 := rfl
theorem d_Dk_answerFound_61 : decode prog_1_method_21_code 61 = .ok (.iload_n 3, 1) := by decide +kernel
set_option maxRecDepth 100000 in
theorem c_Dk_answerFound_62 : ct_Dk_answerFound 62 = ka_aald := rfl
theorem d_Dk_answerFound_62 : decode prog_1_method_21_code 62 = .ok (.aaload, 1) := by decide +kernel
set_option maxRecDepth 100000 in
theorem c_Dk_answerFound_63 : ct_Dk_answerFound 63 = ka_get 4 1 := rfl
theorem d_Dk_answerFound_63 : decode prog_1_method_21_code 63 = .ok (.getfield 131, 3) := by decide +kernel
set_option maxRecDepth 100000 in
theorem c_Dk_answerFound_66 : ct_Dk_answerFound 66 = ka_cv 89 1 9 0 0 := rfl
theorem d_Dk_answerFound_66 : decode prog_1_method_21_code 66 = .ok (.invokevirtual 227, 3) := by decide +kernel
set_option maxRecDepth 100000 in
theorem c_Dk_answerFound_69 : ct_Dk_answerFound 69 = ka_if (fun x => x = 0) 104 := rfl
theorem d_Dk_answerFound_69 : decode prog_1_method_21_code 69 = .ok (.ifCond .eq 35, 3) := by decide +kernel
set_option maxRecDepth 100000 in
theorem c_Dk_answerFound_72 : ct_Dk_answerFound 72 = ka_inc 1 (nI 1) := rfl
theorem d_Dk_answerFound_72 : decode prog_1_method_21_code 72 = .ok (.iinc 1 1, 3) := by decide +kernel
set_option maxRecDepth 100000 in
theorem c_Dk_answerFound_75 : ct_Dk_answerFound 75 = ka_il 2 1 := rfl
theorem d_Dk_answerFound_75 : decode prog_1_method_21_code 75 = .ok (.iload_n 2, 1) := by decide +kernel
set_option maxRecDepth 100000 in
theorem c_Dk_answerFound_76 : ct_Dk_answerFound 76 = ka_if (fun x => x = 0) 104 := rfl
theorem d_Dk_answerFound_76 : decode prog_1_method_21_code 76 = .ok (.ifCond .eq 28, 3) := by decide +kernel
set_option maxRecDepth 100000 in
theorem c_Dk_answerFound_79 : ct_Dk_answerFound 79 = ka_al 0 1 := rfl
theorem d_Dk_answerFound_79 : decode prog_1_method_21_code 79 = .ok (.aload_n 0, 1) := by decide +kernel
set_option maxRecDepth 100000 in
theorem c_Dk_answerFound_80 : ct_Dk_answerFound 80 = ka_get 0 5 := rfl
theorem d_Dk_answerFound_80 : decode prog_1_method_21_code 80 = .ok (.getfield 47, 3) := by decide +kernel
set_option maxRecDepth 100000 in
theorem c_Dk_answerFound_83 : ct_Dk_answerFound 83 = ka_il 1 1 := rfl
theorem d_Dk_answerFound_83 : decode prog_1_method_21_code 83 = .ok (.iload_n 1, 1) := by decide +kernel
set_option maxRecDepth 100000 in
theorem c_Dk_answerFound_84 : ct_Dk_answerFound 84 = ka_cv 85 1 8 0 0 := rfl
theorem d_Dk_answerFound_84 : decode prog_1_method_21_code 84 = .ok (.invokevirtual 231, 3) := by decide +kernel
set_option maxRecDepth 100000 in
theorem c_Dk_answerFound_87 : ct_Dk_answerFound 87 = ka_if (fun x => x = 0) 104 := rfl
theorem d_Dk_answerFound_87 : decode prog_1_method_21_code 87 = .ok (.ifCond .eq 17, 3) := by decide +kernel
set_option maxRecDepth 100000 in
theorem c_Dk_answerFound_90 : ct_Dk_answerFound 90 = ka_al 0 1 := rfl
theorem d_Dk_answerFound_90 : decode prog_1_method_21_code 90 = .ok (.aload_n 0, 1) := by decide +kernel
set_option maxRecDepth 100000 in
theorem c_Dk_answerFound_91 : ct_Dk_answerFound 91 = ka_al 0 1 := rfl
theorem d_Dk_answerFound_91 : decode prog_1_method_21_code 91 = .ok (.aload_n 0, 1) := by decide +kernel
set_option maxRecDepth 100000 in
theorem c_Dk_answerFound_92 : ct_Dk_answerFound 92 = ka_get 0 2 := rfl
theorem d_Dk_answerFound_92 : decode prog_1_method_21_code 92 = .ok (.getfield 26, 3) := by decide +kernel
set_option maxRecDepth 100000 in
theorem c_Dk_answerFound_95 : ct_Dk_answerFound 95 = ka_get 3 0 := rfl
theorem d_Dk_answerFound_95 : decode prog_1_method_21_code 95 = .ok (.getfield 119, 3) := by decide +kernel
set_option maxRecDepth 100000 in
theorem c_Dk_answerFound_98 : ct_Dk_answerFound 98 = ka_il 3 1 := rfl
theorem d_Dk_answerFound_98 : decode prog_1_method_21_code 98 = .ok (.iload_n 3, 1) := by decide +kernel
set_option maxRecDepth 100000 in
theorem c_Dk_answerFound_99 : ct_Dk_answerFound 99 = ka_aald := rfl
theorem d_Dk_answerFound_99 : decode prog_1_method_21_code 99 = .ok (.aaload, 1) := by decide +kernel
set_option maxRecDepth 100000 in
theorem c_Dk_answerFound_100 : ct_Dk_answerFound 100 = ka_cv 21 1 0 0 0 := rfl
theorem d_Dk_answerFound_100 : decode prog_1_method_21_code 100 = .ok (.invokevirtual 234, 3) := by decide +kernel
set_option maxRecDepth 100000 in
theorem c_Dk_answerFound_103 : ct_Dk_answerFound 103 = ka_is 2 1 := rfl
theorem d_Dk_answerFound_103 : decode prog_1_method_21_code 103 = .ok (.istore_n 2, 1) := by decide +kernel
set_option maxRecDepth 100000 in
theorem c_Dk_answerFound_104 : ct_Dk_answerFound 104 = ka_inc 3 (nI 1) := rfl
theorem d_Dk_answerFound_104 : decode prog_1_method_21_code 104 = .ok (.iinc 3 1, 3) := by decide +kernel
set_option maxRecDepth 100000 in
theorem c_Dk_answerFound_107 : ct_Dk_answerFound 107 = ka_goto 6 := rfl
theorem d_Dk_answerFound_107 : decode prog_1_method_21_code 107 = .ok (.goto (-101), 3) := by decide +kernel
set_option maxRecDepth 100000 in
theorem c_Dk_answerFound_110 : ct_Dk_answerFound 110 = ka_al 0 1 := rfl
theorem d_Dk_answerFound_110 : decode prog_1_method_21_code 110 = .ok (.aload_n 0, 1) := by decide +kernel
set_option maxRecDepth 100000 in
theorem c_Dk_answerFound_111 : ct_Dk_answerFound 111 = ka_get 0 5 := rfl
theorem d_Dk_answerFound_111 : decode prog_1_method_21_code 111 = .ok (.getfield 47, 3) := by decide +kernel
set_option maxRecDepth 100000 in
theorem c_Dk_answerFound_114 : ct_Dk_answerFound 114 = ka_il 1 1 := rfl
theorem d_Dk_answerFound_114 : decode prog_1_method_21_code 114 = .ok (.iload_n 1, 1) := by decide +kernel
set_option maxRecDepth 100000 in
theorem c_Dk_answerFound_115 : ct_Dk_answerFound 115 = ka_cv 85 1 8 0 0 := rfl
theorem d_Dk_answerFound_115 : decode prog_1_method_21_code 115 = .ok (.invokevirtual 231, 3) := by decide +kernel
set_option maxRecDepth 100000 in
theorem c_Dk_answerFound_118 : ct_Dk_answerFound 118 = ka_if (fun x => ¬ x = 0) 123 := rfl
theorem d_Dk_answerFound_118 : decode prog_1_method_21_code 118 = .ok (.ifCond .ne 5, 3) := by decide +kernel
set_option maxRecDepth 100000 in
theorem c_Dk_answerFound_121 : ct_Dk_answerFound 121 = ka_ci (nI 4) 1 := rfl
theorem d_Dk_answerFound_121 : decode prog_1_method_21_code 121 = .ok (.iconst 4, 1) := by decide +kernel
set_option maxRecDepth 100000 in
theorem c_Dk_answerFound_122 : ct_Dk_answerFound 122 = ka_ri := rfl
theorem d_Dk_answerFound_122 : decode prog_1_method_21_code 122 = .ok (.ireturn, 1) := by decide +kernel
set_option maxRecDepth 100000 in
theorem c_Dk_answerFound_123 : ct_Dk_answerFound 123 = ka_il 2 1 := rfl
theorem d_Dk_answerFound_123 : decode prog_1_method_21_code 123 = .ok (.iload_n 2, 1) := by decide +kernel
set_option maxRecDepth 100000 in
theorem c_Dk_answerFound_124 : ct_Dk_answerFound 124 = ka_if (fun x => x = 0) 131 := rfl
theorem d_Dk_answerFound_124 : decode prog_1_method_21_code 124 = .ok (.ifCond .eq 7, 3) := by decide +kernel
set_option maxRecDepth 100000 in
theorem c_Dk_answerFound_127 : ct_Dk_answerFound 127 = ka_ci (nI 0) 1 := rfl
theorem d_Dk_answerFound_127 : decode prog_1_method_21_code 127 = .ok (.iconst 0, 1) := by decide +kernel
set_option maxRecDepth 100000 in
theorem c_Dk_answerFound_128 : ct_Dk_answerFound 128 = ka_goto 133 := rfl
theorem d_Dk_answerFound_128 : decode prog_1_method_21_code 128 = .ok (.goto 5, 3) := by decide +kernel
set_option maxRecDepth 100000 in
theorem c_Dk_answerFound_131 : ct_Dk_answerFound 131 = ka_ci (nI 11) 2 := rfl
theorem d_Dk_answerFound_131 : decode prog_1_method_21_code 131 = .ok (.bipush 11, 2) := by decide +kernel
set_option maxRecDepth 100000 in
theorem c_Dk_answerFound_133 : ct_Dk_answerFound 133 = ka_ri := rfl
theorem d_Dk_answerFound_133 : decode prog_1_method_21_code 133 = .ok (.ireturn, 1) := by decide +kernel
set_option maxRecDepth 100000 in
set_option maxHeartbeats 4000000 in
theorem s_Dk_answerFound_60 : ∀ pc, pc < 60 → kc_Sim kt kw_A kw_N kt_cl kt_En "DirectoryDesk" prog_1_method_21_code 5 (some .int) "answerFound" none pc (ct_Dk_answerFound pc) := by
  let P : Nat → Prop := fun pc => kc_Sim kt kw_A kw_N kt_cl kt_En "DirectoryDesk" prog_1_method_21_code 5 (some .int) "answerFound" none pc (ct_Dk_answerFound pc)
  exact kc_case (P := P) (kc_se rfl sm_no) (
  kc_case (P := P) (kc_se c_Dk_answerFound_58 (sm_get (ci := 3) (C := "DirectoryDesk$Tree") (F := kF_Tr) rfl kin_Tr (Nat.le_of_ble_eq_true rfl) d_Dk_answerFound_58 (kw1 161 rfl rfl))) (
  kc_case (P := P) (kc_se rfl sm_no) (
  kc_case (P := P) (kc_se rfl sm_no) (
  kc_case (P := P) (kc_se c_Dk_answerFound_55 (sm_get (ci := 0) (C := "DirectoryDesk") (F := kF_Dk) rfl kin_Dk (Nat.le_of_ble_eq_true rfl) d_Dk_answerFound_55 (kw2 2 rfl rfl))) (
  kc_case (P := P) (kc_se c_Dk_answerFound_54 (sm_aload_n d_Dk_answerFound_54 rfl)) (
  kc_case (P := P) (kc_se rfl sm_no) (
  kc_case (P := P) (kc_se rfl sm_no) (
  kc_case (P := P) (kc_se c_Dk_answerFound_51 (sm_get (ci := 0) (C := "DirectoryDesk") (F := kF_Dk) rfl kin_Dk (Nat.le_of_ble_eq_true rfl) d_Dk_answerFound_51 (kw2 6 rfl rfl))) (
  kc_case (P := P) (kc_se c_Dk_answerFound_50 (sm_aload_n d_Dk_answerFound_50 rfl)) (
  kc_case (P := P) (kc_se rfl sm_no) (
  kc_case (P := P) (kc_se rfl sm_no) (
  kc_case (P := P) (kc_se c_Dk_answerFound_47 (sm_if_eq d_Dk_answerFound_47 (by decide))) (
  kc_case (P := P) (kc_se rfl sm_no) (
  kc_case (P := P) (kc_se c_Dk_answerFound_45 (sm_iload d_Dk_answerFound_45)) (
  kc_case (P := P) (kc_se rfl sm_no) (
  kc_case (P := P) (kc_se c_Dk_answerFound_43 (sm_istore d_Dk_answerFound_43 (Nat.le_of_ble_eq_true rfl))) (
  kc_case (P := P) (kc_se rfl sm_no) (
  kc_case (P := P) (kc_se rfl sm_no) (
  kc_case (P := P) (kc_se c_Dk_answerFound_40 (sm_cv (j := 86) rfl rfl kw_o kw_g wc_Qu_isInScope (Nat.le_of_ble_eq_true rfl) hd_Qu_isInScope (ci := 8) (F := kF_Qu) (N := 4) rfl (kw2 202 rfl rfl) wi_Qu_isInScope ws_Qu_isInScope wn_Qu_isInScope d_Dk_answerFound_40)) (
  kc_case (P := P) (kc_se rfl sm_no) (
  kc_case (P := P) (kc_se rfl sm_no) (
  kc_case (P := P) (kc_se c_Dk_answerFound_37 (sm_cv (j := 67) rfl rfl kw_o kw_g wc_Nm_levelsUnder (Nat.le_of_ble_eq_true rfl) hd_Nm_levelsUnder (ci := 5) (F := kF_Nm) (N := 3) rfl (kw2 201 rfl rfl) wi_Nm_levelsUnder ws_Nm_levelsUnder wn_Nm_levelsUnder d_Dk_answerFound_37)) (
  kc_case (P := P) (kc_se rfl sm_no) (
  kc_case (P := P) (kc_se rfl sm_no) (
  kc_case (P := P) (kc_se c_Dk_answerFound_34 (sm_get (ci := 0) (C := "DirectoryDesk") (F := kF_Dk) rfl kin_Dk (Nat.le_of_ble_eq_true rfl) d_Dk_answerFound_34 (kw2 3 rfl rfl))) (
  kc_case (P := P) (kc_se c_Dk_answerFound_33 (sm_aload_n d_Dk_answerFound_33 rfl)) (
  kc_case (P := P) (kc_se rfl sm_no) (
  kc_case (P := P) (kc_se rfl sm_no) (
  kc_case (P := P) (kc_se c_Dk_answerFound_30 (sm_get (ci := 4) (C := "DirectoryDesk$Entry") (F := kF_En) rfl kin_En (Nat.le_of_ble_eq_true rfl) d_Dk_answerFound_30 (kw1 137 rfl rfl))) (
  kc_case (P := P) (kc_se c_Dk_answerFound_29 (sm_aald d_Dk_answerFound_29)) (
  kc_case (P := P) (kc_se c_Dk_answerFound_28 (sm_iload_n d_Dk_answerFound_28 rfl)) (
  kc_case (P := P) (kc_se rfl sm_no) (
  kc_case (P := P) (kc_se rfl sm_no) (
  kc_case (P := P) (kc_se c_Dk_answerFound_25 (sm_get (ci := 3) (C := "DirectoryDesk$Tree") (F := kF_Tr) rfl kin_Tr (Nat.le_of_ble_eq_true rfl) d_Dk_answerFound_25 (kw1 161 rfl rfl))) (
  kc_case (P := P) (kc_se rfl sm_no) (
  kc_case (P := P) (kc_se rfl sm_no) (
  kc_case (P := P) (kc_se c_Dk_answerFound_22 (sm_get (ci := 0) (C := "DirectoryDesk") (F := kF_Dk) rfl kin_Dk (Nat.le_of_ble_eq_true rfl) d_Dk_answerFound_22 (kw2 2 rfl rfl))) (
  kc_case (P := P) (kc_se c_Dk_answerFound_21 (sm_aload_n d_Dk_answerFound_21 rfl)) (
  kc_case (P := P) (kc_se rfl sm_no) (
  kc_case (P := P) (kc_se rfl sm_no) (
  kc_case (P := P) (kc_se c_Dk_answerFound_18 (sm_get (ci := 0) (C := "DirectoryDesk") (F := kF_Dk) rfl kin_Dk (Nat.le_of_ble_eq_true rfl) d_Dk_answerFound_18 (kw2 5 rfl rfl))) (
  kc_case (P := P) (kc_se c_Dk_answerFound_17 (sm_aload_n d_Dk_answerFound_17 rfl)) (
  kc_case (P := P) (kc_se rfl sm_no) (
  kc_case (P := P) (kc_se rfl sm_no) (
  kc_case (P := P) (kc_se c_Dk_answerFound_14 (sm_cm_ge d_Dk_answerFound_14 (by decide))) (
  kc_case (P := P) (kc_se rfl sm_no) (
  kc_case (P := P) (kc_se rfl sm_no) (
  kc_case (P := P) (kc_se c_Dk_answerFound_11 (sm_get (ci := 3) (C := "DirectoryDesk$Tree") (F := kF_Tr) rfl kin_Tr (Nat.le_of_ble_eq_true rfl) d_Dk_answerFound_11 (kw1 163 rfl rfl))) (
  kc_case (P := P) (kc_se rfl sm_no) (
  kc_case (P := P) (kc_se rfl sm_no) (
  kc_case (P := P) (kc_se c_Dk_answerFound_8 (sm_get (ci := 0) (C := "DirectoryDesk") (F := kF_Dk) rfl kin_Dk (Nat.le_of_ble_eq_true rfl) d_Dk_answerFound_8 (kw2 2 rfl rfl))) (
  kc_case (P := P) (kc_se c_Dk_answerFound_7 (sm_aload_n d_Dk_answerFound_7 rfl)) (
  kc_case (P := P) (kc_se c_Dk_answerFound_6 (sm_iload_n d_Dk_answerFound_6 rfl)) (
  kc_case (P := P) (kc_se c_Dk_answerFound_5 (sm_istore_n d_Dk_answerFound_5 rfl (Nat.le_of_ble_eq_true rfl))) (
  kc_case (P := P) (kc_se c_Dk_answerFound_4 (sm_iconst d_Dk_answerFound_4 (by decide))) (
  kc_case (P := P) (kc_se c_Dk_answerFound_3 (sm_istore_n d_Dk_answerFound_3 rfl (Nat.le_of_ble_eq_true rfl))) (
  kc_case (P := P) (kc_se c_Dk_answerFound_2 (sm_iconst d_Dk_answerFound_2 (by decide))) (
  kc_case (P := P) (kc_se c_Dk_answerFound_1 (sm_istore_n d_Dk_answerFound_1 rfl (Nat.le_of_ble_eq_true rfl))) (
  kc_case (P := P) (kc_se c_Dk_answerFound_0 (sm_iconst d_Dk_answerFound_0 (by decide))) (
  kc_case0))))))))))))))))))))))))))))))))))))))))))))))))))))))))))))
set_option maxRecDepth 100000 in
set_option maxHeartbeats 4000000 in
theorem s_Dk_answerFound_120 : ∀ pc, pc < 120 → kc_Sim kt kw_A kw_N kt_cl kt_En "DirectoryDesk" prog_1_method_21_code 5 (some .int) "answerFound" none pc (ct_Dk_answerFound pc) := by
  let P : Nat → Prop := fun pc => kc_Sim kt kw_A kw_N kt_cl kt_En "DirectoryDesk" prog_1_method_21_code 5 (some .int) "answerFound" none pc (ct_Dk_answerFound pc)
  exact kc_case (P := P) (kc_se rfl sm_no) (
  kc_case (P := P) (kc_se c_Dk_answerFound_118 (sm_if_ne d_Dk_answerFound_118 (by decide))) (
  kc_case (P := P) (kc_se rfl sm_no) (
  kc_case (P := P) (kc_se rfl sm_no) (
  kc_case (P := P) (kc_se c_Dk_answerFound_115 (sm_cv (j := 85) rfl rfl kw_o kw_g wc_Qu_isWithinLimit (Nat.le_of_ble_eq_true rfl) hd_Qu_isWithinLimit (ci := 8) (F := kF_Qu) (N := 4) rfl (kw2 234 rfl rfl) wi_Qu_isWithinLimit ws_Qu_isWithinLimit wn_Qu_isWithinLimit d_Dk_answerFound_115)) (
  kc_case (P := P) (kc_se c_Dk_answerFound_114 (sm_iload_n d_Dk_answerFound_114 rfl)) (
  kc_case (P := P) (kc_se rfl sm_no) (
  kc_case (P := P) (kc_se rfl sm_no) (
  kc_case (P := P) (kc_se c_Dk_answerFound_111 (sm_get (ci := 0) (C := "DirectoryDesk") (F := kF_Dk) rfl kin_Dk (Nat.le_of_ble_eq_true rfl) d_Dk_answerFound_111 (kw2 5 rfl rfl))) (
  kc_case (P := P) (kc_se c_Dk_answerFound_110 (sm_aload_n d_Dk_answerFound_110 rfl)) (
  kc_case (P := P) (kc_se rfl sm_no) (
  kc_case (P := P) (kc_se rfl sm_no) (
  kc_case (P := P) (kc_se c_Dk_answerFound_107 (sm_goto d_Dk_answerFound_107 (by decide))) (
  kc_case (P := P) (kc_se rfl sm_no) (
  kc_case (P := P) (kc_se rfl sm_no) (
  kc_case (P := P) (kc_se c_Dk_answerFound_104 (sm_inc d_Dk_answerFound_104 (by decide) (Nat.le_of_ble_eq_true rfl))) (
  kc_case (P := P) (kc_se c_Dk_answerFound_103 (sm_istore_n d_Dk_answerFound_103 rfl (Nat.le_of_ble_eq_true rfl))) (
  kc_case (P := P) (kc_se rfl sm_no) (
  kc_case (P := P) (kc_se rfl sm_no) (
  kc_case (P := P) (kc_se c_Dk_answerFound_100 (sm_cv (j := 21) rfl rfl kw_o kw_g wc_Dk_answerEntry (Nat.le_of_ble_eq_true rfl) hd_Dk_answerEntry (ci := 0) (F := kF_Dk) (N := 10) rfl (kw2 238 rfl rfl) wi_Dk_answerEntry ws_Dk_answerEntry wn_Dk_answerEntry d_Dk_answerFound_100)) (
  kc_case (P := P) (kc_se c_Dk_answerFound_99 (sm_aald d_Dk_answerFound_99)) (
  kc_case (P := P) (kc_se c_Dk_answerFound_98 (sm_iload_n d_Dk_answerFound_98 rfl)) (
  kc_case (P := P) (kc_se rfl sm_no) (
  kc_case (P := P) (kc_se rfl sm_no) (
  kc_case (P := P) (kc_se c_Dk_answerFound_95 (sm_get (ci := 3) (C := "DirectoryDesk$Tree") (F := kF_Tr) rfl kin_Tr (Nat.le_of_ble_eq_true rfl) d_Dk_answerFound_95 (kw1 161 rfl rfl))) (
  kc_case (P := P) (kc_se rfl sm_no) (
  kc_case (P := P) (kc_se rfl sm_no) (
  kc_case (P := P) (kc_se c_Dk_answerFound_92 (sm_get (ci := 0) (C := "DirectoryDesk") (F := kF_Dk) rfl kin_Dk (Nat.le_of_ble_eq_true rfl) d_Dk_answerFound_92 (kw2 2 rfl rfl))) (
  kc_case (P := P) (kc_se c_Dk_answerFound_91 (sm_aload_n d_Dk_answerFound_91 rfl)) (
  kc_case (P := P) (kc_se c_Dk_answerFound_90 (sm_aload_n d_Dk_answerFound_90 rfl)) (
  kc_case (P := P) (kc_se rfl sm_no) (
  kc_case (P := P) (kc_se rfl sm_no) (
  kc_case (P := P) (kc_se c_Dk_answerFound_87 (sm_if_eq d_Dk_answerFound_87 (by decide))) (
  kc_case (P := P) (kc_se rfl sm_no) (
  kc_case (P := P) (kc_se rfl sm_no) (
  kc_case (P := P) (kc_se c_Dk_answerFound_84 (sm_cv (j := 85) rfl rfl kw_o kw_g wc_Qu_isWithinLimit (Nat.le_of_ble_eq_true rfl) hd_Qu_isWithinLimit (ci := 8) (F := kF_Qu) (N := 4) rfl (kw2 234 rfl rfl) wi_Qu_isWithinLimit ws_Qu_isWithinLimit wn_Qu_isWithinLimit d_Dk_answerFound_84)) (
  kc_case (P := P) (kc_se c_Dk_answerFound_83 (sm_iload_n d_Dk_answerFound_83 rfl)) (
  kc_case (P := P) (kc_se rfl sm_no) (
  kc_case (P := P) (kc_se rfl sm_no) (
  kc_case (P := P) (kc_se c_Dk_answerFound_80 (sm_get (ci := 0) (C := "DirectoryDesk") (F := kF_Dk) rfl kin_Dk (Nat.le_of_ble_eq_true rfl) d_Dk_answerFound_80 (kw2 5 rfl rfl))) (
  kc_case (P := P) (kc_se c_Dk_answerFound_79 (sm_aload_n d_Dk_answerFound_79 rfl)) (
  kc_case (P := P) (kc_se rfl sm_no) (
  kc_case (P := P) (kc_se rfl sm_no) (
  kc_case (P := P) (kc_se c_Dk_answerFound_76 (sm_if_eq d_Dk_answerFound_76 (by decide))) (
  kc_case (P := P) (kc_se c_Dk_answerFound_75 (sm_iload_n d_Dk_answerFound_75 rfl)) (
  kc_case (P := P) (kc_se rfl sm_no) (
  kc_case (P := P) (kc_se rfl sm_no) (
  kc_case (P := P) (kc_se c_Dk_answerFound_72 (sm_inc d_Dk_answerFound_72 (by decide) (Nat.le_of_ble_eq_true rfl))) (
  kc_case (P := P) (kc_se rfl sm_no) (
  kc_case (P := P) (kc_se rfl sm_no) (
  kc_case (P := P) (kc_se c_Dk_answerFound_69 (sm_if_eq d_Dk_answerFound_69 (by decide))) (
  kc_case (P := P) (kc_se rfl sm_no) (
  kc_case (P := P) (kc_se rfl sm_no) (
  kc_case (P := P) (kc_se c_Dk_answerFound_66 (sm_cv (j := 89) rfl rfl kw_o kw_g wc_Fi_areTrueFor (Nat.le_of_ble_eq_true rfl) hd_Fi_areTrueFor (ci := 9) (F := kF_Fi) (N := 5) rfl (kw2 206 rfl rfl) wi_Fi_areTrueFor ws_Fi_areTrueFor wn_Fi_areTrueFor d_Dk_answerFound_66)) (
  kc_case (P := P) (kc_se rfl sm_no) (
  kc_case (P := P) (kc_se rfl sm_no) (
  kc_case (P := P) (kc_se c_Dk_answerFound_63 (sm_get (ci := 4) (C := "DirectoryDesk$Entry") (F := kF_En) rfl kin_En (Nat.le_of_ble_eq_true rfl) d_Dk_answerFound_63 (kw1 140 rfl rfl))) (
  kc_case (P := P) (kc_se c_Dk_answerFound_62 (sm_aald d_Dk_answerFound_62)) (
  kc_case (P := P) (kc_se c_Dk_answerFound_61 (sm_iload_n d_Dk_answerFound_61 rfl)) (
  kc_case (P := P) (kc_se rfl sm_no) (
  s_Dk_answerFound_60))))))))))))))))))))))))))))))))))))))))))))))))))))))))))))
set_option maxRecDepth 100000 in
set_option maxHeartbeats 4000000 in
theorem s_Dk_answerFound_134 : ∀ pc, pc < 134 → kc_Sim kt kw_A kw_N kt_cl kt_En "DirectoryDesk" prog_1_method_21_code 5 (some .int) "answerFound" none pc (ct_Dk_answerFound pc) := by
  let P : Nat → Prop := fun pc => kc_Sim kt kw_A kw_N kt_cl kt_En "DirectoryDesk" prog_1_method_21_code 5 (some .int) "answerFound" none pc (ct_Dk_answerFound pc)
  exact kc_case (P := P) (kc_se c_Dk_answerFound_133 (sm_ri d_Dk_answerFound_133 rfl)) (
  kc_case (P := P) (kc_se rfl sm_no) (
  kc_case (P := P) (kc_se c_Dk_answerFound_131 (sm_bipush d_Dk_answerFound_131 (by decide))) (
  kc_case (P := P) (kc_se rfl sm_no) (
  kc_case (P := P) (kc_se rfl sm_no) (
  kc_case (P := P) (kc_se c_Dk_answerFound_128 (sm_goto d_Dk_answerFound_128 (by decide))) (
  kc_case (P := P) (kc_se c_Dk_answerFound_127 (sm_iconst d_Dk_answerFound_127 (by decide))) (
  kc_case (P := P) (kc_se rfl sm_no) (
  kc_case (P := P) (kc_se rfl sm_no) (
  kc_case (P := P) (kc_se c_Dk_answerFound_124 (sm_if_eq d_Dk_answerFound_124 (by decide))) (
  kc_case (P := P) (kc_se c_Dk_answerFound_123 (sm_iload_n d_Dk_answerFound_123 rfl)) (
  kc_case (P := P) (kc_se c_Dk_answerFound_122 (sm_ri d_Dk_answerFound_122 rfl)) (
  kc_case (P := P) (kc_se c_Dk_answerFound_121 (sm_iconst d_Dk_answerFound_121 (by decide))) (
  kc_case (P := P) (kc_se rfl sm_no) (
  s_Dk_answerFound_120))))))))))))))
theorem ka_nth_no_Dk_answerFound (pc : Nat) (h : 134 ≤ pc) : ct_Dk_answerFound pc = ka_no := ka_nth_ge _ pc (Nat.le_trans (Nat.le_of_eq (by rfl)) h)
theorem s_Dk_answerFound (pc : Nat) : kc_Sim kt kw_A kw_N kt_cl kt_En "DirectoryDesk" prog_1_method_21_code 5 (some .int) "answerFound" none pc (ct_Dk_answerFound pc) := (Nat.lt_or_ge pc 134).elim (s_Dk_answerFound_134 pc) (fun h => kc_se (ka_nth_no_Dk_answerFound pc h) sm_no)
