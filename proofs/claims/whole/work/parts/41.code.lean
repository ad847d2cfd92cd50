/-! code of methods, decode rows, and that the JVM follows (by program) -/
def cl_Md_readSearch_0 : List kc_A := [ka_al 0 1, ka_al 0 1, ka_get 10 18, ka_no, ka_no, ka_al 0 1, ka_get 10 19, ka_no, ka_no, ka_ci (nI 4) 1, ka_cv 100 3 10 0 0, ka_no, ka_no, ka_if (fun x => ¬ x = 0) 18, ka_no, ka_no, ka_ci (nI 0) 1, ka_rz, ka_al 0 1, ka_al 0 1, ka_get 10 14, ka_no, ka_no, ka_put 10 23 .int, ka_no, ka_no, ka_al 0 1, ka_al 0 1, ka_get 10 15, ka_no, ka_no, ka_put 10 24 .int, ka_no, ka_no, ka_al 0 1, ka_al 0 1, ka_get 10 15, ka_no, ka_no, ka_al 0 1, ka_get 10 19, ka_no, ka_no, ka_ci (nI 2) 1, ka_cv 103 3 10 0 0, ka_no, ka_no, ka_if (fun x => ¬ x = 0) 52, ka_no, ka_no, ka_ci (nI 0) 1, ka_rz, ka_al 0 1, ka_al 0 1, ka_get 10 2, ka_no, ka_no, ka_al 0 1, ka_get 10 14, ka_no]
def cl_Md_readSearch_1 : List kc_A := [ka_no, ka_iald, ka_put 10 28 .int, ka_no, ka_no, ka_al 0 1, ka_al 0 1, ka_get 10 15, ka_no, ka_no, ka_al 0 1, ka_get 10 19, ka_no, ka_no, ka_ci (nI 3) 1, ka_cv 103 3 10 0 0, ka_no, ka_no, ka_if (fun x => x = 0) 96, ka_no, ka_no, ka_al 0 1, ka_al 0 1, ka_get 10 15, ka_no, ka_no, ka_al 0 1, ka_get 10 19, ka_no, ka_no, ka_cv 101 2 10 0 0, ka_no, ka_no, ka_if (fun x => ¬ x = 0) 98, ka_no, ka_no, ka_ci (nI 0) 1, ka_rz, ka_al 0 1, ka_al 0 1, ka_cv 102 0 10 0 0, ka_no, ka_no, ka_put 10 29 .int, ka_no, ka_no, ka_al 0 1, ka_get 10 29, ka_no, ka_no, ka_if (fun x => x < 0) 157, ka_no, ka_no, ka_al 0 1, ka_al 0 1, ka_get 10 15, ka_no, ka_no, ka_al 0 1, ka_get 10 19]
def cl_Md_readSearch_2 : List kc_A := [ka_no, ka_no, ka_cv 101 2 10 0 0, ka_no, ka_no, ka_if (fun x => x = 0) 157, ka_no, ka_no, ka_al 0 1, ka_al 0 1, ka_get 10 15, ka_no, ka_no, ka_al 0 1, ka_get 10 19, ka_no, ka_no, ka_ci (nI 1) 1, ka_cv 100 3 10 0 0, ka_no, ka_no, ka_if (fun x => x = 0) 157, ka_no, ka_no, ka_al 0 1, ka_get 10 15, ka_no, ka_no, ka_al 0 1, ka_get 10 14, ka_no, ka_no, ka_ii (fun x y => x - y), ka_ci (nI 1) 1, ka_cm (fun x y => x = y) 159, ka_no, ka_no, ka_ci (nI 0) 1, ka_rz, ka_al 0 1, ka_al 0 1, ka_get 10 2, ka_no, ka_no, ka_al 0 1, ka_get 10 14, ka_no, ka_no, ka_iald, ka_if (fun x => x = 0) 176, ka_no, ka_no, ka_ci (nI 1) 1, ka_goto 177, ka_no, ka_no, ka_ci (nI 0) 1, ka_put 10 30 .boolean, ka_no, ka_no]
def cl_Md_readSearch_3 : List kc_A := [ka_al 0 1, ka_al 0 1, ka_get 10 15, ka_no, ka_no, ka_cv 119 1 10 0 0, ka_no, ka_no, ka_is 1 1, ka_il 1 1, ka_if (fun x => x < 0) 205, ka_no, ka_no, ka_al 0 1, ka_il 1 1, ka_cv 120 1 10 0 0, ka_no, ka_no, ka_if (fun x => x = 0) 205, ka_no, ka_no, ka_ci (nI 1) 1, ka_goto 206, ka_no, ka_no, ka_ci (nI 0) 1, ka_rz]
def ct_Md_readSearch : Nat → kc_A := fun pc => ka_nth (cl_Md_readSearch_0 ++ (cl_Md_readSearch_1 ++ (cl_Md_readSearch_2 ++ (cl_Md_readSearch_3)))) pc
set_option maxRecDepth 100000 in
theorem c_Md_readSearch_0 : ct_Md_readSearch 0 = ka_al 0 1 := rfl
theorem d_Md_readSearch_0 : decode prog_12_method_26_code 0 = .ok (.aload_n 0, 1) := by decide +kernel
set_option maxRecDepth 100000 in
theorem c_Md_readSearch_1 : ct_Md_readSearch 1 = ka_al 0 1 := rfl
theorem d_Md_readSearch_1 : decode prog_12_method_26_code 1 = .ok (.aload_n 0, 1) := by decide +kernel
set_option maxRecDepth 100000 in
theorem c_Md_readSearch_2 : ct_Md_readSearch 2 = ka_get 10 18 := rfl
theorem d_Md_readSearch_2 : decode prog_12_method_26_code 2 = .ok (.getfield 140, 3) := by decide +kernel
set_option maxRecDepth 100000 in
theorem c_Md_readSearch_5 : ct_Md_readSearch 5 = ka_al 0 1 := rfl
theorem d_Md_readSearch_5 : decode prog_12_method_26_code 5 = .ok (.aload_n 0, 1) := by decide +kernel
set_option maxRecDepth 100000 in
theorem c_Md_readSearch_6 : ct_Md_readSearch 6 = ka_get 10 19 := rfl
theorem d_Md_readSearch_6 : decode prog_12_method_26_code 6 = .ok (.getfield 143, 3) := by decide +kernel
set_option maxRecDepth 100000 in
theorem c_Md_readSearch_9 : ct_Md_readSearch 9 = ka_ci (nI 4) 1 := rfl
theorem d_Md_readSearch_9 : decode prog_12_method_26_code 9 = .ok (.iconst 4, 1) := by decide +kernel
set_option maxRecDepth 100000 in
theorem c_Md_readSearch_10 : ct_Md_readSearch 10 = ka_cv 100 3 10 0 0 := rfl
theorem d_Md_readSearch_10 : decode prog_12_method_26_code 10 = .ok (.invokevirtual 116, 3) := by decide +kernel
set_option maxRecDepth 100000 in
theorem c_Md_readSearch_13 : ct_Md_readSearch 13 = ka_if (fun x => ¬ x = 0) 18 := rfl
theorem d_Md_readSearch_13 : decode prog_12_method_26_code 13 = .ok (.ifCond .ne 5, 3) := by decide +kernel
set_option maxRecDepth 100000 in
theorem c_Md_readSearch_16 : ct_Md_readSearch 16 = ka_ci (nI 0) 1 := rfl
theorem d_Md_readSearch_16 : decode prog_12_method_26_code 16 = .ok (.iconst 0, 1) := by decide +kernel
set_option maxRecDepth 100000 in
theorem c_Md_readSearch_17 : ct_Md_readSearch 17 = ka_rz := rfl
theorem d_Md_readSearch_17 : decode prog_12_method_26_code 17 = .ok (.ireturn, 1) := by decide +kernel
set_option maxRecDepth 100000 in
theorem c_Md_readSearch_18 : ct_Md_readSearch 18 = ka_al 0 1 := rfl
theorem d_Md_readSearch_18 : decode prog_12_method_26_code 18 = .ok (.aload_n 0, 1) := by decide +kernel
set_option maxRecDepth 100000 in
theorem c_Md_readSearch_19 : ct_Md_readSearch 19 = ka_al 0 1 := rfl
theorem d_Md_readSearch_19 : decode prog_12_method_26_code 19 = .ok (.aload_n 0, 1) := by decide +kernel
set_option maxRecDepth 100000 in
theorem c_Md_readSearch_20 : ct_Md_readSearch 20 = ka_get 10 14 := rfl
theorem d_Md_readSearch_20 : decode prog_12_method_26_code 20 = .ok (.getfield 106, 3) := by decide +kernel
set_option maxRecDepth 100000 in
theorem c_Md_readSearch_23 : ct_Md_readSearch 23 = ka_put 10 23 .int := rfl
theorem d_Md_readSearch_23 : decode prog_12_method_26_code 23 = .ok (.putfield 156, 3) := by decide +kernel
set_option maxRecDepth 100000 in
theorem c_Md_readSearch_26 : ct_Md_readSearch 26 = ka_al 0 1 := rfl
theorem d_Md_readSearch_26 : decode prog_12_method_26_code 26 = .ok (.aload_n 0, 1) := by decide +kernel
set_option maxRecDepth 100000 in
theorem c_Md_readSearch_27 : ct_Md_readSearch 27 = ka_al 0 1 := rfl
theorem d_Md_readSearch_27 : decode prog_12_method_26_code 27 = .ok (.aload_n 0, 1) := by decide +kernel
set_option maxRecDepth 100000 in
theorem c_Md_readSearch_28 : ct_Md_readSearch 28 = ka_get 10 15 := rfl
theorem d_Md_readSearch_28 : decode prog_12_method_26_code 28 = .ok (.getfield 109, 3) := by decide +kernel
set_option maxRecDepth 100000 in
theorem c_Md_readSearch_31 : ct_Md_readSearch 31 = ka_put 10 24 .int := rfl
theorem d_Md_readSearch_31 : decode prog_12_method_26_code 31 = .ok (.putfield 159, 3) := by decide +kernel
set_option maxRecDepth 100000 in
theorem c_Md_readSearch_34 : ct_Md_readSearch 34 = ka_al 0 1 := rfl
theorem d_Md_readSearch_34 : decode prog_12_method_26_code 34 = .ok (.aload_n 0, 1) := by decide +kernel
set_option maxRecDepth 100000 in
theorem c_Md_readSearch_35 : ct_Md_readSearch 35 = ka_al 0 1 := rfl
theorem d_Md_readSearch_35 : decode prog_12_method_26_code 35 = .ok (.aload_n 0, 1) := by decide +kernel
set_option maxRecDepth 100000 in
theorem c_Md_readSearch_36 : ct_Md_readSearch 36 = ka_get 10 15 := rfl
theorem d_Md_readSearch_36 : decode prog_12_method_26_code 36 = .ok (.getfield 109, 3) := by decide +kernel
set_option maxRecDepth 100000 in
theorem c_Md_readSearch_39 : ct_Md_readSearch 39 = ka_al 0 1 := rfl
theorem d_Md_readSearch_39 : decode prog_12_method_26_code 39 = .ok (.aload_n 0, 1) := by decide +kernel
set_option maxRecDepth 100000 in
theorem c_Md_readSearch_40 : ct_Md_readSearch 40 = ka_get 10 19 := rfl
theorem d_Md_readSearch_40 : decode prog_12_method_26_code 40 = .ok (.getfield 143, 3) := by decide +kernel
set_option maxRecDepth 100000 in
theorem c_Md_readSearch_43 : ct_Md_readSearch 43 = ka_ci (nI 2) 1 := rfl
theorem d_Md_readSearch_43 : decode prog_12_method_26_code 43 = .ok (.iconst 2, 1) := by decide +kernel
set_option maxRecDepth 100000 in
theorem c_Md_readSearch_44 : ct_Md_readSearch 44 = ka_cv 103 3 10 0 0 := rfl
theorem d_Md_readSearch_44 : decode prog_12_method_26_code 44 = .ok (.invokevirtual 177, 3) := by decide +kernel
set_option maxRecDepth 100000 in
theorem c_Md_readSearch_47 : ct_Md_readSearch 47 = ka_if (fun x => ¬ x = 0) 52 := rfl
theorem d_Md_readSearch_47 : decode prog_12_method_26_code 47 = .ok (.ifCond .ne 5, 3) := by decide +kernel
set_option maxRecDepth 100000 in
theorem c_Md_readSearch_50 : ct_Md_readSearch 50 = ka_ci (nI 0) 1 := rfl
theorem d_Md_readSearch_50 : decode prog_12_method_26_code 50 = .ok (.iconst 0, 1) := by decide +kernel
set_option maxRecDepth 100000 in
theorem c_Md_readSearch_51 : ct_Md_readSearch 51 = ka_rz := rfl
theorem d_Md_readSearch_51 : decode prog_12_method_26_code 51 = .ok (.ireturn, 1) := by decide +kernel
set_option maxRecDepth 100000 in
theorem c_Md_readSearch_52 : ct_Md_readSearch 52 = ka_al 0 1 := rfl
theorem d_Md_readSearch_52 : decode prog_12_method_26_code 52 = .ok (.aload_n 0, 1) := by decide +kernel
set_option maxRecDepth 100000 in
theorem c_Md_readSearch_53 : ct_Md_readSearch 53 = ka_al 0 1 := rfl
theorem d_Md_readSearch_53 : decode prog_12_method_26_code 53 = .ok (.aload_n 0, 1) := by decide +kernel
set_option maxRecDepth 100000 in
theorem c_Md_readSearch_54 : ct_Md_readSearch 54 = ka_get 10 2 := rfl
theorem d_Md_readSearch_54 : decode prog_12_method_26_code 54 = .ok (.getfield 7, 3) := by decide +kernel
set_option maxRecDepth 100000 in
theorem c_Md_readSearch_57 : ct_Md_readSearch 57 = ka_al 0 1 := rfl
theorem d_Md_readSearch_57 : decode prog_12_method_26_code 57 = .ok (.aload_n 0, 1) := by decide +kernel
set_option maxRecDepth 100000 in
theorem c_Md_readSearch_58 : ct_Md_readSearch 58 = ka_get 10 14 := rfl
theorem d_Md_readSearch_58 : decode prog_12_method_26_code 58 = .ok (.getfield 106, 3) := by decide +kernel
set_option maxRecDepth 100000 in
theorem c_Md_readSearch_61 : ct_Md_readSearch 61 = ka_iald := rfl
theorem d_Md_readSearch_61 : decode prog_12_method_26_code 61 = .ok (.iaload, 1) := by decide +kernel
set_option maxRecDepth 100000 in
theorem c_Md_readSearch_62 : ct_Md_readSearch 62 = ka_put 10 28 .int := rfl
theorem d_Md_readSearch_62 : decode prog_12_method_26_code 62 = .ok (.putfield 208, 3) := by decide +kernel
set_option maxRecDepth 100000 in
theorem c_Md_readSearch_65 : ct_Md_readSearch 65 = ka_al 0 1 := rfl
theorem d_Md_readSearch_65 : decode prog_12_method_26_code 65 = .ok (.aload_n 0, 1) := by decide +kernel
set_option maxRecDepth 100000 in
theorem c_Md_readSearch_66 : ct_Md_readSearch 66 = ka_al 0 1 := rfl
theorem d_Md_readSearch_66 : decode prog_12_method_26_code 66 = .ok (.aload_n 0, 1) := by decide +kernel
set_option maxRecDepth 100000 in
theorem c_Md_readSearch_67 : ct_Md_readSearch 67 = ka_get 10 15 := rfl
theorem d_Md_readSearch_67 : decode prog_12_method_26_code 67 = .ok (.getfield 109, 3) := by decide +kernel
set_option maxRecDepth 100000 in
theorem c_Md_readSearch_70 : ct_Md_readSearch 70 = ka_al 0 1 := rfl
theorem d_Md_readSearch_70 : decode prog_12_method_26_code 70 = .ok (.aload_n 0, 1) := by decide +kernel
set_option maxRecDepth 100000 in
theorem c_Md_readSearch_71 : ct_Md_readSearch 71 = ka_get 10 19 := rfl
theorem d_Md_readSearch_71 : decode prog_12_method_26_code 71 = .ok (.getfield 143, 3) := by decide +kernel
set_option maxRecDepth 100000 in
theorem c_Md_readSearch_74 : ct_Md_readSearch 74 = ka_ci (nI 3) 1 := rfl
theorem d_Md_readSearch_74 : decode prog_12_method_26_code 74 = .ok (.iconst 3, 1) := by decide +kernel
set_option maxRecDepth 100000 in
theorem c_Md_readSearch_75 : ct_Md_readSearch 75 = ka_cv 103 3 10 0 0 := rfl
theorem d_Md_readSearch_75 : decode prog_12_method_26_code 75 = .ok (.invokevirtual 177, 3) := by decide +kernel
set_option maxRecDepth 100000 in
theorem c_Md_readSearch_78 : ct_Md_readSearch 78 = ka_if (fun x => x = 0) 96 := rfl
theorem d_Md_readSearch_78 : decode prog_12_method_26_code 78 = .ok (.ifCond .eq 18, 3) := by decide +kernel
set_option maxRecDepth 100000 in
theorem c_Md_readSearch_81 : ct_Md_readSearch 81 = ka_al 0 1 := rfl
theorem d_Md_readSearch_81 : decode prog_12_method_26_code 81 = .ok (.aload_n 0, 1) := by decide +kernel
set_option maxRecDepth 100000 in
theorem c_Md_readSearch_82 : ct_Md_readSearch 82 = ka_al 0 1 := rfl
theorem d_Md_readSearch_82 : decode prog_12_method_26_code 82 = .ok (.aload_n 0, 1) := by decide +kernel
set_option maxRecDepth 100000 in
theorem c_Md_readSearch_83 : ct_Md_readSearch 83 = ka_get 10 15 := rfl
theorem d_Md_readSearch_83 : decode prog_12_method_26_code 83 = .ok (.getfield 109, 3) := by decide +kernel
set_option maxRecDepth 100000 in
theorem c_Md_readSearch_86 : ct_Md_readSearch 86 = ka_al 0 1 := rfl
theorem d_Md_readSearch_86 : decode prog_12_method_26_code 86 = .ok (.aload_n 0, 1) := by decide +kernel
set_option maxRecDepth 100000 in
theorem c_Md_readSearch_87 : ct_Md_readSearch 87 = ka_get 10 19 := rfl
theorem d_Md_readSearch_87 : decode prog_12_method_26_code 87 = .ok (.getfield 143, 3) := by decide +kernel
set_option maxRecDepth 100000 in
theorem c_Md_readSearch_90 : ct_Md_readSearch 90 = ka_cv 101 2 10 0 0 := rfl
theorem d_Md_readSearch_90 : decode prog_12_method_26_code 90 = .ok (.invokevirtual 146, 3) := by decide +kernel
set_option maxRecDepth 100000 in
theorem c_Md_readSearch_93 : ct_Md_readSearch 93 = ka_if (fun x => ¬ x = 0) 98 := rfl
theorem d_Md_readSearch_93 : decode prog_12_method_26_code 93 = .ok (.ifCond .ne 5, 3) := by decide +kernel
set_option maxRecDepth 100000 in
theorem c_Md_readSearch_96 : ct_Md_readSearch 96 = ka_ci (nI 0) 1 := rfl
theorem d_Md_readSearch_96 : decode prog_12_method_26_code 96 = .ok (.iconst 0, 1) := by decide +kernel
set_option maxRecDepth 100000 in
theorem c_Md_readSearch_97 : ct_Md_readSearch 97 = ka_rz := rfl
theorem d_Md_readSearch_97 : decode prog_12_method_26_code 97 = .ok (.ireturn, 1) := by decide +kernel
set_option maxRecDepth 100000 in
theorem c_Md_readSearch_98 : ct_Md_readSearch 98 = ka_al 0 1 := rfl
theorem d_Md_readSearch_98 : decode prog_12_method_26_code 98 = .ok (.aload_n 0, 1) := by decide +kernel
set_option maxRecDepth 100000 in
theorem c_Md_readSearch_99 : ct_Md_readSearch 99 = ka_al 0 1 := rfl
theorem d_Md_readSearch_99 : decode prog_12_method_26_code 99 = .ok (.aload_n 0, 1) := by decide +kernel
set_option maxRecDepth 100000 in
theorem c_Md_readSearch_100 : ct_Md_readSearch 100 = ka_cv 102 0 10 0 0 := rfl
theorem d_Md_readSearch_100 : decode prog_12_method_26_code 100 = .ok (.invokevirtual 149, 3) := by decide +kernel
set_option maxRecDepth 100000 in
theorem c_Md_readSearch_103 : ct_Md_readSearch 103 = ka_put 10 29 .int := rfl
theorem d_Md_readSearch_103 : decode prog_12_method_26_code 103 = .ok (.putfield 211, 3) := by decide +kernel
set_option maxRecDepth 100000 in
theorem c_Md_readSearch_106 : ct_Md_readSearch 106 = ka_al 0 1 := rfl
theorem d_Md_readSearch_106 : decode prog_12_method_26_code 106 = .ok (.aload_n 0, 1) := by decide +kernel
set_option maxRecDepth 100000 in
theorem c_Md_readSearch_107 : ct_Md_readSearch 107 = ka_get 10 29 := rfl
theorem d_Md_readSearch_107 : decode prog_12_method_26_code 107 = .ok (.getfield 211, 3) := by decide +kernel
set_option maxRecDepth 100000 in
theorem c_Md_readSearch_110 : ct_Md_readSearch 110 = ka_if (fun x => x < 0) 157 := rfl
theorem d_Md_readSearch_110 : decode prog_12_method_26_code 110 = .ok (.ifCond .lt 47, 3) := by decide +kernel
set_option maxRecDepth 100000 in
theorem c_Md_readSearch_113 : ct_Md_readSearch 113 = ka_al 0 1 := rfl
theorem d_Md_readSearch_113 : decode prog_12_method_26_code 113 = .ok (.aload_n 0, 1) := by decide +kernel
set_option maxRecDepth 100000 in
theorem c_Md_readSearch_114 : ct_Md_readSearch 114 = ka_al 0 1 := rfl
theorem d_Md_readSearch_114 : decode prog_12_method_26_code 114 = .ok (.aload_n 0, 1) := by decide +kernel
set_option maxRecDepth 100000 in
theorem c_Md_readSearch_115 : ct_Md_readSearch 115 = ka_get 10 15 := rfl
theorem d_Md_readSearch_115 : decode prog_12_method_26_code 115 = .ok (.getfield 109, 3) := by decide +kernel
set_option maxRecDepth 100000 in
theorem c_Md_readSearch_118 : ct_Md_readSearch 118 = ka_al 0 1 := rfl
theorem d_Md_readSearch_118 : decode prog_12_method_26_code 118 = .ok (.aload_n 0, 1) := by decide +kernel
set_option maxRecDepth 100000 in
theorem c_Md_readSearch_119 : ct_Md_readSearch 119 = ka_get 10 19 := rfl
theorem d_Md_readSearch_119 : decode prog_12_method_26_code 119 = .ok (.getfield 143, 3) := by decide +kernel
set_option maxRecDepth 100000 in
theorem c_Md_readSearch_122 : ct_Md_readSearch 122 = ka_cv 101 2 10 0 0 := rfl
theorem d_Md_readSearch_122 : decode prog_12_method_26_code 122 = .ok (.invokevirtual 146, 3) := by decide +kernel
set_option maxRecDepth 100000 in
theorem c_Md_readSearch_125 : ct_Md_readSearch 125 = ka_if (fun x => x = 0) 157 := rfl
theorem d_Md_readSearch_125 : decode prog_12_method_26_code 125 = .ok (.ifCond .eq 32, 3) := by decide +kernel
set_option maxRecDepth 100000 in
theorem c_Md_readSearch_128 : ct_Md_readSearch 128 = ka_al 0 1 := rfl
theorem d_Md_readSearch_128 : decode prog_12_method_26_code 128 = .ok (.aload_n 0, 1) := by decide +kernel
set_option maxRecDepth 100000 in
theorem c_Md_readSearch_129 : ct_Md_readSearch 129 = ka_al 0 1 := rfl
theorem d_Md_readSearch_129 : decode prog_12_method_26_code 129 = .ok (.aload_n 0, 1) := by decide +kernel
set_option maxRecDepth 100000 in
theorem c_Md_readSearch_130 : ct_Md_readSearch 130 = ka_get 10 15 := rfl
theorem d_Md_readSearch_130 : decode prog_12_method_26_code 130 = .ok (.getfield 109, 3) := by decide +kernel
set_option maxRecDepth 100000 in
theorem c_Md_readSearch_133 : ct_Md_readSearch 133 = ka_al 0 1 := rfl
theorem d_Md_readSearch_133 : decode prog_12_method_26_code 133 = .ok (.aload_n 0, 1) := by decide +kernel
set_option maxRecDepth 100000 in
theorem c_Md_readSearch_134 : ct_Md_readSearch 134 = ka_get 10 19 := rfl
theorem d_Md_readSearch_134 : decode prog_12_method_26_code 134 = .ok (.getfield 143, 3) := by decide +kernel
set_option maxRecDepth 100000 in
theorem c_Md_readSearch_137 : ct_Md_readSearch 137 = ka_ci (nI 1) 1 := rfl
theorem d_Md_readSearch_137 : decode prog_12_method_26_code 137 = .ok (.iconst 1, 1) := by decide +kernel
set_option maxRecDepth 100000 in
theorem c_Md_readSearch_138 : ct_Md_readSearch 138 = ka_cv 100 3 10 0 0 := rfl
theorem d_Md_readSearch_138 : decode prog_12_method_26_code 138 = .ok (.invokevirtual 116, 3) := by decide +kernel
set_option maxRecDepth 100000 in
theorem c_Md_readSearch_141 : ct_Md_readSearch 141 = ka_if (fun x => x = 0) 157 := rfl
theorem d_Md_readSearch_141 : decode prog_12_method_26_code 141 = .ok (.ifCond .eq 16, 3) := by decide +kernel
set_option maxRecDepth 100000 in
theorem c_Md_readSearch_144 : ct_Md_readSearch 144 = ka_al 0 1 := rfl
theorem d_Md_readSearch_144 : decode prog_12_method_26_code 144 = .ok (.aload_n 0, 1) := by decide +kernel
set_option maxRecDepth 100000 in
theorem c_Md_readSearch_145 : ct_Md_readSearch 145 = ka_get 10 15 := rfl
theorem d_Md_readSearch_145 : decode prog_12_method_26_code 145 = .ok (.getfield 109, 3) := by decide +kernel
set_option maxRecDepth 100000 in
theorem c_Md_readSearch_148 : ct_Md_readSearch 148 = ka_al 0 1 := rfl
theorem d_Md_readSearch_148 : decode prog_12_method_26_code 148 = .ok (.aload_n 0, 1) := by decide +kernel
set_option maxRecDepth 100000 in
theorem c_Md_readSearch_149 : ct_Md_readSearch 149 = ka_get 10 14 := rfl
theorem d_Md_readSearch_149 : decode prog_12_method_26_code 149 = .ok (.getfield 106, 3) := by decide +kernel
set_option maxRecDepth 100000 in
theorem c_Md_readSearch_152 : ct_Md_readSearch 152 = ka_ii (fun x y => x - y) := rfl
theorem d_Md_readSearch_152 : decode prog_12_method_26_code 152 = .ok (.isub, 1) := by decide +kernel
set_option maxRecDepth 100000 in
theorem c_Md_readSearch_153 : ct_Md_readSearch 153 = ka_ci (nI 1) 1 := rfl
theorem d_Md_readSearch_153 : decode prog_12_method_26_code 153 = .ok (.iconst 1, 1) := by decide +kernel
set_option maxRecDepth 100000 in
theorem c_Md_readSearch_154 : ct_Md_readSearch 154 = ka_cm (fun x y => x = y) 159 := rfl
theorem d_Md_readSearch_154 : decode prog_12_method_26_code 154 = .ok (.if_icmp .eq 5, 3) := by decide +kernel
set_option maxRecDepth 100000 in
theorem c_Md_readSearch_157 : ct_Md_readSearch 157 = ka_ci (nI 0) 1 := rfl
theorem d_Md_readSearch_157 : decode prog_12_method_26_code 157 = .ok (.iconst 0, 1) := by decide +kernel
set_option maxRecDepth 100000 in
theorem c_Md_readSearch_158 : ct_Md_readSearch 158 = ka_rz := rfl
theorem d_Md_readSearch_158 : decode prog_12_method_26_code 158 = .ok (.ireturn, 1) := by decide +kernel
set_option maxRecDepth 100000 in
theorem c_Md_readSearch_159 : ct_Md_readSearch 159 = ka_al 0 1 := rfl
theorem d_Md_readSearch_159 : decode prog_12_method_26_code 159 = .ok (.aload_n 0, 1) := by decide +kernel
set_option maxRecDepth 100000 in
theorem c_Md_readSearch_160 : ct_Md_readSearch 160 = ka_al 0 1 := rfl
theorem d_Md_readSearch_160 : decode prog_12_method_26_code 160 = .ok (.aload_n 0, 1) := by decide +kernel
set_option maxRecDepth 100000 in
theorem c_Md_readSearch_161 : ct_Md_readSearch 161 = ka_get 10 2 := rfl
theorem d_Md_readSearch_161 : decode prog_12_method_26_code 161 = .ok (.getfield 7, 3) := by decide +kernel
set_option maxRecDepth 100000 in
theorem c_Md_readSearch_164 : ct_Md_readSearch 164 = ka_al 0 1 := rfl
theorem d_Md_readSearch_164 : decode prog_12_method_26_code 164 = .ok (.aload_n 0, 1) := by decide +kernel
set_option maxRecDepth 100000 in
theorem c_Md_readSearch_165 : ct_Md_readSearch 165 = ka_get 10 14 := rfl
theorem d_Md_readSearch_165 : decode prog_12_method_26_code 165 = .ok (.getfield 106, 3) := by decide +kernel
set_option maxRecDepth 100000 in
theorem c_Md_readSearch_168 : ct_Md_readSearch 168 = ka_iald := rfl
theorem d_Md_readSearch_168 : decode prog_12_method_26_code 168 = .ok (.iaload, 1) := by decide +kernel
set_option maxRecDepth 100000 in
theorem c_Md_readSearch_169 : ct_Md_readSearch 169 = ka_if (fun x => x = 0) 176 := rfl
theorem d_Md_readSearch_169 : decode prog_12_method_26_code 169 = .ok (.ifCond .eq 7, 3) := by decide +kernel
set_option maxRecDepth 100000 in
theorem c_Md_readSearch_172 : ct_Md_readSearch 172 = ka_ci (nI 1) 1 := rfl
theorem d_Md_readSearch_172 : decode prog_12_method_26_code 172 = .ok (.iconst 1, 1) := by decide +kernel
set_option maxRecDepth 100000 in
theorem c_Md_readSearch_173 : ct_Md_readSearch 173 = ka_goto 177 := rfl
theorem d_Md_readSearch_173 : decode prog_12_method_26_code 173 = .ok (.goto 4, 3) := by decide +kernel
set_option maxRecDepth 100000 in
theorem c_Md_readSearch_176 : ct_Md_readSearch 176 = ka_ci (nI 0) 1 := rfl
theorem d_Md_readSearch_176 : decode prog_12_method_26_code 176 = .ok (.iconst 0, 1) := by decide +kernel
set_option maxRecDepth 100000 in
theorem c_Md_readSearch_177 : ct_Md_readSearch 177 = ka_put 10 30 .boolean := rfl
theorem d_Md_readSearch_177 : decode prog_12_method_26_code 177 = .ok (.putfield 214, 3) := by decide +kernel
set_option maxRecDepth 100000 in
theorem c_Md_readSearch_180 : ct_Md_readSearch 180 = ka_al 0 1 := rfl
theorem d_Md_readSearch_180 : decode prog_12_method_26_code 180 = .ok (.aload_n 0, 1) := by decide +kernel
set_option maxRecDepth 100000 in
theorem c_Md_readSearch_181 : ct_Md_readSearch 181 = ka_al 0 1 := rfl
theorem d_Md_readSearch_181 : decode prog_12_method_26_code 181 = .ok (.aload_n 0, 1) := by decide +kernel
set_option maxRecDepth 100000 in
theorem c_Md_readSearch_182 : ct_Md_readSearch 182 = ka_get 10 15 := rfl
theorem d_Md_readSearch_182 : decode prog_12_method_26_code 182 = .ok (.getfield 109, 3) := by decide +kernel
set_option maxRecDepth 100000 in
theorem c_Md_readSearch_185 : ct_Md_readSearch 185 = ka_cv 119 1 10 0 0 := rfl
theorem d_Md_readSearch_185 : decode prog_12_method_26_code 185 = .ok (.invokevirtual 217, 3) := by decide +kernel
set_option maxRecDepth 100000 in
theorem c_Md_readSearch_188 : ct_Md_readSearch 188 = ka_is 1 1 := rfl
theorem d_Md_readSearch_188 : decode prog_12_method_26_code 188 = .ok (.istore_n 1, 1) := by decide +kernel
set_option maxRecDepth 100000 in
theorem c_Md_readSearch_189 : ct_Md_readSearch 189 = ka_il 1 1 := rfl
theorem d_Md_readSearch_189 : decode prog_12_method_26_code 189 = .ok (.iload_n 1, 1) := by decide +kernel
set_option maxRecDepth 100000 in
theorem c_Md_readSearch_190 : ct_Md_readSearch 190 = ka_if (fun x => x < 0) 205 := rfl
theorem d_Md_readSearch_190 : decode prog_12_method_26_code 190 = .ok (.ifCond .lt 15, 3) := by decide +kernel
set_option maxRecDepth 100000 in
theorem c_Md_readSearch_193 : ct_Md_readSearch 193 = ka_al 0 1 := rfl
theorem d_Md_readSearch_193 : decode prog_12_method_26_code 193 = .ok (.aload_n 0, 1) := by decide +kernel
set_option maxRecDepth 100000 in
theorem c_Md_readSearch_194 : ct_Md_readSearch 194 = ka_il 1 1 := rfl
theorem d_Md_readSearch_194 : decode prog_12_method_26_code 194 = .ok (.iload_n 1, 1) := by decide +kernel
set_option maxRecDepth 100000 in
theorem c_Md_readSearch_195 : ct_Md_readSearch 195 = ka_cv 120 1 10 0 0 := rfl
theorem d_Md_readSearch_195 : decode prog_12_method_26_code 195 = .ok (.invokevirtual 220, 3) := by decide +kernel
set_option maxRecDepth 100000 in
theorem c_Md_readSearch_198 : ct_Md_readSearch 198 = ka_if (fun x => x = 0) 205 := rfl
theorem d_Md_readSearch_198 : decode prog_12_method_26_code 198 = .ok (.ifCond .eq 7, 3) := by decide +kernel
set_option maxRecDepth 100000 in
theorem c_Md_readSearch_201 : ct_Md_readSearch 201 = ka_ci (nI 1) 1 := rfl
theorem d_Md_readSearch_201 : decode prog_12_method_26_code 201 = .ok (.iconst 1, 1) := by decide +kernel
set_option maxRecDepth 100000 in
theorem c_Md_readSearch_202 : ct_Md_readSearch 202 = ka_goto 206 := rfl
theorem d_Md_readSearch_202 : decode prog_12_method_26_code 202 = .ok (.goto 4, 3) := by decide +kernel
set_option maxRecDepth 100000 in
theorem c_Md_readSearch_205 : ct_Md_readSearch 205 = ka_ci (nI 0) 1 := rfl
theorem d_Md_readSearch_205 : decode prog_12_method_26_code 205 = .ok (.iconst 0, 1) := by decide +kernel
set_option maxRecDepth 100000 in
theorem c_Md_readSearch_206 : ct_Md_readSearch 206 = ka_rz := rfl
theorem d_Md_readSearch_206 : decode prog_12_method_26_code 206 = .ok (.ireturn, 1) := by decide +kernel
set_option maxRecDepth 100000 in
set_option maxHeartbeats 4000000 in
theorem s_Md_readSearch_60 : ∀ pc, pc < 60 → kc_Sim kt kw_A kw_N kt_cl kt_En "DirectoryDeskModel" prog_12_method_26_code 2 (some .boolean) "readSearch" none pc (ct_Md_readSearch pc) := by
  let P : Nat → Prop := fun pc => kc_Sim kt kw_A kw_N kt_cl kt_En "DirectoryDeskModel" prog_12_method_26_code 2 (some .boolean) "readSearch" none pc (ct_Md_readSearch pc)
  exact kc_case (P := P) (kc_se rfl sm_no) (
  kc_case (P := P) (kc_se c_Md_readSearch_58 (sm_get (ci := 10) (C := "DirectoryDeskModel") (F := kF_Md) rfl kin_Md (Nat.le_of_ble_eq_true rfl) d_Md_readSearch_58 (kw3 197 rfl rfl))) (
  kc_case (P := P) (kc_se c_Md_readSearch_57 (sm_aload_n d_Md_readSearch_57 rfl)) (
  kc_case (P := P) (kc_se rfl sm_no) (
  kc_case (P := P) (kc_se rfl sm_no) (
  kc_case (P := P) (kc_se c_Md_readSearch_54 (sm_get (ci := 10) (C := "DirectoryDeskModel") (F := kF_Md) rfl kin_Md (Nat.le_of_ble_eq_true rfl) d_Md_readSearch_54 (kw3 185 rfl rfl))) (
  kc_case (P := P) (kc_se c_Md_readSearch_53 (sm_aload_n d_Md_readSearch_53 rfl)) (
  kc_case (P := P) (kc_se c_Md_readSearch_52 (sm_aload_n d_Md_readSearch_52 rfl)) (
  kc_case (P := P) (kc_se c_Md_readSearch_51 (sm_rz d_Md_readSearch_51 rfl)) (
  kc_case (P := P) (kc_se c_Md_readSearch_50 (sm_iconst d_Md_readSearch_50 (by decide))) (
  kc_case (P := P) (kc_se rfl sm_no) (
  kc_case (P := P) (kc_se rfl sm_no) (
  kc_case (P := P) (kc_se c_Md_readSearch_47 (sm_if_ne d_Md_readSearch_47 (by decide))) (
  kc_case (P := P) (kc_se rfl sm_no) (
  kc_case (P := P) (kc_se rfl sm_no) (
  kc_case (P := P) (kc_se c_Md_readSearch_44 (sm_cv (j := 103) rfl rfl kw_o kw_g wc_Md_chosen (Nat.le_of_ble_eq_true rfl) hd_Md_chosen (ci := 10) (F := kF_Md) (N := 52) rfl (kw4 145 rfl rfl) wi_Md_chosen ws_Md_chosen wn_Md_chosen d_Md_readSearch_44)) (
  kc_case (P := P) (kc_se c_Md_readSearch_43 (sm_iconst d_Md_readSearch_43 (by decide))) (
  kc_case (P := P) (kc_se rfl sm_no) (
  kc_case (P := P) (kc_se rfl sm_no) (
  kc_case (P := P) (kc_se c_Md_readSearch_40 (sm_get (ci := 10) (C := "DirectoryDeskModel") (F := kF_Md) rfl kin_Md (Nat.le_of_ble_eq_true rfl) d_Md_readSearch_40 (kw3 202 rfl rfl))) (
  kc_case (P := P) (kc_se c_Md_readSearch_39 (sm_aload_n d_Md_readSearch_39 rfl)) (
  kc_case (P := P) (kc_se rfl sm_no) (
  kc_case (P := P) (kc_se rfl sm_no) (
  kc_case (P := P) (kc_se c_Md_readSearch_36 (sm_get (ci := 10) (C := "DirectoryDeskModel") (F := kF_Md) rfl kin_Md (Nat.le_of_ble_eq_true rfl) d_Md_readSearch_36 (kw3 198 rfl rfl))) (
  kc_case (P := P) (kc_se c_Md_readSearch_35 (sm_aload_n d_Md_readSearch_35 rfl)) (
  kc_case (P := P) (kc_se c_Md_readSearch_34 (sm_aload_n d_Md_readSearch_34 rfl)) (
  kc_case (P := P) (kc_se rfl sm_no) (
  kc_case (P := P) (kc_se rfl sm_no) (
  kc_case (P := P) (kc_se c_Md_readSearch_31 (sm_put (ci := 10) (C := "DirectoryDeskModel") (F := kF_Md) rfl kin_Md kty_Md ktk_Md knm_Md (Nat.le_of_ble_eq_true rfl) (by decide +kernel) d_Md_readSearch_31 (kw3 207 rfl rfl) rfl)) (
  kc_case (P := P) (kc_se rfl sm_no) (
  kc_case (P := P) (kc_se rfl sm_no) (
  kc_case (P := P) (kc_se c_Md_readSearch_28 (sm_get (ci := 10) (C := "DirectoryDeskModel") (F := kF_Md) rfl kin_Md (Nat.le_of_ble_eq_true rfl) d_Md_readSearch_28 (kw3 198 rfl rfl))) (
  kc_case (P := P) (kc_se c_Md_readSearch_27 (sm_aload_n d_Md_readSearch_27 rfl)) (
  kc_case (P := P) (kc_se c_Md_readSearch_26 (sm_aload_n d_Md_readSearch_26 rfl)) (
  kc_case (P := P) (kc_se rfl sm_no) (
  kc_case (P := P) (kc_se rfl sm_no) (
  kc_case (P := P) (kc_se c_Md_readSearch_23 (sm_put (ci := 10) (C := "DirectoryDeskModel") (F := kF_Md) rfl kin_Md kty_Md ktk_Md knm_Md (Nat.le_of_ble_eq_true rfl) (by decide +kernel) d_Md_readSearch_23 (kw3 206 rfl rfl) rfl)) (
  kc_case (P := P) (kc_se rfl sm_no) (
  kc_case (P := P) (kc_se rfl sm_no) (
  kc_case (P := P) (kc_se c_Md_readSearch_20 (sm_get (ci := 10) (C := "DirectoryDeskModel") (F := kF_Md) rfl kin_Md (Nat.le_of_ble_eq_true rfl) d_Md_readSearch_20 (kw3 197 rfl rfl))) (
  kc_case (P := P) (kc_se c_Md_readSearch_19 (sm_aload_n d_Md_readSearch_19 rfl)) (
  kc_case (P := P) (kc_se c_Md_readSearch_18 (sm_aload_n d_Md_readSearch_18 rfl)) (
  kc_case (P := P) (kc_se c_Md_readSearch_17 (sm_rz d_Md_readSearch_17 rfl)) (
  kc_case (P := P) (kc_se c_Md_readSearch_16 (sm_iconst d_Md_readSearch_16 (by decide))) (
  kc_case (P := P) (kc_se rfl sm_no) (
  kc_case (P := P) (kc_se rfl sm_no) (
  kc_case (P := P) (kc_se c_Md_readSearch_13 (sm_if_ne d_Md_readSearch_13 (by decide))) (
  kc_case (P := P) (kc_se rfl sm_no) (
  kc_case (P := P) (kc_se rfl sm_no) (
  kc_case (P := P) (kc_se c_Md_readSearch_10 (sm_cv (j := 100) rfl rfl kw_o kw_g wc_Md_tagged (Nat.le_of_ble_eq_true rfl) hd_Md_tagged (ci := 10) (F := kF_Md) (N := 52) rfl (kw4 117 rfl rfl) wi_Md_tagged ws_Md_tagged wn_Md_tagged d_Md_readSearch_10)) (
  kc_case (P := P) (kc_se c_Md_readSearch_9 (sm_iconst d_Md_readSearch_9 (by decide))) (
  kc_case (P := P) (kc_se rfl sm_no) (
  kc_case (P := P) (kc_se rfl sm_no) (
  kc_case (P := P) (kc_se c_Md_readSearch_6 (sm_get (ci := 10) (C := "DirectoryDeskModel") (F := kF_Md) rfl kin_Md (Nat.le_of_ble_eq_true rfl) d_Md_readSearch_6 (kw3 202 rfl rfl))) (
  kc_case (P := P) (kc_se c_Md_readSearch_5 (sm_aload_n d_Md_readSearch_5 rfl)) (
  kc_case (P := P) (kc_se rfl sm_no) (
  kc_case (P := P) (kc_se rfl sm_no) (
  kc_case (P := P) (kc_se c_Md_readSearch_2 (sm_get (ci := 10) (C := "DirectoryDeskModel") (F := kF_Md) rfl kin_Md (Nat.le_of_ble_eq_true rfl) d_Md_readSearch_2 (kw3 201 rfl rfl))) (
  kc_case (P := P) (kc_se c_Md_readSearch_1 (sm_aload_n d_Md_readSearch_1 rfl)) (
  kc_case (P := P) (kc_se c_Md_readSearch_0 (sm_aload_n d_Md_readSearch_0 rfl)) (
  kc_case0))))))))))))))))))))))))))))))))))))))))))))))))))))))))))))
set_option maxRecDepth 100000 in
set_option maxHeartbeats 4000000 in
theorem s_Md_readSearch_120 : ∀ pc, pc < 120 → kc_Sim kt kw_A kw_N kt_cl kt_En "DirectoryDeskModel" prog_12_method_26_code 2 (some .boolean) "readSearch" none pc (ct_Md_readSearch pc) := by
  let P : Nat → Prop := fun pc => kc_Sim kt kw_A kw_N kt_cl kt_En "DirectoryDeskModel" prog_12_method_26_code 2 (some .boolean) "readSearch" none pc (ct_Md_readSearch pc)
  exact kc_case (P := P) (kc_se c_Md_readSearch_119 (sm_get (ci := 10) (C := "DirectoryDeskModel") (F := kF_Md) rfl kin_Md (Nat.le_of_ble_eq_true rfl) d_Md_readSearch_119 (kw3 202 rfl rfl))) (
  kc_case (P := P) (kc_se c_Md_readSearch_118 (sm_aload_n d_Md_readSearch_118 rfl)) (
  kc_case (P := P) (kc_se rfl sm_no) (
  kc_case (P := P) (kc_se rfl sm_no) (
  kc_case (P := P) (kc_se c_Md_readSearch_115 (sm_get (ci := 10) (C := "DirectoryDeskModel") (F := kF_Md) rfl kin_Md (Nat.le_of_ble_eq_true rfl) d_Md_readSearch_115 (kw3 198 rfl rfl))) (
  kc_case (P := P) (kc_se c_Md_readSearch_114 (sm_aload_n d_Md_readSearch_114 rfl)) (
  kc_case (P := P) (kc_se c_Md_readSearch_113 (sm_aload_n d_Md_readSearch_113 rfl)) (
  kc_case (P := P) (kc_se rfl sm_no) (
  kc_case (P := P) (kc_se rfl sm_no) (
  kc_case (P := P) (kc_se c_Md_readSearch_110 (sm_if_lt d_Md_readSearch_110 (by decide))) (
  kc_case (P := P) (kc_se rfl sm_no) (
  kc_case (P := P) (kc_se rfl sm_no) (
  kc_case (P := P) (kc_se c_Md_readSearch_107 (sm_get (ci := 10) (C := "DirectoryDeskModel") (F := kF_Md) rfl kin_Md (Nat.le_of_ble_eq_true rfl) d_Md_readSearch_107 (kw3 212 rfl rfl))) (
  kc_case (P := P) (kc_se c_Md_readSearch_106 (sm_aload_n d_Md_readSearch_106 rfl)) (
  kc_case (P := P) (kc_se rfl sm_no) (
  kc_case (P := P) (kc_se rfl sm_no) (
  kc_case (P := P) (kc_se c_Md_readSearch_103 (sm_put (ci := 10) (C := "DirectoryDeskModel") (F := kF_Md) rfl kin_Md kty_Md ktk_Md knm_Md (Nat.le_of_ble_eq_true rfl) (by decide +kernel) d_Md_readSearch_103 (kw3 212 rfl rfl) rfl)) (
  kc_case (P := P) (kc_se rfl sm_no) (
  kc_case (P := P) (kc_se rfl sm_no) (
  kc_case (P := P) (kc_se c_Md_readSearch_100 (sm_cv (j := 102) rfl rfl kw_o kw_g wc_Md_number (Nat.le_of_ble_eq_true rfl) hd_Md_number (ci := 10) (F := kF_Md) (N := 52) rfl (kw4 129 rfl rfl) wi_Md_number ws_Md_number wn_Md_number d_Md_readSearch_100)) (
  kc_case (P := P) (kc_se c_Md_readSearch_99 (sm_aload_n d_Md_readSearch_99 rfl)) (
  kc_case (P := P) (kc_se c_Md_readSearch_98 (sm_aload_n d_Md_readSearch_98 rfl)) (
  kc_case (P := P) (kc_se c_Md_readSearch_97 (sm_rz d_Md_readSearch_97 rfl)) (
  kc_case (P := P) (kc_se c_Md_readSearch_96 (sm_iconst d_Md_readSearch_96 (by decide))) (
  kc_case (P := P) (kc_se rfl sm_no) (
  kc_case (P := P) (kc_se rfl sm_no) (
  kc_case (P := P) (kc_se c_Md_readSearch_93 (sm_if_ne d_Md_readSearch_93 (by decide))) (
  kc_case (P := P) (kc_se rfl sm_no) (
  kc_case (P := P) (kc_se rfl sm_no) (
  kc_case (P := P) (kc_se c_Md_readSearch_90 (sm_cv (j := 101) rfl rfl kw_o kw_g wc_Md_numbered (Nat.le_of_ble_eq_true rfl) hd_Md_numbered (ci := 10) (F := kF_Md) (N := 52) rfl (kw4 125 rfl rfl) wi_Md_numbered ws_Md_numbered wn_Md_numbered d_Md_readSearch_90)) (
  kc_case (P := P) (kc_se rfl sm_no) (
  kc_case (P := P) (kc_se rfl sm_no) (
  kc_case (P := P) (kc_se c_Md_readSearch_87 (sm_get (ci := 10) (C := "DirectoryDeskModel") (F := kF_Md) rfl kin_Md (Nat.le_of_ble_eq_true rfl) d_Md_readSearch_87 (kw3 202 rfl rfl))) (
  kc_case (P := P) (kc_se c_Md_readSearch_86 (sm_aload_n d_Md_readSearch_86 rfl)) (
  kc_case (P := P) (kc_se rfl sm_no) (
  kc_case (P := P) (kc_se rfl sm_no) (
  kc_case (P := P) (kc_se c_Md_readSearch_83 (sm_get (ci := 10) (C := "DirectoryDeskModel") (F := kF_Md) rfl kin_Md (Nat.le_of_ble_eq_true rfl) d_Md_readSearch_83 (kw3 198 rfl rfl))) (
  kc_case (P := P) (kc_se c_Md_readSearch_82 (sm_aload_n d_Md_readSearch_82 rfl)) (
  kc_case (P := P) (kc_se c_Md_readSearch_81 (sm_aload_n d_Md_readSearch_81 rfl)) (
  kc_case (P := P) (kc_se rfl sm_no) (
  kc_case (P := P) (kc_se rfl sm_no) (
  kc_case (P := P) (kc_se c_Md_readSearch_78 (sm_if_eq d_Md_readSearch_78 (by decide))) (
  kc_case (P := P) (kc_se rfl sm_no) (
  kc_case (P := P) (kc_se rfl sm_no) (
  kc_case (P := P) (kc_se c_Md_readSearch_75 (sm_cv (j := 103) rfl rfl kw_o kw_g wc_Md_chosen (Nat.le_of_ble_eq_true rfl) hd_Md_chosen (ci := 10) (F := kF_Md) (N := 52) rfl (kw4 145 rfl rfl) wi_Md_chosen ws_Md_chosen wn_Md_chosen d_Md_readSearch_75)) (
  kc_case (P := P) (kc_se c_Md_readSearch_74 (sm_iconst d_Md_readSearch_74 (by decide))) (
  kc_case (P := P) (kc_se rfl sm_no) (
  kc_case (P := P) (kc_se rfl sm_no) (
  kc_case (P := P) (kc_se c_Md_readSearch_71 (sm_get (ci := 10) (C := "DirectoryDeskModel") (F := kF_Md) rfl kin_Md (Nat.le_of_ble_eq_true rfl) d_Md_readSearch_71 (kw3 202 rfl rfl))) (
  kc_case (P := P) (kc_se c_Md_readSearch_70 (sm_aload_n d_Md_readSearch_70 rfl)) (
  kc_case (P := P) (kc_se rfl sm_no) (
  kc_case (P := P) (kc_se rfl sm_no) (
  kc_case (P := P) (kc_se c_Md_readSearch_67 (sm_get (ci := 10) (C := "DirectoryDeskModel") (F := kF_Md) rfl kin_Md (Nat.le_of_ble_eq_true rfl) d_Md_readSearch_67 (kw3 198 rfl rfl))) (
  kc_case (P := P) (kc_se c_Md_readSearch_66 (sm_aload_n d_Md_readSearch_66 rfl)) (
  kc_case (P := P) (kc_se c_Md_readSearch_65 (sm_aload_n d_Md_readSearch_65 rfl)) (
  kc_case (P := P) (kc_se rfl sm_no) (
  kc_case (P := P) (kc_se rfl sm_no) (
  kc_case (P := P) (kc_se c_Md_readSearch_62 (sm_put (ci := 10) (C := "DirectoryDeskModel") (F := kF_Md) rfl kin_Md kty_Md ktk_Md knm_Md (Nat.le_of_ble_eq_true rfl) (by decide +kernel) d_Md_readSearch_62 (kw3 211 rfl rfl) rfl)) (
  kc_case (P := P) (kc_se c_Md_readSearch_61 (sm_iald d_Md_readSearch_61)) (
  kc_case (P := P) (kc_se rfl sm_no) (
  s_Md_readSearch_60))))))))))))))))))))))))))))))))))))))))))))))))))))))))))))
set_option maxRecDepth 100000 in
set_option maxHeartbeats 4000000 in
theorem s_Md_readSearch_180 : ∀ pc, pc < 180 → kc_Sim kt kw_A kw_N kt_cl kt_En "DirectoryDeskModel" prog_12_method_26_code 2 (some .boolean) "readSearch" none pc (ct_Md_readSearch pc) := by
  let P : Nat → Prop := fun pc => kc_Sim kt kw_A kw_N kt_cl kt_En "DirectoryDeskModel" prog_12_method_26_code 2 (some .boolean) "readSearch" none pc (ct_Md_readSearch pc)
  exact kc_case (P := P) (kc_se rfl sm_no) (
  kc_case (P := P) (kc_se rfl sm_no) (
  kc_case (P := P) (kc_se c_Md_readSearch_177 (sm_put (ci := 10) (C := "DirectoryDeskModel") (F := kF_Md) rfl kin_Md kty_Md ktk_Md knm_Md (Nat.le_of_ble_eq_true rfl) (by decide +kernel) d_Md_readSearch_177 (kw3 213 rfl rfl) rfl)) (
  kc_case (P := P) (kc_se c_Md_readSearch_176 (sm_iconst d_Md_readSearch_176 (by decide))) (
  kc_case (P := P) (kc_se rfl sm_no) (
  kc_case (P := P) (kc_se rfl sm_no) (
  kc_case (P := P) (kc_se c_Md_readSearch_173 (sm_goto d_Md_readSearch_173 (by decide))) (
  kc_case (P := P) (kc_se c_Md_readSearch_172 (sm_iconst d_Md_readSearch_172 (by decide))) (
  kc_case (P := P) (kc_se rfl sm_no) (
  kc_case (P := P) (kc_se rfl sm_no) (
  kc_case (P := P) (kc_se c_Md_readSearch_169 (sm_if_eq d_Md_readSearch_169 (by decide))) (
  kc_case (P := P) (kc_se c_Md_readSearch_168 (sm_iald d_Md_readSearch_168)) (
  kc_case (P := P) (kc_se rfl sm_no) (
  kc_case (P := P) (kc_se rfl sm_no) (
  kc_case (P := P) (kc_se c_Md_readSearch_165 (sm_get (ci := 10) (C := "DirectoryDeskModel") (F := kF_Md) rfl kin_Md (Nat.le_of_ble_eq_true rfl) d_Md_readSearch_165 (kw3 197 rfl rfl))) (
  kc_case (P := P) (kc_se c_Md_readSearch_164 (sm_aload_n d_Md_readSearch_164 rfl)) (
  kc_case (P := P) (kc_se rfl sm_no) (
  kc_case (P := P) (kc_se rfl sm_no) (
  kc_case (P := P) (kc_se c_Md_readSearch_161 (sm_get (ci := 10) (C := "DirectoryDeskModel") (F := kF_Md) rfl kin_Md (Nat.le_of_ble_eq_true rfl) d_Md_readSearch_161 (kw3 185 rfl rfl))) (
  kc_case (P := P) (kc_se c_Md_readSearch_160 (sm_aload_n d_Md_readSearch_160 rfl)) (
  kc_case (P := P) (kc_se c_Md_readSearch_159 (sm_aload_n d_Md_readSearch_159 rfl)) (
  kc_case (P := P) (kc_se c_Md_readSearch_158 (sm_rz d_Md_readSearch_158 rfl)) (
  kc_case (P := P) (kc_se c_Md_readSearch_157 (sm_iconst d_Md_readSearch_157 (by decide))) (
  kc_case (P := P) (kc_se rfl sm_no) (
  kc_case (P := P) (kc_se rfl sm_no) (
  kc_case (P := P) (kc_se c_Md_readSearch_154 (sm_cm_eq d_Md_readSearch_154 (by decide))) (
  kc_case (P := P) (kc_se c_Md_readSearch_153 (sm_iconst d_Md_readSearch_153 (by decide))) (
  kc_case (P := P) (kc_se c_Md_readSearch_152 (sm_isub d_Md_readSearch_152)) (
  kc_case (P := P) (kc_se rfl sm_no) (
  kc_case (P := P) (kc_se rfl sm_no) (
  kc_case (P := P) (kc_se c_Md_readSearch_149 (sm_get (ci := 10) (C := "DirectoryDeskModel") (F := kF_Md) rfl kin_Md (Nat.le_of_ble_eq_true rfl) d_Md_readSearch_149 (kw3 197 rfl rfl))) (
  kc_case (P := P) (kc_se c_Md_readSearch_148 (sm_aload_n d_Md_readSearch_148 rfl)) (
  kc_case (P := P) (kc_se rfl sm_no) (
  kc_case (P := P) (kc_se rfl sm_no) (
  kc_case (P := P) (kc_se c_Md_readSearch_145 (sm_get (ci := 10) (C := "DirectoryDeskModel") (F := kF_Md) rfl kin_Md (Nat.le_of_ble_eq_true rfl) d_Md_readSearch_145 (kw3 198 rfl rfl))) (
  kc_case (P := P) (kc_se c_Md_readSearch_144 (sm_aload_n d_Md_readSearch_144 rfl)) (
  kc_case (P := P) (kc_se rfl sm_no) (
  kc_case (P := P) (kc_se rfl sm_no) (
  kc_case (P := P) (kc_se c_Md_readSearch_141 (sm_if_eq d_Md_readSearch_141 (by decide))) (
  kc_case (P := P) (kc_se rfl sm_no) (
  kc_case (P := P) (kc_se rfl sm_no) (
  kc_case (P := P) (kc_se c_Md_readSearch_138 (sm_cv (j := 100) rfl rfl kw_o kw_g wc_Md_tagged (Nat.le_of_ble_eq_true rfl) hd_Md_tagged (ci := 10) (F := kF_Md) (N := 52) rfl (kw4 117 rfl rfl) wi_Md_tagged ws_Md_tagged wn_Md_tagged d_Md_readSearch_138)) (
  kc_case (P := P) (kc_se c_Md_readSearch_137 (sm_iconst d_Md_readSearch_137 (by decide))) (
  kc_case (P := P) (kc_se rfl sm_no) (
  kc_case (P := P) (kc_se rfl sm_no) (
  kc_case (P := P) (kc_se c_Md_readSearch_134 (sm_get (ci := 10) (C := "DirectoryDeskModel") (F := kF_Md) rfl kin_Md (Nat.le_of_ble_eq_true rfl) d_Md_readSearch_134 (kw3 202 rfl rfl))) (
  kc_case (P := P) (kc_se c_Md_readSearch_133 (sm_aload_n d_Md_readSearch_133 rfl)) (
  kc_case (P := P) (kc_se rfl sm_no) (
  kc_case (P := P) (kc_se rfl sm_no) (
  kc_case (P := P) (kc_se c_Md_readSearch_130 (sm_get (ci := 10) (C := "DirectoryDeskModel") (F := kF_Md) rfl kin_Md (Nat.le_of_ble_eq_true rfl) d_Md_readSearch_130 (kw3 198 rfl rfl))) (
  kc_case (P := P) (kc_se c_Md_readSearch_129 (sm_aload_n d_Md_readSearch_129 rfl)) (
  kc_case (P := P) (kc_se c_Md_readSearch_128 (sm_aload_n d_Md_readSearch_128 rfl)) (
  kc_case (P := P) (kc_se rfl sm_no) (
  kc_case (P := P) (kc_se rfl sm_no) (
  kc_case (P := P) (kc_se c_Md_readSearch_125 (sm_if_eq d_Md_readSearch_125 (by decide))) (
  kc_case (P := P) (kc_se rfl sm_no) (
  kc_case (P := P) (kc_se rfl sm_no) (
  kc_case (P := P) (kc_se c_Md_readSearch_122 (sm_cv (j := 101) rfl rfl kw_o kw_g wc_Md_numbered (Nat.le_of_ble_eq_true rfl) hd_Md_numbered (ci := 10) (F := kF_Md) (N := 52) rfl (kw4 125 rfl rfl) wi_Md_numbered ws_Md_numbered wn_Md_numbered d_Md_readSearch_122)) (
  kc_case (P := P) (kc_se rfl sm_no) (
  kc_case (P := P) (kc_se rfl sm_no) (
  s_Md_readSearch_120))))))))))))))))))))))))))))))))))))))))))))))))))))))))))))
set_option maxRecDepth 100000 in
set_option maxHeartbeats 4000000 in
theorem s_Md_readSearch_207 : ∀ pc, pc < 207 → kc_Sim kt kw_A kw_N kt_cl kt_En "DirectoryDeskModel" prog_12_method_26_code 2 (some .boolean) "readSearch" none pc (ct_Md_readSearch pc) := by
  let P : Nat → Prop := fun pc => kc_Sim kt kw_A kw_N kt_cl kt_En "DirectoryDeskModel" prog_12_method_26_code 2 (some .boolean) "readSearch" none pc (ct_Md_readSearch pc)
  exact kc_case (P := P) (kc_se c_Md_readSearch_206 (sm_rz d_Md_readSearch_206 rfl)) (
  kc_case (P := P) (kc_se c_Md_readSearch_205 (sm_iconst d_Md_readSearch_205 (by decide))) (
  kc_case (P := P) (kc_se rfl sm_no) (
  kc_case (P := P) (kc_se rfl sm_no) (
  kc_case (P := P) (kc_se c_Md_readSearch_202 (sm_goto d_Md_readSearch_202 (by decide))) (
  kc_case (P := P) (kc_se c_Md_readSearch_201 (sm_iconst d_Md_readSearch_201 (by decide))) (
  kc_case (P := P) (kc_se rfl sm_no) (
  kc_case (P := P) (kc_se rfl sm_no) (
  kc_case (P := P) (kc_se c_Md_readSearch_198 (sm_if_eq d_Md_readSearch_198 (by decide))) (
  kc_case (P := P) (kc_se rfl sm_no) (
  kc_case (P := P) (kc_se rfl sm_no) (
  kc_case (P := P) (kc_se c_Md_readSearch_195 (sm_cv (j := 120) rfl rfl kw_o kw_g wc_Md_readWanted (Nat.le_of_ble_eq_true rfl) hd_Md_readWanted (ci := 10) (F := kF_Md) (N := 52) rfl (kw4 180 rfl rfl) wi_Md_readWanted ws_Md_readWanted wn_Md_readWanted d_Md_readSearch_195)) (
  kc_case (P := P) (kc_se c_Md_readSearch_194 (sm_iload_n d_Md_readSearch_194 rfl)) (
  kc_case (P := P) (kc_se c_Md_readSearch_193 (sm_aload_n d_Md_readSearch_193 rfl)) (
  kc_case (P := P) (kc_se rfl sm_no) (
  kc_case (P := P) (kc_se rfl sm_no) (
  kc_case (P := P) (kc_se c_Md_readSearch_190 (sm_if_lt d_Md_readSearch_190 (by decide))) (
  kc_case (P := P) (kc_se c_Md_readSearch_189 (sm_iload_n d_Md_readSearch_189 rfl)) (
  kc_case (P := P) (kc_se c_Md_readSearch_188 (sm_istore_n d_Md_readSearch_188 rfl (Nat.le_of_ble_eq_true rfl))) (
  kc_case (P := P) (kc_se rfl sm_no) (
  kc_case (P := P) (kc_se rfl sm_no) (
  kc_case (P := P) (kc_se c_Md_readSearch_185 (sm_cv (j := 119) rfl rfl kw_o kw_g wc_Md_readFilter (Nat.le_of_ble_eq_true rfl) hd_Md_readFilter (ci := 10) (F := kF_Md) (N := 52) rfl (kw4 149 rfl rfl) wi_Md_readFilter ws_Md_readFilter wn_Md_readFilter d_Md_readSearch_185)) (
  kc_case (P := P) (kc_se rfl sm_no) (
  kc_case (P := P) (kc_se rfl sm_no) (
  kc_case (P := P) (kc_se c_Md_readSearch_182 (sm_get (ci := 10) (C := "DirectoryDeskModel") (F := kF_Md) rfl kin_Md (Nat.le_of_ble_eq_true rfl) d_Md_readSearch_182 (kw3 198 rfl rfl))) (
  kc_case (P := P) (kc_se c_Md_readSearch_181 (sm_aload_n d_Md_readSearch_181 rfl)) (
  kc_case (P := P) (kc_se c_Md_readSearch_180 (sm_aload_n d_Md_readSearch_180 rfl)) (
  s_Md_readSearch_180)))))))))))))))))))))))))))
set_option maxRecDepth 100000 in
theorem ka_nth_no_Md_readSearch (pc : Nat) (h : 207 ≤ pc) : ct_Md_readSearch pc = ka_no := ka_nth_ge _ pc (Nat.le_trans (Nat.le_of_eq (by rfl)) h)
theorem s_Md_readSearch (pc : Nat) : kc_Sim kt kw_A kw_N kt_cl kt_En "DirectoryDeskModel" prog_12_method_26_code 2 (some .boolean) "readSearch" none pc (ct_Md_readSearch pc) := (Nat.lt_or_ge pc 207).elim (s_Md_readSearch_207 pc) (fun h => kc_se (ka_nth_no_Md_readSearch pc h) sm_no)
def cl_Md_readOperation_0 : List kc_A := [ka_al 0 1, ka_ci (nI 0) 1, ka_put 10 33 .int, ka_no, ka_no, ka_al 0 1, ka_ci (nI 0) 1, ka_put 10 38 .int, ka_no, ka_no, ka_al 0 1, ka_ci (nI 0) 1, ka_put 10 40 .int, ka_no, ka_no, ka_al 0 1, ka_ci (nI 0) 1, ka_put 10 46 .int, ka_no, ka_no, ka_al 0 1, ka_ci (nI 0) 1, ka_put 10 31 .int, ka_no, ka_no, ka_al 0 1, ka_ci (nI 0) 1, ka_put 10 32 .int, ka_no, ka_no, ka_al 0 1, ka_get 10 17, ka_no, ka_no, ka_sw (fun x => if x = nI 96 then 84 else if x = nI 97 then 106 else if x = nI 98 then 106 else if x = nI 99 then 89 else if x = nI 100 then 106 else if x = nI 101 then 106 else if x = nI 102 then 94 else if x = nI 103 then 106 else if x = nI 104 then 100 else 106), ka_no, ka_no, ka_no, ka_no, ka_no, ka_no, ka_no, ka_no, ka_no, ka_no, ka_no, ka_no, ka_no, ka_no, ka_no, ka_no, ka_no, ka_no, ka_no, ka_no, ka_no, ka_no, ka_no, ka_no, ka_no]
def cl_Md_readOperation_1 : List kc_A := [ka_no, ka_no, ka_no, ka_no, ka_no, ka_no, ka_no, ka_no, ka_no, ka_no, ka_no, ka_no, ka_no, ka_no, ka_no, ka_no, ka_no, ka_no, ka_no, ka_no, ka_no, ka_no, ka_no, ka_no, ka_al 0 1, ka_cv 111 0 10 0 0, ka_no, ka_no, ka_rz, ka_al 0 1, ka_cv 121 0 10 0 0, ka_no, ka_no, ka_rz, ka_al 0 1, ka_ci (nI 1) 1, ka_cv 114 1 10 0 0, ka_no, ka_no, ka_rz, ka_al 0 1, ka_ci (nI 0) 1, ka_cv 114 1 10 0 0, ka_no, ka_no, ka_rz, ka_al 0 1, ka_al 0 1, ka_get 10 18, ka_no, ka_no, ka_put 10 23 .int, ka_no, ka_no, ka_al 0 1, ka_al 0 1, ka_get 10 19, ka_no, ka_no, ka_put 10 24 .int]
def cl_Md_readOperation_2 : List kc_A := [ka_no, ka_no, ka_ci (nI 1) 1, ka_rz]
def ct_Md_readOperation : Nat → kc_A := fun pc => ka_nth (cl_Md_readOperation_0 ++ (cl_Md_readOperation_1 ++ (cl_Md_readOperation_2))) pc
set_option maxRecDepth 100000 in
theorem c_Md_readOperation_0 : ct_Md_readOperation 0 = ka_al 0 1 := rfl
theorem d_Md_readOperation_0 : decode prog_12_method_27_code 0 = .ok (.aload_n 0, 1) := by decide +kernel
set_option maxRecDepth 100000 in
theorem c_Md_readOperation_1 : ct_Md_readOperation 1 = ka_ci (nI 0) 1 := rfl
theorem d_Md_readOperation_1 : decode prog_12_method_27_code 1 = .ok (.iconst 0, 1) := by decide +kernel
set_option maxRecDepth 100000 in
theorem c_Md_readOperation_2 : ct_Md_readOperation 2 = ka_put 10 33 .int := rfl
theorem d_Md_readOperation_2 : decode prog_12_method_27_code 2 = .ok (.putfield 171, 3) := by decide +kernel
set_option maxRecDepth 100000 in
theorem c_Md_readOperation_5 : ct_Md_readOperation 5 = ka_al 0 1 := rfl
theorem d_Md_readOperation_5 : decode prog_12_method_27_code 5 = .ok (.aload_n 0, 1) := by decide +kernel
set_option maxRecDepth 100000 in
theorem c_Md_readOperation_6 : ct_Md_readOperation 6 = ka_ci (nI 0) 1 := rfl
theorem d_Md_readOperation_6 : decode prog_12_method_27_code 6 = .ok (.iconst 0, 1) := by decide +kernel
set_option maxRecDepth 100000 in
theorem c_Md_readOperation_7 : ct_Md_readOperation 7 = ka_put 10 38 .int := rfl
theorem d_Md_readOperation_7 : decode prog_12_method_27_code 7 = .ok (.putfield 168, 3) := by decide +kernel
set_option maxRecDepth 100000 in
theorem c_Md_readOperation_10 : ct_Md_readOperation 10 = ka_al 0 1 := rfl
theorem d_Md_readOperation_10 : decode prog_12_method_27_code 10 = .ok (.aload_n 0, 1) := by decide +kernel
set_option maxRecDepth 100000 in
theorem c_Md_readOperation_11 : ct_Md_readOperation 11 = ka_ci (nI 0) 1 := rfl
theorem d_Md_readOperation_11 : decode prog_12_method_27_code 11 = .ok (.iconst 0, 1) := by decide +kernel
set_option maxRecDepth 100000 in
theorem c_Md_readOperation_12 : ct_Md_readOperation 12 = ka_put 10 40 .int := rfl
theorem d_Md_readOperation_12 : decode prog_12_method_27_code 12 = .ok (.putfield 183, 3) := by decide +kernel
set_option maxRecDepth 100000 in
theorem c_Md_readOperation_15 : ct_Md_readOperation 15 = ka_al 0 1 := rfl
theorem d_Md_readOperation_15 : decode prog_12_method_27_code 15 = .ok (.aload_n 0, 1) := by decide +kernel
set_option maxRecDepth 100000 in
theorem c_Md_readOperation_16 : ct_Md_readOperation 16 = ka_ci (nI 0) 1 := rfl
theorem d_Md_readOperation_16 : decode prog_12_method_27_code 16 = .ok (.iconst 0, 1) := by decide +kernel
set_option maxRecDepth 100000 in
theorem c_Md_readOperation_17 : ct_Md_readOperation 17 = ka_put 10 46 .int := rfl
theorem d_Md_readOperation_17 : decode prog_12_method_27_code 17 = .ok (.putfield 186, 3) := by decide +kernel
set_option maxRecDepth 100000 in
theorem c_Md_readOperation_20 : ct_Md_readOperation 20 = ka_al 0 1 := rfl
theorem d_Md_readOperation_20 : decode prog_12_method_27_code 20 = .ok (.aload_n 0, 1) := by decide +kernel
set_option maxRecDepth 100000 in
theorem c_Md_readOperation_21 : ct_Md_readOperation 21 = ka_ci (nI 0) 1 := rfl
theorem d_Md_readOperation_21 : decode prog_12_method_27_code 21 = .ok (.iconst 0, 1) := by decide +kernel
set_option maxRecDepth 100000 in
theorem c_Md_readOperation_22 : ct_Md_readOperation 22 = ka_put 10 31 .int := rfl
theorem d_Md_readOperation_22 : decode prog_12_method_27_code 22 = .ok (.putfield 205, 3) := by decide +kernel
set_option maxRecDepth 100000 in
theorem c_Md_readOperation_25 : ct_Md_readOperation 25 = ka_al 0 1 := rfl
theorem d_Md_readOperation_25 : decode prog_12_method_27_code 25 = .ok (.aload_n 0, 1) := by decide +kernel
set_option maxRecDepth 100000 in
theorem c_Md_readOperation_26 : ct_Md_readOperation 26 = ka_ci (nI 0) 1 := rfl
theorem d_Md_readOperation_26 : decode prog_12_method_27_code 26 = .ok (.iconst 0, 1) := by decide +kernel
set_option maxRecDepth 100000 in
theorem c_Md_readOperation_27 : ct_Md_readOperation 27 = ka_put 10 32 .int := rfl
theorem d_Md_readOperation_27 : decode prog_12_method_27_code 27 = .ok (.putfield 202, 3) := by decide +kernel
set_option maxRecDepth 100000 in
theorem c_Md_readOperation_30 : ct_Md_readOperation 30 = ka_al 0 1 := rfl
theorem d_Md_readOperation_30 : decode prog_12_method_27_code 30 = .ok (.aload_n 0, 1) := by decide +kernel
set_option maxRecDepth 100000 in
theorem c_Md_readOperation_31 : ct_Md_readOperation 31 = ka_get 10 17 := rfl
theorem d_Md_readOperation_31 : decode prog_12_method_27_code 31 = .ok (.getfield 223, 3) := by decide +kernel
set_option maxRecDepth 100000 in
theorem c_Md_readOperation_34 : ct_Md_readOperation 34 = ka_sw (fun x => if x = nI 96 then 84 else if x = nI 97 then 106 else if x = nI 98 then 106 else if x = nI 99 then 89 else if x = nI 100 then 106 else if x = nI 101 then 106 else if x = nI 102 then 94 else if x = nI 103 then 106 else if x = nI 104 then 100 else 106) := rfl
theorem d_Md_readOperation_34 : decode prog_12_method_27_code 34 = .ok (.tableswitch 72 96 104 #[50, 72, 72, 55, 72, 72, 60, 72, 66], 50) := by decide +kernel
set_option maxRecDepth 100000 in
theorem c_Md_readOperation_84 : ct_Md_readOperation 84 = ka_al 0 1 := rfl
theorem d_Md_readOperation_84 : decode prog_12_method_27_code 84 = .ok (.aload_n 0, 1) := by decide +kernel
set_option maxRecDepth 100000 in
theorem c_Md_readOperation_85 : ct_Md_readOperation 85 = ka_cv 111 0 10 0 0 := rfl
theorem d_Md_readOperation_85 : decode prog_12_method_27_code 85 = .ok (.invokevirtual 226, 3) := by decide +kernel
set_option maxRecDepth 100000 in
theorem c_Md_readOperation_88 : ct_Md_readOperation 88 = ka_rz := rfl
theorem d_Md_readOperation_88 : decode prog_12_method_27_code 88 = .ok (.ireturn, 1) := by decide +kernel
set_option maxRecDepth 100000 in
theorem c_Md_readOperation_89 : ct_Md_readOperation 89 = ka_al 0 1 := rfl
theorem d_Md_readOperation_89 : decode prog_12_method_27_code 89 = .ok (.aload_n 0, 1) := by decide +kernel
set_option maxRecDepth 100000 in
theorem c_Md_readOperation_90 : ct_Md_readOperation 90 = ka_cv 121 0 10 0 0 := rfl
theorem d_Md_readOperation_90 : decode prog_12_method_27_code 90 = .ok (.invokevirtual 230, 3) := by decide +kernel
set_option maxRecDepth 100000 in
theorem c_Md_readOperation_93 : ct_Md_readOperation 93 = ka_rz := rfl
theorem d_Md_readOperation_93 : decode prog_12_method_27_code 93 = .ok (.ireturn, 1) := by decide +kernel
set_option maxRecDepth 100000 in
theorem c_Md_readOperation_94 : ct_Md_readOperation 94 = ka_al 0 1 := rfl
theorem d_Md_readOperation_94 : decode prog_12_method_27_code 94 = .ok (.aload_n 0, 1) := by decide +kernel
set_option maxRecDepth 100000 in
theorem c_Md_readOperation_95 : ct_Md_readOperation 95 = ka_ci (nI 1) 1 := rfl
theorem d_Md_readOperation_95 : decode prog_12_method_27_code 95 = .ok (.iconst 1, 1) := by decide +kernel
set_option maxRecDepth 100000 in
theorem c_Md_readOperation_96 : ct_Md_readOperation 96 = ka_cv 114 1 10 0 0 := rfl
theorem d_Md_readOperation_96 : decode prog_12_method_27_code 96 = .ok (.invokevirtual 233, 3) := by decide +kernel
set_option maxRecDepth 100000 in
theorem c_Md_readOperation_99 : ct_Md_readOperation 99 = ka_rz := rfl
theorem d_Md_readOperation_99 : decode prog_12_method_27_code 99 = .ok (.ireturn, 1) := by decide +kernel
set_option maxRecDepth 100000 in
theorem c_Md_readOperation_100 : ct_Md_readOperation 100 = ka_al 0 1 := rfl
theorem d_Md_readOperation_100 : decode prog_12_method_27_code 100 = .ok (.aload_n 0, 1) := by decide +kernel
set_option maxRecDepth 100000 in
theorem c_Md_readOperation_101 : ct_Md_readOperation 101 = ka_ci (nI 0) 1 := rfl
theorem d_Md_readOperation_101 : decode prog_12_method_27_code 101 = .ok (.iconst 0, 1) := by decide +kernel
set_option maxRecDepth 100000 in
theorem c_Md_readOperation_102 : ct_Md_readOperation 102 = ka_cv 114 1 10 0 0 := rfl
theorem d_Md_readOperation_102 : decode prog_12_method_27_code 102 = .ok (.invokevirtual 233, 3) := by decide +kernel
set_option maxRecDepth 100000 in
theorem c_Md_readOperation_105 : ct_Md_readOperation 105 = ka_rz := rfl
theorem d_Md_readOperation_105 : decode prog_12_method_27_code 105 = .ok (.ireturn, 1) := by decide +kernel
set_option maxRecDepth 100000 in
theorem c_Md_readOperation_106 : ct_Md_readOperation 106 = ka_al 0 1 := rfl
theorem d_Md_readOperation_106 : decode prog_12_method_27_code 106 = .ok (.aload_n 0, 1) := by decide +kernel
set_option maxRecDepth 100000 in
theorem c_Md_readOperation_107 : ct_Md_readOperation 107 = ka_al 0 1 := rfl
theorem d_Md_readOperation_107 : decode prog_12_method_27_code 107 = .ok (.aload_n 0, 1) := by decide +kernel
set_option maxRecDepth 100000 in
theorem c_Md_readOperation_108 : ct_Md_readOperation 108 = ka_get 10 18 := rfl
theorem d_Md_readOperation_108 : decode prog_12_method_27_code 108 = .ok (.getfield 140, 3) := by decide +kernel
set_option maxRecDepth 100000 in
theorem c_Md_readOperation_111 : ct_Md_readOperation 111 = ka_put 10 23 .int := rfl
theorem d_Md_readOperation_111 : decode prog_12_method_27_code 111 = .ok (.putfield 156, 3) := by decide +kernel
set_option maxRecDepth 100000 in
theorem c_Md_readOperation_114 : ct_Md_readOperation 114 = ka_al 0 1 := rfl
theorem d_Md_readOperation_114 : decode prog_12_method_27_code 114 = .ok (.aload_n 0, 1) := by decide +kernel
set_option maxRecDepth 100000 in
theorem c_Md_readOperation_115 : ct_Md_readOperation 115 = ka_al 0 1 := rfl
theorem d_Md_readOperation_115 : decode prog_12_method_27_code 115 = .ok (.aload_n 0, 1) := by decide +kernel
set_option maxRecDepth 100000 in
theorem c_Md_readOperation_116 : ct_Md_readOperation 116 = ka_get 10 19 := rfl
theorem d_Md_readOperation_116 : decode prog_12_method_27_code 116 = .ok (.getfield 143, 3) := by decide +kernel
set_option maxRecDepth 100000 in
theorem c_Md_readOperation_119 : ct_Md_readOperation 119 = ka_put 10 24 .int := rfl
theorem d_Md_readOperation_119 : decode prog_12_method_27_code 119 = .ok (.putfield 159, 3) := by decide +kernel
set_option maxRecDepth 100000 in
theorem c_Md_readOperation_122 : ct_Md_readOperation 122 = ka_ci (nI 1) 1 := rfl
theorem d_Md_readOperation_122 : decode prog_12_method_27_code 122 = .ok (.iconst 1, 1) := by decide +kernel
set_option maxRecDepth 100000 in
theorem c_Md_readOperation_123 : ct_Md_readOperation 123 = ka_rz := rfl
theorem d_Md_readOperation_123 : decode prog_12_method_27_code 123 = .ok (.ireturn, 1) := by decide +kernel
set_option maxRecDepth 100000 in
set_option maxHeartbeats 4000000 in
theorem s_Md_readOperation_60 : ∀ pc, pc < 60 → kc_Sim kt kw_A kw_N kt_cl kt_En "DirectoryDeskModel" prog_12_method_27_code 1 (some .boolean) "readOperation" none pc (ct_Md_readOperation pc) := by
  let P : Nat → Prop := fun pc => kc_Sim kt kw_A kw_N kt_cl kt_En "DirectoryDeskModel" prog_12_method_27_code 1 (some .boolean) "readOperation" none pc (ct_Md_readOperation pc)
  exact kc_case (P := P) (kc_se rfl sm_no) (
  kc_case (P := P) (kc_se rfl sm_no) (
  kc_case (P := P) (kc_se rfl sm_no) (
  kc_case (P := P) (kc_se rfl sm_no) (
  kc_case (P := P) (kc_se rfl sm_no) (
  kc_case (P := P) (kc_se rfl sm_no) (
  kc_case (P := P) (kc_se rfl sm_no) (
  kc_case (P := P) (kc_se rfl sm_no) (
  kc_case (P := P) (kc_se rfl sm_no) (
  kc_case (P := P) (kc_se rfl sm_no) (
  kc_case (P := P) (kc_se rfl sm_no) (
  kc_case (P := P) (kc_se rfl sm_no) (
  kc_case (P := P) (kc_se rfl sm_no) (
  kc_case (P := P) (kc_se rfl sm_no) (
  kc_case (P := P) (kc_se rfl sm_no) (
  kc_case (P := P) (kc_se rfl sm_no) (
  kc_case (P := P) (kc_se rfl sm_no) (
  kc_case (P := P) (kc_se rfl sm_no) (
  kc_case (P := P) (kc_se rfl sm_no) (
  kc_case (P := P) (kc_se rfl sm_no) (
  kc_case (P := P) (kc_se rfl sm_no) (
  kc_case (P := P) (kc_se rfl sm_no) (
  kc_case (P := P) (kc_se rfl sm_no) (
  kc_case (P := P) (kc_se rfl sm_no) (
  kc_case (P := P) (kc_se rfl sm_no) (
  kc_case (P := P) (kc_se c_Md_readOperation_34 (sm_tsw d_Md_readOperation_34 (by
    intro x
    by_cases h96 : x = nI 96
    · subst h96; exact Or.inr ⟨by decide +kernel, by decide +kernel, 50, by decide +kernel, by decide +kernel⟩
    by_cases h97 : x = nI 97
    · subst h97; exact Or.inr ⟨by decide +kernel, by decide +kernel, 72, by decide +kernel, by decide +kernel⟩
    by_cases h98 : x = nI 98
    · subst h98; exact Or.inr ⟨by decide +kernel, by decide +kernel, 72, by decide +kernel, by decide +kernel⟩
    by_cases h99 : x = nI 99
    · subst h99; exact Or.inr ⟨by decide +kernel, by decide +kernel, 55, by decide +kernel, by decide +kernel⟩
    by_cases h100 : x = nI 100
    · subst h100; exact Or.inr ⟨by decide +kernel, by decide +kernel, 72, by decide +kernel, by decide +kernel⟩
    by_cases h101 : x = nI 101
    · subst h101; exact Or.inr ⟨by decide +kernel, by decide +kernel, 72, by decide +kernel, by decide +kernel⟩
    by_cases h102 : x = nI 102
    · subst h102; exact Or.inr ⟨by decide +kernel, by decide +kernel, 60, by decide +kernel, by decide +kernel⟩
    by_cases h103 : x = nI 103
    · subst h103; exact Or.inr ⟨by decide +kernel, by decide +kernel, 72, by decide +kernel, by decide +kernel⟩
    by_cases h104 : x = nI 104
    · subst h104; exact Or.inr ⟨by decide +kernel, by decide +kernel, 66, by decide +kernel, by decide +kernel⟩
    have g96 := lv_neT (a := 96) h96 (by decide +kernel)
    have g97 := lv_neT (a := 97) h97 (by decide +kernel)
    have g98 := lv_neT (a := 98) h98 (by decide +kernel)
    have g99 := lv_neT (a := 99) h99 (by decide +kernel)
    have g100 := lv_neT (a := 100) h100 (by decide +kernel)
    have g101 := lv_neT (a := 101) h101 (by decide +kernel)
    have g102 := lv_neT (a := 102) h102 (by decide +kernel)
    have g103 := lv_neT (a := 103) h103 (by decide +kernel)
    have g104 := lv_neT (a := 104) h104 (by decide +kernel)
    refine Or.inl ⟨by omega, ?_⟩
    show _ = ((if x = nI 96 then 84 else if x = nI 97 then 106 else if x = nI 98 then 106 else if x = nI 99 then 89 else if x = nI 100 then 106 else if x = nI 101 then 106 else if x = nI 102 then 94 else if x = nI 103 then 106 else if x = nI 104 then 100 else 106 : Nat) : Int)
    rw [if_neg h96, if_neg h97, if_neg h98, if_neg h99, if_neg h100, if_neg h101, if_neg h102, if_neg h103, if_neg h104]
    decide))) (
  kc_case (P := P) (kc_se rfl sm_no) (
  kc_case (P := P) (kc_se rfl sm_no) (
  kc_case (P := P) (kc_se c_Md_readOperation_31 (sm_get (ci := 10) (C := "DirectoryDeskModel") (F := kF_Md) rfl kin_Md (Nat.le_of_ble_eq_true rfl) d_Md_readOperation_31 (kw3 200 rfl rfl))) (
  kc_case (P := P) (kc_se c_Md_readOperation_30 (sm_aload_n d_Md_readOperation_30 rfl)) (
  kc_case (P := P) (kc_se rfl sm_no) (
  kc_case (P := P) (kc_se rfl sm_no) (
  kc_case (P := P) (kc_se c_Md_readOperation_27 (sm_put (ci := 10) (C := "DirectoryDeskModel") (F := kF_Md) rfl kin_Md kty_Md ktk_Md knm_Md (Nat.le_of_ble_eq_true rfl) (by decide +kernel) d_Md_readOperation_27 (kw3 215 rfl rfl) rfl)) (
  kc_case (P := P) (kc_se c_Md_readOperation_26 (sm_iconst d_Md_readOperation_26 (by decide))) (
  kc_case (P := P) (kc_se c_Md_readOperation_25 (sm_aload_n d_Md_readOperation_25 rfl)) (
  kc_case (P := P) (kc_se rfl sm_no) (
  kc_case (P := P) (kc_se rfl sm_no) (
  kc_case (P := P) (kc_se c_Md_readOperation_22 (sm_put (ci := 10) (C := "DirectoryDeskModel") (F := kF_Md) rfl kin_Md kty_Md ktk_Md knm_Md (Nat.le_of_ble_eq_true rfl) (by decide +kernel) d_Md_readOperation_22 (kw3 214 rfl rfl) rfl)) (
  kc_case (P := P) (kc_se c_Md_readOperation_21 (sm_iconst d_Md_readOperation_21 (by decide))) (
  kc_case (P := P) (kc_se c_Md_readOperation_20 (sm_aload_n d_Md_readOperation_20 rfl)) (
  kc_case (P := P) (kc_se rfl sm_no) (
  kc_case (P := P) (kc_se rfl sm_no) (
  kc_case (P := P) (kc_se c_Md_readOperation_17 (sm_put (ci := 10) (C := "DirectoryDeskModel") (F := kF_Md) rfl kin_Md kty_Md ktk_Md knm_Md (Nat.le_of_ble_eq_true rfl) (by decide +kernel) d_Md_readOperation_17 (kw3 229 rfl rfl) rfl)) (
  kc_case (P := P) (kc_se c_Md_readOperation_16 (sm_iconst d_Md_readOperation_16 (by decide))) (
  kc_case (P := P) (kc_se c_Md_readOperation_15 (sm_aload_n d_Md_readOperation_15 rfl)) (
  kc_case (P := P) (kc_se rfl sm_no) (
  kc_case (P := P) (kc_se rfl sm_no) (
  kc_case (P := P) (kc_se c_Md_readOperation_12 (sm_put (ci := 10) (C := "DirectoryDeskModel") (F := kF_Md) rfl kin_Md kty_Md ktk_Md knm_Md (Nat.le_of_ble_eq_true rfl) (by decide +kernel) d_Md_readOperation_12 (kw3 223 rfl rfl) rfl)) (
  kc_case (P := P) (kc_se c_Md_readOperation_11 (sm_iconst d_Md_readOperation_11 (by decide))) (
  kc_case (P := P) (kc_se c_Md_readOperation_10 (sm_aload_n d_Md_readOperation_10 rfl)) (
  kc_case (P := P) (kc_se rfl sm_no) (
  kc_case (P := P) (kc_se rfl sm_no) (
  kc_case (P := P) (kc_se c_Md_readOperation_7 (sm_put (ci := 10) (C := "DirectoryDeskModel") (F := kF_Md) rfl kin_Md kty_Md ktk_Md knm_Md (Nat.le_of_ble_eq_true rfl) (by decide +kernel) d_Md_readOperation_7 (kw3 221 rfl rfl) rfl)) (
  kc_case (P := P) (kc_se c_Md_readOperation_6 (sm_iconst d_Md_readOperation_6 (by decide))) (
  kc_case (P := P) (kc_se c_Md_readOperation_5 (sm_aload_n d_Md_readOperation_5 rfl)) (
  kc_case (P := P) (kc_se rfl sm_no) (
  kc_case (P := P) (kc_se rfl sm_no) (
  kc_case (P := P) (kc_se c_Md_readOperation_2 (sm_put (ci := 10) (C := "DirectoryDeskModel") (F := kF_Md) rfl kin_Md kty_Md ktk_Md knm_Md (Nat.le_of_ble_eq_true rfl) (by decide +kernel) d_Md_readOperation_2 (kw3 216 rfl rfl) rfl)) (
  kc_case (P := P) (kc_se c_Md_readOperation_1 (sm_iconst d_Md_readOperation_1 (by decide))) (
  kc_case (P := P) (kc_se c_Md_readOperation_0 (sm_aload_n d_Md_readOperation_0 rfl)) (
  kc_case0))))))))))))))))))))))))))))))))))))))))))))))))))))))))))))
set_option maxRecDepth 100000 in
set_option maxHeartbeats 4000000 in
theorem s_Md_readOperation_120 : ∀ pc, pc < 120 → kc_Sim kt kw_A kw_N kt_cl kt_En "DirectoryDeskModel" prog_12_method_27_code 1 (some .boolean) "readOperation" none pc (ct_Md_readOperation pc) := by
  let P : Nat → Prop := fun pc => kc_Sim kt kw_A kw_N kt_cl kt_En "DirectoryDeskModel" prog_12_method_27_code 1 (some .boolean) "readOperation" none pc (ct_Md_readOperation pc)
  exact kc_case (P := P) (kc_se c_Md_readOperation_119 (sm_put (ci := 10) (C := "DirectoryDeskModel") (F := kF_Md) rfl kin_Md kty_Md ktk_Md knm_Md (Nat.le_of_ble_eq_true rfl) (by decide +kernel) d_Md_readOperation_119 (kw3 207 rfl rfl) rfl)) (
  kc_case (P := P) (kc_se rfl sm_no) (
  kc_case (P := P) (kc_se rfl sm_no) (
  kc_case (P := P) (kc_se c_Md_readOperation_116 (sm_get (ci := 10) (C := "DirectoryDeskModel") (F := kF_Md) rfl kin_Md (Nat.le_of_ble_eq_true rfl) d_Md_readOperation_116 (kw3 202 rfl rfl))) (
  kc_case (P := P) (kc_se c_Md_readOperation_115 (sm_aload_n d_Md_readOperation_115 rfl)) (
  kc_case (P := P) (kc_se c_Md_readOperation_114 (sm_aload_n d_Md_readOperation_114 rfl)) (
  kc_case (P := P) (kc_se rfl sm_no) (
  kc_case (P := P) (kc_se rfl sm_no) (
  kc_case (P := P) (kc_se c_Md_readOperation_111 (sm_put (ci := 10) (C := "DirectoryDeskModel") (F := kF_Md) rfl kin_Md kty_Md ktk_Md knm_Md (Nat.le_of_ble_eq_true rfl) (by decide +kernel) d_Md_readOperation_111 (kw3 206 rfl rfl) rfl)) (
  kc_case (P := P) (kc_se rfl sm_no) (
  kc_case (P := P) (kc_se rfl sm_no) (
  kc_case (P := P) (kc_se c_Md_readOperation_108 (sm_get (ci := 10) (C := "DirectoryDeskModel") (F := kF_Md) rfl kin_Md (Nat.le_of_ble_eq_true rfl) d_Md_readOperation_108 (kw3 201 rfl rfl))) (
  kc_case (P := P) (kc_se c_Md_readOperation_107 (sm_aload_n d_Md_readOperation_107 rfl)) (
  kc_case (P := P) (kc_se c_Md_readOperation_106 (sm_aload_n d_Md_readOperation_106 rfl)) (
  kc_case (P := P) (kc_se c_Md_readOperation_105 (sm_rz d_Md_readOperation_105 rfl)) (
  kc_case (P := P) (kc_se rfl sm_no) (
  kc_case (P := P) (kc_se rfl sm_no) (
  kc_case (P := P) (kc_se c_Md_readOperation_102 (sm_cv (j := 114) rfl rfl kw_o kw_g wc_Md_readPairs (Nat.le_of_ble_eq_true rfl) hd_Md_readPairs (ci := 10) (F := kF_Md) (N := 52) rfl (kw4 184 rfl rfl) wi_Md_readPairs ws_Md_readPairs wn_Md_readPairs d_Md_readOperation_102)) (
  kc_case (P := P) (kc_se c_Md_readOperation_101 (sm_iconst d_Md_readOperation_101 (by decide))) (
  kc_case (P := P) (kc_se c_Md_readOperation_100 (sm_aload_n d_Md_readOperation_100 rfl)) (
  kc_case (P := P) (kc_se c_Md_readOperation_99 (sm_rz d_Md_readOperation_99 rfl)) (
  kc_case (P := P) (kc_se rfl sm_no) (
  kc_case (P := P) (kc_se rfl sm_no) (
  kc_case (P := P) (kc_se c_Md_readOperation_96 (sm_cv (j := 114) rfl rfl kw_o kw_g wc_Md_readPairs (Nat.le_of_ble_eq_true rfl) hd_Md_readPairs (ci := 10) (F := kF_Md) (N := 52) rfl (kw4 184 rfl rfl) wi_Md_readPairs ws_Md_readPairs wn_Md_readPairs d_Md_readOperation_96)) (
  kc_case (P := P) (kc_se c_Md_readOperation_95 (sm_iconst d_Md_readOperation_95 (by decide))) (
  kc_case (P := P) (kc_se c_Md_readOperation_94 (sm_aload_n d_Md_readOperation_94 rfl)) (
  kc_case (P := P) (kc_se c_Md_readOperation_93 (sm_rz d_Md_readOperation_93 rfl)) (
  kc_case (P := P) (kc_se rfl sm_no) (
  kc_case (P := P) (kc_se rfl sm_no) (
  kc_case (P := P) (kc_se c_Md_readOperation_90 (sm_cv (j := 121) rfl rfl kw_o kw_g wc_Md_readSearch (Nat.le_of_ble_eq_true rfl) hd_Md_readSearch (ci := 10) (F := kF_Md) (N := 52) rfl (kw4 141 rfl rfl) wi_Md_readSearch ws_Md_readSearch wn_Md_readSearch d_Md_readOperation_90)) (
  kc_case (P := P) (kc_se c_Md_readOperation_89 (sm_aload_n d_Md_readOperation_89 rfl)) (
  kc_case (P := P) (kc_se c_Md_readOperation_88 (sm_rz d_Md_readOperation_88 rfl)) (
  kc_case (P := P) (kc_se rfl sm_no) (
  kc_case (P := P) (kc_se rfl sm_no) (
  kc_case (P := P) (kc_se c_Md_readOperation_85 (sm_cv (j := 111) rfl rfl kw_o kw_g wc_Md_readSign (Nat.le_of_ble_eq_true rfl) hd_Md_readSign (ci := 10) (F := kF_Md) (N := 52) rfl (kw4 137 rfl rfl) wi_Md_readSign ws_Md_readSign wn_Md_readSign d_Md_readOperation_85)) (
  kc_case (P := P) (kc_se c_Md_readOperation_84 (sm_aload_n d_Md_readOperation_84 rfl)) (
  kc_case (P := P) (kc_se rfl sm_no) (
  kc_case (P := P) (kc_se rfl sm_no) (
  kc_case (P := P) (kc_se rfl sm_no) (
  kc_case (P := P) (kc_se rfl sm_no) (
  kc_case (P := P) (kc_se rfl sm_no) (
  kc_case (P := P) (kc_se rfl sm_no) (
  kc_case (P := P) (kc_se rfl sm_no) (
  kc_case (P := P) (kc_se rfl sm_no) (
  kc_case (P := P) (kc_se rfl sm_no) (
  kc_case (P := P) (kc_se rfl sm_no) (
  kc_case (P := P) (kc_se rfl sm_no) (
  kc_case (P := P) (kc_se rfl sm_no) (
  kc_case (P := P) (kc_se rfl sm_no) (
  kc_case (P := P) (kc_se rfl sm_no) (
  kc_case (P := P) (kc_se rfl sm_no) (
  kc_case (P := P) (kc_se rfl sm_no) (
  kc_case (P := P) (kc_se rfl sm_no) (
  kc_case (P := P) (kc_se rfl sm_no) (
  kc_case (P := P) (kc_se rfl sm_no) (
  kc_case (P := P) (kc_se rfl sm_no) (
  kc_case (P := P) (kc_se rfl sm_no) (
  kc_case (P := P) (kc_se rfl sm_no) (
  kc_case (P := P) (kc_se rfl sm_no) (
  kc_case (P := P) (kc_se rfl sm_no) (
  s_Md_readOperation_60))))))))))))))))))))))))))))))))))))))))))))))))))))))))))))
set_option maxRecDepth 100000 in
set_option maxHeartbeats 4000000 in
theorem s_Md_readOperation_124 : ∀ pc, pc < 124 → kc_Sim kt kw_A kw_N kt_cl kt_En "DirectoryDeskModel" prog_12_method_27_code 1 (some .boolean) "readOperation" none pc (ct_Md_readOperation pc) := by
  let P : Nat → Prop := fun pc => kc_Sim kt kw_A kw_N kt_cl kt_En "DirectoryDeskModel" prog_12_method_27_code 1 (some .boolean) "readOperation" none pc (ct_Md_readOperation pc)
  exact kc_case (P := P) (kc_se c_Md_readOperation_123 (sm_rz d_Md_readOperation_123 rfl)) (
  kc_case (P := P) (kc_se c_Md_readOperation_122 (sm_iconst d_Md_readOperation_122 (by decide))) (
  kc_case (P := P) (kc_se rfl sm_no) (
  kc_case (P := P) (kc_se rfl sm_no) (
  s_Md_readOperation_120))))
set_option maxRecDepth 100000 in
theorem ka_nth_no_Md_readOperation (pc : Nat) (h : 124 ≤ pc) : ct_Md_readOperation pc = ka_no := ka_nth_ge _ pc (Nat.le_trans (Nat.le_of_eq (by rfl)) h)
theorem s_Md_readOperation (pc : Nat) : kc_Sim kt kw_A kw_N kt_cl kt_En "DirectoryDeskModel" prog_12_method_27_code 1 (some .boolean) "readOperation" none pc (ct_Md_readOperation pc) := (Nat.lt_or_ge pc 124).elim (s_Md_readOperation_124 pc) (fun h => kc_se (ka_nth_no_Md_readOperation pc h) sm_no)
def cl_Md_workAt_0 : List kc_A := [ka_ci (nI 0) 1, ka_is 4 2, ka_no, ka_il 4 2, ka_no, ka_al 0 1, ka_get 10 49, ka_no, ka_no, ka_cm (fun x y => y ≤ x) 44, ka_no, ka_no, ka_al 0 1, ka_get 10 50, ka_no, ka_no, ka_il 4 2, ka_no, ka_iald, ka_il 1 1, ka_cm (fun x y => ¬ x = y) 38, ka_no, ka_no, ka_al 0 1, ka_get 10 51, ka_no, ka_no, ka_il 4 2, ka_no, ka_lald, ka_ll 2 1, ka_lcmp, ka_if (fun x => ¬ x = 0) 38, ka_no, ka_no, ka_il 4 2, ka_no, ka_ri, ka_inc 4 (nI 1), ka_no, ka_no, ka_goto 3, ka_no, ka_no, ka_ci (-1) 1, ka_ri]
def ct_Md_workAt : Nat → kc_A := fun pc => ka_nth (cl_Md_workAt_0) pc
set_option maxRecDepth 100000 in
theorem c_Md_workAt_0 : ct_Md_workAt 0 = ka_ci (nI 0) 1 := rfl
theorem d_Md_workAt_0 : decode prog_12_method_28_code 0 = .ok (.iconst 0, 1) := by decide +kernel
set_option maxRecDepth 100000 in
theorem c_Md_workAt_1 : ct_Md_workAt 1 = ka_is 4 2 := rfl
theorem d_Md_workAt_1 : decode prog_12_method_28_code 1 = .ok (.istore 4, 2) := by decide +kernel
set_option maxRecDepth 100000 in
theorem c_Md_workAt_3 : ct_Md_workAt 3 = ka_il 4 2 := rfl
theorem d_Md_workAt_3 : decode prog_12_method_28_code 3 = .ok (.iload 4, 2) := by decide +kernel
set_option maxRecDepth 100000 in
theorem c_Md_workAt_5 : ct_Md_workAt 5 = ka_al 0 1 := rfl
theorem d_Md_workAt_5 : decode prog_12_method_28_code 5 = .ok (.aload_n 0, 1) := by decide +kernel
set_option maxRecDepth 100000 in
theorem c_Md_workAt_6 : ct_Md_workAt 6 = ka_get 10 49 := rfl
theorem d_Md_workAt_6 : decode prog_12_method_28_code 6 = .ok (.getfield 237, 3) := by decide +kernel
set_option maxRecDepth 100000 in
theorem c_Md_workAt_9 : ct_Md_workAt 9 = ka_cm (fun x y => y ≤ x) 44 := rfl
theorem d_Md_workAt_9 : decode prog_12_method_28_code 9 = .ok (.if_icmp .ge 35, 3) := by decide +kernel
set_option maxRecDepth 100000 in
theorem c_Md_workAt_12 : ct_Md_workAt 12 = ka_al 0 1 := rfl
theorem d_Md_workAt_12 : decode prog_12_method_28_code 12 = .ok (.aload_n 0, 1) := by decide +kernel
set_option maxRecDepth 100000 in
theorem c_Md_workAt_13 : ct_Md_workAt 13 = ka_get 10 50 := rfl
theorem d_Md_workAt_13 : decode prog_12_method_28_code 13 = .ok (.getfield 77, 3) := by decide +kernel
set_option maxRecDepth 100000 in
theorem c_Md_workAt_16 : ct_Md_workAt 16 = ka_il 4 2 := rfl
theorem d_Md_workAt_16 : decode prog_12_method_28_code 16 = .ok (.iload 4, 2) := by decide +kernel
set_option maxRecDepth 100000 in
theorem c_Md_workAt_18 : ct_Md_workAt 18 = ka_iald := rfl
theorem d_Md_workAt_18 : decode prog_12_method_28_code 18 = .ok (.iaload, 1) := by decide +kernel
set_option maxRecDepth 100000 in
theorem c_Md_workAt_19 : ct_Md_workAt 19 = ka_il 1 1 := rfl
theorem d_Md_workAt_19 : decode prog_12_method_28_code 19 = .ok (.iload_n 1, 1) := by decide +kernel
set_option maxRecDepth 100000 in
theorem c_Md_workAt_20 : ct_Md_workAt 20 = ka_cm (fun x y => ¬ x = y) 38 := rfl
theorem d_Md_workAt_20 : decode prog_12_method_28_code 20 = .ok (.if_icmp .ne 18, 3) := by decide +kernel
set_option maxRecDepth 100000 in
theorem c_Md_workAt_23 : ct_Md_workAt 23 = ka_al 0 1 := rfl
theorem d_Md_workAt_23 : decode prog_12_method_28_code 23 = .ok (.aload_n 0, 1) := by decide +kernel
set_option maxRecDepth 100000 in
theorem c_Md_workAt_24 : ct_Md_workAt 24 = ka_get 10 51 := rfl
theorem d_Md_workAt_24 : decode prog_12_method_28_code 24 = .ok (.getfield 80, 3) := by decide +kernel
set_option maxRecDepth 100000 in
theorem c_Md_workAt_27 : ct_Md_workAt 27 = ka_il 4 2 := rfl
theorem d_Md_workAt_27 : decode prog_12_method_28_code 27 = .ok (.iload 4, 2) := by decide +kernel
set_option maxRecDepth 100000 in
theorem c_Md_workAt_29 : ct_Md_workAt 29 = ka_lald := rfl
theorem d_Md_workAt_29 : decode prog_12_method_28_code 29 = .ok (.laload, 1) := by decide +kernel
set_option maxRecDepth 100000 in
theorem c_Md_workAt_30 : ct_Md_workAt 30 = ka_ll 2 1 := rfl
theorem d_Md_workAt_30 : decode prog_12_method_28_code 30 = .ok (.lload_n 2, 1) := by decide +kernel
set_option maxRecDepth 100000 in
theorem c_Md_workAt_31 : ct_Md_workAt 31 = ka_lcmp := rfl
theorem d_Md_workAt_31 : decode prog_12_method_28_code 31 = .ok (.lcmp, 1) := by decide +kernel
set_option maxRecDepth 100000 in
theorem c_Md_workAt_32 : ct_Md_workAt 32 = ka_if (fun x => ¬ x = 0) 38 := rfl
theorem d_Md_workAt_32 : decode prog_12_method_28_code 32 = .ok (.ifCond .ne 6, 3) := by decide +kernel
set_option maxRecDepth 100000 in
theorem c_Md_workAt_35 : ct_Md_workAt 35 = ka_il 4 2 := rfl
theorem d_Md_workAt_35 : decode prog_12_method_28_code 35 = .ok (.iload 4, 2) := by decide +kernel
set_option maxRecDepth 100000 in
theorem c_Md_workAt_37 : ct_Md_workAt 37 = ka_ri := rfl
theorem d_Md_workAt_37 : decode prog_12_method_28_code 37 = .ok (.ireturn, 1) := by decide +kernel
set_option maxRecDepth 100000 in
theorem c_Md_workAt_38 : ct_Md_workAt 38 = ka_inc 4 (nI 1) := rfl
theorem d_Md_workAt_38 : decode prog_12_method_28_code 38 = .ok (.iinc 4 1, 3) := by decide +kernel
set_option maxRecDepth 100000 in
theorem c_Md_workAt_41 : ct_Md_workAt 41 = ka_goto 3 := rfl
theorem d_Md_workAt_41 : decode prog_12_method_28_code 41 = .ok (.goto (-38), 3) := by decide +kernel
set_option maxRecDepth 100000 in
theorem c_Md_workAt_44 : ct_Md_workAt 44 = ka_ci (-1) 1 := rfl
theorem d_Md_workAt_44 : decode prog_12_method_28_code 44 = .ok (.iconst (-1), 1) := by decide +kernel
set_option maxRecDepth 100000 in
theorem c_Md_workAt_45 : ct_Md_workAt 45 = ka_ri := rfl
theorem d_Md_workAt_45 : decode prog_12_method_28_code 45 = .ok (.ireturn, 1) := by decide +kernel
set_option maxRecDepth 100000 in
set_option maxHeartbeats 4000000 in
theorem s_Md_workAt_46 : ∀ pc, pc < 46 → kc_Sim kt kw_A kw_N kt_cl kt_En "DirectoryDeskModel" prog_12_method_28_code 5 (some .int) "workAt" none pc (ct_Md_workAt pc) := by
  let P : Nat → Prop := fun pc => kc_Sim kt kw_A kw_N kt_cl kt_En "DirectoryDeskModel" prog_12_method_28_code 5 (some .int) "workAt" none pc (ct_Md_workAt pc)
  exact kc_case (P := P) (kc_se c_Md_workAt_45 (sm_ri d_Md_workAt_45 rfl)) (
  kc_case (P := P) (kc_se c_Md_workAt_44 (sm_iconst d_Md_workAt_44 (by decide))) (
  kc_case (P := P) (kc_se rfl sm_no) (
  kc_case (P := P) (kc_se rfl sm_no) (
  kc_case (P := P) (kc_se c_Md_workAt_41 (sm_goto d_Md_workAt_41 (by decide))) (
  kc_case (P := P) (kc_se rfl sm_no) (
  kc_case (P := P) (kc_se rfl sm_no) (
  kc_case (P := P) (kc_se c_Md_workAt_38 (sm_inc d_Md_workAt_38 (by decide) (Nat.le_of_ble_eq_true rfl))) (
  kc_case (P := P) (kc_se c_Md_workAt_37 (sm_ri d_Md_workAt_37 rfl)) (
  kc_case (P := P) (kc_se rfl sm_no) (
  kc_case (P := P) (kc_se c_Md_workAt_35 (sm_iload d_Md_workAt_35)) (
  kc_case (P := P) (kc_se rfl sm_no) (
  kc_case (P := P) (kc_se rfl sm_no) (
  kc_case (P := P) (kc_se c_Md_workAt_32 (sm_if_ne d_Md_workAt_32 (by decide))) (
  kc_case (P := P) (kc_se c_Md_workAt_31 (sm_lcmp d_Md_workAt_31)) (
  kc_case (P := P) (kc_se c_Md_workAt_30 (sm_lload_n d_Md_workAt_30 rfl)) (
  kc_case (P := P) (kc_se c_Md_workAt_29 (sm_lald d_Md_workAt_29)) (
  kc_case (P := P) (kc_se rfl sm_no) (
  kc_case (P := P) (kc_se c_Md_workAt_27 (sm_iload d_Md_workAt_27)) (
  kc_case (P := P) (kc_se rfl sm_no) (
  kc_case (P := P) (kc_se rfl sm_no) (
  kc_case (P := P) (kc_se c_Md_workAt_24 (sm_get (ci := 10) (C := "DirectoryDeskModel") (F := kF_Md) rfl kin_Md (Nat.le_of_ble_eq_true rfl) d_Md_workAt_24 (kw3 234 rfl rfl))) (
  kc_case (P := P) (kc_se c_Md_workAt_23 (sm_aload_n d_Md_workAt_23 rfl)) (
  kc_case (P := P) (kc_se rfl sm_no) (
  kc_case (P := P) (kc_se rfl sm_no) (
  kc_case (P := P) (kc_se c_Md_workAt_20 (sm_cm_ne d_Md_workAt_20 (by decide))) (
  kc_case (P := P) (kc_se c_Md_workAt_19 (sm_iload_n d_Md_workAt_19 rfl)) (
  kc_case (P := P) (kc_se c_Md_workAt_18 (sm_iald d_Md_workAt_18)) (
  kc_case (P := P) (kc_se rfl sm_no) (
  kc_case (P := P) (kc_se c_Md_workAt_16 (sm_iload d_Md_workAt_16)) (
  kc_case (P := P) (kc_se rfl sm_no) (
  kc_case (P := P) (kc_se rfl sm_no) (
  kc_case (P := P) (kc_se c_Md_workAt_13 (sm_get (ci := 10) (C := "DirectoryDeskModel") (F := kF_Md) rfl kin_Md (Nat.le_of_ble_eq_true rfl) d_Md_workAt_13 (kw3 233 rfl rfl))) (
  kc_case (P := P) (kc_se c_Md_workAt_12 (sm_aload_n d_Md_workAt_12 rfl)) (
  kc_case (P := P) (kc_se rfl sm_no) (
  kc_case (P := P) (kc_se rfl sm_no) (
  kc_case (P := P) (kc_se c_Md_workAt_9 (sm_cm_ge d_Md_workAt_9 (by decide))) (
  kc_case (P := P) (kc_se rfl sm_no) (
  kc_case (P := P) (kc_se rfl sm_no) (
  kc_case (P := P) (kc_se c_Md_workAt_6 (sm_get (ci := 10) (C := "DirectoryDeskModel") (F := kF_Md) rfl kin_Md (Nat.le_of_ble_eq_true rfl) d_Md_workAt_6 (kw3 232 rfl rfl))) (
  kc_case (P := P) (kc_se c_Md_workAt_5 (sm_aload_n d_Md_workAt_5 rfl)) (
  kc_case (P := P) (kc_se rfl sm_no) (
  kc_case (P := P) (kc_se c_Md_workAt_3 (sm_iload d_Md_workAt_3)) (
  kc_case (P := P) (kc_se rfl sm_no) (
  kc_case (P := P) (kc_se c_Md_workAt_1 (sm_istore d_Md_workAt_1 (Nat.le_of_ble_eq_true rfl))) (
  kc_case (P := P) (kc_se c_Md_workAt_0 (sm_iconst d_Md_workAt_0 (by decide))) (
  kc_case0))))))))))))))))))))))))))))))))))))))))))))))
set_option maxRecDepth 100000 in
theorem ka_nth_no_Md_workAt (pc : Nat) (h : 46 ≤ pc) : ct_Md_workAt pc = ka_no := ka_nth_ge _ pc (Nat.le_trans (Nat.le_of_eq (by rfl)) h)
theorem s_Md_workAt (pc : Nat) : kc_Sim kt kw_A kw_N kt_cl kt_En "DirectoryDeskModel" prog_12_method_28_code 5 (some .int) "workAt" none pc (ct_Md_workAt pc) := (Nat.lt_or_ge pc 46).elim (s_Md_workAt_46 pc) (fun h => kc_se (ka_nth_no_Md_workAt pc h) sm_no)
def cl_Md_work_0 : List kc_A := [ka_al 0 1, ka_get 10 50, ka_no, ka_no, ka_al 0 1, ka_get 10 49, ka_no, ka_no, ka_il 1 1, ka_iast, ka_al 0 1, ka_get 10 51, ka_no, ka_no, ka_al 0 1, ka_get 10 49, ka_no, ka_no, ka_ll 2 1, ka_last, ka_al 0 1, ka_dup, ka_get 10 49, ka_no, ka_no, ka_ci (nI 1) 1, ka_ii (fun x y => x + y), ka_put 10 49 .int, ka_no, ka_no, ka_ret]
def ct_Md_work : Nat → kc_A := fun pc => ka_nth (cl_Md_work_0) pc
set_option maxRecDepth 100000 in
theorem c_Md_work_0 : ct_Md_work 0 = ka_al 0 1 := rfl
theorem d_Md_work_0 : decode prog_12_method_29_code 0 = .ok (.aload_n 0, 1) := by decide +kernel
set_option maxRecDepth 100000 in
theorem c_Md_work_1 : ct_Md_work 1 = ka_get 10 50 := rfl
theorem d_Md_work_1 : decode prog_12_method_29_code 1 = .ok (.getfield 77, 3) := by decide +kernel
set_option maxRecDepth 100000 in
theorem c_Md_work_4 : ct_Md_work 4 = ka_al 0 1 := rfl
theorem d_Md_work_4 : decode prog_12_method_29_code 4 = .ok (.aload_n 0, 1) := by decide +kernel
set_option maxRecDepth 100000 in
theorem c_Md_work_5 : ct_Md_work 5 = ka_get 10 49 := rfl
theorem d_Md_work_5 : decode prog_12_method_29_code 5 = .ok (.getfield 237, 3) := by decide +kernel
set_option maxRecDepth 100000 in
theorem c_Md_work_8 : ct_Md_work 8 = ka_il 1 1 := rfl
theorem d_Md_work_8 : decode prog_12_method_29_code 8 = .ok (.iload_n 1, 1) := by decide +kernel
set_option maxRecDepth 100000 in
theorem c_Md_work_9 : ct_Md_work 9 = ka_iast := rfl
theorem d_Md_work_9 : decode prog_12_method_29_code 9 = .ok (.iastore, 1) := by decide +kernel
set_option maxRecDepth 100000 in
theorem c_Md_work_10 : ct_Md_work 10 = ka_al 0 1 := rfl
theorem d_Md_work_10 : decode prog_12_method_29_code 10 = .ok (.aload_n 0, 1) := by decide +kernel
set_option maxRecDepth 100000 in
theorem c_Md_work_11 : ct_Md_work 11 = ka_get 10 51 := rfl
theorem d_Md_work_11 : decode prog_12_method_29_code 11 = .ok (.getfield 80, 3) := by decide +kernel
set_option maxRecDepth 100000 in
theorem c_Md_work_14 : ct_Md_work 14 = ka_al 0 1 := rfl
theorem d_Md_work_14 : decode prog_12_method_29_code 14 = .ok (.aload_n 0, 1) := by decide +kernel
set_option maxRecDepth 100000 in
theorem c_Md_work_15 : ct_Md_work 15 = ka_get 10 49 := rfl
theorem d_Md_work_15 : decode prog_12_method_29_code 15 = .ok (.getfield 237, 3) := by decide +kernel
set_option maxRecDepth 100000 in
theorem c_Md_work_18 : ct_Md_work 18 = ka_ll 2 1 := rfl
theorem d_Md_work_18 : decode prog_12_method_29_code 18 = .ok (.lload_n 2, 1) := by decide +kernel
set_option maxRecDepth 100000 in
theorem c_Md_work_19 : ct_Md_work 19 = ka_last := rfl
theorem d_Md_work_19 : decode prog_12_method_29_code 19 = .ok (.lastore, 1) := by decide +kernel
set_option maxRecDepth 100000 in
theorem c_Md_work_20 : ct_Md_work 20 = ka_al 0 1 := rfl
theorem d_Md_work_20 : decode prog_12_method_29_code 20 = .ok (.aload_n 0, 1) := by decide +kernel
set_option maxRecDepth 100000 in
theorem c_Md_work_21 : ct_Md_work 21 = ka_dup := rfl
theorem d_Md_work_21 : decode prog_12_method_29_code 21 = .ok (.dup, 1) := by decide +kernel
set_option maxRecDepth 100000 in
theorem c_Md_work_22 : ct_Md_work 22 = ka_get 10 49 := rfl
theorem d_Md_work_22 : decode prog_12_method_29_code 22 = .ok (.getfield 237, 3) := by decide +kernel
set_option maxRecDepth 100000 in
theorem c_Md_work_25 : ct_Md_work 25 = ka_ci (nI 1) 1 := rfl
theorem d_Md_work_25 : decode prog_12_method_29_code 25 = .ok (.iconst 1, 1) := by decide +kernel
set_option maxRecDepth 100000 in
theorem c_Md_work_26 : ct_Md_work 26 = ka_ii (fun x y => x + y) := rfl
theorem d_Md_work_26 : decode prog_12_method_29_code 26 = .ok (.iadd, 1) := by decide +kernel
set_option maxRecDepth 100000 in
theorem c_Md_work_27 : ct_Md_work 27 = ka_put 10 49 .int := rfl
theorem d_Md_work_27 : decode prog_12_method_29_code 27 = .ok (.putfield 237, 3) := by decide +kernel
set_option maxRecDepth 100000 in
theorem c_Md_work_30 : ct_Md_work 30 = ka_ret := rfl
theorem d_Md_work_30 : decode prog_12_method_29_code 30 = .ok (.return_, 1) := by decide +kernel
set_option maxRecDepth 100000 in
set_option maxHeartbeats 4000000 in
theorem s_Md_work_31 : ∀ pc, pc < 31 → kc_Sim kt kw_A kw_N kt_cl kt_En "DirectoryDeskModel" prog_12_method_29_code 4 (none) "work" none pc (ct_Md_work pc) := by
  let P : Nat → Prop := fun pc => kc_Sim kt kw_A kw_N kt_cl kt_En "DirectoryDeskModel" prog_12_method_29_code 4 (none) "work" none pc (ct_Md_work pc)
  exact kc_case (P := P) (kc_se c_Md_work_30 (sm_ret d_Md_work_30 rfl)) (
  kc_case (P := P) (kc_se rfl sm_no) (
  kc_case (P := P) (kc_se rfl sm_no) (
  kc_case (P := P) (kc_se c_Md_work_27 (sm_put (ci := 10) (C := "DirectoryDeskModel") (F := kF_Md) rfl kin_Md kty_Md ktk_Md knm_Md (Nat.le_of_ble_eq_true rfl) (by decide +kernel) d_Md_work_27 (kw3 232 rfl rfl) rfl)) (
  kc_case (P := P) (kc_se c_Md_work_26 (sm_iadd d_Md_work_26)) (
  kc_case (P := P) (kc_se c_Md_work_25 (sm_iconst d_Md_work_25 (by decide))) (
  kc_case (P := P) (kc_se rfl sm_no) (
  kc_case (P := P) (kc_se rfl sm_no) (
  kc_case (P := P) (kc_se c_Md_work_22 (sm_get (ci := 10) (C := "DirectoryDeskModel") (F := kF_Md) rfl kin_Md (Nat.le_of_ble_eq_true rfl) d_Md_work_22 (kw3 232 rfl rfl))) (
  kc_case (P := P) (kc_se c_Md_work_21 (sm_dup d_Md_work_21)) (
  kc_case (P := P) (kc_se c_Md_work_20 (sm_aload_n d_Md_work_20 rfl)) (
  kc_case (P := P) (kc_se c_Md_work_19 (sm_last d_Md_work_19)) (
  kc_case (P := P) (kc_se c_Md_work_18 (sm_lload_n d_Md_work_18 rfl)) (
  kc_case (P := P) (kc_se rfl sm_no) (
  kc_case (P := P) (kc_se rfl sm_no) (
  kc_case (P := P) (kc_se c_Md_work_15 (sm_get (ci := 10) (C := "DirectoryDeskModel") (F := kF_Md) rfl kin_Md (Nat.le_of_ble_eq_true rfl) d_Md_work_15 (kw3 232 rfl rfl))) (
  kc_case (P := P) (kc_se c_Md_work_14 (sm_aload_n d_Md_work_14 rfl)) (
  kc_case (P := P) (kc_se rfl sm_no) (
  kc_case (P := P) (kc_se rfl sm_no) (
  kc_case (P := P) (kc_se c_Md_work_11 (sm_get (ci := 10) (C := "DirectoryDeskModel") (F := kF_Md) rfl kin_Md (Nat.le_of_ble_eq_true rfl) d_Md_work_11 (kw3 234 rfl rfl))) (
  kc_case (P := P) (kc_se c_Md_work_10 (sm_aload_n d_Md_work_10 rfl)) (
  kc_case (P := P) (kc_se c_Md_work_9 (sm_iast d_Md_work_9)) (
  kc_case (P := P) (kc_se c_Md_work_8 (sm_iload_n d_Md_work_8 rfl)) (
  kc_case (P := P) (kc_se rfl sm_no) (
  kc_case (P := P) (kc_se rfl sm_no) (
  kc_case (P := P) (kc_se c_Md_work_5 (sm_get (ci := 10) (C := "DirectoryDeskModel") (F := kF_Md) rfl kin_Md (Nat.le_of_ble_eq_true rfl) d_Md_work_5 (kw3 232 rfl rfl))) (
  kc_case (P := P) (kc_se c_Md_work_4 (sm_aload_n d_Md_work_4 rfl)) (
  kc_case (P := P) (kc_se rfl sm_no) (
  kc_case (P := P) (kc_se rfl sm_no) (
  kc_case (P := P) (kc_se c_Md_work_1 (sm_get (ci := 10) (C := "DirectoryDeskModel") (F := kF_Md) rfl kin_Md (Nat.le_of_ble_eq_true rfl) d_Md_work_1 (kw3 233 rfl rfl))) (
  kc_case (P := P) (kc_se c_Md_work_0 (sm_aload_n d_Md_work_0 rfl)) (
  kc_case0)))))))))))))))))))))))))))))))
set_option maxRecDepth 100000 in
theorem ka_nth_no_Md_work (pc : Nat) (h : 31 ≤ pc) : ct_Md_work pc = ka_no := ka_nth_ge _ pc (Nat.le_trans (Nat.le_of_eq (by rfl)) h)
theorem s_Md_work (pc : Nat) : kc_Sim kt kw_A kw_N kt_cl kt_En "DirectoryDeskModel" prog_12_method_29_code 4 (none) "work" none pc (ct_Md_work pc) := (Nat.lt_or_ge pc 31).elim (s_Md_work_31 pc) (fun h => kc_se (ka_nth_no_Md_work pc h) sm_no)
def cl_Md_unwork_0 : List kc_A := [ka_al 0 1, ka_dup, ka_get 10 49, ka_no, ka_no, ka_ci (nI 1) 1, ka_ii (fun x y => x - y), ka_put 10 49 .int, ka_no, ka_no, ka_il 1 1, ka_is 2 1, ka_il 2 1, ka_al 0 1, ka_get 10 49, ka_no, ka_no, ka_cm (fun x y => y ≤ x) 54, ka_no, ka_no, ka_al 0 1, ka_get 10 50, ka_no, ka_no, ka_il 2 1, ka_al 0 1, ka_get 10 50, ka_no, ka_no, ka_il 2 1, ka_ci (nI 1) 1, ka_ii (fun x y => x + y), ka_iald, ka_iast, ka_al 0 1, ka_get 10 51, ka_no, ka_no, ka_il 2 1, ka_al 0 1, ka_get 10 51, ka_no, ka_no, ka_il 2 1, ka_ci (nI 1) 1, ka_ii (fun x y => x + y), ka_lald, ka_last, ka_inc 2 (nI 1), ka_no, ka_no, ka_goto 12, ka_no, ka_no, ka_ret]
def ct_Md_unwork : Nat → kc_A := fun pc => ka_nth (cl_Md_unwork_0) pc
set_option maxRecDepth 100000 in
theorem c_Md_unwork_0 : ct_Md_unwork 0 = ka_al 0 1 := rfl
theorem d_Md_unwork_0 : decode prog_12_method_30_code 0 = .ok (.aload_n 0, 1) := by decide +kernel
set_option maxRecDepth 100000 in
theorem c_Md_unwork_1 : ct_Md_unwork 1 = ka_dup := rfl
theorem d_Md_unwork_1 : decode prog_12_method_30_code 1 = .ok (.dup, 1) := by decide +kernel
set_option maxRecDepth 100000 in
theorem c_Md_unwork_2 : ct_Md_unwork 2 = ka_get 10 49 := rfl
theorem d_Md_unwork_2 : decode prog_12_method_30_code 2 = .ok (.getfield 237, 3) := by decide +kernel
set_option maxRecDepth 100000 in
theorem c_Md_unwork_5 : ct_Md_unwork 5 = ka_ci (nI 1) 1 := rfl
theorem d_Md_unwork_5 : decode prog_12_method_30_code 5 = .ok (.iconst 1, 1) := by decide +kernel
set_option maxRecDepth 100000 in
theorem c_Md_unwork_6 : ct_Md_unwork 6 = ka_ii (fun x y => x - y) := rfl
theorem d_Md_unwork_6 : decode prog_12_method_30_code 6 = .ok (.isub, 1) := by decide +kernel
set_option maxRecDepth 100000 in
theorem c_Md_unwork_7 : ct_Md_unwork 7 = ka_put 10 49 .int := rfl
theorem d_Md_unwork_7 : decode prog_12_method_30_code 7 = .ok (.putfield 237, 3) := by decide +kernel
set_option maxRecDepth 100000 in
theorem c_Md_unwork_10 : ct_Md_unwork 10 = ka_il 1 1 := rfl
theorem d_Md_unwork_10 : decode prog_12_method_30_code 10 = .ok (.iload_n 1, 1) := by decide +kernel
set_option maxRecDepth 100000 in
theorem c_Md_unwork_11 : ct_Md_unwork 11 = ka_is 2 1 := rfl
theorem d_Md_unwork_11 : decode prog_12_method_30_code 11 = .ok (.istore_n 2, 1) := by decide +kernel
set_option maxRecDepth 100000 in
theorem c_Md_unwork_12 : ct_Md_unwork 12 = ka_il 2 1 := rfl
theorem d_Md_unwork_12 : decode prog_12_method_30_code 12 = .ok (.iload_n 2, 1) := by decide +kernel
set_option maxRecDepth 100000 in
theorem c_Md_unwork_13 : ct_Md_unwork 13 = ka_al 0 1 := rfl
theorem d_Md_unwork_13 : decode prog_12_method_30_code 13 = .ok (.aload_n 0, 1) := by decide +kernel
set_option maxRecDepth 100000 in
theorem c_Md_unwork_14 : ct_Md_unwork 14 = ka_get 10 49 := rfl
theorem d_Md_unwork_14 : decode prog_12_method_30_code 14 = .ok (.getfield 237, 3) := by decide +kernel
set_option maxRecDepth 100000 in
theorem c_Md_unwork_17 : ct_Md_unwork 17 = ka_cm (fun x y => y ≤ x) 54 := rfl
theorem d_Md_unwork_17 : decode prog_12_method_30_code 17 = .ok (.if_icmp .ge 37, 3) := by decide +kernel
set_option maxRecDepth 100000 in
theorem c_Md_unwork_20 : ct_Md_unwork 20 = ka_al 0 1 := rfl
theorem d_Md_unwork_20 : decode prog_12_method_30_code 20 = .ok (.aload_n 0, 1) := by decide +kernel
set_option maxRecDepth 100000 in
theorem c_Md_unwork_21 : ct_Md_unwork 21 = ka_get 10 50 := rfl
theorem d_Md_unwork_21 : decode prog_12_method_30_code 21 = .ok (.getfield 77, 3) := by decide +kernel
set_option maxRecDepth 100000 in
theorem c_Md_unwork_24 : ct_Md_unwork 24 = ka_il 2 1 := rfl
theorem d_Md_unwork_24 : decode prog_12_method_30_code 24 = .ok (.iload_n 2, 1) := by decide +kernel
set_option maxRecDepth 100000 in
theorem c_Md_unwork_25 : ct_Md_unwork 25 = ka_al 0 1 := rfl
theorem d_Md_unwork_25 : decode prog_12_method_30_code 25 = .ok (.aload_n 0, 1) := by decide +kernel
set_option maxRecDepth 100000 in
theorem c_Md_unwork_26 : ct_Md_unwork 26 = ka_get 10 50 := rfl
theorem d_Md_unwork_26 : decode prog_12_method_30_code 26 = .ok (.getfield 77, 3) := by decide +kernel
set_option maxRecDepth 100000 in
theorem c_Md_unwork_29 : ct_Md_unwork 29 = ka_il 2 1 := rfl
theorem d_Md_unwork_29 : decode prog_12_method_30_code 29 = .ok (.iload_n 2, 1) := by decide +kernel
set_option maxRecDepth 100000 in
theorem c_Md_unwork_30 : ct_Md_unwork 30 = ka_ci (nI 1) 1 := rfl
theorem d_Md_unwork_30 : decode prog_12_method_30_code 30 = .ok (.iconst 1, 1) := by decide +kernel
set_option maxRecDepth 100000 in
theorem c_Md_unwork_31 : ct_Md_unwork 31 = ka_ii (fun x y => x + y) := rfl
theorem d_Md_unwork_31 : decode prog_12_method_30_code 31 = .ok (.iadd, 1) := by decide +kernel
set_option maxRecDepth 100000 in
theorem c_Md_unwork_32 : ct_Md_unwork 32 = ka_iald := rfl
theorem d_Md_unwork_32 : decode prog_12_method_30_code 32 = .ok (.iaload, 1) := by decide +kernel
set_option maxRecDepth 100000 in
theorem c_Md_unwork_33 : ct_Md_unwork 33 = ka_iast := rfl
theorem d_Md_unwork_33 : decode prog_12_method_30_code 33 = .ok (.iastore, 1) := by decide +kernel
set_option maxRecDepth 100000 in
theorem c_Md_unwork_34 : ct_Md_unwork 34 = ka_al 0 1 := rfl
theorem d_Md_unwork_34 : decode prog_12_method_30_code 34 = .ok (.aload_n 0, 1) := by decide +kernel
set_option maxRecDepth 100000 in
theorem c_Md_unwork_35 : ct_Md_unwork 35 = ka_get 10 51 := rfl
theorem d_Md_unwork_35 : decode prog_12_method_30_code 35 = .ok (.getfield 80, 3) := by decide +kernel
set_option maxRecDepth 100000 in
theorem c_Md_unwork_38 : ct_Md_unwork 38 = ka_il 2 1 := rfl
theorem d_Md_unwork_38 : decode prog_12_method_30_code 38 = .ok (.iload_n 2, 1) := by decide +kernel
set_option maxRecDepth 100000 in
theorem c_Md_unwork_39 : ct_Md_unwork 39 = ka_al 0 1 := rfl
theorem d_Md_unwork_39 : decode prog_12_method_30_code 39 = .ok (.aload_n 0, 1) := by decide +kernel
set_option maxRecDepth 100000 in
theorem c_Md_unwork_40 : ct_Md_unwork 40 = ka_get 10 51 := rfl
theorem d_Md_unwork_40 : decode prog_12_method_30_code 40 = .ok (.getfield 80, 3) := by decide +kernel
set_option maxRecDepth 100000 in
theorem c_Md_unwork_43 : ct_Md_unwork 43 = ka_il 2 1 := rfl
theorem d_Md_unwork_43 : decode prog_12_method_30_code 43 = .ok (.iload_n 2, 1) := by decide +kernel
set_option maxRecDepth 100000 in
theorem c_Md_unwork_44 : ct_Md_unwork 44 = ka_ci (nI 1) 1 := rfl
theorem d_Md_unwork_44 : decode prog_12_method_30_code 44 = .ok (.iconst 1, 1) := by decide +kernel
set_option maxRecDepth 100000 in
theorem c_Md_unwork_45 : ct_Md_unwork 45 = ka_ii (fun x y => x + y) := rfl
theorem d_Md_unwork_45 : decode prog_12_method_30_code 45 = .ok (.iadd, 1) := by decide +kernel
set_option maxRecDepth 100000 in
theorem c_Md_unwork_46 : ct_Md_unwork 46 = ka_lald := rfl
theorem d_Md_unwork_46 : decode prog_12_method_30_code 46 = .ok (.laload, 1) := by decide +kernel
set_option maxRecDepth 100000 in
theorem c_Md_unwork_47 : ct_Md_unwork 47 = ka_last := rfl
theorem d_Md_unwork_47 : decode prog_12_method_30_code 47 = .ok (.lastore, 1) := by decide +kernel
set_option maxRecDepth 100000 in
theorem c_Md_unwork_48 : ct_Md_unwork 48 = ka_inc 2 (nI 1) := rfl
theorem d_Md_unwork_48 : decode prog_12_method_30_code 48 = .ok (.iinc 2 1, 3) := by decide +kernel
set_option maxRecDepth 100000 in
theorem c_Md_unwork_51 : ct_Md_unwork 51 = ka_goto 12 := rfl
theorem d_Md_unwork_51 : decode prog_12_method_30_code 51 = .ok (.goto (-39), 3) := by decide +kernel
set_option maxRecDepth 100000 in
theorem c_Md_unwork_54 : ct_Md_unwork 54 = ka_ret := rfl
theorem d_Md_unwork_54 : decode prog_12_method_30_code 54 = .ok (.return_, 1) := by decide +kernel
set_option maxRecDepth 100000 in
set_option maxHeartbeats 4000000 in
theorem s_Md_unwork_55 : ∀ pc, pc < 55 → kc_Sim kt kw_A kw_N kt_cl kt_En "DirectoryDeskModel" prog_12_method_30_code 3 (none) "unwork" none pc (ct_Md_unwork pc) := by
  let P : Nat → Prop := fun pc => kc_Sim kt kw_A kw_N kt_cl kt_En "DirectoryDeskModel" prog_12_method_30_code 3 (none) "unwork" none pc (ct_Md_unwork pc)
  exact kc_case (P := P) (kc_se c_Md_unwork_54 (sm_ret d_Md_unwork_54 rfl)) (
  kc_case (P := P) (kc_se rfl sm_no) (
  kc_case (P := P) (kc_se rfl sm_no) (
  kc_case (P := P) (kc_se c_Md_unwork_51 (sm_goto d_Md_unwork_51 (by decide))) (
  kc_case (P := P) (kc_se rfl sm_no) (
  kc_case (P := P) (kc_se rfl sm_no) (
  kc_case (P := P) (kc_se c_Md_unwork_48 (sm_inc d_Md_unwork_48 (by decide) (Nat.le_of_ble_eq_true rfl))) (
  kc_case (P := P) (kc_se c_Md_unwork_47 (sm_last d_Md_unwork_47)) (
  kc_case (P := P) (kc_se c_Md_unwork_46 (sm_lald d_Md_unwork_46)) (
  kc_case (P := P) (kc_se c_Md_unwork_45 (sm_iadd d_Md_unwork_45)) (
  kc_case (P := P) (kc_se c_Md_unwork_44 (sm_iconst d_Md_unwork_44 (by decide))) (
  kc_case (P := P) (kc_se c_Md_unwork_43 (sm_iload_n d_Md_unwork_43 rfl)) (
  kc_case (P := P) (kc_se rfl sm_no) (
  kc_case (P := P) (kc_se rfl sm_no) (
  kc_case (P := P) (kc_se c_Md_unwork_40 (sm_get (ci := 10) (C := "DirectoryDeskModel") (F := kF_Md) rfl kin_Md (Nat.le_of_ble_eq_true rfl) d_Md_unwork_40 (kw3 234 rfl rfl))) (
  kc_case (P := P) (kc_se c_Md_unwork_39 (sm_aload_n d_Md_unwork_39 rfl)) (
  kc_case (P := P) (kc_se c_Md_unwork_38 (sm_iload_n d_Md_unwork_38 rfl)) (
  kc_case (P := P) (kc_se rfl sm_no) (
  kc_case (P := P) (kc_se rfl sm_no) (
  kc_case (P := P) (kc_se c_Md_unwork_35 (sm_get (ci := 10) (C := "DirectoryDeskModel") (F := kF_Md) rfl kin_Md (Nat.le_of_ble_eq_true rfl) d_Md_unwork_35 (kw3 234 rfl rfl))) (
  kc_case (P := P) (kc_se c_Md_unwork_34 (sm_aload_n d_Md_unwork_34 rfl)) (
  kc_case (P := P) (kc_se c_Md_unwork_33 (sm_iast d_Md_unwork_33)) (
  kc_case (P := P) (kc_se c_Md_unwork_32 (sm_iald d_Md_unwork_32)) (
  kc_case (P := P) (kc_se c_Md_unwork_31 (sm_iadd d_Md_unwork_31)) (
  kc_case (P := P) (kc_se c_Md_unwork_30 (sm_iconst d_Md_unwork_30 (by decide))) (
  kc_case (P := P) (kc_se c_Md_unwork_29 (sm_iload_n d_Md_unwork_29 rfl)) (
  kc_case (P := P) (kc_se rfl sm_no) (
  kc_case (P := P) (kc_se rfl sm_no) (
  kc_case (P := P) (kc_se c_Md_unwork_26 (sm_get (ci := 10) (C := "DirectoryDeskModel") (F := kF_Md) rfl kin_Md (Nat.le_of_ble_eq_true rfl) d_Md_unwork_26 (kw3 233 rfl rfl))) (
  kc_case (P := P) (kc_se c_Md_unwork_25 (sm_aload_n d_Md_unwork_25 rfl)) (
  kc_case (P := P) (kc_se c_Md_unwork_24 (sm_iload_n d_Md_unwork_24 rfl)) (
  kc_case (P := P) (kc_se rfl sm_no) (
  kc_case (P := P) (kc_se rfl sm_no) (
  kc_case (P := P) (kc_se c_Md_unwork_21 (sm_get (ci := 10) (C := "DirectoryDeskModel") (F := kF_Md) rfl kin_Md (Nat.le_of_ble_eq_true rfl) d_Md_unwork_21 (kw3 233 rfl rfl))) (
  kc_case (P := P) (kc_se c_Md_unwork_20 (sm_aload_n d_Md_unwork_20 rfl)) (
  kc_case (P := P) (kc_se rfl sm_no) (
  kc_case (P := P) (kc_se rfl sm_no) (
  kc_case (P := P) (kc_se c_Md_unwork_17 (sm_cm_ge d_Md_unwork_17 (by decide))) (
  kc_case (P := P) (kc_se rfl sm_no) (
  kc_case (P := P) (kc_se rfl sm_no) (
  kc_case (P := P) (kc_se c_Md_unwork_14 (sm_get (ci := 10) (C := "DirectoryDeskModel") (F := kF_Md) rfl kin_Md (Nat.le_of_ble_eq_true rfl) d_Md_unwork_14 (kw3 232 rfl rfl))) (
  kc_case (P := P) (kc_se c_Md_unwork_13 (sm_aload_n d_Md_unwork_13 rfl)) (
  kc_case (P := P) (kc_se c_Md_unwork_12 (sm_iload_n d_Md_unwork_12 rfl)) (
  kc_case (P := P) (kc_se c_Md_unwork_11 (sm_istore_n d_Md_unwork_11 rfl (Nat.le_of_ble_eq_true rfl))) (
  kc_case (P := P) (kc_se c_Md_unwork_10 (sm_iload_n d_Md_unwork_10 rfl)) (
  kc_case (P := P) (kc_se rfl sm_no) (
  kc_case (P := P) (kc_se rfl sm_no) (
  kc_case (P := P) (kc_se c_Md_unwork_7 (sm_put (ci := 10) (C := "DirectoryDeskModel") (F := kF_Md) rfl kin_Md kty_Md ktk_Md knm_Md (Nat.le_of_ble_eq_true rfl) (by decide +kernel) d_Md_unwork_7 (kw3 232 rfl rfl) rfl)) (
  kc_case (P := P) (kc_se c_Md_unwork_6 (sm_isub d_Md_unwork_6)) (
  kc_case (P := P) (kc_se c_Md_unwork_5 (sm_iconst d_Md_unwork_5 (by decide))) (
  kc_case (P := P) (kc_se rfl sm_no) (
  kc_case (P := P) (kc_se rfl sm_no) (
  kc_case (P := P) (kc_se c_Md_unwork_2 (sm_get (ci := 10) (C := "DirectoryDeskModel") (F := kF_Md) rfl kin_Md (Nat.le_of_ble_eq_true rfl) d_Md_unwork_2 (kw3 232 rfl rfl))) (
  kc_case (P := P) (kc_se c_Md_unwork_1 (sm_dup d_Md_unwork_1)) (
  kc_case (P := P) (kc_se c_Md_unwork_0 (sm_aload_n d_Md_unwork_0 rfl)) (
  kc_case0)))))))))))))))))))))))))))))))))))))))))))))))))))))))
set_option maxRecDepth 100000 in
theorem ka_nth_no_Md_unwork (pc : Nat) (h : 55 ≤ pc) : ct_Md_unwork pc = ka_no := ka_nth_ge _ pc (Nat.le_trans (Nat.le_of_eq (by rfl)) h)
theorem s_Md_unwork (pc : Nat) : kc_Sim kt kw_A kw_N kt_cl kt_En "DirectoryDeskModel" prog_12_method_30_code 3 (none) "unwork" none pc (ct_Md_unwork pc) := (Nat.lt_or_ge pc 55).elim (s_Md_unwork_55 pc) (fun h => kc_se (ka_nth_no_Md_unwork pc h) sm_no)
def cl_Md_clearType_0 : List kc_A := [ka_ci (nI 0) 1, ka_is 2 1, ka_al 0 1, ka_get 10 49, ka_no, ka_no, ka_ci (nI 1) 1, ka_ii (fun x y => x - y), ka_is 3 1, ka_il 3 1, ka_if (fun x => x < 0) 37, ka_no, ka_no, ka_al 0 1, ka_get 10 50, ka_no, ka_no, ka_il 3 1, ka_iald, ka_il 1 1, ka_cm (fun x y => ¬ x = y) 31, ka_no, ka_no, ka_al 0 1, ka_il 3 1, ka_cv 125 1 10 0 0, ka_no, ka_no, ka_inc 2 (nI 1), ka_no, ka_no, ka_inc 3 (-1), ka_no, ka_no, ka_goto 9, ka_no, ka_no, ka_il 2 1, ka_ri]
def ct_Md_clearType : Nat → kc_A := fun pc => ka_nth (cl_Md_clearType_0) pc
set_option maxRecDepth 100000 in
theorem c_Md_clearType_0 : ct_Md_clearType 0 = ka_ci (nI 0) 1 := rfl
theorem d_Md_clearType_0 : decode prog_12_method_31_code 0 = .ok (.iconst 0, 1) := by decide +kernel
set_option maxRecDepth 100000 in
theorem c_Md_clearType_1 : ct_Md_clearType 1 = ka_is 2 1 := rfl
theorem d_Md_clearType_1 : decode prog_12_method_31_code 1 = .ok (.istore_n 2, 1) := by decide +kernel
set_option maxRecDepth 100000 in
theorem c_Md_clearType_2 : ct_Md_clearType 2 = ka_al 0 1 := rfl
theorem d_Md_clearType_2 : decode prog_12_method_31_code 2 = .ok (.aload_n 0, 1) := by decide +kernel
set_option maxRecDepth 100000 in
theorem c_Md_clearType_3 : ct_Md_clearType 3 = ka_get 10 49 := rfl
theorem d_Md_clearType_3 : decode prog_12_method_31_code 3 = .ok (.getfield 237, 3) := by decide +kernel
set_option maxRecDepth 100000 in
theorem c_Md_clearType_6 : ct_Md_clearType 6 = ka_ci (nI 1) 1 := rfl
theorem d_Md_clearType_6 : decode prog_12_method_31_code 6 = .ok (.iconst 1, 1) := by decide +kernel
set_option maxRecDepth 100000 in
theorem c_Md_clearType_7 : ct_Md_clearType 7 = ka_ii (fun x y => x - y) := rfl
theorem d_Md_clearType_7 : decode prog_12_method_31_code 7 = .ok (.isub, 1) := by decide +kernel
set_option maxRecDepth 100000 in
theorem c_Md_clearType_8 : ct_Md_clearType 8 = ka_is 3 1 := rfl
theorem d_Md_clearType_8 : decode prog_12_method_31_code 8 = .ok (.istore_n 3, 1) := by decide +kernel
set_option maxRecDepth 100000 in
theorem c_Md_clearType_9 : ct_Md_clearType 9 = ka_il 3 1 := rfl
theorem d_Md_clearType_9 : decode prog_12_method_31_code 9 = .ok (.iload_n 3, 1) := by decide +kernel
set_option maxRecDepth 100000 in
theorem c_Md_clearType_10 : ct_Md_clearType 10 = ka_if (fun x => x < 0) 37 := rfl
theorem d_Md_clearType_10 : decode prog_12_method_31_code 10 = .ok (.ifCond .lt 27, 3) := by decide +kernel
set_option maxRecDepth 100000 in
theorem c_Md_clearType_13 : ct_Md_clearType 13 = ka_al 0 1 := rfl
theorem d_Md_clearType_13 : decode prog_12_method_31_code 13 = .ok (.aload_n 0, 1) := by decide +kernel
set_option maxRecDepth 100000 in
theorem c_Md_clearType_14 : ct_Md_clearType 14 = ka_get 10 50 := rfl
theorem d_Md_clearType_14 : decode prog_12_method_31_code 14 = .ok (.getfield 77, 3) := by decide +kernel
set_option maxRecDepth 100000 in
theorem c_Md_clearType_17 : ct_Md_clearType 17 = ka_il 3 1 := rfl
theorem d_Md_clearType_17 : decode prog_12_method_31_code 17 = .ok (.iload_n 3, 1) := by decide +kernel
set_option maxRecDepth 100000 in
theorem c_Md_clearType_18 : ct_Md_clearType 18 = ka_iald := rfl
theorem d_Md_clearType_18 : decode prog_12_method_31_code 18 = .ok (.iaload, 1) := by decide +kernel
set_option maxRecDepth 100000 in
theorem c_Md_clearType_19 : ct_Md_clearType 19 = ka_il 1 1 := rfl
theorem d_Md_clearType_19 : decode prog_12_method_31_code 19 = .ok (.iload_n 1, 1) := by decide +kernel
set_option maxRecDepth 100000 in
theorem c_Md_clearType_20 : ct_Md_clearType 20 = ka_cm (fun x y => ¬ x = y) 31 := rfl
theorem d_Md_clearType_20 : decode prog_12_method_31_code 20 = .ok (.if_icmp .ne 11, 3) := by decide +kernel
set_option maxRecDepth 100000 in
theorem c_Md_clearType_23 : ct_Md_clearType 23 = ka_al 0 1 := rfl
theorem d_Md_clearType_23 : decode prog_12_method_31_code 23 = .ok (.aload_n 0, 1) := by decide +kernel
set_option maxRecDepth 100000 in
theorem c_Md_clearType_24 : ct_Md_clearType 24 = ka_il 3 1 := rfl
theorem d_Md_clearType_24 : decode prog_12_method_31_code 24 = .ok (.iload_n 3, 1) := by decide +kernel
set_option maxRecDepth 100000 in
theorem c_Md_clearType_25 : ct_Md_clearType 25 = ka_cv 125 1 10 0 0 := rfl
theorem d_Md_clearType_25 : decode prog_12_method_31_code 25 = .ok (.invokevirtual 240, 3) := by decide +kernel
set_option maxRecDepth 100000 in
theorem c_Md_clearType_28 : ct_Md_clearType 28 = ka_inc 2 (nI 1) := rfl
theorem d_Md_clearType_28 : decode prog_12_method_31_code 28 = .ok (.iinc 2 1, 3) := by decide +kernel
set_option maxRecDepth 100000 in
theorem c_Md_clearType_31 : ct_Md_clearType 31 = ka_inc 3 (-1) := rfl
theorem d_Md_clearType_31 : decode prog_12_method_31_code 31 = .ok (.iinc 3 (-1), 3) := by decide +kernel
set_option maxRecDepth 100000 in
theorem c_Md_clearType_34 : ct_Md_clearType 34 = ka_goto 9 := rfl
theorem d_Md_clearType_34 : decode prog_12_method_31_code 34 = .ok (.goto (-25), 3) := by decide +kernel
set_option maxRecDepth 100000 in
theorem c_Md_clearType_37 : ct_Md_clearType 37 = ka_il 2 1 := rfl
theorem d_Md_clearType_37 : decode prog_12_method_31_code 37 = .ok (.iload_n 2, 1) := by decide +kernel
set_option maxRecDepth 100000 in
theorem c_Md_clearType_38 : ct_Md_clearType 38 = ka_ri := rfl
theorem d_Md_clearType_38 : decode prog_12_method_31_code 38 = .ok (.ireturn, 1) := by decide +kernel
set_option maxRecDepth 100000 in
set_option maxHeartbeats 4000000 in
theorem s_Md_clearType_39 : ∀ pc, pc < 39 → kc_Sim kt kw_A kw_N kt_cl kt_En "DirectoryDeskModel" prog_12_method_31_code 4 (some .int) "clearType" none pc (ct_Md_clearType pc) := by
  let P : Nat → Prop := fun pc => kc_Sim kt kw_A kw_N kt_cl kt_En "DirectoryDeskModel" prog_12_method_31_code 4 (some .int) "clearType" none pc (ct_Md_clearType pc)
  exact kc_case (P := P) (kc_se c_Md_clearType_38 (sm_ri d_Md_clearType_38 rfl)) (
  kc_case (P := P) (kc_se c_Md_clearType_37 (sm_iload_n d_Md_clearType_37 rfl)) (
  kc_case (P := P) (kc_se rfl sm_no) (
  kc_case (P := P) (kc_se rfl sm_no) (
  kc_case (P := P) (kc_se c_Md_clearType_34 (sm_goto d_Md_clearType_34 (by decide))) (
  kc_case (P := P) (kc_se rfl sm_no) (
  kc_case (P := P) (kc_se rfl sm_no) (
  kc_case (P := P) (kc_se c_Md_clearType_31 (sm_inc d_Md_clearType_31 (by decide) (Nat.le_of_ble_eq_true rfl))) (
  kc_case (P := P) (kc_se rfl sm_no) (
  kc_case (P := P) (kc_se rfl sm_no) (
  kc_case (P := P) (kc_se c_Md_clearType_28 (sm_inc d_Md_clearType_28 (by decide) (Nat.le_of_ble_eq_true rfl))) (
  kc_case (P := P) (kc_se rfl sm_no) (
  kc_case (P := P) (kc_se rfl sm_no) (
  kc_case (P := P) (kc_se c_Md_clearType_25 (sm_cv (j := 125) rfl rfl kw_o kw_g wc_Md_unwork (Nat.le_of_ble_eq_true rfl) hd_Md_unwork (ci := 10) (F := kF_Md) (N := 52) rfl (kw5 48 rfl rfl) wi_Md_unwork ws_Md_unwork wn_Md_unwork d_Md_clearType_25)) (
  kc_case (P := P) (kc_se c_Md_clearType_24 (sm_iload_n d_Md_clearType_24 rfl)) (
  kc_case (P := P) (kc_se c_Md_clearType_23 (sm_aload_n d_Md_clearType_23 rfl)) (
  kc_case (P := P) (kc_se rfl sm_no) (
  kc_case (P := P) (kc_se rfl sm_no) (
  kc_case (P := P) (kc_se c_Md_clearType_20 (sm_cm_ne d_Md_clearType_20 (by decide))) (
  kc_case (P := P) (kc_se c_Md_clearType_19 (sm_iload_n d_Md_clearType_19 rfl)) (
  kc_case (P := P) (kc_se c_Md_clearType_18 (sm_iald d_Md_clearType_18)) (
  kc_case (P := P) (kc_se c_Md_clearType_17 (sm_iload_n d_Md_clearType_17 rfl)) (
  kc_case (P := P) (kc_se rfl sm_no) (
  kc_case (P := P) (kc_se rfl sm_no) (
  kc_case (P := P) (kc_se c_Md_clearType_14 (sm_get (ci := 10) (C := "DirectoryDeskModel") (F := kF_Md) rfl kin_Md (Nat.le_of_ble_eq_true rfl) d_Md_clearType_14 (kw3 233 rfl rfl))) (
  kc_case (P := P) (kc_se c_Md_clearType_13 (sm_aload_n d_Md_clearType_13 rfl)) (
  kc_case (P := P) (kc_se rfl sm_no) (
  kc_case (P := P) (kc_se rfl sm_no) (
  kc_case (P := P) (kc_se c_Md_clearType_10 (sm_if_lt d_Md_clearType_10 (by decide))) (
  kc_case (P := P) (kc_se c_Md_clearType_9 (sm_iload_n d_Md_clearType_9 rfl)) (
  kc_case (P := P) (kc_se c_Md_clearType_8 (sm_istore_n d_Md_clearType_8 rfl (Nat.le_of_ble_eq_true rfl))) (
  kc_case (P := P) (kc_se c_Md_clearType_7 (sm_isub d_Md_clearType_7)) (
  kc_case (P := P) (kc_se c_Md_clearType_6 (sm_iconst d_Md_clearType_6 (by decide))) (
  kc_case (P := P) (kc_se rfl sm_no) (
  kc_case (P := P) (kc_se rfl sm_no) (
  kc_case (P := P) (kc_se c_Md_clearType_3 (sm_get (ci := 10) (C := "DirectoryDeskModel") (F := kF_Md) rfl kin_Md (Nat.le_of_ble_eq_true rfl) d_Md_clearType_3 (kw3 232 rfl rfl))) (
  kc_case (P := P) (kc_se c_Md_clearType_2 (sm_aload_n d_Md_clearType_2 rfl)) (
  kc_case (P := P) (kc_se c_Md_clearType_1 (sm_istore_n d_Md_clearType_1 rfl (Nat.le_of_ble_eq_true rfl))) (
  kc_case (P := P) (kc_se c_Md_clearType_0 (sm_iconst d_Md_clearType_0 (by decide))) (
  kc_case0)))))))))))))))))))))))))))))))))))))))
set_option maxRecDepth 100000 in
theorem ka_nth_no_Md_clearType (pc : Nat) (h : 39 ≤ pc) : ct_Md_clearType pc = ka_no := ka_nth_ge _ pc (Nat.le_trans (Nat.le_of_eq (by rfl)) h)
theorem s_Md_clearType (pc : Nat) : kc_Sim kt kw_A kw_N kt_cl kt_En "DirectoryDeskModel" prog_12_method_31_code 4 (some .int) "clearType" none pc (ct_Md_clearType pc) := (Nat.lt_or_ge pc 39).elim (s_Md_clearType_39 pc) (fun h => kc_se (ka_nth_no_Md_clearType pc h) sm_no)
def cl_Md_settle_0 : List kc_A := [ka_al 0 1, ka_get 10 10, ka_no, ka_no, ka_il 1 1, ka_al 0 1, ka_get 10 49, ka_no, ka_no, ka_iast, ka_ci (nI 0) 1, ka_is 2 1, ka_il 2 1, ka_al 0 1, ka_get 10 49, ka_no, ka_no, ka_cm (fun x y => y ≤ x) 60, ka_no, ka_no, ka_al 0 1, ka_get 10 11, ka_no, ka_no, ka_ci (nI 6) 2, ka_no, ka_il 1 1, ka_ii (fun x y => x * y), ka_il 2 1, ka_ii (fun x y => x + y), ka_al 0 1, ka_get 10 50, ka_no, ka_no, ka_il 2 1, ka_iald, ka_iast, ka_al 0 1, ka_get 10 12, ka_no, ka_no, ka_ci (nI 6) 2, ka_no, ka_il 1 1, ka_ii (fun x y => x * y), ka_il 2 1, ka_ii (fun x y => x + y), ka_al 0 1, ka_get 10 51, ka_no, ka_no, ka_il 2 1, ka_lald, ka_last, ka_inc 2 (nI 1), ka_no, ka_no, ka_goto 12, ka_no, ka_no]
def cl_Md_settle_1 : List kc_A := [ka_ret]
def ct_Md_settle : Nat → kc_A := fun pc => ka_nth (cl_Md_settle_0 ++ (cl_Md_settle_1)) pc
set_option maxRecDepth 100000 in
theorem c_Md_settle_0 : ct_Md_settle 0 = ka_al 0 1 := rfl
theorem d_Md_settle_0 : decode prog_12_method_32_code 0 = .ok (.aload_n 0, 1) := by decide +kernel
set_option maxRecDepth 100000 in
theorem c_Md_settle_1 : ct_Md_settle 1 = ka_get 10 10 := rfl
theorem d_Md_settle_1 : decode prog_12_method_32_code 1 = .ok (.getfield 26, 3) := by decide +kernel
set_option maxRecDepth 100000 in
theorem c_Md_settle_4 : ct_Md_settle 4 = ka_il 1 1 := rfl
theorem d_Md_settle_4 : decode prog_12_method_32_code 4 = .ok (.iload_n 1, 1) := by decide +kernel
set_option maxRecDepth 100000 in
theorem c_Md_settle_5 : ct_Md_settle 5 = ka_al 0 1 := rfl
theorem d_Md_settle_5 : decode prog_12_method_32_code 5 = .ok (.aload_n 0, 1) := by decide +kernel
set_option maxRecDepth 100000 in
theorem c_Md_settle_6 : ct_Md_settle 6 = ka_get 10 49 := rfl
theorem d_Md_settle_6 : decode prog_12_method_32_code 6 = .ok (.getfield 237, 3) := by decide +kernel
set_option maxRecDepth 100000 in
theorem c_Md_settle_9 : ct_Md_settle 9 = ka_iast := rfl
theorem d_Md_settle_9 : decode prog_12_method_32_code 9 = .ok (.iastore, 1) := by decide +kernel
set_option maxRecDepth 100000 in
theorem c_Md_settle_10 : ct_Md_settle 10 = ka_ci (nI 0) 1 := rfl
theorem d_Md_settle_10 : decode prog_12_method_32_code 10 = .ok (.iconst 0, 1) := by decide +kernel
set_option maxRecDepth 100000 in
theorem c_Md_settle_11 : ct_Md_settle 11 = ka_is 2 1 := rfl
theorem d_Md_settle_11 : decode prog_12_method_32_code 11 = .ok (.istore_n 2, 1) := by decide +kernel
set_option maxRecDepth 100000 in
theorem c_Md_settle_12 : ct_Md_settle 12 = ka_il 2 1 := rfl
theorem d_Md_settle_12 : decode prog_12_method_32_code 12 = .ok (.iload_n 2, 1) := by decide +kernel
set_option maxRecDepth 100000 in
theorem c_Md_settle_13 : ct_Md_settle 13 = ka_al 0 1 := rfl
theorem d_Md_settle_13 : decode prog_12_method_32_code 13 = .ok (.aload_n 0, 1) := by decide +kernel
set_option maxRecDepth 100000 in
theorem c_Md_settle_14 : ct_Md_settle 14 = ka_get 10 49 := rfl
theorem d_Md_settle_14 : decode prog_12_method_32_code 14 = .ok (.getfield 237, 3) := by decide +kernel
set_option maxRecDepth 100000 in
theorem c_Md_settle_17 : ct_Md_settle 17 = ka_cm (fun x y => y ≤ x) 60 := rfl
theorem d_Md_settle_17 : decode prog_12_method_32_code 17 = .ok (.if_icmp .ge 43, 3) := by decide +kernel
set_option maxRecDepth 100000 in
theorem c_Md_settle_20 : ct_Md_settle 20 = ka_al 0 1 := rfl
theorem d_Md_settle_20 : decode prog_12_method_32_code 20 = .ok (.aload_n 0, 1) := by decide +kernel
set_option maxRecDepth 100000 in
theorem c_Md_settle_21 : ct_Md_settle 21 = ka_get 10 11 := rfl
theorem d_Md_settle_21 : decode prog_12_method_32_code 21 = .ok (.getfield 29, 3) := by decide +kernel
set_option maxRecDepth 100000 in
theorem c_Md_settle_24 : ct_Md_settle 24 = ka_ci (nI 6) 2 := rfl
theorem d_Md_settle_24 : decode prog_12_method_32_code 24 = .ok (.bipush 6, 2) := by decide +kernel
set_option maxRecDepth 100000 in
theorem c_Md_settle_26 : ct_Md_settle 26 = ka_il 1 1 := rfl
theorem d_Md_settle_26 : decode prog_12_method_32_code 26 = .ok (.iload_n 1, 1) := by decide +kernel
set_option maxRecDepth 100000 in
theorem c_Md_settle_27 : ct_Md_settle 27 = ka_ii (fun x y => x * y) := rfl
theorem d_Md_settle_27 : decode prog_12_method_32_code 27 = .ok (.imul, 1) := by decide +kernel
set_option maxRecDepth 100000 in
theorem c_Md_settle_28 : ct_Md_settle 28 = ka_il 2 1 := rfl
theorem d_Md_settle_28 : decode prog_12_method_32_code 28 = .ok (.iload_n 2, 1) := by decide +kernel
set_option maxRecDepth 100000 in
theorem c_Md_settle_29 : ct_Md_settle 29 = ka_ii (fun x y => x + y) := rfl
theorem d_Md_settle_29 : decode prog_12_method_32_code 29 = .ok (.iadd, 1) := by decide +kernel
set_option maxRecDepth 100000 in
theorem c_Md_settle_30 : ct_Md_settle 30 = ka_al 0 1 := rfl
theorem d_Md_settle_30 : decode prog_12_method_32_code 30 = .ok (.aload_n 0, 1) := by decide +kernel
set_option maxRecDepth 100000 in
theorem c_Md_settle_31 : ct_Md_settle 31 = ka_get 10 50 := rfl
theorem d_Md_settle_31 : decode prog_12_method_32_code 31 = .ok (.getfield 77, 3) := by decide +kernel
set_option maxRecDepth 100000 in
theorem c_Md_settle_34 : ct_Md_settle 34 = ka_il 2 1 := rfl
theorem d_Md_settle_34 : decode prog_12_method_32_code 34 = .ok (.iload_n 2, 1) := by decide +kernel
set_option maxRecDepth 100000 in
theorem c_Md_settle_35 : ct_Md_settle 35 = ka_iald := rfl
theorem d_Md_settle_35 : decode prog_12_method_32_code 35 = .ok (.iaload, 1) := by decide +kernel
set_option maxRecDepth 100000 in
theorem c_Md_settle_36 : ct_Md_settle 36 = ka_iast := rfl
theorem d_Md_settle_36 : decode prog_12_method_32_code 36 = .ok (.iastore, 1) := by decide +kernel
set_option maxRecDepth 100000 in
theorem c_Md_settle_37 : ct_Md_settle 37 = ka_al 0 1 := rfl
theorem d_Md_settle_37 : decode prog_12_method_32_code 37 = .ok (.aload_n 0, 1) := by decide +kernel
set_option maxRecDepth 100000 in
theorem c_Md_settle_38 : ct_Md_settle 38 = ka_get 10 12 := rfl
theorem d_Md_settle_38 : decode prog_12_method_32_code 38 = .ok (.getfield 32, 3) := by decide +kernel
set_option maxRecDepth 100000 in
theorem c_Md_settle_41 : ct_Md_settle 41 = ka_ci (nI 6) 2 := rfl
theorem d_Md_settle_41 : decode prog_12_method_32_code 41 = .ok (.bipush 6, 2) := by decide +kernel
set_option maxRecDepth 100000 in
theorem c_Md_settle_43 : ct_Md_settle 43 = ka_il 1 1 := rfl
theorem d_Md_settle_43 : decode prog_12_method_32_code 43 = .ok (.iload_n 1, 1) := by decide +kernel
set_option maxRecDepth 100000 in
theorem c_Md_settle_44 : ct_Md_settle 44 = ka_ii (fun x y => x * y) := rfl
theorem d_Md_settle_44 : decode prog_12_method_32_code 44 = .ok (.imul, 1) := by decide +kernel
set_option maxRecDepth 100000 in
theorem c_Md_settle_45 : ct_Md_settle 45 = ka_il 2 1 := rfl
theorem d_Md_settle_45 : decode prog_12_method_32_code 45 = .ok (.iload_n 2, 1) := by decide +kernel
set_option maxRecDepth 100000 in
theorem c_Md_settle_46 : ct_Md_settle 46 = ka_ii (fun x y => x + y) := rfl
theorem d_Md_settle_46 : decode prog_12_method_32_code 46 = .ok (.iadd, 1) := by decide +kernel
set_option maxRecDepth 100000 in
theorem c_Md_settle_47 : ct_Md_settle 47 = ka_al 0 1 := rfl
theorem d_Md_settle_47 : decode prog_12_method_32_code 47 = .ok (.aload_n 0, 1) := by decide +kernel
set_option maxRecDepth 100000 in
theorem c_Md_settle_48 : ct_Md_settle 48 = ka_get 10 51 := rfl
theorem d_Md_settle_48 : decode prog_12_method_32_code 48 = .ok (.getfield 80, 3) := by decide +kernel
set_option maxRecDepth 100000 in
theorem c_Md_settle_51 : ct_Md_settle 51 = ka_il 2 1 := rfl
theorem d_Md_settle_51 : decode prog_12_method_32_code 51 = .ok (.iload_n 2, 1) := by decide +kernel
set_option maxRecDepth 100000 in
theorem c_Md_settle_52 : ct_Md_settle 52 = ka_lald := rfl
theorem d_Md_settle_52 : decode prog_12_method_32_code 52 = .ok (.laload, 1) := by decide +kernel
set_option maxRecDepth 100000 in
theorem c_Md_settle_53 : ct_Md_settle 53 = ka_last := rfl
theorem d_Md_settle_53 : decode prog_12_method_32_code 53 = .ok (.lastore, 1) := by decide +kernel
set_option maxRecDepth 100000 in
theorem c_Md_settle_54 : ct_Md_settle 54 = ka_inc 2 (nI 1) := rfl
theorem d_Md_settle_54 : decode prog_12_method_32_code 54 = .ok (.iinc 2 1, 3) := by decide +kernel
set_option maxRecDepth 100000 in
theorem c_Md_settle_57 : ct_Md_settle 57 = ka_goto 12 := rfl
theorem d_Md_settle_57 : decode prog_12_method_32_code 57 = .ok (.goto (-45), 3) := by decide +kernel
set_option maxRecDepth 100000 in
theorem c_Md_settle_60 : ct_Md_settle 60 = ka_ret := rfl
theorem d_Md_settle_60 : decode prog_12_method_32_code 60 = .ok (.return_, 1) := by decide +kernel
set_option maxRecDepth 100000 in
set_option maxHeartbeats 4000000 in
theorem s_Md_settle_60 : ∀ pc, pc < 60 → kc_Sim kt kw_A kw_N kt_cl kt_En "DirectoryDeskModel" prog_12_method_32_code 3 (none) "settle" none pc (ct_Md_settle pc) := by
  let P : Nat → Prop := fun pc => kc_Sim kt kw_A kw_N kt_cl kt_En "DirectoryDeskModel" prog_12_method_32_code 3 (none) "settle" none pc (ct_Md_settle pc)
  exact kc_case (P := P) (kc_se rfl sm_no) (
  kc_case (P := P) (kc_se rfl sm_no) (
  kc_case (P := P) (kc_se c_Md_settle_57 (sm_goto d_Md_settle_57 (by decide))) (
  kc_case (P := P) (kc_se rfl sm_no) (
  kc_case (P := P) (kc_se rfl sm_no) (
  kc_case (P := P) (kc_se c_Md_settle_54 (sm_inc d_Md_settle_54 (by decide) (Nat.le_of_ble_eq_true rfl))) (
  kc_case (P := P) (kc_se c_Md_settle_53 (sm_last d_Md_settle_53)) (
  kc_case (P := P) (kc_se c_Md_settle_52 (sm_lald d_Md_settle_52)) (
  kc_case (P := P) (kc_se c_Md_settle_51 (sm_iload_n d_Md_settle_51 rfl)) (
  kc_case (P := P) (kc_se rfl sm_no) (
  kc_case (P := P) (kc_se rfl sm_no) (
  kc_case (P := P) (kc_se c_Md_settle_48 (sm_get (ci := 10) (C := "DirectoryDeskModel") (F := kF_Md) rfl kin_Md (Nat.le_of_ble_eq_true rfl) d_Md_settle_48 (kw3 234 rfl rfl))) (
  kc_case (P := P) (kc_se c_Md_settle_47 (sm_aload_n d_Md_settle_47 rfl)) (
  kc_case (P := P) (kc_se c_Md_settle_46 (sm_iadd d_Md_settle_46)) (
  kc_case (P := P) (kc_se c_Md_settle_45 (sm_iload_n d_Md_settle_45 rfl)) (
  kc_case (P := P) (kc_se c_Md_settle_44 (sm_imul d_Md_settle_44)) (
  kc_case (P := P) (kc_se c_Md_settle_43 (sm_iload_n d_Md_settle_43 rfl)) (
  kc_case (P := P) (kc_se rfl sm_no) (
  kc_case (P := P) (kc_se c_Md_settle_41 (sm_bipush d_Md_settle_41 (by decide))) (
  kc_case (P := P) (kc_se rfl sm_no) (
  kc_case (P := P) (kc_se rfl sm_no) (
  kc_case (P := P) (kc_se c_Md_settle_38 (sm_get (ci := 10) (C := "DirectoryDeskModel") (F := kF_Md) rfl kin_Md (Nat.le_of_ble_eq_true rfl) d_Md_settle_38 (kw3 195 rfl rfl))) (
  kc_case (P := P) (kc_se c_Md_settle_37 (sm_aload_n d_Md_settle_37 rfl)) (
  kc_case (P := P) (kc_se c_Md_settle_36 (sm_iast d_Md_settle_36)) (
  kc_case (P := P) (kc_se c_Md_settle_35 (sm_iald d_Md_settle_35)) (
  kc_case (P := P) (kc_se c_Md_settle_34 (sm_iload_n d_Md_settle_34 rfl)) (
  kc_case (P := P) (kc_se rfl sm_no) (
  kc_case (P := P) (kc_se rfl sm_no) (
  kc_case (P := P) (kc_se c_Md_settle_31 (sm_get (ci := 10) (C := "DirectoryDeskModel") (F := kF_Md) rfl kin_Md (Nat.le_of_ble_eq_true rfl) d_Md_settle_31 (kw3 233 rfl rfl))) (
  kc_case (P := P) (kc_se c_Md_settle_30 (sm_aload_n d_Md_settle_30 rfl)) (
  kc_case (P := P) (kc_se c_Md_settle_29 (sm_iadd d_Md_settle_29)) (
  kc_case (P := P) (kc_se c_Md_settle_28 (sm_iload_n d_Md_settle_28 rfl)) (
  kc_case (P := P) (kc_se c_Md_settle_27 (sm_imul d_Md_settle_27)) (
  kc_case (P := P) (kc_se c_Md_settle_26 (sm_iload_n d_Md_settle_26 rfl)) (
  kc_case (P := P) (kc_se rfl sm_no) (
  kc_case (P := P) (kc_se c_Md_settle_24 (sm_bipush d_Md_settle_24 (by decide))) (
  kc_case (P := P) (kc_se rfl sm_no) (
  kc_case (P := P) (kc_se rfl sm_no) (
  kc_case (P := P) (kc_se c_Md_settle_21 (sm_get (ci := 10) (C := "DirectoryDeskModel") (F := kF_Md) rfl kin_Md (Nat.le_of_ble_eq_true rfl) d_Md_settle_21 (kw3 194 rfl rfl))) (
  kc_case (P := P) (kc_se c_Md_settle_20 (sm_aload_n d_Md_settle_20 rfl)) (
  kc_case (P := P) (kc_se rfl sm_no) (
  kc_case (P := P) (kc_se rfl sm_no) (
  kc_case (P := P) (kc_se c_Md_settle_17 (sm_cm_ge d_Md_settle_17 (by decide))) (
  kc_case (P := P) (kc_se rfl sm_no) (
  kc_case (P := P) (kc_se rfl sm_no) (
  kc_case (P := P) (kc_se c_Md_settle_14 (sm_get (ci := 10) (C := "DirectoryDeskModel") (F := kF_Md) rfl kin_Md (Nat.le_of_ble_eq_true rfl) d_Md_settle_14 (kw3 232 rfl rfl))) (
  kc_case (P := P) (kc_se c_Md_settle_13 (sm_aload_n d_Md_settle_13 rfl)) (
  kc_case (P := P) (kc_se c_Md_settle_12 (sm_iload_n d_Md_settle_12 rfl)) (
  kc_case (P := P) (kc_se c_Md_settle_11 (sm_istore_n d_Md_settle_11 rfl (Nat.le_of_ble_eq_true rfl))) (
  kc_case (P := P) (kc_se c_Md_settle_10 (sm_iconst d_Md_settle_10 (by decide))) (
  kc_case (P := P) (kc_se c_Md_settle_9 (sm_iast d_Md_settle_9)) (
  kc_case (P := P) (kc_se rfl sm_no) (
  kc_case (P := P) (kc_se rfl sm_no) (
  kc_case (P := P) (kc_se c_Md_settle_6 (sm_get (ci := 10) (C := "DirectoryDeskModel") (F := kF_Md) rfl kin_Md (Nat.le_of_ble_eq_true rfl) d_Md_settle_6 (kw3 232 rfl rfl))) (
  kc_case (P := P) (kc_se c_Md_settle_5 (sm_aload_n d_Md_settle_5 rfl)) (
  kc_case (P := P) (kc_se c_Md_settle_4 (sm_iload_n d_Md_settle_4 rfl)) (
  kc_case (P := P) (kc_se rfl sm_no) (
  kc_case (P := P) (kc_se rfl sm_no) (
  kc_case (P := P) (kc_se c_Md_settle_1 (sm_get (ci := 10) (C := "DirectoryDeskModel") (F := kF_Md) rfl kin_Md (Nat.le_of_ble_eq_true rfl) d_Md_settle_1 (kw3 193 rfl rfl))) (
  kc_case (P := P) (kc_se c_Md_settle_0 (sm_aload_n d_Md_settle_0 rfl)) (
  kc_case0))))))))))))))))))))))))))))))))))))))))))))))))))))))))))))
set_option maxRecDepth 100000 in
set_option maxHeartbeats 4000000 in
theorem s_Md_settle_61 : ∀ pc, pc < 61 → kc_Sim kt kw_A kw_N kt_cl kt_En "DirectoryDeskModel" prog_12_method_32_code 3 (none) "settle" none pc (ct_Md_settle pc) := by
  let P : Nat → Prop := fun pc => kc_Sim kt kw_A kw_N kt_cl kt_En "DirectoryDeskModel" prog_12_method_32_code 3 (none) "settle" none pc (ct_Md_settle pc)
  exact kc_case (P := P) (kc_se c_Md_settle_60 (sm_ret d_Md_settle_60 rfl)) (
  s_Md_settle_60)
set_option maxRecDepth 100000 in
theorem ka_nth_no_Md_settle (pc : Nat) (h : 61 ≤ pc) : ct_Md_settle pc = ka_no := ka_nth_ge _ pc (Nat.le_trans (Nat.le_of_eq (by rfl)) h)
theorem s_Md_settle (pc : Nat) : kc_Sim kt kw_A kw_N kt_cl kt_En "DirectoryDeskModel" prog_12_method_32_code 3 (none) "settle" none pc (ct_Md_settle pc) := (Nat.lt_or_ge pc 61).elim (s_Md_settle_61 pc) (fun h => kc_se (ka_nth_no_Md_settle pc h) sm_no)
def cl_Md_workIn_0 : List kc_A := [ka_al 0 1, ka_get 10 35, ka_no, ka_no, ka_il 1 1, ka_iald, ka_is 3 1, ka_il 3 1, ka_ci (-1) 1, ka_cm (fun x y => ¬ x = y) 15, ka_no, ka_no, ka_ci (nI 17) 2, ka_no, ka_ri, ka_il 2 1, ka_ci (nI 2) 1, ka_cm (fun x y => ¬ x = y) 27, ka_no, ka_no, ka_al 0 1, ka_il 3 1, ka_cv 126 1 10 0 0, ka_no, ka_no, ka_is 4 2, ka_no, ka_il 2 1, ka_ci (nI 1) 1, ka_cm (fun x y => ¬ x = y) 56, ka_no, ka_no, ka_al 0 1, ka_get 10 37, ka_no, ka_no, ka_il 1 1, ka_iald, ka_if (fun x => ¬ x = 0) 56, ka_no, ka_no, ka_al 0 1, ka_il 3 1, ka_cv 126 1 10 0 0, ka_no, ka_no, ka_if (fun x => ¬ x = 0) 54, ka_no, ka_no, ka_ci (nI 16) 2, ka_no, ka_goto 55, ka_no, ka_no, ka_ci (nI 0) 1, ka_ri, ka_al 0 1, ka_get 10 36, ka_no, ka_no]
def cl_Md_workIn_1 : List kc_A := [ka_il 1 1, ka_iald, ka_is 4 2, ka_no, ka_il 4 2, ka_no, ka_al 0 1, ka_get 10 36, ka_no, ka_no, ka_il 1 1, ka_iald, ka_al 0 1, ka_get 10 37, ka_no, ka_no, ka_il 1 1, ka_iald, ka_ii (fun x y => x + y), ka_cm (fun x y => y ≤ x) 176, ka_no, ka_no, ka_al 0 1, ka_get 10 39, ka_no, ka_no, ka_il 4 2, ka_no, ka_lald, ka_cl (-1) 3, ka_no, ka_no, ka_lcmp, ka_if (fun x => ¬ x = 0) 99, ka_no, ka_no, ka_ci (nI 21) 2, ka_no, ka_ri, ka_al 0 1, ka_il 3 1, ka_al 0 1, ka_get 10 39, ka_no, ka_no, ka_il 4 2, ka_no, ka_lald, ka_cv 123 2 10 0 0, ka_no, ka_no, ka_is 5 2, ka_no, ka_il 2 1, ka_ci (nI 1) 1, ka_cm (fun x y => ¬ x = y) 126, ka_no, ka_no, ka_il 5 2, ka_no]
def cl_Md_workIn_2 : List kc_A := [ka_if (fun x => 0 ≤ x) 144, ka_no, ka_no, ka_goto 131, ka_no, ka_no, ka_il 5 2, ka_no, ka_if (fun x => x < 0) 144, ka_no, ka_no, ka_il 2 1, ka_ci (nI 1) 1, ka_cm (fun x y => ¬ x = y) 141, ka_no, ka_no, ka_ci (nI 16) 2, ka_no, ka_goto 143, ka_no, ka_no, ka_ci (nI 20) 2, ka_no, ka_ri, ka_il 2 1, ka_ci (nI 1) 1, ka_cm (fun x y => ¬ x = y) 158, ka_no, ka_no, ka_al 0 1, ka_il 5 2, ka_no, ka_cv 125 1 10 0 0, ka_no, ka_no, ka_goto 170, ka_no, ka_no, ka_al 0 1, ka_il 3 1, ka_al 0 1, ka_get 10 39, ka_no, ka_no, ka_il 4 2, ka_no, ka_lald, ka_cv 124 2 10 0 0, ka_no, ka_no, ka_inc 4 (nI 1), ka_no, ka_no, ka_goto 64, ka_no, ka_no, ka_ci (nI 0) 1, ka_ri]
def ct_Md_workIn : Nat → kc_A := fun pc => ka_nth (cl_Md_workIn_0 ++ (cl_Md_workIn_1 ++ (cl_Md_workIn_2))) pc
set_option maxRecDepth 100000 in
theorem c_Md_workIn_0 : ct_Md_workIn 0 = ka_al 0 1 := rfl
theorem d_Md_workIn_0 : decode prog_12_method_33_code 0 = .ok (.aload_n 0, 1) := by decide +kernel
set_option maxRecDepth 100000 in
theorem c_Md_workIn_1 : ct_Md_workIn 1 = ka_get 10 35 := rfl
theorem d_Md_workIn_1 : decode prog_12_method_33_code 1 = .ok (.getfield 44, 3) := by decide +kernel
set_option maxRecDepth 100000 in
theorem c_Md_workIn_4 : ct_Md_workIn 4 = ka_il 1 1 := rfl
theorem d_Md_workIn_4 : decode prog_12_method_33_code 4 = .ok (.iload_n 1, 1) := by decide +kernel
set_option maxRecDepth 100000 in
theorem c_Md_workIn_5 : ct_Md_workIn 5 = ka_iald := rfl
theorem d_Md_workIn_5 : decode prog_12_method_33_code 5 = .ok (.iaload, 1) := by decide +kernel
set_option maxRecDepth 100000 in
theorem c_Md_workIn_6 : ct_Md_workIn 6 = ka_is 3 1 := rfl
theorem d_Md_workIn_6 : decode prog_12_method_33_code 6 = .ok (.istore_n 3, 1) := by decide +kernel
set_option maxRecDepth 100000 in
theorem c_Md_workIn_7 : ct_Md_workIn 7 = ka_il 3 1 := rfl
theorem d_Md_workIn_7 : decode prog_12_method_33_code 7 = .ok (.iload_n 3, 1) := by decide +kernel
set_option maxRecDepth 100000 in
theorem c_Md_workIn_8 : ct_Md_workIn 8 = ka_ci (-1) 1 := rfl
theorem d_Md_workIn_8 : decode prog_12_method_33_code 8 = .ok (.iconst (-1), 1) := by decide +kernel
set_option maxRecDepth 100000 in
theorem c_Md_workIn_9 : ct_Md_workIn 9 = ka_cm (fun x y => ¬ x = y) 15 := rfl
theorem d_Md_workIn_9 : decode prog_12_method_33_code 9 = .ok (.if_icmp .ne 6, 3) := by decide +kernel
set_option maxRecDepth 100000 in
theorem c_Md_workIn_12 : ct_Md_workIn 12 = ka_ci (nI 17) 2 := rfl
theorem d_Md_workIn_12 : decode prog_12_method_33_code 12 = .ok (.bipush 17, 2) := by decide +kernel
set_option maxRecDepth 100000 in
theorem c_Md_workIn_14 : ct_Md_workIn 14 = ka_ri := rfl
theorem d_Md_workIn_14 : decode prog_12_method_33_code 14 = .ok (.ireturn, 1) := by decide +kernel
set_option maxRecDepth 100000 in
theorem c_Md_workIn_15 : ct_Md_workIn 15 = ka_il 2 1 := rfl
theorem d_Md_workIn_15 : decode prog_12_method_33_code 15 = .ok (.iload_n 2, 1) := by decide +kernel
set_option maxRecDepth 100000 in
theorem c_Md_workIn_16 : ct_Md_workIn 16 = ka_ci (nI 2) 1 := rfl
theorem d_Md_workIn_16 : decode prog_12_method_33_code 16 = .ok (.iconst 2, 1) := by decide +kernel
set_option maxRecDepth 100000 in
theorem c_Md_workIn_17 : ct_Md_workIn 17 = ka_cm (fun x y => ¬ x = y) 27 := rfl
theorem d_Md_workIn_17 : decode prog_12_method_33_code 17 = .ok (.if_icmp .ne 10, 3) := by decide +kernel
set_option maxRecDepth 100000 in
theorem c_Md_workIn_20 : ct_Md_workIn 20 = ka_al 0 1 := rfl
theorem d_Md_workIn_20 : decode prog_12_method_33_code 20 = .ok (.aload_n 0, 1) := by decide +kernel
set_option maxRecDepth 100000 in
theorem c_Md_workIn_21 : ct_Md_workIn 21 = ka_il 3 1 := rfl
theorem d_Md_workIn_21 : decode prog_12_method_33_code 21 = .ok (.iload_n 3, 1) := by decide +kernel
set_option maxRecDepth 100000 in
theorem c_Md_workIn_22 : ct_Md_workIn 22 = ka_cv 126 1 10 0 0 := rfl
theorem d_Md_workIn_22 : decode prog_12_method_33_code 22 = .ok (.invokevirtual 244, 3) := by decide +kernel
set_option maxRecDepth 100000 in
theorem c_Md_workIn_25 : ct_Md_workIn 25 = ka_is 4 2 := rfl
theorem d_Md_workIn_25 : decode prog_12_method_33_code 25 = .ok (.istore 4, 2) := by decide +kernel
set_option maxRecDepth 100000 in
theorem c_Md_workIn_27 : ct_Md_workIn 27 = ka_il 2 1 := rfl
theorem d_Md_workIn_27 : decode prog_12_method_33_code 27 = .ok (.iload_n 2, 1) := by decide +kernel
set_option maxRecDepth 100000 in
theorem c_Md_workIn_28 : ct_Md_workIn 28 = ka_ci (nI 1) 1 := rfl
theorem d_Md_workIn_28 : decode prog_12_method_33_code 28 = .ok (.iconst 1, 1) := by decide +kernel
set_option maxRecDepth 100000 in
theorem c_Md_workIn_29 : ct_Md_workIn 29 = ka_cm (fun x y => ¬ x = y) 56 := rfl
theorem d_Md_workIn_29 : decode prog_12_method_33_code 29 = .ok (.if_icmp .ne 27, 3) := by decide +kernel
set_option maxRecDepth 100000 in
theorem c_Md_workIn_32 : ct_Md_workIn 32 = ka_al 0 1 := rfl
theorem d_Md_workIn_32 : decode prog_12_method_33_code 32 = .ok (.aload_n 0, 1) := by decide +kernel
set_option maxRecDepth 100000 in
theorem c_Md_workIn_33 : ct_Md_workIn 33 = ka_get 10 37 := rfl
theorem d_Md_workIn_33 : decode prog_12_method_33_code 33 = .ok (.getfield 50, 3) := by decide +kernel
set_option maxRecDepth 100000 in
theorem c_Md_workIn_36 : ct_Md_workIn 36 = ka_il 1 1 := rfl
theorem d_Md_workIn_36 : decode prog_12_method_33_code 36 = .ok (.iload_n 1, 1) := by decide +kernel
set_option maxRecDepth 100000 in
theorem c_Md_workIn_37 : ct_Md_workIn 37 = ka_iald := rfl
theorem d_Md_workIn_37 : decode prog_12_method_33_code 37 = .ok (.iaload, 1) := by decide +kernel
set_option maxRecDepth 100000 in
theorem c_Md_workIn_38 : ct_Md_workIn 38 = ka_if (fun x => ¬ x = 0) 56 := rfl
theorem d_Md_workIn_38 : decode prog_12_method_33_code 38 = .ok (.ifCond .ne 18, 3) := by decide +kernel
set_option maxRecDepth 100000 in
theorem c_Md_workIn_41 : ct_Md_workIn 41 = ka_al 0 1 := rfl
theorem d_Md_workIn_41 : decode prog_12_method_33_code 41 = .ok (.aload_n 0, 1) := by decide +kernel
set_option maxRecDepth 100000 in
theorem c_Md_workIn_42 : ct_Md_workIn 42 = ka_il 3 1 := rfl
theorem d_Md_workIn_42 : decode prog_12_method_33_code 42 = .ok (.iload_n 3, 1) := by decide +kernel
set_option maxRecDepth 100000 in
theorem c_Md_workIn_43 : ct_Md_workIn 43 = ka_cv 126 1 10 0 0 := rfl
theorem d_Md_workIn_43 : decode prog_12_method_33_code 43 = .ok (.invokevirtual 244, 3) := by decide +kernel
set_option maxRecDepth 100000 in
theorem c_Md_workIn_46 : ct_Md_workIn 46 = ka_if (fun x => ¬ x = 0) 54 := rfl
theorem d_Md_workIn_46 : decode prog_12_method_33_code 46 = .ok (.ifCond .ne 8, 3) := by decide +kernel
set_option maxRecDepth 100000 in
theorem c_Md_workIn_49 : ct_Md_workIn 49 = ka_ci (nI 16) 2 := rfl
theorem d_Md_workIn_49 : decode prog_12_method_33_code 49 = .ok (.bipush 16, 2) := by decide +kernel
set_option maxRecDepth 100000 in
theorem c_Md_workIn_51 : ct_Md_workIn 51 = ka_goto 55 := rfl
theorem d_Md_workIn_51 : decode prog_12_method_33_code 51 = .ok (.goto 4, 3) := by decide +kernel
set_option maxRecDepth 100000 in
theorem c_Md_workIn_54 : ct_Md_workIn 54 = ka_ci (nI 0) 1 := rfl
theorem d_Md_workIn_54 : decode prog_12_method_33_code 54 = .ok (.iconst 0, 1) := by decide +kernel
set_option maxRecDepth 100000 in
theorem c_Md_workIn_55 : ct_Md_workIn 55 = ka_ri := rfl
theorem d_Md_workIn_55 : decode prog_12_method_33_code 55 = .ok (.ireturn, 1) := by decide +kernel
set_option maxRecDepth 100000 in
theorem c_Md_workIn_56 : ct_Md_workIn 56 = ka_al 0 1 := rfl
theorem d_Md_workIn_56 : decode prog_12_method_33_code 56 = .ok (.aload_n 0, 1) := by decide +kernel
set_option maxRecDepth 100000 in
theorem c_Md_workIn_57 : ct_Md_workIn 57 = ka_get 10 36 := rfl
theorem d_Md_workIn_57 : decode prog_12_method_33_code 57 = .ok (.getfield 47, 3) := by decide +kernel
set_option maxRecDepth 100000 in
theorem c_Md_workIn_60 : ct_Md_workIn 60 = ka_il 1 1 := rfl
theorem d_Md_workIn_60 : decode prog_12_method_33_code 60 = .ok (.iload_n 1, 1) := by decide +kernel
set_option maxRecDepth 100000 in
theorem c_Md_workIn_61 : ct_Md_workIn 61 = ka_iald := rfl
theorem d_Md_workIn_61 : decode prog_12_method_33_code 61 = .ok (.iaload, 1) := by decide +kernel
set_option maxRecDepth 100000 in
theorem c_Md_workIn_62 : ct_Md_workIn 62 = ka_is 4 2 := rfl
theorem d_Md_workIn_62 : decode prog_12_method_33_code 62 = .ok (.istore 4, 2) := by decide +kernel
set_option maxRecDepth 100000 in
theorem c_Md_workIn_64 : ct_Md_workIn 64 = ka_il 4 2 := rfl
theorem d_Md_workIn_64 : decode prog_12_method_33_code 64 = .ok (.iload 4, 2) := by decide +kernel
set_option maxRecDepth 100000 in
theorem c_Md_workIn_66 : ct_Md_workIn 66 = ka_al 0 1 := rfl
theorem d_Md_workIn_66 : decode prog_12_method_33_code 66 = .ok (.aload_n 0, 1) := by decide +kernel
set_option maxRecDepth 100000 in
theorem c_Md_workIn_67 : ct_Md_workIn 67 = ka_get 10 36 := rfl
theorem d_Md_workIn_67 : decode prog_12_method_33_code 67 = .ok (.getfield 47, 3) := by decide +kernel
set_option maxRecDepth 100000 in
theorem c_Md_workIn_70 : ct_Md_workIn 70 = ka_il 1 1 := rfl
theorem d_Md_workIn_70 : decode prog_12_method_33_code 70 = .ok (.iload_n 1, 1) := by decide +kernel
set_option maxRecDepth 100000 in
theorem c_Md_workIn_71 : ct_Md_workIn 71 = ka_iald := rfl
theorem d_Md_workIn_71 : decode prog_12_method_33_code 71 = .ok (.iaload, 1) := by decide +kernel
set_option maxRecDepth 100000 in
theorem c_Md_workIn_72 : ct_Md_workIn 72 = ka_al 0 1 := rfl
theorem d_Md_workIn_72 : decode prog_12_method_33_code 72 = .ok (.aload_n 0, 1) := by decide +kernel
set_option maxRecDepth 100000 in
theorem c_Md_workIn_73 : ct_Md_workIn 73 = ka_get 10 37 := rfl
theorem d_Md_workIn_73 : decode prog_12_method_33_code 73 = .ok (.getfield 50, 3) := by decide +kernel
set_option maxRecDepth 100000 in
theorem c_Md_workIn_76 : ct_Md_workIn 76 = ka_il 1 1 := rfl
theorem d_Md_workIn_76 : decode prog_12_method_33_code 76 = .ok (.iload_n 1, 1) := by decide +kernel
set_option maxRecDepth 100000 in
theorem c_Md_workIn_77 : ct_Md_workIn 77 = ka_iald := rfl
theorem d_Md_workIn_77 : decode prog_12_method_33_code 77 = .ok (.iaload, 1) := by decide +kernel
set_option maxRecDepth 100000 in
theorem c_Md_workIn_78 : ct_Md_workIn 78 = ka_ii (fun x y => x + y) := rfl
theorem d_Md_workIn_78 : decode prog_12_method_33_code 78 = .ok (.iadd, 1) := by decide +kernel
set_option maxRecDepth 100000 in
theorem c_Md_workIn_79 : ct_Md_workIn 79 = ka_cm (fun x y => y ≤ x) 176 := rfl
theorem d_Md_workIn_79 : decode prog_12_method_33_code 79 = .ok (.if_icmp .ge 97, 3) := by decide +kernel
set_option maxRecDepth 100000 in
theorem c_Md_workIn_82 : ct_Md_workIn 82 = ka_al 0 1 := rfl
theorem d_Md_workIn_82 : decode prog_12_method_33_code 82 = .ok (.aload_n 0, 1) := by decide +kernel
set_option maxRecDepth 100000 in
theorem c_Md_workIn_83 : ct_Md_workIn 83 = ka_get 10 39 := rfl
theorem d_Md_workIn_83 : decode prog_12_method_33_code 83 = .ok (.getfield 53, 3) := by decide +kernel
set_option maxRecDepth 100000 in
theorem c_Md_workIn_86 : ct_Md_workIn 86 = ka_il 4 2 := rfl
theorem d_Md_workIn_86 : decode prog_12_method_33_code 86 = .ok (.iload 4, 2) := by decide +kernel
set_option maxRecDepth 100000 in
theorem c_Md_workIn_88 : ct_Md_workIn 88 = ka_lald := rfl
theorem d_Md_workIn_88 : decode prog_12_method_33_code 88 = .ok (.laload, 1) := by decide +kernel
set_option maxRecDepth 100000 in
theorem c_Md_workIn_89 : ct_Md_workIn 89 = ka_cl (-1) 3 := rfl
theorem d_Md_workIn_89 : decode prog_12_method_33_code 89 = .ok (.ldc2_w 120, 3) := by decide +kernel
set_option maxRecDepth 100000 in
theorem c_Md_workIn_92 : ct_Md_workIn 92 = ka_lcmp := rfl
theorem d_Md_workIn_92 : decode prog_12_method_33_code 92 = .ok (.lcmp, 1) := by decide +kernel
set_option maxRecDepth 100000 in
theorem c_Md_workIn_93 : ct_Md_workIn 93 = ka_if (fun x => ¬ x = 0) 99 := rfl
theorem d_Md_workIn_93 : decode prog_12_method_33_code 93 = .ok (.ifCond .ne 6, 3) := by decide +kernel
set_option maxRecDepth 100000 in
theorem c_Md_workIn_96 : ct_Md_workIn 96 = ka_ci (nI 21) 2 := rfl
theorem d_Md_workIn_96 : decode prog_12_method_33_code 96 = .ok (.bipush 21, 2) := by decide +kernel
set_option maxRecDepth 100000 in
theorem c_Md_workIn_98 : ct_Md_workIn 98 = ka_ri := rfl
theorem d_Md_workIn_98 : decode prog_12_method_33_code 98 = .ok (.ireturn, 1) := by decide +kernel
set_option maxRecDepth 100000 in
theorem c_Md_workIn_99 : ct_Md_workIn 99 = ka_al 0 1 := rfl
theorem d_Md_workIn_99 : decode prog_12_method_33_code 99 = .ok (.aload_n 0, 1) := by decide +kernel
set_option maxRecDepth 100000 in
theorem c_Md_workIn_100 : ct_Md_workIn 100 = ka_il 3 1 := rfl
theorem d_Md_workIn_100 : decode prog_12_method_33_code 100 = .ok (.iload_n 3, 1) := by decide +kernel
set_option maxRecDepth 100000 in
theorem c_Md_workIn_101 : ct_Md_workIn 101 = ka_al 0 1 := rfl
theorem d_Md_workIn_101 : decode prog_12_method_33_code 101 = .ok (.aload_n 0, 1) := by decide +kernel
set_option maxRecDepth 100000 in
theorem c_Md_workIn_102 : ct_Md_workIn 102 = ka_get 10 39 := rfl
theorem d_Md_workIn_102 : decode prog_12_method_33_code 102 = .ok (.getfield 53, 3) := by decide +kernel
set_option maxRecDepth 100000 in
theorem c_Md_workIn_105 : ct_Md_workIn 105 = ka_il 4 2 := rfl
theorem d_Md_workIn_105 : decode prog_12_method_33_code 105 = .ok (.iload 4, 2) := by decide +kernel
set_option maxRecDepth 100000 in
theorem c_Md_workIn_107 : ct_Md_workIn 107 = ka_lald := rfl
theorem d_Md_workIn_107 : decode prog_12_method_33_code 107 = .ok (.laload, 1) := by decide +kernel
set_option maxRecDepth 100000 in
theorem c_Md_workIn_108 : ct_Md_workIn 108 = ka_cv 123 2 10 0 0 := rfl
theorem d_Md_workIn_108 : decode prog_12_method_33_code 108 = .ok (.invokevirtual 247, 3) := by decide +kernel
set_option maxRecDepth 100000 in
theorem c_Md_workIn_111 : ct_Md_workIn 111 = ka_is 5 2 := rfl
theorem d_Md_workIn_111 : decode prog_12_method_33_code 111 = .ok (.istore 5, 2) := by decide +kernel
set_option maxRecDepth 100000 in
theorem c_Md_workIn_113 : ct_Md_workIn 113 = ka_il 2 1 := rfl
theorem d_Md_workIn_113 : decode prog_12_method_33_code 113 = .ok (.iload_n 2, 1) := by decide +kernel
set_option maxRecDepth 100000 in
theorem c_Md_workIn_114 : ct_Md_workIn 114 = ka_ci (nI 1) 1 := rfl
theorem d_Md_workIn_114 : decode prog_12_method_33_code 114 = .ok (.iconst 1, 1) := by decide +kernel
set_option maxRecDepth 100000 in
theorem c_Md_workIn_115 : ct_Md_workIn 115 = ka_cm (fun x y => ¬ x = y) 126 := rfl
theorem d_Md_workIn_115 : decode prog_12_method_33_code 115 = .ok (.if_icmp .ne 11, 3) := by decide +kernel
set_option maxRecDepth 100000 in
theorem c_Md_workIn_118 : ct_Md_workIn 118 = ka_il 5 2 := rfl
theorem d_Md_workIn_118 : decode prog_12_method_33_code 118 = .ok (.iload 5, 2) := by decide +kernel
set_option maxRecDepth 100000 in
theorem c_Md_workIn_120 : ct_Md_workIn 120 = ka_if (fun x => 0 ≤ x) 144 := rfl
theorem d_Md_workIn_120 : decode prog_12_method_33_code 120 = .ok (.ifCond .ge 24, 3) := by decide +kernel
set_option maxRecDepth 100000 in
theorem c_Md_workIn_123 : ct_Md_workIn 123 = ka_goto 131 := rfl
theorem d_Md_workIn_123 : decode prog_12_method_33_code 123 = .ok (.goto 8, 3) := by decide +kernel
set_option maxRecDepth 100000 in
theorem c_Md_workIn_126 : ct_Md_workIn 126 = ka_il 5 2 := rfl
theorem d_Md_workIn_126 : decode prog_12_method_33_code 126 = .ok (.iload 5, 2) := by decide +kernel
set_option maxRecDepth 100000 in
theorem c_Md_workIn_128 : ct_Md_workIn 128 = ka_if (fun x => x < 0) 144 := rfl
theorem d_Md_workIn_128 : decode prog_12_method_33_code 128 = .ok (.ifCond .lt 16, 3) := by decide +kernel
set_option maxRecDepth 100000 in
theorem c_Md_workIn_131 : ct_Md_workIn 131 = ka_il 2 1 := rfl
theorem d_Md_workIn_131 : decode prog_12_method_33_code 131 = .ok (.iload_n 2, 1) := by decide +kernel
set_option maxRecDepth 100000 in
theorem c_Md_workIn_132 : ct_Md_workIn 132 = ka_ci (nI 1) 1 := rfl
theorem d_Md_workIn_132 : decode prog_12_method_33_code 132 = .ok (.iconst 1, 1) := by decide +kernel
set_option maxRecDepth 100000 in
theorem c_Md_workIn_133 : ct_Md_workIn 133 = ka_cm (fun x y => ¬ x = y) 141 := rfl
theorem d_Md_workIn_133 : decode prog_12_method_33_code 133 = .ok (.if_icmp .ne 8, 3) := by decide +kernel
set_option maxRecDepth 100000 in
theorem c_Md_workIn_136 : ct_Md_workIn 136 = ka_ci (nI 16) 2 := rfl
theorem d_Md_workIn_136 : decode prog_12_method_33_code 136 = .ok (.bipush 16, 2) := by decide +kernel
set_option maxRecDepth 100000 in
theorem c_Md_workIn_138 : ct_Md_workIn 138 = ka_goto 143 := rfl
theorem d_Md_workIn_138 : decode prog_12_method_33_code 138 = .ok (.goto 5, 3) := by decide +kernel
set_option maxRecDepth 100000 in
theorem c_Md_workIn_141 : ct_Md_workIn 141 = ka_ci (nI 20) 2 := rfl
theorem d_Md_workIn_141 : decode prog_12_method_33_code 141 = .ok (.bipush 20, 2) := by decide +kernel
set_option maxRecDepth 100000 in
theorem c_Md_workIn_143 : ct_Md_workIn 143 = ka_ri := rfl
theorem d_Md_workIn_143 : decode prog_12_method_33_code 143 = .ok (.ireturn, 1) := by decide +kernel
set_option maxRecDepth 100000 in
theorem c_Md_workIn_144 : ct_Md_workIn 144 = ka_il 2 1 := rfl
theorem d_Md_workIn_144 : decode prog_12_method_33_code 144 = .ok (.iload_n 2, 1) := by decide +kernel
set_option maxRecDepth 100000 in
theorem c_Md_workIn_145 : ct_Md_workIn 145 = ka_ci (nI 1) 1 := rfl
theorem d_Md_workIn_145 : decode prog_12_method_33_code 145 = .ok (.iconst 1, 1) := by decide +kernel
set_option maxRecDepth 100000 in
theorem c_Md_workIn_146 : ct_Md_workIn 146 = ka_cm (fun x y => ¬ x = y) 158 := rfl
theorem d_Md_workIn_146 : decode prog_12_method_33_code 146 = .ok (.if_icmp .ne 12, 3) := by decide +kernel
set_option maxRecDepth 100000 in
theorem c_Md_workIn_149 : ct_Md_workIn 149 = ka_al 0 1 := rfl
theorem d_Md_workIn_149 : decode prog_12_method_33_code 149 = .ok (.aload_n 0, 1) := by decide +kernel
set_option maxRecDepth 100000 in
theorem c_Md_workIn_150 : ct_Md_workIn 150 = ka_il 5 2 := rfl
theorem d_Md_workIn_150 : decode prog_12_method_33_code 150 = .ok (.iload 5, 2) := by decide +kernel
set_option maxRecDepth 100000 in
theorem c_Md_workIn_152 : ct_Md_workIn 152 = ka_cv 125 1 10 0 0 := rfl
theorem d_Md_workIn_152 : decode prog_12_method_33_code 152 = .ok (.invokevirtual 240, 3) := by decide +kernel
set_option maxRecDepth 100000 in
theorem c_Md_workIn_155 : ct_Md_workIn 155 = ka_goto 170 := rfl
theorem d_Md_workIn_155 : decode prog_12_method_33_code 155 = .ok (.goto 15, 3) := by decide +kernel
set_option maxRecDepth 100000 in
theorem c_Md_workIn_158 : ct_Md_workIn 158 = ka_al 0 1 := rfl
theorem d_Md_workIn_158 : decode prog_12_method_33_code 158 = .ok (.aload_n 0, 1) := by decide +kernel
set_option maxRecDepth 100000 in
theorem c_Md_workIn_159 : ct_Md_workIn 159 = ka_il 3 1 := rfl
theorem d_Md_workIn_159 : decode prog_12_method_33_code 159 = .ok (.iload_n 3, 1) := by decide +kernel
set_option maxRecDepth 100000 in
theorem c_Md_workIn_160 : ct_Md_workIn 160 = ka_al 0 1 := rfl
theorem d_Md_workIn_160 : decode prog_12_method_33_code 160 = .ok (.aload_n 0, 1) := by decide +kernel
set_option maxRecDepth 100000 in
theorem c_Md_workIn_161 : ct_Md_workIn 161 = ka_get 10 39 := rfl
theorem d_Md_workIn_161 : decode prog_12_method_33_code 161 = .ok (.getfield 53, 3) := by decide +kernel
set_option maxRecDepth 100000 in
theorem c_Md_workIn_164 : ct_Md_workIn 164 = ka_il 4 2 := rfl
theorem d_Md_workIn_164 : decode prog_12_method_33_code 164 = .ok (.iload 4, 2) := by decide +kernel
set_option maxRecDepth 100000 in
theorem c_Md_workIn_166 : ct_Md_workIn 166 = ka_lald := rfl
theorem d_Md_workIn_166 : decode prog_12_method_33_code 166 = .ok (.laload, 1) := by decide +kernel
set_option maxRecDepth 100000 in
theorem c_Md_workIn_167 : ct_Md_workIn 167 = ka_cv 124 2 10 0 0 := rfl
theorem d_Md_workIn_167 : decode prog_12_method_33_code 167 = .ok (.invokevirtual 251, 3) := by decide +kernel
set_option maxRecDepth 100000 in
theorem c_Md_workIn_170 : ct_Md_workIn 170 = ka_inc 4 (nI 1) := rfl
theorem d_Md_workIn_170 : decode prog_12_method_33_code 170 = .ok (.iinc 4 1, 3) := by decide +kernel
set_option maxRecDepth 100000 in
theorem c_Md_workIn_173 : ct_Md_workIn 173 = ka_goto 64 := rfl
theorem d_Md_workIn_173 : decode prog_12_method_33_code 173 = .ok (.goto (-109), 3) := by decide +kernel
set_option maxRecDepth 100000 in
theorem c_Md_workIn_176 : ct_Md_workIn 176 = ka_ci (nI 0) 1 := rfl
theorem d_Md_workIn_176 : decode prog_12_method_33_code 176 = .ok (.iconst 0, 1) := by decide +kernel
set_option maxRecDepth 100000 in
theorem c_Md_workIn_177 : ct_Md_workIn 177 = ka_ri := rfl
theorem d_Md_workIn_177 : decode prog_12_method_33_code 177 = .ok (.ireturn, 1) := by decide +kernel
set_option maxRecDepth 100000 in
set_option maxHeartbeats 4000000 in
theorem s_Md_workIn_60 : ∀ pc, pc < 60 → kc_Sim kt kw_A kw_N kt_cl kt_En "DirectoryDeskModel" prog_12_method_33_code 6 (some .int) "workIn" none pc (ct_Md_workIn pc) := by
  let P : Nat → Prop := fun pc => kc_Sim kt kw_A kw_N kt_cl kt_En "DirectoryDeskModel" prog_12_method_33_code 6 (some .int) "workIn" none pc (ct_Md_workIn pc)
  exact kc_case (P := P) (kc_se rfl sm_no) (
  kc_case (P := P) (kc_se rfl sm_no) (
  kc_case (P := P) (kc_se c_Md_workIn_57 (sm_get (ci := 10) (C := "DirectoryDeskModel") (F := kF_Md) rfl kin_Md (Nat.le_of_ble_eq_true rfl) d_Md_workIn_57 (kw3 219 rfl rfl))) (
  kc_case (P := P) (kc_se c_Md_workIn_56 (sm_aload_n d_Md_workIn_56 rfl)) (
  kc_case (P := P) (kc_se c_Md_workIn_55 (sm_ri d_Md_workIn_55 rfl)) (
  kc_case (P := P) (kc_se c_Md_workIn_54 (sm_iconst d_Md_workIn_54 (by decide))) (
  kc_case (P := P) (kc_se rfl sm_no) (
  kc_case (P := P) (kc_se rfl sm_no) (
  kc_case (P := P) (kc_se c_Md_workIn_51 (sm_goto d_Md_workIn_51 (by decide))) (
  kc_case (P := P) (kc_se rfl sm_no) (
  kc_case (P := P) (kc_se c_Md_workIn_49 (sm_bipush d_Md_workIn_49 (by decide))) (
  kc_case (P := P) (kc_se rfl sm_no) (
  kc_case (P := P) (kc_se rfl sm_no) (
  kc_case (P := P) (kc_se c_Md_workIn_46 (sm_if_ne d_Md_workIn_46 (by decide))) (
  kc_case (P := P) (kc_se rfl sm_no) (
  kc_case (P := P) (kc_se rfl sm_no) (
  kc_case (P := P) (kc_se c_Md_workIn_43 (sm_cv (j := 126) rfl rfl kw_o kw_g wc_Md_clearType (Nat.le_of_ble_eq_true rfl) hd_Md_clearType (ci := 10) (F := kF_Md) (N := 52) rfl (kw5 44 rfl rfl) wi_Md_clearType ws_Md_clearType wn_Md_clearType d_Md_workIn_43)) (
  kc_case (P := P) (kc_se c_Md_workIn_42 (sm_iload_n d_Md_workIn_42 rfl)) (
  kc_case (P := P) (kc_se c_Md_workIn_41 (sm_aload_n d_Md_workIn_41 rfl)) (
  kc_case (P := P) (kc_se rfl sm_no) (
  kc_case (P := P) (kc_se rfl sm_no) (
  kc_case (P := P) (kc_se c_Md_workIn_38 (sm_if_ne d_Md_workIn_38 (by decide))) (
  kc_case (P := P) (kc_se c_Md_workIn_37 (sm_iald d_Md_workIn_37)) (
  kc_case (P := P) (kc_se c_Md_workIn_36 (sm_iload_n d_Md_workIn_36 rfl)) (
  kc_case (P := P) (kc_se rfl sm_no) (
  kc_case (P := P) (kc_se rfl sm_no) (
  kc_case (P := P) (kc_se c_Md_workIn_33 (sm_get (ci := 10) (C := "DirectoryDeskModel") (F := kF_Md) rfl kin_Md (Nat.le_of_ble_eq_true rfl) d_Md_workIn_33 (kw3 220 rfl rfl))) (
  kc_case (P := P) (kc_se c_Md_workIn_32 (sm_aload_n d_Md_workIn_32 rfl)) (
  kc_case (P := P) (kc_se rfl sm_no) (
  kc_case (P := P) (kc_se rfl sm_no) (
  kc_case (P := P) (kc_se c_Md_workIn_29 (sm_cm_ne d_Md_workIn_29 (by decide))) (
  kc_case (P := P) (kc_se c_Md_workIn_28 (sm_iconst d_Md_workIn_28 (by decide))) (
  kc_case (P := P) (kc_se c_Md_workIn_27 (sm_iload_n d_Md_workIn_27 rfl)) (
  kc_case (P := P) (kc_se rfl sm_no) (
  kc_case (P := P) (kc_se c_Md_workIn_25 (sm_istore d_Md_workIn_25 (Nat.le_of_ble_eq_true rfl))) (
  kc_case (P := P) (kc_se rfl sm_no) (
  kc_case (P := P) (kc_se rfl sm_no) (
  kc_case (P := P) (kc_se c_Md_workIn_22 (sm_cv (j := 126) rfl rfl kw_o kw_g wc_Md_clearType (Nat.le_of_ble_eq_true rfl) hd_Md_clearType (ci := 10) (F := kF_Md) (N := 52) rfl (kw5 44 rfl rfl) wi_Md_clearType ws_Md_clearType wn_Md_clearType d_Md_workIn_22)) (
  kc_case (P := P) (kc_se c_Md_workIn_21 (sm_iload_n d_Md_workIn_21 rfl)) (
  kc_case (P := P) (kc_se c_Md_workIn_20 (sm_aload_n d_Md_workIn_20 rfl)) (
  kc_case (P := P) (kc_se rfl sm_no) (
  kc_case (P := P) (kc_se rfl sm_no) (
  kc_case (P := P) (kc_se c_Md_workIn_17 (sm_cm_ne d_Md_workIn_17 (by decide))) (
  kc_case (P := P) (kc_se c_Md_workIn_16 (sm_iconst d_Md_workIn_16 (by decide))) (
  kc_case (P := P) (kc_se c_Md_workIn_15 (sm_iload_n d_Md_workIn_15 rfl)) (
  kc_case (P := P) (kc_se c_Md_workIn_14 (sm_ri d_Md_workIn_14 rfl)) (
  kc_case (P := P) (kc_se rfl sm_no) (
  kc_case (P := P) (kc_se c_Md_workIn_12 (sm_bipush d_Md_workIn_12 (by decide))) (
  kc_case (P := P) (kc_se rfl sm_no) (
  kc_case (P := P) (kc_se rfl sm_no) (
  kc_case (P := P) (kc_se c_Md_workIn_9 (sm_cm_ne d_Md_workIn_9 (by decide))) (
  kc_case (P := P) (kc_se c_Md_workIn_8 (sm_iconst d_Md_workIn_8 (by decide))) (
  kc_case (P := P) (kc_se c_Md_workIn_7 (sm_iload_n d_Md_workIn_7 rfl)) (
  kc_case (P := P) (kc_se c_Md_workIn_6 (sm_istore_n d_Md_workIn_6 rfl (Nat.le_of_ble_eq_true rfl))) (
  kc_case (P := P) (kc_se c_Md_workIn_5 (sm_iald d_Md_workIn_5)) (
  kc_case (P := P) (kc_se c_Md_workIn_4 (sm_iload_n d_Md_workIn_4 rfl)) (
  kc_case (P := P) (kc_se rfl sm_no) (
  kc_case (P := P) (kc_se rfl sm_no) (
  kc_case (P := P) (kc_se c_Md_workIn_1 (sm_get (ci := 10) (C := "DirectoryDeskModel") (F := kF_Md) rfl kin_Md (Nat.le_of_ble_eq_true rfl) d_Md_workIn_1 (kw3 218 rfl rfl))) (
  kc_case (P := P) (kc_se c_Md_workIn_0 (sm_aload_n d_Md_workIn_0 rfl)) (
  kc_case0))))))))))))))))))))))))))))))))))))))))))))))))))))))))))))
set_option maxRecDepth 100000 in
set_option maxHeartbeats 4000000 in
theorem s_Md_workIn_120 : ∀ pc, pc < 120 → kc_Sim kt kw_A kw_N kt_cl kt_En "DirectoryDeskModel" prog_12_method_33_code 6 (some .int) "workIn" none pc (ct_Md_workIn pc) := by
  let P : Nat → Prop := fun pc => kc_Sim kt kw_A kw_N kt_cl kt_En "DirectoryDeskModel" prog_12_method_33_code 6 (some .int) "workIn" none pc (ct_Md_workIn pc)
  exact kc_case (P := P) (kc_se rfl sm_no) (
  kc_case (P := P) (kc_se c_Md_workIn_118 (sm_iload d_Md_workIn_118)) (
  kc_case (P := P) (kc_se rfl sm_no) (
  kc_case (P := P) (kc_se rfl sm_no) (
  kc_case (P := P) (kc_se c_Md_workIn_115 (sm_cm_ne d_Md_workIn_115 (by decide))) (
  kc_case (P := P) (kc_se c_Md_workIn_114 (sm_iconst d_Md_workIn_114 (by decide))) (
  kc_case (P := P) (kc_se c_Md_workIn_113 (sm_iload_n d_Md_workIn_113 rfl)) (
  kc_case (P := P) (kc_se rfl sm_no) (
  kc_case (P := P) (kc_se c_Md_workIn_111 (sm_istore d_Md_workIn_111 (Nat.le_of_ble_eq_true rfl))) (
  kc_case (P := P) (kc_se rfl sm_no) (
  kc_case (P := P) (kc_se rfl sm_no) (
  kc_case (P := P) (kc_se c_Md_workIn_108 (sm_cv (j := 123) rfl rfl kw_o kw_g wc_Md_workAt (Nat.le_of_ble_eq_true rfl) hd_Md_workAt (ci := 10) (F := kF_Md) (N := 52) rfl (kw5 52 rfl rfl) wi_Md_workAt ws_Md_workAt wn_Md_workAt d_Md_workIn_108)) (
  kc_case (P := P) (kc_se c_Md_workIn_107 (sm_lald d_Md_workIn_107)) (
  kc_case (P := P) (kc_se rfl sm_no) (
  kc_case (P := P) (kc_se c_Md_workIn_105 (sm_iload d_Md_workIn_105)) (
  kc_case (P := P) (kc_se rfl sm_no) (
  kc_case (P := P) (kc_se rfl sm_no) (
  kc_case (P := P) (kc_se c_Md_workIn_102 (sm_get (ci := 10) (C := "DirectoryDeskModel") (F := kF_Md) rfl kin_Md (Nat.le_of_ble_eq_true rfl) d_Md_workIn_102 (kw3 222 rfl rfl))) (
  kc_case (P := P) (kc_se c_Md_workIn_101 (sm_aload_n d_Md_workIn_101 rfl)) (
  kc_case (P := P) (kc_se c_Md_workIn_100 (sm_iload_n d_Md_workIn_100 rfl)) (
  kc_case (P := P) (kc_se c_Md_workIn_99 (sm_aload_n d_Md_workIn_99 rfl)) (
  kc_case (P := P) (kc_se c_Md_workIn_98 (sm_ri d_Md_workIn_98 rfl)) (
  kc_case (P := P) (kc_se rfl sm_no) (
  kc_case (P := P) (kc_se c_Md_workIn_96 (sm_bipush d_Md_workIn_96 (by decide))) (
  kc_case (P := P) (kc_se rfl sm_no) (
  kc_case (P := P) (kc_se rfl sm_no) (
  kc_case (P := P) (kc_se c_Md_workIn_93 (sm_if_ne d_Md_workIn_93 (by decide))) (
  kc_case (P := P) (kc_se c_Md_workIn_92 (sm_lcmp d_Md_workIn_92)) (
  kc_case (P := P) (kc_se rfl sm_no) (
  kc_case (P := P) (kc_se rfl sm_no) (
  kc_case (P := P) (kc_se c_Md_workIn_89 (sm_ldc2 d_Md_workIn_89 (kw4 168 rfl rfl))) (
  kc_case (P := P) (kc_se c_Md_workIn_88 (sm_lald d_Md_workIn_88)) (
  kc_case (P := P) (kc_se rfl sm_no) (
  kc_case (P := P) (kc_se c_Md_workIn_86 (sm_iload d_Md_workIn_86)) (
  kc_case (P := P) (kc_se rfl sm_no) (
  kc_case (P := P) (kc_se rfl sm_no) (
  kc_case (P := P) (kc_se c_Md_workIn_83 (sm_get (ci := 10) (C := "DirectoryDeskModel") (F := kF_Md) rfl kin_Md (Nat.le_of_ble_eq_true rfl) d_Md_workIn_83 (kw3 222 rfl rfl))) (
  kc_case (P := P) (kc_se c_Md_workIn_82 (sm_aload_n d_Md_workIn_82 rfl)) (
  kc_case (P := P) (kc_se rfl sm_no) (
  kc_case (P := P) (kc_se rfl sm_no) (
  kc_case (P := P) (kc_se c_Md_workIn_79 (sm_cm_ge d_Md_workIn_79 (by decide))) (
  kc_case (P := P) (kc_se c_Md_workIn_78 (sm_iadd d_Md_workIn_78)) (
  kc_case (P := P) (kc_se c_Md_workIn_77 (sm_iald d_Md_workIn_77)) (
  kc_case (P := P) (kc_se c_Md_workIn_76 (sm_iload_n d_Md_workIn_76 rfl)) (
  kc_case (P := P) (kc_se rfl sm_no) (
  kc_case (P := P) (kc_se rfl sm_no) (
  kc_case (P := P) (kc_se c_Md_workIn_73 (sm_get (ci := 10) (C := "DirectoryDeskModel") (F := kF_Md) rfl kin_Md (Nat.le_of_ble_eq_true rfl) d_Md_workIn_73 (kw3 220 rfl rfl))) (
  kc_case (P := P) (kc_se c_Md_workIn_72 (sm_aload_n d_Md_workIn_72 rfl)) (
  kc_case (P := P) (kc_se c_Md_workIn_71 (sm_iald d_Md_workIn_71)) (
  kc_case (P := P) (kc_se c_Md_workIn_70 (sm_iload_n d_Md_workIn_70 rfl)) (
  kc_case (P := P) (kc_se rfl sm_no) (
  kc_case (P := P) (kc_se rfl sm_no) (
  kc_case (P := P) (kc_se c_Md_workIn_67 (sm_get (ci := 10) (C := "DirectoryDeskModel") (F := kF_Md) rfl kin_Md (Nat.le_of_ble_eq_true rfl) d_Md_workIn_67 (kw3 219 rfl rfl))) (
  kc_case (P := P) (kc_se c_Md_workIn_66 (sm_aload_n d_Md_workIn_66 rfl)) (
  kc_case (P := P) (kc_se rfl sm_no) (
  kc_case (P := P) (kc_se c_Md_workIn_64 (sm_iload d_Md_workIn_64)) (
  kc_case (P := P) (kc_se rfl sm_no) (
  kc_case (P := P) (kc_se c_Md_workIn_62 (sm_istore d_Md_workIn_62 (Nat.le_of_ble_eq_true rfl))) (
  kc_case (P := P) (kc_se c_Md_workIn_61 (sm_iald d_Md_workIn_61)) (
  kc_case (P := P) (kc_se c_Md_workIn_60 (sm_iload_n d_Md_workIn_60 rfl)) (
  s_Md_workIn_60))))))))))))))))))))))))))))))))))))))))))))))))))))))))))))
set_option maxRecDepth 100000 in
set_option maxHeartbeats 4000000 in
theorem s_Md_workIn_178 : ∀ pc, pc < 178 → kc_Sim kt kw_A kw_N kt_cl kt_En "DirectoryDeskModel" prog_12_method_33_code 6 (some .int) "workIn" none pc (ct_Md_workIn pc) := by
  let P : Nat → Prop := fun pc => kc_Sim kt kw_A kw_N kt_cl kt_En "DirectoryDeskModel" prog_12_method_33_code 6 (some .int) "workIn" none pc (ct_Md_workIn pc)
  exact kc_case (P := P) (kc_se c_Md_workIn_177 (sm_ri d_Md_workIn_177 rfl)) (
  kc_case (P := P) (kc_se c_Md_workIn_176 (sm_iconst d_Md_workIn_176 (by decide))) (
  kc_case (P := P) (kc_se rfl sm_no) (
  kc_case (P := P) (kc_se rfl sm_no) (
  kc_case (P := P) (kc_se c_Md_workIn_173 (sm_goto d_Md_workIn_173 (by decide))) (
  kc_case (P := P) (kc_se rfl sm_no) (
  kc_case (P := P) (kc_se rfl sm_no) (
  kc_case (P := P) (kc_se c_Md_workIn_170 (sm_inc d_Md_workIn_170 (by decide) (Nat.le_of_ble_eq_true rfl))) (
  kc_case (P := P) (kc_se rfl sm_no) (
  kc_case (P := P) (kc_se rfl sm_no) (
  kc_case (P := P) (kc_se c_Md_workIn_167 (sm_cv (j := 124) rfl rfl kw_o kw_g wc_Md_work (Nat.le_of_ble_eq_true rfl) hd_Md_work (ci := 10) (F := kF_Md) (N := 52) rfl (kw5 56 rfl rfl) wi_Md_work ws_Md_work wn_Md_work d_Md_workIn_167)) (
  kc_case (P := P) (kc_se c_Md_workIn_166 (sm_lald d_Md_workIn_166)) (
  kc_case (P := P) (kc_se rfl sm_no) (
  kc_case (P := P) (kc_se c_Md_workIn_164 (sm_iload d_Md_workIn_164)) (
  kc_case (P := P) (kc_se rfl sm_no) (
  kc_case (P := P) (kc_se rfl sm_no) (
  kc_case (P := P) (kc_se c_Md_workIn_161 (sm_get (ci := 10) (C := "DirectoryDeskModel") (F := kF_Md) rfl kin_Md (Nat.le_of_ble_eq_true rfl) d_Md_workIn_161 (kw3 222 rfl rfl))) (
  kc_case (P := P) (kc_se c_Md_workIn_160 (sm_aload_n d_Md_workIn_160 rfl)) (
  kc_case (P := P) (kc_se c_Md_workIn_159 (sm_iload_n d_Md_workIn_159 rfl)) (
  kc_case (P := P) (kc_se c_Md_workIn_158 (sm_aload_n d_Md_workIn_158 rfl)) (
  kc_case (P := P) (kc_se rfl sm_no) (
  kc_case (P := P) (kc_se rfl sm_no) (
  kc_case (P := P) (kc_se c_Md_workIn_155 (sm_goto d_Md_workIn_155 (by decide))) (
  kc_case (P := P) (kc_se rfl sm_no) (
  kc_case (P := P) (kc_se rfl sm_no) (
  kc_case (P := P) (kc_se c_Md_workIn_152 (sm_cv (j := 125) rfl rfl kw_o kw_g wc_Md_unwork (Nat.le_of_ble_eq_true rfl) hd_Md_unwork (ci := 10) (F := kF_Md) (N := 52) rfl (kw5 48 rfl rfl) wi_Md_unwork ws_Md_unwork wn_Md_unwork d_Md_workIn_152)) (
  kc_case (P := P) (kc_se rfl sm_no) (
  kc_case (P := P) (kc_se c_Md_workIn_150 (sm_iload d_Md_workIn_150)) (
  kc_case (P := P) (kc_se c_Md_workIn_149 (sm_aload_n d_Md_workIn_149 rfl)) (
  kc_case (P := P) (kc_se rfl sm_no) (
  kc_case (P := P) (kc_se rfl sm_no) (
  kc_case (P := P) (kc_se c_Md_workIn_146 (sm_cm_ne d_Md_workIn_146 (by decide))) (
  kc_case (P := P) (kc_se c_Md_workIn_145 (sm_iconst d_Md_workIn_145 (by decide))) (
  kc_case (P := P) (kc_se c_Md_workIn_144 (sm_iload_n d_Md_workIn_144 rfl)) (
  kc_case (P := P) (kc_se c_Md_workIn_143 (sm_ri d_Md_workIn_143 rfl)) (
  kc_case (P := P) (kc_se rfl sm_no) (
  kc_case (P := P) (kc_se c_Md_workIn_141 (sm_bipush d_Md_workIn_141 (by decide))) (
  kc_case (P := P) (kc_se rfl sm_no) (
  kc_case (P := P) (kc_se rfl sm_no) (
  kc_case (P := P) (kc_se c_Md_workIn_138 (sm_goto d_Md_workIn_138 (by decide))) (
  kc_case (P := P) (kc_se rfl sm_no) (
  kc_case (P := P) (kc_se c_Md_workIn_136 (sm_bipush d_Md_workIn_136 (by decide))) (
  kc_case (P := P) (kc_se rfl sm_no) (
  kc_case (P := P) (kc_se rfl sm_no) (
  kc_case (P := P) (kc_se c_Md_workIn_133 (sm_cm_ne d_Md_workIn_133 (by decide))) (
  kc_case (P := P) (kc_se c_Md_workIn_132 (sm_iconst d_Md_workIn_132 (by decide))) (
  kc_case (P := P) (kc_se c_Md_workIn_131 (sm_iload_n d_Md_workIn_131 rfl)) (
  kc_case (P := P) (kc_se rfl sm_no) (
  kc_case (P := P) (kc_se rfl sm_no) (
  kc_case (P := P) (kc_se c_Md_workIn_128 (sm_if_lt d_Md_workIn_128 (by decide))) (
  kc_case (P := P) (kc_se rfl sm_no) (
  kc_case (P := P) (kc_se c_Md_workIn_126 (sm_iload d_Md_workIn_126)) (
  kc_case (P := P) (kc_se rfl sm_no) (
  kc_case (P := P) (kc_se rfl sm_no) (
  kc_case (P := P) (kc_se c_Md_workIn_123 (sm_goto d_Md_workIn_123 (by decide))) (
  kc_case (P := P) (kc_se rfl sm_no) (
  kc_case (P := P) (kc_se rfl sm_no) (
  kc_case (P := P) (kc_se c_Md_workIn_120 (sm_if_ge d_Md_workIn_120 (by decide))) (
  s_Md_workIn_120))))))))))))))))))))))))))))))))))))))))))))))))))))))))))
set_option maxRecDepth 100000 in
theorem ka_nth_no_Md_workIn (pc : Nat) (h : 178 ≤ pc) : ct_Md_workIn pc = ka_no := ka_nth_ge _ pc (Nat.le_trans (Nat.le_of_eq (by rfl)) h)
theorem s_Md_workIn (pc : Nat) : kc_Sim kt kw_A kw_N kt_cl kt_En "DirectoryDeskModel" prog_12_method_33_code 6 (some .int) "workIn" none pc (ct_Md_workIn pc) := (Nat.lt_or_ge pc 178).elim (s_Md_workIn_178 pc) (fun h => kc_se (ka_nth_no_Md_workIn pc h) sm_no)
