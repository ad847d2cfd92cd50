/-! code of methods, decode rows, and that the JVM follows (by program) -/
def cl_Md_sign_0 : List kc_A := [ka_al 0 1, ka_ci (nI 0) 1, ka_put 10 1 .boolean, ka_no, ka_no, ka_al 0 1, ka_get 10 25, ka_no, ka_no, ka_ci (nI 3) 1, ka_cm (fun x y => x = y) 15, ka_no, ka_no, ka_ci (nI 2) 1, ka_ri, ka_al 0 1, ka_al 0 1, ka_get 10 23, ka_no, ka_no, ka_al 0 1, ka_get 10 24, ka_no, ka_no, ka_cv 107 2 10 0 0, ka_no, ka_no, ka_is 1 1, ka_il 1 1, ka_if (fun x => 0 ≤ x) 35, ka_no, ka_no, ka_ci (nI 34) 2, ka_no, ka_ri, ka_al 0 1, ka_get 10 26, ka_no, ka_no, ka_al 0 1, ka_get 10 27, ka_no, ka_no, ka_cm (fun x y => ¬ x = y) 50, ka_no, ka_no, ka_ci (nI 1) 1, ka_goto 51, ka_no, ka_no, ka_ci (nI 0) 1, ka_is 2 1, ka_il 1 1, ka_if (fun x => ¬ x = 0) 67, ka_no, ka_no, ka_il 2 1, ka_if (fun x => x = 0) 64, ka_no, ka_no]
def cl_Md_sign_1 : List kc_A := [ka_ci (nI 0) 1, ka_goto 66, ka_no, ka_no, ka_ci (nI 49) 2, ka_no, ka_ri, ka_il 2 1, ka_if (fun x => x = 0) 74, ka_no, ka_no, ka_ci (nI 53) 2, ka_no, ka_ri, ka_al 0 1, ka_ci (nI 0) 1, ka_cv 109 1 10 0 0, ka_no, ka_no, ka_is 3 1, ka_al 0 1, ka_al 0 1, ka_get 10 26, ka_no, ka_no, ka_al 0 1, ka_get 10 27, ka_no, ka_no, ka_cv 106 2 10 0 0, ka_no, ka_no, ka_ls 4 2, ka_no, ka_ci (nI 0) 1, ka_is 6 2, ka_no, ka_ci (nI 0) 1, ka_is 7 2, ka_no, ka_il 3 1, ka_if (fun x => x < 0) 177, ka_no, ka_no, ka_il 7 2, ka_no, ka_al 0 1, ka_get 10 10, ka_no, ka_no, ka_il 3 1, ka_iald, ka_cm (fun x y => y ≤ x) 177, ka_no, ka_no, ka_il 6 2, ka_no, ka_if (fun x => ¬ x = 0) 164, ka_no, ka_no]
def cl_Md_sign_2 : List kc_A := [ka_ll 4 2, ka_no, ka_cl (-1) 3, ka_no, ka_no, ka_lcmp, ka_if (fun x => x = 0) 168, ka_no, ka_no, ka_al 0 1, ka_get 10 11, ka_no, ka_no, ka_ci (nI 6) 2, ka_no, ka_il 3 1, ka_ii (fun x y => x * y), ka_il 7 2, ka_no, ka_ii (fun x y => x + y), ka_iald, ka_ci (nI 102) 2, ka_no, ka_cm (fun x y => ¬ x = y) 168, ka_no, ka_no, ka_al 0 1, ka_get 10 12, ka_no, ka_no, ka_ci (nI 6) 2, ka_no, ka_il 3 1, ka_ii (fun x y => x * y), ka_il 7 2, ka_no, ka_ii (fun x y => x + y), ka_lald, ka_ll 4 2, ka_no, ka_lcmp, ka_if (fun x => ¬ x = 0) 168, ka_no, ka_no, ka_ci (nI 1) 1, ka_goto 169, ka_no, ka_no, ka_ci (nI 0) 1, ka_is 6 2, ka_no, ka_inc 7 (nI 1), ka_no, ka_no, ka_goto 100, ka_no, ka_no, ka_al 0 1, ka_il 6 2, ka_no]
def cl_Md_sign_3 : List kc_A := [ka_put 10 1 .boolean, ka_no, ka_no, ka_il 6 2, ka_no, ka_if (fun x => x = 0) 192, ka_no, ka_no, ka_ci (nI 0) 1, ka_goto 194, ka_no, ka_no, ka_ci (nI 49) 2, ka_no, ka_ri]
def ct_Md_sign : Nat → kc_A := fun pc => ka_nth (cl_Md_sign_0 ++ (cl_Md_sign_1 ++ (cl_Md_sign_2 ++ (cl_Md_sign_3)))) pc
set_option maxRecDepth 100000 in
theorem c_Md_sign_0 : ct_Md_sign 0 = ka_al 0 1 := rfl
theorem d_Md_sign_0 : decode prog_12_method_34_code 0 = .ok (.aload_n 0, 1) := by decide +kernel
set_option maxRecDepth 100000 in
theorem c_Md_sign_1 : ct_Md_sign 1 = ka_ci (nI 0) 1 := rfl
theorem d_Md_sign_1 : decode prog_12_method_34_code 1 = .ok (.iconst 0, 1) := by decide +kernel
set_option maxRecDepth 100000 in
theorem c_Md_sign_2 : ct_Md_sign 2 = ka_put 10 1 .boolean := rfl
theorem d_Md_sign_2 : decode prog_12_method_34_code 2 = .ok (.putfield 95, 3) := by decide +kernel
set_option maxRecDepth 100000 in
theorem c_Md_sign_5 : ct_Md_sign 5 = ka_al 0 1 := rfl
theorem d_Md_sign_5 : decode prog_12_method_34_code 5 = .ok (.aload_n 0, 1) := by decide +kernel
set_option maxRecDepth 100000 in
theorem c_Md_sign_6 : ct_Md_sign 6 = ka_get 10 25 := rfl
theorem d_Md_sign_6 : decode prog_12_method_34_code 6 = .ok (.getfield 153, 3) := by decide +kernel
set_option maxRecDepth 100000 in
theorem c_Md_sign_9 : ct_Md_sign 9 = ka_ci (nI 3) 1 := rfl
theorem d_Md_sign_9 : decode prog_12_method_34_code 9 = .ok (.iconst 3, 1) := by decide +kernel
set_option maxRecDepth 100000 in
theorem c_Md_sign_10 : ct_Md_sign 10 = ka_cm (fun x y => x = y) 15 := rfl
theorem d_Md_sign_10 : decode prog_12_method_34_code 10 = .ok (.if_icmp .eq 5, 3) := by decide +kernel
set_option maxRecDepth 100000 in
theorem c_Md_sign_13 : ct_Md_sign 13 = ka_ci (nI 2) 1 := rfl
theorem d_Md_sign_13 : decode prog_12_method_34_code 13 = .ok (.iconst 2, 1) := by decide +kernel
set_option maxRecDepth 100000 in
theorem c_Md_sign_14 : ct_Md_sign 14 = ka_ri := rfl
theorem d_Md_sign_14 : decode prog_12_method_34_code 14 = .ok (.ireturn, 1) := by decide +kernel
set_option maxRecDepth 100000 in
theorem c_Md_sign_15 : ct_Md_sign 15 = ka_al 0 1 := rfl
theorem d_Md_sign_15 : decode prog_12_method_34_code 15 = .ok (.aload_n 0, 1) := by decide +kernel
set_option maxRecDepth 100000 in
theorem c_Md_sign_16 : ct_Md_sign 16 = ka_al 0 1 := rfl
theorem d_Md_sign_16 : decode prog_12_method_34_code 16 = .ok (.aload_n 0, 1) := by decide +kernel
set_option maxRecDepth 100000 in
theorem c_Md_sign_17 : ct_Md_sign 17 = ka_get 10 23 := rfl
theorem d_Md_sign_17 : decode prog_12_method_34_code 17 = .ok (.getfield 156, 3) := by decide +kernel
set_option maxRecDepth 100000 in
theorem c_Md_sign_20 : ct_Md_sign 20 = ka_al 0 1 := rfl
theorem d_Md_sign_20 : decode prog_12_method_34_code 20 = .ok (.aload_n 0, 1) := by decide +kernel
set_option maxRecDepth 100000 in
theorem c_Md_sign_21 : ct_Md_sign 21 = ka_get 10 24 := rfl
theorem d_Md_sign_21 : decode prog_12_method_34_code 21 = .ok (.getfield 159, 3) := by decide +kernel
set_option maxRecDepth 100000 in
theorem c_Md_sign_24 : ct_Md_sign 24 = ka_cv 107 2 10 0 0 := rfl
theorem d_Md_sign_24 : decode prog_12_method_34_code 24 = .ok (.invokevirtual 255, 3) := by decide +kernel
set_option maxRecDepth 100000 in
theorem c_Md_sign_27 : ct_Md_sign 27 = ka_is 1 1 := rfl
theorem d_Md_sign_27 : decode prog_12_method_34_code 27 = .ok (.istore_n 1, 1) := by decide +kernel
set_option maxRecDepth 100000 in
theorem c_Md_sign_28 : ct_Md_sign 28 = ka_il 1 1 := rfl
theorem d_Md_sign_28 : decode prog_12_method_34_code 28 = .ok (.iload_n 1, 1) := by decide +kernel
set_option maxRecDepth 100000 in
theorem c_Md_sign_29 : ct_Md_sign 29 = ka_if (fun x => 0 ≤ x) 35 := rfl
theorem d_Md_sign_29 : decode prog_12_method_34_code 29 = .ok (.ifCond .ge 6, 3) := by decide +kernel
set_option maxRecDepth 100000 in
theorem c_Md_sign_32 : ct_Md_sign 32 = ka_ci (nI 34) 2 := rfl
theorem d_Md_sign_32 : decode prog_12_method_34_code 32 = .ok (.bipush 34, 2) := by decide +kernel
set_option maxRecDepth 100000 in
theorem c_Md_sign_34 : ct_Md_sign 34 = ka_ri := rfl
theorem d_Md_sign_34 : decode prog_12_method_34_code 34 = .ok (.ireturn, 1) := by decide +kernel
set_option maxRecDepth 100000 in
theorem c_Md_sign_35 : ct_Md_sign 35 = ka_al 0 1 := rfl
theorem d_Md_sign_35 : decode prog_12_method_34_code 35 = .ok (.aload_n 0, 1) := by decide +kernel
set_option maxRecDepth 100000 in
theorem c_Md_sign_36 : ct_Md_sign 36 = ka_get 10 26 := rfl
theorem d_Md_sign_36 : decode prog_12_method_34_code 36 = .ok (.getfield 162, 3) := by decide +kernel
set_option maxRecDepth 100000 in
theorem c_Md_sign_39 : ct_Md_sign 39 = ka_al 0 1 := rfl
theorem d_Md_sign_39 : decode prog_12_method_34_code 39 = .ok (.aload_n 0, 1) := by decide +kernel
set_option maxRecDepth 100000 in
theorem c_Md_sign_40 : ct_Md_sign 40 = ka_get 10 27 := rfl
theorem d_Md_sign_40 : decode prog_12_method_34_code 40 = .ok (.getfield 165, 3) := by decide +kernel
set_option maxRecDepth 100000 in
theorem c_Md_sign_43 : ct_Md_sign 43 = ka_cm (fun x y => ¬ x = y) 50 := rfl
theorem d_Md_sign_43 : decode prog_12_method_34_code 43 = .ok (.if_icmp .ne 7, 3) := by decide +kernel
set_option maxRecDepth 100000 in
theorem c_Md_sign_46 : ct_Md_sign 46 = ka_ci (nI 1) 1 := rfl
theorem d_Md_sign_46 : decode prog_12_method_34_code 46 = .ok (.iconst 1, 1) := by decide +kernel
set_option maxRecDepth 100000 in
theorem c_Md_sign_47 : ct_Md_sign 47 = ka_goto 51 := rfl
theorem d_Md_sign_47 : decode prog_12_method_34_code 47 = .ok (.goto 4, 3) := by decide +kernel
set_option maxRecDepth 100000 in
theorem c_Md_sign_50 : ct_Md_sign 50 = ka_ci (nI 0) 1 := rfl
theorem d_Md_sign_50 : decode prog_12_method_34_code 50 = .ok (.iconst 0, 1) := by decide +kernel
set_option maxRecDepth 100000 in
theorem c_Md_sign_51 : ct_Md_sign 51 = ka_is 2 1 := rfl
theorem d_Md_sign_51 : decode prog_12_method_34_code 51 = .ok (.istore_n 2, 1) := by decide +kernel
set_option maxRecDepth 100000 in
theorem c_Md_sign_52 : ct_Md_sign 52 = ka_il 1 1 := rfl
theorem d_Md_sign_52 : decode prog_12_method_34_code 52 = .ok (.iload_n 1, 1) := by decide +kernel
set_option maxRecDepth 100000 in
theorem c_Md_sign_53 : ct_Md_sign 53 = ka_if (fun x => ¬ x = 0) 67 := rfl
theorem d_Md_sign_53 : decode prog_12_method_34_code 53 = .ok (.ifCond .ne 14, 3) := by decide +kernel
set_option maxRecDepth 100000 in
theorem c_Md_sign_56 : ct_Md_sign 56 = ka_il 2 1 := rfl
theorem d_Md_sign_56 : decode prog_12_method_34_code 56 = .ok (.iload_n 2, 1) := by decide +kernel
set_option maxRecDepth 100000 in
theorem c_Md_sign_57 : ct_Md_sign 57 = ka_if (fun x => x = 0) 64 := rfl
theorem d_Md_sign_57 : decode prog_12_method_34_code 57 = .ok (.ifCond .eq 7, 3) := by decide +kernel
set_option maxRecDepth 100000 in
theorem c_Md_sign_60 : ct_Md_sign 60 = ka_ci (nI 0) 1 := rfl
theorem d_Md_sign_60 : decode prog_12_method_34_code 60 = .ok (.iconst 0, 1) := by decide +kernel
set_option maxRecDepth 100000 in
theorem c_Md_sign_61 : ct_Md_sign 61 = ka_goto 66 := rfl
theorem d_Md_sign_61 : decode prog_12_method_34_code 61 = .ok (.goto 5, 3) := by decide +kernel
set_option maxRecDepth 100000 in
theorem c_Md_sign_64 : ct_Md_sign 64 = ka_ci (nI 49) 2 := rfl
theorem d_Md_sign_64 : decode prog_12_method_34_code 64 = .ok (.bipush 49, 2) := by decide +kernel
set_option maxRecDepth 100000 in
theorem c_Md_sign_66 : ct_Md_sign 66 = ka_ri := rfl
theorem d_Md_sign_66 : decode prog_12_method_34_code 66 = .ok (.ireturn, 1) := by decide +kernel
set_option maxRecDepth 100000 in
theorem c_Md_sign_67 : ct_Md_sign 67 = ka_il 2 1 := rfl
theorem d_Md_sign_67 : decode prog_12_method_34_code 67 = .ok (.iload_n 2, 1) := by decide +kernel
set_option maxRecDepth 100000 in
theorem c_Md_sign_68 : ct_Md_sign 68 = ka_if (fun x => x = 0) 74 := rfl
theorem d_Md_sign_68 : decode prog_12_method_34_code 68 = .ok (.ifCond .eq 6, 3) := by decide +kernel
set_option maxRecDepth 100000 in
theorem c_Md_sign_71 : ct_Md_sign 71 = ka_ci (nI 53) 2 := rfl
theorem d_Md_sign_71 : decode prog_12_method_34_code 71 = .ok (.bipush 53, 2) := by decide +kernel
set_option maxRecDepth 100000 in
theorem c_Md_sign_73 : ct_Md_sign 73 = ka_ri := rfl
theorem d_Md_sign_73 : decode prog_12_method_34_code 73 = .ok (.ireturn, 1) := by decide +kernel
set_option maxRecDepth 100000 in
theorem c_Md_sign_74 : ct_Md_sign 74 = ka_al 0 1 := rfl
theorem d_Md_sign_74 : decode prog_12_method_34_code 74 = .ok (.aload_n 0, 1) := by decide +kernel
set_option maxRecDepth 100000 in
theorem c_Md_sign_75 : ct_Md_sign 75 = ka_ci (nI 0) 1 := rfl
theorem d_Md_sign_75 : decode prog_12_method_34_code 75 = .ok (.iconst 0, 1) := by decide +kernel
set_option maxRecDepth 100000 in
theorem c_Md_sign_76 : ct_Md_sign 76 = ka_cv 109 1 10 0 0 := rfl
theorem d_Md_sign_76 : decode prog_12_method_34_code 76 = .ok (.invokevirtual 258, 3) := by decide +kernel
set_option maxRecDepth 100000 in
theorem c_Md_sign_79 : ct_Md_sign 79 = ka_is 3 1 := rfl
theorem d_Md_sign_79 : decode prog_12_method_34_code 79 = .ok (.istore_n 3, 1) := by decide +kernel
set_option maxRecDepth 100000 in
theorem c_Md_sign_80 : ct_Md_sign 80 = ka_al 0 1 := rfl
theorem d_Md_sign_80 : decode prog_12_method_34_code 80 = .ok (.aload_n 0, 1) := by decide +kernel
set_option maxRecDepth 100000 in
theorem c_Md_sign_81 : ct_Md_sign 81 = ka_al 0 1 := rfl
theorem d_Md_sign_81 : decode prog_12_method_34_code 81 = .ok (.aload_n 0, 1) := by decide +kernel
set_option maxRecDepth 100000 in
theorem c_Md_sign_82 : ct_Md_sign 82 = ka_get 10 26 := rfl
theorem d_Md_sign_82 : decode prog_12_method_34_code 82 = .ok (.getfield 162, 3) := by decide +kernel
set_option maxRecDepth 100000 in
theorem c_Md_sign_85 : ct_Md_sign 85 = ka_al 0 1 := rfl
theorem d_Md_sign_85 : decode prog_12_method_34_code 85 = .ok (.aload_n 0, 1) := by decide +kernel
set_option maxRecDepth 100000 in
theorem c_Md_sign_86 : ct_Md_sign 86 = ka_get 10 27 := rfl
theorem d_Md_sign_86 : decode prog_12_method_34_code 86 = .ok (.getfield 165, 3) := by decide +kernel
set_option maxRecDepth 100000 in
theorem c_Md_sign_89 : ct_Md_sign 89 = ka_cv 106 2 10 0 0 := rfl
theorem d_Md_sign_89 : decode prog_12_method_34_code 89 = .ok (.invokevirtual 133, 3) := by decide +kernel
set_option maxRecDepth 100000 in
theorem c_Md_sign_92 : ct_Md_sign 92 = ka_ls 4 2 := rfl
theorem d_Md_sign_92 : decode prog_12_method_34_code 92 = .ok (.lstore 4, 2) := by decide +kernel
set_option maxRecDepth 100000 in
theorem c_Md_sign_94 : ct_Md_sign 94 = ka_ci (nI 0) 1 := rfl
theorem d_Md_sign_94 : decode prog_12_method_34_code 94 = .ok (.iconst 0, 1) := by decide +kernel
set_option maxRecDepth 100000 in
theorem c_Md_sign_95 : ct_Md_sign 95 = ka_is 6 2 := rfl
theorem d_Md_sign_95 : decode prog_12_method_34_code 95 = .ok (.istore 6, 2) := by decide +kernel
set_option maxRecDepth 100000 in
theorem c_Md_sign_97 : ct_Md_sign 97 = ka_ci (nI 0) 1 := rfl
theorem d_Md_sign_97 : decode prog_12_method_34_code 97 = .ok (.iconst 0, 1) := by decide +kernel
set_option maxRecDepth 100000 in
theorem c_Md_sign_98 : ct_Md_sign 98 = ka_is 7 2 := rfl
theorem d_Md_sign_98 : decode prog_12_method_34_code 98 = .ok (.istore 7, 2) := by decide +kernel
set_option maxRecDepth 100000 in
theorem c_Md_sign_100 : ct_Md_sign 100 = ka_il 3 1 := rfl
theorem d_Md_sign_100 : decode prog_12_method_34_code 100 = .ok (.iload_n 3, 1) := by decide +kernel
set_option maxRecDepth 100000 in
theorem c_Md_sign_101 : ct_Md_sign 101 = ka_if (fun x => x < 0) 177 := rfl
theorem d_Md_sign_101 : decode prog_12_method_34_code 101 = .ok (.ifCond .lt 76, 3) := by decide +kernel
set_option maxRecDepth 100000 in
theorem c_Md_sign_104 : ct_Md_sign 104 = ka_il 7 2 := rfl
theorem d_Md_sign_104 : decode prog_12_method_34_code 104 = .ok (.iload 7, 2) := by decide +kernel
set_option maxRecDepth 100000 in
theorem c_Md_sign_106 : ct_Md_sign 106 = ka_al 0 1 := rfl
theorem d_Md_sign_106 : decode prog_12_method_34_code 106 = .ok (.aload_n 0, 1) := by decide +kernel
set_option maxRecDepth 100000 in
theorem c_Md_sign_107 : ct_Md_sign 107 = ka_get 10 10 := rfl
theorem d_Md_sign_107 : decode prog_12_method_34_code 107 = .ok (.getfield 26, 3) := by decide +kernel
set_option maxRecDepth 100000 in
theorem c_Md_sign_110 : ct_Md_sign 110 = ka_il 3 1 := rfl
theorem d_Md_sign_110 : decode prog_12_method_34_code 110 = .ok (.iload_n 3, 1) := by decide +kernel
set_option maxRecDepth 100000 in
theorem c_Md_sign_111 : ct_Md_sign 111 = ka_iald := rfl
theorem d_Md_sign_111 : decode prog_12_method_34_code 111 = .ok (.iaload, 1) := by decide +kernel
set_option maxRecDepth 100000 in
theorem c_Md_sign_112 : ct_Md_sign 112 = ka_cm (fun x y => y ≤ x) 177 := rfl
theorem d_Md_sign_112 : decode prog_12_method_34_code 112 = .ok (.if_icmp .ge 65, 3) := by decide +kernel
set_option maxRecDepth 100000 in
theorem c_Md_sign_115 : ct_Md_sign 115 = ka_il 6 2 := rfl
theorem d_Md_sign_115 : decode prog_12_method_34_code 115 = .ok (.iload 6, 2) := by decide +kernel
set_option maxRecDepth 100000 in
theorem c_Md_sign_117 : ct_Md_sign 117 = ka_if (fun x => ¬ x = 0) 164 := rfl
theorem d_Md_sign_117 : decode prog_12_method_34_code 117 = .ok (.ifCond .ne 47, 3) := by decide +kernel
set_option maxRecDepth 100000 in
theorem c_Md_sign_120 : ct_Md_sign 120 = ka_ll 4 2 := rfl
theorem d_Md_sign_120 : decode prog_12_method_34_code 120 = .ok (.lload 4, 2) := by decide +kernel
set_option maxRecDepth 100000 in
theorem c_Md_sign_122 : ct_Md_sign 122 = ka_cl (-1) 3 := rfl
theorem d_Md_sign_122 : decode prog_12_method_34_code 122 = .ok (.ldc2_w 120, 3) := by decide +kernel
set_option maxRecDepth 100000 in
theorem c_Md_sign_125 : ct_Md_sign 125 = ka_lcmp := rfl
theorem d_Md_sign_125 : decode prog_12_method_34_code 125 = .ok (.lcmp, 1) := by decide +kernel
set_option maxRecDepth 100000 in
theorem c_Md_sign_126 : ct_Md_sign 126 = ka_if (fun x => x = 0) 168 := rfl
theorem d_Md_sign_126 : decode prog_12_method_34_code 126 = .ok (.ifCond .eq 42, 3) := by decide +kernel
set_option maxRecDepth 100000 in
theorem c_Md_sign_129 : ct_Md_sign 129 = ka_al 0 1 := rfl
theorem d_Md_sign_129 : decode prog_12_method_34_code 129 = .ok (.aload_n 0, 1) := by decide +kernel
set_option maxRecDepth 100000 in
theorem c_Md_sign_130 : ct_Md_sign 130 = ka_get 10 11 := rfl
theorem d_Md_sign_130 : decode prog_12_method_34_code 130 = .ok (.getfield 29, 3) := by decide +kernel
set_option maxRecDepth 100000 in
theorem c_Md_sign_133 : ct_Md_sign 133 = ka_ci (nI 6) 2 := rfl
theorem d_Md_sign_133 : decode prog_12_method_34_code 133 = .ok (.bipush 6, 2) := by decide +kernel
set_option maxRecDepth 100000 in
theorem c_Md_sign_135 : ct_Md_sign 135 = ka_il 3 1 := rfl
theorem d_Md_sign_135 : decode prog_12_method_34_code 135 = .ok (.iload_n 3, 1) := by decide +kernel
set_option maxRecDepth 100000 in
theorem c_Md_sign_136 : ct_Md_sign 136 = ka_ii (fun x y => x * y) := rfl
theorem d_Md_sign_136 : decode prog_12_method_34_code 136 = .ok (.imul, 1) := by decide +kernel
set_option maxRecDepth 100000 in
theorem c_Md_sign_137 : ct_Md_sign 137 = ka_il 7 2 := rfl
theorem d_Md_sign_137 : decode prog_12_method_34_code 137 = .ok (.iload 7, 2) := by decide +kernel
set_option maxRecDepth 100000 in
theorem c_Md_sign_139 : ct_Md_sign 139 = ka_ii (fun x y => x + y) := rfl
theorem d_Md_sign_139 : decode prog_12_method_34_code 139 = .ok (.iadd, 1) := by decide +kernel
set_option maxRecDepth 100000 in
theorem c_Md_sign_140 : ct_Md_sign 140 = ka_iald := rfl
theorem d_Md_sign_140 : decode prog_12_method_34_code 140 = .ok (.iaload, 1) := by decide +kernel
set_option maxRecDepth 100000 in
theorem c_Md_sign_141 : ct_Md_sign 141 = ka_ci (nI 102) 2 := rfl
theorem d_Md_sign_141 : decode prog_12_method_34_code 141 = .ok (.bipush 102, 2) := by decide +kernel
set_option maxRecDepth 100000 in
theorem c_Md_sign_143 : ct_Md_sign 143 = ka_cm (fun x y => ¬ x = y) 168 := rfl
theorem d_Md_sign_143 : decode prog_12_method_34_code 143 = .ok (.if_icmp .ne 25, 3) := by decide +kernel
set_option maxRecDepth 100000 in
theorem c_Md_sign_146 : ct_Md_sign 146 = ka_al 0 1 := rfl
theorem d_Md_sign_146 : decode prog_12_method_34_code 146 = .ok (.aload_n 0, 1) := by decide +kernel
set_option maxRecDepth 100000 in
theorem c_Md_sign_147 : ct_Md_sign 147 = ka_get 10 12 := rfl
theorem d_Md_sign_147 : decode prog_12_method_34_code 147 = .ok (.getfield 32, 3) := by decide +kernel
set_option maxRecDepth 100000 in
theorem c_Md_sign_150 : ct_Md_sign 150 = ka_ci (nI 6) 2 := rfl
theorem d_Md_sign_150 : decode prog_12_method_34_code 150 = .ok (.bipush 6, 2) := by decide +kernel
set_option maxRecDepth 100000 in
theorem c_Md_sign_152 : ct_Md_sign 152 = ka_il 3 1 := rfl
theorem d_Md_sign_152 : decode prog_12_method_34_code 152 = .ok (.iload_n 3, 1) := by decide +kernel
set_option maxRecDepth 100000 in
theorem c_Md_sign_153 : ct_Md_sign 153 = ka_ii (fun x y => x * y) := rfl
theorem d_Md_sign_153 : decode prog_12_method_34_code 153 = .ok (.imul, 1) := by decide +kernel
set_option maxRecDepth 100000 in
theorem c_Md_sign_154 : ct_Md_sign 154 = ka_il 7 2 := rfl
theorem d_Md_sign_154 : decode prog_12_method_34_code 154 = .ok (.iload 7, 2) := by decide +kernel
set_option maxRecDepth 100000 in
theorem c_Md_sign_156 : ct_Md_sign 156 = ka_ii (fun x y => x + y) := rfl
theorem d_Md_sign_156 : decode prog_12_method_34_code 156 = .ok (.iadd, 1) := by decide +kernel
set_option maxRecDepth 100000 in
theorem c_Md_sign_157 : ct_Md_sign 157 = ka_lald := rfl
theorem d_Md_sign_157 : decode prog_12_method_34_code 157 = .ok (.laload, 1) := by decide +kernel
set_option maxRecDepth 100000 in
theorem c_Md_sign_158 : ct_Md_sign 158 = ka_ll 4 2 := rfl
theorem d_Md_sign_158 : decode prog_12_method_34_code 158 = .ok (.lload 4, 2) := by decide +kernel
set_option maxRecDepth 100000 in
theorem c_Md_sign_160 : ct_Md_sign 160 = ka_lcmp := rfl
theorem d_Md_sign_160 : decode prog_12_method_34_code 160 = .ok (.lcmp, 1) := by decide +kernel
set_option maxRecDepth 100000 in
theorem c_Md_sign_161 : ct_Md_sign 161 = ka_if (fun x => ¬ x = 0) 168 := rfl
theorem d_Md_sign_161 : decode prog_12_method_34_code 161 = .ok (.ifCond .ne 7, 3) := by decide +kernel
set_option maxRecDepth 100000 in
theorem c_Md_sign_164 : ct_Md_sign 164 = ka_ci (nI 1) 1 := rfl
theorem d_Md_sign_164 : decode prog_12_method_34_code 164 = .ok (.iconst 1, 1) := by decide +kernel
set_option maxRecDepth 100000 in
theorem c_Md_sign_165 : ct_Md_sign 165 = ka_goto 169 := rfl
theorem d_Md_sign_165 : decode prog_12_method_34_code 165 = .ok (.goto 4, 3) := by decide +kernel
set_option maxRecDepth 100000 in
theorem c_Md_sign_168 : ct_Md_sign 168 = ka_ci (nI 0) 1 := rfl
theorem d_Md_sign_168 : decode prog_12_method_34_code 168 = .ok (.iconst 0, 1) := by decide +kernel
set_option maxRecDepth 100000 in
theorem c_Md_sign_169 : ct_Md_sign 169 = ka_is 6 2 := rfl
theorem d_Md_sign_169 : decode prog_12_method_34_code 169 = .ok (.istore 6, 2) := by decide +kernel
set_option maxRecDepth 100000 in
theorem c_Md_sign_171 : ct_Md_sign 171 = ka_inc 7 (nI 1) := rfl
theorem d_Md_sign_171 : decode prog_12_method_34_code 171 = .ok (.iinc 7 1, 3) := by decide +kernel
set_option maxRecDepth 100000 in
theorem c_Md_sign_174 : ct_Md_sign 174 = ka_goto 100 := rfl
theorem d_Md_sign_174 : decode prog_12_method_34_code 174 = .ok (.goto (-74), 3) := by decide +kernel
set_option maxRecDepth 100000 in
theorem c_Md_sign_177 : ct_Md_sign 177 = ka_al 0 1 := rfl
theorem d_Md_sign_177 : decode prog_12_method_34_code 177 = .ok (.aload_n 0, 1) := by decide +kernel
set_option maxRecDepth 100000 in
theorem c_Md_sign_178 : ct_Md_sign 178 = ka_il 6 2 := rfl
theorem d_Md_sign_178 : decode prog_12_method_34_code 178 = .ok (.iload 6, 2) := by decide +kernel
set_option maxRecDepth 100000 in
theorem c_Md_sign_180 : ct_Md_sign 180 = ka_put 10 1 .boolean := rfl
theorem d_Md_sign_180 : decode prog_12_method_34_code 180 = .ok (.putfield 95, 3) := by decide +kernel
set_option maxRecDepth 100000 in
theorem c_Md_sign_183 : ct_Md_sign 183 = ka_il 6 2 := rfl
theorem d_Md_sign_183 : decode prog_12_method_34_code 183 = .ok (.iload 6, 2) := by decide +kernel
set_option maxRecDepth 100000 in
theorem c_Md_sign_185 : ct_Md_sign 185 = ka_if (fun x => x = 0) 192 := rfl
theorem d_Md_sign_185 : decode prog_12_method_34_code 185 = .ok (.ifCond .eq 7, 3) := by decide +kernel
set_option maxRecDepth 100000 in
theorem c_Md_sign_188 : ct_Md_sign 188 = ka_ci (nI 0) 1 := rfl
theorem d_Md_sign_188 : decode prog_12_method_34_code 188 = .ok (.iconst 0, 1) := by decide +kernel
set_option maxRecDepth 100000 in
theorem c_Md_sign_189 : ct_Md_sign 189 = ka_goto 194 := rfl
theorem d_Md_sign_189 : decode prog_12_method_34_code 189 = .ok (.goto 5, 3) := by decide +kernel
set_option maxRecDepth 100000 in
theorem c_Md_sign_192 : ct_Md_sign 192 = ka_ci (nI 49) 2 := rfl
theorem d_Md_sign_192 : decode prog_12_method_34_code 192 = .ok (.bipush 49, 2) := by decide +kernel
set_option maxRecDepth 100000 in
theorem c_Md_sign_194 : ct_Md_sign 194 = ka_ri := rfl
theorem d_Md_sign_194 : decode prog_12_method_34_code 194 = .ok (.ireturn, 1) := by decide +kernel
set_option maxRecDepth 100000 in
set_option maxHeartbeats 4000000 in
theorem s_Md_sign_60 : ∀ pc, pc < 60 → kc_Sim kt kw_A kw_N kt_cl kt_En "DirectoryDeskModel" prog_12_method_34_code 8 (some .int) "sign" none pc (ct_Md_sign pc) := by
  let P : Nat → Prop := fun pc => kc_Sim kt kw_A kw_N kt_cl kt_En "DirectoryDeskModel" prog_12_method_34_code 8 (some .int) "sign" none pc (ct_Md_sign pc)
  exact kc_case (P := P) (kc_se rfl sm_no) (
  kc_case (P := P) (kc_se rfl sm_no) (
  kc_case (P := P) (kc_se c_Md_sign_57 (sm_if_eq d_Md_sign_57 (by decide))) (
  kc_case (P := P) (kc_se c_Md_sign_56 (sm_iload_n d_Md_sign_56 rfl)) (
  kc_case (P := P) (kc_se rfl sm_no) (
  kc_case (P := P) (kc_se rfl sm_no) (
  kc_case (P := P) (kc_se c_Md_sign_53 (sm_if_ne d_Md_sign_53 (by decide))) (
  kc_case (P := P) (kc_se c_Md_sign_52 (sm_iload_n d_Md_sign_52 rfl)) (
  kc_case (P := P) (kc_se c_Md_sign_51 (sm_istore_n d_Md_sign_51 rfl (Nat.le_of_ble_eq_true rfl))) (
  kc_case (P := P) (kc_se c_Md_sign_50 (sm_iconst d_Md_sign_50 (by decide))) (
  kc_case (P := P) (kc_se rfl sm_no) (
  kc_case (P := P) (kc_se rfl sm_no) (
  kc_case (P := P) (kc_se c_Md_sign_47 (sm_goto d_Md_sign_47 (by decide))) (
  kc_case (P := P) (kc_se c_Md_sign_46 (sm_iconst d_Md_sign_46 (by decide))) (
  kc_case (P := P) (kc_se rfl sm_no) (
  kc_case (P := P) (kc_se rfl sm_no) (
  kc_case (P := P) (kc_se c_Md_sign_43 (sm_cm_ne d_Md_sign_43 (by decide))) (
  kc_case (P := P) (kc_se rfl sm_no) (
  kc_case (P := P) (kc_se rfl sm_no) (
  kc_case (P := P) (kc_se c_Md_sign_40 (sm_get (ci := 10) (C := "DirectoryDeskModel") (F := kF_Md) rfl kin_Md (Nat.le_of_ble_eq_true rfl) d_Md_sign_40 (kw3 210 rfl rfl))) (
  kc_case (P := P) (kc_se c_Md_sign_39 (sm_aload_n d_Md_sign_39 rfl)) (
  kc_case (P := P) (kc_se rfl sm_no) (
  kc_case (P := P) (kc_se rfl sm_no) (
  kc_case (P := P) (kc_se c_Md_sign_36 (sm_get (ci := 10) (C := "DirectoryDeskModel") (F := kF_Md) rfl kin_Md (Nat.le_of_ble_eq_true rfl) d_Md_sign_36 (kw3 209 rfl rfl))) (
  kc_case (P := P) (kc_se c_Md_sign_35 (sm_aload_n d_Md_sign_35 rfl)) (
  kc_case (P := P) (kc_se c_Md_sign_34 (sm_ri d_Md_sign_34 rfl)) (
  kc_case (P := P) (kc_se rfl sm_no) (
  kc_case (P := P) (kc_se c_Md_sign_32 (sm_bipush d_Md_sign_32 (by decide))) (
  kc_case (P := P) (kc_se rfl sm_no) (
  kc_case (P := P) (kc_se rfl sm_no) (
  kc_case (P := P) (kc_se c_Md_sign_29 (sm_if_ge d_Md_sign_29 (by decide))) (
  kc_case (P := P) (kc_se c_Md_sign_28 (sm_iload_n d_Md_sign_28 rfl)) (
  kc_case (P := P) (kc_se c_Md_sign_27 (sm_istore_n d_Md_sign_27 rfl (Nat.le_of_ble_eq_true rfl))) (
  kc_case (P := P) (kc_se rfl sm_no) (
  kc_case (P := P) (kc_se rfl sm_no) (
  kc_case (P := P) (kc_se c_Md_sign_24 (sm_cv (j := 107) rfl rfl kw_o kw_g wc_Md_takeName (Nat.le_of_ble_eq_true rfl) hd_Md_takeName (ci := 10) (F := kF_Md) (N := 52) rfl (kw4 204 rfl rfl) wi_Md_takeName ws_Md_takeName wn_Md_takeName d_Md_sign_24)) (
  kc_case (P := P) (kc_se rfl sm_no) (
  kc_case (P := P) (kc_se rfl sm_no) (
  kc_case (P := P) (kc_se c_Md_sign_21 (sm_get (ci := 10) (C := "DirectoryDeskModel") (F := kF_Md) rfl kin_Md (Nat.le_of_ble_eq_true rfl) d_Md_sign_21 (kw3 207 rfl rfl))) (
  kc_case (P := P) (kc_se c_Md_sign_20 (sm_aload_n d_Md_sign_20 rfl)) (
  kc_case (P := P) (kc_se rfl sm_no) (
  kc_case (P := P) (kc_se rfl sm_no) (
  kc_case (P := P) (kc_se c_Md_sign_17 (sm_get (ci := 10) (C := "DirectoryDeskModel") (F := kF_Md) rfl kin_Md (Nat.le_of_ble_eq_true rfl) d_Md_sign_17 (kw3 206 rfl rfl))) (
  kc_case (P := P) (kc_se c_Md_sign_16 (sm_aload_n d_Md_sign_16 rfl)) (
  kc_case (P := P) (kc_se c_Md_sign_15 (sm_aload_n d_Md_sign_15 rfl)) (
  kc_case (P := P) (kc_se c_Md_sign_14 (sm_ri d_Md_sign_14 rfl)) (
  kc_case (P := P) (kc_se c_Md_sign_13 (sm_iconst d_Md_sign_13 (by decide))) (
  kc_case (P := P) (kc_se rfl sm_no) (
  kc_case (P := P) (kc_se rfl sm_no) (
  kc_case (P := P) (kc_se c_Md_sign_10 (sm_cm_eq d_Md_sign_10 (by decide))) (
  kc_case (P := P) (kc_se c_Md_sign_9 (sm_iconst d_Md_sign_9 (by decide))) (
  kc_case (P := P) (kc_se rfl sm_no) (
  kc_case (P := P) (kc_se rfl sm_no) (
  kc_case (P := P) (kc_se c_Md_sign_6 (sm_get (ci := 10) (C := "DirectoryDeskModel") (F := kF_Md) rfl kin_Md (Nat.le_of_ble_eq_true rfl) d_Md_sign_6 (kw3 208 rfl rfl))) (
  kc_case (P := P) (kc_se c_Md_sign_5 (sm_aload_n d_Md_sign_5 rfl)) (
  kc_case (P := P) (kc_se rfl sm_no) (
  kc_case (P := P) (kc_se rfl sm_no) (
  kc_case (P := P) (kc_se c_Md_sign_2 (sm_put (ci := 10) (C := "DirectoryDeskModel") (F := kF_Md) rfl kin_Md kty_Md ktk_Md knm_Md (Nat.le_of_ble_eq_true rfl) (by decide +kernel) d_Md_sign_2 (kw3 184 rfl rfl) rfl)) (
  kc_case (P := P) (kc_se c_Md_sign_1 (sm_iconst d_Md_sign_1 (by decide))) (
  kc_case (P := P) (kc_se c_Md_sign_0 (sm_aload_n d_Md_sign_0 rfl)) (
  kc_case0))))))))))))))))))))))))))))))))))))))))))))))))))))))))))))
set_option maxRecDepth 100000 in
set_option maxHeartbeats 4000000 in
theorem s_Md_sign_120 : ∀ pc, pc < 120 → kc_Sim kt kw_A kw_N kt_cl kt_En "DirectoryDeskModel" prog_12_method_34_code 8 (some .int) "sign" none pc (ct_Md_sign pc) := by
  let P : Nat → Prop := fun pc => kc_Sim kt kw_A kw_N kt_cl kt_En "DirectoryDeskModel" prog_12_method_34_code 8 (some .int) "sign" none pc (ct_Md_sign pc)
  exact kc_case (P := P) (kc_se rfl sm_no) (
  kc_case (P := P) (kc_se rfl sm_no) (
  kc_case (P := P) (kc_se c_Md_sign_117 (sm_if_ne d_Md_sign_117 (by decide))) (
  kc_case (P := P) (kc_se rfl sm_no) (
  kc_case (P := P) (kc_se c_Md_sign_115 (sm_iload d_Md_sign_115)) (
  kc_case (P := P) (kc_se rfl sm_no) (
  kc_case (P := P) (kc_se rfl sm_no) (
  kc_case (P := P) (kc_se c_Md_sign_112 (sm_cm_ge d_Md_sign_112 (by decide))) (
  kc_case (P := P) (kc_se c_Md_sign_111 (sm_iald d_Md_sign_111)) (
  kc_case (P := P) (kc_se c_Md_sign_110 (sm_iload_n d_Md_sign_110 rfl)) (
  kc_case (P := P) (kc_se rfl sm_no) (
  kc_case (P := P) (kc_se rfl sm_no) (
  kc_case (P := P) (kc_se c_Md_sign_107 (sm_get (ci := 10) (C := "DirectoryDeskModel") (F := kF_Md) rfl kin_Md (Nat.le_of_ble_eq_true rfl) d_Md_sign_107 (kw3 193 rfl rfl))) (
  kc_case (P := P) (kc_se c_Md_sign_106 (sm_aload_n d_Md_sign_106 rfl)) (
  kc_case (P := P) (kc_se rfl sm_no) (
  kc_case (P := P) (kc_se c_Md_sign_104 (sm_iload d_Md_sign_104)) (
  kc_case (P := P) (kc_se rfl sm_no) (
  kc_case (P := P) (kc_se rfl sm_no) (
  kc_case (P := P) (kc_se c_Md_sign_101 (sm_if_lt d_Md_sign_101 (by decide))) (
  kc_case (P := P) (kc_se c_Md_sign_100 (sm_iload_n d_Md_sign_100 rfl)) (
  kc_case (P := P) (kc_se rfl sm_no) (
  kc_case (P := P) (kc_se c_Md_sign_98 (sm_istore d_Md_sign_98 (Nat.le_of_ble_eq_true rfl))) (
  kc_case (P := P) (kc_se c_Md_sign_97 (sm_iconst d_Md_sign_97 (by decide))) (
  kc_case (P := P) (kc_se rfl sm_no) (
  kc_case (P := P) (kc_se c_Md_sign_95 (sm_istore d_Md_sign_95 (Nat.le_of_ble_eq_true rfl))) (
  kc_case (P := P) (kc_se c_Md_sign_94 (sm_iconst d_Md_sign_94 (by decide))) (
  kc_case (P := P) (kc_se rfl sm_no) (
  kc_case (P := P) (kc_se c_Md_sign_92 (sm_lstore d_Md_sign_92 (Nat.le_of_ble_eq_true rfl))) (
  kc_case (P := P) (kc_se rfl sm_no) (
  kc_case (P := P) (kc_se rfl sm_no) (
  kc_case (P := P) (kc_se c_Md_sign_89 (sm_cv (j := 106) rfl rfl kw_o kw_g wc_Md_valueIn (Nat.le_of_ble_eq_true rfl) hd_Md_valueIn (ci := 10) (F := kF_Md) (N := 52) rfl (kw4 164 rfl rfl) wi_Md_valueIn ws_Md_valueIn wn_Md_valueIn d_Md_sign_89)) (
  kc_case (P := P) (kc_se rfl sm_no) (
  kc_case (P := P) (kc_se rfl sm_no) (
  kc_case (P := P) (kc_se c_Md_sign_86 (sm_get (ci := 10) (C := "DirectoryDeskModel") (F := kF_Md) rfl kin_Md (Nat.le_of_ble_eq_true rfl) d_Md_sign_86 (kw3 210 rfl rfl))) (
  kc_case (P := P) (kc_se c_Md_sign_85 (sm_aload_n d_Md_sign_85 rfl)) (
  kc_case (P := P) (kc_se rfl sm_no) (
  kc_case (P := P) (kc_se rfl sm_no) (
  kc_case (P := P) (kc_se c_Md_sign_82 (sm_get (ci := 10) (C := "DirectoryDeskModel") (F := kF_Md) rfl kin_Md (Nat.le_of_ble_eq_true rfl) d_Md_sign_82 (kw3 209 rfl rfl))) (
  kc_case (P := P) (kc_se c_Md_sign_81 (sm_aload_n d_Md_sign_81 rfl)) (
  kc_case (P := P) (kc_se c_Md_sign_80 (sm_aload_n d_Md_sign_80 rfl)) (
  kc_case (P := P) (kc_se c_Md_sign_79 (sm_istore_n d_Md_sign_79 rfl (Nat.le_of_ble_eq_true rfl))) (
  kc_case (P := P) (kc_se rfl sm_no) (
  kc_case (P := P) (kc_se rfl sm_no) (
  kc_case (P := P) (kc_se c_Md_sign_76 (sm_cv (j := 109) rfl rfl kw_o kw_g wc_Md_find (Nat.le_of_ble_eq_true rfl) hd_Md_find (ci := 10) (F := kF_Md) (N := 52) rfl (kw4 208 rfl rfl) wi_Md_find ws_Md_find wn_Md_find d_Md_sign_76)) (
  kc_case (P := P) (kc_se c_Md_sign_75 (sm_iconst d_Md_sign_75 (by decide))) (
  kc_case (P := P) (kc_se c_Md_sign_74 (sm_aload_n d_Md_sign_74 rfl)) (
  kc_case (P := P) (kc_se c_Md_sign_73 (sm_ri d_Md_sign_73 rfl)) (
  kc_case (P := P) (kc_se rfl sm_no) (
  kc_case (P := P) (kc_se c_Md_sign_71 (sm_bipush d_Md_sign_71 (by decide))) (
  kc_case (P := P) (kc_se rfl sm_no) (
  kc_case (P := P) (kc_se rfl sm_no) (
  kc_case (P := P) (kc_se c_Md_sign_68 (sm_if_eq d_Md_sign_68 (by decide))) (
  kc_case (P := P) (kc_se c_Md_sign_67 (sm_iload_n d_Md_sign_67 rfl)) (
  kc_case (P := P) (kc_se c_Md_sign_66 (sm_ri d_Md_sign_66 rfl)) (
  kc_case (P := P) (kc_se rfl sm_no) (
  kc_case (P := P) (kc_se c_Md_sign_64 (sm_bipush d_Md_sign_64 (by decide))) (
  kc_case (P := P) (kc_se rfl sm_no) (
  kc_case (P := P) (kc_se rfl sm_no) (
  kc_case (P := P) (kc_se c_Md_sign_61 (sm_goto d_Md_sign_61 (by decide))) (
  kc_case (P := P) (kc_se c_Md_sign_60 (sm_iconst d_Md_sign_60 (by decide))) (
  s_Md_sign_60))))))))))))))))))))))))))))))))))))))))))))))))))))))))))))
set_option maxRecDepth 100000 in
set_option maxHeartbeats 4000000 in
theorem s_Md_sign_180 : ∀ pc, pc < 180 → kc_Sim kt kw_A kw_N kt_cl kt_En "DirectoryDeskModel" prog_12_method_34_code 8 (some .int) "sign" none pc (ct_Md_sign pc) := by
  let P : Nat → Prop := fun pc => kc_Sim kt kw_A kw_N kt_cl kt_En "DirectoryDeskModel" prog_12_method_34_code 8 (some .int) "sign" none pc (ct_Md_sign pc)
  exact kc_case (P := P) (kc_se rfl sm_no) (
  kc_case (P := P) (kc_se c_Md_sign_178 (sm_iload d_Md_sign_178)) (
  kc_case (P := P) (kc_se c_Md_sign_177 (sm_aload_n d_Md_sign_177 rfl)) (
  kc_case (P := P) (kc_se rfl sm_no) (
  kc_case (P := P) (kc_se rfl sm_no) (
  kc_case (P := P) (kc_se c_Md_sign_174 (sm_goto d_Md_sign_174 (by decide))) (
  kc_case (P := P) (kc_se rfl sm_no) (
  kc_case (P := P) (kc_se rfl sm_no) (
  kc_case (P := P) (kc_se c_Md_sign_171 (sm_inc d_Md_sign_171 (by decide) (Nat.le_of_ble_eq_true rfl))) (
  kc_case (P := P) (kc_se rfl sm_no) (
  kc_case (P := P) (kc_se c_Md_sign_169 (sm_istore d_Md_sign_169 (Nat.le_of_ble_eq_true rfl))) (
  kc_case (P := P) (kc_se c_Md_sign_168 (sm_iconst d_Md_sign_168 (by decide))) (
  kc_case (P := P) (kc_se rfl sm_no) (
  kc_case (P := P) (kc_se rfl sm_no) (
  kc_case (P := P) (kc_se c_Md_sign_165 (sm_goto d_Md_sign_165 (by decide))) (
  kc_case (P := P) (kc_se c_Md_sign_164 (sm_iconst d_Md_sign_164 (by decide))) (
  kc_case (P := P) (kc_se rfl sm_no) (
  kc_case (P := P) (kc_se rfl sm_no) (
  kc_case (P := P) (kc_se c_Md_sign_161 (sm_if_ne d_Md_sign_161 (by decide))) (
  kc_case (P := P) (kc_se c_Md_sign_160 (sm_lcmp d_Md_sign_160)) (
  kc_case (P := P) (kc_se rfl sm_no) (
  kc_case (P := P) (kc_se c_Md_sign_158 (sm_lload d_Md_sign_158)) (
  kc_case (P := P) (kc_se c_Md_sign_157 (sm_lald d_Md_sign_157)) (
  kc_case (P := P) (kc_se c_Md_sign_156 (sm_iadd d_Md_sign_156)) (
  kc_case (P := P) (kc_se rfl sm_no) (
  kc_case (P := P) (kc_se c_Md_sign_154 (sm_iload d_Md_sign_154)) (
  kc_case (P := P) (kc_se c_Md_sign_153 (sm_imul d_Md_sign_153)) (
  kc_case (P := P) (kc_se c_Md_sign_152 (sm_iload_n d_Md_sign_152 rfl)) (
  kc_case (P := P) (kc_se rfl sm_no) (
  kc_case (P := P) (kc_se c_Md_sign_150 (sm_bipush d_Md_sign_150 (by decide))) (
  kc_case (P := P) (kc_se rfl sm_no) (
  kc_case (P := P) (kc_se rfl sm_no) (
  kc_case (P := P) (kc_se c_Md_sign_147 (sm_get (ci := 10) (C := "DirectoryDeskModel") (F := kF_Md) rfl kin_Md (Nat.le_of_ble_eq_true rfl) d_Md_sign_147 (kw3 195 rfl rfl))) (
  kc_case (P := P) (kc_se c_Md_sign_146 (sm_aload_n d_Md_sign_146 rfl)) (
  kc_case (P := P) (kc_se rfl sm_no) (
  kc_case (P := P) (kc_se rfl sm_no) (
  kc_case (P := P) (kc_se c_Md_sign_143 (sm_cm_ne d_Md_sign_143 (by decide))) (
  kc_case (P := P) (kc_se rfl sm_no) (
  kc_case (P := P) (kc_se c_Md_sign_141 (sm_bipush d_Md_sign_141 (by decide))) (
  kc_case (P := P) (kc_se c_Md_sign_140 (sm_iald d_Md_sign_140)) (
  kc_case (P := P) (kc_se c_Md_sign_139 (sm_iadd d_Md_sign_139)) (
  kc_case (P := P) (kc_se rfl sm_no) (
  kc_case (P := P) (kc_se c_Md_sign_137 (sm_iload d_Md_sign_137)) (
  kc_case (P := P) (kc_se c_Md_sign_136 (sm_imul d_Md_sign_136)) (
  kc_case (P := P) (kc_se c_Md_sign_135 (sm_iload_n d_Md_sign_135 rfl)) (
  kc_case (P := P) (kc_se rfl sm_no) (
  kc_case (P := P) (kc_se c_Md_sign_133 (sm_bipush d_Md_sign_133 (by decide))) (
  kc_case (P := P) (kc_se rfl sm_no) (
  kc_case (P := P) (kc_se rfl sm_no) (
  kc_case (P := P) (kc_se c_Md_sign_130 (sm_get (ci := 10) (C := "DirectoryDeskModel") (F := kF_Md) rfl kin_Md (Nat.le_of_ble_eq_true rfl) d_Md_sign_130 (kw3 194 rfl rfl))) (
  kc_case (P := P) (kc_se c_Md_sign_129 (sm_aload_n d_Md_sign_129 rfl)) (
  kc_case (P := P) (kc_se rfl sm_no) (
  kc_case (P := P) (kc_se rfl sm_no) (
  kc_case (P := P) (kc_se c_Md_sign_126 (sm_if_eq d_Md_sign_126 (by decide))) (
  kc_case (P := P) (kc_se c_Md_sign_125 (sm_lcmp d_Md_sign_125)) (
  kc_case (P := P) (kc_se rfl sm_no) (
  kc_case (P := P) (kc_se rfl sm_no) (
  kc_case (P := P) (kc_se c_Md_sign_122 (sm_ldc2 d_Md_sign_122 (kw4 168 rfl rfl))) (
  kc_case (P := P) (kc_se rfl sm_no) (
  kc_case (P := P) (kc_se c_Md_sign_120 (sm_lload d_Md_sign_120)) (
  s_Md_sign_120))))))))))))))))))))))))))))))))))))))))))))))))))))))))))))
set_option maxRecDepth 100000 in
set_option maxHeartbeats 4000000 in
theorem s_Md_sign_195 : ∀ pc, pc < 195 → kc_Sim kt kw_A kw_N kt_cl kt_En "DirectoryDeskModel" prog_12_method_34_code 8 (some .int) "sign" none pc (ct_Md_sign pc) := by
  let P : Nat → Prop := fun pc => kc_Sim kt kw_A kw_N kt_cl kt_En "DirectoryDeskModel" prog_12_method_34_code 8 (some .int) "sign" none pc (ct_Md_sign pc)
  exact kc_case (P := P) (kc_se c_Md_sign_194 (sm_ri d_Md_sign_194 rfl)) (
  kc_case (P := P) (kc_se rfl sm_no) (
  kc_case (P := P) (kc_se c_Md_sign_192 (sm_bipush d_Md_sign_192 (by decide))) (
  kc_case (P := P) (kc_se rfl sm_no) (
  kc_case (P := P) (kc_se rfl sm_no) (
  kc_case (P := P) (kc_se c_Md_sign_189 (sm_goto d_Md_sign_189 (by decide))) (
  kc_case (P := P) (kc_se c_Md_sign_188 (sm_iconst d_Md_sign_188 (by decide))) (
  kc_case (P := P) (kc_se rfl sm_no) (
  kc_case (P := P) (kc_se rfl sm_no) (
  kc_case (P := P) (kc_se c_Md_sign_185 (sm_if_eq d_Md_sign_185 (by decide))) (
  kc_case (P := P) (kc_se rfl sm_no) (
  kc_case (P := P) (kc_se c_Md_sign_183 (sm_iload d_Md_sign_183)) (
  kc_case (P := P) (kc_se rfl sm_no) (
  kc_case (P := P) (kc_se rfl sm_no) (
  kc_case (P := P) (kc_se c_Md_sign_180 (sm_put (ci := 10) (C := "DirectoryDeskModel") (F := kF_Md) rfl kin_Md kty_Md ktk_Md knm_Md (Nat.le_of_ble_eq_true rfl) (by decide +kernel) d_Md_sign_180 (kw3 184 rfl rfl) rfl)) (
  s_Md_sign_180)))))))))))))))
set_option maxRecDepth 100000 in
theorem ka_nth_no_Md_sign (pc : Nat) (h : 195 ≤ pc) : ct_Md_sign pc = ka_no := ka_nth_ge _ pc (Nat.le_trans (Nat.le_of_eq (by rfl)) h)
theorem s_Md_sign (pc : Nat) : kc_Sim kt kw_A kw_N kt_cl kt_En "DirectoryDeskModel" prog_12_method_34_code 8 (some .int) "sign" none pc (ct_Md_sign pc) := (Nat.lt_or_ge pc 195).elim (s_Md_sign_195 pc) (fun h => kc_se (ka_nth_no_Md_sign pc h) sm_no)
def cl_Md_add_0 : List kc_A := [ka_al 0 1, ka_ci (nI 0) 1, ka_cv 109 1 10 0 0, ka_no, ka_no, ka_if (fun x => x < 0) 11, ka_no, ka_no, ka_ci (nI 68) 2, ka_no, ka_ri, ka_al 0 1, ka_get 10 20, ka_no, ka_no, ka_ci (nI 1) 1, ka_cm (fun x y => x ≤ y) 30, ka_no, ka_no, ka_al 0 1, ka_ci (nI 1) 1, ka_cv 109 1 10 0 0, ka_no, ka_no, ka_if (fun x => 0 ≤ x) 30, ka_no, ka_no, ka_ci (nI 32) 2, ka_no, ka_ri, ka_al 0 1, ka_ci (nI 0) 1, ka_put 10 49 .int, ka_no, ka_no, ka_ci (nI 0) 1, ka_is 1 1, ka_il 1 1, ka_al 0 1, ka_get 10 33, ka_no, ka_no, ka_cm (fun x y => y ≤ x) 64, ka_no, ka_no, ka_al 0 1, ka_il 1 1, ka_ci (nI 0) 1, ka_cv 128 2 10 0 0, ka_no, ka_no, ka_is 2 1, ka_il 2 1, ka_if (fun x => x = 0) 58, ka_no, ka_no, ka_il 2 1, ka_ri, ka_inc 1 (nI 1), ka_no]
def cl_Md_add_1 : List kc_A := [ka_no, ka_goto 37, ka_no, ka_no, ka_al 0 1, ka_al 0 1, ka_get 10 21, ka_no, ka_no, ka_ci (nI 0) 1, ka_iald, ka_al 0 1, ka_get 10 22, ka_no, ka_no, ka_ci (nI 0) 1, ka_lald, ka_cv 123 2 10 0 0, ka_no, ka_no, ka_if (fun x => 0 ≤ x) 86, ka_no, ka_no, ka_ci (nI 64) 2, ka_no, ka_ri, ka_al 0 1, ka_get 10 6, ka_no, ka_no, ka_ci (nI 16) 2, ka_no, ka_cm (fun x y => x = y) 104, ka_no, ka_no, ka_al 0 1, ka_get 10 49, ka_no, ka_no, ka_ci (nI 6) 2, ka_no, ka_cm (fun x y => x ≤ y) 107, ka_no, ka_no, ka_ci (nI 53) 2, ka_no, ka_ri, ka_al 0 1, ka_get 10 7, ka_no, ka_no, ka_al 0 1, ka_get 10 6, ka_no, ka_no, ka_al 0 1, ka_get 10 20, ka_no, ka_no, ka_iast]
def cl_Md_add_2 : List kc_A := [ka_ci (nI 0) 1, ka_is 1 1, ka_il 1 1, ka_al 0 1, ka_get 10 20, ka_no, ka_no, ka_cm (fun x y => y ≤ x) 174, ka_no, ka_no, ka_al 0 1, ka_get 10 8, ka_no, ka_no, ka_ci (nI 4) 1, ka_al 0 1, ka_get 10 6, ka_no, ka_no, ka_ii (fun x y => x * y), ka_il 1 1, ka_ii (fun x y => x + y), ka_al 0 1, ka_get 10 21, ka_no, ka_no, ka_il 1 1, ka_iald, ka_iast, ka_al 0 1, ka_get 10 9, ka_no, ka_no, ka_ci (nI 4) 1, ka_al 0 1, ka_get 10 6, ka_no, ka_no, ka_ii (fun x y => x * y), ka_il 1 1, ka_ii (fun x y => x + y), ka_al 0 1, ka_get 10 22, ka_no, ka_no, ka_il 1 1, ka_lald, ka_last, ka_inc 1 (nI 1), ka_no, ka_no, ka_goto 122, ka_no, ka_no, ka_al 0 1, ka_al 0 1, ka_get 10 6, ka_no, ka_no, ka_cv 127 1 10 0 0]
def cl_Md_add_3 : List kc_A := [ka_no, ka_no, ka_al 0 1, ka_dup, ka_get 10 6, ka_no, ka_no, ka_ci (nI 1) 1, ka_ii (fun x y => x + y), ka_put 10 6 .int, ka_no, ka_no, ka_ci (nI 0) 1, ka_ri]
def ct_Md_add : Nat → kc_A := fun pc => ka_nth (cl_Md_add_0 ++ (cl_Md_add_1 ++ (cl_Md_add_2 ++ (cl_Md_add_3)))) pc
set_option maxRecDepth 100000 in
theorem c_Md_add_0 : ct_Md_add 0 = ka_al 0 1 := rfl
theorem d_Md_add_0 : decode prog_12_method_35_code 0 = .ok (.aload_n 0, 1) := by decide +kernel
set_option maxRecDepth 100000 in
theorem c_Md_add_1 : ct_Md_add 1 = ka_ci (nI 0) 1 := rfl
theorem d_Md_add_1 : decode prog_12_method_35_code 1 = .ok (.iconst 0, 1) := by decide +kernel
set_option maxRecDepth 100000 in
theorem c_Md_add_2 : ct_Md_add 2 = ka_cv 109 1 10 0 0 := rfl
theorem d_Md_add_2 : decode prog_12_method_35_code 2 = .ok (.invokevirtual 258, 3) := by decide +kernel
set_option maxRecDepth 100000 in
theorem c_Md_add_5 : ct_Md_add 5 = ka_if (fun x => x < 0) 11 := rfl
theorem d_Md_add_5 : decode prog_12_method_35_code 5 = .ok (.ifCond .lt 6, 3) := by decide +kernel
set_option maxRecDepth 100000 in
theorem c_Md_add_8 : ct_Md_add 8 = ka_ci (nI 68) 2 := rfl
theorem d_Md_add_8 : decode prog_12_method_35_code 8 = .ok (.bipush 68, 2) := by decide +kernel
set_option maxRecDepth 100000 in
theorem c_Md_add_10 : ct_Md_add 10 = ka_ri := rfl
theorem d_Md_add_10 : decode prog_12_method_35_code 10 = .ok (.ireturn, 1) := by decide +kernel
set_option maxRecDepth 100000 in
theorem c_Md_add_11 : ct_Md_add 11 = ka_al 0 1 := rfl
theorem d_Md_add_11 : decode prog_12_method_35_code 11 = .ok (.aload_n 0, 1) := by decide +kernel
set_option maxRecDepth 100000 in
theorem c_Md_add_12 : ct_Md_add 12 = ka_get 10 20 := rfl
theorem d_Md_add_12 : decode prog_12_method_35_code 12 = .ok (.getfield 126, 3) := by decide +kernel
set_option maxRecDepth 100000 in
theorem c_Md_add_15 : ct_Md_add 15 = ka_ci (nI 1) 1 := rfl
theorem d_Md_add_15 : decode prog_12_method_35_code 15 = .ok (.iconst 1, 1) := by decide +kernel
set_option maxRecDepth 100000 in
theorem c_Md_add_16 : ct_Md_add 16 = ka_cm (fun x y => x ≤ y) 30 := rfl
theorem d_Md_add_16 : decode prog_12_method_35_code 16 = .ok (.if_icmp .le 14, 3) := by decide +kernel
set_option maxRecDepth 100000 in
theorem c_Md_add_19 : ct_Md_add 19 = ka_al 0 1 := rfl
theorem d_Md_add_19 : decode prog_12_method_35_code 19 = .ok (.aload_n 0, 1) := by decide +kernel
set_option maxRecDepth 100000 in
theorem c_Md_add_20 : ct_Md_add 20 = ka_ci (nI 1) 1 := rfl
theorem d_Md_add_20 : decode prog_12_method_35_code 20 = .ok (.iconst 1, 1) := by decide +kernel
set_option maxRecDepth 100000 in
theorem c_Md_add_21 : ct_Md_add 21 = ka_cv 109 1 10 0 0 := rfl
theorem d_Md_add_21 : decode prog_12_method_35_code 21 = .ok (.invokevirtual 258, 3) := by decide +kernel
set_option maxRecDepth 100000 in
theorem c_Md_add_24 : ct_Md_add 24 = ka_if (fun x => 0 ≤ x) 30 := rfl
theorem d_Md_add_24 : decode prog_12_method_35_code 24 = .ok (.ifCond .ge 6, 3) := by decide +kernel
set_option maxRecDepth 100000 in
theorem c_Md_add_27 : ct_Md_add 27 = ka_ci (nI 32) 2 := rfl
theorem d_Md_add_27 : decode prog_12_method_35_code 27 = .ok (.bipush 32, 2) := by decide +kernel
set_option maxRecDepth 100000 in
theorem c_Md_add_29 : ct_Md_add 29 = ka_ri := rfl
theorem d_Md_add_29 : decode prog_12_method_35_code 29 = .ok (.ireturn, 1) := by decide +kernel
set_option maxRecDepth 100000 in
theorem c_Md_add_30 : ct_Md_add 30 = ka_al 0 1 := rfl
theorem d_Md_add_30 : decode prog_12_method_35_code 30 = .ok (.aload_n 0, 1) := by decide +kernel
set_option maxRecDepth 100000 in
theorem c_Md_add_31 : ct_Md_add 31 = ka_ci (nI 0) 1 := rfl
theorem d_Md_add_31 : decode prog_12_method_35_code 31 = .ok (.iconst 0, 1) := by decide +kernel
set_option maxRecDepth 100000 in
theorem c_Md_add_32 : ct_Md_add 32 = ka_put 10 49 .int := rfl
theorem d_Md_add_32 : decode prog_12_method_35_code 32 = .ok (.putfield 237, 3) := by decide +kernel
set_option maxRecDepth 100000 in
theorem c_Md_add_35 : ct_Md_add 35 = ka_ci (nI 0) 1 := rfl
theorem d_Md_add_35 : decode prog_12_method_35_code 35 = .ok (.iconst 0, 1) := by decide +kernel
set_option maxRecDepth 100000 in
theorem c_Md_add_36 : ct_Md_add 36 = ka_is 1 1 := rfl
theorem d_Md_add_36 : decode prog_12_method_35_code 36 = .ok (.istore_n 1, 1) := by decide +kernel
set_option maxRecDepth 100000 in
theorem c_Md_add_37 : ct_Md_add 37 = ka_il 1 1 := rfl
theorem d_Md_add_37 : decode prog_12_method_35_code 37 = .ok (.iload_n 1, 1) := by decide +kernel
set_option maxRecDepth 100000 in
theorem c_Md_add_38 : ct_Md_add 38 = ka_al 0 1 := rfl
theorem d_Md_add_38 : decode prog_12_method_35_code 38 = .ok (.aload_n 0, 1) := by decide +kernel
set_option maxRecDepth 100000 in
theorem c_Md_add_39 : ct_Md_add 39 = ka_get 10 33 := rfl
theorem d_Md_add_39 : decode prog_12_method_35_code 39 = .ok (.getfield 171, 3) := by decide +kernel
set_option maxRecDepth 100000 in
theorem c_Md_add_42 : ct_Md_add 42 = ka_cm (fun x y => y ≤ x) 64 := rfl
theorem d_Md_add_42 : decode prog_12_method_35_code 42 = .ok (.if_icmp .ge 22, 3) := by decide +kernel
set_option maxRecDepth 100000 in
theorem c_Md_add_45 : ct_Md_add 45 = ka_al 0 1 := rfl
theorem d_Md_add_45 : decode prog_12_method_35_code 45 = .ok (.aload_n 0, 1) := by decide +kernel
set_option maxRecDepth 100000 in
theorem c_Md_add_46 : ct_Md_add 46 = ka_il 1 1 := rfl
theorem d_Md_add_46 : decode prog_12_method_35_code 46 = .ok (.iload_n 1, 1) := by decide +kernel
set_option maxRecDepth 100000 in
theorem c_Md_add_47 : ct_Md_add 47 = ka_ci (nI 0) 1 := rfl
theorem d_Md_add_47 : decode prog_12_method_35_code 47 = .ok (.iconst 0, 1) := by decide +kernel
set_option maxRecDepth 100000 in
theorem c_Md_add_48 : ct_Md_add 48 = ka_cv 128 2 10 0 0 := rfl
theorem d_Md_add_48 : decode prog_12_method_35_code 48 = .ok (.invokevirtual 261, 3) := by decide +kernel
set_option maxRecDepth 100000 in
theorem c_Md_add_51 : ct_Md_add 51 = ka_is 2 1 := rfl
theorem d_Md_add_51 : decode prog_12_method_35_code 51 = .ok (.istore_n 2, 1) := by decide +kernel
set_option maxRecDepth 100000 in
theorem c_Md_add_52 : ct_Md_add 52 = ka_il 2 1 := rfl
theorem d_Md_add_52 : decode prog_12_method_35_code 52 = .ok (.iload_n 2, 1) := by decide +kernel
set_option maxRecDepth 100000 in
theorem c_Md_add_53 : ct_Md_add 53 = ka_if (fun x => x = 0) 58 := rfl
theorem d_Md_add_53 : decode prog_12_method_35_code 53 = .ok (.ifCond .eq 5, 3) := by decide +kernel
set_option maxRecDepth 100000 in
theorem c_Md_add_56 : ct_Md_add 56 = ka_il 2 1 := rfl
theorem d_Md_add_56 : decode prog_12_method_35_code 56 = .ok (.iload_n 2, 1) := by decide +kernel
set_option maxRecDepth 100000 in
theorem c_Md_add_57 : ct_Md_add 57 = ka_ri := rfl
theorem d_Md_add_57 : decode prog_12_method_35_code 57 = .ok (.ireturn, 1) := by decide +kernel
set_option maxRecDepth 100000 in
theorem c_Md_add_58 : ct_Md_add 58 = ka_inc 1 (nI 1) := rfl
theorem d_Md_add_58 : decode prog_12_method_35_code 58 = .ok (.iinc 1 1, 3) := by decide +kernel
set_option maxRecDepth 100000 in
theorem c_Md_add_61 : ct_Md_add 61 = ka_goto 37 := rfl
theorem d_Md_add_61 : decode prog_12_method_35_code 61 = .ok (.goto (-24), 3) := by decide +kernel
set_option maxRecDepth 100000 in
theorem c_Md_add_64 : ct_Md_add 64 = ka_al 0 1 := rfl
theorem d_Md_add_64 : decode prog_12_method_35_code 64 = .ok (.aload_n 0, 1) := by decide +kernel
set_option maxRecDepth 100000 in
theorem c_Md_add_65 : ct_Md_add 65 = ka_al 0 1 := rfl
theorem d_Md_add_65 : decode prog_12_method_35_code 65 = .ok (.aload_n 0, 1) := by decide +kernel
set_option maxRecDepth 100000 in
theorem c_Md_add_66 : ct_Md_add 66 = ka_get 10 21 := rfl
theorem d_Md_add_66 : decode prog_12_method_35_code 66 = .ok (.getfield 35, 3) := by decide +kernel
set_option maxRecDepth 100000 in
theorem c_Md_add_69 : ct_Md_add 69 = ka_ci (nI 0) 1 := rfl
theorem d_Md_add_69 : decode prog_12_method_35_code 69 = .ok (.iconst 0, 1) := by decide +kernel
set_option maxRecDepth 100000 in
theorem c_Md_add_70 : ct_Md_add 70 = ka_iald := rfl
theorem d_Md_add_70 : decode prog_12_method_35_code 70 = .ok (.iaload, 1) := by decide +kernel
set_option maxRecDepth 100000 in
theorem c_Md_add_71 : ct_Md_add 71 = ka_al 0 1 := rfl
theorem d_Md_add_71 : decode prog_12_method_35_code 71 = .ok (.aload_n 0, 1) := by decide +kernel
set_option maxRecDepth 100000 in
theorem c_Md_add_72 : ct_Md_add 72 = ka_get 10 22 := rfl
theorem d_Md_add_72 : decode prog_12_method_35_code 72 = .ok (.getfield 38, 3) := by decide +kernel
set_option maxRecDepth 100000 in
theorem c_Md_add_75 : ct_Md_add 75 = ka_ci (nI 0) 1 := rfl
theorem d_Md_add_75 : decode prog_12_method_35_code 75 = .ok (.iconst 0, 1) := by decide +kernel
set_option maxRecDepth 100000 in
theorem c_Md_add_76 : ct_Md_add 76 = ka_lald := rfl
theorem d_Md_add_76 : decode prog_12_method_35_code 76 = .ok (.laload, 1) := by decide +kernel
set_option maxRecDepth 100000 in
theorem c_Md_add_77 : ct_Md_add 77 = ka_cv 123 2 10 0 0 := rfl
theorem d_Md_add_77 : decode prog_12_method_35_code 77 = .ok (.invokevirtual 247, 3) := by decide +kernel
set_option maxRecDepth 100000 in
theorem c_Md_add_80 : ct_Md_add 80 = ka_if (fun x => 0 ≤ x) 86 := rfl
theorem d_Md_add_80 : decode prog_12_method_35_code 80 = .ok (.ifCond .ge 6, 3) := by decide +kernel
set_option maxRecDepth 100000 in
theorem c_Md_add_83 : ct_Md_add 83 = ka_ci (nI 64) 2 := rfl
theorem d_Md_add_83 : decode prog_12_method_35_code 83 = .ok (.bipush 64, 2) := by decide +kernel
set_option maxRecDepth 100000 in
theorem c_Md_add_85 : ct_Md_add 85 = ka_ri := rfl
theorem d_Md_add_85 : decode prog_12_method_35_code 85 = .ok (.ireturn, 1) := by decide +kernel
set_option maxRecDepth 100000 in
theorem c_Md_add_86 : ct_Md_add 86 = ka_al 0 1 := rfl
theorem d_Md_add_86 : decode prog_12_method_35_code 86 = .ok (.aload_n 0, 1) := by decide +kernel
set_option maxRecDepth 100000 in
theorem c_Md_add_87 : ct_Md_add 87 = ka_get 10 6 := rfl
theorem d_Md_add_87 : decode prog_12_method_35_code 87 = .ok (.getfield 83, 3) := by decide +kernel
set_option maxRecDepth 100000 in
theorem c_Md_add_90 : ct_Md_add 90 = ka_ci (nI 16) 2 := rfl
theorem d_Md_add_90 : decode prog_12_method_35_code 90 = .ok (.bipush 16, 2) := by decide +kernel
set_option maxRecDepth 100000 in
theorem c_Md_add_92 : ct_Md_add 92 = ka_cm (fun x y => x = y) 104 := rfl
theorem d_Md_add_92 : decode prog_12_method_35_code 92 = .ok (.if_icmp .eq 12, 3) := by decide +kernel
set_option maxRecDepth 100000 in
theorem c_Md_add_95 : ct_Md_add 95 = ka_al 0 1 := rfl
theorem d_Md_add_95 : decode prog_12_method_35_code 95 = .ok (.aload_n 0, 1) := by decide +kernel
set_option maxRecDepth 100000 in
theorem c_Md_add_96 : ct_Md_add 96 = ka_get 10 49 := rfl
theorem d_Md_add_96 : decode prog_12_method_35_code 96 = .ok (.getfield 237, 3) := by decide +kernel
set_option maxRecDepth 100000 in
theorem c_Md_add_99 : ct_Md_add 99 = ka_ci (nI 6) 2 := rfl
theorem d_Md_add_99 : decode prog_12_method_35_code 99 = .ok (.bipush 6, 2) := by decide +kernel
set_option maxRecDepth 100000 in
theorem c_Md_add_101 : ct_Md_add 101 = ka_cm (fun x y => x ≤ y) 107 := rfl
theorem d_Md_add_101 : decode prog_12_method_35_code 101 = .ok (.if_icmp .le 6, 3) := by decide +kernel
set_option maxRecDepth 100000 in
theorem c_Md_add_104 : ct_Md_add 104 = ka_ci (nI 53) 2 := rfl
theorem d_Md_add_104 : decode prog_12_method_35_code 104 = .ok (.bipush 53, 2) := by decide +kernel
set_option maxRecDepth 100000 in
theorem c_Md_add_106 : ct_Md_add 106 = ka_ri := rfl
theorem d_Md_add_106 : decode prog_12_method_35_code 106 = .ok (.ireturn, 1) := by decide +kernel
set_option maxRecDepth 100000 in
theorem c_Md_add_107 : ct_Md_add 107 = ka_al 0 1 := rfl
theorem d_Md_add_107 : decode prog_12_method_35_code 107 = .ok (.aload_n 0, 1) := by decide +kernel
set_option maxRecDepth 100000 in
theorem c_Md_add_108 : ct_Md_add 108 = ka_get 10 7 := rfl
theorem d_Md_add_108 : decode prog_12_method_35_code 108 = .ok (.getfield 16, 3) := by decide +kernel
set_option maxRecDepth 100000 in
theorem c_Md_add_111 : ct_Md_add 111 = ka_al 0 1 := rfl
theorem d_Md_add_111 : decode prog_12_method_35_code 111 = .ok (.aload_n 0, 1) := by decide +kernel
set_option maxRecDepth 100000 in
theorem c_Md_add_112 : ct_Md_add 112 = ka_get 10 6 := rfl
theorem d_Md_add_112 : decode prog_12_method_35_code 112 = .ok (.getfield 83, 3) := by decide +kernel
set_option maxRecDepth 100000 in
theorem c_Md_add_115 : ct_Md_add 115 = ka_al 0 1 := rfl
theorem d_Md_add_115 : decode prog_12_method_35_code 115 = .ok (.aload_n 0, 1) := by decide +kernel
set_option maxRecDepth 100000 in
theorem c_Md_add_116 : ct_Md_add 116 = ka_get 10 20 := rfl
theorem d_Md_add_116 : decode prog_12_method_35_code 116 = .ok (.getfield 126, 3) := by decide +kernel
set_option maxRecDepth 100000 in
theorem c_Md_add_119 : ct_Md_add 119 = ka_iast := rfl
theorem d_Md_add_119 : decode prog_12_method_35_code 119 = .ok (.iastore, 1) := by decide +kernel
set_option maxRecDepth 100000 in
theorem c_Md_add_120 : ct_Md_add 120 = ka_ci (nI 0) 1 := rfl
theorem d_Md_add_120 : decode prog_12_method_35_code 120 = .ok (.iconst 0, 1) := by decide +kernel
set_option maxRecDepth 100000 in
theorem c_Md_add_121 : ct_Md_add 121 = ka_is 1 1 := rfl
theorem d_Md_add_121 : decode prog_12_method_35_code 121 = .ok (.istore_n 1, 1) := by decide +kernel
set_option maxRecDepth 100000 in
theorem c_Md_add_122 : ct_Md_add 122 = ka_il 1 1 := rfl
theorem d_Md_add_122 : decode prog_12_method_35_code 122 = .ok (.iload_n 1, 1) := by decide +kernel
set_option maxRecDepth 100000 in
theorem c_Md_add_123 : ct_Md_add 123 = ka_al 0 1 := rfl
theorem d_Md_add_123 : decode prog_12_method_35_code 123 = .ok (.aload_n 0, 1) := by decide +kernel
set_option maxRecDepth 100000 in
theorem c_Md_add_124 : ct_Md_add 124 = ka_get 10 20 := rfl
theorem d_Md_add_124 : decode prog_12_method_35_code 124 = .ok (.getfield 126, 3) := by decide +kernel
set_option maxRecDepth 100000 in
theorem c_Md_add_127 : ct_Md_add 127 = ka_cm (fun x y => y ≤ x) 174 := rfl
theorem d_Md_add_127 : decode prog_12_method_35_code 127 = .ok (.if_icmp .ge 47, 3) := by decide +kernel
set_option maxRecDepth 100000 in
theorem c_Md_add_130 : ct_Md_add 130 = ka_al 0 1 := rfl
theorem d_Md_add_130 : decode prog_12_method_35_code 130 = .ok (.aload_n 0, 1) := by decide +kernel
set_option maxRecDepth 100000 in
theorem c_Md_add_131 : ct_Md_add 131 = ka_get 10 8 := rfl
theorem d_Md_add_131 : decode prog_12_method_35_code 131 = .ok (.getfield 19, 3) := by decide +kernel
set_option maxRecDepth 100000 in
theorem c_Md_add_134 : ct_Md_add 134 = ka_ci (nI 4) 1 := rfl
theorem d_Md_add_134 : decode prog_12_method_35_code 134 = .ok (.iconst 4, 1) := by decide +kernel
set_option maxRecDepth 100000 in
theorem c_Md_add_135 : ct_Md_add 135 = ka_al 0 1 := rfl
theorem d_Md_add_135 : decode prog_12_method_35_code 135 = .ok (.aload_n 0, 1) := by decide +kernel
set_option maxRecDepth 100000 in
theorem c_Md_add_136 : ct_Md_add 136 = ka_get 10 6 := rfl
theorem d_Md_add_136 : decode prog_12_method_35_code 136 = .ok (.getfield 83, 3) := by decide +kernel
set_option maxRecDepth 100000 in
theorem c_Md_add_139 : ct_Md_add 139 = ka_ii (fun x y => x * y) := rfl
theorem d_Md_add_139 : decode prog_12_method_35_code 139 = .ok (.imul, 1) := by decide +kernel
set_option maxRecDepth 100000 in
theorem c_Md_add_140 : ct_Md_add 140 = ka_il 1 1 := rfl
theorem d_Md_add_140 : decode prog_12_method_35_code 140 = .ok (.iload_n 1, 1) := by decide +kernel
set_option maxRecDepth 100000 in
theorem c_Md_add_141 : ct_Md_add 141 = ka_ii (fun x y => x + y) := rfl
theorem d_Md_add_141 : decode prog_12_method_35_code 141 = .ok (.iadd, 1) := by decide +kernel
set_option maxRecDepth 100000 in
theorem c_Md_add_142 : ct_Md_add 142 = ka_al 0 1 := rfl
theorem d_Md_add_142 : decode prog_12_method_35_code 142 = .ok (.aload_n 0, 1) := by decide +kernel
set_option maxRecDepth 100000 in
theorem c_Md_add_143 : ct_Md_add 143 = ka_get 10 21 := rfl
theorem d_Md_add_143 : decode prog_12_method_35_code 143 = .ok (.getfield 35, 3) := by decide +kernel
set_option maxRecDepth 100000 in
theorem c_Md_add_146 : ct_Md_add 146 = ka_il 1 1 := rfl
theorem d_Md_add_146 : decode prog_12_method_35_code 146 = .ok (.iload_n 1, 1) := by decide +kernel
set_option maxRecDepth 100000 in
theorem c_Md_add_147 : ct_Md_add 147 = ka_iald := rfl
theorem d_Md_add_147 : decode prog_12_method_35_code 147 = .ok (.iaload, 1) := by decide +kernel
set_option maxRecDepth 100000 in
theorem c_Md_add_148 : ct_Md_add 148 = ka_iast := rfl
theorem d_Md_add_148 : decode prog_12_method_35_code 148 = .ok (.iastore, 1) := by decide +kernel
set_option maxRecDepth 100000 in
theorem c_Md_add_149 : ct_Md_add 149 = ka_al 0 1 := rfl
theorem d_Md_add_149 : decode prog_12_method_35_code 149 = .ok (.aload_n 0, 1) := by decide +kernel
set_option maxRecDepth 100000 in
theorem c_Md_add_150 : ct_Md_add 150 = ka_get 10 9 := rfl
theorem d_Md_add_150 : decode prog_12_method_35_code 150 = .ok (.getfield 22, 3) := by decide +kernel
set_option maxRecDepth 100000 in
theorem c_Md_add_153 : ct_Md_add 153 = ka_ci (nI 4) 1 := rfl
theorem d_Md_add_153 : decode prog_12_method_35_code 153 = .ok (.iconst 4, 1) := by decide +kernel
set_option maxRecDepth 100000 in
theorem c_Md_add_154 : ct_Md_add 154 = ka_al 0 1 := rfl
theorem d_Md_add_154 : decode prog_12_method_35_code 154 = .ok (.aload_n 0, 1) := by decide +kernel
set_option maxRecDepth 100000 in
theorem c_Md_add_155 : ct_Md_add 155 = ka_get 10 6 := rfl
theorem d_Md_add_155 : decode prog_12_method_35_code 155 = .ok (.getfield 83, 3) := by decide +kernel
set_option maxRecDepth 100000 in
theorem c_Md_add_158 : ct_Md_add 158 = ka_ii (fun x y => x * y) := rfl
theorem d_Md_add_158 : decode prog_12_method_35_code 158 = .ok (.imul, 1) := by decide +kernel
set_option maxRecDepth 100000 in
theorem c_Md_add_159 : ct_Md_add 159 = ka_il 1 1 := rfl
theorem d_Md_add_159 : decode prog_12_method_35_code 159 = .ok (.iload_n 1, 1) := by decide +kernel
set_option maxRecDepth 100000 in
theorem c_Md_add_160 : ct_Md_add 160 = ka_ii (fun x y => x + y) := rfl
theorem d_Md_add_160 : decode prog_12_method_35_code 160 = .ok (.iadd, 1) := by decide +kernel
set_option maxRecDepth 100000 in
theorem c_Md_add_161 : ct_Md_add 161 = ka_al 0 1 := rfl
theorem d_Md_add_161 : decode prog_12_method_35_code 161 = .ok (.aload_n 0, 1) := by decide +kernel
set_option maxRecDepth 100000 in
theorem c_Md_add_162 : ct_Md_add 162 = ka_get 10 22 := rfl
theorem d_Md_add_162 : decode prog_12_method_35_code 162 = .ok (.getfield 38, 3) := by decide +kernel
set_option maxRecDepth 100000 in
theorem c_Md_add_165 : ct_Md_add 165 = ka_il 1 1 := rfl
theorem d_Md_add_165 : decode prog_12_method_35_code 165 = .ok (.iload_n 1, 1) := by decide +kernel
set_option maxRecDepth 100000 in
theorem c_Md_add_166 : ct_Md_add 166 = ka_lald := rfl
theorem d_Md_add_166 : decode prog_12_method_35_code 166 = .ok (.laload, 1) := by decide +kernel
set_option maxRecDepth 100000 in
theorem c_Md_add_167 : ct_Md_add 167 = ka_last := rfl
theorem d_Md_add_167 : decode prog_12_method_35_code 167 = .ok (.lastore, 1) := by decide +kernel
set_option maxRecDepth 100000 in
theorem c_Md_add_168 : ct_Md_add 168 = ka_inc 1 (nI 1) := rfl
theorem d_Md_add_168 : decode prog_12_method_35_code 168 = .ok (.iinc 1 1, 3) := by decide +kernel
set_option maxRecDepth 100000 in
theorem c_Md_add_171 : ct_Md_add 171 = ka_goto 122 := rfl
theorem d_Md_add_171 : decode prog_12_method_35_code 171 = .ok (.goto (-49), 3) := by decide +kernel
set_option maxRecDepth 100000 in
theorem c_Md_add_174 : ct_Md_add 174 = ka_al 0 1 := rfl
theorem d_Md_add_174 : decode prog_12_method_35_code 174 = .ok (.aload_n 0, 1) := by decide +kernel
set_option maxRecDepth 100000 in
theorem c_Md_add_175 : ct_Md_add 175 = ka_al 0 1 := rfl
theorem d_Md_add_175 : decode prog_12_method_35_code 175 = .ok (.aload_n 0, 1) := by decide +kernel
set_option maxRecDepth 100000 in
theorem c_Md_add_176 : ct_Md_add 176 = ka_get 10 6 := rfl
theorem d_Md_add_176 : decode prog_12_method_35_code 176 = .ok (.getfield 83, 3) := by decide +kernel
set_option maxRecDepth 100000 in
theorem c_Md_add_179 : ct_Md_add 179 = ka_cv 127 1 10 0 0 := rfl
theorem d_Md_add_179 : decode prog_12_method_35_code 179 = .ok (.invokevirtual 264, 3) := by decide +kernel
set_option maxRecDepth 100000 in
theorem c_Md_add_182 : ct_Md_add 182 = ka_al 0 1 := rfl
theorem d_Md_add_182 : decode prog_12_method_35_code 182 = .ok (.aload_n 0, 1) := by decide +kernel
set_option maxRecDepth 100000 in
theorem c_Md_add_183 : ct_Md_add 183 = ka_dup := rfl
theorem d_Md_add_183 : decode prog_12_method_35_code 183 = .ok (.dup, 1) := by decide +kernel
set_option maxRecDepth 100000 in
theorem c_Md_add_184 : ct_Md_add 184 = ka_get 10 6 := rfl
theorem d_Md_add_184 : decode prog_12_method_35_code 184 = .ok (.getfield 83, 3) := by decide +kernel
set_option maxRecDepth 100000 in
theorem c_Md_add_187 : ct_Md_add 187 = ka_ci (nI 1) 1 := rfl
theorem d_Md_add_187 : decode prog_12_method_35_code 187 = .ok (.iconst 1, 1) := by decide +kernel
set_option maxRecDepth 100000 in
theorem c_Md_add_188 : ct_Md_add 188 = ka_ii (fun x y => x + y) := rfl
theorem d_Md_add_188 : decode prog_12_method_35_code 188 = .ok (.iadd, 1) := by decide +kernel
set_option maxRecDepth 100000 in
theorem c_Md_add_189 : ct_Md_add 189 = ka_put 10 6 .int := rfl
theorem d_Md_add_189 : decode prog_12_method_35_code 189 = .ok (.putfield 83, 3) := by decide +kernel
set_option maxRecDepth 100000 in
theorem c_Md_add_192 : ct_Md_add 192 = ka_ci (nI 0) 1 := rfl
theorem d_Md_add_192 : decode prog_12_method_35_code 192 = .ok (.iconst 0, 1) := by decide +kernel
set_option maxRecDepth 100000 in
theorem c_Md_add_193 : ct_Md_add 193 = ka_ri := rfl
theorem d_Md_add_193 : decode prog_12_method_35_code 193 = .ok (.ireturn, 1) := by decide +kernel
set_option maxRecDepth 100000 in
set_option maxHeartbeats 4000000 in
theorem s_Md_add_60 : ∀ pc, pc < 60 → kc_Sim kt kw_A kw_N kt_cl kt_En "DirectoryDeskModel" prog_12_method_35_code 3 (some .int) "add" none pc (ct_Md_add pc) := by
  let P : Nat → Prop := fun pc => kc_Sim kt kw_A kw_N kt_cl kt_En "DirectoryDeskModel" prog_12_method_35_code 3 (some .int) "add" none pc (ct_Md_add pc)
  exact kc_case (P := P) (kc_se rfl sm_no) (
  kc_case (P := P) (kc_se c_Md_add_58 (sm_inc d_Md_add_58 (by decide) (Nat.le_of_ble_eq_true rfl))) (
  kc_case (P := P) (kc_se c_Md_add_57 (sm_ri d_Md_add_57 rfl)) (
  kc_case (P := P) (kc_se c_Md_add_56 (sm_iload_n d_Md_add_56 rfl)) (
  kc_case (P := P) (kc_se rfl sm_no) (
  kc_case (P := P) (kc_se rfl sm_no) (
  kc_case (P := P) (kc_se c_Md_add_53 (sm_if_eq d_Md_add_53 (by decide))) (
  kc_case (P := P) (kc_se c_Md_add_52 (sm_iload_n d_Md_add_52 rfl)) (
  kc_case (P := P) (kc_se c_Md_add_51 (sm_istore_n d_Md_add_51 rfl (Nat.le_of_ble_eq_true rfl))) (
  kc_case (P := P) (kc_se rfl sm_no) (
  kc_case (P := P) (kc_se rfl sm_no) (
  kc_case (P := P) (kc_se c_Md_add_48 (sm_cv (j := 128) rfl rfl kw_o kw_g wc_Md_workIn (Nat.le_of_ble_eq_true rfl) hd_Md_workIn (ci := 10) (F := kF_Md) (N := 52) rfl (kw5 40 rfl rfl) wi_Md_workIn ws_Md_workIn wn_Md_workIn d_Md_add_48)) (
  kc_case (P := P) (kc_se c_Md_add_47 (sm_iconst d_Md_add_47 (by decide))) (
  kc_case (P := P) (kc_se c_Md_add_46 (sm_iload_n d_Md_add_46 rfl)) (
  kc_case (P := P) (kc_se c_Md_add_45 (sm_aload_n d_Md_add_45 rfl)) (
  kc_case (P := P) (kc_se rfl sm_no) (
  kc_case (P := P) (kc_se rfl sm_no) (
  kc_case (P := P) (kc_se c_Md_add_42 (sm_cm_ge d_Md_add_42 (by decide))) (
  kc_case (P := P) (kc_se rfl sm_no) (
  kc_case (P := P) (kc_se rfl sm_no) (
  kc_case (P := P) (kc_se c_Md_add_39 (sm_get (ci := 10) (C := "DirectoryDeskModel") (F := kF_Md) rfl kin_Md (Nat.le_of_ble_eq_true rfl) d_Md_add_39 (kw3 216 rfl rfl))) (
  kc_case (P := P) (kc_se c_Md_add_38 (sm_aload_n d_Md_add_38 rfl)) (
  kc_case (P := P) (kc_se c_Md_add_37 (sm_iload_n d_Md_add_37 rfl)) (
  kc_case (P := P) (kc_se c_Md_add_36 (sm_istore_n d_Md_add_36 rfl (Nat.le_of_ble_eq_true rfl))) (
  kc_case (P := P) (kc_se c_Md_add_35 (sm_iconst d_Md_add_35 (by decide))) (
  kc_case (P := P) (kc_se rfl sm_no) (
  kc_case (P := P) (kc_se rfl sm_no) (
  kc_case (P := P) (kc_se c_Md_add_32 (sm_put (ci := 10) (C := "DirectoryDeskModel") (F := kF_Md) rfl kin_Md kty_Md ktk_Md knm_Md (Nat.le_of_ble_eq_true rfl) (by decide +kernel) d_Md_add_32 (kw3 232 rfl rfl) rfl)) (
  kc_case (P := P) (kc_se c_Md_add_31 (sm_iconst d_Md_add_31 (by decide))) (
  kc_case (P := P) (kc_se c_Md_add_30 (sm_aload_n d_Md_add_30 rfl)) (
  kc_case (P := P) (kc_se c_Md_add_29 (sm_ri d_Md_add_29 rfl)) (
  kc_case (P := P) (kc_se rfl sm_no) (
  kc_case (P := P) (kc_se c_Md_add_27 (sm_bipush d_Md_add_27 (by decide))) (
  kc_case (P := P) (kc_se rfl sm_no) (
  kc_case (P := P) (kc_se rfl sm_no) (
  kc_case (P := P) (kc_se c_Md_add_24 (sm_if_ge d_Md_add_24 (by decide))) (
  kc_case (P := P) (kc_se rfl sm_no) (
  kc_case (P := P) (kc_se rfl sm_no) (
  kc_case (P := P) (kc_se c_Md_add_21 (sm_cv (j := 109) rfl rfl kw_o kw_g wc_Md_find (Nat.le_of_ble_eq_true rfl) hd_Md_find (ci := 10) (F := kF_Md) (N := 52) rfl (kw4 208 rfl rfl) wi_Md_find ws_Md_find wn_Md_find d_Md_add_21)) (
  kc_case (P := P) (kc_se c_Md_add_20 (sm_iconst d_Md_add_20 (by decide))) (
  kc_case (P := P) (kc_se c_Md_add_19 (sm_aload_n d_Md_add_19 rfl)) (
  kc_case (P := P) (kc_se rfl sm_no) (
  kc_case (P := P) (kc_se rfl sm_no) (
  kc_case (P := P) (kc_se c_Md_add_16 (sm_cm_le d_Md_add_16 (by decide))) (
  kc_case (P := P) (kc_se c_Md_add_15 (sm_iconst d_Md_add_15 (by decide))) (
  kc_case (P := P) (kc_se rfl sm_no) (
  kc_case (P := P) (kc_se rfl sm_no) (
  kc_case (P := P) (kc_se c_Md_add_12 (sm_get (ci := 10) (C := "DirectoryDeskModel") (F := kF_Md) rfl kin_Md (Nat.le_of_ble_eq_true rfl) d_Md_add_12 (kw3 203 rfl rfl))) (
  kc_case (P := P) (kc_se c_Md_add_11 (sm_aload_n d_Md_add_11 rfl)) (
  kc_case (P := P) (kc_se c_Md_add_10 (sm_ri d_Md_add_10 rfl)) (
  kc_case (P := P) (kc_se rfl sm_no) (
  kc_case (P := P) (kc_se c_Md_add_8 (sm_bipush d_Md_add_8 (by decide))) (
  kc_case (P := P) (kc_se rfl sm_no) (
  kc_case (P := P) (kc_se rfl sm_no) (
  kc_case (P := P) (kc_se c_Md_add_5 (sm_if_lt d_Md_add_5 (by decide))) (
  kc_case (P := P) (kc_se rfl sm_no) (
  kc_case (P := P) (kc_se rfl sm_no) (
  kc_case (P := P) (kc_se c_Md_add_2 (sm_cv (j := 109) rfl rfl kw_o kw_g wc_Md_find (Nat.le_of_ble_eq_true rfl) hd_Md_find (ci := 10) (F := kF_Md) (N := 52) rfl (kw4 208 rfl rfl) wi_Md_find ws_Md_find wn_Md_find d_Md_add_2)) (
  kc_case (P := P) (kc_se c_Md_add_1 (sm_iconst d_Md_add_1 (by decide))) (
  kc_case (P := P) (kc_se c_Md_add_0 (sm_aload_n d_Md_add_0 rfl)) (
  kc_case0))))))))))))))))))))))))))))))))))))))))))))))))))))))))))))
set_option maxRecDepth 100000 in
set_option maxHeartbeats 4000000 in
theorem s_Md_add_120 : ∀ pc, pc < 120 → kc_Sim kt kw_A kw_N kt_cl kt_En "DirectoryDeskModel" prog_12_method_35_code 3 (some .int) "add" none pc (ct_Md_add pc) := by
  let P : Nat → Prop := fun pc => kc_Sim kt kw_A kw_N kt_cl kt_En "DirectoryDeskModel" prog_12_method_35_code 3 (some .int) "add" none pc (ct_Md_add pc)
  exact kc_case (P := P) (kc_se c_Md_add_119 (sm_iast d_Md_add_119)) (
  kc_case (P := P) (kc_se rfl sm_no) (
  kc_case (P := P) (kc_se rfl sm_no) (
  kc_case (P := P) (kc_se c_Md_add_116 (sm_get (ci := 10) (C := "DirectoryDeskModel") (F := kF_Md) rfl kin_Md (Nat.le_of_ble_eq_true rfl) d_Md_add_116 (kw3 203 rfl rfl))) (
  kc_case (P := P) (kc_se c_Md_add_115 (sm_aload_n d_Md_add_115 rfl)) (
  kc_case (P := P) (kc_se rfl sm_no) (
  kc_case (P := P) (kc_se rfl sm_no) (
  kc_case (P := P) (kc_se c_Md_add_112 (sm_get (ci := 10) (C := "DirectoryDeskModel") (F := kF_Md) rfl kin_Md (Nat.le_of_ble_eq_true rfl) d_Md_add_112 (kw3 189 rfl rfl))) (
  kc_case (P := P) (kc_se c_Md_add_111 (sm_aload_n d_Md_add_111 rfl)) (
  kc_case (P := P) (kc_se rfl sm_no) (
  kc_case (P := P) (kc_se rfl sm_no) (
  kc_case (P := P) (kc_se c_Md_add_108 (sm_get (ci := 10) (C := "DirectoryDeskModel") (F := kF_Md) rfl kin_Md (Nat.le_of_ble_eq_true rfl) d_Md_add_108 (kw3 190 rfl rfl))) (
  kc_case (P := P) (kc_se c_Md_add_107 (sm_aload_n d_Md_add_107 rfl)) (
  kc_case (P := P) (kc_se c_Md_add_106 (sm_ri d_Md_add_106 rfl)) (
  kc_case (P := P) (kc_se rfl sm_no) (
  kc_case (P := P) (kc_se c_Md_add_104 (sm_bipush d_Md_add_104 (by decide))) (
  kc_case (P := P) (kc_se rfl sm_no) (
  kc_case (P := P) (kc_se rfl sm_no) (
  kc_case (P := P) (kc_se c_Md_add_101 (sm_cm_le d_Md_add_101 (by decide))) (
  kc_case (P := P) (kc_se rfl sm_no) (
  kc_case (P := P) (kc_se c_Md_add_99 (sm_bipush d_Md_add_99 (by decide))) (
  kc_case (P := P) (kc_se rfl sm_no) (
  kc_case (P := P) (kc_se rfl sm_no) (
  kc_case (P := P) (kc_se c_Md_add_96 (sm_get (ci := 10) (C := "DirectoryDeskModel") (F := kF_Md) rfl kin_Md (Nat.le_of_ble_eq_true rfl) d_Md_add_96 (kw3 232 rfl rfl))) (
  kc_case (P := P) (kc_se c_Md_add_95 (sm_aload_n d_Md_add_95 rfl)) (
  kc_case (P := P) (kc_se rfl sm_no) (
  kc_case (P := P) (kc_se rfl sm_no) (
  kc_case (P := P) (kc_se c_Md_add_92 (sm_cm_eq d_Md_add_92 (by decide))) (
  kc_case (P := P) (kc_se rfl sm_no) (
  kc_case (P := P) (kc_se c_Md_add_90 (sm_bipush d_Md_add_90 (by decide))) (
  kc_case (P := P) (kc_se rfl sm_no) (
  kc_case (P := P) (kc_se rfl sm_no) (
  kc_case (P := P) (kc_se c_Md_add_87 (sm_get (ci := 10) (C := "DirectoryDeskModel") (F := kF_Md) rfl kin_Md (Nat.le_of_ble_eq_true rfl) d_Md_add_87 (kw3 189 rfl rfl))) (
  kc_case (P := P) (kc_se c_Md_add_86 (sm_aload_n d_Md_add_86 rfl)) (
  kc_case (P := P) (kc_se c_Md_add_85 (sm_ri d_Md_add_85 rfl)) (
  kc_case (P := P) (kc_se rfl sm_no) (
  kc_case (P := P) (kc_se c_Md_add_83 (sm_bipush d_Md_add_83 (by decide))) (
  kc_case (P := P) (kc_se rfl sm_no) (
  kc_case (P := P) (kc_se rfl sm_no) (
  kc_case (P := P) (kc_se c_Md_add_80 (sm_if_ge d_Md_add_80 (by decide))) (
  kc_case (P := P) (kc_se rfl sm_no) (
  kc_case (P := P) (kc_se rfl sm_no) (
  kc_case (P := P) (kc_se c_Md_add_77 (sm_cv (j := 123) rfl rfl kw_o kw_g wc_Md_workAt (Nat.le_of_ble_eq_true rfl) hd_Md_workAt (ci := 10) (F := kF_Md) (N := 52) rfl (kw5 52 rfl rfl) wi_Md_workAt ws_Md_workAt wn_Md_workAt d_Md_add_77)) (
  kc_case (P := P) (kc_se c_Md_add_76 (sm_lald d_Md_add_76)) (
  kc_case (P := P) (kc_se c_Md_add_75 (sm_iconst d_Md_add_75 (by decide))) (
  kc_case (P := P) (kc_se rfl sm_no) (
  kc_case (P := P) (kc_se rfl sm_no) (
  kc_case (P := P) (kc_se c_Md_add_72 (sm_get (ci := 10) (C := "DirectoryDeskModel") (F := kF_Md) rfl kin_Md (Nat.le_of_ble_eq_true rfl) d_Md_add_72 (kw3 205 rfl rfl))) (
  kc_case (P := P) (kc_se c_Md_add_71 (sm_aload_n d_Md_add_71 rfl)) (
  kc_case (P := P) (kc_se c_Md_add_70 (sm_iald d_Md_add_70)) (
  kc_case (P := P) (kc_se c_Md_add_69 (sm_iconst d_Md_add_69 (by decide))) (
  kc_case (P := P) (kc_se rfl sm_no) (
  kc_case (P := P) (kc_se rfl sm_no) (
  kc_case (P := P) (kc_se c_Md_add_66 (sm_get (ci := 10) (C := "DirectoryDeskModel") (F := kF_Md) rfl kin_Md (Nat.le_of_ble_eq_true rfl) d_Md_add_66 (kw3 204 rfl rfl))) (
  kc_case (P := P) (kc_se c_Md_add_65 (sm_aload_n d_Md_add_65 rfl)) (
  kc_case (P := P) (kc_se c_Md_add_64 (sm_aload_n d_Md_add_64 rfl)) (
  kc_case (P := P) (kc_se rfl sm_no) (
  kc_case (P := P) (kc_se rfl sm_no) (
  kc_case (P := P) (kc_se c_Md_add_61 (sm_goto d_Md_add_61 (by decide))) (
  kc_case (P := P) (kc_se rfl sm_no) (
  s_Md_add_60))))))))))))))))))))))))))))))))))))))))))))))))))))))))))))
set_option maxRecDepth 100000 in
set_option maxHeartbeats 4000000 in
theorem s_Md_add_180 : ∀ pc, pc < 180 → kc_Sim kt kw_A kw_N kt_cl kt_En "DirectoryDeskModel" prog_12_method_35_code 3 (some .int) "add" none pc (ct_Md_add pc) := by
  let P : Nat → Prop := fun pc => kc_Sim kt kw_A kw_N kt_cl kt_En "DirectoryDeskModel" prog_12_method_35_code 3 (some .int) "add" none pc (ct_Md_add pc)
  exact kc_case (P := P) (kc_se c_Md_add_179 (sm_cv (j := 127) rfl rfl kw_o kw_g wc_Md_settle (Nat.le_of_ble_eq_true rfl) hd_Md_settle (ci := 10) (F := kF_Md) (N := 52) rfl (kw5 60 rfl rfl) wi_Md_settle ws_Md_settle wn_Md_settle d_Md_add_179)) (
  kc_case (P := P) (kc_se rfl sm_no) (
  kc_case (P := P) (kc_se rfl sm_no) (
  kc_case (P := P) (kc_se c_Md_add_176 (sm_get (ci := 10) (C := "DirectoryDeskModel") (F := kF_Md) rfl kin_Md (Nat.le_of_ble_eq_true rfl) d_Md_add_176 (kw3 189 rfl rfl))) (
  kc_case (P := P) (kc_se c_Md_add_175 (sm_aload_n d_Md_add_175 rfl)) (
  kc_case (P := P) (kc_se c_Md_add_174 (sm_aload_n d_Md_add_174 rfl)) (
  kc_case (P := P) (kc_se rfl sm_no) (
  kc_case (P := P) (kc_se rfl sm_no) (
  kc_case (P := P) (kc_se c_Md_add_171 (sm_goto d_Md_add_171 (by decide))) (
  kc_case (P := P) (kc_se rfl sm_no) (
  kc_case (P := P) (kc_se rfl sm_no) (
  kc_case (P := P) (kc_se c_Md_add_168 (sm_inc d_Md_add_168 (by decide) (Nat.le_of_ble_eq_true rfl))) (
  kc_case (P := P) (kc_se c_Md_add_167 (sm_last d_Md_add_167)) (
  kc_case (P := P) (kc_se c_Md_add_166 (sm_lald d_Md_add_166)) (
  kc_case (P := P) (kc_se c_Md_add_165 (sm_iload_n d_Md_add_165 rfl)) (
  kc_case (P := P) (kc_se rfl sm_no) (
  kc_case (P := P) (kc_se rfl sm_no) (
  kc_case (P := P) (kc_se c_Md_add_162 (sm_get (ci := 10) (C := "DirectoryDeskModel") (F := kF_Md) rfl kin_Md (Nat.le_of_ble_eq_true rfl) d_Md_add_162 (kw3 205 rfl rfl))) (
  kc_case (P := P) (kc_se c_Md_add_161 (sm_aload_n d_Md_add_161 rfl)) (
  kc_case (P := P) (kc_se c_Md_add_160 (sm_iadd d_Md_add_160)) (
  kc_case (P := P) (kc_se c_Md_add_159 (sm_iload_n d_Md_add_159 rfl)) (
  kc_case (P := P) (kc_se c_Md_add_158 (sm_imul d_Md_add_158)) (
  kc_case (P := P) (kc_se rfl sm_no) (
  kc_case (P := P) (kc_se rfl sm_no) (
  kc_case (P := P) (kc_se c_Md_add_155 (sm_get (ci := 10) (C := "DirectoryDeskModel") (F := kF_Md) rfl kin_Md (Nat.le_of_ble_eq_true rfl) d_Md_add_155 (kw3 189 rfl rfl))) (
  kc_case (P := P) (kc_se c_Md_add_154 (sm_aload_n d_Md_add_154 rfl)) (
  kc_case (P := P) (kc_se c_Md_add_153 (sm_iconst d_Md_add_153 (by decide))) (
  kc_case (P := P) (kc_se rfl sm_no) (
  kc_case (P := P) (kc_se rfl sm_no) (
  kc_case (P := P) (kc_se c_Md_add_150 (sm_get (ci := 10) (C := "DirectoryDeskModel") (F := kF_Md) rfl kin_Md (Nat.le_of_ble_eq_true rfl) d_Md_add_150 (kw3 192 rfl rfl))) (
  kc_case (P := P) (kc_se c_Md_add_149 (sm_aload_n d_Md_add_149 rfl)) (
  kc_case (P := P) (kc_se c_Md_add_148 (sm_iast d_Md_add_148)) (
  kc_case (P := P) (kc_se c_Md_add_147 (sm_iald d_Md_add_147)) (
  kc_case (P := P) (kc_se c_Md_add_146 (sm_iload_n d_Md_add_146 rfl)) (
  kc_case (P := P) (kc_se rfl sm_no) (
  kc_case (P := P) (kc_se rfl sm_no) (
  kc_case (P := P) (kc_se c_Md_add_143 (sm_get (ci := 10) (C := "DirectoryDeskModel") (F := kF_Md) rfl kin_Md (Nat.le_of_ble_eq_true rfl) d_Md_add_143 (kw3 204 rfl rfl))) (
  kc_case (P := P) (kc_se c_Md_add_142 (sm_aload_n d_Md_add_142 rfl)) (
  kc_case (P := P) (kc_se c_Md_add_141 (sm_iadd d_Md_add_141)) (
  kc_case (P := P) (kc_se c_Md_add_140 (sm_iload_n d_Md_add_140 rfl)) (
  kc_case (P := P) (kc_se c_Md_add_139 (sm_imul d_Md_add_139)) (
  kc_case (P := P) (kc_se rfl sm_no) (
  kc_case (P := P) (kc_se rfl sm_no) (
  kc_case (P := P) (kc_se c_Md_add_136 (sm_get (ci := 10) (C := "DirectoryDeskModel") (F := kF_Md) rfl kin_Md (Nat.le_of_ble_eq_true rfl) d_Md_add_136 (kw3 189 rfl rfl))) (
  kc_case (P := P) (kc_se c_Md_add_135 (sm_aload_n d_Md_add_135 rfl)) (
  kc_case (P := P) (kc_se c_Md_add_134 (sm_iconst d_Md_add_134 (by decide))) (
  kc_case (P := P) (kc_se rfl sm_no) (
  kc_case (P := P) (kc_se rfl sm_no) (
  kc_case (P := P) (kc_se c_Md_add_131 (sm_get (ci := 10) (C := "DirectoryDeskModel") (F := kF_Md) rfl kin_Md (Nat.le_of_ble_eq_true rfl) d_Md_add_131 (kw3 191 rfl rfl))) (
  kc_case (P := P) (kc_se c_Md_add_130 (sm_aload_n d_Md_add_130 rfl)) (
  kc_case (P := P) (kc_se rfl sm_no) (
  kc_case (P := P) (kc_se rfl sm_no) (
  kc_case (P := P) (kc_se c_Md_add_127 (sm_cm_ge d_Md_add_127 (by decide))) (
  kc_case (P := P) (kc_se rfl sm_no) (
  kc_case (P := P) (kc_se rfl sm_no) (
  kc_case (P := P) (kc_se c_Md_add_124 (sm_get (ci := 10) (C := "DirectoryDeskModel") (F := kF_Md) rfl kin_Md (Nat.le_of_ble_eq_true rfl) d_Md_add_124 (kw3 203 rfl rfl))) (
  kc_case (P := P) (kc_se c_Md_add_123 (sm_aload_n d_Md_add_123 rfl)) (
  kc_case (P := P) (kc_se c_Md_add_122 (sm_iload_n d_Md_add_122 rfl)) (
  kc_case (P := P) (kc_se c_Md_add_121 (sm_istore_n d_Md_add_121 rfl (Nat.le_of_ble_eq_true rfl))) (
  kc_case (P := P) (kc_se c_Md_add_120 (sm_iconst d_Md_add_120 (by decide))) (
  s_Md_add_120))))))))))))))))))))))))))))))))))))))))))))))))))))))))))))
set_option maxRecDepth 100000 in
set_option maxHeartbeats 4000000 in
theorem s_Md_add_194 : ∀ pc, pc < 194 → kc_Sim kt kw_A kw_N kt_cl kt_En "DirectoryDeskModel" prog_12_method_35_code 3 (some .int) "add" none pc (ct_Md_add pc) := by
  let P : Nat → Prop := fun pc => kc_Sim kt kw_A kw_N kt_cl kt_En "DirectoryDeskModel" prog_12_method_35_code 3 (some .int) "add" none pc (ct_Md_add pc)
  exact kc_case (P := P) (kc_se c_Md_add_193 (sm_ri d_Md_add_193 rfl)) (
  kc_case (P := P) (kc_se c_Md_add_192 (sm_iconst d_Md_add_192 (by decide))) (
  kc_case (P := P) (kc_se rfl sm_no) (
  kc_case (P := P) (kc_se rfl sm_no) (
  kc_case (P := P) (kc_se c_Md_add_189 (sm_put (ci := 10) (C := "DirectoryDeskModel") (F := kF_Md) rfl kin_Md kty_Md ktk_Md knm_Md (Nat.le_of_ble_eq_true rfl) (by decide +kernel) d_Md_add_189 (kw3 189 rfl rfl) rfl)) (
  kc_case (P := P) (kc_se c_Md_add_188 (sm_iadd d_Md_add_188)) (
  kc_case (P := P) (kc_se c_Md_add_187 (sm_iconst d_Md_add_187 (by decide))) (
  kc_case (P := P) (kc_se rfl sm_no) (
  kc_case (P := P) (kc_se rfl sm_no) (
  kc_case (P := P) (kc_se c_Md_add_184 (sm_get (ci := 10) (C := "DirectoryDeskModel") (F := kF_Md) rfl kin_Md (Nat.le_of_ble_eq_true rfl) d_Md_add_184 (kw3 189 rfl rfl))) (
  kc_case (P := P) (kc_se c_Md_add_183 (sm_dup d_Md_add_183)) (
  kc_case (P := P) (kc_se c_Md_add_182 (sm_aload_n d_Md_add_182 rfl)) (
  kc_case (P := P) (kc_se rfl sm_no) (
  kc_case (P := P) (kc_se rfl sm_no) (
  s_Md_add_180))))))))))))))
set_option maxRecDepth 100000 in
theorem ka_nth_no_Md_add (pc : Nat) (h : 194 ≤ pc) : ct_Md_add pc = ka_no := ka_nth_ge _ pc (Nat.le_trans (Nat.le_of_eq (by rfl)) h)
theorem s_Md_add (pc : Nat) : kc_Sim kt kw_A kw_N kt_cl kt_En "DirectoryDeskModel" prog_12_method_35_code 3 (some .int) "add" none pc (ct_Md_add pc) := (Nat.lt_or_ge pc 194).elim (s_Md_add_194 pc) (fun h => kc_se (ka_nth_no_Md_add pc h) sm_no)
def cl_Md_remove_0 : List kc_A := [ka_al 0 1, ka_ci (nI 0) 1, ka_cv 109 1 10 0 0, ka_no, ka_no, ka_is 1 1, ka_il 1 1, ka_if (fun x => 0 ≤ x) 13, ka_no, ka_no, ka_ci (nI 32) 2, ka_no, ka_ri, ka_ci (nI 0) 1, ka_is 2 1, ka_il 2 1, ka_al 0 1, ka_get 10 6, ka_no, ka_no, ka_cm (fun x y => y ≤ x) 42, ka_no, ka_no, ka_al 0 1, ka_il 2 1, ka_il 1 1, ka_ci (nI 1) 1, ka_cv 110 3 10 0 0, ka_no, ka_no, ka_if (fun x => x = 0) 36, ka_no, ka_no, ka_ci (nI 66) 2, ka_no, ka_ri, ka_inc 2 (nI 1), ka_no, ka_no, ka_goto 15, ka_no, ka_no, ka_al 0 1, ka_dup, ka_get 10 6, ka_no, ka_no, ka_ci (nI 1) 1, ka_ii (fun x y => x - y), ka_put 10 6 .int, ka_no, ka_no, ka_il 1 1, ka_is 2 1, ka_il 2 1, ka_al 0 1, ka_get 10 6, ka_no, ka_no, ka_cm (fun x y => y ≤ x) 217]
def cl_Md_remove_1 : List kc_A := [ka_no, ka_no, ka_al 0 1, ka_get 10 7, ka_no, ka_no, ka_il 2 1, ka_al 0 1, ka_get 10 7, ka_no, ka_no, ka_il 2 1, ka_ci (nI 1) 1, ka_ii (fun x y => x + y), ka_iald, ka_iast, ka_al 0 1, ka_get 10 10, ka_no, ka_no, ka_il 2 1, ka_al 0 1, ka_get 10 10, ka_no, ka_no, ka_il 2 1, ka_ci (nI 1) 1, ka_ii (fun x y => x + y), ka_iald, ka_iast, ka_ci (nI 0) 1, ka_is 3 1, ka_il 3 1, ka_ci (nI 4) 1, ka_cm (fun x y => y ≤ x) 147, ka_no, ka_no, ka_al 0 1, ka_get 10 8, ka_no, ka_no, ka_ci (nI 4) 1, ka_il 2 1, ka_ii (fun x y => x * y), ka_il 3 1, ka_ii (fun x y => x + y), ka_al 0 1, ka_get 10 8, ka_no, ka_no, ka_ci (nI 4) 1, ka_il 2 1, ka_ii (fun x y => x * y), ka_ci (nI 4) 1, ka_ii (fun x y => x + y), ka_il 3 1, ka_ii (fun x y => x + y), ka_iald, ka_iast, ka_al 0 1]
def cl_Md_remove_2 : List kc_A := [ka_get 10 9, ka_no, ka_no, ka_ci (nI 4) 1, ka_il 2 1, ka_ii (fun x y => x * y), ka_il 3 1, ka_ii (fun x y => x + y), ka_al 0 1, ka_get 10 9, ka_no, ka_no, ka_ci (nI 4) 1, ka_il 2 1, ka_ii (fun x y => x * y), ka_ci (nI 4) 1, ka_ii (fun x y => x + y), ka_il 3 1, ka_ii (fun x y => x + y), ka_lald, ka_last, ka_inc 3 (nI 1), ka_no, ka_no, ka_goto 92, ka_no, ka_no, ka_ci (nI 0) 1, ka_is 3 1, ka_il 3 1, ka_ci (nI 6) 2, ka_no, ka_cm (fun x y => y ≤ x) 211, ka_no, ka_no, ka_al 0 1, ka_get 10 11, ka_no, ka_no, ka_ci (nI 6) 2, ka_no, ka_il 2 1, ka_ii (fun x y => x * y), ka_il 3 1, ka_ii (fun x y => x + y), ka_al 0 1, ka_get 10 11, ka_no, ka_no, ka_ci (nI 6) 2, ka_no, ka_il 2 1, ka_ii (fun x y => x * y), ka_ci (nI 6) 2, ka_no, ka_ii (fun x y => x + y), ka_il 3 1, ka_ii (fun x y => x + y), ka_iald, ka_iast]
def cl_Md_remove_3 : List kc_A := [ka_al 0 1, ka_get 10 12, ka_no, ka_no, ka_ci (nI 6) 2, ka_no, ka_il 2 1, ka_ii (fun x y => x * y), ka_il 3 1, ka_ii (fun x y => x + y), ka_al 0 1, ka_get 10 12, ka_no, ka_no, ka_ci (nI 6) 2, ka_no, ka_il 2 1, ka_ii (fun x y => x * y), ka_ci (nI 6) 2, ka_no, ka_ii (fun x y => x + y), ka_il 3 1, ka_ii (fun x y => x + y), ka_lald, ka_last, ka_inc 3 (nI 1), ka_no, ka_no, ka_goto 149, ka_no, ka_no, ka_inc 2 (nI 1), ka_no, ka_no, ka_goto 54, ka_no, ka_no, ka_ci (nI 0) 1, ka_ri]
def ct_Md_remove : Nat → kc_A := fun pc => ka_nth (cl_Md_remove_0 ++ (cl_Md_remove_1 ++ (cl_Md_remove_2 ++ (cl_Md_remove_3)))) pc
set_option maxRecDepth 100000 in
theorem c_Md_remove_0 : ct_Md_remove 0 = ka_al 0 1 := rfl
theorem d_Md_remove_0 : decode prog_12_method_36_code 0 = .ok (.aload_n 0, 1) := by decide +kernel
set_option maxRecDepth 100000 in
theorem c_Md_remove_1 : ct_Md_remove 1 = ka_ci (nI 0) 1 := rfl
theorem d_Md_remove_1 : decode prog_12_method_36_code 1 = .ok (.iconst 0, 1) := by decide +kernel
set_option maxRecDepth 100000 in
theorem c_Md_remove_2 : ct_Md_remove 2 = ka_cv 109 1 10 0 0 := rfl
theorem d_Md_remove_2 : decode prog_12_method_36_code 2 = .ok (.invokevirtual 258, 3) := by decide +kernel
set_option maxRecDepth 100000 in
theorem c_Md_remove_5 : ct_Md_remove 5 = ka_is 1 1 := rfl
theorem d_Md_remove_5 : decode prog_12_method_36_code 5 = .ok (.istore_n 1, 1) := by decide +kernel
set_option maxRecDepth 100000 in
theorem c_Md_remove_6 : ct_Md_remove 6 = ka_il 1 1 := rfl
theorem d_Md_remove_6 : decode prog_12_method_36_code 6 = .ok (.iload_n 1, 1) := by decide +kernel
set_option maxRecDepth 100000 in
theorem c_Md_remove_7 : ct_Md_remove 7 = ka_if (fun x => 0 ≤ x) 13 := rfl
theorem d_Md_remove_7 : decode prog_12_method_36_code 7 = .ok (.ifCond .ge 6, 3) := by decide +kernel
set_option maxRecDepth 100000 in
theorem c_Md_remove_10 : ct_Md_remove 10 = ka_ci (nI 32) 2 := rfl
theorem d_Md_remove_10 : decode prog_12_method_36_code 10 = .ok (.bipush 32, 2) := by decide +kernel
set_option maxRecDepth 100000 in
theorem c_Md_remove_12 : ct_Md_remove 12 = ka_ri := rfl
theorem d_Md_remove_12 : decode prog_12_method_36_code 12 = .ok (.ireturn, 1) := by decide +kernel
set_option maxRecDepth 100000 in
theorem c_Md_remove_13 : ct_Md_remove 13 = ka_ci (nI 0) 1 := rfl
theorem d_Md_remove_13 : decode prog_12_method_36_code 13 = .ok (.iconst 0, 1) := by decide +kernel
set_option maxRecDepth 100000 in
theorem c_Md_remove_14 : ct_Md_remove 14 = ka_is 2 1 := rfl
theorem d_Md_remove_14 : decode prog_12_method_36_code 14 = .ok (.istore_n 2, 1) := by decide +kernel
set_option maxRecDepth 100000 in
theorem c_Md_remove_15 : ct_Md_remove 15 = ka_il 2 1 := rfl
theorem d_Md_remove_15 : decode prog_12_method_36_code 15 = .ok (.iload_n 2, 1) := by decide +kernel
set_option maxRecDepth 100000 in
theorem c_Md_remove_16 : ct_Md_remove 16 = ka_al 0 1 := rfl
theorem d_Md_remove_16 : decode prog_12_method_36_code 16 = .ok (.aload_n 0, 1) := by decide +kernel
set_option maxRecDepth 100000 in
theorem c_Md_remove_17 : ct_Md_remove 17 = ka_get 10 6 := rfl
theorem d_Md_remove_17 : decode prog_12_method_36_code 17 = .ok (.getfield 83, 3) := by decide +kernel
set_option maxRecDepth 100000 in
theorem c_Md_remove_20 : ct_Md_remove 20 = ka_cm (fun x y => y ≤ x) 42 := rfl
theorem d_Md_remove_20 : decode prog_12_method_36_code 20 = .ok (.if_icmp .ge 22, 3) := by decide +kernel
set_option maxRecDepth 100000 in
theorem c_Md_remove_23 : ct_Md_remove 23 = ka_al 0 1 := rfl
theorem d_Md_remove_23 : decode prog_12_method_36_code 23 = .ok (.aload_n 0, 1) := by decide +kernel
set_option maxRecDepth 100000 in
theorem c_Md_remove_24 : ct_Md_remove 24 = ka_il 2 1 := rfl
theorem d_Md_remove_24 : decode prog_12_method_36_code 24 = .ok (.iload_n 2, 1) := by decide +kernel
set_option maxRecDepth 100000 in
theorem c_Md_remove_25 : ct_Md_remove 25 = ka_il 1 1 := rfl
theorem d_Md_remove_25 : decode prog_12_method_36_code 25 = .ok (.iload_n 1, 1) := by decide +kernel
set_option maxRecDepth 100000 in
theorem c_Md_remove_26 : ct_Md_remove 26 = ka_ci (nI 1) 1 := rfl
theorem d_Md_remove_26 : decode prog_12_method_36_code 26 = .ok (.iconst 1, 1) := by decide +kernel
set_option maxRecDepth 100000 in
theorem c_Md_remove_27 : ct_Md_remove 27 = ka_cv 110 3 10 0 0 := rfl
theorem d_Md_remove_27 : decode prog_12_method_36_code 27 = .ok (.invokevirtual 267, 3) := by decide +kernel
set_option maxRecDepth 100000 in
theorem c_Md_remove_30 : ct_Md_remove 30 = ka_if (fun x => x = 0) 36 := rfl
theorem d_Md_remove_30 : decode prog_12_method_36_code 30 = .ok (.ifCond .eq 6, 3) := by decide +kernel
set_option maxRecDepth 100000 in
theorem c_Md_remove_33 : ct_Md_remove 33 = ka_ci (nI 66) 2 := rfl
theorem d_Md_remove_33 : decode prog_12_method_36_code 33 = .ok (.bipush 66, 2) := by decide +kernel
set_option maxRecDepth 100000 in
theorem c_Md_remove_35 : ct_Md_remove 35 = ka_ri := rfl
theorem d_Md_remove_35 : decode prog_12_method_36_code 35 = .ok (.ireturn, 1) := by decide +kernel
set_option maxRecDepth 100000 in
theorem c_Md_remove_36 : ct_Md_remove 36 = ka_inc 2 (nI 1) := rfl
theorem d_Md_remove_36 : decode prog_12_method_36_code 36 = .ok (.iinc 2 1, 3) := by decide +kernel
set_option maxRecDepth 100000 in
theorem c_Md_remove_39 : ct_Md_remove 39 = ka_goto 15 := rfl
theorem d_Md_remove_39 : decode prog_12_method_36_code 39 = .ok (.goto (-24), 3) := by decide +kernel
set_option maxRecDepth 100000 in
theorem c_Md_remove_42 : ct_Md_remove 42 = ka_al 0 1 := rfl
theorem d_Md_remove_42 : decode prog_12_method_36_code 42 = .ok (.aload_n 0, 1) := by decide +kernel
set_option maxRecDepth 100000 in
theorem c_Md_remove_43 : ct_Md_remove 43 = ka_dup := rfl
theorem d_Md_remove_43 : decode prog_12_method_36_code 43 = .ok (.dup, 1) := by decide +kernel
set_option maxRecDepth 100000 in
theorem c_Md_remove_44 : ct_Md_remove 44 = ka_get 10 6 := rfl
theorem d_Md_remove_44 : decode prog_12_method_36_code 44 = .ok (.getfield 83, 3) := by decide +kernel
set_option maxRecDepth 100000 in
theorem c_Md_remove_47 : ct_Md_remove 47 = ka_ci (nI 1) 1 := rfl
theorem d_Md_remove_47 : decode prog_12_method_36_code 47 = .ok (.iconst 1, 1) := by decide +kernel
set_option maxRecDepth 100000 in
theorem c_Md_remove_48 : ct_Md_remove 48 = ka_ii (fun x y => x - y) := rfl
theorem d_Md_remove_48 : decode prog_12_method_36_code 48 = .ok (.isub, 1) := by decide +kernel
set_option maxRecDepth 100000 in
theorem c_Md_remove_49 : ct_Md_remove 49 = ka_put 10 6 .int := rfl
theorem d_Md_remove_49 : decode prog_12_method_36_code 49 = .ok (.putfield 83, 3) := by decide +kernel
set_option maxRecDepth 100000 in
theorem c_Md_remove_52 : ct_Md_remove 52 = ka_il 1 1 := rfl
theorem d_Md_remove_52 : decode prog_12_method_36_code 52 = .ok (.iload_n 1, 1) := by decide +kernel
set_option maxRecDepth 100000 in
theorem c_Md_remove_53 : ct_Md_remove 53 = ka_is 2 1 := rfl
theorem d_Md_remove_53 : decode prog_12_method_36_code 53 = .ok (.istore_n 2, 1) := by decide +kernel
set_option maxRecDepth 100000 in
theorem c_Md_remove_54 : ct_Md_remove 54 = ka_il 2 1 := rfl
theorem d_Md_remove_54 : decode prog_12_method_36_code 54 = .ok (.iload_n 2, 1) := by decide +kernel
set_option maxRecDepth 100000 in
theorem c_Md_remove_55 : ct_Md_remove 55 = ka_al 0 1 := rfl
theorem d_Md_remove_55 : decode prog_12_method_36_code 55 = .ok (.aload_n 0, 1) := by decide +kernel
set_option maxRecDepth 100000 in
theorem c_Md_remove_56 : ct_Md_remove 56 = ka_get 10 6 := rfl
theorem d_Md_remove_56 : decode prog_12_method_36_code 56 = .ok (.getfield 83, 3) := by decide +kernel
set_option maxRecDepth 100000 in
theorem c_Md_remove_59 : ct_Md_remove 59 = ka_cm (fun x y => y ≤ x) 217 := rfl
theorem d_Md_remove_59 : decode prog_12_method_36_code 59 = .ok (.if_icmp .ge 158, 3) := by decide +kernel
set_option maxRecDepth 100000 in
theorem c_Md_remove_62 : ct_Md_remove 62 = ka_al 0 1 := rfl
theorem d_Md_remove_62 : decode prog_12_method_36_code 62 = .ok (.aload_n 0, 1) := by decide +kernel
set_option maxRecDepth 100000 in
theorem c_Md_remove_63 : ct_Md_remove 63 = ka_get 10 7 := rfl
theorem d_Md_remove_63 : decode prog_12_method_36_code 63 = .ok (.getfield 16, 3) := by decide +kernel
set_option maxRecDepth 100000 in
theorem c_Md_remove_66 : ct_Md_remove 66 = ka_il 2 1 := rfl
theorem d_Md_remove_66 : decode prog_12_method_36_code 66 = .ok (.iload_n 2, 1) := by decide +kernel
set_option maxRecDepth 100000 in
theorem c_Md_remove_67 : ct_Md_remove 67 = ka_al 0 1 := rfl
theorem d_Md_remove_67 : decode prog_12_method_36_code 67 = .ok (.aload_n 0, 1) := by decide +kernel
set_option maxRecDepth 100000 in
theorem c_Md_remove_68 : ct_Md_remove 68 = ka_get 10 7 := rfl
theorem d_Md_remove_68 : decode prog_12_method_36_code 68 = .ok (.getfield 16, 3) := by decide +kernel
set_option maxRecDepth 100000 in
theorem c_Md_remove_71 : ct_Md_remove 71 = ka_il 2 1 := rfl
theorem d_Md_remove_71 : decode prog_12_method_36_code 71 = .ok (.iload_n 2, 1) := by decide +kernel
set_option maxRecDepth 100000 in
theorem c_Md_remove_72 : ct_Md_remove 72 = ka_ci (nI 1) 1 := rfl
theorem d_Md_remove_72 : decode prog_12_method_36_code 72 = .ok (.iconst 1, 1) := by decide +kernel
set_option maxRecDepth 100000 in
theorem c_Md_remove_73 : ct_Md_remove 73 = ka_ii (fun x y => x + y) := rfl
theorem d_Md_remove_73 : decode prog_12_method_36_code 73 = .ok (.iadd, 1) := by decide +kernel
set_option maxRecDepth 100000 in
theorem c_Md_remove_74 : ct_Md_remove 74 = ka_iald := rfl
theorem d_Md_remove_74 : decode prog_12_method_36_code 74 = .ok (.iaload, 1) := by decide +kernel
set_option maxRecDepth 100000 in
theorem c_Md_remove_75 : ct_Md_remove 75 = ka_iast := rfl
theorem d_Md_remove_75 : decode prog_12_method_36_code 75 = .ok (.iastore, 1) := by decide +kernel
set_option maxRecDepth 100000 in
theorem c_Md_remove_76 : ct_Md_remove 76 = ka_al 0 1 := rfl
theorem d_Md_remove_76 : decode prog_12_method_36_code 76 = .ok (.aload_n 0, 1) := by decide +kernel
set_option maxRecDepth 100000 in
theorem c_Md_remove_77 : ct_Md_remove 77 = ka_get 10 10 := rfl
theorem d_Md_remove_77 : decode prog_12_method_36_code 77 = .ok (.getfield 26, 3) := by decide +kernel
set_option maxRecDepth 100000 in
theorem c_Md_remove_80 : ct_Md_remove 80 = ka_il 2 1 := rfl
theorem d_Md_remove_80 : decode prog_12_method_36_code 80 = .ok (.iload_n 2, 1) := by decide +kernel
set_option maxRecDepth 100000 in
theorem c_Md_remove_81 : ct_Md_remove 81 = ka_al 0 1 := rfl
theorem d_Md_remove_81 : decode prog_12_method_36_code 81 = .ok (.aload_n 0, 1) := by decide +kernel
set_option maxRecDepth 100000 in
theorem c_Md_remove_82 : ct_Md_remove 82 = ka_get 10 10 := rfl
theorem d_Md_remove_82 : decode prog_12_method_36_code 82 = .ok (.getfield 26, 3) := by decide +kernel
set_option maxRecDepth 100000 in
theorem c_Md_remove_85 : ct_Md_remove 85 = ka_il 2 1 := rfl
theorem d_Md_remove_85 : decode prog_12_method_36_code 85 = .ok (.iload_n 2, 1) := by decide +kernel
set_option maxRecDepth 100000 in
theorem c_Md_remove_86 : ct_Md_remove 86 = ka_ci (nI 1) 1 := rfl
theorem d_Md_remove_86 : decode prog_12_method_36_code 86 = .ok (.iconst 1, 1) := by decide +kernel
set_option maxRecDepth 100000 in
theorem c_Md_remove_87 : ct_Md_remove 87 = ka_ii (fun x y => x + y) := rfl
theorem d_Md_remove_87 : decode prog_12_method_36_code 87 = .ok (.iadd, 1) := by decide +kernel
set_option maxRecDepth 100000 in
theorem c_Md_remove_88 : ct_Md_remove 88 = ka_iald := rfl
theorem d_Md_remove_88 : decode prog_12_method_36_code 88 = .ok (.iaload, 1) := by decide +kernel
set_option maxRecDepth 100000 in
theorem c_Md_remove_89 : ct_Md_remove 89 = ka_iast := rfl
theorem d_Md_remove_89 : decode prog_12_method_36_code 89 = .ok (.iastore, 1) := by decide +kernel
set_option maxRecDepth 100000 in
theorem c_Md_remove_90 : ct_Md_remove 90 = ka_ci (nI 0) 1 := rfl
theorem d_Md_remove_90 : decode prog_12_method_36_code 90 = .ok (.iconst 0, 1) := by decide +kernel
set_option maxRecDepth 100000 in
theorem c_Md_remove_91 : ct_Md_remove 91 = ka_is 3 1 := rfl
theorem d_Md_remove_91 : decode prog_12_method_36_code 91 = .ok (.istore_n 3, 1) := by decide +kernel
set_option maxRecDepth 100000 in
theorem c_Md_remove_92 : ct_Md_remove 92 = ka_il 3 1 := rfl
theorem d_Md_remove_92 : decode prog_12_method_36_code 92 = .ok (.iload_n 3, 1) := by decide +kernel
set_option maxRecDepth 100000 in
theorem c_Md_remove_93 : ct_Md_remove 93 = ka_ci (nI 4) 1 := rfl
theorem d_Md_remove_93 : decode prog_12_method_36_code 93 = .ok (.iconst 4, 1) := by decide +kernel
set_option maxRecDepth 100000 in
theorem c_Md_remove_94 : ct_Md_remove 94 = ka_cm (fun x y => y ≤ x) 147 := rfl
theorem d_Md_remove_94 : decode prog_12_method_36_code 94 = .ok (.if_icmp .ge 53, 3) := by decide +kernel
set_option maxRecDepth 100000 in
theorem c_Md_remove_97 : ct_Md_remove 97 = ka_al 0 1 := rfl
theorem d_Md_remove_97 : decode prog_12_method_36_code 97 = .ok (.aload_n 0, 1) := by decide +kernel
set_option maxRecDepth 100000 in
theorem c_Md_remove_98 : ct_Md_remove 98 = ka_get 10 8 := rfl
theorem d_Md_remove_98 : decode prog_12_method_36_code 98 = .ok (.getfield 19, 3) := by decide +kernel
set_option maxRecDepth 100000 in
theorem c_Md_remove_101 : ct_Md_remove 101 = ka_ci (nI 4) 1 := rfl
theorem d_Md_remove_101 : decode prog_12_method_36_code 101 = .ok (.iconst 4, 1) := by decide +kernel
set_option maxRecDepth 100000 in
theorem c_Md_remove_102 : ct_Md_remove 102 = ka_il 2 1 := rfl
theorem d_Md_remove_102 : decode prog_12_method_36_code 102 = .ok (.iload_n 2, 1) := by decide +kernel
set_option maxRecDepth 100000 in
theorem c_Md_remove_103 : ct_Md_remove 103 = ka_ii (fun x y => x * y) := rfl
theorem d_Md_remove_103 : decode prog_12_method_36_code 103 = .ok (.imul, 1) := by decide +kernel
set_option maxRecDepth 100000 in
theorem c_Md_remove_104 : ct_Md_remove 104 = ka_il 3 1 := rfl
theorem d_Md_remove_104 : decode prog_12_method_36_code 104 = .ok (.iload_n 3, 1) := by decide +kernel
set_option maxRecDepth 100000 in
theorem c_Md_remove_105 : ct_Md_remove 105 = ka_ii (fun x y => x + y) := rfl
theorem d_Md_remove_105 : decode prog_12_method_36_code 105 = .ok (.iadd, 1) := by decide +kernel
set_option maxRecDepth 100000 in
theorem c_Md_remove_106 : ct_Md_remove 106 = ka_al 0 1 := rfl
theorem d_Md_remove_106 : decode prog_12_method_36_code 106 = .ok (.aload_n 0, 1) := by decide +kernel
set_option maxRecDepth 100000 in
theorem c_Md_remove_107 : ct_Md_remove 107 = ka_get 10 8 := rfl
theorem d_Md_remove_107 : decode prog_12_method_36_code 107 = .ok (.getfield 19, 3) := by decide +kernel
set_option maxRecDepth 100000 in
theorem c_Md_remove_110 : ct_Md_remove 110 = ka_ci (nI 4) 1 := rfl
theorem d_Md_remove_110 : decode prog_12_method_36_code 110 = .ok (.iconst 4, 1) := by decide +kernel
set_option maxRecDepth 100000 in
theorem c_Md_remove_111 : ct_Md_remove 111 = ka_il 2 1 := rfl
theorem d_Md_remove_111 : decode prog_12_method_36_code 111 = .ok (.iload_n 2, 1) := by decide +kernel
set_option maxRecDepth 100000 in
theorem c_Md_remove_112 : ct_Md_remove 112 = ka_ii (fun x y => x * y) := rfl
theorem d_Md_remove_112 : decode prog_12_method_36_code 112 = .ok (.imul, 1) := by decide +kernel
set_option maxRecDepth 100000 in
theorem c_Md_remove_113 : ct_Md_remove 113 = ka_ci (nI 4) 1 := rfl
theorem d_Md_remove_113 : decode prog_12_method_36_code 113 = .ok (.iconst 4, 1) := by decide +kernel
set_option maxRecDepth 100000 in
theorem c_Md_remove_114 : ct_Md_remove 114 = ka_ii (fun x y => x + y) := rfl
theorem d_Md_remove_114 : decode prog_12_method_36_code 114 = .ok (.iadd, 1) := by decide +kernel
set_option maxRecDepth 100000 in
theorem c_Md_remove_115 : ct_Md_remove 115 = ka_il 3 1 := rfl
theorem d_Md_remove_115 : decode prog_12_method_36_code 115 = .ok (.iload_n 3, 1) := by decide +kernel
set_option maxRecDepth 100000 in
theorem c_Md_remove_116 : ct_Md_remove 116 = ka_ii (fun x y => x + y) := rfl
theorem d_Md_remove_116 : decode prog_12_method_36_code 116 = .ok (.iadd, 1) := by decide +kernel
set_option maxRecDepth 100000 in
theorem c_Md_remove_117 : ct_Md_remove 117 = ka_iald := rfl
theorem d_Md_remove_117 : decode prog_12_method_36_code 117 = .ok (.iaload, 1) := by decide +kernel
set_option maxRecDepth 100000 in
theorem c_Md_remove_118 : ct_Md_remove 118 = ka_iast := rfl
theorem d_Md_remove_118 : decode prog_12_method_36_code 118 = .ok (.iastore, 1) := by decide +kernel
set_option maxRecDepth 100000 in
theorem c_Md_remove_119 : ct_Md_remove 119 = ka_al 0 1 := rfl
theorem d_Md_remove_119 : decode prog_12_method_36_code 119 = .ok (.aload_n 0, 1) := by decide +kernel
set_option maxRecDepth 100000 in
theorem c_Md_remove_120 : ct_Md_remove 120 = ka_get 10 9 := rfl
theorem d_Md_remove_120 : decode prog_12_method_36_code 120 = .ok (.getfield 22, 3) := by decide +kernel
set_option maxRecDepth 100000 in
theorem c_Md_remove_123 : ct_Md_remove 123 = ka_ci (nI 4) 1 := rfl
theorem d_Md_remove_123 : decode prog_12_method_36_code 123 = .ok (.iconst 4, 1) := by decide +kernel
set_option maxRecDepth 100000 in
theorem c_Md_remove_124 : ct_Md_remove 124 = ka_il 2 1 := rfl
theorem d_Md_remove_124 : decode prog_12_method_36_code 124 = .ok (.iload_n 2, 1) := by decide +kernel
set_option maxRecDepth 100000 in
theorem c_Md_remove_125 : ct_Md_remove 125 = ka_ii (fun x y => x * y) := rfl
theorem d_Md_remove_125 : decode prog_12_method_36_code 125 = .ok (.imul, 1) := by decide +kernel
set_option maxRecDepth 100000 in
theorem c_Md_remove_126 : ct_Md_remove 126 = ka_il 3 1 := rfl
theorem d_Md_remove_126 : decode prog_12_method_36_code 126 = .ok (.iload_n 3, 1) := by decide +kernel
set_option maxRecDepth 100000 in
theorem c_Md_remove_127 : ct_Md_remove 127 = ka_ii (fun x y => x + y) := rfl
theorem d_Md_remove_127 : decode prog_12_method_36_code 127 = .ok (.iadd, 1) := by decide +kernel
set_option maxRecDepth 100000 in
theorem c_Md_remove_128 : ct_Md_remove 128 = ka_al 0 1 := rfl
theorem d_Md_remove_128 : decode prog_12_method_36_code 128 = .ok (.aload_n 0, 1) := by decide +kernel
set_option maxRecDepth 100000 in
theorem c_Md_remove_129 : ct_Md_remove 129 = ka_get 10 9 := rfl
theorem d_Md_remove_129 : decode prog_12_method_36_code 129 = .ok (.getfield 22, 3) := by decide +kernel
set_option maxRecDepth 100000 in
theorem c_Md_remove_132 : ct_Md_remove 132 = ka_ci (nI 4) 1 := rfl
theorem d_Md_remove_132 : decode prog_12_method_36_code 132 = .ok (.iconst 4, 1) := by decide +kernel
set_option maxRecDepth 100000 in
theorem c_Md_remove_133 : ct_Md_remove 133 = ka_il 2 1 := rfl
theorem d_Md_remove_133 : decode prog_12_method_36_code 133 = .ok (.iload_n 2, 1) := by decide +kernel
set_option maxRecDepth 100000 in
theorem c_Md_remove_134 : ct_Md_remove 134 = ka_ii (fun x y => x * y) := rfl
theorem d_Md_remove_134 : decode prog_12_method_36_code 134 = .ok (.imul, 1) := by decide +kernel
set_option maxRecDepth 100000 in
theorem c_Md_remove_135 : ct_Md_remove 135 = ka_ci (nI 4) 1 := rfl
theorem d_Md_remove_135 : decode prog_12_method_36_code 135 = .ok (.iconst 4, 1) := by decide +kernel
set_option maxRecDepth 100000 in
theorem c_Md_remove_136 : ct_Md_remove 136 = ka_ii (fun x y => x + y) := rfl
theorem d_Md_remove_136 : decode prog_12_method_36_code 136 = .ok (.iadd, 1) := by decide +kernel
set_option maxRecDepth 100000 in
theorem c_Md_remove_137 : ct_Md_remove 137 = ka_il 3 1 := rfl
theorem d_Md_remove_137 : decode prog_12_method_36_code 137 = .ok (.iload_n 3, 1) := by decide +kernel
set_option maxRecDepth 100000 in
theorem c_Md_remove_138 : ct_Md_remove 138 = ka_ii (fun x y => x + y) := rfl
theorem d_Md_remove_138 : decode prog_12_method_36_code 138 = .ok (.iadd, 1) := by decide +kernel
set_option maxRecDepth 100000 in
theorem c_Md_remove_139 : ct_Md_remove 139 = ka_lald := rfl
theorem d_Md_remove_139 : decode prog_12_method_36_code 139 = .ok (.laload, 1) := by decide +kernel
set_option maxRecDepth 100000 in
theorem c_Md_remove_140 : ct_Md_remove 140 = ka_last := rfl
theorem d_Md_remove_140 : decode prog_12_method_36_code 140 = .ok (.lastore, 1) := by decide +kernel
set_option maxRecDepth 100000 in
theorem c_Md_remove_141 : ct_Md_remove 141 = ka_inc 3 (nI 1) := rfl
theorem d_Md_remove_141 : decode prog_12_method_36_code 141 = .ok (.iinc 3 1, 3) := by decide +kernel
set_option maxRecDepth 100000 in
theorem c_Md_remove_144 : ct_Md_remove 144 = ka_goto 92 := rfl
theorem d_Md_remove_144 : decode prog_12_method_36_code 144 = .ok (.goto (-52), 3) := by decide +kernel
set_option maxRecDepth 100000 in
theorem c_Md_remove_147 : ct_Md_remove 147 = ka_ci (nI 0) 1 := rfl
theorem d_Md_remove_147 : decode prog_12_method_36_code 147 = .ok (.iconst 0, 1) := by decide +kernel
set_option maxRecDepth 100000 in
theorem c_Md_remove_148 : ct_Md_remove 148 = ka_is 3 1 := rfl
theorem d_Md_remove_148 : decode prog_12_method_36_code 148 = .ok (.istore_n 3, 1) := by decide +kernel
set_option maxRecDepth 100000 in
theorem c_Md_remove_149 : ct_Md_remove 149 = ka_il 3 1 := rfl
theorem d_Md_remove_149 : decode prog_12_method_36_code 149 = .ok (.iload_n 3, 1) := by decide +kernel
set_option maxRecDepth 100000 in
theorem c_Md_remove_150 : ct_Md_remove 150 = ka_ci (nI 6) 2 := rfl
theorem d_Md_remove_150 : decode prog_12_method_36_code 150 = .ok (.bipush 6, 2) := by decide +kernel
set_option maxRecDepth 100000 in
theorem c_Md_remove_152 : ct_Md_remove 152 = ka_cm (fun x y => y ≤ x) 211 := rfl
theorem d_Md_remove_152 : decode prog_12_method_36_code 152 = .ok (.if_icmp .ge 59, 3) := by decide +kernel
set_option maxRecDepth 100000 in
theorem c_Md_remove_155 : ct_Md_remove 155 = ka_al 0 1 := rfl
theorem d_Md_remove_155 : decode prog_12_method_36_code 155 = .ok (.aload_n 0, 1) := by decide +kernel
set_option maxRecDepth 100000 in
theorem c_Md_remove_156 : ct_Md_remove 156 = ka_get 10 11 := rfl
theorem d_Md_remove_156 : decode prog_12_method_36_code 156 = .ok (.getfield 29, 3) := by decide +kernel
set_option maxRecDepth 100000 in
theorem c_Md_remove_159 : ct_Md_remove 159 = ka_ci (nI 6) 2 := rfl
theorem d_Md_remove_159 : decode prog_12_method_36_code 159 = .ok (.bipush 6, 2) := by decide +kernel
set_option maxRecDepth 100000 in
theorem c_Md_remove_161 : ct_Md_remove 161 = ka_il 2 1 := rfl
theorem d_Md_remove_161 : decode prog_12_method_36_code 161 = .ok (.iload_n 2, 1) := by decide +kernel
set_option maxRecDepth 100000 in
theorem c_Md_remove_162 : ct_Md_remove 162 = ka_ii (fun x y => x * y) := rfl
theorem d_Md_remove_162 : decode prog_12_method_36_code 162 = .ok (.imul, 1) := by decide +kernel
set_option maxRecDepth 100000 in
theorem c_Md_remove_163 : ct_Md_remove 163 = ka_il 3 1 := rfl
theorem d_Md_remove_163 : decode prog_12_method_36_code 163 = .ok (.iload_n 3, 1) := by decide +kernel
set_option maxRecDepth 100000 in
theorem c_Md_remove_164 : ct_Md_remove 164 = ka_ii (fun x y => x + y) := rfl
theorem d_Md_remove_164 : decode prog_12_method_36_code 164 = .ok (.iadd, 1) := by decide +kernel
set_option maxRecDepth 100000 in
theorem c_Md_remove_165 : ct_Md_remove 165 = ka_al 0 1 := rfl
theorem d_Md_remove_165 : decode prog_12_method_36_code 165 = .ok (.aload_n 0, 1) := by decide +kernel
set_option maxRecDepth 100000 in
theorem c_Md_remove_166 : ct_Md_remove 166 = ka_get 10 11 := rfl
theorem d_Md_remove_166 : decode prog_12_method_36_code 166 = .ok (.getfield 29, 3) := by decide +kernel
set_option maxRecDepth 100000 in
theorem c_Md_remove_169 : ct_Md_remove 169 = ka_ci (nI 6) 2 := rfl
theorem d_Md_remove_169 : decode prog_12_method_36_code 169 = .ok (.bipush 6, 2) := by decide +kernel
set_option maxRecDepth 100000 in
theorem c_Md_remove_171 : ct_Md_remove 171 = ka_il 2 1 := rfl
theorem d_Md_remove_171 : decode prog_12_method_36_code 171 = .ok (.iload_n 2, 1) := by decide +kernel
set_option maxRecDepth 100000 in
theorem c_Md_remove_172 : ct_Md_remove 172 = ka_ii (fun x y => x * y) := rfl
theorem d_Md_remove_172 : decode prog_12_method_36_code 172 = .ok (.imul, 1) := by decide +kernel
set_option maxRecDepth 100000 in
theorem c_Md_remove_173 : ct_Md_remove 173 = ka_ci (nI 6) 2 := rfl
theorem d_Md_remove_173 : decode prog_12_method_36_code 173 = .ok (.bipush 6, 2) := by decide +kernel
set_option maxRecDepth 100000 in
theorem c_Md_remove_175 : ct_Md_remove 175 = ka_ii (fun x y => x + y) := rfl
theorem d_Md_remove_175 : decode prog_12_method_36_code 175 = .ok (.iadd, 1) := by decide +kernel
set_option maxRecDepth 100000 in
theorem c_Md_remove_176 : ct_Md_remove 176 = ka_il 3 1 := rfl
theorem d_Md_remove_176 : decode prog_12_method_36_code 176 = .ok (.iload_n 3, 1) := by decide +kernel
set_option maxRecDepth 100000 in
theorem c_Md_remove_177 : ct_Md_remove 177 = ka_ii (fun x y => x + y) := rfl
theorem d_Md_remove_177 : decode prog_12_method_36_code 177 = .ok (.iadd, 1) := by decide +kernel
set_option maxRecDepth 100000 in
theorem c_Md_remove_178 : ct_Md_remove 178 = ka_iald := rfl
theorem d_Md_remove_178 : decode prog_12_method_36_code 178 = .ok (.iaload, 1) := by decide +kernel
set_option maxRecDepth 100000 in
theorem c_Md_remove_179 : ct_Md_remove 179 = ka_iast := rfl
theorem d_Md_remove_179 : decode prog_12_method_36_code 179 = .ok (.iastore, 1) := by decide +kernel
set_option maxRecDepth 100000 in
theorem c_Md_remove_180 : ct_Md_remove 180 = ka_al 0 1 := rfl
theorem d_Md_remove_180 : decode prog_12_method_36_code 180 = .ok (.aload_n 0, 1) := by decide +kernel
set_option maxRecDepth 100000 in
theorem c_Md_remove_181 : ct_Md_remove 181 = ka_get 10 12 := rfl
theorem d_Md_remove_181 : decode prog_12_method_36_code 181 = .ok (.getfield 32, 3) := by decide +kernel
set_option maxRecDepth 100000 in
theorem c_Md_remove_184 : ct_Md_remove 184 = ka_ci (nI 6) 2 := rfl
theorem d_Md_remove_184 : decode prog_12_method_36_code 184 = .ok (.bipush 6, 2) := by decide +kernel
set_option maxRecDepth 100000 in
theorem c_Md_remove_186 : ct_Md_remove 186 = ka_il 2 1 := rfl
theorem d_Md_remove_186 : decode prog_12_method_36_code 186 = .ok (.iload_n 2, 1) := by decide +kernel
set_option maxRecDepth 100000 in
theorem c_Md_remove_187 : ct_Md_remove 187 = ka_ii (fun x y => x * y) := rfl
theorem d_Md_remove_187 : decode prog_12_method_36_code 187 = .ok (.imul, 1) := by decide +kernel
set_option maxRecDepth 100000 in
theorem c_Md_remove_188 : ct_Md_remove 188 = ka_il 3 1 := rfl
theorem d_Md_remove_188 : decode prog_12_method_36_code 188 = .ok (.iload_n 3, 1) := by decide +kernel
set_option maxRecDepth 100000 in
theorem c_Md_remove_189 : ct_Md_remove 189 = ka_ii (fun x y => x + y) := rfl
theorem d_Md_remove_189 : decode prog_12_method_36_code 189 = .ok (.iadd, 1) := by decide +kernel
set_option maxRecDepth 100000 in
theorem c_Md_remove_190 : ct_Md_remove 190 = ka_al 0 1 := rfl
theorem d_Md_remove_190 : decode prog_12_method_36_code 190 = .ok (.aload_n 0, 1) := by decide +kernel
set_option maxRecDepth 100000 in
theorem c_Md_remove_191 : ct_Md_remove 191 = ka_get 10 12 := rfl
theorem d_Md_remove_191 : decode prog_12_method_36_code 191 = .ok (.getfield 32, 3) := by decide +kernel
set_option maxRecDepth 100000 in
theorem c_Md_remove_194 : ct_Md_remove 194 = ka_ci (nI 6) 2 := rfl
theorem d_Md_remove_194 : decode prog_12_method_36_code 194 = .ok (.bipush 6, 2) := by decide +kernel
set_option maxRecDepth 100000 in
theorem c_Md_remove_196 : ct_Md_remove 196 = ka_il 2 1 := rfl
theorem d_Md_remove_196 : decode prog_12_method_36_code 196 = .ok (.iload_n 2, 1) := by decide +kernel
set_option maxRecDepth 100000 in
theorem c_Md_remove_197 : ct_Md_remove 197 = ka_ii (fun x y => x * y) := rfl
theorem d_Md_remove_197 : decode prog_12_method_36_code 197 = .ok (.imul, 1) := by decide +kernel
set_option maxRecDepth 100000 in
theorem c_Md_remove_198 : ct_Md_remove 198 = ka_ci (nI 6) 2 := rfl
theorem d_Md_remove_198 : decode prog_12_method_36_code 198 = .ok (.bipush 6, 2) := by decide +kernel
set_option maxRecDepth 100000 in
theorem c_Md_remove_200 : ct_Md_remove 200 = ka_ii (fun x y => x + y) := rfl
theorem d_Md_remove_200 : decode prog_12_method_36_code 200 = .ok (.iadd, 1) := by decide +kernel
set_option maxRecDepth 100000 in
theorem c_Md_remove_201 : ct_Md_remove 201 = ka_il 3 1 := rfl
theorem d_Md_remove_201 : decode prog_12_method_36_code 201 = .ok (.iload_n 3, 1) := by decide +kernel
set_option maxRecDepth 100000 in
theorem c_Md_remove_202 : ct_Md_remove 202 = ka_ii (fun x y => x + y) := rfl
theorem d_Md_remove_202 : decode prog_12_method_36_code 202 = .ok (.iadd, 1) := by decide +kernel
set_option maxRecDepth 100000 in
theorem c_Md_remove_203 : ct_Md_remove 203 = ka_lald := rfl
theorem d_Md_remove_203 : decode prog_12_method_36_code 203 = .ok (.laload, 1) := by decide +kernel
set_option maxRecDepth 100000 in
theorem c_Md_remove_204 : ct_Md_remove 204 = ka_last := rfl
theorem d_Md_remove_204 : decode prog_12_method_36_code 204 = .ok (.lastore, 1) := by decide +kernel
set_option maxRecDepth 100000 in
theorem c_Md_remove_205 : ct_Md_remove 205 = ka_inc 3 (nI 1) := rfl
theorem d_Md_remove_205 : decode prog_12_method_36_code 205 = .ok (.iinc 3 1, 3) := by decide +kernel
set_option maxRecDepth 100000 in
theorem c_Md_remove_208 : ct_Md_remove 208 = ka_goto 149 := rfl
theorem d_Md_remove_208 : decode prog_12_method_36_code 208 = .ok (.goto (-59), 3) := by decide +kernel
set_option maxRecDepth 100000 in
theorem c_Md_remove_211 : ct_Md_remove 211 = ka_inc 2 (nI 1) := rfl
theorem d_Md_remove_211 : decode prog_12_method_36_code 211 = .ok (.iinc 2 1, 3) := by decide +kernel
set_option maxRecDepth 100000 in
theorem c_Md_remove_214 : ct_Md_remove 214 = ka_goto 54 := rfl
theorem d_Md_remove_214 : decode prog_12_method_36_code 214 = .ok (.goto (-160), 3) := by decide +kernel
set_option maxRecDepth 100000 in
theorem c_Md_remove_217 : ct_Md_remove 217 = ka_ci (nI 0) 1 := rfl
theorem d_Md_remove_217 : decode prog_12_method_36_code 217 = .ok (.iconst 0, 1) := by decide +kernel
set_option maxRecDepth 100000 in
theorem c_Md_remove_218 : ct_Md_remove 218 = ka_ri := rfl
theorem d_Md_remove_218 : decode prog_12_method_36_code 218 = .ok (.ireturn, 1) := by decide +kernel
set_option maxRecDepth 100000 in
set_option maxHeartbeats 4000000 in
theorem s_Md_remove_60 : ∀ pc, pc < 60 → kc_Sim kt kw_A kw_N kt_cl kt_En "DirectoryDeskModel" prog_12_method_36_code 4 (some .int) "remove" none pc (ct_Md_remove pc) := by
  let P : Nat → Prop := fun pc => kc_Sim kt kw_A kw_N kt_cl kt_En "DirectoryDeskModel" prog_12_method_36_code 4 (some .int) "remove" none pc (ct_Md_remove pc)
  exact kc_case (P := P) (kc_se c_Md_remove_59 (sm_cm_ge d_Md_remove_59 (by decide))) (
  kc_case (P := P) (kc_se rfl sm_no) (
  kc_case (P := P) (kc_se rfl sm_no) (
  kc_case (P := P) (kc_se c_Md_remove_56 (sm_get (ci := 10) (C := "DirectoryDeskModel") (F := kF_Md) rfl kin_Md (Nat.le_of_ble_eq_true rfl) d_Md_remove_56 (kw3 189 rfl rfl))) (
  kc_case (P := P) (kc_se c_Md_remove_55 (sm_aload_n d_Md_remove_55 rfl)) (
  kc_case (P := P) (kc_se c_Md_remove_54 (sm_iload_n d_Md_remove_54 rfl)) (
  kc_case (P := P) (kc_se c_Md_remove_53 (sm_istore_n d_Md_remove_53 rfl (Nat.le_of_ble_eq_true rfl))) (
  kc_case (P := P) (kc_se c_Md_remove_52 (sm_iload_n d_Md_remove_52 rfl)) (
  kc_case (P := P) (kc_se rfl sm_no) (
  kc_case (P := P) (kc_se rfl sm_no) (
  kc_case (P := P) (kc_se c_Md_remove_49 (sm_put (ci := 10) (C := "DirectoryDeskModel") (F := kF_Md) rfl kin_Md kty_Md ktk_Md knm_Md (Nat.le_of_ble_eq_true rfl) (by decide +kernel) d_Md_remove_49 (kw3 189 rfl rfl) rfl)) (
  kc_case (P := P) (kc_se c_Md_remove_48 (sm_isub d_Md_remove_48)) (
  kc_case (P := P) (kc_se c_Md_remove_47 (sm_iconst d_Md_remove_47 (by decide))) (
  kc_case (P := P) (kc_se rfl sm_no) (
  kc_case (P := P) (kc_se rfl sm_no) (
  kc_case (P := P) (kc_se c_Md_remove_44 (sm_get (ci := 10) (C := "DirectoryDeskModel") (F := kF_Md) rfl kin_Md (Nat.le_of_ble_eq_true rfl) d_Md_remove_44 (kw3 189 rfl rfl))) (
  kc_case (P := P) (kc_se c_Md_remove_43 (sm_dup d_Md_remove_43)) (
  kc_case (P := P) (kc_se c_Md_remove_42 (sm_aload_n d_Md_remove_42 rfl)) (
  kc_case (P := P) (kc_se rfl sm_no) (
  kc_case (P := P) (kc_se rfl sm_no) (
  kc_case (P := P) (kc_se c_Md_remove_39 (sm_goto d_Md_remove_39 (by decide))) (
  kc_case (P := P) (kc_se rfl sm_no) (
  kc_case (P := P) (kc_se rfl sm_no) (
  kc_case (P := P) (kc_se c_Md_remove_36 (sm_inc d_Md_remove_36 (by decide) (Nat.le_of_ble_eq_true rfl))) (
  kc_case (P := P) (kc_se c_Md_remove_35 (sm_ri d_Md_remove_35 rfl)) (
  kc_case (P := P) (kc_se rfl sm_no) (
  kc_case (P := P) (kc_se c_Md_remove_33 (sm_bipush d_Md_remove_33 (by decide))) (
  kc_case (P := P) (kc_se rfl sm_no) (
  kc_case (P := P) (kc_se rfl sm_no) (
  kc_case (P := P) (kc_se c_Md_remove_30 (sm_if_eq d_Md_remove_30 (by decide))) (
  kc_case (P := P) (kc_se rfl sm_no) (
  kc_case (P := P) (kc_se rfl sm_no) (
  kc_case (P := P) (kc_se c_Md_remove_27 (sm_cv (j := 110) rfl rfl kw_o kw_g wc_Md_isUnder (Nat.le_of_ble_eq_true rfl) hd_Md_isUnder (ci := 10) (F := kF_Md) (N := 52) rfl (kw4 224 rfl rfl) wi_Md_isUnder ws_Md_isUnder wn_Md_isUnder d_Md_remove_27)) (
  kc_case (P := P) (kc_se c_Md_remove_26 (sm_iconst d_Md_remove_26 (by decide))) (
  kc_case (P := P) (kc_se c_Md_remove_25 (sm_iload_n d_Md_remove_25 rfl)) (
  kc_case (P := P) (kc_se c_Md_remove_24 (sm_iload_n d_Md_remove_24 rfl)) (
  kc_case (P := P) (kc_se c_Md_remove_23 (sm_aload_n d_Md_remove_23 rfl)) (
  kc_case (P := P) (kc_se rfl sm_no) (
  kc_case (P := P) (kc_se rfl sm_no) (
  kc_case (P := P) (kc_se c_Md_remove_20 (sm_cm_ge d_Md_remove_20 (by decide))) (
  kc_case (P := P) (kc_se rfl sm_no) (
  kc_case (P := P) (kc_se rfl sm_no) (
  kc_case (P := P) (kc_se c_Md_remove_17 (sm_get (ci := 10) (C := "DirectoryDeskModel") (F := kF_Md) rfl kin_Md (Nat.le_of_ble_eq_true rfl) d_Md_remove_17 (kw3 189 rfl rfl))) (
  kc_case (P := P) (kc_se c_Md_remove_16 (sm_aload_n d_Md_remove_16 rfl)) (
  kc_case (P := P) (kc_se c_Md_remove_15 (sm_iload_n d_Md_remove_15 rfl)) (
  kc_case (P := P) (kc_se c_Md_remove_14 (sm_istore_n d_Md_remove_14 rfl (Nat.le_of_ble_eq_true rfl))) (
  kc_case (P := P) (kc_se c_Md_remove_13 (sm_iconst d_Md_remove_13 (by decide))) (
  kc_case (P := P) (kc_se c_Md_remove_12 (sm_ri d_Md_remove_12 rfl)) (
  kc_case (P := P) (kc_se rfl sm_no) (
  kc_case (P := P) (kc_se c_Md_remove_10 (sm_bipush d_Md_remove_10 (by decide))) (
  kc_case (P := P) (kc_se rfl sm_no) (
  kc_case (P := P) (kc_se rfl sm_no) (
  kc_case (P := P) (kc_se c_Md_remove_7 (sm_if_ge d_Md_remove_7 (by decide))) (
  kc_case (P := P) (kc_se c_Md_remove_6 (sm_iload_n d_Md_remove_6 rfl)) (
  kc_case (P := P) (kc_se c_Md_remove_5 (sm_istore_n d_Md_remove_5 rfl (Nat.le_of_ble_eq_true rfl))) (
  kc_case (P := P) (kc_se rfl sm_no) (
  kc_case (P := P) (kc_se rfl sm_no) (
  kc_case (P := P) (kc_se c_Md_remove_2 (sm_cv (j := 109) rfl rfl kw_o kw_g wc_Md_find (Nat.le_of_ble_eq_true rfl) hd_Md_find (ci := 10) (F := kF_Md) (N := 52) rfl (kw4 208 rfl rfl) wi_Md_find ws_Md_find wn_Md_find d_Md_remove_2)) (
  kc_case (P := P) (kc_se c_Md_remove_1 (sm_iconst d_Md_remove_1 (by decide))) (
  kc_case (P := P) (kc_se c_Md_remove_0 (sm_aload_n d_Md_remove_0 rfl)) (
  kc_case0))))))))))))))))))))))))))))))))))))))))))))))))))))))))))))
set_option maxRecDepth 100000 in
set_option maxHeartbeats 4000000 in
theorem s_Md_remove_120 : ∀ pc, pc < 120 → kc_Sim kt kw_A kw_N kt_cl kt_En "DirectoryDeskModel" prog_12_method_36_code 4 (some .int) "remove" none pc (ct_Md_remove pc) := by
  let P : Nat → Prop := fun pc => kc_Sim kt kw_A kw_N kt_cl kt_En "DirectoryDeskModel" prog_12_method_36_code 4 (some .int) "remove" none pc (ct_Md_remove pc)
  exact kc_case (P := P) (kc_se c_Md_remove_119 (sm_aload_n d_Md_remove_119 rfl)) (
  kc_case (P := P) (kc_se c_Md_remove_118 (sm_iast d_Md_remove_118)) (
  kc_case (P := P) (kc_se c_Md_remove_117 (sm_iald d_Md_remove_117)) (
  kc_case (P := P) (kc_se c_Md_remove_116 (sm_iadd d_Md_remove_116)) (
  kc_case (P := P) (kc_se c_Md_remove_115 (sm_iload_n d_Md_remove_115 rfl)) (
  kc_case (P := P) (kc_se c_Md_remove_114 (sm_iadd d_Md_remove_114)) (
  kc_case (P := P) (kc_se c_Md_remove_113 (sm_iconst d_Md_remove_113 (by decide))) (
  kc_case (P := P) (kc_se c_Md_remove_112 (sm_imul d_Md_remove_112)) (
  kc_case (P := P) (kc_se c_Md_remove_111 (sm_iload_n d_Md_remove_111 rfl)) (
  kc_case (P := P) (kc_se c_Md_remove_110 (sm_iconst d_Md_remove_110 (by decide))) (
  kc_case (P := P) (kc_se rfl sm_no) (
  kc_case (P := P) (kc_se rfl sm_no) (
  kc_case (P := P) (kc_se c_Md_remove_107 (sm_get (ci := 10) (C := "DirectoryDeskModel") (F := kF_Md) rfl kin_Md (Nat.le_of_ble_eq_true rfl) d_Md_remove_107 (kw3 191 rfl rfl))) (
  kc_case (P := P) (kc_se c_Md_remove_106 (sm_aload_n d_Md_remove_106 rfl)) (
  kc_case (P := P) (kc_se c_Md_remove_105 (sm_iadd d_Md_remove_105)) (
  kc_case (P := P) (kc_se c_Md_remove_104 (sm_iload_n d_Md_remove_104 rfl)) (
  kc_case (P := P) (kc_se c_Md_remove_103 (sm_imul d_Md_remove_103)) (
  kc_case (P := P) (kc_se c_Md_remove_102 (sm_iload_n d_Md_remove_102 rfl)) (
  kc_case (P := P) (kc_se c_Md_remove_101 (sm_iconst d_Md_remove_101 (by decide))) (
  kc_case (P := P) (kc_se rfl sm_no) (
  kc_case (P := P) (kc_se rfl sm_no) (
  kc_case (P := P) (kc_se c_Md_remove_98 (sm_get (ci := 10) (C := "DirectoryDeskModel") (F := kF_Md) rfl kin_Md (Nat.le_of_ble_eq_true rfl) d_Md_remove_98 (kw3 191 rfl rfl))) (
  kc_case (P := P) (kc_se c_Md_remove_97 (sm_aload_n d_Md_remove_97 rfl)) (
  kc_case (P := P) (kc_se rfl sm_no) (
  kc_case (P := P) (kc_se rfl sm_no) (
  kc_case (P := P) (kc_se c_Md_remove_94 (sm_cm_ge d_Md_remove_94 (by decide))) (
  kc_case (P := P) (kc_se c_Md_remove_93 (sm_iconst d_Md_remove_93 (by decide))) (
  kc_case (P := P) (kc_se c_Md_remove_92 (sm_iload_n d_Md_remove_92 rfl)) (
  kc_case (P := P) (kc_se c_Md_remove_91 (sm_istore_n d_Md_remove_91 rfl (Nat.le_of_ble_eq_true rfl))) (
  kc_case (P := P) (kc_se c_Md_remove_90 (sm_iconst d_Md_remove_90 (by decide))) (
  kc_case (P := P) (kc_se c_Md_remove_89 (sm_iast d_Md_remove_89)) (
  kc_case (P := P) (kc_se c_Md_remove_88 (sm_iald d_Md_remove_88)) (
  kc_case (P := P) (kc_se c_Md_remove_87 (sm_iadd d_Md_remove_87)) (
  kc_case (P := P) (kc_se c_Md_remove_86 (sm_iconst d_Md_remove_86 (by decide))) (
  kc_case (P := P) (kc_se c_Md_remove_85 (sm_iload_n d_Md_remove_85 rfl)) (
  kc_case (P := P) (kc_se rfl sm_no) (
  kc_case (P := P) (kc_se rfl sm_no) (
  kc_case (P := P) (kc_se c_Md_remove_82 (sm_get (ci := 10) (C := "DirectoryDeskModel") (F := kF_Md) rfl kin_Md (Nat.le_of_ble_eq_true rfl) d_Md_remove_82 (kw3 193 rfl rfl))) (
  kc_case (P := P) (kc_se c_Md_remove_81 (sm_aload_n d_Md_remove_81 rfl)) (
  kc_case (P := P) (kc_se c_Md_remove_80 (sm_iload_n d_Md_remove_80 rfl)) (
  kc_case (P := P) (kc_se rfl sm_no) (
  kc_case (P := P) (kc_se rfl sm_no) (
  kc_case (P := P) (kc_se c_Md_remove_77 (sm_get (ci := 10) (C := "DirectoryDeskModel") (F := kF_Md) rfl kin_Md (Nat.le_of_ble_eq_true rfl) d_Md_remove_77 (kw3 193 rfl rfl))) (
  kc_case (P := P) (kc_se c_Md_remove_76 (sm_aload_n d_Md_remove_76 rfl)) (
  kc_case (P := P) (kc_se c_Md_remove_75 (sm_iast d_Md_remove_75)) (
  kc_case (P := P) (kc_se c_Md_remove_74 (sm_iald d_Md_remove_74)) (
  kc_case (P := P) (kc_se c_Md_remove_73 (sm_iadd d_Md_remove_73)) (
  kc_case (P := P) (kc_se c_Md_remove_72 (sm_iconst d_Md_remove_72 (by decide))) (
  kc_case (P := P) (kc_se c_Md_remove_71 (sm_iload_n d_Md_remove_71 rfl)) (
  kc_case (P := P) (kc_se rfl sm_no) (
  kc_case (P := P) (kc_se rfl sm_no) (
  kc_case (P := P) (kc_se c_Md_remove_68 (sm_get (ci := 10) (C := "DirectoryDeskModel") (F := kF_Md) rfl kin_Md (Nat.le_of_ble_eq_true rfl) d_Md_remove_68 (kw3 190 rfl rfl))) (
  kc_case (P := P) (kc_se c_Md_remove_67 (sm_aload_n d_Md_remove_67 rfl)) (
  kc_case (P := P) (kc_se c_Md_remove_66 (sm_iload_n d_Md_remove_66 rfl)) (
  kc_case (P := P) (kc_se rfl sm_no) (
  kc_case (P := P) (kc_se rfl sm_no) (
  kc_case (P := P) (kc_se c_Md_remove_63 (sm_get (ci := 10) (C := "DirectoryDeskModel") (F := kF_Md) rfl kin_Md (Nat.le_of_ble_eq_true rfl) d_Md_remove_63 (kw3 190 rfl rfl))) (
  kc_case (P := P) (kc_se c_Md_remove_62 (sm_aload_n d_Md_remove_62 rfl)) (
  kc_case (P := P) (kc_se rfl sm_no) (
  kc_case (P := P) (kc_se rfl sm_no) (
  s_Md_remove_60))))))))))))))))))))))))))))))))))))))))))))))))))))))))))))
set_option maxRecDepth 100000 in
set_option maxHeartbeats 4000000 in
theorem s_Md_remove_180 : ∀ pc, pc < 180 → kc_Sim kt kw_A kw_N kt_cl kt_En "DirectoryDeskModel" prog_12_method_36_code 4 (some .int) "remove" none pc (ct_Md_remove pc) := by
  let P : Nat → Prop := fun pc => kc_Sim kt kw_A kw_N kt_cl kt_En "DirectoryDeskModel" prog_12_method_36_code 4 (some .int) "remove" none pc (ct_Md_remove pc)
  exact kc_case (P := P) (kc_se c_Md_remove_179 (sm_iast d_Md_remove_179)) (
  kc_case (P := P) (kc_se c_Md_remove_178 (sm_iald d_Md_remove_178)) (
  kc_case (P := P) (kc_se c_Md_remove_177 (sm_iadd d_Md_remove_177)) (
  kc_case (P := P) (kc_se c_Md_remove_176 (sm_iload_n d_Md_remove_176 rfl)) (
  kc_case (P := P) (kc_se c_Md_remove_175 (sm_iadd d_Md_remove_175)) (
  kc_case (P := P) (kc_se rfl sm_no) (
  kc_case (P := P) (kc_se c_Md_remove_173 (sm_bipush d_Md_remove_173 (by decide))) (
  kc_case (P := P) (kc_se c_Md_remove_172 (sm_imul d_Md_remove_172)) (
  kc_case (P := P) (kc_se c_Md_remove_171 (sm_iload_n d_Md_remove_171 rfl)) (
  kc_case (P := P) (kc_se rfl sm_no) (
  kc_case (P := P) (kc_se c_Md_remove_169 (sm_bipush d_Md_remove_169 (by decide))) (
  kc_case (P := P) (kc_se rfl sm_no) (
  kc_case (P := P) (kc_se rfl sm_no) (
  kc_case (P := P) (kc_se c_Md_remove_166 (sm_get (ci := 10) (C := "DirectoryDeskModel") (F := kF_Md) rfl kin_Md (Nat.le_of_ble_eq_true rfl) d_Md_remove_166 (kw3 194 rfl rfl))) (
  kc_case (P := P) (kc_se c_Md_remove_165 (sm_aload_n d_Md_remove_165 rfl)) (
  kc_case (P := P) (kc_se c_Md_remove_164 (sm_iadd d_Md_remove_164)) (
  kc_case (P := P) (kc_se c_Md_remove_163 (sm_iload_n d_Md_remove_163 rfl)) (
  kc_case (P := P) (kc_se c_Md_remove_162 (sm_imul d_Md_remove_162)) (
  kc_case (P := P) (kc_se c_Md_remove_161 (sm_iload_n d_Md_remove_161 rfl)) (
  kc_case (P := P) (kc_se rfl sm_no) (
  kc_case (P := P) (kc_se c_Md_remove_159 (sm_bipush d_Md_remove_159 (by decide))) (
  kc_case (P := P) (kc_se rfl sm_no) (
  kc_case (P := P) (kc_se rfl sm_no) (
  kc_case (P := P) (kc_se c_Md_remove_156 (sm_get (ci := 10) (C := "DirectoryDeskModel") (F := kF_Md) rfl kin_Md (Nat.le_of_ble_eq_true rfl) d_Md_remove_156 (kw3 194 rfl rfl))) (
  kc_case (P := P) (kc_se c_Md_remove_155 (sm_aload_n d_Md_remove_155 rfl)) (
  kc_case (P := P) (kc_se rfl sm_no) (
  kc_case (P := P) (kc_se rfl sm_no) (
  kc_case (P := P) (kc_se c_Md_remove_152 (sm_cm_ge d_Md_remove_152 (by decide))) (
  kc_case (P := P) (kc_se rfl sm_no) (
  kc_case (P := P) (kc_se c_Md_remove_150 (sm_bipush d_Md_remove_150 (by decide))) (
  kc_case (P := P) (kc_se c_Md_remove_149 (sm_iload_n d_Md_remove_149 rfl)) (
  kc_case (P := P) (kc_se c_Md_remove_148 (sm_istore_n d_Md_remove_148 rfl (Nat.le_of_ble_eq_true rfl))) (
  kc_case (P := P) (kc_se c_Md_remove_147 (sm_iconst d_Md_remove_147 (by decide))) (
  kc_case (P := P) (kc_se rfl sm_no) (
  kc_case (P := P) (kc_se rfl sm_no) (
  kc_case (P := P) (kc_se c_Md_remove_144 (sm_goto d_Md_remove_144 (by decide))) (
  kc_case (P := P) (kc_se rfl sm_no) (
  kc_case (P := P) (kc_se rfl sm_no) (
  kc_case (P := P) (kc_se c_Md_remove_141 (sm_inc d_Md_remove_141 (by decide) (Nat.le_of_ble_eq_true rfl))) (
  kc_case (P := P) (kc_se c_Md_remove_140 (sm_last d_Md_remove_140)) (
  kc_case (P := P) (kc_se c_Md_remove_139 (sm_lald d_Md_remove_139)) (
  kc_case (P := P) (kc_se c_Md_remove_138 (sm_iadd d_Md_remove_138)) (
  kc_case (P := P) (kc_se c_Md_remove_137 (sm_iload_n d_Md_remove_137 rfl)) (
  kc_case (P := P) (kc_se c_Md_remove_136 (sm_iadd d_Md_remove_136)) (
  kc_case (P := P) (kc_se c_Md_remove_135 (sm_iconst d_Md_remove_135 (by decide))) (
  kc_case (P := P) (kc_se c_Md_remove_134 (sm_imul d_Md_remove_134)) (
  kc_case (P := P) (kc_se c_Md_remove_133 (sm_iload_n d_Md_remove_133 rfl)) (
  kc_case (P := P) (kc_se c_Md_remove_132 (sm_iconst d_Md_remove_132 (by decide))) (
  kc_case (P := P) (kc_se rfl sm_no) (
  kc_case (P := P) (kc_se rfl sm_no) (
  kc_case (P := P) (kc_se c_Md_remove_129 (sm_get (ci := 10) (C := "DirectoryDeskModel") (F := kF_Md) rfl kin_Md (Nat.le_of_ble_eq_true rfl) d_Md_remove_129 (kw3 192 rfl rfl))) (
  kc_case (P := P) (kc_se c_Md_remove_128 (sm_aload_n d_Md_remove_128 rfl)) (
  kc_case (P := P) (kc_se c_Md_remove_127 (sm_iadd d_Md_remove_127)) (
  kc_case (P := P) (kc_se c_Md_remove_126 (sm_iload_n d_Md_remove_126 rfl)) (
  kc_case (P := P) (kc_se c_Md_remove_125 (sm_imul d_Md_remove_125)) (
  kc_case (P := P) (kc_se c_Md_remove_124 (sm_iload_n d_Md_remove_124 rfl)) (
  kc_case (P := P) (kc_se c_Md_remove_123 (sm_iconst d_Md_remove_123 (by decide))) (
  kc_case (P := P) (kc_se rfl sm_no) (
  kc_case (P := P) (kc_se rfl sm_no) (
  kc_case (P := P) (kc_se c_Md_remove_120 (sm_get (ci := 10) (C := "DirectoryDeskModel") (F := kF_Md) rfl kin_Md (Nat.le_of_ble_eq_true rfl) d_Md_remove_120 (kw3 192 rfl rfl))) (
  s_Md_remove_120))))))))))))))))))))))))))))))))))))))))))))))))))))))))))))
set_option maxRecDepth 100000 in
set_option maxHeartbeats 4000000 in
theorem s_Md_remove_219 : ∀ pc, pc < 219 → kc_Sim kt kw_A kw_N kt_cl kt_En "DirectoryDeskModel" prog_12_method_36_code 4 (some .int) "remove" none pc (ct_Md_remove pc) := by
  let P : Nat → Prop := fun pc => kc_Sim kt kw_A kw_N kt_cl kt_En "DirectoryDeskModel" prog_12_method_36_code 4 (some .int) "remove" none pc (ct_Md_remove pc)
  exact kc_case (P := P) (kc_se c_Md_remove_218 (sm_ri d_Md_remove_218 rfl)) (
  kc_case (P := P) (kc_se c_Md_remove_217 (sm_iconst d_Md_remove_217 (by decide))) (
  kc_case (P := P) (kc_se rfl sm_no) (
  kc_case (P := P) (kc_se rfl sm_no) (
  kc_case (P := P) (kc_se c_Md_remove_214 (sm_goto d_Md_remove_214 (by decide))) (
  kc_case (P := P) (kc_se rfl sm_no) (
  kc_case (P := P) (kc_se rfl sm_no) (
  kc_case (P := P) (kc_se c_Md_remove_211 (sm_inc d_Md_remove_211 (by decide) (Nat.le_of_ble_eq_true rfl))) (
  kc_case (P := P) (kc_se rfl sm_no) (
  kc_case (P := P) (kc_se rfl sm_no) (
  kc_case (P := P) (kc_se c_Md_remove_208 (sm_goto d_Md_remove_208 (by decide))) (
  kc_case (P := P) (kc_se rfl sm_no) (
  kc_case (P := P) (kc_se rfl sm_no) (
  kc_case (P := P) (kc_se c_Md_remove_205 (sm_inc d_Md_remove_205 (by decide) (Nat.le_of_ble_eq_true rfl))) (
  kc_case (P := P) (kc_se c_Md_remove_204 (sm_last d_Md_remove_204)) (
  kc_case (P := P) (kc_se c_Md_remove_203 (sm_lald d_Md_remove_203)) (
  kc_case (P := P) (kc_se c_Md_remove_202 (sm_iadd d_Md_remove_202)) (
  kc_case (P := P) (kc_se c_Md_remove_201 (sm_iload_n d_Md_remove_201 rfl)) (
  kc_case (P := P) (kc_se c_Md_remove_200 (sm_iadd d_Md_remove_200)) (
  kc_case (P := P) (kc_se rfl sm_no) (
  kc_case (P := P) (kc_se c_Md_remove_198 (sm_bipush d_Md_remove_198 (by decide))) (
  kc_case (P := P) (kc_se c_Md_remove_197 (sm_imul d_Md_remove_197)) (
  kc_case (P := P) (kc_se c_Md_remove_196 (sm_iload_n d_Md_remove_196 rfl)) (
  kc_case (P := P) (kc_se rfl sm_no) (
  kc_case (P := P) (kc_se c_Md_remove_194 (sm_bipush d_Md_remove_194 (by decide))) (
  kc_case (P := P) (kc_se rfl sm_no) (
  kc_case (P := P) (kc_se rfl sm_no) (
  kc_case (P := P) (kc_se c_Md_remove_191 (sm_get (ci := 10) (C := "DirectoryDeskModel") (F := kF_Md) rfl kin_Md (Nat.le_of_ble_eq_true rfl) d_Md_remove_191 (kw3 195 rfl rfl))) (
  kc_case (P := P) (kc_se c_Md_remove_190 (sm_aload_n d_Md_remove_190 rfl)) (
  kc_case (P := P) (kc_se c_Md_remove_189 (sm_iadd d_Md_remove_189)) (
  kc_case (P := P) (kc_se c_Md_remove_188 (sm_iload_n d_Md_remove_188 rfl)) (
  kc_case (P := P) (kc_se c_Md_remove_187 (sm_imul d_Md_remove_187)) (
  kc_case (P := P) (kc_se c_Md_remove_186 (sm_iload_n d_Md_remove_186 rfl)) (
  kc_case (P := P) (kc_se rfl sm_no) (
  kc_case (P := P) (kc_se c_Md_remove_184 (sm_bipush d_Md_remove_184 (by decide))) (
  kc_case (P := P) (kc_se rfl sm_no) (
  kc_case (P := P) (kc_se rfl sm_no) (
  kc_case (P := P) (kc_se c_Md_remove_181 (sm_get (ci := 10) (C := "DirectoryDeskModel") (F := kF_Md) rfl kin_Md (Nat.le_of_ble_eq_true rfl) d_Md_remove_181 (kw3 195 rfl rfl))) (
  kc_case (P := P) (kc_se c_Md_remove_180 (sm_aload_n d_Md_remove_180 rfl)) (
  s_Md_remove_180)))))))))))))))))))))))))))))))))))))))
set_option maxRecDepth 100000 in
theorem ka_nth_no_Md_remove (pc : Nat) (h : 219 ≤ pc) : ct_Md_remove pc = ka_no := ka_nth_ge _ pc (Nat.le_trans (Nat.le_of_eq (by rfl)) h)
theorem s_Md_remove (pc : Nat) : kc_Sim kt kw_A kw_N kt_cl kt_En "DirectoryDeskModel" prog_12_method_36_code 4 (some .int) "remove" none pc (ct_Md_remove pc) := (Nat.lt_or_ge pc 219).elim (s_Md_remove_219 pc) (fun h => kc_se (ka_nth_no_Md_remove pc h) sm_no)
