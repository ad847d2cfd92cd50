/-! code of methods, decode rows, and that the JVM follows (by program) -/
def cl_Md_search_0 : List kc_A := [ka_al 0 1, ka_al 0 1, ka_get 10 23, ka_no, ka_no, ka_al 0 1, ka_get 10 24, ka_no, ka_no, ka_cv 107 2 10 0 0, ka_no, ka_no, ka_is 1 1, ka_il 1 1, ka_if (fun x => 0 ≤ x) 20, ka_no, ka_no, ka_ci (nI 34) 2, ka_no, ka_ri, ka_il 1 1, ka_if (fun x => ¬ x = 0) 28, ka_no, ka_no, ka_ci (-1) 1, ka_goto 33, ka_no, ka_no, ka_al 0 1, ka_ci (nI 0) 1, ka_cv 109 1 10 0 0, ka_no, ka_no, ka_is 2 1, ka_il 1 1, ka_ci (nI 1) 1, ka_cm (fun x y => ¬ x = y) 46, ka_no, ka_no, ka_il 2 1, ka_if (fun x => 0 ≤ x) 46, ka_no, ka_no, ka_ci (nI 32) 2, ka_no, ka_ri, ka_ci (nI 0) 1, ka_is 3 1, ka_ci (nI 0) 1, ka_is 4 2, ka_no, ka_ci (nI 0) 1, ka_is 5 2, ka_no, ka_il 5 2, ka_no, ka_al 0 1, ka_get 10 6, ka_no, ka_no]
def cl_Md_search_1 : List kc_A := [ka_cm (fun x y => y ≤ x) 127, ka_no, ka_no, ka_al 0 1, ka_il 5 2, ka_no, ka_il 2 1, ka_cv 137 2 10 0 0, ka_no, ka_no, ka_if (fun x => x = 0) 121, ka_no, ka_no, ka_al 0 1, ka_il 5 2, ka_no, ka_cv 136 1 10 0 0, ka_no, ka_no, ka_if (fun x => x = 0) 121, ka_no, ka_no, ka_inc 3 (nI 1), ka_no, ka_no, ka_il 4 2, ka_no, ka_if (fun x => ¬ x = 0) 121, ka_no, ka_no, ka_al 0 1, ka_get 10 29, ka_no, ka_no, ka_if (fun x => x = 0) 105, ka_no, ka_no, ka_il 3 1, ka_al 0 1, ka_get 10 29, ka_no, ka_no, ka_cm (fun x y => y < x) 121, ka_no, ka_no, ka_al 0 1, ka_il 5 2, ka_no, ka_cv 146 1 10 0 0, ka_no, ka_no, ka_if (fun x => ¬ x = 0) 118, ka_no, ka_no, ka_ci (nI 1) 1, ka_goto 119, ka_no, ka_no, ka_ci (nI 0) 1, ka_is 4 2]
def cl_Md_search_2 : List kc_A := [ka_no, ka_inc 5 (nI 1), ka_no, ka_no, ka_goto 54, ka_no, ka_no, ka_al 0 1, ka_get 10 29, ka_no, ka_no, ka_if (fun x => x ≤ 0) 146, ka_no, ka_no, ka_il 3 1, ka_al 0 1, ka_get 10 29, ka_no, ka_no, ka_cm (fun x y => x ≤ y) 146, ka_no, ka_no, ka_ci (nI 4) 1, ka_goto 157, ka_no, ka_no, ka_il 4 2, ka_no, ka_if (fun x => x = 0) 156, ka_no, ka_no, ka_ci (nI 11) 2, ka_no, ka_goto 157, ka_no, ka_no, ka_ci (nI 0) 1, ka_ri]
def ct_Md_search : Nat → kc_A := fun pc => ka_nth (cl_Md_search_0 ++ (cl_Md_search_1 ++ (cl_Md_search_2))) pc
set_option maxRecDepth 100000 in
theorem c_Md_search_0 : ct_Md_search 0 = ka_al 0 1 := rfl
theorem d_Md_search_0 : decode prog_12_method_43_code 0 = .ok (.aload_n 0, 1) := by decide +kernel
set_option maxRecDepth 100000 in
theorem c_Md_search_1 : ct_Md_search 1 = ka_al 0 1 := rfl
theorem d_Md_search_1 : decode prog_12_method_43_code 1 = .ok (.aload_n 0, 1) := by decide +kernel
set_option maxRecDepth 100000 in
theorem c_Md_search_2 : ct_Md_search 2 = ka_get 10 23 := rfl
theorem d_Md_search_2 : decode prog_12_method_43_code 2 = .ok (.getfield 156, 3) := by decide +kernel
set_option maxRecDepth 100000 in
theorem c_Md_search_5 : ct_Md_search 5 = ka_al 0 1 := rfl
theorem d_Md_search_5 : decode prog_12_method_43_code 5 = .ok (.aload_n 0, 1) := by decide +kernel
set_option maxRecDepth 100000 in
theorem c_Md_search_6 : ct_Md_search 6 = ka_get 10 24 := rfl
theorem d_Md_search_6 : decode prog_12_method_43_code 6 = .ok (.getfield 159, 3) := by decide +kernel
set_option maxRecDepth 100000 in
theorem c_Md_search_9 : ct_Md_search 9 = ka_cv 107 2 10 0 0 := rfl
theorem d_Md_search_9 : decode prog_12_method_43_code 9 = .ok (.invokevirtual 255, 3) := by decide +kernel
set_option maxRecDepth 100000 in
theorem c_Md_search_12 : ct_Md_search 12 = ka_is 1 1 := rfl
theorem d_Md_search_12 : decode prog_12_method_43_code 12 = .ok (.istore_n 1, 1) := by decide +kernel
set_option maxRecDepth 100000 in
theorem c_Md_search_13 : ct_Md_search 13 = ka_il 1 1 := rfl
theorem d_Md_search_13 : decode prog_12_method_43_code 13 = .ok (.iload_n 1, 1) := by decide +kernel
set_option maxRecDepth 100000 in
theorem c_Md_search_14 : ct_Md_search 14 = ka_if (fun x => 0 ≤ x) 20 := rfl
theorem d_Md_search_14 : decode prog_12_method_43_code 14 = .ok (.ifCond .ge 6, 3) := by decide +kernel
set_option maxRecDepth 100000 in
theorem c_Md_search_17 : ct_Md_search 17 = ka_ci (nI 34) 2 := rfl
theorem d_Md_search_17 : decode prog_12_method_43_code 17 = .ok (.bipush 34, 2) := by decide +kernel
set_option maxRecDepth 100000 in
theorem c_Md_search_19 : ct_Md_search 19 = ka_ri := rfl
theorem d_Md_search_19 : decode prog_12_method_43_code 19 = .ok (.ireturn, 1) := by decide +kernel
set_option maxRecDepth 100000 in
theorem c_Md_search_20 : ct_Md_search 20 = ka_il 1 1 := rfl
theorem d_Md_search_20 : decode prog_12_method_43_code 20 = .ok (.iload_n 1, 1) := by decide +kernel
set_option maxRecDepth 100000 in
theorem c_Md_search_21 : ct_Md_search 21 = ka_if (fun x => ¬ x = 0) 28 := rfl
theorem d_Md_search_21 : decode prog_12_method_43_code 21 = .ok (.ifCond .ne 7, 3) := by decide +kernel
set_option maxRecDepth 100000 in
theorem c_Md_search_24 : ct_Md_search 24 = ka_ci (-1) 1 := rfl
theorem d_Md_search_24 : decode prog_12_method_43_code 24 = .ok (.iconst (-1), 1) := by decide +kernel
set_option maxRecDepth 100000 in
theorem c_Md_search_25 : ct_Md_search 25 = ka_goto 33 := rfl
theorem d_Md_search_25 : decode prog_12_method_43_code 25 = .ok (.goto 8, 3) := by decide +kernel
set_option maxRecDepth 100000 in
theorem c_Md_search_28 : ct_Md_search 28 = ka_al 0 1 := rfl
theorem d_Md_search_28 : decode prog_12_method_43_code 28 = .ok (.aload_n 0, 1) := by decide +kernel
set_option maxRecDepth 100000 in
theorem c_Md_search_29 : ct_Md_search 29 = ka_ci (nI 0) 1 := rfl
theorem d_Md_search_29 : decode prog_12_method_43_code 29 = .ok (.iconst 0, 1) := by decide +kernel
set_option maxRecDepth 100000 in
theorem c_Md_search_30 : ct_Md_search 30 = ka_cv 109 1 10 0 0 := rfl
theorem d_Md_search_30 : decode prog_12_method_43_code 30 = .ok (.invokevirtual 258, 3) := by decide +kernel
set_option maxRecDepth 100000 in
theorem c_Md_search_33 : ct_Md_search 33 = ka_is 2 1 := rfl
theorem d_Md_search_33 : decode prog_12_method_43_code 33 = .ok (.istore_n 2, 1) := by decide +kernel
set_option maxRecDepth 100000 in
theorem c_Md_search_34 : ct_Md_search 34 = ka_il 1 1 := rfl
theorem d_Md_search_34 : decode prog_12_method_43_code 34 = .ok (.iload_n 1, 1) := by decide +kernel
set_option maxRecDepth 100000 in
theorem c_Md_search_35 : ct_Md_search 35 = ka_ci (nI 1) 1 := rfl
theorem d_Md_search_35 : decode prog_12_method_43_code 35 = .ok (.iconst 1, 1) := by decide +kernel
set_option maxRecDepth 100000 in
theorem c_Md_search_36 : ct_Md_search 36 = ka_cm (fun x y => ¬ x = y) 46 := rfl
theorem d_Md_search_36 : decode prog_12_method_43_code 36 = .ok (.if_icmp .ne 10, 3) := by decide +kernel
set_option maxRecDepth 100000 in
theorem c_Md_search_39 : ct_Md_search 39 = ka_il 2 1 := rfl
theorem d_Md_search_39 : decode prog_12_method_43_code 39 = .ok (.iload_n 2, 1) := by decide +kernel
set_option maxRecDepth 100000 in
theorem c_Md_search_40 : ct_Md_search 40 = ka_if (fun x => 0 ≤ x) 46 := rfl
theorem d_Md_search_40 : decode prog_12_method_43_code 40 = .ok (.ifCond .ge 6, 3) := by decide +kernel
set_option maxRecDepth 100000 in
theorem c_Md_search_43 : ct_Md_search 43 = ka_ci (nI 32) 2 := rfl
theorem d_Md_search_43 : decode prog_12_method_43_code 43 = .ok (.bipush 32, 2) := by decide +kernel
set_option maxRecDepth 100000 in
theorem c_Md_search_45 : ct_Md_search 45 = ka_ri := rfl
theorem d_Md_search_45 : decode prog_12_method_43_code 45 = .ok (.ireturn, 1) := by decide +kernel
set_option maxRecDepth 100000 in
theorem c_Md_search_46 : ct_Md_search 46 = ka_ci (nI 0) 1 := rfl
theorem d_Md_search_46 : decode prog_12_method_43_code 46 = .ok (.iconst 0, 1) := by decide +kernel
set_option maxRecDepth 100000 in
theorem c_Md_search_47 : ct_Md_search 47 = ka_is 3 1 := rfl
theorem d_Md_search_47 : decode prog_12_method_43_code 47 = .ok (.istore_n 3, 1) := by decide +kernel
set_option maxRecDepth 100000 in
theorem c_Md_search_48 : ct_Md_search 48 = ka_ci (nI 0) 1 := rfl
theorem d_Md_search_48 : decode prog_12_method_43_code 48 = .ok (.iconst 0, 1) := by decide +kernel
set_option maxRecDepth 100000 in
theorem c_Md_search_49 : ct_Md_search 49 = ka_is 4 2 := rfl
theorem d_Md_search_49 : decode prog_12_method_43_code 49 = .ok (.istore 4, 2) := by decide +kernel
set_option maxRecDepth 100000 in
theorem c_Md_search_51 : ct_Md_search 51 = ka_ci (nI 0) 1 := rfl
theorem d_Md_search_51 : decode prog_12_method_43_code 51 = .ok (.iconst 0, 1) := by decide +kernel
set_option maxRecDepth 100000 in
theorem c_Md_search_52 : ct_Md_search 52 = ka_is 5 2 := rfl
theorem d_Md_search_52 : decode prog_12_method_43_code 52 = .ok (.istore 5, 2) := by decide +kernel
set_option maxRecDepth 100000 in
theorem c_Md_search_54 : ct_Md_search 54 = ka_il 5 2 := rfl
theorem d_Md_search_54 : decode prog_12_method_43_code 54 = .ok (.iload 5, 2) := by decide +kernel
set_option maxRecDepth 100000 in
theorem c_Md_search_56 : ct_Md_search 56 = ka_al 0 1 := rfl
theorem d_Md_search_56 : decode prog_12_method_43_code 56 = .ok (.aload_n 0, 1) := by decide +kernel
set_option maxRecDepth 100000 in
theorem c_Md_search_57 : ct_Md_search 57 = ka_get 10 6 := rfl
theorem d_Md_search_57 : decode prog_12_method_43_code 57 = .ok (.getfield 83, 3) := by decide +kernel
set_option maxRecDepth 100000 in
theorem c_Md_search_60 : ct_Md_search 60 = ka_cm (fun x y => y ≤ x) 127 := rfl
theorem d_Md_search_60 : decode prog_12_method_43_code 60 = .ok (.if_icmp .ge 67, 3) := by decide +kernel
set_option maxRecDepth 100000 in
theorem c_Md_search_63 : ct_Md_search 63 = ka_al 0 1 := rfl
theorem d_Md_search_63 : decode prog_12_method_43_code 63 = .ok (.aload_n 0, 1) := by decide +kernel
set_option maxRecDepth 100000 in
theorem c_Md_search_64 : ct_Md_search 64 = ka_il 5 2 := rfl
theorem d_Md_search_64 : decode prog_12_method_43_code 64 = .ok (.iload 5, 2) := by decide +kernel
set_option maxRecDepth 100000 in
theorem c_Md_search_66 : ct_Md_search 66 = ka_il 2 1 := rfl
theorem d_Md_search_66 : decode prog_12_method_43_code 66 = .ok (.iload_n 2, 1) := by decide +kernel
set_option maxRecDepth 100000 in
theorem c_Md_search_67 : ct_Md_search 67 = ka_cv 137 2 10 0 0 := rfl
theorem d_Md_search_67 : decode prog_12_method_43_code 67 = .ok (.invokevirtual 279, 3) := by decide +kernel
set_option maxRecDepth 100000 in
theorem c_Md_search_70 : ct_Md_search 70 = ka_if (fun x => x = 0) 121 := rfl
theorem d_Md_search_70 : decode prog_12_method_43_code 70 = .ok (.ifCond .eq 51, 3) := by decide +kernel
set_option maxRecDepth 100000 in
theorem c_Md_search_73 : ct_Md_search 73 = ka_al 0 1 := rfl
theorem d_Md_search_73 : decode prog_12_method_43_code 73 = .ok (.aload_n 0, 1) := by decide +kernel
set_option maxRecDepth 100000 in
theorem c_Md_search_74 : ct_Md_search 74 = ka_il 5 2 := rfl
theorem d_Md_search_74 : decode prog_12_method_43_code 74 = .ok (.iload 5, 2) := by decide +kernel
set_option maxRecDepth 100000 in
theorem c_Md_search_76 : ct_Md_search 76 = ka_cv 136 1 10 0 0 := rfl
theorem d_Md_search_76 : decode prog_12_method_43_code 76 = .ok (.invokevirtual 282, 3) := by decide +kernel
set_option maxRecDepth 100000 in
theorem c_Md_search_79 : ct_Md_search 79 = ka_if (fun x => x = 0) 121 := rfl
theorem d_Md_search_79 : decode prog_12_method_43_code 79 = .ok (.ifCond .eq 42, 3) := by decide +kernel
set_option maxRecDepth 100000 in
theorem c_Md_search_82 : ct_Md_search 82 = ka_inc 3 (nI 1) := rfl
theorem d_Md_search_82 : decode prog_12_method_43_code 82 = .ok (.iinc 3 1, 3) := by decide +kernel
set_option maxRecDepth 100000 in
theorem c_Md_search_85 : ct_Md_search 85 = ka_il 4 2 := rfl
theorem d_Md_search_85 : decode prog_12_method_43_code 85 = .ok (.iload 4, 2) := by decide +kernel
set_option maxRecDepth 100000 in
theorem c_Md_search_87 : ct_Md_search 87 = ka_if (fun x => ¬ x = 0) 121 := rfl
theorem d_Md_search_87 : decode prog_12_method_43_code 87 = .ok (.ifCond .ne 34, 3) := by decide +kernel
set_option maxRecDepth 100000 in
theorem c_Md_search_90 : ct_Md_search 90 = ka_al 0 1 := rfl
theorem d_Md_search_90 : decode prog_12_method_43_code 90 = .ok (.aload_n 0, 1) := by decide +kernel
set_option maxRecDepth 100000 in
theorem c_Md_search_91 : ct_Md_search 91 = ka_get 10 29 := rfl
theorem d_Md_search_91 : decode prog_12_method_43_code 91 = .ok (.getfield 211, 3) := by decide +kernel
set_option maxRecDepth 100000 in
theorem c_Md_search_94 : ct_Md_search 94 = ka_if (fun x => x = 0) 105 := rfl
theorem d_Md_search_94 : decode prog_12_method_43_code 94 = .ok (.ifCond .eq 11, 3) := by decide +kernel
set_option maxRecDepth 100000 in
theorem c_Md_search_97 : ct_Md_search 97 = ka_il 3 1 := rfl
theorem d_Md_search_97 : decode prog_12_method_43_code 97 = .ok (.iload_n 3, 1) := by decide +kernel
set_option maxRecDepth 100000 in
theorem c_Md_search_98 : ct_Md_search 98 = ka_al 0 1 := rfl
theorem d_Md_search_98 : decode prog_12_method_43_code 98 = .ok (.aload_n 0, 1) := by decide +kernel
set_option maxRecDepth 100000 in
theorem c_Md_search_99 : ct_Md_search 99 = ka_get 10 29 := rfl
theorem d_Md_search_99 : decode prog_12_method_43_code 99 = .ok (.getfield 211, 3) := by decide +kernel
set_option maxRecDepth 100000 in
theorem c_Md_search_102 : ct_Md_search 102 = ka_cm (fun x y => y < x) 121 := rfl
theorem d_Md_search_102 : decode prog_12_method_43_code 102 = .ok (.if_icmp .gt 19, 3) := by decide +kernel
set_option maxRecDepth 100000 in
theorem c_Md_search_105 : ct_Md_search 105 = ka_al 0 1 := rfl
theorem d_Md_search_105 : decode prog_12_method_43_code 105 = .ok (.aload_n 0, 1) := by decide +kernel
set_option maxRecDepth 100000 in
theorem c_Md_search_106 : ct_Md_search 106 = ka_il 5 2 := rfl
theorem d_Md_search_106 : decode prog_12_method_43_code 106 = .ok (.iload 5, 2) := by decide +kernel
set_option maxRecDepth 100000 in
theorem c_Md_search_108 : ct_Md_search 108 = ka_cv 146 1 10 0 0 := rfl
theorem d_Md_search_108 : decode prog_12_method_43_code 108 = .ok (.invokevirtual 285, 3) := by decide +kernel
set_option maxRecDepth 100000 in
theorem c_Md_search_111 : ct_Md_search 111 = ka_if (fun x => ¬ x = 0) 118 := rfl
theorem d_Md_search_111 : decode prog_12_method_43_code 111 = .ok (.ifCond .ne 7, 3) := by decide +kernel
set_option maxRecDepth 100000 in
theorem c_Md_search_114 : ct_Md_search 114 = ka_ci (nI 1) 1 := rfl
theorem d_Md_search_114 : decode prog_12_method_43_code 114 = .ok (.iconst 1, 1) := by decide +kernel
set_option maxRecDepth 100000 in
theorem c_Md_search_115 : ct_Md_search 115 = ka_goto 119 := rfl
theorem d_Md_search_115 : decode prog_12_method_43_code 115 = .ok (.goto 4, 3) := by decide +kernel
set_option maxRecDepth 100000 in
theorem c_Md_search_118 : ct_Md_search 118 = ka_ci (nI 0) 1 := rfl
theorem d_Md_search_118 : decode prog_12_method_43_code 118 = .ok (.iconst 0, 1) := by decide +kernel
set_option maxRecDepth 100000 in
theorem c_Md_search_119 : ct_Md_search 119 = ka_is 4 2 := rfl
theorem d_Md_search_119 : decode prog_12_method_43_code 119 = .ok (.istore 4, 2) := by decide +kernel
set_option maxRecDepth 100000 in
theorem c_Md_search_121 : ct_Md_search 121 = ka_inc 5 (nI 1) := rfl
theorem d_Md_search_121 : decode prog_12_method_43_code 121 = .ok (.iinc 5 1, 3) := by decide +kernel
set_option maxRecDepth 100000 in
theorem c_Md_search_124 : ct_Md_search 124 = ka_goto 54 := rfl
theorem d_Md_search_124 : decode prog_12_method_43_code 124 = .ok (.goto (-70), 3) := by decide +kernel
set_option maxRecDepth 100000 in
theorem c_Md_search_127 : ct_Md_search 127 = ka_al 0 1 := rfl
theorem d_Md_search_127 : decode prog_12_method_43_code 127 = .ok (.aload_n 0, 1) := by decide +kernel
set_option maxRecDepth 100000 in
theorem c_Md_search_128 : ct_Md_search 128 = ka_get 10 29 := rfl
theorem d_Md_search_128 : decode prog_12_method_43_code 128 = .ok (.getfield 211, 3) := by decide +kernel
set_option maxRecDepth 100000 in
theorem c_Md_search_131 : ct_Md_search 131 = ka_if (fun x => x ≤ 0) 146 := rfl
theorem d_Md_search_131 : decode prog_12_method_43_code 131 = .ok (.ifCond .le 15, 3) := by decide +kernel
set_option maxRecDepth 100000 in
theorem c_Md_search_134 : ct_Md_search 134 = ka_il 3 1 := rfl
theorem d_Md_search_134 : decode prog_12_method_43_code 134 = .ok (.iload_n 3, 1) := by decide +kernel
set_option maxRecDepth 100000 in
theorem c_Md_search_135 : ct_Md_search 135 = ka_al 0 1 := rfl
theorem d_Md_search_135 : decode prog_12_method_43_code 135 = .ok (.aload_n 0, 1) := by decide +kernel
set_option maxRecDepth 100000 in
theorem c_Md_search_136 : ct_Md_search 136 = ka_get 10 29 := rfl
theorem d_Md_search_136 : decode prog_12_method_43_code 136 = .ok (.getfield 211, 3) := by decide +kernel
set_option maxRecDepth 100000 in
theorem c_Md_search_139 : ct_Md_search 139 = ka_cm (fun x y => x ≤ y) 146 := rfl
theorem d_Md_search_139 : decode prog_12_method_43_code 139 = .ok (.if_icmp .le 7, 3) := by decide +kernel
set_option maxRecDepth 100000 in
theorem c_Md_search_142 : ct_Md_search 142 = ka_ci (nI 4) 1 := rfl
theorem d_Md_search_142 : decode prog_12_method_43_code 142 = .ok (.iconst 4, 1) := by decide +kernel
set_option maxRecDepth 100000 in
theorem c_Md_search_143 : ct_Md_search 143 = ka_goto 157 := rfl
theorem d_Md_search_143 : decode prog_12_method_43_code 143 = .ok (.goto 14, 3) := by decide +kernel
set_option maxRecDepth 100000 in
theorem c_Md_search_146 : ct_Md_search 146 = ka_il 4 2 := rfl
theorem d_Md_search_146 : decode prog_12_method_43_code 146 = .ok (.iload 4, 2) := by decide +kernel
set_option maxRecDepth 100000 in
theorem c_Md_search_148 : ct_Md_search 148 = ka_if (fun x => x = 0) 156 := rfl
theorem d_Md_search_148 : decode prog_12_method_43_code 148 = .ok (.ifCond .eq 8, 3) := by decide +kernel
set_option maxRecDepth 100000 in
theorem c_Md_search_151 : ct_Md_search 151 = ka_ci (nI 11) 2 := rfl
theorem d_Md_search_151 : decode prog_12_method_43_code 151 = .ok (.bipush 11, 2) := by decide +kernel
set_option maxRecDepth 100000 in
theorem c_Md_search_153 : ct_Md_search 153 = ka_goto 157 := rfl
theorem d_Md_search_153 : decode prog_12_method_43_code 153 = .ok (.goto 4, 3) := by decide +kernel
set_option maxRecDepth 100000 in
theorem c_Md_search_156 : ct_Md_search 156 = ka_ci (nI 0) 1 := rfl
theorem d_Md_search_156 : decode prog_12_method_43_code 156 = .ok (.iconst 0, 1) := by decide +kernel
set_option maxRecDepth 100000 in
theorem c_Md_search_157 : ct_Md_search 157 = ka_ri := rfl
theorem d_Md_search_157 : decode prog_12_method_43_code 157 = .ok (.ireturn, 1) := by decide +kernel
set_option maxRecDepth 100000 in
set_option maxHeartbeats 4000000 in
theorem s_Md_search_60 : ∀ pc, pc < 60 → kc_Sim kt kw_A kw_N kt_cl kt_En "DirectoryDeskModel" prog_12_method_43_code 6 (some .int) "search" none pc (ct_Md_search pc) := by
  let P : Nat → Prop := fun pc => kc_Sim kt kw_A kw_N kt_cl kt_En "DirectoryDeskModel" prog_12_method_43_code 6 (some .int) "search" none pc (ct_Md_search pc)
  exact kc_case (P := P) (kc_se rfl sm_no) (
  kc_case (P := P) (kc_se rfl sm_no) (
  kc_case (P := P) (kc_se c_Md_search_57 (sm_get (ci := 10) (C := "DirectoryDeskModel") (F := kF_Md) rfl kin_Md (Nat.le_of_ble_eq_true rfl) d_Md_search_57 (kw3 189 rfl rfl))) (
  kc_case (P := P) (kc_se c_Md_search_56 (sm_aload_n d_Md_search_56 rfl)) (
  kc_case (P := P) (kc_se rfl sm_no) (
  kc_case (P := P) (kc_se c_Md_search_54 (sm_iload d_Md_search_54)) (
  kc_case (P := P) (kc_se rfl sm_no) (
  kc_case (P := P) (kc_se c_Md_search_52 (sm_istore d_Md_search_52 (Nat.le_of_ble_eq_true rfl))) (
  kc_case (P := P) (kc_se c_Md_search_51 (sm_iconst d_Md_search_51 (by decide))) (
  kc_case (P := P) (kc_se rfl sm_no) (
  kc_case (P := P) (kc_se c_Md_search_49 (sm_istore d_Md_search_49 (Nat.le_of_ble_eq_true rfl))) (
  kc_case (P := P) (kc_se c_Md_search_48 (sm_iconst d_Md_search_48 (by decide))) (
  kc_case (P := P) (kc_se c_Md_search_47 (sm_istore_n d_Md_search_47 rfl (Nat.le_of_ble_eq_true rfl))) (
  kc_case (P := P) (kc_se c_Md_search_46 (sm_iconst d_Md_search_46 (by decide))) (
  kc_case (P := P) (kc_se c_Md_search_45 (sm_ri d_Md_search_45 rfl)) (
  kc_case (P := P) (kc_se rfl sm_no) (
  kc_case (P := P) (kc_se c_Md_search_43 (sm_bipush d_Md_search_43 (by decide))) (
  kc_case (P := P) (kc_se rfl sm_no) (
  kc_case (P := P) (kc_se rfl sm_no) (
  kc_case (P := P) (kc_se c_Md_search_40 (sm_if_ge d_Md_search_40 (by decide))) (
  kc_case (P := P) (kc_se c_Md_search_39 (sm_iload_n d_Md_search_39 rfl)) (
  kc_case (P := P) (kc_se rfl sm_no) (
  kc_case (P := P) (kc_se rfl sm_no) (
  kc_case (P := P) (kc_se c_Md_search_36 (sm_cm_ne d_Md_search_36 (by decide))) (
  kc_case (P := P) (kc_se c_Md_search_35 (sm_iconst d_Md_search_35 (by decide))) (
  kc_case (P := P) (kc_se c_Md_search_34 (sm_iload_n d_Md_search_34 rfl)) (
  kc_case (P := P) (kc_se c_Md_search_33 (sm_istore_n d_Md_search_33 rfl (Nat.le_of_ble_eq_true rfl))) (
  kc_case (P := P) (kc_se rfl sm_no) (
  kc_case (P := P) (kc_se rfl sm_no) (
  kc_case (P := P) (kc_se c_Md_search_30 (sm_cv (j := 109) rfl rfl kw_o kw_g wc_Md_find (Nat.le_of_ble_eq_true rfl) hd_Md_find (ci := 10) (F := kF_Md) (N := 52) rfl (kw4 208 rfl rfl) wi_Md_find ws_Md_find wn_Md_find d_Md_search_30)) (
  kc_case (P := P) (kc_se c_Md_search_29 (sm_iconst d_Md_search_29 (by decide))) (
  kc_case (P := P) (kc_se c_Md_search_28 (sm_aload_n d_Md_search_28 rfl)) (
  kc_case (P := P) (kc_se rfl sm_no) (
  kc_case (P := P) (kc_se rfl sm_no) (
  kc_case (P := P) (kc_se c_Md_search_25 (sm_goto d_Md_search_25 (by decide))) (
  kc_case (P := P) (kc_se c_Md_search_24 (sm_iconst d_Md_search_24 (by decide))) (
  kc_case (P := P) (kc_se rfl sm_no) (
  kc_case (P := P) (kc_se rfl sm_no) (
  kc_case (P := P) (kc_se c_Md_search_21 (sm_if_ne d_Md_search_21 (by decide))) (
  kc_case (P := P) (kc_se c_Md_search_20 (sm_iload_n d_Md_search_20 rfl)) (
  kc_case (P := P) (kc_se c_Md_search_19 (sm_ri d_Md_search_19 rfl)) (
  kc_case (P := P) (kc_se rfl sm_no) (
  kc_case (P := P) (kc_se c_Md_search_17 (sm_bipush d_Md_search_17 (by decide))) (
  kc_case (P := P) (kc_se rfl sm_no) (
  kc_case (P := P) (kc_se rfl sm_no) (
  kc_case (P := P) (kc_se c_Md_search_14 (sm_if_ge d_Md_search_14 (by decide))) (
  kc_case (P := P) (kc_se c_Md_search_13 (sm_iload_n d_Md_search_13 rfl)) (
  kc_case (P := P) (kc_se c_Md_search_12 (sm_istore_n d_Md_search_12 rfl (Nat.le_of_ble_eq_true rfl))) (
  kc_case (P := P) (kc_se rfl sm_no) (
  kc_case (P := P) (kc_se rfl sm_no) (
  kc_case (P := P) (kc_se c_Md_search_9 (sm_cv (j := 107) rfl rfl kw_o kw_g wc_Md_takeName (Nat.le_of_ble_eq_true rfl) hd_Md_takeName (ci := 10) (F := kF_Md) (N := 52) rfl (kw4 204 rfl rfl) wi_Md_takeName ws_Md_takeName wn_Md_takeName d_Md_search_9)) (
  kc_case (P := P) (kc_se rfl sm_no) (
  kc_case (P := P) (kc_se rfl sm_no) (
  kc_case (P := P) (kc_se c_Md_search_6 (sm_get (ci := 10) (C := "DirectoryDeskModel") (F := kF_Md) rfl kin_Md (Nat.le_of_ble_eq_true rfl) d_Md_search_6 (kw3 207 rfl rfl))) (
  kc_case (P := P) (kc_se c_Md_search_5 (sm_aload_n d_Md_search_5 rfl)) (
  kc_case (P := P) (kc_se rfl sm_no) (
  kc_case (P := P) (kc_se rfl sm_no) (
  kc_case (P := P) (kc_se c_Md_search_2 (sm_get (ci := 10) (C := "DirectoryDeskModel") (F := kF_Md) rfl kin_Md (Nat.le_of_ble_eq_true rfl) d_Md_search_2 (kw3 206 rfl rfl))) (
  kc_case (P := P) (kc_se c_Md_search_1 (sm_aload_n d_Md_search_1 rfl)) (
  kc_case (P := P) (kc_se c_Md_search_0 (sm_aload_n d_Md_search_0 rfl)) (
  kc_case0))))))))))))))))))))))))))))))))))))))))))))))))))))))))))))
set_option maxRecDepth 100000 in
set_option maxHeartbeats 4000000 in
theorem s_Md_search_120 : ∀ pc, pc < 120 → kc_Sim kt kw_A kw_N kt_cl kt_En "DirectoryDeskModel" prog_12_method_43_code 6 (some .int) "search" none pc (ct_Md_search pc) := by
  let P : Nat → Prop := fun pc => kc_Sim kt kw_A kw_N kt_cl kt_En "DirectoryDeskModel" prog_12_method_43_code 6 (some .int) "search" none pc (ct_Md_search pc)
  exact kc_case (P := P) (kc_se c_Md_search_119 (sm_istore d_Md_search_119 (Nat.le_of_ble_eq_true rfl))) (
  kc_case (P := P) (kc_se c_Md_search_118 (sm_iconst d_Md_search_118 (by decide))) (
  kc_case (P := P) (kc_se rfl sm_no) (
  kc_case (P := P) (kc_se rfl sm_no) (
  kc_case (P := P) (kc_se c_Md_search_115 (sm_goto d_Md_search_115 (by decide))) (
  kc_case (P := P) (kc_se c_Md_search_114 (sm_iconst d_Md_search_114 (by decide))) (
  kc_case (P := P) (kc_se rfl sm_no) (
  kc_case (P := P) (kc_se rfl sm_no) (
  kc_case (P := P) (kc_se c_Md_search_111 (sm_if_ne d_Md_search_111 (by decide))) (
  kc_case (P := P) (kc_se rfl sm_no) (
  kc_case (P := P) (kc_se rfl sm_no) (
  kc_case (P := P) (kc_se c_Md_search_108 (sm_cv (j := 146) rfl rfl kw_o kw_g wc_Md_show (Nat.le_of_ble_eq_true rfl) hd_Md_show (ci := 10) (F := kF_Md) (N := 52) rfl (kw5 4 rfl rfl) wi_Md_show ws_Md_show wn_Md_show d_Md_search_108)) (
  kc_case (P := P) (kc_se rfl sm_no) (
  kc_case (P := P) (kc_se c_Md_search_106 (sm_iload d_Md_search_106)) (
  kc_case (P := P) (kc_se c_Md_search_105 (sm_aload_n d_Md_search_105 rfl)) (
  kc_case (P := P) (kc_se rfl sm_no) (
  kc_case (P := P) (kc_se rfl sm_no) (
  kc_case (P := P) (kc_se c_Md_search_102 (sm_cm_gt d_Md_search_102 (by decide))) (
  kc_case (P := P) (kc_se rfl sm_no) (
  kc_case (P := P) (kc_se rfl sm_no) (
  kc_case (P := P) (kc_se c_Md_search_99 (sm_get (ci := 10) (C := "DirectoryDeskModel") (F := kF_Md) rfl kin_Md (Nat.le_of_ble_eq_true rfl) d_Md_search_99 (kw3 212 rfl rfl))) (
  kc_case (P := P) (kc_se c_Md_search_98 (sm_aload_n d_Md_search_98 rfl)) (
  kc_case (P := P) (kc_se c_Md_search_97 (sm_iload_n d_Md_search_97 rfl)) (
  kc_case (P := P) (kc_se rfl sm_no) (
  kc_case (P := P) (kc_se rfl sm_no) (
  kc_case (P := P) (kc_se c_Md_search_94 (sm_if_eq d_Md_search_94 (by decide))) (
  kc_case (P := P) (kc_se rfl sm_no) (
  kc_case (P := P) (kc_se rfl sm_no) (
  kc_case (P := P) (kc_se c_Md_search_91 (sm_get (ci := 10) (C := "DirectoryDeskModel") (F := kF_Md) rfl kin_Md (Nat.le_of_ble_eq_true rfl) d_Md_search_91 (kw3 212 rfl rfl))) (
  kc_case (P := P) (kc_se c_Md_search_90 (sm_aload_n d_Md_search_90 rfl)) (
  kc_case (P := P) (kc_se rfl sm_no) (
  kc_case (P := P) (kc_se rfl sm_no) (
  kc_case (P := P) (kc_se c_Md_search_87 (sm_if_ne d_Md_search_87 (by decide))) (
  kc_case (P := P) (kc_se rfl sm_no) (
  kc_case (P := P) (kc_se c_Md_search_85 (sm_iload d_Md_search_85)) (
  kc_case (P := P) (kc_se rfl sm_no) (
  kc_case (P := P) (kc_se rfl sm_no) (
  kc_case (P := P) (kc_se c_Md_search_82 (sm_inc d_Md_search_82 (by decide) (Nat.le_of_ble_eq_true rfl))) (
  kc_case (P := P) (kc_se rfl sm_no) (
  kc_case (P := P) (kc_se rfl sm_no) (
  kc_case (P := P) (kc_se c_Md_search_79 (sm_if_eq d_Md_search_79 (by decide))) (
  kc_case (P := P) (kc_se rfl sm_no) (
  kc_case (P := P) (kc_se rfl sm_no) (
  kc_case (P := P) (kc_se c_Md_search_76 (sm_cv (j := 136) rfl rfl kw_o kw_g wc_Md_matches (Nat.le_of_ble_eq_true rfl) hd_Md_matches (ci := 10) (F := kF_Md) (N := 52) rfl (kw4 228 rfl rfl) wi_Md_matches ws_Md_matches wn_Md_matches d_Md_search_76)) (
  kc_case (P := P) (kc_se rfl sm_no) (
  kc_case (P := P) (kc_se c_Md_search_74 (sm_iload d_Md_search_74)) (
  kc_case (P := P) (kc_se c_Md_search_73 (sm_aload_n d_Md_search_73 rfl)) (
  kc_case (P := P) (kc_se rfl sm_no) (
  kc_case (P := P) (kc_se rfl sm_no) (
  kc_case (P := P) (kc_se c_Md_search_70 (sm_if_eq d_Md_search_70 (by decide))) (
  kc_case (P := P) (kc_se rfl sm_no) (
  kc_case (P := P) (kc_se rfl sm_no) (
  kc_case (P := P) (kc_se c_Md_search_67 (sm_cv (j := 137) rfl rfl kw_o kw_g wc_Md_inScope (Nat.le_of_ble_eq_true rfl) hd_Md_inScope (ci := 10) (F := kF_Md) (N := 52) rfl (kw4 220 rfl rfl) wi_Md_inScope ws_Md_inScope wn_Md_inScope d_Md_search_67)) (
  kc_case (P := P) (kc_se c_Md_search_66 (sm_iload_n d_Md_search_66 rfl)) (
  kc_case (P := P) (kc_se rfl sm_no) (
  kc_case (P := P) (kc_se c_Md_search_64 (sm_iload d_Md_search_64)) (
  kc_case (P := P) (kc_se c_Md_search_63 (sm_aload_n d_Md_search_63 rfl)) (
  kc_case (P := P) (kc_se rfl sm_no) (
  kc_case (P := P) (kc_se rfl sm_no) (
  kc_case (P := P) (kc_se c_Md_search_60 (sm_cm_ge d_Md_search_60 (by decide))) (
  s_Md_search_60))))))))))))))))))))))))))))))))))))))))))))))))))))))))))))
set_option maxRecDepth 100000 in
set_option maxHeartbeats 4000000 in
theorem s_Md_search_158 : ∀ pc, pc < 158 → kc_Sim kt kw_A kw_N kt_cl kt_En "DirectoryDeskModel" prog_12_method_43_code 6 (some .int) "search" none pc (ct_Md_search pc) := by
  let P : Nat → Prop := fun pc => kc_Sim kt kw_A kw_N kt_cl kt_En "DirectoryDeskModel" prog_12_method_43_code 6 (some .int) "search" none pc (ct_Md_search pc)
  exact kc_case (P := P) (kc_se c_Md_search_157 (sm_ri d_Md_search_157 rfl)) (
  kc_case (P := P) (kc_se c_Md_search_156 (sm_iconst d_Md_search_156 (by decide))) (
  kc_case (P := P) (kc_se rfl sm_no) (
  kc_case (P := P) (kc_se rfl sm_no) (
  kc_case (P := P) (kc_se c_Md_search_153 (sm_goto d_Md_search_153 (by decide))) (
  kc_case (P := P) (kc_se rfl sm_no) (
  kc_case (P := P) (kc_se c_Md_search_151 (sm_bipush d_Md_search_151 (by decide))) (
  kc_case (P := P) (kc_se rfl sm_no) (
  kc_case (P := P) (kc_se rfl sm_no) (
  kc_case (P := P) (kc_se c_Md_search_148 (sm_if_eq d_Md_search_148 (by decide))) (
  kc_case (P := P) (kc_se rfl sm_no) (
  kc_case (P := P) (kc_se c_Md_search_146 (sm_iload d_Md_search_146)) (
  kc_case (P := P) (kc_se rfl sm_no) (
  kc_case (P := P) (kc_se rfl sm_no) (
  kc_case (P := P) (kc_se c_Md_search_143 (sm_goto d_Md_search_143 (by decide))) (
  kc_case (P := P) (kc_se c_Md_search_142 (sm_iconst d_Md_search_142 (by decide))) (
  kc_case (P := P) (kc_se rfl sm_no) (
  kc_case (P := P) (kc_se rfl sm_no) (
  kc_case (P := P) (kc_se c_Md_search_139 (sm_cm_le d_Md_search_139 (by decide))) (
  kc_case (P := P) (kc_se rfl sm_no) (
  kc_case (P := P) (kc_se rfl sm_no) (
  kc_case (P := P) (kc_se c_Md_search_136 (sm_get (ci := 10) (C := "DirectoryDeskModel") (F := kF_Md) rfl kin_Md (Nat.le_of_ble_eq_true rfl) d_Md_search_136 (kw3 212 rfl rfl))) (
  kc_case (P := P) (kc_se c_Md_search_135 (sm_aload_n d_Md_search_135 rfl)) (
  kc_case (P := P) (kc_se c_Md_search_134 (sm_iload_n d_Md_search_134 rfl)) (
  kc_case (P := P) (kc_se rfl sm_no) (
  kc_case (P := P) (kc_se rfl sm_no) (
  kc_case (P := P) (kc_se c_Md_search_131 (sm_if_le d_Md_search_131 (by decide))) (
  kc_case (P := P) (kc_se rfl sm_no) (
  kc_case (P := P) (kc_se rfl sm_no) (
  kc_case (P := P) (kc_se c_Md_search_128 (sm_get (ci := 10) (C := "DirectoryDeskModel") (F := kF_Md) rfl kin_Md (Nat.le_of_ble_eq_true rfl) d_Md_search_128 (kw3 212 rfl rfl))) (
  kc_case (P := P) (kc_se c_Md_search_127 (sm_aload_n d_Md_search_127 rfl)) (
  kc_case (P := P) (kc_se rfl sm_no) (
  kc_case (P := P) (kc_se rfl sm_no) (
  kc_case (P := P) (kc_se c_Md_search_124 (sm_goto d_Md_search_124 (by decide))) (
  kc_case (P := P) (kc_se rfl sm_no) (
  kc_case (P := P) (kc_se rfl sm_no) (
  kc_case (P := P) (kc_se c_Md_search_121 (sm_inc d_Md_search_121 (by decide) (Nat.le_of_ble_eq_true rfl))) (
  kc_case (P := P) (kc_se rfl sm_no) (
  s_Md_search_120))))))))))))))))))))))))))))))))))))))
set_option maxRecDepth 100000 in
theorem ka_nth_no_Md_search (pc : Nat) (h : 158 ≤ pc) : ct_Md_search pc = ka_no := ka_nth_ge _ pc (Nat.le_trans (Nat.le_of_eq (by rfl)) h)
theorem s_Md_search (pc : Nat) : kc_Sim kt kw_A kw_N kt_cl kt_En "DirectoryDeskModel" prog_12_method_43_code 6 (some .int) "search" none pc (ct_Md_search pc) := (Nat.lt_or_ge pc 158).elim (s_Md_search_158 pc) (fun h => kc_se (ka_nth_no_Md_search pc h) sm_no)
def cl_Md_say_0 : List kc_A := [ka_al 0 1, ka_get 10 4, ka_no, ka_no, ka_al 0 1, ka_get 10 5, ka_no, ka_no, ka_il 1 1, ka_iast, ka_al 0 1, ka_dup, ka_get 10 5, ka_no, ka_no, ka_ci (nI 1) 1, ka_ii (fun x y => x + y), ka_put 10 5 .int, ka_no, ka_no, ka_ret]
def ct_Md_say : Nat → kc_A := fun pc => ka_nth (cl_Md_say_0) pc
set_option maxRecDepth 100000 in
theorem c_Md_say_0 : ct_Md_say 0 = ka_al 0 1 := rfl
theorem d_Md_say_0 : decode prog_12_method_44_code 0 = .ok (.aload_n 0, 1) := by decide +kernel
set_option maxRecDepth 100000 in
theorem c_Md_say_1 : ct_Md_say 1 = ka_get 10 4 := rfl
theorem d_Md_say_1 : decode prog_12_method_44_code 1 = .ok (.getfield 13, 3) := by decide +kernel
set_option maxRecDepth 100000 in
theorem c_Md_say_4 : ct_Md_say 4 = ka_al 0 1 := rfl
theorem d_Md_say_4 : decode prog_12_method_44_code 4 = .ok (.aload_n 0, 1) := by decide +kernel
set_option maxRecDepth 100000 in
theorem c_Md_say_5 : ct_Md_say 5 = ka_get 10 5 := rfl
theorem d_Md_say_5 : decode prog_12_method_44_code 5 = .ok (.getfield 288, 3) := by decide +kernel
set_option maxRecDepth 100000 in
theorem c_Md_say_8 : ct_Md_say 8 = ka_il 1 1 := rfl
theorem d_Md_say_8 : decode prog_12_method_44_code 8 = .ok (.iload_n 1, 1) := by decide +kernel
set_option maxRecDepth 100000 in
theorem c_Md_say_9 : ct_Md_say 9 = ka_iast := rfl
theorem d_Md_say_9 : decode prog_12_method_44_code 9 = .ok (.iastore, 1) := by decide +kernel
set_option maxRecDepth 100000 in
theorem c_Md_say_10 : ct_Md_say 10 = ka_al 0 1 := rfl
theorem d_Md_say_10 : decode prog_12_method_44_code 10 = .ok (.aload_n 0, 1) := by decide +kernel
set_option maxRecDepth 100000 in
theorem c_Md_say_11 : ct_Md_say 11 = ka_dup := rfl
theorem d_Md_say_11 : decode prog_12_method_44_code 11 = .ok (.dup, 1) := by decide +kernel
set_option maxRecDepth 100000 in
theorem c_Md_say_12 : ct_Md_say 12 = ka_get 10 5 := rfl
theorem d_Md_say_12 : decode prog_12_method_44_code 12 = .ok (.getfield 288, 3) := by decide +kernel
set_option maxRecDepth 100000 in
theorem c_Md_say_15 : ct_Md_say 15 = ka_ci (nI 1) 1 := rfl
theorem d_Md_say_15 : decode prog_12_method_44_code 15 = .ok (.iconst 1, 1) := by decide +kernel
set_option maxRecDepth 100000 in
theorem c_Md_say_16 : ct_Md_say 16 = ka_ii (fun x y => x + y) := rfl
theorem d_Md_say_16 : decode prog_12_method_44_code 16 = .ok (.iadd, 1) := by decide +kernel
set_option maxRecDepth 100000 in
theorem c_Md_say_17 : ct_Md_say 17 = ka_put 10 5 .int := rfl
theorem d_Md_say_17 : decode prog_12_method_44_code 17 = .ok (.putfield 288, 3) := by decide +kernel
set_option maxRecDepth 100000 in
theorem c_Md_say_20 : ct_Md_say 20 = ka_ret := rfl
theorem d_Md_say_20 : decode prog_12_method_44_code 20 = .ok (.return_, 1) := by decide +kernel
set_option maxRecDepth 100000 in
set_option maxHeartbeats 4000000 in
theorem s_Md_say_21 : ∀ pc, pc < 21 → kc_Sim kt kw_A kw_N kt_cl kt_En "DirectoryDeskModel" prog_12_method_44_code 2 (none) "say" none pc (ct_Md_say pc) := by
  let P : Nat → Prop := fun pc => kc_Sim kt kw_A kw_N kt_cl kt_En "DirectoryDeskModel" prog_12_method_44_code 2 (none) "say" none pc (ct_Md_say pc)
  exact kc_case (P := P) (kc_se c_Md_say_20 (sm_ret d_Md_say_20 rfl)) (
  kc_case (P := P) (kc_se rfl sm_no) (
  kc_case (P := P) (kc_se rfl sm_no) (
  kc_case (P := P) (kc_se c_Md_say_17 (sm_put (ci := 10) (C := "DirectoryDeskModel") (F := kF_Md) rfl kin_Md kty_Md ktk_Md knm_Md (Nat.le_of_ble_eq_true rfl) (by decide +kernel) d_Md_say_17 (kw3 188 rfl rfl) rfl)) (
  kc_case (P := P) (kc_se c_Md_say_16 (sm_iadd d_Md_say_16)) (
  kc_case (P := P) (kc_se c_Md_say_15 (sm_iconst d_Md_say_15 (by decide))) (
  kc_case (P := P) (kc_se rfl sm_no) (
  kc_case (P := P) (kc_se rfl sm_no) (
  kc_case (P := P) (kc_se c_Md_say_12 (sm_get (ci := 10) (C := "DirectoryDeskModel") (F := kF_Md) rfl kin_Md (Nat.le_of_ble_eq_true rfl) d_Md_say_12 (kw3 188 rfl rfl))) (
  kc_case (P := P) (kc_se c_Md_say_11 (sm_dup d_Md_say_11)) (
  kc_case (P := P) (kc_se c_Md_say_10 (sm_aload_n d_Md_say_10 rfl)) (
  kc_case (P := P) (kc_se c_Md_say_9 (sm_iast d_Md_say_9)) (
  kc_case (P := P) (kc_se c_Md_say_8 (sm_iload_n d_Md_say_8 rfl)) (
  kc_case (P := P) (kc_se rfl sm_no) (
  kc_case (P := P) (kc_se rfl sm_no) (
  kc_case (P := P) (kc_se c_Md_say_5 (sm_get (ci := 10) (C := "DirectoryDeskModel") (F := kF_Md) rfl kin_Md (Nat.le_of_ble_eq_true rfl) d_Md_say_5 (kw3 188 rfl rfl))) (
  kc_case (P := P) (kc_se c_Md_say_4 (sm_aload_n d_Md_say_4 rfl)) (
  kc_case (P := P) (kc_se rfl sm_no) (
  kc_case (P := P) (kc_se rfl sm_no) (
  kc_case (P := P) (kc_se c_Md_say_1 (sm_get (ci := 10) (C := "DirectoryDeskModel") (F := kF_Md) rfl kin_Md (Nat.le_of_ble_eq_true rfl) d_Md_say_1 (kw3 187 rfl rfl))) (
  kc_case (P := P) (kc_se c_Md_say_0 (sm_aload_n d_Md_say_0 rfl)) (
  kc_case0)))))))))))))))))))))
set_option maxRecDepth 100000 in
theorem ka_nth_no_Md_say (pc : Nat) (h : 21 ≤ pc) : ct_Md_say pc = ka_no := ka_nth_ge _ pc (Nat.le_trans (Nat.le_of_eq (by rfl)) h)
theorem s_Md_say (pc : Nat) : kc_Sim kt kw_A kw_N kt_cl kt_En "DirectoryDeskModel" prog_12_method_44_code 2 (none) "say" none pc (ct_Md_say pc) := (Nat.lt_or_ge pc 21).elim (s_Md_say_21 pc) (fun h => kc_se (ka_nth_no_Md_say pc h) sm_no)
def cl_Md_begin_0 : List kc_A := [ka_al 0 1, ka_il 1 1, ka_cv 139 1 10 0 0, ka_no, ka_no, ka_al 0 1, ka_ci (nI 0) 1, ka_cv 139 1 10 0 0, ka_no, ka_no, ka_al 0 1, ka_get 10 5, ka_no, ka_no, ka_ri]
def ct_Md_begin : Nat → kc_A := fun pc => ka_nth (cl_Md_begin_0) pc
set_option maxRecDepth 100000 in
theorem c_Md_begin_0 : ct_Md_begin 0 = ka_al 0 1 := rfl
theorem d_Md_begin_0 : decode prog_12_method_45_code 0 = .ok (.aload_n 0, 1) := by decide +kernel
set_option maxRecDepth 100000 in
theorem c_Md_begin_1 : ct_Md_begin 1 = ka_il 1 1 := rfl
theorem d_Md_begin_1 : decode prog_12_method_45_code 1 = .ok (.iload_n 1, 1) := by decide +kernel
set_option maxRecDepth 100000 in
theorem c_Md_begin_2 : ct_Md_begin 2 = ka_cv 139 1 10 0 0 := rfl
theorem d_Md_begin_2 : decode prog_12_method_45_code 2 = .ok (.invokevirtual 291, 3) := by decide +kernel
set_option maxRecDepth 100000 in
theorem c_Md_begin_5 : ct_Md_begin 5 = ka_al 0 1 := rfl
theorem d_Md_begin_5 : decode prog_12_method_45_code 5 = .ok (.aload_n 0, 1) := by decide +kernel
set_option maxRecDepth 100000 in
theorem c_Md_begin_6 : ct_Md_begin 6 = ka_ci (nI 0) 1 := rfl
theorem d_Md_begin_6 : decode prog_12_method_45_code 6 = .ok (.iconst 0, 1) := by decide +kernel
set_option maxRecDepth 100000 in
theorem c_Md_begin_7 : ct_Md_begin 7 = ka_cv 139 1 10 0 0 := rfl
theorem d_Md_begin_7 : decode prog_12_method_45_code 7 = .ok (.invokevirtual 291, 3) := by decide +kernel
set_option maxRecDepth 100000 in
theorem c_Md_begin_10 : ct_Md_begin 10 = ka_al 0 1 := rfl
theorem d_Md_begin_10 : decode prog_12_method_45_code 10 = .ok (.aload_n 0, 1) := by decide +kernel
set_option maxRecDepth 100000 in
theorem c_Md_begin_11 : ct_Md_begin 11 = ka_get 10 5 := rfl
theorem d_Md_begin_11 : decode prog_12_method_45_code 11 = .ok (.getfield 288, 3) := by decide +kernel
set_option maxRecDepth 100000 in
theorem c_Md_begin_14 : ct_Md_begin 14 = ka_ri := rfl
theorem d_Md_begin_14 : decode prog_12_method_45_code 14 = .ok (.ireturn, 1) := by decide +kernel
set_option maxRecDepth 100000 in
set_option maxHeartbeats 4000000 in
theorem s_Md_begin_15 : ∀ pc, pc < 15 → kc_Sim kt kw_A kw_N kt_cl kt_En "DirectoryDeskModel" prog_12_method_45_code 2 (some .int) "begin" none pc (ct_Md_begin pc) := by
  let P : Nat → Prop := fun pc => kc_Sim kt kw_A kw_N kt_cl kt_En "DirectoryDeskModel" prog_12_method_45_code 2 (some .int) "begin" none pc (ct_Md_begin pc)
  exact kc_case (P := P) (kc_se c_Md_begin_14 (sm_ri d_Md_begin_14 rfl)) (
  kc_case (P := P) (kc_se rfl sm_no) (
  kc_case (P := P) (kc_se rfl sm_no) (
  kc_case (P := P) (kc_se c_Md_begin_11 (sm_get (ci := 10) (C := "DirectoryDeskModel") (F := kF_Md) rfl kin_Md (Nat.le_of_ble_eq_true rfl) d_Md_begin_11 (kw3 188 rfl rfl))) (
  kc_case (P := P) (kc_se c_Md_begin_10 (sm_aload_n d_Md_begin_10 rfl)) (
  kc_case (P := P) (kc_se rfl sm_no) (
  kc_case (P := P) (kc_se rfl sm_no) (
  kc_case (P := P) (kc_se c_Md_begin_7 (sm_cv (j := 139) rfl rfl kw_o kw_g wc_Md_say (Nat.le_of_ble_eq_true rfl) hd_Md_say (ci := 10) (F := kF_Md) (N := 52) rfl (kw5 12 rfl rfl) wi_Md_say ws_Md_say wn_Md_say d_Md_begin_7)) (
  kc_case (P := P) (kc_se c_Md_begin_6 (sm_iconst d_Md_begin_6 (by decide))) (
  kc_case (P := P) (kc_se c_Md_begin_5 (sm_aload_n d_Md_begin_5 rfl)) (
  kc_case (P := P) (kc_se rfl sm_no) (
  kc_case (P := P) (kc_se rfl sm_no) (
  kc_case (P := P) (kc_se c_Md_begin_2 (sm_cv (j := 139) rfl rfl kw_o kw_g wc_Md_say (Nat.le_of_ble_eq_true rfl) hd_Md_say (ci := 10) (F := kF_Md) (N := 52) rfl (kw5 12 rfl rfl) wi_Md_say ws_Md_say wn_Md_say d_Md_begin_2)) (
  kc_case (P := P) (kc_se c_Md_begin_1 (sm_iload_n d_Md_begin_1 rfl)) (
  kc_case (P := P) (kc_se c_Md_begin_0 (sm_aload_n d_Md_begin_0 rfl)) (
  kc_case0)))))))))))))))
set_option maxRecDepth 100000 in
theorem ka_nth_no_Md_begin (pc : Nat) (h : 15 ≤ pc) : ct_Md_begin pc = ka_no := ka_nth_ge _ pc (Nat.le_trans (Nat.le_of_eq (by rfl)) h)
theorem s_Md_begin (pc : Nat) : kc_Sim kt kw_A kw_N kt_cl kt_En "DirectoryDeskModel" prog_12_method_45_code 2 (some .int) "begin" none pc (ct_Md_begin pc) := (Nat.lt_or_ge pc 15).elim (s_Md_begin_15 pc) (fun h => kc_se (ka_nth_no_Md_begin pc h) sm_no)
def cl_Md_close_0 : List kc_A := [ka_al 0 1, ka_get 10 4, ka_no, ka_no, ka_il 1 1, ka_ci (nI 1) 1, ka_ii (fun x y => x - y), ka_al 0 1, ka_get 10 5, ka_no, ka_no, ka_il 1 1, ka_ii (fun x y => x - y), ka_iast, ka_ret]
def ct_Md_close : Nat → kc_A := fun pc => ka_nth (cl_Md_close_0) pc
set_option maxRecDepth 100000 in
theorem c_Md_close_0 : ct_Md_close 0 = ka_al 0 1 := rfl
theorem d_Md_close_0 : decode prog_12_method_46_code 0 = .ok (.aload_n 0, 1) := by decide +kernel
set_option maxRecDepth 100000 in
theorem c_Md_close_1 : ct_Md_close 1 = ka_get 10 4 := rfl
theorem d_Md_close_1 : decode prog_12_method_46_code 1 = .ok (.getfield 13, 3) := by decide +kernel
set_option maxRecDepth 100000 in
theorem c_Md_close_4 : ct_Md_close 4 = ka_il 1 1 := rfl
theorem d_Md_close_4 : decode prog_12_method_46_code 4 = .ok (.iload_n 1, 1) := by decide +kernel
set_option maxRecDepth 100000 in
theorem c_Md_close_5 : ct_Md_close 5 = ka_ci (nI 1) 1 := rfl
theorem d_Md_close_5 : decode prog_12_method_46_code 5 = .ok (.iconst 1, 1) := by decide +kernel
set_option maxRecDepth 100000 in
theorem c_Md_close_6 : ct_Md_close 6 = ka_ii (fun x y => x - y) := rfl
theorem d_Md_close_6 : decode prog_12_method_46_code 6 = .ok (.isub, 1) := by decide +kernel
set_option maxRecDepth 100000 in
theorem c_Md_close_7 : ct_Md_close 7 = ka_al 0 1 := rfl
theorem d_Md_close_7 : decode prog_12_method_46_code 7 = .ok (.aload_n 0, 1) := by decide +kernel
set_option maxRecDepth 100000 in
theorem c_Md_close_8 : ct_Md_close 8 = ka_get 10 5 := rfl
theorem d_Md_close_8 : decode prog_12_method_46_code 8 = .ok (.getfield 288, 3) := by decide +kernel
set_option maxRecDepth 100000 in
theorem c_Md_close_11 : ct_Md_close 11 = ka_il 1 1 := rfl
theorem d_Md_close_11 : decode prog_12_method_46_code 11 = .ok (.iload_n 1, 1) := by decide +kernel
set_option maxRecDepth 100000 in
theorem c_Md_close_12 : ct_Md_close 12 = ka_ii (fun x y => x - y) := rfl
theorem d_Md_close_12 : decode prog_12_method_46_code 12 = .ok (.isub, 1) := by decide +kernel
set_option maxRecDepth 100000 in
theorem c_Md_close_13 : ct_Md_close 13 = ka_iast := rfl
theorem d_Md_close_13 : decode prog_12_method_46_code 13 = .ok (.iastore, 1) := by decide +kernel
set_option maxRecDepth 100000 in
theorem c_Md_close_14 : ct_Md_close 14 = ka_ret := rfl
theorem d_Md_close_14 : decode prog_12_method_46_code 14 = .ok (.return_, 1) := by decide +kernel
set_option maxRecDepth 100000 in
set_option maxHeartbeats 4000000 in
theorem s_Md_close_15 : ∀ pc, pc < 15 → kc_Sim kt kw_A kw_N kt_cl kt_En "DirectoryDeskModel" prog_12_method_46_code 2 (none) "close" none pc (ct_Md_close pc) := by
  let P : Nat → Prop := fun pc => kc_Sim kt kw_A kw_N kt_cl kt_En "DirectoryDeskModel" prog_12_method_46_code 2 (none) "close" none pc (ct_Md_close pc)
  exact kc_case (P := P) (kc_se c_Md_close_14 (sm_ret d_Md_close_14 rfl)) (
  kc_case (P := P) (kc_se c_Md_close_13 (sm_iast d_Md_close_13)) (
  kc_case (P := P) (kc_se c_Md_close_12 (sm_isub d_Md_close_12)) (
  kc_case (P := P) (kc_se c_Md_close_11 (sm_iload_n d_Md_close_11 rfl)) (
  kc_case (P := P) (kc_se rfl sm_no) (
  kc_case (P := P) (kc_se rfl sm_no) (
  kc_case (P := P) (kc_se c_Md_close_8 (sm_get (ci := 10) (C := "DirectoryDeskModel") (F := kF_Md) rfl kin_Md (Nat.le_of_ble_eq_true rfl) d_Md_close_8 (kw3 188 rfl rfl))) (
  kc_case (P := P) (kc_se c_Md_close_7 (sm_aload_n d_Md_close_7 rfl)) (
  kc_case (P := P) (kc_se c_Md_close_6 (sm_isub d_Md_close_6)) (
  kc_case (P := P) (kc_se c_Md_close_5 (sm_iconst d_Md_close_5 (by decide))) (
  kc_case (P := P) (kc_se c_Md_close_4 (sm_iload_n d_Md_close_4 rfl)) (
  kc_case (P := P) (kc_se rfl sm_no) (
  kc_case (P := P) (kc_se rfl sm_no) (
  kc_case (P := P) (kc_se c_Md_close_1 (sm_get (ci := 10) (C := "DirectoryDeskModel") (F := kF_Md) rfl kin_Md (Nat.le_of_ble_eq_true rfl) d_Md_close_1 (kw3 187 rfl rfl))) (
  kc_case (P := P) (kc_se c_Md_close_0 (sm_aload_n d_Md_close_0 rfl)) (
  kc_case0)))))))))))))))
set_option maxRecDepth 100000 in
theorem ka_nth_no_Md_close (pc : Nat) (h : 15 ≤ pc) : ct_Md_close pc = ka_no := ka_nth_ge _ pc (Nat.le_trans (Nat.le_of_eq (by rfl)) h)
theorem s_Md_close (pc : Nat) : kc_Sim kt kw_A kw_N kt_cl kt_En "DirectoryDeskModel" prog_12_method_46_code 2 (none) "close" none pc (ct_Md_close pc) := (Nat.lt_or_ge pc 15).elim (s_Md_close_15 pc) (fun h => kc_se (ka_nth_no_Md_close pc h) sm_no)
def cl_Md_sayId_0 : List kc_A := [ka_al 0 1, ka_ci (nI 2) 1, ka_cv 140 1 10 0 0, ka_no, ka_no, ka_is 1 1, ka_al 0 1, ka_get 10 16, ka_no, ka_no, ka_ci (nI 127) 2, ka_no, ka_cm (fun x y => x ≤ y) 27, ka_no, ka_no, ka_al 0 1, ka_al 0 1, ka_get 10 16, ka_no, ka_no, ka_ci (nI 256) 3, ka_no, ka_no, ka_idiv, ka_cv 139 1 10 0 0, ka_no, ka_no, ka_al 0 1, ka_al 0 1, ka_get 10 16, ka_no, ka_no, ka_ci (nI 256) 3, ka_no, ka_no, ka_irem, ka_cv 139 1 10 0 0, ka_no, ka_no, ka_al 0 1, ka_il 1 1, ka_cv 141 1 10 0 0, ka_no, ka_no, ka_ret]
def ct_Md_sayId : Nat → kc_A := fun pc => ka_nth (cl_Md_sayId_0) pc
set_option maxRecDepth 100000 in
theorem c_Md_sayId_0 : ct_Md_sayId 0 = ka_al 0 1 := rfl
theorem d_Md_sayId_0 : decode prog_12_method_47_code 0 = .ok (.aload_n 0, 1) := by decide +kernel
set_option maxRecDepth 100000 in
theorem c_Md_sayId_1 : ct_Md_sayId 1 = ka_ci (nI 2) 1 := rfl
theorem d_Md_sayId_1 : decode prog_12_method_47_code 1 = .ok (.iconst 2, 1) := by decide +kernel
set_option maxRecDepth 100000 in
theorem c_Md_sayId_2 : ct_Md_sayId 2 = ka_cv 140 1 10 0 0 := rfl
theorem d_Md_sayId_2 : decode prog_12_method_47_code 2 = .ok (.invokevirtual 294, 3) := by decide +kernel
set_option maxRecDepth 100000 in
theorem c_Md_sayId_5 : ct_Md_sayId 5 = ka_is 1 1 := rfl
theorem d_Md_sayId_5 : decode prog_12_method_47_code 5 = .ok (.istore_n 1, 1) := by decide +kernel
set_option maxRecDepth 100000 in
theorem c_Md_sayId_6 : ct_Md_sayId 6 = ka_al 0 1 := rfl
theorem d_Md_sayId_6 : decode prog_12_method_47_code 6 = .ok (.aload_n 0, 1) := by decide +kernel
set_option maxRecDepth 100000 in
theorem c_Md_sayId_7 : ct_Md_sayId 7 = ka_get 10 16 := rfl
theorem d_Md_sayId_7 : decode prog_12_method_47_code 7 = .ok (.getfield 297, 3) := by decide +kernel
set_option maxRecDepth 100000 in
theorem c_Md_sayId_10 : ct_Md_sayId 10 = ka_ci (nI 127) 2 := rfl
theorem d_Md_sayId_10 : decode prog_12_method_47_code 10 = .ok (.bipush 127, 2) := by decide +kernel
set_option maxRecDepth 100000 in
theorem c_Md_sayId_12 : ct_Md_sayId 12 = ka_cm (fun x y => x ≤ y) 27 := rfl
theorem d_Md_sayId_12 : decode prog_12_method_47_code 12 = .ok (.if_icmp .le 15, 3) := by decide +kernel
set_option maxRecDepth 100000 in
theorem c_Md_sayId_15 : ct_Md_sayId 15 = ka_al 0 1 := rfl
theorem d_Md_sayId_15 : decode prog_12_method_47_code 15 = .ok (.aload_n 0, 1) := by decide +kernel
set_option maxRecDepth 100000 in
theorem c_Md_sayId_16 : ct_Md_sayId 16 = ka_al 0 1 := rfl
theorem d_Md_sayId_16 : decode prog_12_method_47_code 16 = .ok (.aload_n 0, 1) := by decide +kernel
set_option maxRecDepth 100000 in
theorem c_Md_sayId_17 : ct_Md_sayId 17 = ka_get 10 16 := rfl
theorem d_Md_sayId_17 : decode prog_12_method_47_code 17 = .ok (.getfield 297, 3) := by decide +kernel
set_option maxRecDepth 100000 in
theorem c_Md_sayId_20 : ct_Md_sayId 20 = ka_ci (nI 256) 3 := rfl
theorem d_Md_sayId_20 : decode prog_12_method_47_code 20 = .ok (.sipush 256, 3) := by decide +kernel
set_option maxRecDepth 100000 in
theorem c_Md_sayId_23 : ct_Md_sayId 23 = ka_idiv := rfl
theorem d_Md_sayId_23 : decode prog_12_method_47_code 23 = .ok (.idiv, 1) := by decide +kernel
set_option maxRecDepth 100000 in
theorem c_Md_sayId_24 : ct_Md_sayId 24 = ka_cv 139 1 10 0 0 := rfl
theorem d_Md_sayId_24 : decode prog_12_method_47_code 24 = .ok (.invokevirtual 291, 3) := by decide +kernel
set_option maxRecDepth 100000 in
theorem c_Md_sayId_27 : ct_Md_sayId 27 = ka_al 0 1 := rfl
theorem d_Md_sayId_27 : decode prog_12_method_47_code 27 = .ok (.aload_n 0, 1) := by decide +kernel
set_option maxRecDepth 100000 in
theorem c_Md_sayId_28 : ct_Md_sayId 28 = ka_al 0 1 := rfl
theorem d_Md_sayId_28 : decode prog_12_method_47_code 28 = .ok (.aload_n 0, 1) := by decide +kernel
set_option maxRecDepth 100000 in
theorem c_Md_sayId_29 : ct_Md_sayId 29 = ka_get 10 16 := rfl
theorem d_Md_sayId_29 : decode prog_12_method_47_code 29 = .ok (.getfield 297, 3) := by decide +kernel
set_option maxRecDepth 100000 in
theorem c_Md_sayId_32 : ct_Md_sayId 32 = ka_ci (nI 256) 3 := rfl
theorem d_Md_sayId_32 : decode prog_12_method_47_code 32 = .ok (.sipush 256, 3) := by decide +kernel
set_option maxRecDepth 100000 in
theorem c_Md_sayId_35 : ct_Md_sayId 35 = ka_irem := rfl
theorem d_Md_sayId_35 : decode prog_12_method_47_code 35 = .ok (.irem, 1) := by decide +kernel
set_option maxRecDepth 100000 in
theorem c_Md_sayId_36 : ct_Md_sayId 36 = ka_cv 139 1 10 0 0 := rfl
theorem d_Md_sayId_36 : decode prog_12_method_47_code 36 = .ok (.invokevirtual 291, 3) := by decide +kernel
set_option maxRecDepth 100000 in
theorem c_Md_sayId_39 : ct_Md_sayId 39 = ka_al 0 1 := rfl
theorem d_Md_sayId_39 : decode prog_12_method_47_code 39 = .ok (.aload_n 0, 1) := by decide +kernel
set_option maxRecDepth 100000 in
theorem c_Md_sayId_40 : ct_Md_sayId 40 = ka_il 1 1 := rfl
theorem d_Md_sayId_40 : decode prog_12_method_47_code 40 = .ok (.iload_n 1, 1) := by decide +kernel
set_option maxRecDepth 100000 in
theorem c_Md_sayId_41 : ct_Md_sayId 41 = ka_cv 141 1 10 0 0 := rfl
theorem d_Md_sayId_41 : decode prog_12_method_47_code 41 = .ok (.invokevirtual 300, 3) := by decide +kernel
set_option maxRecDepth 100000 in
theorem c_Md_sayId_44 : ct_Md_sayId 44 = ka_ret := rfl
theorem d_Md_sayId_44 : decode prog_12_method_47_code 44 = .ok (.return_, 1) := by decide +kernel
set_option maxRecDepth 100000 in
set_option maxHeartbeats 4000000 in
theorem s_Md_sayId_45 : ∀ pc, pc < 45 → kc_Sim kt kw_A kw_N kt_cl kt_En "DirectoryDeskModel" prog_12_method_47_code 2 (none) "sayId" none pc (ct_Md_sayId pc) := by
  let P : Nat → Prop := fun pc => kc_Sim kt kw_A kw_N kt_cl kt_En "DirectoryDeskModel" prog_12_method_47_code 2 (none) "sayId" none pc (ct_Md_sayId pc)
  exact kc_case (P := P) (kc_se c_Md_sayId_44 (sm_ret d_Md_sayId_44 rfl)) (
  kc_case (P := P) (kc_se rfl sm_no) (
  kc_case (P := P) (kc_se rfl sm_no) (
  kc_case (P := P) (kc_se c_Md_sayId_41 (sm_cv (j := 141) rfl rfl kw_o kw_g wc_Md_close (Nat.le_of_ble_eq_true rfl) hd_Md_close (ci := 10) (F := kF_Md) (N := 52) rfl (kw5 20 rfl rfl) wi_Md_close ws_Md_close wn_Md_close d_Md_sayId_41)) (
  kc_case (P := P) (kc_se c_Md_sayId_40 (sm_iload_n d_Md_sayId_40 rfl)) (
  kc_case (P := P) (kc_se c_Md_sayId_39 (sm_aload_n d_Md_sayId_39 rfl)) (
  kc_case (P := P) (kc_se rfl sm_no) (
  kc_case (P := P) (kc_se rfl sm_no) (
  kc_case (P := P) (kc_se c_Md_sayId_36 (sm_cv (j := 139) rfl rfl kw_o kw_g wc_Md_say (Nat.le_of_ble_eq_true rfl) hd_Md_say (ci := 10) (F := kF_Md) (N := 52) rfl (kw5 12 rfl rfl) wi_Md_say ws_Md_say wn_Md_say d_Md_sayId_36)) (
  kc_case (P := P) (kc_se c_Md_sayId_35 (sm_irem d_Md_sayId_35)) (
  kc_case (P := P) (kc_se rfl sm_no) (
  kc_case (P := P) (kc_se rfl sm_no) (
  kc_case (P := P) (kc_se c_Md_sayId_32 (sm_sipush d_Md_sayId_32 (by decide))) (
  kc_case (P := P) (kc_se rfl sm_no) (
  kc_case (P := P) (kc_se rfl sm_no) (
  kc_case (P := P) (kc_se c_Md_sayId_29 (sm_get (ci := 10) (C := "DirectoryDeskModel") (F := kF_Md) rfl kin_Md (Nat.le_of_ble_eq_true rfl) d_Md_sayId_29 (kw3 199 rfl rfl))) (
  kc_case (P := P) (kc_se c_Md_sayId_28 (sm_aload_n d_Md_sayId_28 rfl)) (
  kc_case (P := P) (kc_se c_Md_sayId_27 (sm_aload_n d_Md_sayId_27 rfl)) (
  kc_case (P := P) (kc_se rfl sm_no) (
  kc_case (P := P) (kc_se rfl sm_no) (
  kc_case (P := P) (kc_se c_Md_sayId_24 (sm_cv (j := 139) rfl rfl kw_o kw_g wc_Md_say (Nat.le_of_ble_eq_true rfl) hd_Md_say (ci := 10) (F := kF_Md) (N := 52) rfl (kw5 12 rfl rfl) wi_Md_say ws_Md_say wn_Md_say d_Md_sayId_24)) (
  kc_case (P := P) (kc_se c_Md_sayId_23 (sm_idiv d_Md_sayId_23)) (
  kc_case (P := P) (kc_se rfl sm_no) (
  kc_case (P := P) (kc_se rfl sm_no) (
  kc_case (P := P) (kc_se c_Md_sayId_20 (sm_sipush d_Md_sayId_20 (by decide))) (
  kc_case (P := P) (kc_se rfl sm_no) (
  kc_case (P := P) (kc_se rfl sm_no) (
  kc_case (P := P) (kc_se c_Md_sayId_17 (sm_get (ci := 10) (C := "DirectoryDeskModel") (F := kF_Md) rfl kin_Md (Nat.le_of_ble_eq_true rfl) d_Md_sayId_17 (kw3 199 rfl rfl))) (
  kc_case (P := P) (kc_se c_Md_sayId_16 (sm_aload_n d_Md_sayId_16 rfl)) (
  kc_case (P := P) (kc_se c_Md_sayId_15 (sm_aload_n d_Md_sayId_15 rfl)) (
  kc_case (P := P) (kc_se rfl sm_no) (
  kc_case (P := P) (kc_se rfl sm_no) (
  kc_case (P := P) (kc_se c_Md_sayId_12 (sm_cm_le d_Md_sayId_12 (by decide))) (
  kc_case (P := P) (kc_se rfl sm_no) (
  kc_case (P := P) (kc_se c_Md_sayId_10 (sm_bipush d_Md_sayId_10 (by decide))) (
  kc_case (P := P) (kc_se rfl sm_no) (
  kc_case (P := P) (kc_se rfl sm_no) (
  kc_case (P := P) (kc_se c_Md_sayId_7 (sm_get (ci := 10) (C := "DirectoryDeskModel") (F := kF_Md) rfl kin_Md (Nat.le_of_ble_eq_true rfl) d_Md_sayId_7 (kw3 199 rfl rfl))) (
  kc_case (P := P) (kc_se c_Md_sayId_6 (sm_aload_n d_Md_sayId_6 rfl)) (
  kc_case (P := P) (kc_se c_Md_sayId_5 (sm_istore_n d_Md_sayId_5 rfl (Nat.le_of_ble_eq_true rfl))) (
  kc_case (P := P) (kc_se rfl sm_no) (
  kc_case (P := P) (kc_se rfl sm_no) (
  kc_case (P := P) (kc_se c_Md_sayId_2 (sm_cv (j := 140) rfl rfl kw_o kw_g wc_Md_begin (Nat.le_of_ble_eq_true rfl) hd_Md_begin (ci := 10) (F := kF_Md) (N := 52) rfl (kw5 8 rfl rfl) wi_Md_begin ws_Md_begin wn_Md_begin d_Md_sayId_2)) (
  kc_case (P := P) (kc_se c_Md_sayId_1 (sm_iconst d_Md_sayId_1 (by decide))) (
  kc_case (P := P) (kc_se c_Md_sayId_0 (sm_aload_n d_Md_sayId_0 rfl)) (
  kc_case0)))))))))))))))))))))))))))))))))))))))))))))
set_option maxRecDepth 100000 in
theorem ka_nth_no_Md_sayId (pc : Nat) (h : 45 ≤ pc) : ct_Md_sayId pc = ka_no := ka_nth_ge _ pc (Nat.le_trans (Nat.le_of_eq (by rfl)) h)
theorem s_Md_sayId (pc : Nat) : kc_Sim kt kw_A kw_N kt_cl kt_En "DirectoryDeskModel" prog_12_method_47_code 2 (none) "sayId" none pc (ct_Md_sayId pc) := (Nat.lt_or_ge pc 45).elim (s_Md_sayId_45 pc) (fun h => kc_se (ka_nth_no_Md_sayId pc h) sm_no)
def cl_Md_sayValue_0 : List kc_A := [ka_ci (nI 56) 2, ka_no, ka_is 3 1, ka_il 3 1, ka_if (fun x => x < 0) 34, ka_no, ka_no, ka_ll 1 1, ka_il 3 1, ka_lsh (fun x y => x >>> (y.toInt64 &&& 63)), ka_cl (255) 3, ka_no, ka_no, ka_ll2 (fun x y => x &&& y), ka_l2i, ka_is 4 2, ka_no, ka_il 4 2, ka_no, ka_if (fun x => x ≤ 0) 28, ka_no, ka_no, ka_al 0 1, ka_il 4 2, ka_no, ka_cv 139 1 10 0 0, ka_no, ka_no, ka_inc 3 (-8), ka_no, ka_no, ka_goto 3, ka_no, ka_no, ka_ret]
def ct_Md_sayValue : Nat → kc_A := fun pc => ka_nth (cl_Md_sayValue_0) pc
set_option maxRecDepth 100000 in
theorem c_Md_sayValue_0 : ct_Md_sayValue 0 = ka_ci (nI 56) 2 := rfl
theorem d_Md_sayValue_0 : decode prog_12_method_48_code 0 = .ok (.bipush 56, 2) := by decide +kernel
set_option maxRecDepth 100000 in
theorem c_Md_sayValue_2 : ct_Md_sayValue 2 = ka_is 3 1 := rfl
theorem d_Md_sayValue_2 : decode prog_12_method_48_code 2 = .ok (.istore_n 3, 1) := by decide +kernel
set_option maxRecDepth 100000 in
theorem c_Md_sayValue_3 : ct_Md_sayValue 3 = ka_il 3 1 := rfl
theorem d_Md_sayValue_3 : decode prog_12_method_48_code 3 = .ok (.iload_n 3, 1) := by decide +kernel
set_option maxRecDepth 100000 in
theorem c_Md_sayValue_4 : ct_Md_sayValue 4 = ka_if (fun x => x < 0) 34 := rfl
theorem d_Md_sayValue_4 : decode prog_12_method_48_code 4 = .ok (.ifCond .lt 30, 3) := by decide +kernel
set_option maxRecDepth 100000 in
theorem c_Md_sayValue_7 : ct_Md_sayValue 7 = ka_ll 1 1 := rfl
theorem d_Md_sayValue_7 : decode prog_12_method_48_code 7 = .ok (.lload_n 1, 1) := by decide +kernel
set_option maxRecDepth 100000 in
theorem c_Md_sayValue_8 : ct_Md_sayValue 8 = ka_il 3 1 := rfl
theorem d_Md_sayValue_8 : decode prog_12_method_48_code 8 = .ok (.iload_n 3, 1) := by decide +kernel
set_option maxRecDepth 100000 in
theorem c_Md_sayValue_9 : ct_Md_sayValue 9 = ka_lsh (fun x y => x >>> (y.toInt64 &&& 63)) := rfl
theorem d_Md_sayValue_9 : decode prog_12_method_48_code 9 = .ok (.lshr, 1) := by decide +kernel
set_option maxRecDepth 100000 in
theorem c_Md_sayValue_10 : ct_Md_sayValue 10 = ka_cl (255) 3 := rfl
theorem d_Md_sayValue_10 : decode prog_12_method_48_code 10 = .ok (.ldc2_w 101, 3) := by decide +kernel
set_option maxRecDepth 100000 in
theorem c_Md_sayValue_13 : ct_Md_sayValue 13 = ka_ll2 (fun x y => x &&& y) := rfl
theorem d_Md_sayValue_13 : decode prog_12_method_48_code 13 = .ok (.land, 1) := by decide +kernel
set_option maxRecDepth 100000 in
theorem c_Md_sayValue_14 : ct_Md_sayValue 14 = ka_l2i := rfl
theorem d_Md_sayValue_14 : decode prog_12_method_48_code 14 = .ok (.l2i, 1) := by decide +kernel
set_option maxRecDepth 100000 in
theorem c_Md_sayValue_15 : ct_Md_sayValue 15 = ka_is 4 2 := rfl
theorem d_Md_sayValue_15 : decode prog_12_method_48_code 15 = .ok (.istore 4, 2) := by decide +kernel
set_option maxRecDepth 100000 in
theorem c_Md_sayValue_17 : ct_Md_sayValue 17 = ka_il 4 2 := rfl
theorem d_Md_sayValue_17 : decode prog_12_method_48_code 17 = .ok (.iload 4, 2) := by decide +kernel
set_option maxRecDepth 100000 in
theorem c_Md_sayValue_19 : ct_Md_sayValue 19 = ka_if (fun x => x ≤ 0) 28 := rfl
theorem d_Md_sayValue_19 : decode prog_12_method_48_code 19 = .ok (.ifCond .le 9, 3) := by decide +kernel
set_option maxRecDepth 100000 in
theorem c_Md_sayValue_22 : ct_Md_sayValue 22 = ka_al 0 1 := rfl
theorem d_Md_sayValue_22 : decode prog_12_method_48_code 22 = .ok (.aload_n 0, 1) := by decide +kernel
set_option maxRecDepth 100000 in
theorem c_Md_sayValue_23 : ct_Md_sayValue 23 = ka_il 4 2 := rfl
theorem d_Md_sayValue_23 : decode prog_12_method_48_code 23 = .ok (.iload 4, 2) := by decide +kernel
set_option maxRecDepth 100000 in
theorem c_Md_sayValue_25 : ct_Md_sayValue 25 = ka_cv 139 1 10 0 0 := rfl
theorem d_Md_sayValue_25 : decode prog_12_method_48_code 25 = .ok (.invokevirtual 291, 3) := by decide +kernel
set_option maxRecDepth 100000 in
theorem c_Md_sayValue_28 : ct_Md_sayValue 28 = ka_inc 3 (-8) := rfl
theorem d_Md_sayValue_28 : decode prog_12_method_48_code 28 = .ok (.iinc 3 (-8), 3) := by decide +kernel
set_option maxRecDepth 100000 in
theorem c_Md_sayValue_31 : ct_Md_sayValue 31 = ka_goto 3 := rfl
theorem d_Md_sayValue_31 : decode prog_12_method_48_code 31 = .ok (.goto (-28), 3) := by decide +kernel
set_option maxRecDepth 100000 in
theorem c_Md_sayValue_34 : ct_Md_sayValue 34 = ka_ret := rfl
theorem d_Md_sayValue_34 : decode prog_12_method_48_code 34 = .ok (.return_, 1) := by decide +kernel
set_option maxRecDepth 100000 in
set_option maxHeartbeats 4000000 in
theorem s_Md_sayValue_35 : ∀ pc, pc < 35 → kc_Sim kt kw_A kw_N kt_cl kt_En "DirectoryDeskModel" prog_12_method_48_code 5 (none) "sayValue" none pc (ct_Md_sayValue pc) := by
  let P : Nat → Prop := fun pc => kc_Sim kt kw_A kw_N kt_cl kt_En "DirectoryDeskModel" prog_12_method_48_code 5 (none) "sayValue" none pc (ct_Md_sayValue pc)
  exact kc_case (P := P) (kc_se c_Md_sayValue_34 (sm_ret d_Md_sayValue_34 rfl)) (
  kc_case (P := P) (kc_se rfl sm_no) (
  kc_case (P := P) (kc_se rfl sm_no) (
  kc_case (P := P) (kc_se c_Md_sayValue_31 (sm_goto d_Md_sayValue_31 (by decide))) (
  kc_case (P := P) (kc_se rfl sm_no) (
  kc_case (P := P) (kc_se rfl sm_no) (
  kc_case (P := P) (kc_se c_Md_sayValue_28 (sm_inc d_Md_sayValue_28 (by decide) (Nat.le_of_ble_eq_true rfl))) (
  kc_case (P := P) (kc_se rfl sm_no) (
  kc_case (P := P) (kc_se rfl sm_no) (
  kc_case (P := P) (kc_se c_Md_sayValue_25 (sm_cv (j := 139) rfl rfl kw_o kw_g wc_Md_say (Nat.le_of_ble_eq_true rfl) hd_Md_say (ci := 10) (F := kF_Md) (N := 52) rfl (kw5 12 rfl rfl) wi_Md_say ws_Md_say wn_Md_say d_Md_sayValue_25)) (
  kc_case (P := P) (kc_se rfl sm_no) (
  kc_case (P := P) (kc_se c_Md_sayValue_23 (sm_iload d_Md_sayValue_23)) (
  kc_case (P := P) (kc_se c_Md_sayValue_22 (sm_aload_n d_Md_sayValue_22 rfl)) (
  kc_case (P := P) (kc_se rfl sm_no) (
  kc_case (P := P) (kc_se rfl sm_no) (
  kc_case (P := P) (kc_se c_Md_sayValue_19 (sm_if_le d_Md_sayValue_19 (by decide))) (
  kc_case (P := P) (kc_se rfl sm_no) (
  kc_case (P := P) (kc_se c_Md_sayValue_17 (sm_iload d_Md_sayValue_17)) (
  kc_case (P := P) (kc_se rfl sm_no) (
  kc_case (P := P) (kc_se c_Md_sayValue_15 (sm_istore d_Md_sayValue_15 (Nat.le_of_ble_eq_true rfl))) (
  kc_case (P := P) (kc_se c_Md_sayValue_14 (sm_l2i d_Md_sayValue_14)) (
  kc_case (P := P) (kc_se c_Md_sayValue_13 (sm_land d_Md_sayValue_13)) (
  kc_case (P := P) (kc_se rfl sm_no) (
  kc_case (P := P) (kc_se rfl sm_no) (
  kc_case (P := P) (kc_se c_Md_sayValue_10 (sm_ldc2 d_Md_sayValue_10 (kw4 108 rfl rfl))) (
  kc_case (P := P) (kc_se c_Md_sayValue_9 (sm_lshr d_Md_sayValue_9)) (
  kc_case (P := P) (kc_se c_Md_sayValue_8 (sm_iload_n d_Md_sayValue_8 rfl)) (
  kc_case (P := P) (kc_se c_Md_sayValue_7 (sm_lload_n d_Md_sayValue_7 rfl)) (
  kc_case (P := P) (kc_se rfl sm_no) (
  kc_case (P := P) (kc_se rfl sm_no) (
  kc_case (P := P) (kc_se c_Md_sayValue_4 (sm_if_lt d_Md_sayValue_4 (by decide))) (
  kc_case (P := P) (kc_se c_Md_sayValue_3 (sm_iload_n d_Md_sayValue_3 rfl)) (
  kc_case (P := P) (kc_se c_Md_sayValue_2 (sm_istore_n d_Md_sayValue_2 rfl (Nat.le_of_ble_eq_true rfl))) (
  kc_case (P := P) (kc_se rfl sm_no) (
  kc_case (P := P) (kc_se c_Md_sayValue_0 (sm_bipush d_Md_sayValue_0 (by decide))) (
  kc_case0)))))))))))))))))))))))))))))))))))
set_option maxRecDepth 100000 in
theorem ka_nth_no_Md_sayValue (pc : Nat) (h : 35 ≤ pc) : ct_Md_sayValue pc = ka_no := ka_nth_ge _ pc (Nat.le_trans (Nat.le_of_eq (by rfl)) h)
theorem s_Md_sayValue (pc : Nat) : kc_Sim kt kw_A kw_N kt_cl kt_En "DirectoryDeskModel" prog_12_method_48_code 5 (none) "sayValue" none pc (ct_Md_sayValue pc) := (Nat.lt_or_ge pc 35).elim (s_Md_sayValue_35 pc) (fun h => kc_se (ka_nth_no_Md_sayValue pc h) sm_no)
def cl_Md_sayPart_0 : List kc_A := [ka_al 0 1, ka_il 1 1, ka_cv 139 1 10 0 0, ka_no, ka_no, ka_al 0 1, ka_ci (nI 61) 2, ka_no, ka_cv 139 1 10 0 0, ka_no, ka_no, ka_al 0 1, ka_ll 2 1, ka_cv 143 1 10 0 0, ka_no, ka_no, ka_ret]
def ct_Md_sayPart : Nat → kc_A := fun pc => ka_nth (cl_Md_sayPart_0) pc
set_option maxRecDepth 100000 in
theorem c_Md_sayPart_0 : ct_Md_sayPart 0 = ka_al 0 1 := rfl
theorem d_Md_sayPart_0 : decode prog_12_method_49_code 0 = .ok (.aload_n 0, 1) := by decide +kernel
set_option maxRecDepth 100000 in
theorem c_Md_sayPart_1 : ct_Md_sayPart 1 = ka_il 1 1 := rfl
theorem d_Md_sayPart_1 : decode prog_12_method_49_code 1 = .ok (.iload_n 1, 1) := by decide +kernel
set_option maxRecDepth 100000 in
theorem c_Md_sayPart_2 : ct_Md_sayPart 2 = ka_cv 139 1 10 0 0 := rfl
theorem d_Md_sayPart_2 : decode prog_12_method_49_code 2 = .ok (.invokevirtual 291, 3) := by decide +kernel
set_option maxRecDepth 100000 in
theorem c_Md_sayPart_5 : ct_Md_sayPart 5 = ka_al 0 1 := rfl
theorem d_Md_sayPart_5 : decode prog_12_method_49_code 5 = .ok (.aload_n 0, 1) := by decide +kernel
set_option maxRecDepth 100000 in
theorem c_Md_sayPart_6 : ct_Md_sayPart 6 = ka_ci (nI 61) 2 := rfl
theorem d_Md_sayPart_6 : decode prog_12_method_49_code 6 = .ok (.bipush 61, 2) := by decide +kernel
set_option maxRecDepth 100000 in
theorem c_Md_sayPart_8 : ct_Md_sayPart 8 = ka_cv 139 1 10 0 0 := rfl
theorem d_Md_sayPart_8 : decode prog_12_method_49_code 8 = .ok (.invokevirtual 291, 3) := by decide +kernel
set_option maxRecDepth 100000 in
theorem c_Md_sayPart_11 : ct_Md_sayPart 11 = ka_al 0 1 := rfl
theorem d_Md_sayPart_11 : decode prog_12_method_49_code 11 = .ok (.aload_n 0, 1) := by decide +kernel
set_option maxRecDepth 100000 in
theorem c_Md_sayPart_12 : ct_Md_sayPart 12 = ka_ll 2 1 := rfl
theorem d_Md_sayPart_12 : decode prog_12_method_49_code 12 = .ok (.lload_n 2, 1) := by decide +kernel
set_option maxRecDepth 100000 in
theorem c_Md_sayPart_13 : ct_Md_sayPart 13 = ka_cv 143 1 10 0 0 := rfl
theorem d_Md_sayPart_13 : decode prog_12_method_49_code 13 = .ok (.invokevirtual 303, 3) := by decide +kernel
set_option maxRecDepth 100000 in
theorem c_Md_sayPart_16 : ct_Md_sayPart 16 = ka_ret := rfl
theorem d_Md_sayPart_16 : decode prog_12_method_49_code 16 = .ok (.return_, 1) := by decide +kernel
set_option maxRecDepth 100000 in
set_option maxHeartbeats 4000000 in
theorem s_Md_sayPart_17 : ∀ pc, pc < 17 → kc_Sim kt kw_A kw_N kt_cl kt_En "DirectoryDeskModel" prog_12_method_49_code 4 (none) "sayPart" none pc (ct_Md_sayPart pc) := by
  let P : Nat → Prop := fun pc => kc_Sim kt kw_A kw_N kt_cl kt_En "DirectoryDeskModel" prog_12_method_49_code 4 (none) "sayPart" none pc (ct_Md_sayPart pc)
  exact kc_case (P := P) (kc_se c_Md_sayPart_16 (sm_ret d_Md_sayPart_16 rfl)) (
  kc_case (P := P) (kc_se rfl sm_no) (
  kc_case (P := P) (kc_se rfl sm_no) (
  kc_case (P := P) (kc_se c_Md_sayPart_13 (sm_cv (j := 143) rfl rfl kw_o kw_g wc_Md_sayValue (Nat.le_of_ble_eq_true rfl) hd_Md_sayValue (ci := 10) (F := kF_Md) (N := 52) rfl (kw5 28 rfl rfl) wi_Md_sayValue ws_Md_sayValue wn_Md_sayValue d_Md_sayPart_13)) (
  kc_case (P := P) (kc_se c_Md_sayPart_12 (sm_lload_n d_Md_sayPart_12 rfl)) (
  kc_case (P := P) (kc_se c_Md_sayPart_11 (sm_aload_n d_Md_sayPart_11 rfl)) (
  kc_case (P := P) (kc_se rfl sm_no) (
  kc_case (P := P) (kc_se rfl sm_no) (
  kc_case (P := P) (kc_se c_Md_sayPart_8 (sm_cv (j := 139) rfl rfl kw_o kw_g wc_Md_say (Nat.le_of_ble_eq_true rfl) hd_Md_say (ci := 10) (F := kF_Md) (N := 52) rfl (kw5 12 rfl rfl) wi_Md_say ws_Md_say wn_Md_say d_Md_sayPart_8)) (
  kc_case (P := P) (kc_se rfl sm_no) (
  kc_case (P := P) (kc_se c_Md_sayPart_6 (sm_bipush d_Md_sayPart_6 (by decide))) (
  kc_case (P := P) (kc_se c_Md_sayPart_5 (sm_aload_n d_Md_sayPart_5 rfl)) (
  kc_case (P := P) (kc_se rfl sm_no) (
  kc_case (P := P) (kc_se rfl sm_no) (
  kc_case (P := P) (kc_se c_Md_sayPart_2 (sm_cv (j := 139) rfl rfl kw_o kw_g wc_Md_say (Nat.le_of_ble_eq_true rfl) hd_Md_say (ci := 10) (F := kF_Md) (N := 52) rfl (kw5 12 rfl rfl) wi_Md_say ws_Md_say wn_Md_say d_Md_sayPart_2)) (
  kc_case (P := P) (kc_se c_Md_sayPart_1 (sm_iload_n d_Md_sayPart_1 rfl)) (
  kc_case (P := P) (kc_se c_Md_sayPart_0 (sm_aload_n d_Md_sayPart_0 rfl)) (
  kc_case0)))))))))))))))))
set_option maxRecDepth 100000 in
theorem ka_nth_no_Md_sayPart (pc : Nat) (h : 17 ≤ pc) : ct_Md_sayPart pc = ka_no := ka_nth_ge _ pc (Nat.le_trans (Nat.le_of_eq (by rfl)) h)
theorem s_Md_sayPart (pc : Nat) : kc_Sim kt kw_A kw_N kt_cl kt_En "DirectoryDeskModel" prog_12_method_49_code 4 (none) "sayPart" none pc (ct_Md_sayPart pc) := (Nat.lt_or_ge pc 17).elim (s_Md_sayPart_17 pc) (fun h => kc_se (ka_nth_no_Md_sayPart pc h) sm_no)
def cl_Md_sayAttribute_0 : List kc_A := [ka_ci (nI 0) 1, ka_is 3 1, ka_ci (nI 6) 2, ka_no, ka_il 1 1, ka_ii (fun x y => x * y), ka_is 4 2, ka_no, ka_il 4 2, ka_no, ka_ci (nI 6) 2, ka_no, ka_il 1 1, ka_ii (fun x y => x * y), ka_al 0 1, ka_get 10 10, ka_no, ka_no, ka_il 1 1, ka_iald, ka_ii (fun x y => x + y), ka_cm (fun x y => y ≤ x) 49, ka_no, ka_no, ka_al 0 1, ka_get 10 11, ka_no, ka_no, ka_il 4 2, ka_no, ka_iald, ka_il 2 1, ka_cm (fun x y => ¬ x = y) 41, ka_no, ka_no, ka_il 3 1, ka_ci (nI 1) 1, ka_ii (fun x y => x + y), ka_goto 42, ka_no, ka_no, ka_il 3 1, ka_is 3 1, ka_inc 4 (nI 1), ka_no, ka_no, ka_goto 8, ka_no, ka_no, ka_il 3 1, ka_if (fun x => ¬ x = 0) 54, ka_no, ka_no, ka_ret, ka_al 0 1, ka_ci (nI 48) 2, ka_no, ka_cv 140 1 10 0 0, ka_no, ka_no]
def cl_Md_sayAttribute_1 : List kc_A := [ka_is 4 2, ka_no, ka_al 0 1, ka_ci (nI 4) 1, ka_cv 140 1 10 0 0, ka_no, ka_no, ka_is 5 2, ka_no, ka_al 0 1, ka_il 2 1, ka_cv 139 1 10 0 0, ka_no, ka_no, ka_al 0 1, ka_il 5 2, ka_no, ka_cv 141 1 10 0 0, ka_no, ka_no, ka_al 0 1, ka_ci (nI 49) 2, ka_no, ka_cv 140 1 10 0 0, ka_no, ka_no, ka_is 6 2, ka_no, ka_ci (nI 6) 2, ka_no, ka_il 1 1, ka_ii (fun x y => x * y), ka_is 7 2, ka_no, ka_il 7 2, ka_no, ka_ci (nI 6) 2, ka_no, ka_il 1 1, ka_ii (fun x y => x * y), ka_al 0 1, ka_get 10 10, ka_no, ka_no, ka_il 1 1, ka_iald, ka_ii (fun x y => x + y), ka_cm (fun x y => y ≤ x) 158, ka_no, ka_no, ka_al 0 1, ka_get 10 11, ka_no, ka_no, ka_il 7 2, ka_no, ka_iald, ka_il 2 1, ka_cm (fun x y => ¬ x = y) 152, ka_no]
def cl_Md_sayAttribute_2 : List kc_A := [ka_no, ka_al 0 1, ka_get 10 30, ka_no, ka_no, ka_if (fun x => ¬ x = 0) 152, ka_no, ka_no, ka_al 0 1, ka_ci (nI 4) 1, ka_cv 140 1 10 0 0, ka_no, ka_no, ka_is 8 2, ka_no, ka_al 0 1, ka_al 0 1, ka_get 10 12, ka_no, ka_no, ka_il 7 2, ka_no, ka_lald, ka_cv 143 1 10 0 0, ka_no, ka_no, ka_al 0 1, ka_il 8 2, ka_no, ka_cv 141 1 10 0 0, ka_no, ka_no, ka_inc 7 (nI 1), ka_no, ka_no, ka_goto 94, ka_no, ka_no, ka_al 0 1, ka_il 6 2, ka_no, ka_cv 141 1 10 0 0, ka_no, ka_no, ka_al 0 1, ka_il 4 2, ka_no, ka_cv 141 1 10 0 0, ka_no, ka_no, ka_ret]
def ct_Md_sayAttribute : Nat → kc_A := fun pc => ka_nth (cl_Md_sayAttribute_0 ++ (cl_Md_sayAttribute_1 ++ (cl_Md_sayAttribute_2))) pc
set_option maxRecDepth 100000 in
theorem c_Md_sayAttribute_0 : ct_Md_sayAttribute 0 = ka_ci (nI 0) 1 := rfl
theorem d_Md_sayAttribute_0 : decode prog_12_method_50_code 0 = .ok (.iconst 0, 1) := by decide +kernel
set_option maxRecDepth 100000 in
theorem c_Md_sayAttribute_1 : ct_Md_sayAttribute 1 = ka_is 3 1 := rfl
theorem d_Md_sayAttribute_1 : decode prog_12_method_50_code 1 = .ok (.istore_n 3, 1) := by decide +kernel
set_option maxRecDepth 100000 in
theorem c_Md_sayAttribute_2 : ct_Md_sayAttribute 2 = ka_ci (nI 6) 2 := rfl
theorem d_Md_sayAttribute_2 : decode prog_12_method_50_code 2 = .ok (.bipush 6, 2) := by decide +kernel
set_option maxRecDepth 100000 in
theorem c_Md_sayAttribute_4 : ct_Md_sayAttribute 4 = ka_il 1 1 := rfl
theorem d_Md_sayAttribute_4 : decode prog_12_method_50_code 4 = .ok (.iload_n 1, 1) := by decide +kernel
set_option maxRecDepth 100000 in
theorem c_Md_sayAttribute_5 : ct_Md_sayAttribute 5 = ka_ii (fun x y => x * y) := rfl
theorem d_Md_sayAttribute_5 : decode prog_12_method_50_code 5 = .ok (.imul, 1) := by decide +kernel
set_option maxRecDepth 100000 in
theorem c_Md_sayAttribute_6 : ct_Md_sayAttribute 6 = ka_is 4 2 := rfl
theorem d_Md_sayAttribute_6 : decode prog_12_method_50_code 6 = .ok (.istore 4, 2) := by decide +kernel
set_option maxRecDepth 100000 in
theorem c_Md_sayAttribute_8 : ct_Md_sayAttribute 8 = ka_il 4 2 := rfl
theorem d_Md_sayAttribute_8 : decode prog_12_method_50_code 8 = .ok (.iload 4, 2) := by decide +kernel
set_option maxRecDepth 100000 in
theorem c_Md_sayAttribute_10 : ct_Md_sayAttribute 10 = ka_ci (nI 6) 2 := rfl
theorem d_Md_sayAttribute_10 : decode prog_12_method_50_code 10 = .ok (.bipush 6, 2) := by decide +kernel
set_option maxRecDepth 100000 in
theorem c_Md_sayAttribute_12 : ct_Md_sayAttribute 12 = ka_il 1 1 := rfl
theorem d_Md_sayAttribute_12 : decode prog_12_method_50_code 12 = .ok (.iload_n 1, 1) := by decide +kernel
set_option maxRecDepth 100000 in
theorem c_Md_sayAttribute_13 : ct_Md_sayAttribute 13 = ka_ii (fun x y => x * y) := rfl
theorem d_Md_sayAttribute_13 : decode prog_12_method_50_code 13 = .ok (.imul, 1) := by decide +kernel
set_option maxRecDepth 100000 in
theorem c_Md_sayAttribute_14 : ct_Md_sayAttribute 14 = ka_al 0 1 := rfl
theorem d_Md_sayAttribute_14 : decode prog_12_method_50_code 14 = .ok (.aload_n 0, 1) := by decide +kernel
set_option maxRecDepth 100000 in
theorem c_Md_sayAttribute_15 : ct_Md_sayAttribute 15 = ka_get 10 10 := rfl
theorem d_Md_sayAttribute_15 : decode prog_12_method_50_code 15 = .ok (.getfield 26, 3) := by decide +kernel
set_option maxRecDepth 100000 in
theorem c_Md_sayAttribute_18 : ct_Md_sayAttribute 18 = ka_il 1 1 := rfl
theorem d_Md_sayAttribute_18 : decode prog_12_method_50_code 18 = .ok (.iload_n 1, 1) := by decide +kernel
set_option maxRecDepth 100000 in
theorem c_Md_sayAttribute_19 : ct_Md_sayAttribute 19 = ka_iald := rfl
theorem d_Md_sayAttribute_19 : decode prog_12_method_50_code 19 = .ok (.iaload, 1) := by decide +kernel
set_option maxRecDepth 100000 in
theorem c_Md_sayAttribute_20 : ct_Md_sayAttribute 20 = ka_ii (fun x y => x + y) := rfl
theorem d_Md_sayAttribute_20 : decode prog_12_method_50_code 20 = .ok (.iadd, 1) := by decide +kernel
set_option maxRecDepth 100000 in
theorem c_Md_sayAttribute_21 : ct_Md_sayAttribute 21 = ka_cm (fun x y => y ≤ x) 49 := rfl
theorem d_Md_sayAttribute_21 : decode prog_12_method_50_code 21 = .ok (.if_icmp .ge 28, 3) := by decide +kernel
set_option maxRecDepth 100000 in
theorem c_Md_sayAttribute_24 : ct_Md_sayAttribute 24 = ka_al 0 1 := rfl
theorem d_Md_sayAttribute_24 : decode prog_12_method_50_code 24 = .ok (.aload_n 0, 1) := by decide +kernel
set_option maxRecDepth 100000 in
theorem c_Md_sayAttribute_25 : ct_Md_sayAttribute 25 = ka_get 10 11 := rfl
theorem d_Md_sayAttribute_25 : decode prog_12_method_50_code 25 = .ok (.getfield 29, 3) := by decide +kernel
set_option maxRecDepth 100000 in
theorem c_Md_sayAttribute_28 : ct_Md_sayAttribute 28 = ka_il 4 2 := rfl
theorem d_Md_sayAttribute_28 : decode prog_12_method_50_code 28 = .ok (.iload 4, 2) := by decide +kernel
set_option maxRecDepth 100000 in
theorem c_Md_sayAttribute_30 : ct_Md_sayAttribute 30 = ka_iald := rfl
theorem d_Md_sayAttribute_30 : decode prog_12_method_50_code 30 = .ok (.iaload, 1) := by decide +kernel
set_option maxRecDepth 100000 in
theorem c_Md_sayAttribute_31 : ct_Md_sayAttribute 31 = ka_il 2 1 := rfl
theorem d_Md_sayAttribute_31 : decode prog_12_method_50_code 31 = .ok (.iload_n 2, 1) := by decide +kernel
set_option maxRecDepth 100000 in
theorem c_Md_sayAttribute_32 : ct_Md_sayAttribute 32 = ka_cm (fun x y => ¬ x = y) 41 := rfl
theorem d_Md_sayAttribute_32 : decode prog_12_method_50_code 32 = .ok (.if_icmp .ne 9, 3) := by decide +kernel
set_option maxRecDepth 100000 in
theorem c_Md_sayAttribute_35 : ct_Md_sayAttribute 35 = ka_il 3 1 := rfl
theorem d_Md_sayAttribute_35 : decode prog_12_method_50_code 35 = .ok (.iload_n 3, 1) := by decide +kernel
set_option maxRecDepth 100000 in
theorem c_Md_sayAttribute_36 : ct_Md_sayAttribute 36 = ka_ci (nI 1) 1 := rfl
theorem d_Md_sayAttribute_36 : decode prog_12_method_50_code 36 = .ok (.iconst 1, 1) := by decide +kernel
set_option maxRecDepth 100000 in
theorem c_Md_sayAttribute_37 : ct_Md_sayAttribute 37 = ka_ii (fun x y => x + y) := rfl
theorem d_Md_sayAttribute_37 : decode prog_12_method_50_code 37 = .ok (.iadd, 1) := by decide +kernel
set_option maxRecDepth 100000 in
theorem c_Md_sayAttribute_38 : ct_Md_sayAttribute 38 = ka_goto 42 := rfl
theorem d_Md_sayAttribute_38 : decode prog_12_method_50_code 38 = .ok (.goto 4, 3) := by decide +kernel
set_option maxRecDepth 100000 in
theorem c_Md_sayAttribute_41 : ct_Md_sayAttribute 41 = ka_il 3 1 := rfl
theorem d_Md_sayAttribute_41 : decode prog_12_method_50_code 41 = .ok (.iload_n 3, 1) := by decide +kernel
set_option maxRecDepth 100000 in
theorem c_Md_sayAttribute_42 : ct_Md_sayAttribute 42 = ka_is 3 1 := rfl
theorem d_Md_sayAttribute_42 : decode prog_12_method_50_code 42 = .ok (.istore_n 3, 1) := by decide +kernel
set_option maxRecDepth 100000 in
theorem c_Md_sayAttribute_43 : ct_Md_sayAttribute 43 = ka_inc 4 (nI 1) := rfl
theorem d_Md_sayAttribute_43 : decode prog_12_method_50_code 43 = .ok (.iinc 4 1, 3) := by decide +kernel
set_option maxRecDepth 100000 in
theorem c_Md_sayAttribute_46 : ct_Md_sayAttribute 46 = ka_goto 8 := rfl
theorem d_Md_sayAttribute_46 : decode prog_12_method_50_code 46 = .ok (.goto (-38), 3) := by decide +kernel
set_option maxRecDepth 100000 in
theorem c_Md_sayAttribute_49 : ct_Md_sayAttribute 49 = ka_il 3 1 := rfl
theorem d_Md_sayAttribute_49 : decode prog_12_method_50_code 49 = .ok (.iload_n 3, 1) := by decide +kernel
set_option maxRecDepth 100000 in
theorem c_Md_sayAttribute_50 : ct_Md_sayAttribute 50 = ka_if (fun x => ¬ x = 0) 54 := rfl
theorem d_Md_sayAttribute_50 : decode prog_12_method_50_code 50 = .ok (.ifCond .ne 4, 3) := by decide +kernel
set_option maxRecDepth 100000 in
theorem c_Md_sayAttribute_53 : ct_Md_sayAttribute 53 = ka_ret := rfl
theorem d_Md_sayAttribute_53 : decode prog_12_method_50_code 53 = .ok (.return_, 1) := by decide +kernel
set_option maxRecDepth 100000 in
theorem c_Md_sayAttribute_54 : ct_Md_sayAttribute 54 = ka_al 0 1 := rfl
theorem d_Md_sayAttribute_54 : decode prog_12_method_50_code 54 = .ok (.aload_n 0, 1) := by decide +kernel
set_option maxRecDepth 100000 in
theorem c_Md_sayAttribute_55 : ct_Md_sayAttribute 55 = ka_ci (nI 48) 2 := rfl
theorem d_Md_sayAttribute_55 : decode prog_12_method_50_code 55 = .ok (.bipush 48, 2) := by decide +kernel
set_option maxRecDepth 100000 in
theorem c_Md_sayAttribute_57 : ct_Md_sayAttribute 57 = ka_cv 140 1 10 0 0 := rfl
theorem d_Md_sayAttribute_57 : decode prog_12_method_50_code 57 = .ok (.invokevirtual 294, 3) := by decide +kernel
set_option maxRecDepth 100000 in
theorem c_Md_sayAttribute_60 : ct_Md_sayAttribute 60 = ka_is 4 2 := rfl
theorem d_Md_sayAttribute_60 : decode prog_12_method_50_code 60 = .ok (.istore 4, 2) := by decide +kernel
set_option maxRecDepth 100000 in
theorem c_Md_sayAttribute_62 : ct_Md_sayAttribute 62 = ka_al 0 1 := rfl
theorem d_Md_sayAttribute_62 : decode prog_12_method_50_code 62 = .ok (.aload_n 0, 1) := by decide +kernel
set_option maxRecDepth 100000 in
theorem c_Md_sayAttribute_63 : ct_Md_sayAttribute 63 = ka_ci (nI 4) 1 := rfl
theorem d_Md_sayAttribute_63 : decode prog_12_method_50_code 63 = .ok (.iconst 4, 1) := by decide +kernel
set_option maxRecDepth 100000 in
theorem c_Md_sayAttribute_64 : ct_Md_sayAttribute 64 = ka_cv 140 1 10 0 0 := rfl
theorem d_Md_sayAttribute_64 : decode prog_12_method_50_code 64 = .ok (.invokevirtual 294, 3) := by decide +kernel
set_option maxRecDepth 100000 in
theorem c_Md_sayAttribute_67 : ct_Md_sayAttribute 67 = ka_is 5 2 := rfl
theorem d_Md_sayAttribute_67 : decode prog_12_method_50_code 67 = .ok (.istore 5, 2) := by decide +kernel
set_option maxRecDepth 100000 in
theorem c_Md_sayAttribute_69 : ct_Md_sayAttribute 69 = ka_al 0 1 := rfl
theorem d_Md_sayAttribute_69 : decode prog_12_method_50_code 69 = .ok (.aload_n 0, 1) := by decide +kernel
set_option maxRecDepth 100000 in
theorem c_Md_sayAttribute_70 : ct_Md_sayAttribute 70 = ka_il 2 1 := rfl
theorem d_Md_sayAttribute_70 : decode prog_12_method_50_code 70 = .ok (.iload_n 2, 1) := by decide +kernel
set_option maxRecDepth 100000 in
theorem c_Md_sayAttribute_71 : ct_Md_sayAttribute 71 = ka_cv 139 1 10 0 0 := rfl
theorem d_Md_sayAttribute_71 : decode prog_12_method_50_code 71 = .ok (.invokevirtual 291, 3) := by decide +kernel
set_option maxRecDepth 100000 in
theorem c_Md_sayAttribute_74 : ct_Md_sayAttribute 74 = ka_al 0 1 := rfl
theorem d_Md_sayAttribute_74 : decode prog_12_method_50_code 74 = .ok (.aload_n 0, 1) := by decide +kernel
set_option maxRecDepth 100000 in
theorem c_Md_sayAttribute_75 : ct_Md_sayAttribute 75 = ka_il 5 2 := rfl
theorem d_Md_sayAttribute_75 : decode prog_12_method_50_code 75 = .ok (.iload 5, 2) := by decide +kernel
set_option maxRecDepth 100000 in
theorem c_Md_sayAttribute_77 : ct_Md_sayAttribute 77 = ka_cv 141 1 10 0 0 := rfl
theorem d_Md_sayAttribute_77 : decode prog_12_method_50_code 77 = .ok (.invokevirtual 300, 3) := by decide +kernel
set_option maxRecDepth 100000 in
theorem c_Md_sayAttribute_80 : ct_Md_sayAttribute 80 = ka_al 0 1 := rfl
theorem d_Md_sayAttribute_80 : decode prog_12_method_50_code 80 = .ok (.aload_n 0, 1) := by decide +kernel
set_option maxRecDepth 100000 in
theorem c_Md_sayAttribute_81 : ct_Md_sayAttribute 81 = ka_ci (nI 49) 2 := rfl
theorem d_Md_sayAttribute_81 : decode prog_12_method_50_code 81 = .ok (.bipush 49, 2) := by decide +kernel
set_option maxRecDepth 100000 in
theorem c_Md_sayAttribute_83 : ct_Md_sayAttribute 83 = ka_cv 140 1 10 0 0 := rfl
theorem d_Md_sayAttribute_83 : decode prog_12_method_50_code 83 = .ok (.invokevirtual 294, 3) := by decide +kernel
set_option maxRecDepth 100000 in
theorem c_Md_sayAttribute_86 : ct_Md_sayAttribute 86 = ka_is 6 2 := rfl
theorem d_Md_sayAttribute_86 : decode prog_12_method_50_code 86 = .ok (.istore 6, 2) := by decide +kernel
set_option maxRecDepth 100000 in
theorem c_Md_sayAttribute_88 : ct_Md_sayAttribute 88 = ka_ci (nI 6) 2 := rfl
theorem d_Md_sayAttribute_88 : decode prog_12_method_50_code 88 = .ok (.bipush 6, 2) := by decide +kernel
set_option maxRecDepth 100000 in
theorem c_Md_sayAttribute_90 : ct_Md_sayAttribute 90 = ka_il 1 1 := rfl
theorem d_Md_sayAttribute_90 : decode prog_12_method_50_code 90 = .ok (.iload_n 1, 1) := by decide +kernel
set_option maxRecDepth 100000 in
theorem c_Md_sayAttribute_91 : ct_Md_sayAttribute 91 = ka_ii (fun x y => x * y) := rfl
theorem d_Md_sayAttribute_91 : decode prog_12_method_50_code 91 = .ok (.imul, 1) := by decide +kernel
set_option maxRecDepth 100000 in
theorem c_Md_sayAttribute_92 : ct_Md_sayAttribute 92 = ka_is 7 2 := rfl
theorem d_Md_sayAttribute_92 : decode prog_12_method_50_code 92 = .ok (.istore 7, 2) := by decide +kernel
set_option maxRecDepth 100000 in
theorem c_Md_sayAttribute_94 : ct_Md_sayAttribute 94 = ka_il 7 2 := rfl
theorem d_Md_sayAttribute_94 : decode prog_12_method_50_code 94 = .ok (.iload 7, 2) := by decide +kernel
set_option maxRecDepth 100000 in
theorem c_Md_sayAttribute_96 : ct_Md_sayAttribute 96 = ka_ci (nI 6) 2 := rfl
theorem d_Md_sayAttribute_96 : decode prog_12_method_50_code 96 = .ok (.bipush 6, 2) := by decide +kernel
set_option maxRecDepth 100000 in
theorem c_Md_sayAttribute_98 : ct_Md_sayAttribute 98 = ka_il 1 1 := rfl
theorem d_Md_sayAttribute_98 : decode prog_12_method_50_code 98 = .ok (.iload_n 1, 1) := by decide +kernel
set_option maxRecDepth 100000 in
theorem c_Md_sayAttribute_99 : ct_Md_sayAttribute 99 = ka_ii (fun x y => x * y) := rfl
theorem d_Md_sayAttribute_99 : decode prog_12_method_50_code 99 = .ok (.imul, 1) := by decide +kernel
set_option maxRecDepth 100000 in
theorem c_Md_sayAttribute_100 : ct_Md_sayAttribute 100 = ka_al 0 1 := rfl
theorem d_Md_sayAttribute_100 : decode prog_12_method_50_code 100 = .ok (.aload_n 0, 1) := by decide +kernel
set_option maxRecDepth 100000 in
theorem c_Md_sayAttribute_101 : ct_Md_sayAttribute 101 = ka_get 10 10 := rfl
theorem d_Md_sayAttribute_101 : decode prog_12_method_50_code 101 = .ok (.getfield 26, 3) := by decide +kernel
set_option maxRecDepth 100000 in
theorem c_Md_sayAttribute_104 : ct_Md_sayAttribute 104 = ka_il 1 1 := rfl
theorem d_Md_sayAttribute_104 : decode prog_12_method_50_code 104 = .ok (.iload_n 1, 1) := by decide +kernel
set_option maxRecDepth 100000 in
theorem c_Md_sayAttribute_105 : ct_Md_sayAttribute 105 = ka_iald := rfl
theorem d_Md_sayAttribute_105 : decode prog_12_method_50_code 105 = .ok (.iaload, 1) := by decide +kernel
set_option maxRecDepth 100000 in
theorem c_Md_sayAttribute_106 : ct_Md_sayAttribute 106 = ka_ii (fun x y => x + y) := rfl
theorem d_Md_sayAttribute_106 : decode prog_12_method_50_code 106 = .ok (.iadd, 1) := by decide +kernel
set_option maxRecDepth 100000 in
theorem c_Md_sayAttribute_107 : ct_Md_sayAttribute 107 = ka_cm (fun x y => y ≤ x) 158 := rfl
theorem d_Md_sayAttribute_107 : decode prog_12_method_50_code 107 = .ok (.if_icmp .ge 51, 3) := by decide +kernel
set_option maxRecDepth 100000 in
theorem c_Md_sayAttribute_110 : ct_Md_sayAttribute 110 = ka_al 0 1 := rfl
theorem d_Md_sayAttribute_110 : decode prog_12_method_50_code 110 = .ok (.aload_n 0, 1) := by decide +kernel
set_option maxRecDepth 100000 in
theorem c_Md_sayAttribute_111 : ct_Md_sayAttribute 111 = ka_get 10 11 := rfl
theorem d_Md_sayAttribute_111 : decode prog_12_method_50_code 111 = .ok (.getfield 29, 3) := by decide +kernel
set_option maxRecDepth 100000 in
theorem c_Md_sayAttribute_114 : ct_Md_sayAttribute 114 = ka_il 7 2 := rfl
theorem d_Md_sayAttribute_114 : decode prog_12_method_50_code 114 = .ok (.iload 7, 2) := by decide +kernel
set_option maxRecDepth 100000 in
theorem c_Md_sayAttribute_116 : ct_Md_sayAttribute 116 = ka_iald := rfl
theorem d_Md_sayAttribute_116 : decode prog_12_method_50_code 116 = .ok (.iaload, 1) := by decide +kernel
set_option maxRecDepth 100000 in
theorem c_Md_sayAttribute_117 : ct_Md_sayAttribute 117 = ka_il 2 1 := rfl
theorem d_Md_sayAttribute_117 : decode prog_12_method_50_code 117 = .ok (.iload_n 2, 1) := by decide +kernel
set_option maxRecDepth 100000 in
theorem c_Md_sayAttribute_118 : ct_Md_sayAttribute 118 = ka_cm (fun x y => ¬ x = y) 152 := rfl
theorem d_Md_sayAttribute_118 : decode prog_12_method_50_code 118 = .ok (.if_icmp .ne 34, 3) := by decide +kernel
set_option maxRecDepth 100000 in
theorem c_Md_sayAttribute_121 : ct_Md_sayAttribute 121 = ka_al 0 1 := rfl
theorem d_Md_sayAttribute_121 : decode prog_12_method_50_code 121 = .ok (.aload_n 0, 1) := by decide +kernel
set_option maxRecDepth 100000 in
theorem c_Md_sayAttribute_122 : ct_Md_sayAttribute 122 = ka_get 10 30 := rfl
theorem d_Md_sayAttribute_122 : decode prog_12_method_50_code 122 = .ok (.getfield 214, 3) := by decide +kernel
set_option maxRecDepth 100000 in
theorem c_Md_sayAttribute_125 : ct_Md_sayAttribute 125 = ka_if (fun x => ¬ x = 0) 152 := rfl
theorem d_Md_sayAttribute_125 : decode prog_12_method_50_code 125 = .ok (.ifCond .ne 27, 3) := by decide +kernel
set_option maxRecDepth 100000 in
theorem c_Md_sayAttribute_128 : ct_Md_sayAttribute 128 = ka_al 0 1 := rfl
theorem d_Md_sayAttribute_128 : decode prog_12_method_50_code 128 = .ok (.aload_n 0, 1) := by decide +kernel
set_option maxRecDepth 100000 in
theorem c_Md_sayAttribute_129 : ct_Md_sayAttribute 129 = ka_ci (nI 4) 1 := rfl
theorem d_Md_sayAttribute_129 : decode prog_12_method_50_code 129 = .ok (.iconst 4, 1) := by decide +kernel
set_option maxRecDepth 100000 in
theorem c_Md_sayAttribute_130 : ct_Md_sayAttribute 130 = ka_cv 140 1 10 0 0 := rfl
theorem d_Md_sayAttribute_130 : decode prog_12_method_50_code 130 = .ok (.invokevirtual 294, 3) := by decide +kernel
set_option maxRecDepth 100000 in
theorem c_Md_sayAttribute_133 : ct_Md_sayAttribute 133 = ka_is 8 2 := rfl
theorem d_Md_sayAttribute_133 : decode prog_12_method_50_code 133 = .ok (.istore 8, 2) := by decide +kernel
set_option maxRecDepth 100000 in
theorem c_Md_sayAttribute_135 : ct_Md_sayAttribute 135 = ka_al 0 1 := rfl
theorem d_Md_sayAttribute_135 : decode prog_12_method_50_code 135 = .ok (.aload_n 0, 1) := by decide +kernel
set_option maxRecDepth 100000 in
theorem c_Md_sayAttribute_136 : ct_Md_sayAttribute 136 = ka_al 0 1 := rfl
theorem d_Md_sayAttribute_136 : decode prog_12_method_50_code 136 = .ok (.aload_n 0, 1) := by decide +kernel
set_option maxRecDepth 100000 in
theorem c_Md_sayAttribute_137 : ct_Md_sayAttribute 137 = ka_get 10 12 := rfl
theorem d_Md_sayAttribute_137 : decode prog_12_method_50_code 137 = .ok (.getfield 32, 3) := by decide +kernel
set_option maxRecDepth 100000 in
theorem c_Md_sayAttribute_140 : ct_Md_sayAttribute 140 = ka_il 7 2 := rfl
theorem d_Md_sayAttribute_140 : decode prog_12_method_50_code 140 = .ok (.iload 7, 2) := by decide +kernel
set_option maxRecDepth 100000 in
theorem c_Md_sayAttribute_142 : ct_Md_sayAttribute 142 = ka_lald := rfl
theorem d_Md_sayAttribute_142 : decode prog_12_method_50_code 142 = .ok (.laload, 1) := by decide +kernel
set_option maxRecDepth 100000 in
theorem c_Md_sayAttribute_143 : ct_Md_sayAttribute 143 = ka_cv 143 1 10 0 0 := rfl
theorem d_Md_sayAttribute_143 : decode prog_12_method_50_code 143 = .ok (.invokevirtual 303, 3) := by decide +kernel
set_option maxRecDepth 100000 in
theorem c_Md_sayAttribute_146 : ct_Md_sayAttribute 146 = ka_al 0 1 := rfl
theorem d_Md_sayAttribute_146 : decode prog_12_method_50_code 146 = .ok (.aload_n 0, 1) := by decide +kernel
set_option maxRecDepth 100000 in
theorem c_Md_sayAttribute_147 : ct_Md_sayAttribute 147 = ka_il 8 2 := rfl
theorem d_Md_sayAttribute_147 : decode prog_12_method_50_code 147 = .ok (.iload 8, 2) := by decide +kernel
set_option maxRecDepth 100000 in
theorem c_Md_sayAttribute_149 : ct_Md_sayAttribute 149 = ka_cv 141 1 10 0 0 := rfl
theorem d_Md_sayAttribute_149 : decode prog_12_method_50_code 149 = .ok (.invokevirtual 300, 3) := by decide +kernel
set_option maxRecDepth 100000 in
theorem c_Md_sayAttribute_152 : ct_Md_sayAttribute 152 = ka_inc 7 (nI 1) := rfl
theorem d_Md_sayAttribute_152 : decode prog_12_method_50_code 152 = .ok (.iinc 7 1, 3) := by decide +kernel
set_option maxRecDepth 100000 in
theorem c_Md_sayAttribute_155 : ct_Md_sayAttribute 155 = ka_goto 94 := rfl
theorem d_Md_sayAttribute_155 : decode prog_12_method_50_code 155 = .ok (.goto (-61), 3) := by decide +kernel
set_option maxRecDepth 100000 in
theorem c_Md_sayAttribute_158 : ct_Md_sayAttribute 158 = ka_al 0 1 := rfl
theorem d_Md_sayAttribute_158 : decode prog_12_method_50_code 158 = .ok (.aload_n 0, 1) := by decide +kernel
set_option maxRecDepth 100000 in
theorem c_Md_sayAttribute_159 : ct_Md_sayAttribute 159 = ka_il 6 2 := rfl
theorem d_Md_sayAttribute_159 : decode prog_12_method_50_code 159 = .ok (.iload 6, 2) := by decide +kernel
set_option maxRecDepth 100000 in
theorem c_Md_sayAttribute_161 : ct_Md_sayAttribute 161 = ka_cv 141 1 10 0 0 := rfl
theorem d_Md_sayAttribute_161 : decode prog_12_method_50_code 161 = .ok (.invokevirtual 300, 3) := by decide +kernel
set_option maxRecDepth 100000 in
theorem c_Md_sayAttribute_164 : ct_Md_sayAttribute 164 = ka_al 0 1 := rfl
theorem d_Md_sayAttribute_164 : decode prog_12_method_50_code 164 = .ok (.aload_n 0, 1) := by decide +kernel
set_option maxRecDepth 100000 in
theorem c_Md_sayAttribute_165 : ct_Md_sayAttribute 165 = ka_il 4 2 := rfl
theorem d_Md_sayAttribute_165 : decode prog_12_method_50_code 165 = .ok (.iload 4, 2) := by decide +kernel
set_option maxRecDepth 100000 in
theorem c_Md_sayAttribute_167 : ct_Md_sayAttribute 167 = ka_cv 141 1 10 0 0 := rfl
theorem d_Md_sayAttribute_167 : decode prog_12_method_50_code 167 = .ok (.invokevirtual 300, 3) := by decide +kernel
set_option maxRecDepth 100000 in
theorem c_Md_sayAttribute_170 : ct_Md_sayAttribute 170 = ka_ret := rfl
theorem d_Md_sayAttribute_170 : decode prog_12_method_50_code 170 = .ok (.return_, 1) := by decide +kernel
set_option maxRecDepth 100000 in
set_option maxHeartbeats 4000000 in
theorem s_Md_sayAttribute_60 : ∀ pc, pc < 60 → kc_Sim kt kw_A kw_N kt_cl kt_En "DirectoryDeskModel" prog_12_method_50_code 9 (none) "sayAttribute" none pc (ct_Md_sayAttribute pc) := by
  let P : Nat → Prop := fun pc => kc_Sim kt kw_A kw_N kt_cl kt_En "DirectoryDeskModel" prog_12_method_50_code 9 (none) "sayAttribute" none pc (ct_Md_sayAttribute pc)
  exact kc_case (P := P) (kc_se rfl sm_no) (
  kc_case (P := P) (kc_se rfl sm_no) (
  kc_case (P := P) (kc_se c_Md_sayAttribute_57 (sm_cv (j := 140) rfl rfl kw_o kw_g wc_Md_begin (Nat.le_of_ble_eq_true rfl) hd_Md_begin (ci := 10) (F := kF_Md) (N := 52) rfl (kw5 8 rfl rfl) wi_Md_begin ws_Md_begin wn_Md_begin d_Md_sayAttribute_57)) (
  kc_case (P := P) (kc_se rfl sm_no) (
  kc_case (P := P) (kc_se c_Md_sayAttribute_55 (sm_bipush d_Md_sayAttribute_55 (by decide))) (
  kc_case (P := P) (kc_se c_Md_sayAttribute_54 (sm_aload_n d_Md_sayAttribute_54 rfl)) (
  kc_case (P := P) (kc_se c_Md_sayAttribute_53 (sm_ret d_Md_sayAttribute_53 rfl)) (
  kc_case (P := P) (kc_se rfl sm_no) (
  kc_case (P := P) (kc_se rfl sm_no) (
  kc_case (P := P) (kc_se c_Md_sayAttribute_50 (sm_if_ne d_Md_sayAttribute_50 (by decide))) (
  kc_case (P := P) (kc_se c_Md_sayAttribute_49 (sm_iload_n d_Md_sayAttribute_49 rfl)) (
  kc_case (P := P) (kc_se rfl sm_no) (
  kc_case (P := P) (kc_se rfl sm_no) (
  kc_case (P := P) (kc_se c_Md_sayAttribute_46 (sm_goto d_Md_sayAttribute_46 (by decide))) (
  kc_case (P := P) (kc_se rfl sm_no) (
  kc_case (P := P) (kc_se rfl sm_no) (
  kc_case (P := P) (kc_se c_Md_sayAttribute_43 (sm_inc d_Md_sayAttribute_43 (by decide) (Nat.le_of_ble_eq_true rfl))) (
  kc_case (P := P) (kc_se c_Md_sayAttribute_42 (sm_istore_n d_Md_sayAttribute_42 rfl (Nat.le_of_ble_eq_true rfl))) (
  kc_case (P := P) (kc_se c_Md_sayAttribute_41 (sm_iload_n d_Md_sayAttribute_41 rfl)) (
  kc_case (P := P) (kc_se rfl sm_no) (
  kc_case (P := P) (kc_se rfl sm_no) (
  kc_case (P := P) (kc_se c_Md_sayAttribute_38 (sm_goto d_Md_sayAttribute_38 (by decide))) (
  kc_case (P := P) (kc_se c_Md_sayAttribute_37 (sm_iadd d_Md_sayAttribute_37)) (
  kc_case (P := P) (kc_se c_Md_sayAttribute_36 (sm_iconst d_Md_sayAttribute_36 (by decide))) (
  kc_case (P := P) (kc_se c_Md_sayAttribute_35 (sm_iload_n d_Md_sayAttribute_35 rfl)) (
  kc_case (P := P) (kc_se rfl sm_no) (
  kc_case (P := P) (kc_se rfl sm_no) (
  kc_case (P := P) (kc_se c_Md_sayAttribute_32 (sm_cm_ne d_Md_sayAttribute_32 (by decide))) (
  kc_case (P := P) (kc_se c_Md_sayAttribute_31 (sm_iload_n d_Md_sayAttribute_31 rfl)) (
  kc_case (P := P) (kc_se c_Md_sayAttribute_30 (sm_iald d_Md_sayAttribute_30)) (
  kc_case (P := P) (kc_se rfl sm_no) (
  kc_case (P := P) (kc_se c_Md_sayAttribute_28 (sm_iload d_Md_sayAttribute_28)) (
  kc_case (P := P) (kc_se rfl sm_no) (
  kc_case (P := P) (kc_se rfl sm_no) (
  kc_case (P := P) (kc_se c_Md_sayAttribute_25 (sm_get (ci := 10) (C := "DirectoryDeskModel") (F := kF_Md) rfl kin_Md (Nat.le_of_ble_eq_true rfl) d_Md_sayAttribute_25 (kw3 194 rfl rfl))) (
  kc_case (P := P) (kc_se c_Md_sayAttribute_24 (sm_aload_n d_Md_sayAttribute_24 rfl)) (
  kc_case (P := P) (kc_se rfl sm_no) (
  kc_case (P := P) (kc_se rfl sm_no) (
  kc_case (P := P) (kc_se c_Md_sayAttribute_21 (sm_cm_ge d_Md_sayAttribute_21 (by decide))) (
  kc_case (P := P) (kc_se c_Md_sayAttribute_20 (sm_iadd d_Md_sayAttribute_20)) (
  kc_case (P := P) (kc_se c_Md_sayAttribute_19 (sm_iald d_Md_sayAttribute_19)) (
  kc_case (P := P) (kc_se c_Md_sayAttribute_18 (sm_iload_n d_Md_sayAttribute_18 rfl)) (
  kc_case (P := P) (kc_se rfl sm_no) (
  kc_case (P := P) (kc_se rfl sm_no) (
  kc_case (P := P) (kc_se c_Md_sayAttribute_15 (sm_get (ci := 10) (C := "DirectoryDeskModel") (F := kF_Md) rfl kin_Md (Nat.le_of_ble_eq_true rfl) d_Md_sayAttribute_15 (kw3 193 rfl rfl))) (
  kc_case (P := P) (kc_se c_Md_sayAttribute_14 (sm_aload_n d_Md_sayAttribute_14 rfl)) (
  kc_case (P := P) (kc_se c_Md_sayAttribute_13 (sm_imul d_Md_sayAttribute_13)) (
  kc_case (P := P) (kc_se c_Md_sayAttribute_12 (sm_iload_n d_Md_sayAttribute_12 rfl)) (
  kc_case (P := P) (kc_se rfl sm_no) (
  kc_case (P := P) (kc_se c_Md_sayAttribute_10 (sm_bipush d_Md_sayAttribute_10 (by decide))) (
  kc_case (P := P) (kc_se rfl sm_no) (
  kc_case (P := P) (kc_se c_Md_sayAttribute_8 (sm_iload d_Md_sayAttribute_8)) (
  kc_case (P := P) (kc_se rfl sm_no) (
  kc_case (P := P) (kc_se c_Md_sayAttribute_6 (sm_istore d_Md_sayAttribute_6 (Nat.le_of_ble_eq_true rfl))) (
  kc_case (P := P) (kc_se c_Md_sayAttribute_5 (sm_imul d_Md_sayAttribute_5)) (
  kc_case (P := P) (kc_se c_Md_sayAttribute_4 (sm_iload_n d_Md_sayAttribute_4 rfl)) (
  kc_case (P := P) (kc_se rfl sm_no) (
  kc_case (P := P) (kc_se c_Md_sayAttribute_2 (sm_bipush d_Md_sayAttribute_2 (by decide))) (
  kc_case (P := P) (kc_se c_Md_sayAttribute_1 (sm_istore_n d_Md_sayAttribute_1 rfl (Nat.le_of_ble_eq_true rfl))) (
  kc_case (P := P) (kc_se c_Md_sayAttribute_0 (sm_iconst d_Md_sayAttribute_0 (by decide))) (
  kc_case0))))))))))))))))))))))))))))))))))))))))))))))))))))))))))))
set_option maxRecDepth 100000 in
set_option maxHeartbeats 4000000 in
theorem s_Md_sayAttribute_120 : ∀ pc, pc < 120 → kc_Sim kt kw_A kw_N kt_cl kt_En "DirectoryDeskModel" prog_12_method_50_code 9 (none) "sayAttribute" none pc (ct_Md_sayAttribute pc) := by
  let P : Nat → Prop := fun pc => kc_Sim kt kw_A kw_N kt_cl kt_En "DirectoryDeskModel" prog_12_method_50_code 9 (none) "sayAttribute" none pc (ct_Md_sayAttribute pc)
  exact kc_case (P := P) (kc_se rfl sm_no) (
  kc_case (P := P) (kc_se c_Md_sayAttribute_118 (sm_cm_ne d_Md_sayAttribute_118 (by decide))) (
  kc_case (P := P) (kc_se c_Md_sayAttribute_117 (sm_iload_n d_Md_sayAttribute_117 rfl)) (
  kc_case (P := P) (kc_se c_Md_sayAttribute_116 (sm_iald d_Md_sayAttribute_116)) (
  kc_case (P := P) (kc_se rfl sm_no) (
  kc_case (P := P) (kc_se c_Md_sayAttribute_114 (sm_iload d_Md_sayAttribute_114)) (
  kc_case (P := P) (kc_se rfl sm_no) (
  kc_case (P := P) (kc_se rfl sm_no) (
  kc_case (P := P) (kc_se c_Md_sayAttribute_111 (sm_get (ci := 10) (C := "DirectoryDeskModel") (F := kF_Md) rfl kin_Md (Nat.le_of_ble_eq_true rfl) d_Md_sayAttribute_111 (kw3 194 rfl rfl))) (
  kc_case (P := P) (kc_se c_Md_sayAttribute_110 (sm_aload_n d_Md_sayAttribute_110 rfl)) (
  kc_case (P := P) (kc_se rfl sm_no) (
  kc_case (P := P) (kc_se rfl sm_no) (
  kc_case (P := P) (kc_se c_Md_sayAttribute_107 (sm_cm_ge d_Md_sayAttribute_107 (by decide))) (
  kc_case (P := P) (kc_se c_Md_sayAttribute_106 (sm_iadd d_Md_sayAttribute_106)) (
  kc_case (P := P) (kc_se c_Md_sayAttribute_105 (sm_iald d_Md_sayAttribute_105)) (
  kc_case (P := P) (kc_se c_Md_sayAttribute_104 (sm_iload_n d_Md_sayAttribute_104 rfl)) (
  kc_case (P := P) (kc_se rfl sm_no) (
  kc_case (P := P) (kc_se rfl sm_no) (
  kc_case (P := P) (kc_se c_Md_sayAttribute_101 (sm_get (ci := 10) (C := "DirectoryDeskModel") (F := kF_Md) rfl kin_Md (Nat.le_of_ble_eq_true rfl) d_Md_sayAttribute_101 (kw3 193 rfl rfl))) (
  kc_case (P := P) (kc_se c_Md_sayAttribute_100 (sm_aload_n d_Md_sayAttribute_100 rfl)) (
  kc_case (P := P) (kc_se c_Md_sayAttribute_99 (sm_imul d_Md_sayAttribute_99)) (
  kc_case (P := P) (kc_se c_Md_sayAttribute_98 (sm_iload_n d_Md_sayAttribute_98 rfl)) (
  kc_case (P := P) (kc_se rfl sm_no) (
  kc_case (P := P) (kc_se c_Md_sayAttribute_96 (sm_bipush d_Md_sayAttribute_96 (by decide))) (
  kc_case (P := P) (kc_se rfl sm_no) (
  kc_case (P := P) (kc_se c_Md_sayAttribute_94 (sm_iload d_Md_sayAttribute_94)) (
  kc_case (P := P) (kc_se rfl sm_no) (
  kc_case (P := P) (kc_se c_Md_sayAttribute_92 (sm_istore d_Md_sayAttribute_92 (Nat.le_of_ble_eq_true rfl))) (
  kc_case (P := P) (kc_se c_Md_sayAttribute_91 (sm_imul d_Md_sayAttribute_91)) (
  kc_case (P := P) (kc_se c_Md_sayAttribute_90 (sm_iload_n d_Md_sayAttribute_90 rfl)) (
  kc_case (P := P) (kc_se rfl sm_no) (
  kc_case (P := P) (kc_se c_Md_sayAttribute_88 (sm_bipush d_Md_sayAttribute_88 (by decide))) (
  kc_case (P := P) (kc_se rfl sm_no) (
  kc_case (P := P) (kc_se c_Md_sayAttribute_86 (sm_istore d_Md_sayAttribute_86 (Nat.le_of_ble_eq_true rfl))) (
  kc_case (P := P) (kc_se rfl sm_no) (
  kc_case (P := P) (kc_se rfl sm_no) (
  kc_case (P := P) (kc_se c_Md_sayAttribute_83 (sm_cv (j := 140) rfl rfl kw_o kw_g wc_Md_begin (Nat.le_of_ble_eq_true rfl) hd_Md_begin (ci := 10) (F := kF_Md) (N := 52) rfl (kw5 8 rfl rfl) wi_Md_begin ws_Md_begin wn_Md_begin d_Md_sayAttribute_83)) (
  kc_case (P := P) (kc_se rfl sm_no) (
  kc_case (P := P) (kc_se c_Md_sayAttribute_81 (sm_bipush d_Md_sayAttribute_81 (by decide))) (
  kc_case (P := P) (kc_se c_Md_sayAttribute_80 (sm_aload_n d_Md_sayAttribute_80 rfl)) (
  kc_case (P := P) (kc_se rfl sm_no) (
  kc_case (P := P) (kc_se rfl sm_no) (
  kc_case (P := P) (kc_se c_Md_sayAttribute_77 (sm_cv (j := 141) rfl rfl kw_o kw_g wc_Md_close (Nat.le_of_ble_eq_true rfl) hd_Md_close (ci := 10) (F := kF_Md) (N := 52) rfl (kw5 20 rfl rfl) wi_Md_close ws_Md_close wn_Md_close d_Md_sayAttribute_77)) (
  kc_case (P := P) (kc_se rfl sm_no) (
  kc_case (P := P) (kc_se c_Md_sayAttribute_75 (sm_iload d_Md_sayAttribute_75)) (
  kc_case (P := P) (kc_se c_Md_sayAttribute_74 (sm_aload_n d_Md_sayAttribute_74 rfl)) (
  kc_case (P := P) (kc_se rfl sm_no) (
  kc_case (P := P) (kc_se rfl sm_no) (
  kc_case (P := P) (kc_se c_Md_sayAttribute_71 (sm_cv (j := 139) rfl rfl kw_o kw_g wc_Md_say (Nat.le_of_ble_eq_true rfl) hd_Md_say (ci := 10) (F := kF_Md) (N := 52) rfl (kw5 12 rfl rfl) wi_Md_say ws_Md_say wn_Md_say d_Md_sayAttribute_71)) (
  kc_case (P := P) (kc_se c_Md_sayAttribute_70 (sm_iload_n d_Md_sayAttribute_70 rfl)) (
  kc_case (P := P) (kc_se c_Md_sayAttribute_69 (sm_aload_n d_Md_sayAttribute_69 rfl)) (
  kc_case (P := P) (kc_se rfl sm_no) (
  kc_case (P := P) (kc_se c_Md_sayAttribute_67 (sm_istore d_Md_sayAttribute_67 (Nat.le_of_ble_eq_true rfl))) (
  kc_case (P := P) (kc_se rfl sm_no) (
  kc_case (P := P) (kc_se rfl sm_no) (
  kc_case (P := P) (kc_se c_Md_sayAttribute_64 (sm_cv (j := 140) rfl rfl kw_o kw_g wc_Md_begin (Nat.le_of_ble_eq_true rfl) hd_Md_begin (ci := 10) (F := kF_Md) (N := 52) rfl (kw5 8 rfl rfl) wi_Md_begin ws_Md_begin wn_Md_begin d_Md_sayAttribute_64)) (
  kc_case (P := P) (kc_se c_Md_sayAttribute_63 (sm_iconst d_Md_sayAttribute_63 (by decide))) (
  kc_case (P := P) (kc_se c_Md_sayAttribute_62 (sm_aload_n d_Md_sayAttribute_62 rfl)) (
  kc_case (P := P) (kc_se rfl sm_no) (
  kc_case (P := P) (kc_se c_Md_sayAttribute_60 (sm_istore d_Md_sayAttribute_60 (Nat.le_of_ble_eq_true rfl))) (
  s_Md_sayAttribute_60))))))))))))))))))))))))))))))))))))))))))))))))))))))))))))
set_option maxRecDepth 100000 in
set_option maxHeartbeats 4000000 in
theorem s_Md_sayAttribute_171 : ∀ pc, pc < 171 → kc_Sim kt kw_A kw_N kt_cl kt_En "DirectoryDeskModel" prog_12_method_50_code 9 (none) "sayAttribute" none pc (ct_Md_sayAttribute pc) := by
  let P : Nat → Prop := fun pc => kc_Sim kt kw_A kw_N kt_cl kt_En "DirectoryDeskModel" prog_12_method_50_code 9 (none) "sayAttribute" none pc (ct_Md_sayAttribute pc)
  exact kc_case (P := P) (kc_se c_Md_sayAttribute_170 (sm_ret d_Md_sayAttribute_170 rfl)) (
  kc_case (P := P) (kc_se rfl sm_no) (
  kc_case (P := P) (kc_se rfl sm_no) (
  kc_case (P := P) (kc_se c_Md_sayAttribute_167 (sm_cv (j := 141) rfl rfl kw_o kw_g wc_Md_close (Nat.le_of_ble_eq_true rfl) hd_Md_close (ci := 10) (F := kF_Md) (N := 52) rfl (kw5 20 rfl rfl) wi_Md_close ws_Md_close wn_Md_close d_Md_sayAttribute_167)) (
  kc_case (P := P) (kc_se rfl sm_no) (
  kc_case (P := P) (kc_se c_Md_sayAttribute_165 (sm_iload d_Md_sayAttribute_165)) (
  kc_case (P := P) (kc_se c_Md_sayAttribute_164 (sm_aload_n d_Md_sayAttribute_164 rfl)) (
  kc_case (P := P) (kc_se rfl sm_no) (
  kc_case (P := P) (kc_se rfl sm_no) (
  kc_case (P := P) (kc_se c_Md_sayAttribute_161 (sm_cv (j := 141) rfl rfl kw_o kw_g wc_Md_close (Nat.le_of_ble_eq_true rfl) hd_Md_close (ci := 10) (F := kF_Md) (N := 52) rfl (kw5 20 rfl rfl) wi_Md_close ws_Md_close wn_Md_close d_Md_sayAttribute_161)) (
  kc_case (P := P) (kc_se rfl sm_no) (
  kc_case (P := P) (kc_se c_Md_sayAttribute_159 (sm_iload d_Md_sayAttribute_159)) (
  kc_case (P := P) (kc_se c_Md_sayAttribute_158 (sm_aload_n d_Md_sayAttribute_158 rfl)) (
  kc_case (P := P) (kc_se rfl sm_no) (
  kc_case (P := P) (kc_se rfl sm_no) (
  kc_case (P := P) (kc_se c_Md_sayAttribute_155 (sm_goto d_Md_sayAttribute_155 (by decide))) (
  kc_case (P := P) (kc_se rfl sm_no) (
  kc_case (P := P) (kc_se rfl sm_no) (
  kc_case (P := P) (kc_se c_Md_sayAttribute_152 (sm_inc d_Md_sayAttribute_152 (by decide) (Nat.le_of_ble_eq_true rfl))) (
  kc_case (P := P) (kc_se rfl sm_no) (
  kc_case (P := P) (kc_se rfl sm_no) (
  kc_case (P := P) (kc_se c_Md_sayAttribute_149 (sm_cv (j := 141) rfl rfl kw_o kw_g wc_Md_close (Nat.le_of_ble_eq_true rfl) hd_Md_close (ci := 10) (F := kF_Md) (N := 52) rfl (kw5 20 rfl rfl) wi_Md_close ws_Md_close wn_Md_close d_Md_sayAttribute_149)) (
  kc_case (P := P) (kc_se rfl sm_no) (
  kc_case (P := P) (kc_se c_Md_sayAttribute_147 (sm_iload d_Md_sayAttribute_147)) (
  kc_case (P := P) (kc_se c_Md_sayAttribute_146 (sm_aload_n d_Md_sayAttribute_146 rfl)) (
  kc_case (P := P) (kc_se rfl sm_no) (
  kc_case (P := P) (kc_se rfl sm_no) (
  kc_case (P := P) (kc_se c_Md_sayAttribute_143 (sm_cv (j := 143) rfl rfl kw_o kw_g wc_Md_sayValue (Nat.le_of_ble_eq_true rfl) hd_Md_sayValue (ci := 10) (F := kF_Md) (N := 52) rfl (kw5 28 rfl rfl) wi_Md_sayValue ws_Md_sayValue wn_Md_sayValue d_Md_sayAttribute_143)) (
  kc_case (P := P) (kc_se c_Md_sayAttribute_142 (sm_lald d_Md_sayAttribute_142)) (
  kc_case (P := P) (kc_se rfl sm_no) (
  kc_case (P := P) (kc_se c_Md_sayAttribute_140 (sm_iload d_Md_sayAttribute_140)) (
  kc_case (P := P) (kc_se rfl sm_no) (
  kc_case (P := P) (kc_se rfl sm_no) (
  kc_case (P := P) (kc_se c_Md_sayAttribute_137 (sm_get (ci := 10) (C := "DirectoryDeskModel") (F := kF_Md) rfl kin_Md (Nat.le_of_ble_eq_true rfl) d_Md_sayAttribute_137 (kw3 195 rfl rfl))) (
  kc_case (P := P) (kc_se c_Md_sayAttribute_136 (sm_aload_n d_Md_sayAttribute_136 rfl)) (
  kc_case (P := P) (kc_se c_Md_sayAttribute_135 (sm_aload_n d_Md_sayAttribute_135 rfl)) (
  kc_case (P := P) (kc_se rfl sm_no) (
  kc_case (P := P) (kc_se c_Md_sayAttribute_133 (sm_istore d_Md_sayAttribute_133 (Nat.le_of_ble_eq_true rfl))) (
  kc_case (P := P) (kc_se rfl sm_no) (
  kc_case (P := P) (kc_se rfl sm_no) (
  kc_case (P := P) (kc_se c_Md_sayAttribute_130 (sm_cv (j := 140) rfl rfl kw_o kw_g wc_Md_begin (Nat.le_of_ble_eq_true rfl) hd_Md_begin (ci := 10) (F := kF_Md) (N := 52) rfl (kw5 8 rfl rfl) wi_Md_begin ws_Md_begin wn_Md_begin d_Md_sayAttribute_130)) (
  kc_case (P := P) (kc_se c_Md_sayAttribute_129 (sm_iconst d_Md_sayAttribute_129 (by decide))) (
  kc_case (P := P) (kc_se c_Md_sayAttribute_128 (sm_aload_n d_Md_sayAttribute_128 rfl)) (
  kc_case (P := P) (kc_se rfl sm_no) (
  kc_case (P := P) (kc_se rfl sm_no) (
  kc_case (P := P) (kc_se c_Md_sayAttribute_125 (sm_if_ne d_Md_sayAttribute_125 (by decide))) (
  kc_case (P := P) (kc_se rfl sm_no) (
  kc_case (P := P) (kc_se rfl sm_no) (
  kc_case (P := P) (kc_se c_Md_sayAttribute_122 (sm_get (ci := 10) (C := "DirectoryDeskModel") (F := kF_Md) rfl kin_Md (Nat.le_of_ble_eq_true rfl) d_Md_sayAttribute_122 (kw3 213 rfl rfl))) (
  kc_case (P := P) (kc_se c_Md_sayAttribute_121 (sm_aload_n d_Md_sayAttribute_121 rfl)) (
  kc_case (P := P) (kc_se rfl sm_no) (
  s_Md_sayAttribute_120)))))))))))))))))))))))))))))))))))))))))))))))))))
set_option maxRecDepth 100000 in
theorem ka_nth_no_Md_sayAttribute (pc : Nat) (h : 171 ≤ pc) : ct_Md_sayAttribute pc = ka_no := ka_nth_ge _ pc (Nat.le_trans (Nat.le_of_eq (by rfl)) h)
theorem s_Md_sayAttribute (pc : Nat) : kc_Sim kt kw_A kw_N kt_cl kt_En "DirectoryDeskModel" prog_12_method_50_code 9 (none) "sayAttribute" none pc (ct_Md_sayAttribute pc) := (Nat.lt_or_ge pc 171).elim (s_Md_sayAttribute_171 pc) (fun h => kc_se (ka_nth_no_Md_sayAttribute pc h) sm_no)
def cl_Md_show_0 : List kc_A := [ka_al 0 1, ka_get 10 5, ka_no, ka_no, ka_is 2 1, ka_al 0 1, ka_ci (nI 48) 2, ka_no, ka_cv 140 1 10 0 0, ka_no, ka_no, ka_is 3 1, ka_al 0 1, ka_cv 142 0 10 0 0, ka_no, ka_no, ka_al 0 1, ka_ci (nI 100) 2, ka_no, ka_cv 140 1 10 0 0, ka_no, ka_no, ka_is 4 2, ka_no, ka_al 0 1, ka_ci (nI 4) 1, ka_cv 140 1 10 0 0, ka_no, ka_no, ka_is 5 2, ka_no, ka_ci (nI 0) 1, ka_is 6 2, ka_no, ka_il 6 2, ka_no, ka_al 0 1, ka_get 10 7, ka_no, ka_no, ka_il 1 1, ka_iald, ka_cm (fun x y => y ≤ x) 88, ka_no, ka_no, ka_il 6 2, ka_no, ka_if (fun x => x ≤ 0) 56, ka_no, ka_no, ka_al 0 1, ka_ci (nI 44) 2, ka_no, ka_cv 139 1 10 0 0, ka_no, ka_no, ka_al 0 1, ka_al 0 1, ka_get 10 8, ka_no]
def cl_Md_show_1 : List kc_A := [ka_no, ka_ci (nI 4) 1, ka_il 1 1, ka_ii (fun x y => x * y), ka_il 6 2, ka_no, ka_ii (fun x y => x + y), ka_iald, ka_al 0 1, ka_get 10 9, ka_no, ka_no, ka_ci (nI 4) 1, ka_il 1 1, ka_ii (fun x y => x * y), ka_il 6 2, ka_no, ka_ii (fun x y => x + y), ka_lald, ka_cv 144 2 10 0 0, ka_no, ka_no, ka_inc 6 (nI 1), ka_no, ka_no, ka_goto 34, ka_no, ka_no, ka_al 0 1, ka_il 5 2, ka_no, ka_cv 141 1 10 0 0, ka_no, ka_no, ka_al 0 1, ka_ci (nI 48) 2, ka_no, ka_cv 140 1 10 0 0, ka_no, ka_no, ka_is 6 2, ka_no, ka_ci (nI 97) 2, ka_no, ka_is 7 2, ka_no, ka_il 7 2, ka_no, ka_ci (nI 102) 2, ka_no, ka_cm (fun x y => y < x) 149, ka_no, ka_no, ka_al 0 1, ka_get 10 32, ka_no, ka_no, ka_if (fun x => x = 0) 136, ka_no, ka_no]
def cl_Md_show_2 : List kc_A := [ka_al 0 1, ka_get 10 31, ka_no, ka_no, ka_il 7 2, ka_no, ka_ci (nI 97) 2, ka_no, ka_ii (fun x y => x - y), ka_ii (fun x y => x >>> (y &&& 31)), ka_ci (nI 1) 1, ka_ii (fun x y => x &&& y), ka_ci (nI 1) 1, ka_cm (fun x y => ¬ x = y) 143, ka_no, ka_no, ka_al 0 1, ka_il 1 1, ka_il 7 2, ka_no, ka_cv 145 2 10 0 0, ka_no, ka_no, ka_inc 7 (nI 1), ka_no, ka_no, ka_goto 106, ka_no, ka_no, ka_al 0 1, ka_il 6 2, ka_no, ka_cv 141 1 10 0 0, ka_no, ka_no, ka_al 0 1, ka_il 4 2, ka_no, ka_cv 141 1 10 0 0, ka_no, ka_no, ka_al 0 1, ka_il 3 1, ka_cv 141 1 10 0 0, ka_no, ka_no, ka_al 0 1, ka_get 10 5, ka_no, ka_no, ka_il 3 1, ka_ii (fun x y => x - y), ka_ci (nI 127) 2, ka_no, ka_cm (fun x y => y < x) 187, ka_no, ka_no, ka_al 0 1, ka_get 10 5, ka_no]
def cl_Md_show_3 : List kc_A := [ka_no, ka_ci (nI 284) 3, ka_no, ka_no, ka_cm (fun x y => x ≤ y) 194, ka_no, ka_no, ka_al 0 1, ka_il 2 1, ka_put 10 5 .int, ka_no, ka_no, ka_ci (nI 0) 1, ka_rz, ka_ci (nI 1) 1, ka_rz]
def ct_Md_show : Nat → kc_A := fun pc => ka_nth (cl_Md_show_0 ++ (cl_Md_show_1 ++ (cl_Md_show_2 ++ (cl_Md_show_3)))) pc
set_option maxRecDepth 100000 in
theorem c_Md_show_0 : ct_Md_show 0 = ka_al 0 1 := rfl
theorem d_Md_show_0 : decode prog_12_method_51_code 0 = .ok (.aload_n 0, 1) := by decide +kernel
set_option maxRecDepth 100000 in
theorem c_Md_show_1 : ct_Md_show 1 = ka_get 10 5 := rfl
theorem d_Md_show_1 : decode prog_12_method_51_code 1 = .ok (.getfield 288, 3) := by decide +kernel
set_option maxRecDepth 100000 in
theorem c_Md_show_4 : ct_Md_show 4 = ka_is 2 1 := rfl
theorem d_Md_show_4 : decode prog_12_method_51_code 4 = .ok (.istore_n 2, 1) := by decide +kernel
set_option maxRecDepth 100000 in
theorem c_Md_show_5 : ct_Md_show 5 = ka_al 0 1 := rfl
theorem d_Md_show_5 : decode prog_12_method_51_code 5 = .ok (.aload_n 0, 1) := by decide +kernel
set_option maxRecDepth 100000 in
theorem c_Md_show_6 : ct_Md_show 6 = ka_ci (nI 48) 2 := rfl
theorem d_Md_show_6 : decode prog_12_method_51_code 6 = .ok (.bipush 48, 2) := by decide +kernel
set_option maxRecDepth 100000 in
theorem c_Md_show_8 : ct_Md_show 8 = ka_cv 140 1 10 0 0 := rfl
theorem d_Md_show_8 : decode prog_12_method_51_code 8 = .ok (.invokevirtual 294, 3) := by decide +kernel
set_option maxRecDepth 100000 in
theorem c_Md_show_11 : ct_Md_show 11 = ka_is 3 1 := rfl
theorem d_Md_show_11 : decode prog_12_method_51_code 11 = .ok (.istore_n 3, 1) := by decide +kernel
set_option maxRecDepth 100000 in
theorem c_Md_show_12 : ct_Md_show 12 = ka_al 0 1 := rfl
theorem d_Md_show_12 : decode prog_12_method_51_code 12 = .ok (.aload_n 0, 1) := by decide +kernel
set_option maxRecDepth 100000 in
theorem c_Md_show_13 : ct_Md_show 13 = ka_cv 142 0 10 0 0 := rfl
theorem d_Md_show_13 : decode prog_12_method_51_code 13 = .ok (.invokevirtual 307, 3) := by decide +kernel
set_option maxRecDepth 100000 in
theorem c_Md_show_16 : ct_Md_show 16 = ka_al 0 1 := rfl
theorem d_Md_show_16 : decode prog_12_method_51_code 16 = .ok (.aload_n 0, 1) := by decide +kernel
set_option maxRecDepth 100000 in
theorem c_Md_show_17 : ct_Md_show 17 = ka_ci (nI 100) 2 := rfl
theorem d_Md_show_17 : decode prog_12_method_51_code 17 = .ok (.bipush 100, 2) := by decide +kernel
set_option maxRecDepth 100000 in
theorem c_Md_show_19 : ct_Md_show 19 = ka_cv 140 1 10 0 0 := rfl
theorem d_Md_show_19 : decode prog_12_method_51_code 19 = .ok (.invokevirtual 294, 3) := by decide +kernel
set_option maxRecDepth 100000 in
theorem c_Md_show_22 : ct_Md_show 22 = ka_is 4 2 := rfl
theorem d_Md_show_22 : decode prog_12_method_51_code 22 = .ok (.istore 4, 2) := by decide +kernel
set_option maxRecDepth 100000 in
theorem c_Md_show_24 : ct_Md_show 24 = ka_al 0 1 := rfl
theorem d_Md_show_24 : decode prog_12_method_51_code 24 = .ok (.aload_n 0, 1) := by decide +kernel
set_option maxRecDepth 100000 in
theorem c_Md_show_25 : ct_Md_show 25 = ka_ci (nI 4) 1 := rfl
theorem d_Md_show_25 : decode prog_12_method_51_code 25 = .ok (.iconst 4, 1) := by decide +kernel
set_option maxRecDepth 100000 in
theorem c_Md_show_26 : ct_Md_show 26 = ka_cv 140 1 10 0 0 := rfl
theorem d_Md_show_26 : decode prog_12_method_51_code 26 = .ok (.invokevirtual 294, 3) := by decide +kernel
set_option maxRecDepth 100000 in
theorem c_Md_show_29 : ct_Md_show 29 = ka_is 5 2 := rfl
theorem d_Md_show_29 : decode prog_12_method_51_code 29 = .ok (.istore 5, 2) := by decide +kernel
set_option maxRecDepth 100000 in
theorem c_Md_show_31 : ct_Md_show 31 = ka_ci (nI 0) 1 := rfl
theorem d_Md_show_31 : decode prog_12_method_51_code 31 = .ok (.iconst 0, 1) := by decide +kernel
set_option maxRecDepth 100000 in
theorem c_Md_show_32 : ct_Md_show 32 = ka_is 6 2 := rfl
theorem d_Md_show_32 : decode prog_12_method_51_code 32 = .ok (.istore 6, 2) := by decide +kernel
set_option maxRecDepth 100000 in
theorem c_Md_show_34 : ct_Md_show 34 = ka_il 6 2 := rfl
theorem d_Md_show_34 : decode prog_12_method_51_code 34 = .ok (.iload 6, 2) := by decide +kernel
set_option maxRecDepth 100000 in
theorem c_Md_show_36 : ct_Md_show 36 = ka_al 0 1 := rfl
theorem d_Md_show_36 : decode prog_12_method_51_code 36 = .ok (.aload_n 0, 1) := by decide +kernel
set_option maxRecDepth 100000 in
theorem c_Md_show_37 : ct_Md_show 37 = ka_get 10 7 := rfl
theorem d_Md_show_37 : decode prog_12_method_51_code 37 = .ok (.getfield 16, 3) := by decide +kernel
set_option maxRecDepth 100000 in
theorem c_Md_show_40 : ct_Md_show 40 = ka_il 1 1 := rfl
theorem d_Md_show_40 : decode prog_12_method_51_code 40 = .ok (.iload_n 1, 1) := by decide +kernel
set_option maxRecDepth 100000 in
theorem c_Md_show_41 : ct_Md_show 41 = ka_iald := rfl
theorem d_Md_show_41 : decode prog_12_method_51_code 41 = .ok (.iaload, 1) := by decide +kernel
set_option maxRecDepth 100000 in
theorem c_Md_show_42 : ct_Md_show 42 = ka_cm (fun x y => y ≤ x) 88 := rfl
theorem d_Md_show_42 : decode prog_12_method_51_code 42 = .ok (.if_icmp .ge 46, 3) := by decide +kernel
set_option maxRecDepth 100000 in
theorem c_Md_show_45 : ct_Md_show 45 = ka_il 6 2 := rfl
theorem d_Md_show_45 : decode prog_12_method_51_code 45 = .ok (.iload 6, 2) := by decide +kernel
set_option maxRecDepth 100000 in
theorem c_Md_show_47 : ct_Md_show 47 = ka_if (fun x => x ≤ 0) 56 := rfl
theorem d_Md_show_47 : decode prog_12_method_51_code 47 = .ok (.ifCond .le 9, 3) := by decide +kernel
set_option maxRecDepth 100000 in
theorem c_Md_show_50 : ct_Md_show 50 = ka_al 0 1 := rfl
theorem d_Md_show_50 : decode prog_12_method_51_code 50 = .ok (.aload_n 0, 1) := by decide +kernel
set_option maxRecDepth 100000 in
theorem c_Md_show_51 : ct_Md_show 51 = ka_ci (nI 44) 2 := rfl
theorem d_Md_show_51 : decode prog_12_method_51_code 51 = .ok (.bipush 44, 2) := by decide +kernel
set_option maxRecDepth 100000 in
theorem c_Md_show_53 : ct_Md_show 53 = ka_cv 139 1 10 0 0 := rfl
theorem d_Md_show_53 : decode prog_12_method_51_code 53 = .ok (.invokevirtual 291, 3) := by decide +kernel
set_option maxRecDepth 100000 in
theorem c_Md_show_56 : ct_Md_show 56 = ka_al 0 1 := rfl
theorem d_Md_show_56 : decode prog_12_method_51_code 56 = .ok (.aload_n 0, 1) := by decide +kernel
set_option maxRecDepth 100000 in
theorem c_Md_show_57 : ct_Md_show 57 = ka_al 0 1 := rfl
theorem d_Md_show_57 : decode prog_12_method_51_code 57 = .ok (.aload_n 0, 1) := by decide +kernel
set_option maxRecDepth 100000 in
theorem c_Md_show_58 : ct_Md_show 58 = ka_get 10 8 := rfl
theorem d_Md_show_58 : decode prog_12_method_51_code 58 = .ok (.getfield 19, 3) := by decide +kernel
set_option maxRecDepth 100000 in
theorem c_Md_show_61 : ct_Md_show 61 = ka_ci (nI 4) 1 := rfl
theorem d_Md_show_61 : decode prog_12_method_51_code 61 = .ok (.iconst 4, 1) := by decide +kernel
set_option maxRecDepth 100000 in
theorem c_Md_show_62 : ct_Md_show 62 = ka_il 1 1 := rfl
theorem d_Md_show_62 : decode prog_12_method_51_code 62 = .ok (.iload_n 1, 1) := by decide +kernel
set_option maxRecDepth 100000 in
theorem c_Md_show_63 : ct_Md_show 63 = ka_ii (fun x y => x * y) := rfl
theorem d_Md_show_63 : decode prog_12_method_51_code 63 = .ok (.imul, 1) := by decide +kernel
set_option maxRecDepth 100000 in
theorem c_Md_show_64 : ct_Md_show 64 = ka_il 6 2 := rfl
theorem d_Md_show_64 : decode prog_12_method_51_code 64 = .ok (.iload 6, 2) := by decide +kernel
set_option maxRecDepth 100000 in
theorem c_Md_show_66 : ct_Md_show 66 = ka_ii (fun x y => x + y) := rfl
theorem d_Md_show_66 : decode prog_12_method_51_code 66 = .ok (.iadd, 1) := by decide +kernel
set_option maxRecDepth 100000 in
theorem c_Md_show_67 : ct_Md_show 67 = ka_iald := rfl
theorem d_Md_show_67 : decode prog_12_method_51_code 67 = .ok (.iaload, 1) := by decide +kernel
set_option maxRecDepth 100000 in
theorem c_Md_show_68 : ct_Md_show 68 = ka_al 0 1 := rfl
theorem d_Md_show_68 : decode prog_12_method_51_code 68 = .ok (.aload_n 0, 1) := by decide +kernel
set_option maxRecDepth 100000 in
theorem c_Md_show_69 : ct_Md_show 69 = ka_get 10 9 := rfl
theorem d_Md_show_69 : decode prog_12_method_51_code 69 = .ok (.getfield 22, 3) := by decide +kernel
set_option maxRecDepth 100000 in
theorem c_Md_show_72 : ct_Md_show 72 = ka_ci (nI 4) 1 := rfl
theorem d_Md_show_72 : decode prog_12_method_51_code 72 = .ok (.iconst 4, 1) := by decide +kernel
set_option maxRecDepth 100000 in
theorem c_Md_show_73 : ct_Md_show 73 = ka_il 1 1 := rfl
theorem d_Md_show_73 : decode prog_12_method_51_code 73 = .ok (.iload_n 1, 1) := by decide +kernel
set_option maxRecDepth 100000 in
theorem c_Md_show_74 : ct_Md_show 74 = ka_ii (fun x y => x * y) := rfl
theorem d_Md_show_74 : decode prog_12_method_51_code 74 = .ok (.imul, 1) := by decide +kernel
set_option maxRecDepth 100000 in
theorem c_Md_show_75 : ct_Md_show 75 = ka_il 6 2 := rfl
theorem d_Md_show_75 : decode prog_12_method_51_code 75 = .ok (.iload 6, 2) := by decide +kernel
set_option maxRecDepth 100000 in
theorem c_Md_show_77 : ct_Md_show 77 = ka_ii (fun x y => x + y) := rfl
theorem d_Md_show_77 : decode prog_12_method_51_code 77 = .ok (.iadd, 1) := by decide +kernel
set_option maxRecDepth 100000 in
theorem c_Md_show_78 : ct_Md_show 78 = ka_lald := rfl
theorem d_Md_show_78 : decode prog_12_method_51_code 78 = .ok (.laload, 1) := by decide +kernel
set_option maxRecDepth 100000 in
theorem c_Md_show_79 : ct_Md_show 79 = ka_cv 144 2 10 0 0 := rfl
theorem d_Md_show_79 : decode prog_12_method_51_code 79 = .ok (.invokevirtual 310, 3) := by decide +kernel
set_option maxRecDepth 100000 in
theorem c_Md_show_82 : ct_Md_show 82 = ka_inc 6 (nI 1) := rfl
theorem d_Md_show_82 : decode prog_12_method_51_code 82 = .ok (.iinc 6 1, 3) := by decide +kernel
set_option maxRecDepth 100000 in
theorem c_Md_show_85 : ct_Md_show 85 = ka_goto 34 := rfl
theorem d_Md_show_85 : decode prog_12_method_51_code 85 = .ok (.goto (-51), 3) := by decide +kernel
set_option maxRecDepth 100000 in
theorem c_Md_show_88 : ct_Md_show 88 = ka_al 0 1 := rfl
theorem d_Md_show_88 : decode prog_12_method_51_code 88 = .ok (.aload_n 0, 1) := by decide +kernel
set_option maxRecDepth 100000 in
theorem c_Md_show_89 : ct_Md_show 89 = ka_il 5 2 := rfl
theorem d_Md_show_89 : decode prog_12_method_51_code 89 = .ok (.iload 5, 2) := by decide +kernel
set_option maxRecDepth 100000 in
theorem c_Md_show_91 : ct_Md_show 91 = ka_cv 141 1 10 0 0 := rfl
theorem d_Md_show_91 : decode prog_12_method_51_code 91 = .ok (.invokevirtual 300, 3) := by decide +kernel
set_option maxRecDepth 100000 in
theorem c_Md_show_94 : ct_Md_show 94 = ka_al 0 1 := rfl
theorem d_Md_show_94 : decode prog_12_method_51_code 94 = .ok (.aload_n 0, 1) := by decide +kernel
set_option maxRecDepth 100000 in
theorem c_Md_show_95 : ct_Md_show 95 = ka_ci (nI 48) 2 := rfl
theorem d_Md_show_95 : decode prog_12_method_51_code 95 = .ok (.bipush 48, 2) := by decide +kernel
set_option maxRecDepth 100000 in
theorem c_Md_show_97 : ct_Md_show 97 = ka_cv 140 1 10 0 0 := rfl
theorem d_Md_show_97 : decode prog_12_method_51_code 97 = .ok (.invokevirtual 294, 3) := by decide +kernel
set_option maxRecDepth 100000 in
theorem c_Md_show_100 : ct_Md_show 100 = ka_is 6 2 := rfl
theorem d_Md_show_100 : decode prog_12_method_51_code 100 = .ok (.istore 6, 2) := by decide +kernel
set_option maxRecDepth 100000 in
theorem c_Md_show_102 : ct_Md_show 102 = ka_ci (nI 97) 2 := rfl
theorem d_Md_show_102 : decode prog_12_method_51_code 102 = .ok (.bipush 97, 2) := by decide +kernel
set_option maxRecDepth 100000 in
theorem c_Md_show_104 : ct_Md_show 104 = ka_is 7 2 := rfl
theorem d_Md_show_104 : decode prog_12_method_51_code 104 = .ok (.istore 7, 2) := by decide +kernel
set_option maxRecDepth 100000 in
theorem c_Md_show_106 : ct_Md_show 106 = ka_il 7 2 := rfl
theorem d_Md_show_106 : decode prog_12_method_51_code 106 = .ok (.iload 7, 2) := by decide +kernel
set_option maxRecDepth 100000 in
theorem c_Md_show_108 : ct_Md_show 108 = ka_ci (nI 102) 2 := rfl
theorem d_Md_show_108 : decode prog_12_method_51_code 108 = .ok (.bipush 102, 2) := by decide +kernel
set_option maxRecDepth 100000 in
theorem c_Md_show_110 : ct_Md_show 110 = ka_cm (fun x y => y < x) 149 := rfl
theorem d_Md_show_110 : decode prog_12_method_51_code 110 = .ok (.if_icmp .gt 39, 3) := by decide +kernel
set_option maxRecDepth 100000 in
theorem c_Md_show_113 : ct_Md_show 113 = ka_al 0 1 := rfl
theorem d_Md_show_113 : decode prog_12_method_51_code 113 = .ok (.aload_n 0, 1) := by decide +kernel
set_option maxRecDepth 100000 in
theorem c_Md_show_114 : ct_Md_show 114 = ka_get 10 32 := rfl
theorem d_Md_show_114 : decode prog_12_method_51_code 114 = .ok (.getfield 202, 3) := by decide +kernel
set_option maxRecDepth 100000 in
theorem c_Md_show_117 : ct_Md_show 117 = ka_if (fun x => x = 0) 136 := rfl
theorem d_Md_show_117 : decode prog_12_method_51_code 117 = .ok (.ifCond .eq 19, 3) := by decide +kernel
set_option maxRecDepth 100000 in
theorem c_Md_show_120 : ct_Md_show 120 = ka_al 0 1 := rfl
theorem d_Md_show_120 : decode prog_12_method_51_code 120 = .ok (.aload_n 0, 1) := by decide +kernel
set_option maxRecDepth 100000 in
theorem c_Md_show_121 : ct_Md_show 121 = ka_get 10 31 := rfl
theorem d_Md_show_121 : decode prog_12_method_51_code 121 = .ok (.getfield 205, 3) := by decide +kernel
set_option maxRecDepth 100000 in
theorem c_Md_show_124 : ct_Md_show 124 = ka_il 7 2 := rfl
theorem d_Md_show_124 : decode prog_12_method_51_code 124 = .ok (.iload 7, 2) := by decide +kernel
set_option maxRecDepth 100000 in
theorem c_Md_show_126 : ct_Md_show 126 = ka_ci (nI 97) 2 := rfl
theorem d_Md_show_126 : decode prog_12_method_51_code 126 = .ok (.bipush 97, 2) := by decide +kernel
set_option maxRecDepth 100000 in
theorem c_Md_show_128 : ct_Md_show 128 = ka_ii (fun x y => x - y) := rfl
theorem d_Md_show_128 : decode prog_12_method_51_code 128 = .ok (.isub, 1) := by decide +kernel
set_option maxRecDepth 100000 in
theorem c_Md_show_129 : ct_Md_show 129 = ka_ii (fun x y => x >>> (y &&& 31)) := rfl
theorem d_Md_show_129 : decode prog_12_method_51_code 129 = .ok (.ishr, 1) := by decide +kernel
set_option maxRecDepth 100000 in
theorem c_Md_show_130 : ct_Md_show 130 = ka_ci (nI 1) 1 := rfl
theorem d_Md_show_130 : decode prog_12_method_51_code 130 = .ok (.iconst 1, 1) := by decide +kernel
set_option maxRecDepth 100000 in
theorem c_Md_show_131 : ct_Md_show 131 = ka_ii (fun x y => x &&& y) := rfl
theorem d_Md_show_131 : decode prog_12_method_51_code 131 = .ok (.iand, 1) := by decide +kernel
set_option maxRecDepth 100000 in
theorem c_Md_show_132 : ct_Md_show 132 = ka_ci (nI 1) 1 := rfl
theorem d_Md_show_132 : decode prog_12_method_51_code 132 = .ok (.iconst 1, 1) := by decide +kernel
set_option maxRecDepth 100000 in
theorem c_Md_show_133 : ct_Md_show 133 = ka_cm (fun x y => ¬ x = y) 143 := rfl
theorem d_Md_show_133 : decode prog_12_method_51_code 133 = .ok (.if_icmp .ne 10, 3) := by decide +kernel
set_option maxRecDepth 100000 in
theorem c_Md_show_136 : ct_Md_show 136 = ka_al 0 1 := rfl
theorem d_Md_show_136 : decode prog_12_method_51_code 136 = .ok (.aload_n 0, 1) := by decide +kernel
set_option maxRecDepth 100000 in
theorem c_Md_show_137 : ct_Md_show 137 = ka_il 1 1 := rfl
theorem d_Md_show_137 : decode prog_12_method_51_code 137 = .ok (.iload_n 1, 1) := by decide +kernel
set_option maxRecDepth 100000 in
theorem c_Md_show_138 : ct_Md_show 138 = ka_il 7 2 := rfl
theorem d_Md_show_138 : decode prog_12_method_51_code 138 = .ok (.iload 7, 2) := by decide +kernel
set_option maxRecDepth 100000 in
theorem c_Md_show_140 : ct_Md_show 140 = ka_cv 145 2 10 0 0 := rfl
theorem d_Md_show_140 : decode prog_12_method_51_code 140 = .ok (.invokevirtual 313, 3) := by decide +kernel
set_option maxRecDepth 100000 in
theorem c_Md_show_143 : ct_Md_show 143 = ka_inc 7 (nI 1) := rfl
theorem d_Md_show_143 : decode prog_12_method_51_code 143 = .ok (.iinc 7 1, 3) := by decide +kernel
set_option maxRecDepth 100000 in
theorem c_Md_show_146 : ct_Md_show 146 = ka_goto 106 := rfl
theorem d_Md_show_146 : decode prog_12_method_51_code 146 = .ok (.goto (-40), 3) := by decide +kernel
set_option maxRecDepth 100000 in
theorem c_Md_show_149 : ct_Md_show 149 = ka_al 0 1 := rfl
theorem d_Md_show_149 : decode prog_12_method_51_code 149 = .ok (.aload_n 0, 1) := by decide +kernel
set_option maxRecDepth 100000 in
theorem c_Md_show_150 : ct_Md_show 150 = ka_il 6 2 := rfl
theorem d_Md_show_150 : decode prog_12_method_51_code 150 = .ok (.iload 6, 2) := by decide +kernel
set_option maxRecDepth 100000 in
theorem c_Md_show_152 : ct_Md_show 152 = ka_cv 141 1 10 0 0 := rfl
theorem d_Md_show_152 : decode prog_12_method_51_code 152 = .ok (.invokevirtual 300, 3) := by decide +kernel
set_option maxRecDepth 100000 in
theorem c_Md_show_155 : ct_Md_show 155 = ka_al 0 1 := rfl
theorem d_Md_show_155 : decode prog_12_method_51_code 155 = .ok (.aload_n 0, 1) := by decide +kernel
set_option maxRecDepth 100000 in
theorem c_Md_show_156 : ct_Md_show 156 = ka_il 4 2 := rfl
theorem d_Md_show_156 : decode prog_12_method_51_code 156 = .ok (.iload 4, 2) := by decide +kernel
set_option maxRecDepth 100000 in
theorem c_Md_show_158 : ct_Md_show 158 = ka_cv 141 1 10 0 0 := rfl
theorem d_Md_show_158 : decode prog_12_method_51_code 158 = .ok (.invokevirtual 300, 3) := by decide +kernel
set_option maxRecDepth 100000 in
theorem c_Md_show_161 : ct_Md_show 161 = ka_al 0 1 := rfl
theorem d_Md_show_161 : decode prog_12_method_51_code 161 = .ok (.aload_n 0, 1) := by decide +kernel
set_option maxRecDepth 100000 in
theorem c_Md_show_162 : ct_Md_show 162 = ka_il 3 1 := rfl
theorem d_Md_show_162 : decode prog_12_method_51_code 162 = .ok (.iload_n 3, 1) := by decide +kernel
set_option maxRecDepth 100000 in
theorem c_Md_show_163 : ct_Md_show 163 = ka_cv 141 1 10 0 0 := rfl
theorem d_Md_show_163 : decode prog_12_method_51_code 163 = .ok (.invokevirtual 300, 3) := by decide +kernel
set_option maxRecDepth 100000 in
theorem c_Md_show_166 : ct_Md_show 166 = ka_al 0 1 := rfl
theorem d_Md_show_166 : decode prog_12_method_51_code 166 = .ok (.aload_n 0, 1) := by decide +kernel
set_option maxRecDepth 100000 in
theorem c_Md_show_167 : ct_Md_show 167 = ka_get 10 5 := rfl
theorem d_Md_show_167 : decode prog_12_method_51_code 167 = .ok (.getfield 288, 3) := by decide +kernel
set_option maxRecDepth 100000 in
theorem c_Md_show_170 : ct_Md_show 170 = ka_il 3 1 := rfl
theorem d_Md_show_170 : decode prog_12_method_51_code 170 = .ok (.iload_n 3, 1) := by decide +kernel
set_option maxRecDepth 100000 in
theorem c_Md_show_171 : ct_Md_show 171 = ka_ii (fun x y => x - y) := rfl
theorem d_Md_show_171 : decode prog_12_method_51_code 171 = .ok (.isub, 1) := by decide +kernel
set_option maxRecDepth 100000 in
theorem c_Md_show_172 : ct_Md_show 172 = ka_ci (nI 127) 2 := rfl
theorem d_Md_show_172 : decode prog_12_method_51_code 172 = .ok (.bipush 127, 2) := by decide +kernel
set_option maxRecDepth 100000 in
theorem c_Md_show_174 : ct_Md_show 174 = ka_cm (fun x y => y < x) 187 := rfl
theorem d_Md_show_174 : decode prog_12_method_51_code 174 = .ok (.if_icmp .gt 13, 3) := by decide +kernel
set_option maxRecDepth 100000 in
theorem c_Md_show_177 : ct_Md_show 177 = ka_al 0 1 := rfl
theorem d_Md_show_177 : decode prog_12_method_51_code 177 = .ok (.aload_n 0, 1) := by decide +kernel
set_option maxRecDepth 100000 in
theorem c_Md_show_178 : ct_Md_show 178 = ka_get 10 5 := rfl
theorem d_Md_show_178 : decode prog_12_method_51_code 178 = .ok (.getfield 288, 3) := by decide +kernel
set_option maxRecDepth 100000 in
theorem c_Md_show_181 : ct_Md_show 181 = ka_ci (nI 284) 3 := rfl
theorem d_Md_show_181 : decode prog_12_method_51_code 181 = .ok (.sipush 284, 3) := by decide +kernel
set_option maxRecDepth 100000 in
theorem c_Md_show_184 : ct_Md_show 184 = ka_cm (fun x y => x ≤ y) 194 := rfl
theorem d_Md_show_184 : decode prog_12_method_51_code 184 = .ok (.if_icmp .le 10, 3) := by decide +kernel
set_option maxRecDepth 100000 in
theorem c_Md_show_187 : ct_Md_show 187 = ka_al 0 1 := rfl
theorem d_Md_show_187 : decode prog_12_method_51_code 187 = .ok (.aload_n 0, 1) := by decide +kernel
set_option maxRecDepth 100000 in
theorem c_Md_show_188 : ct_Md_show 188 = ka_il 2 1 := rfl
theorem d_Md_show_188 : decode prog_12_method_51_code 188 = .ok (.iload_n 2, 1) := by decide +kernel
set_option maxRecDepth 100000 in
theorem c_Md_show_189 : ct_Md_show 189 = ka_put 10 5 .int := rfl
theorem d_Md_show_189 : decode prog_12_method_51_code 189 = .ok (.putfield 288, 3) := by decide +kernel
set_option maxRecDepth 100000 in
theorem c_Md_show_192 : ct_Md_show 192 = ka_ci (nI 0) 1 := rfl
theorem d_Md_show_192 : decode prog_12_method_51_code 192 = .ok (.iconst 0, 1) := by decide +kernel
set_option maxRecDepth 100000 in
theorem c_Md_show_193 : ct_Md_show 193 = ka_rz := rfl
theorem d_Md_show_193 : decode prog_12_method_51_code 193 = .ok (.ireturn, 1) := by decide +kernel
set_option maxRecDepth 100000 in
theorem c_Md_show_194 : ct_Md_show 194 = ka_ci (nI 1) 1 := rfl
theorem d_Md_show_194 : decode prog_12_method_51_code 194 = .ok (.iconst 1, 1) := by decide +kernel
set_option maxRecDepth 100000 in
theorem c_Md_show_195 : ct_Md_show 195 = ka_rz := rfl
theorem d_Md_show_195 : decode prog_12_method_51_code 195 = .ok (.ireturn, 1) := by decide +kernel
set_option maxRecDepth 100000 in
set_option maxHeartbeats 4000000 in
theorem s_Md_show_60 : ∀ pc, pc < 60 → kc_Sim kt kw_A kw_N kt_cl kt_En "DirectoryDeskModel" prog_12_method_51_code 8 (some .boolean) "show" none pc (ct_Md_show pc) := by
  let P : Nat → Prop := fun pc => kc_Sim kt kw_A kw_N kt_cl kt_En "DirectoryDeskModel" prog_12_method_51_code 8 (some .boolean) "show" none pc (ct_Md_show pc)
  exact kc_case (P := P) (kc_se rfl sm_no) (
  kc_case (P := P) (kc_se c_Md_show_58 (sm_get (ci := 10) (C := "DirectoryDeskModel") (F := kF_Md) rfl kin_Md (Nat.le_of_ble_eq_true rfl) d_Md_show_58 (kw3 191 rfl rfl))) (
  kc_case (P := P) (kc_se c_Md_show_57 (sm_aload_n d_Md_show_57 rfl)) (
  kc_case (P := P) (kc_se c_Md_show_56 (sm_aload_n d_Md_show_56 rfl)) (
  kc_case (P := P) (kc_se rfl sm_no) (
  kc_case (P := P) (kc_se rfl sm_no) (
  kc_case (P := P) (kc_se c_Md_show_53 (sm_cv (j := 139) rfl rfl kw_o kw_g wc_Md_say (Nat.le_of_ble_eq_true rfl) hd_Md_say (ci := 10) (F := kF_Md) (N := 52) rfl (kw5 12 rfl rfl) wi_Md_say ws_Md_say wn_Md_say d_Md_show_53)) (
  kc_case (P := P) (kc_se rfl sm_no) (
  kc_case (P := P) (kc_se c_Md_show_51 (sm_bipush d_Md_show_51 (by decide))) (
  kc_case (P := P) (kc_se c_Md_show_50 (sm_aload_n d_Md_show_50 rfl)) (
  kc_case (P := P) (kc_se rfl sm_no) (
  kc_case (P := P) (kc_se rfl sm_no) (
  kc_case (P := P) (kc_se c_Md_show_47 (sm_if_le d_Md_show_47 (by decide))) (
  kc_case (P := P) (kc_se rfl sm_no) (
  kc_case (P := P) (kc_se c_Md_show_45 (sm_iload d_Md_show_45)) (
  kc_case (P := P) (kc_se rfl sm_no) (
  kc_case (P := P) (kc_se rfl sm_no) (
  kc_case (P := P) (kc_se c_Md_show_42 (sm_cm_ge d_Md_show_42 (by decide))) (
  kc_case (P := P) (kc_se c_Md_show_41 (sm_iald d_Md_show_41)) (
  kc_case (P := P) (kc_se c_Md_show_40 (sm_iload_n d_Md_show_40 rfl)) (
  kc_case (P := P) (kc_se rfl sm_no) (
  kc_case (P := P) (kc_se rfl sm_no) (
  kc_case (P := P) (kc_se c_Md_show_37 (sm_get (ci := 10) (C := "DirectoryDeskModel") (F := kF_Md) rfl kin_Md (Nat.le_of_ble_eq_true rfl) d_Md_show_37 (kw3 190 rfl rfl))) (
  kc_case (P := P) (kc_se c_Md_show_36 (sm_aload_n d_Md_show_36 rfl)) (
  kc_case (P := P) (kc_se rfl sm_no) (
  kc_case (P := P) (kc_se c_Md_show_34 (sm_iload d_Md_show_34)) (
  kc_case (P := P) (kc_se rfl sm_no) (
  kc_case (P := P) (kc_se c_Md_show_32 (sm_istore d_Md_show_32 (Nat.le_of_ble_eq_true rfl))) (
  kc_case (P := P) (kc_se c_Md_show_31 (sm_iconst d_Md_show_31 (by decide))) (
  kc_case (P := P) (kc_se rfl sm_no) (
  kc_case (P := P) (kc_se c_Md_show_29 (sm_istore d_Md_show_29 (Nat.le_of_ble_eq_true rfl))) (
  kc_case (P := P) (kc_se rfl sm_no) (
  kc_case (P := P) (kc_se rfl sm_no) (
  kc_case (P := P) (kc_se c_Md_show_26 (sm_cv (j := 140) rfl rfl kw_o kw_g wc_Md_begin (Nat.le_of_ble_eq_true rfl) hd_Md_begin (ci := 10) (F := kF_Md) (N := 52) rfl (kw5 8 rfl rfl) wi_Md_begin ws_Md_begin wn_Md_begin d_Md_show_26)) (
  kc_case (P := P) (kc_se c_Md_show_25 (sm_iconst d_Md_show_25 (by decide))) (
  kc_case (P := P) (kc_se c_Md_show_24 (sm_aload_n d_Md_show_24 rfl)) (
  kc_case (P := P) (kc_se rfl sm_no) (
  kc_case (P := P) (kc_se c_Md_show_22 (sm_istore d_Md_show_22 (Nat.le_of_ble_eq_true rfl))) (
  kc_case (P := P) (kc_se rfl sm_no) (
  kc_case (P := P) (kc_se rfl sm_no) (
  kc_case (P := P) (kc_se c_Md_show_19 (sm_cv (j := 140) rfl rfl kw_o kw_g wc_Md_begin (Nat.le_of_ble_eq_true rfl) hd_Md_begin (ci := 10) (F := kF_Md) (N := 52) rfl (kw5 8 rfl rfl) wi_Md_begin ws_Md_begin wn_Md_begin d_Md_show_19)) (
  kc_case (P := P) (kc_se rfl sm_no) (
  kc_case (P := P) (kc_se c_Md_show_17 (sm_bipush d_Md_show_17 (by decide))) (
  kc_case (P := P) (kc_se c_Md_show_16 (sm_aload_n d_Md_show_16 rfl)) (
  kc_case (P := P) (kc_se rfl sm_no) (
  kc_case (P := P) (kc_se rfl sm_no) (
  kc_case (P := P) (kc_se c_Md_show_13 (sm_cv (j := 142) rfl rfl kw_o kw_g wc_Md_sayId (Nat.le_of_ble_eq_true rfl) hd_Md_sayId (ci := 10) (F := kF_Md) (N := 52) rfl (kw5 16 rfl rfl) wi_Md_sayId ws_Md_sayId wn_Md_sayId d_Md_show_13)) (
  kc_case (P := P) (kc_se c_Md_show_12 (sm_aload_n d_Md_show_12 rfl)) (
  kc_case (P := P) (kc_se c_Md_show_11 (sm_istore_n d_Md_show_11 rfl (Nat.le_of_ble_eq_true rfl))) (
  kc_case (P := P) (kc_se rfl sm_no) (
  kc_case (P := P) (kc_se rfl sm_no) (
  kc_case (P := P) (kc_se c_Md_show_8 (sm_cv (j := 140) rfl rfl kw_o kw_g wc_Md_begin (Nat.le_of_ble_eq_true rfl) hd_Md_begin (ci := 10) (F := kF_Md) (N := 52) rfl (kw5 8 rfl rfl) wi_Md_begin ws_Md_begin wn_Md_begin d_Md_show_8)) (
  kc_case (P := P) (kc_se rfl sm_no) (
  kc_case (P := P) (kc_se c_Md_show_6 (sm_bipush d_Md_show_6 (by decide))) (
  kc_case (P := P) (kc_se c_Md_show_5 (sm_aload_n d_Md_show_5 rfl)) (
  kc_case (P := P) (kc_se c_Md_show_4 (sm_istore_n d_Md_show_4 rfl (Nat.le_of_ble_eq_true rfl))) (
  kc_case (P := P) (kc_se rfl sm_no) (
  kc_case (P := P) (kc_se rfl sm_no) (
  kc_case (P := P) (kc_se c_Md_show_1 (sm_get (ci := 10) (C := "DirectoryDeskModel") (F := kF_Md) rfl kin_Md (Nat.le_of_ble_eq_true rfl) d_Md_show_1 (kw3 188 rfl rfl))) (
  kc_case (P := P) (kc_se c_Md_show_0 (sm_aload_n d_Md_show_0 rfl)) (
  kc_case0))))))))))))))))))))))))))))))))))))))))))))))))))))))))))))
set_option maxRecDepth 100000 in
set_option maxHeartbeats 4000000 in
theorem s_Md_show_120 : ∀ pc, pc < 120 → kc_Sim kt kw_A kw_N kt_cl kt_En "DirectoryDeskModel" prog_12_method_51_code 8 (some .boolean) "show" none pc (ct_Md_show pc) := by
  let P : Nat → Prop := fun pc => kc_Sim kt kw_A kw_N kt_cl kt_En "DirectoryDeskModel" prog_12_method_51_code 8 (some .boolean) "show" none pc (ct_Md_show pc)
  exact kc_case (P := P) (kc_se rfl sm_no) (
  kc_case (P := P) (kc_se rfl sm_no) (
  kc_case (P := P) (kc_se c_Md_show_117 (sm_if_eq d_Md_show_117 (by decide))) (
  kc_case (P := P) (kc_se rfl sm_no) (
  kc_case (P := P) (kc_se rfl sm_no) (
  kc_case (P := P) (kc_se c_Md_show_114 (sm_get (ci := 10) (C := "DirectoryDeskModel") (F := kF_Md) rfl kin_Md (Nat.le_of_ble_eq_true rfl) d_Md_show_114 (kw3 215 rfl rfl))) (
  kc_case (P := P) (kc_se c_Md_show_113 (sm_aload_n d_Md_show_113 rfl)) (
  kc_case (P := P) (kc_se rfl sm_no) (
  kc_case (P := P) (kc_se rfl sm_no) (
  kc_case (P := P) (kc_se c_Md_show_110 (sm_cm_gt d_Md_show_110 (by decide))) (
  kc_case (P := P) (kc_se rfl sm_no) (
  kc_case (P := P) (kc_se c_Md_show_108 (sm_bipush d_Md_show_108 (by decide))) (
  kc_case (P := P) (kc_se rfl sm_no) (
  kc_case (P := P) (kc_se c_Md_show_106 (sm_iload d_Md_show_106)) (
  kc_case (P := P) (kc_se rfl sm_no) (
  kc_case (P := P) (kc_se c_Md_show_104 (sm_istore d_Md_show_104 (Nat.le_of_ble_eq_true rfl))) (
  kc_case (P := P) (kc_se rfl sm_no) (
  kc_case (P := P) (kc_se c_Md_show_102 (sm_bipush d_Md_show_102 (by decide))) (
  kc_case (P := P) (kc_se rfl sm_no) (
  kc_case (P := P) (kc_se c_Md_show_100 (sm_istore d_Md_show_100 (Nat.le_of_ble_eq_true rfl))) (
  kc_case (P := P) (kc_se rfl sm_no) (
  kc_case (P := P) (kc_se rfl sm_no) (
  kc_case (P := P) (kc_se c_Md_show_97 (sm_cv (j := 140) rfl rfl kw_o kw_g wc_Md_begin (Nat.le_of_ble_eq_true rfl) hd_Md_begin (ci := 10) (F := kF_Md) (N := 52) rfl (kw5 8 rfl rfl) wi_Md_begin ws_Md_begin wn_Md_begin d_Md_show_97)) (
  kc_case (P := P) (kc_se rfl sm_no) (
  kc_case (P := P) (kc_se c_Md_show_95 (sm_bipush d_Md_show_95 (by decide))) (
  kc_case (P := P) (kc_se c_Md_show_94 (sm_aload_n d_Md_show_94 rfl)) (
  kc_case (P := P) (kc_se rfl sm_no) (
  kc_case (P := P) (kc_se rfl sm_no) (
  kc_case (P := P) (kc_se c_Md_show_91 (sm_cv (j := 141) rfl rfl kw_o kw_g wc_Md_close (Nat.le_of_ble_eq_true rfl) hd_Md_close (ci := 10) (F := kF_Md) (N := 52) rfl (kw5 20 rfl rfl) wi_Md_close ws_Md_close wn_Md_close d_Md_show_91)) (
  kc_case (P := P) (kc_se rfl sm_no) (
  kc_case (P := P) (kc_se c_Md_show_89 (sm_iload d_Md_show_89)) (
  kc_case (P := P) (kc_se c_Md_show_88 (sm_aload_n d_Md_show_88 rfl)) (
  kc_case (P := P) (kc_se rfl sm_no) (
  kc_case (P := P) (kc_se rfl sm_no) (
  kc_case (P := P) (kc_se c_Md_show_85 (sm_goto d_Md_show_85 (by decide))) (
  kc_case (P := P) (kc_se rfl sm_no) (
  kc_case (P := P) (kc_se rfl sm_no) (
  kc_case (P := P) (kc_se c_Md_show_82 (sm_inc d_Md_show_82 (by decide) (Nat.le_of_ble_eq_true rfl))) (
  kc_case (P := P) (kc_se rfl sm_no) (
  kc_case (P := P) (kc_se rfl sm_no) (
  kc_case (P := P) (kc_se c_Md_show_79 (sm_cv (j := 144) rfl rfl kw_o kw_g wc_Md_sayPart (Nat.le_of_ble_eq_true rfl) hd_Md_sayPart (ci := 10) (F := kF_Md) (N := 52) rfl (kw5 24 rfl rfl) wi_Md_sayPart ws_Md_sayPart wn_Md_sayPart d_Md_show_79)) (
  kc_case (P := P) (kc_se c_Md_show_78 (sm_lald d_Md_show_78)) (
  kc_case (P := P) (kc_se c_Md_show_77 (sm_iadd d_Md_show_77)) (
  kc_case (P := P) (kc_se rfl sm_no) (
  kc_case (P := P) (kc_se c_Md_show_75 (sm_iload d_Md_show_75)) (
  kc_case (P := P) (kc_se c_Md_show_74 (sm_imul d_Md_show_74)) (
  kc_case (P := P) (kc_se c_Md_show_73 (sm_iload_n d_Md_show_73 rfl)) (
  kc_case (P := P) (kc_se c_Md_show_72 (sm_iconst d_Md_show_72 (by decide))) (
  kc_case (P := P) (kc_se rfl sm_no) (
  kc_case (P := P) (kc_se rfl sm_no) (
  kc_case (P := P) (kc_se c_Md_show_69 (sm_get (ci := 10) (C := "DirectoryDeskModel") (F := kF_Md) rfl kin_Md (Nat.le_of_ble_eq_true rfl) d_Md_show_69 (kw3 192 rfl rfl))) (
  kc_case (P := P) (kc_se c_Md_show_68 (sm_aload_n d_Md_show_68 rfl)) (
  kc_case (P := P) (kc_se c_Md_show_67 (sm_iald d_Md_show_67)) (
  kc_case (P := P) (kc_se c_Md_show_66 (sm_iadd d_Md_show_66)) (
  kc_case (P := P) (kc_se rfl sm_no) (
  kc_case (P := P) (kc_se c_Md_show_64 (sm_iload d_Md_show_64)) (
  kc_case (P := P) (kc_se c_Md_show_63 (sm_imul d_Md_show_63)) (
  kc_case (P := P) (kc_se c_Md_show_62 (sm_iload_n d_Md_show_62 rfl)) (
  kc_case (P := P) (kc_se c_Md_show_61 (sm_iconst d_Md_show_61 (by decide))) (
  kc_case (P := P) (kc_se rfl sm_no) (
  s_Md_show_60))))))))))))))))))))))))))))))))))))))))))))))))))))))))))))
set_option maxRecDepth 100000 in
set_option maxHeartbeats 4000000 in
theorem s_Md_show_180 : ∀ pc, pc < 180 → kc_Sim kt kw_A kw_N kt_cl kt_En "DirectoryDeskModel" prog_12_method_51_code 8 (some .boolean) "show" none pc (ct_Md_show pc) := by
  let P : Nat → Prop := fun pc => kc_Sim kt kw_A kw_N kt_cl kt_En "DirectoryDeskModel" prog_12_method_51_code 8 (some .boolean) "show" none pc (ct_Md_show pc)
  exact kc_case (P := P) (kc_se rfl sm_no) (
  kc_case (P := P) (kc_se c_Md_show_178 (sm_get (ci := 10) (C := "DirectoryDeskModel") (F := kF_Md) rfl kin_Md (Nat.le_of_ble_eq_true rfl) d_Md_show_178 (kw3 188 rfl rfl))) (
  kc_case (P := P) (kc_se c_Md_show_177 (sm_aload_n d_Md_show_177 rfl)) (
  kc_case (P := P) (kc_se rfl sm_no) (
  kc_case (P := P) (kc_se rfl sm_no) (
  kc_case (P := P) (kc_se c_Md_show_174 (sm_cm_gt d_Md_show_174 (by decide))) (
  kc_case (P := P) (kc_se rfl sm_no) (
  kc_case (P := P) (kc_se c_Md_show_172 (sm_bipush d_Md_show_172 (by decide))) (
  kc_case (P := P) (kc_se c_Md_show_171 (sm_isub d_Md_show_171)) (
  kc_case (P := P) (kc_se c_Md_show_170 (sm_iload_n d_Md_show_170 rfl)) (
  kc_case (P := P) (kc_se rfl sm_no) (
  kc_case (P := P) (kc_se rfl sm_no) (
  kc_case (P := P) (kc_se c_Md_show_167 (sm_get (ci := 10) (C := "DirectoryDeskModel") (F := kF_Md) rfl kin_Md (Nat.le_of_ble_eq_true rfl) d_Md_show_167 (kw3 188 rfl rfl))) (
  kc_case (P := P) (kc_se c_Md_show_166 (sm_aload_n d_Md_show_166 rfl)) (
  kc_case (P := P) (kc_se rfl sm_no) (
  kc_case (P := P) (kc_se rfl sm_no) (
  kc_case (P := P) (kc_se c_Md_show_163 (sm_cv (j := 141) rfl rfl kw_o kw_g wc_Md_close (Nat.le_of_ble_eq_true rfl) hd_Md_close (ci := 10) (F := kF_Md) (N := 52) rfl (kw5 20 rfl rfl) wi_Md_close ws_Md_close wn_Md_close d_Md_show_163)) (
  kc_case (P := P) (kc_se c_Md_show_162 (sm_iload_n d_Md_show_162 rfl)) (
  kc_case (P := P) (kc_se c_Md_show_161 (sm_aload_n d_Md_show_161 rfl)) (
  kc_case (P := P) (kc_se rfl sm_no) (
  kc_case (P := P) (kc_se rfl sm_no) (
  kc_case (P := P) (kc_se c_Md_show_158 (sm_cv (j := 141) rfl rfl kw_o kw_g wc_Md_close (Nat.le_of_ble_eq_true rfl) hd_Md_close (ci := 10) (F := kF_Md) (N := 52) rfl (kw5 20 rfl rfl) wi_Md_close ws_Md_close wn_Md_close d_Md_show_158)) (
  kc_case (P := P) (kc_se rfl sm_no) (
  kc_case (P := P) (kc_se c_Md_show_156 (sm_iload d_Md_show_156)) (
  kc_case (P := P) (kc_se c_Md_show_155 (sm_aload_n d_Md_show_155 rfl)) (
  kc_case (P := P) (kc_se rfl sm_no) (
  kc_case (P := P) (kc_se rfl sm_no) (
  kc_case (P := P) (kc_se c_Md_show_152 (sm_cv (j := 141) rfl rfl kw_o kw_g wc_Md_close (Nat.le_of_ble_eq_true rfl) hd_Md_close (ci := 10) (F := kF_Md) (N := 52) rfl (kw5 20 rfl rfl) wi_Md_close ws_Md_close wn_Md_close d_Md_show_152)) (
  kc_case (P := P) (kc_se rfl sm_no) (
  kc_case (P := P) (kc_se c_Md_show_150 (sm_iload d_Md_show_150)) (
  kc_case (P := P) (kc_se c_Md_show_149 (sm_aload_n d_Md_show_149 rfl)) (
  kc_case (P := P) (kc_se rfl sm_no) (
  kc_case (P := P) (kc_se rfl sm_no) (
  kc_case (P := P) (kc_se c_Md_show_146 (sm_goto d_Md_show_146 (by decide))) (
  kc_case (P := P) (kc_se rfl sm_no) (
  kc_case (P := P) (kc_se rfl sm_no) (
  kc_case (P := P) (kc_se c_Md_show_143 (sm_inc d_Md_show_143 (by decide) (Nat.le_of_ble_eq_true rfl))) (
  kc_case (P := P) (kc_se rfl sm_no) (
  kc_case (P := P) (kc_se rfl sm_no) (
  kc_case (P := P) (kc_se c_Md_show_140 (sm_cv (j := 145) rfl rfl kw_o kw_g wc_Md_sayAttribute (Nat.le_of_ble_eq_true rfl) hd_Md_sayAttribute (ci := 10) (F := kF_Md) (N := 52) rfl (kw5 32 rfl rfl) wi_Md_sayAttribute ws_Md_sayAttribute wn_Md_sayAttribute d_Md_show_140)) (
  kc_case (P := P) (kc_se rfl sm_no) (
  kc_case (P := P) (kc_se c_Md_show_138 (sm_iload d_Md_show_138)) (
  kc_case (P := P) (kc_se c_Md_show_137 (sm_iload_n d_Md_show_137 rfl)) (
  kc_case (P := P) (kc_se c_Md_show_136 (sm_aload_n d_Md_show_136 rfl)) (
  kc_case (P := P) (kc_se rfl sm_no) (
  kc_case (P := P) (kc_se rfl sm_no) (
  kc_case (P := P) (kc_se c_Md_show_133 (sm_cm_ne d_Md_show_133 (by decide))) (
  kc_case (P := P) (kc_se c_Md_show_132 (sm_iconst d_Md_show_132 (by decide))) (
  kc_case (P := P) (kc_se c_Md_show_131 (sm_iand d_Md_show_131)) (
  kc_case (P := P) (kc_se c_Md_show_130 (sm_iconst d_Md_show_130 (by decide))) (
  kc_case (P := P) (kc_se c_Md_show_129 (sm_ishr d_Md_show_129)) (
  kc_case (P := P) (kc_se c_Md_show_128 (sm_isub d_Md_show_128)) (
  kc_case (P := P) (kc_se rfl sm_no) (
  kc_case (P := P) (kc_se c_Md_show_126 (sm_bipush d_Md_show_126 (by decide))) (
  kc_case (P := P) (kc_se rfl sm_no) (
  kc_case (P := P) (kc_se c_Md_show_124 (sm_iload d_Md_show_124)) (
  kc_case (P := P) (kc_se rfl sm_no) (
  kc_case (P := P) (kc_se rfl sm_no) (
  kc_case (P := P) (kc_se c_Md_show_121 (sm_get (ci := 10) (C := "DirectoryDeskModel") (F := kF_Md) rfl kin_Md (Nat.le_of_ble_eq_true rfl) d_Md_show_121 (kw3 214 rfl rfl))) (
  kc_case (P := P) (kc_se c_Md_show_120 (sm_aload_n d_Md_show_120 rfl)) (
  s_Md_show_120))))))))))))))))))))))))))))))))))))))))))))))))))))))))))))
set_option maxRecDepth 100000 in
set_option maxHeartbeats 4000000 in
theorem s_Md_show_196 : ∀ pc, pc < 196 → kc_Sim kt kw_A kw_N kt_cl kt_En "DirectoryDeskModel" prog_12_method_51_code 8 (some .boolean) "show" none pc (ct_Md_show pc) := by
  let P : Nat → Prop := fun pc => kc_Sim kt kw_A kw_N kt_cl kt_En "DirectoryDeskModel" prog_12_method_51_code 8 (some .boolean) "show" none pc (ct_Md_show pc)
  exact kc_case (P := P) (kc_se c_Md_show_195 (sm_rz d_Md_show_195 rfl)) (
  kc_case (P := P) (kc_se c_Md_show_194 (sm_iconst d_Md_show_194 (by decide))) (
  kc_case (P := P) (kc_se c_Md_show_193 (sm_rz d_Md_show_193 rfl)) (
  kc_case (P := P) (kc_se c_Md_show_192 (sm_iconst d_Md_show_192 (by decide))) (
  kc_case (P := P) (kc_se rfl sm_no) (
  kc_case (P := P) (kc_se rfl sm_no) (
  kc_case (P := P) (kc_se c_Md_show_189 (sm_put (ci := 10) (C := "DirectoryDeskModel") (F := kF_Md) rfl kin_Md kty_Md ktk_Md knm_Md (Nat.le_of_ble_eq_true rfl) (by decide +kernel) d_Md_show_189 (kw3 188 rfl rfl) rfl)) (
  kc_case (P := P) (kc_se c_Md_show_188 (sm_iload_n d_Md_show_188 rfl)) (
  kc_case (P := P) (kc_se c_Md_show_187 (sm_aload_n d_Md_show_187 rfl)) (
  kc_case (P := P) (kc_se rfl sm_no) (
  kc_case (P := P) (kc_se rfl sm_no) (
  kc_case (P := P) (kc_se c_Md_show_184 (sm_cm_le d_Md_show_184 (by decide))) (
  kc_case (P := P) (kc_se rfl sm_no) (
  kc_case (P := P) (kc_se rfl sm_no) (
  kc_case (P := P) (kc_se c_Md_show_181 (sm_sipush d_Md_show_181 (by decide))) (
  kc_case (P := P) (kc_se rfl sm_no) (
  s_Md_show_180))))))))))))))))
set_option maxRecDepth 100000 in
theorem ka_nth_no_Md_show (pc : Nat) (h : 196 ≤ pc) : ct_Md_show pc = ka_no := ka_nth_ge _ pc (Nat.le_trans (Nat.le_of_eq (by rfl)) h)
theorem s_Md_show (pc : Nat) : kc_Sim kt kw_A kw_N kt_cl kt_En "DirectoryDeskModel" prog_12_method_51_code 8 (some .boolean) "show" none pc (ct_Md_show pc) := (Nat.lt_or_ge pc 196).elim (s_Md_show_196 pc) (fun h => kc_se (ka_nth_no_Md_show pc h) sm_no)
