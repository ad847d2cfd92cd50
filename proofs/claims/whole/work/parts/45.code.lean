/-! code of methods, decode rows, and that the JVM follows (by program) -/
def cl_Md_conclude_0 : List kc_A := [ka_al 0 1, ka_ci (nI 48) 2, ka_no, ka_cv 140 1 10 0 0, ka_no, ka_no, ka_is 2 1, ka_al 0 1, ka_cv 142 0 10 0 0, ka_no, ka_no, ka_al 0 1, ka_al 0 1, ka_get 10 17, ka_no, ka_no, ka_ci (nI 96) 2, ka_no, ka_cm (fun x y => ¬ x = y) 26, ka_no, ka_no, ka_ci (nI 97) 2, ka_no, ka_goto 70, ka_no, ka_no, ka_al 0 1, ka_get 10 17, ka_no, ka_no, ka_ci (nI 99) 2, ka_no, ka_cm (fun x y => ¬ x = y) 40, ka_no, ka_no, ka_ci (nI 101) 2, ka_no, ka_goto 70, ka_no, ka_no, ka_al 0 1, ka_get 10 17, ka_no, ka_no, ka_ci (nI 102) 2, ka_no, ka_cm (fun x y => ¬ x = y) 54, ka_no, ka_no, ka_ci (nI 103) 2, ka_no, ka_goto 70, ka_no, ka_no, ka_al 0 1, ka_get 10 17, ka_no, ka_no, ka_ci (nI 104) 2, ka_no]
def cl_Md_conclude_1 : List kc_A := [ka_cm (fun x y => ¬ x = y) 68, ka_no, ka_no, ka_ci (nI 105) 2, ka_no, ka_goto 70, ka_no, ka_no, ka_ci (nI 107) 2, ka_no, ka_cv 140 1 10 0 0, ka_no, ka_no, ka_is 3 1, ka_al 0 1, ka_ci (nI 10) 2, ka_no, ka_cv 140 1 10 0 0, ka_no, ka_no, ka_is 4 2, ka_no, ka_al 0 1, ka_il 1 1, ka_cv 139 1 10 0 0, ka_no, ka_no, ka_al 0 1, ka_il 4 2, ka_no, ka_cv 141 1 10 0 0, ka_no, ka_no, ka_al 0 1, ka_ci (nI 4) 1, ka_cv 140 1 10 0 0, ka_no, ka_no, ka_is 5 2, ka_no, ka_ci (nI 1) 1, ka_is 6 2, ka_no, ka_il 6 2, ka_no, ka_al 0 1, ka_get 10 20, ka_no, ka_no, ka_cm (fun x y => y ≤ x) 127, ka_no, ka_no, ka_al 0 1, ka_il 6 2, ka_no, ka_cv 109 1 10 0 0, ka_no, ka_no, ka_if (fun x => 0 ≤ x) 127, ka_no]
def cl_Md_conclude_2 : List kc_A := [ka_no, ka_inc 6 (nI 1), ka_no, ka_no, ka_goto 103, ka_no, ka_no, ka_il 6 2, ka_no, ka_is 7 2, ka_no, ka_il 1 1, ka_ci (nI 32) 2, ka_no, ka_cm (fun x y => ¬ x = y) 183, ka_no, ka_no, ka_il 7 2, ka_no, ka_al 0 1, ka_get 10 20, ka_no, ka_no, ka_cm (fun x y => y ≤ x) 183, ka_no, ka_no, ka_il 7 2, ka_no, ka_il 6 2, ka_no, ka_cm (fun x y => x ≤ y) 159, ka_no, ka_no, ka_al 0 1, ka_ci (nI 44) 2, ka_no, ka_cv 139 1 10 0 0, ka_no, ka_no, ka_al 0 1, ka_al 0 1, ka_get 10 21, ka_no, ka_no, ka_il 7 2, ka_no, ka_iald, ka_al 0 1, ka_get 10 22, ka_no, ka_no, ka_il 7 2, ka_no, ka_lald, ka_cv 144 2 10 0 0, ka_no, ka_no, ka_inc 7 (nI 1), ka_no, ka_no]
def cl_Md_conclude_3 : List kc_A := [ka_goto 131, ka_no, ka_no, ka_al 0 1, ka_il 5 2, ka_no, ka_cv 141 1 10 0 0, ka_no, ka_no, ka_al 0 1, ka_ci (nI 4) 1, ka_cv 140 1 10 0 0, ka_no, ka_no, ka_is 7 2, ka_no, ka_al 0 1, ka_il 7 2, ka_no, ka_cv 141 1 10 0 0, ka_no, ka_no, ka_al 0 1, ka_il 3 1, ka_cv 141 1 10 0 0, ka_no, ka_no, ka_al 0 1, ka_il 2 1, ka_cv 141 1 10 0 0, ka_no, ka_no, ka_ret]
def ct_Md_conclude : Nat → kc_A := fun pc => ka_nth (cl_Md_conclude_0 ++ (cl_Md_conclude_1 ++ (cl_Md_conclude_2 ++ (cl_Md_conclude_3)))) pc
set_option maxRecDepth 100000 in
theorem c_Md_conclude_0 : ct_Md_conclude 0 = ka_al 0 1 := rfl
theorem d_Md_conclude_0 : decode prog_12_method_52_code 0 = .ok (.aload_n 0, 1) := by decide +kernel
set_option maxRecDepth 100000 in
theorem c_Md_conclude_1 : ct_Md_conclude 1 = ka_ci (nI 48) 2 := rfl
theorem d_Md_conclude_1 : decode prog_12_method_52_code 1 = .ok (.bipush 48, 2) := by decide +kernel
set_option maxRecDepth 100000 in
theorem c_Md_conclude_3 : ct_Md_conclude 3 = ka_cv 140 1 10 0 0 := rfl
theorem d_Md_conclude_3 : decode prog_12_method_52_code 3 = .ok (.invokevirtual 294, 3) := by decide +kernel
set_option maxRecDepth 100000 in
theorem c_Md_conclude_6 : ct_Md_conclude 6 = ka_is 2 1 := rfl
theorem d_Md_conclude_6 : decode prog_12_method_52_code 6 = .ok (.istore_n 2, 1) := by decide +kernel
set_option maxRecDepth 100000 in
theorem c_Md_conclude_7 : ct_Md_conclude 7 = ka_al 0 1 := rfl
theorem d_Md_conclude_7 : decode prog_12_method_52_code 7 = .ok (.aload_n 0, 1) := by decide +kernel
set_option maxRecDepth 100000 in
theorem c_Md_conclude_8 : ct_Md_conclude 8 = ka_cv 142 0 10 0 0 := rfl
theorem d_Md_conclude_8 : decode prog_12_method_52_code 8 = .ok (.invokevirtual 307, 3) := by decide +kernel
set_option maxRecDepth 100000 in
theorem c_Md_conclude_11 : ct_Md_conclude 11 = ka_al 0 1 := rfl
theorem d_Md_conclude_11 : decode prog_12_method_52_code 11 = .ok (.aload_n 0, 1) := by decide +kernel
set_option maxRecDepth 100000 in
theorem c_Md_conclude_12 : ct_Md_conclude 12 = ka_al 0 1 := rfl
theorem d_Md_conclude_12 : decode prog_12_method_52_code 12 = .ok (.aload_n 0, 1) := by decide +kernel
set_option maxRecDepth 100000 in
theorem c_Md_conclude_13 : ct_Md_conclude 13 = ka_get 10 17 := rfl
theorem d_Md_conclude_13 : decode prog_12_method_52_code 13 = .ok (.getfield 223, 3) := by decide +kernel
set_option maxRecDepth 100000 in
theorem c_Md_conclude_16 : ct_Md_conclude 16 = ka_ci (nI 96) 2 := rfl
theorem d_Md_conclude_16 : decode prog_12_method_52_code 16 = .ok (.bipush 96, 2) := by decide +kernel
set_option maxRecDepth 100000 in
theorem c_Md_conclude_18 : ct_Md_conclude 18 = ka_cm (fun x y => ¬ x = y) 26 := rfl
theorem d_Md_conclude_18 : decode prog_12_method_52_code 18 = .ok (.if_icmp .ne 8, 3) := by decide +kernel
set_option maxRecDepth 100000 in
theorem c_Md_conclude_21 : ct_Md_conclude 21 = ka_ci (nI 97) 2 := rfl
theorem d_Md_conclude_21 : decode prog_12_method_52_code 21 = .ok (.bipush 97, 2) := by decide +kernel
set_option maxRecDepth 100000 in
theorem c_Md_conclude_23 : ct_Md_conclude 23 = ka_goto 70 := rfl
theorem d_Md_conclude_23 : decode prog_12_method_52_code 23 = .ok (.goto 47, 3) := by decide +kernel
set_option maxRecDepth 100000 in
theorem c_Md_conclude_26 : ct_Md_conclude 26 = ka_al 0 1 := rfl
theorem d_Md_conclude_26 : decode prog_12_method_52_code 26 = .ok (.aload_n 0, 1) := by decide +kernel
set_option maxRecDepth 100000 in
theorem c_Md_conclude_27 : ct_Md_conclude 27 = ka_get 10 17 := rfl
theorem d_Md_conclude_27 : decode prog_12_method_52_code 27 = .ok (.getfield 223, 3) := by decide +kernel
set_option maxRecDepth 100000 in
theorem c_Md_conclude_30 : ct_Md_conclude 30 = ka_ci (nI 99) 2 := rfl
theorem d_Md_conclude_30 : decode prog_12_method_52_code 30 = .ok (.bipush 99, 2) := by decide +kernel
set_option maxRecDepth 100000 in
theorem c_Md_conclude_32 : ct_Md_conclude 32 = ka_cm (fun x y => ¬ x = y) 40 := rfl
theorem d_Md_conclude_32 : decode prog_12_method_52_code 32 = .ok (.if_icmp .ne 8, 3) := by decide +kernel
set_option maxRecDepth 100000 in
theorem c_Md_conclude_35 : ct_Md_conclude 35 = ka_ci (nI 101) 2 := rfl
theorem d_Md_conclude_35 : decode prog_12_method_52_code 35 = .ok (.bipush 101, 2) := by decide +kernel
set_option maxRecDepth 100000 in
theorem c_Md_conclude_37 : ct_Md_conclude 37 = ka_goto 70 := rfl
theorem d_Md_conclude_37 : decode prog_12_method_52_code 37 = .ok (.goto 33, 3) := by decide +kernel
set_option maxRecDepth 100000 in
theorem c_Md_conclude_40 : ct_Md_conclude 40 = ka_al 0 1 := rfl
theorem d_Md_conclude_40 : decode prog_12_method_52_code 40 = .ok (.aload_n 0, 1) := by decide +kernel
set_option maxRecDepth 100000 in
theorem c_Md_conclude_41 : ct_Md_conclude 41 = ka_get 10 17 := rfl
theorem d_Md_conclude_41 : decode prog_12_method_52_code 41 = .ok (.getfield 223, 3) := by decide +kernel
set_option maxRecDepth 100000 in
theorem c_Md_conclude_44 : ct_Md_conclude 44 = ka_ci (nI 102) 2 := rfl
theorem d_Md_conclude_44 : decode prog_12_method_52_code 44 = .ok (.bipush 102, 2) := by decide +kernel
set_option maxRecDepth 100000 in
theorem c_Md_conclude_46 : ct_Md_conclude 46 = ka_cm (fun x y => ¬ x = y) 54 := rfl
theorem d_Md_conclude_46 : decode prog_12_method_52_code 46 = .ok (.if_icmp .ne 8, 3) := by decide +kernel
set_option maxRecDepth 100000 in
theorem c_Md_conclude_49 : ct_Md_conclude 49 = ka_ci (nI 103) 2 := rfl
theorem d_Md_conclude_49 : decode prog_12_method_52_code 49 = .ok (.bipush 103, 2) := by decide +kernel
set_option maxRecDepth 100000 in
theorem c_Md_conclude_51 : ct_Md_conclude 51 = ka_goto 70 := rfl
theorem d_Md_conclude_51 : decode prog_12_method_52_code 51 = .ok (.goto 19, 3) := by decide +kernel
set_option maxRecDepth 100000 in
theorem c_Md_conclude_54 : ct_Md_conclude 54 = ka_al 0 1 := rfl
theorem d_Md_conclude_54 : decode prog_12_method_52_code 54 = .ok (.aload_n 0, 1) := by decide +kernel
set_option maxRecDepth 100000 in
theorem c_Md_conclude_55 : ct_Md_conclude 55 = ka_get 10 17 := rfl
theorem d_Md_conclude_55 : decode prog_12_method_52_code 55 = .ok (.getfield 223, 3) := by decide +kernel
set_option maxRecDepth 100000 in
theorem c_Md_conclude_58 : ct_Md_conclude 58 = ka_ci (nI 104) 2 := rfl
theorem d_Md_conclude_58 : decode prog_12_method_52_code 58 = .ok (.bipush 104, 2) := by decide +kernel
set_option maxRecDepth 100000 in
theorem c_Md_conclude_60 : ct_Md_conclude 60 = ka_cm (fun x y => ¬ x = y) 68 := rfl
theorem d_Md_conclude_60 : decode prog_12_method_52_code 60 = .ok (.if_icmp .ne 8, 3) := by decide +kernel
set_option maxRecDepth 100000 in
theorem c_Md_conclude_63 : ct_Md_conclude 63 = ka_ci (nI 105) 2 := rfl
theorem d_Md_conclude_63 : decode prog_12_method_52_code 63 = .ok (.bipush 105, 2) := by decide +kernel
set_option maxRecDepth 100000 in
theorem c_Md_conclude_65 : ct_Md_conclude 65 = ka_goto 70 := rfl
theorem d_Md_conclude_65 : decode prog_12_method_52_code 65 = .ok (.goto 5, 3) := by decide +kernel
set_option maxRecDepth 100000 in
theorem c_Md_conclude_68 : ct_Md_conclude 68 = ka_ci (nI 107) 2 := rfl
theorem d_Md_conclude_68 : decode prog_12_method_52_code 68 = .ok (.bipush 107, 2) := by decide +kernel
set_option maxRecDepth 100000 in
theorem c_Md_conclude_70 : ct_Md_conclude 70 = ka_cv 140 1 10 0 0 := rfl
theorem d_Md_conclude_70 : decode prog_12_method_52_code 70 = .ok (.invokevirtual 294, 3) := by decide +kernel
set_option maxRecDepth 100000 in
theorem c_Md_conclude_73 : ct_Md_conclude 73 = ka_is 3 1 := rfl
theorem d_Md_conclude_73 : decode prog_12_method_52_code 73 = .ok (.istore_n 3, 1) := by decide +kernel
set_option maxRecDepth 100000 in
theorem c_Md_conclude_74 : ct_Md_conclude 74 = ka_al 0 1 := rfl
theorem d_Md_conclude_74 : decode prog_12_method_52_code 74 = .ok (.aload_n 0, 1) := by decide +kernel
set_option maxRecDepth 100000 in
theorem c_Md_conclude_75 : ct_Md_conclude 75 = ka_ci (nI 10) 2 := rfl
theorem d_Md_conclude_75 : decode prog_12_method_52_code 75 = .ok (.bipush 10, 2) := by decide +kernel
set_option maxRecDepth 100000 in
theorem c_Md_conclude_77 : ct_Md_conclude 77 = ka_cv 140 1 10 0 0 := rfl
theorem d_Md_conclude_77 : decode prog_12_method_52_code 77 = .ok (.invokevirtual 294, 3) := by decide +kernel
set_option maxRecDepth 100000 in
theorem c_Md_conclude_80 : ct_Md_conclude 80 = ka_is 4 2 := rfl
theorem d_Md_conclude_80 : decode prog_12_method_52_code 80 = .ok (.istore 4, 2) := by decide +kernel
set_option maxRecDepth 100000 in
theorem c_Md_conclude_82 : ct_Md_conclude 82 = ka_al 0 1 := rfl
theorem d_Md_conclude_82 : decode prog_12_method_52_code 82 = .ok (.aload_n 0, 1) := by decide +kernel
set_option maxRecDepth 100000 in
theorem c_Md_conclude_83 : ct_Md_conclude 83 = ka_il 1 1 := rfl
theorem d_Md_conclude_83 : decode prog_12_method_52_code 83 = .ok (.iload_n 1, 1) := by decide +kernel
set_option maxRecDepth 100000 in
theorem c_Md_conclude_84 : ct_Md_conclude 84 = ka_cv 139 1 10 0 0 := rfl
theorem d_Md_conclude_84 : decode prog_12_method_52_code 84 = .ok (.invokevirtual 291, 3) := by decide +kernel
set_option maxRecDepth 100000 in
theorem c_Md_conclude_87 : ct_Md_conclude 87 = ka_al 0 1 := rfl
theorem d_Md_conclude_87 : decode prog_12_method_52_code 87 = .ok (.aload_n 0, 1) := by decide +kernel
set_option maxRecDepth 100000 in
theorem c_Md_conclude_88 : ct_Md_conclude 88 = ka_il 4 2 := rfl
theorem d_Md_conclude_88 : decode prog_12_method_52_code 88 = .ok (.iload 4, 2) := by decide +kernel
set_option maxRecDepth 100000 in
theorem c_Md_conclude_90 : ct_Md_conclude 90 = ka_cv 141 1 10 0 0 := rfl
theorem d_Md_conclude_90 : decode prog_12_method_52_code 90 = .ok (.invokevirtual 300, 3) := by decide +kernel
set_option maxRecDepth 100000 in
theorem c_Md_conclude_93 : ct_Md_conclude 93 = ka_al 0 1 := rfl
theorem d_Md_conclude_93 : decode prog_12_method_52_code 93 = .ok (.aload_n 0, 1) := by decide +kernel
set_option maxRecDepth 100000 in
theorem c_Md_conclude_94 : ct_Md_conclude 94 = ka_ci (nI 4) 1 := rfl
theorem d_Md_conclude_94 : decode prog_12_method_52_code 94 = .ok (.iconst 4, 1) := by decide +kernel
set_option maxRecDepth 100000 in
theorem c_Md_conclude_95 : ct_Md_conclude 95 = ka_cv 140 1 10 0 0 := rfl
theorem d_Md_conclude_95 : decode prog_12_method_52_code 95 = .ok (.invokevirtual 294, 3) := by decide +kernel
set_option maxRecDepth 100000 in
theorem c_Md_conclude_98 : ct_Md_conclude 98 = ka_is 5 2 := rfl
theorem d_Md_conclude_98 : decode prog_12_method_52_code 98 = .ok (.istore 5, 2) := by decide +kernel
set_option maxRecDepth 100000 in
theorem c_Md_conclude_100 : ct_Md_conclude 100 = ka_ci (nI 1) 1 := rfl
theorem d_Md_conclude_100 : decode prog_12_method_52_code 100 = .ok (.iconst 1, 1) := by decide +kernel
set_option maxRecDepth 100000 in
theorem c_Md_conclude_101 : ct_Md_conclude 101 = ka_is 6 2 := rfl
theorem d_Md_conclude_101 : decode prog_12_method_52_code 101 = .ok (.istore 6, 2) := by decide +kernel
set_option maxRecDepth 100000 in
theorem c_Md_conclude_103 : ct_Md_conclude 103 = ka_il 6 2 := rfl
theorem d_Md_conclude_103 : decode prog_12_method_52_code 103 = .ok (.iload 6, 2) := by decide +kernel
set_option maxRecDepth 100000 in
theorem c_Md_conclude_105 : ct_Md_conclude 105 = ka_al 0 1 := rfl
theorem d_Md_conclude_105 : decode prog_12_method_52_code 105 = .ok (.aload_n 0, 1) := by decide +kernel
set_option maxRecDepth 100000 in
theorem c_Md_conclude_106 : ct_Md_conclude 106 = ka_get 10 20 := rfl
theorem d_Md_conclude_106 : decode prog_12_method_52_code 106 = .ok (.getfield 126, 3) := by decide +kernel
set_option maxRecDepth 100000 in
theorem c_Md_conclude_109 : ct_Md_conclude 109 = ka_cm (fun x y => y ≤ x) 127 := rfl
theorem d_Md_conclude_109 : decode prog_12_method_52_code 109 = .ok (.if_icmp .ge 18, 3) := by decide +kernel
set_option maxRecDepth 100000 in
theorem c_Md_conclude_112 : ct_Md_conclude 112 = ka_al 0 1 := rfl
theorem d_Md_conclude_112 : decode prog_12_method_52_code 112 = .ok (.aload_n 0, 1) := by decide +kernel
set_option maxRecDepth 100000 in
theorem c_Md_conclude_113 : ct_Md_conclude 113 = ka_il 6 2 := rfl
theorem d_Md_conclude_113 : decode prog_12_method_52_code 113 = .ok (.iload 6, 2) := by decide +kernel
set_option maxRecDepth 100000 in
theorem c_Md_conclude_115 : ct_Md_conclude 115 = ka_cv 109 1 10 0 0 := rfl
theorem d_Md_conclude_115 : decode prog_12_method_52_code 115 = .ok (.invokevirtual 258, 3) := by decide +kernel
set_option maxRecDepth 100000 in
theorem c_Md_conclude_118 : ct_Md_conclude 118 = ka_if (fun x => 0 ≤ x) 127 := rfl
theorem d_Md_conclude_118 : decode prog_12_method_52_code 118 = .ok (.ifCond .ge 9, 3) := by decide +kernel
set_option maxRecDepth 100000 in
theorem c_Md_conclude_121 : ct_Md_conclude 121 = ka_inc 6 (nI 1) := rfl
theorem d_Md_conclude_121 : decode prog_12_method_52_code 121 = .ok (.iinc 6 1, 3) := by decide +kernel
set_option maxRecDepth 100000 in
theorem c_Md_conclude_124 : ct_Md_conclude 124 = ka_goto 103 := rfl
theorem d_Md_conclude_124 : decode prog_12_method_52_code 124 = .ok (.goto (-21), 3) := by decide +kernel
set_option maxRecDepth 100000 in
theorem c_Md_conclude_127 : ct_Md_conclude 127 = ka_il 6 2 := rfl
theorem d_Md_conclude_127 : decode prog_12_method_52_code 127 = .ok (.iload 6, 2) := by decide +kernel
set_option maxRecDepth 100000 in
theorem c_Md_conclude_129 : ct_Md_conclude 129 = ka_is 7 2 := rfl
theorem d_Md_conclude_129 : decode prog_12_method_52_code 129 = .ok (.istore 7, 2) := by decide +kernel
set_option maxRecDepth 100000 in
theorem c_Md_conclude_131 : ct_Md_conclude 131 = ka_il 1 1 := rfl
theorem d_Md_conclude_131 : decode prog_12_method_52_code 131 = .ok (.iload_n 1, 1) := by decide +kernel
set_option maxRecDepth 100000 in
theorem c_Md_conclude_132 : ct_Md_conclude 132 = ka_ci (nI 32) 2 := rfl
theorem d_Md_conclude_132 : decode prog_12_method_52_code 132 = .ok (.bipush 32, 2) := by decide +kernel
set_option maxRecDepth 100000 in
theorem c_Md_conclude_134 : ct_Md_conclude 134 = ka_cm (fun x y => ¬ x = y) 183 := rfl
theorem d_Md_conclude_134 : decode prog_12_method_52_code 134 = .ok (.if_icmp .ne 49, 3) := by decide +kernel
set_option maxRecDepth 100000 in
theorem c_Md_conclude_137 : ct_Md_conclude 137 = ka_il 7 2 := rfl
theorem d_Md_conclude_137 : decode prog_12_method_52_code 137 = .ok (.iload 7, 2) := by decide +kernel
set_option maxRecDepth 100000 in
theorem c_Md_conclude_139 : ct_Md_conclude 139 = ka_al 0 1 := rfl
theorem d_Md_conclude_139 : decode prog_12_method_52_code 139 = .ok (.aload_n 0, 1) := by decide +kernel
set_option maxRecDepth 100000 in
theorem c_Md_conclude_140 : ct_Md_conclude 140 = ka_get 10 20 := rfl
theorem d_Md_conclude_140 : decode prog_12_method_52_code 140 = .ok (.getfield 126, 3) := by decide +kernel
set_option maxRecDepth 100000 in
theorem c_Md_conclude_143 : ct_Md_conclude 143 = ka_cm (fun x y => y ≤ x) 183 := rfl
theorem d_Md_conclude_143 : decode prog_12_method_52_code 143 = .ok (.if_icmp .ge 40, 3) := by decide +kernel
set_option maxRecDepth 100000 in
theorem c_Md_conclude_146 : ct_Md_conclude 146 = ka_il 7 2 := rfl
theorem d_Md_conclude_146 : decode prog_12_method_52_code 146 = .ok (.iload 7, 2) := by decide +kernel
set_option maxRecDepth 100000 in
theorem c_Md_conclude_148 : ct_Md_conclude 148 = ka_il 6 2 := rfl
theorem d_Md_conclude_148 : decode prog_12_method_52_code 148 = .ok (.iload 6, 2) := by decide +kernel
set_option maxRecDepth 100000 in
theorem c_Md_conclude_150 : ct_Md_conclude 150 = ka_cm (fun x y => x ≤ y) 159 := rfl
theorem d_Md_conclude_150 : decode prog_12_method_52_code 150 = .ok (.if_icmp .le 9, 3) := by decide +kernel
set_option maxRecDepth 100000 in
theorem c_Md_conclude_153 : ct_Md_conclude 153 = ka_al 0 1 := rfl
theorem d_Md_conclude_153 : decode prog_12_method_52_code 153 = .ok (.aload_n 0, 1) := by decide +kernel
set_option maxRecDepth 100000 in
theorem c_Md_conclude_154 : ct_Md_conclude 154 = ka_ci (nI 44) 2 := rfl
theorem d_Md_conclude_154 : decode prog_12_method_52_code 154 = .ok (.bipush 44, 2) := by decide +kernel
set_option maxRecDepth 100000 in
theorem c_Md_conclude_156 : ct_Md_conclude 156 = ka_cv 139 1 10 0 0 := rfl
theorem d_Md_conclude_156 : decode prog_12_method_52_code 156 = .ok (.invokevirtual 291, 3) := by decide +kernel
set_option maxRecDepth 100000 in
theorem c_Md_conclude_159 : ct_Md_conclude 159 = ka_al 0 1 := rfl
theorem d_Md_conclude_159 : decode prog_12_method_52_code 159 = .ok (.aload_n 0, 1) := by decide +kernel
set_option maxRecDepth 100000 in
theorem c_Md_conclude_160 : ct_Md_conclude 160 = ka_al 0 1 := rfl
theorem d_Md_conclude_160 : decode prog_12_method_52_code 160 = .ok (.aload_n 0, 1) := by decide +kernel
set_option maxRecDepth 100000 in
theorem c_Md_conclude_161 : ct_Md_conclude 161 = ka_get 10 21 := rfl
theorem d_Md_conclude_161 : decode prog_12_method_52_code 161 = .ok (.getfield 35, 3) := by decide +kernel
set_option maxRecDepth 100000 in
theorem c_Md_conclude_164 : ct_Md_conclude 164 = ka_il 7 2 := rfl
theorem d_Md_conclude_164 : decode prog_12_method_52_code 164 = .ok (.iload 7, 2) := by decide +kernel
set_option maxRecDepth 100000 in
theorem c_Md_conclude_166 : ct_Md_conclude 166 = ka_iald := rfl
theorem d_Md_conclude_166 : decode prog_12_method_52_code 166 = .ok (.iaload, 1) := by decide +kernel
set_option maxRecDepth 100000 in
theorem c_Md_conclude_167 : ct_Md_conclude 167 = ka_al 0 1 := rfl
theorem d_Md_conclude_167 : decode prog_12_method_52_code 167 = .ok (.aload_n 0, 1) := by decide +kernel
set_option maxRecDepth 100000 in
theorem c_Md_conclude_168 : ct_Md_conclude 168 = ka_get 10 22 := rfl
theorem d_Md_conclude_168 : decode prog_12_method_52_code 168 = .ok (.getfield 38, 3) := by decide +kernel
set_option maxRecDepth 100000 in
theorem c_Md_conclude_171 : ct_Md_conclude 171 = ka_il 7 2 := rfl
theorem d_Md_conclude_171 : decode prog_12_method_52_code 171 = .ok (.iload 7, 2) := by decide +kernel
set_option maxRecDepth 100000 in
theorem c_Md_conclude_173 : ct_Md_conclude 173 = ka_lald := rfl
theorem d_Md_conclude_173 : decode prog_12_method_52_code 173 = .ok (.laload, 1) := by decide +kernel
set_option maxRecDepth 100000 in
theorem c_Md_conclude_174 : ct_Md_conclude 174 = ka_cv 144 2 10 0 0 := rfl
theorem d_Md_conclude_174 : decode prog_12_method_52_code 174 = .ok (.invokevirtual 310, 3) := by decide +kernel
set_option maxRecDepth 100000 in
theorem c_Md_conclude_177 : ct_Md_conclude 177 = ka_inc 7 (nI 1) := rfl
theorem d_Md_conclude_177 : decode prog_12_method_52_code 177 = .ok (.iinc 7 1, 3) := by decide +kernel
set_option maxRecDepth 100000 in
theorem c_Md_conclude_180 : ct_Md_conclude 180 = ka_goto 131 := rfl
theorem d_Md_conclude_180 : decode prog_12_method_52_code 180 = .ok (.goto (-49), 3) := by decide +kernel
set_option maxRecDepth 100000 in
theorem c_Md_conclude_183 : ct_Md_conclude 183 = ka_al 0 1 := rfl
theorem d_Md_conclude_183 : decode prog_12_method_52_code 183 = .ok (.aload_n 0, 1) := by decide +kernel
set_option maxRecDepth 100000 in
theorem c_Md_conclude_184 : ct_Md_conclude 184 = ka_il 5 2 := rfl
theorem d_Md_conclude_184 : decode prog_12_method_52_code 184 = .ok (.iload 5, 2) := by decide +kernel
set_option maxRecDepth 100000 in
theorem c_Md_conclude_186 : ct_Md_conclude 186 = ka_cv 141 1 10 0 0 := rfl
theorem d_Md_conclude_186 : decode prog_12_method_52_code 186 = .ok (.invokevirtual 300, 3) := by decide +kernel
set_option maxRecDepth 100000 in
theorem c_Md_conclude_189 : ct_Md_conclude 189 = ka_al 0 1 := rfl
theorem d_Md_conclude_189 : decode prog_12_method_52_code 189 = .ok (.aload_n 0, 1) := by decide +kernel
set_option maxRecDepth 100000 in
theorem c_Md_conclude_190 : ct_Md_conclude 190 = ka_ci (nI 4) 1 := rfl
theorem d_Md_conclude_190 : decode prog_12_method_52_code 190 = .ok (.iconst 4, 1) := by decide +kernel
set_option maxRecDepth 100000 in
theorem c_Md_conclude_191 : ct_Md_conclude 191 = ka_cv 140 1 10 0 0 := rfl
theorem d_Md_conclude_191 : decode prog_12_method_52_code 191 = .ok (.invokevirtual 294, 3) := by decide +kernel
set_option maxRecDepth 100000 in
theorem c_Md_conclude_194 : ct_Md_conclude 194 = ka_is 7 2 := rfl
theorem d_Md_conclude_194 : decode prog_12_method_52_code 194 = .ok (.istore 7, 2) := by decide +kernel
set_option maxRecDepth 100000 in
theorem c_Md_conclude_196 : ct_Md_conclude 196 = ka_al 0 1 := rfl
theorem d_Md_conclude_196 : decode prog_12_method_52_code 196 = .ok (.aload_n 0, 1) := by decide +kernel
set_option maxRecDepth 100000 in
theorem c_Md_conclude_197 : ct_Md_conclude 197 = ka_il 7 2 := rfl
theorem d_Md_conclude_197 : decode prog_12_method_52_code 197 = .ok (.iload 7, 2) := by decide +kernel
set_option maxRecDepth 100000 in
theorem c_Md_conclude_199 : ct_Md_conclude 199 = ka_cv 141 1 10 0 0 := rfl
theorem d_Md_conclude_199 : decode prog_12_method_52_code 199 = .ok (.invokevirtual 300, 3) := by decide +kernel
set_option maxRecDepth 100000 in
theorem c_Md_conclude_202 : ct_Md_conclude 202 = ka_al 0 1 := rfl
theorem d_Md_conclude_202 : decode prog_12_method_52_code 202 = .ok (.aload_n 0, 1) := by decide +kernel
set_option maxRecDepth 100000 in
theorem c_Md_conclude_203 : ct_Md_conclude 203 = ka_il 3 1 := rfl
theorem d_Md_conclude_203 : decode prog_12_method_52_code 203 = .ok (.iload_n 3, 1) := by decide +kernel
set_option maxRecDepth 100000 in
theorem c_Md_conclude_204 : ct_Md_conclude 204 = ka_cv 141 1 10 0 0 := rfl
theorem d_Md_conclude_204 : decode prog_12_method_52_code 204 = .ok (.invokevirtual 300, 3) := by decide +kernel
set_option maxRecDepth 100000 in
theorem c_Md_conclude_207 : ct_Md_conclude 207 = ka_al 0 1 := rfl
theorem d_Md_conclude_207 : decode prog_12_method_52_code 207 = .ok (.aload_n 0, 1) := by decide +kernel
set_option maxRecDepth 100000 in
theorem c_Md_conclude_208 : ct_Md_conclude 208 = ka_il 2 1 := rfl
theorem d_Md_conclude_208 : decode prog_12_method_52_code 208 = .ok (.iload_n 2, 1) := by decide +kernel
set_option maxRecDepth 100000 in
theorem c_Md_conclude_209 : ct_Md_conclude 209 = ka_cv 141 1 10 0 0 := rfl
theorem d_Md_conclude_209 : decode prog_12_method_52_code 209 = .ok (.invokevirtual 300, 3) := by decide +kernel
set_option maxRecDepth 100000 in
theorem c_Md_conclude_212 : ct_Md_conclude 212 = ka_ret := rfl
theorem d_Md_conclude_212 : decode prog_12_method_52_code 212 = .ok (.return_, 1) := by decide +kernel
set_option maxRecDepth 100000 in
set_option maxHeartbeats 4000000 in
theorem s_Md_conclude_60 : ∀ pc, pc < 60 → kc_Sim kt kw_A kw_N kt_cl kt_En "DirectoryDeskModel" prog_12_method_52_code 8 (none) "conclude" none pc (ct_Md_conclude pc) := by
  let P : Nat → Prop := fun pc => kc_Sim kt kw_A kw_N kt_cl kt_En "DirectoryDeskModel" prog_12_method_52_code 8 (none) "conclude" none pc (ct_Md_conclude pc)
  exact kc_case (P := P) (kc_se rfl sm_no) (
  kc_case (P := P) (kc_se c_Md_conclude_58 (sm_bipush d_Md_conclude_58 (by decide))) (
  kc_case (P := P) (kc_se rfl sm_no) (
  kc_case (P := P) (kc_se rfl sm_no) (
  kc_case (P := P) (kc_se c_Md_conclude_55 (sm_get (ci := 10) (C := "DirectoryDeskModel") (F := kF_Md) rfl kin_Md (Nat.le_of_ble_eq_true rfl) d_Md_conclude_55 (kw3 200 rfl rfl))) (
  kc_case (P := P) (kc_se c_Md_conclude_54 (sm_aload_n d_Md_conclude_54 rfl)) (
  kc_case (P := P) (kc_se rfl sm_no) (
  kc_case (P := P) (kc_se rfl sm_no) (
  kc_case (P := P) (kc_se c_Md_conclude_51 (sm_goto d_Md_conclude_51 (by decide))) (
  kc_case (P := P) (kc_se rfl sm_no) (
  kc_case (P := P) (kc_se c_Md_conclude_49 (sm_bipush d_Md_conclude_49 (by decide))) (
  kc_case (P := P) (kc_se rfl sm_no) (
  kc_case (P := P) (kc_se rfl sm_no) (
  kc_case (P := P) (kc_se c_Md_conclude_46 (sm_cm_ne d_Md_conclude_46 (by decide))) (
  kc_case (P := P) (kc_se rfl sm_no) (
  kc_case (P := P) (kc_se c_Md_conclude_44 (sm_bipush d_Md_conclude_44 (by decide))) (
  kc_case (P := P) (kc_se rfl sm_no) (
  kc_case (P := P) (kc_se rfl sm_no) (
  kc_case (P := P) (kc_se c_Md_conclude_41 (sm_get (ci := 10) (C := "DirectoryDeskModel") (F := kF_Md) rfl kin_Md (Nat.le_of_ble_eq_true rfl) d_Md_conclude_41 (kw3 200 rfl rfl))) (
  kc_case (P := P) (kc_se c_Md_conclude_40 (sm_aload_n d_Md_conclude_40 rfl)) (
  kc_case (P := P) (kc_se rfl sm_no) (
  kc_case (P := P) (kc_se rfl sm_no) (
  kc_case (P := P) (kc_se c_Md_conclude_37 (sm_goto d_Md_conclude_37 (by decide))) (
  kc_case (P := P) (kc_se rfl sm_no) (
  kc_case (P := P) (kc_se c_Md_conclude_35 (sm_bipush d_Md_conclude_35 (by decide))) (
  kc_case (P := P) (kc_se rfl sm_no) (
  kc_case (P := P) (kc_se rfl sm_no) (
  kc_case (P := P) (kc_se c_Md_conclude_32 (sm_cm_ne d_Md_conclude_32 (by decide))) (
  kc_case (P := P) (kc_se rfl sm_no) (
  kc_case (P := P) (kc_se c_Md_conclude_30 (sm_bipush d_Md_conclude_30 (by decide))) (
  kc_case (P := P) (kc_se rfl sm_no) (
  kc_case (P := P) (kc_se rfl sm_no) (
  kc_case (P := P) (kc_se c_Md_conclude_27 (sm_get (ci := 10) (C := "DirectoryDeskModel") (F := kF_Md) rfl kin_Md (Nat.le_of_ble_eq_true rfl) d_Md_conclude_27 (kw3 200 rfl rfl))) (
  kc_case (P := P) (kc_se c_Md_conclude_26 (sm_aload_n d_Md_conclude_26 rfl)) (
  kc_case (P := P) (kc_se rfl sm_no) (
  kc_case (P := P) (kc_se rfl sm_no) (
  kc_case (P := P) (kc_se c_Md_conclude_23 (sm_goto d_Md_conclude_23 (by decide))) (
  kc_case (P := P) (kc_se rfl sm_no) (
  kc_case (P := P) (kc_se c_Md_conclude_21 (sm_bipush d_Md_conclude_21 (by decide))) (
  kc_case (P := P) (kc_se rfl sm_no) (
  kc_case (P := P) (kc_se rfl sm_no) (
  kc_case (P := P) (kc_se c_Md_conclude_18 (sm_cm_ne d_Md_conclude_18 (by decide))) (
  kc_case (P := P) (kc_se rfl sm_no) (
  kc_case (P := P) (kc_se c_Md_conclude_16 (sm_bipush d_Md_conclude_16 (by decide))) (
  kc_case (P := P) (kc_se rfl sm_no) (
  kc_case (P := P) (kc_se rfl sm_no) (
  kc_case (P := P) (kc_se c_Md_conclude_13 (sm_get (ci := 10) (C := "DirectoryDeskModel") (F := kF_Md) rfl kin_Md (Nat.le_of_ble_eq_true rfl) d_Md_conclude_13 (kw3 200 rfl rfl))) (
  kc_case (P := P) (kc_se c_Md_conclude_12 (sm_aload_n d_Md_conclude_12 rfl)) (
  kc_case (P := P) (kc_se c_Md_conclude_11 (sm_aload_n d_Md_conclude_11 rfl)) (
  kc_case (P := P) (kc_se rfl sm_no) (
  kc_case (P := P) (kc_se rfl sm_no) (
  kc_case (P := P) (kc_se c_Md_conclude_8 (sm_cv (j := 142) rfl rfl kw_o kw_g wc_Md_sayId (Nat.le_of_ble_eq_true rfl) hd_Md_sayId (ci := 10) (F := kF_Md) (N := 52) rfl (kw5 16 rfl rfl) wi_Md_sayId ws_Md_sayId wn_Md_sayId d_Md_conclude_8)) (
  kc_case (P := P) (kc_se c_Md_conclude_7 (sm_aload_n d_Md_conclude_7 rfl)) (
  kc_case (P := P) (kc_se c_Md_conclude_6 (sm_istore_n d_Md_conclude_6 rfl (Nat.le_of_ble_eq_true rfl))) (
  kc_case (P := P) (kc_se rfl sm_no) (
  kc_case (P := P) (kc_se rfl sm_no) (
  kc_case (P := P) (kc_se c_Md_conclude_3 (sm_cv (j := 140) rfl rfl kw_o kw_g wc_Md_begin (Nat.le_of_ble_eq_true rfl) hd_Md_begin (ci := 10) (F := kF_Md) (N := 52) rfl (kw5 8 rfl rfl) wi_Md_begin ws_Md_begin wn_Md_begin d_Md_conclude_3)) (
  kc_case (P := P) (kc_se rfl sm_no) (
  kc_case (P := P) (kc_se c_Md_conclude_1 (sm_bipush d_Md_conclude_1 (by decide))) (
  kc_case (P := P) (kc_se c_Md_conclude_0 (sm_aload_n d_Md_conclude_0 rfl)) (
  kc_case0))))))))))))))))))))))))))))))))))))))))))))))))))))))))))))
set_option maxRecDepth 100000 in
set_option maxHeartbeats 4000000 in
theorem s_Md_conclude_120 : ∀ pc, pc < 120 → kc_Sim kt kw_A kw_N kt_cl kt_En "DirectoryDeskModel" prog_12_method_52_code 8 (none) "conclude" none pc (ct_Md_conclude pc) := by
  let P : Nat → Prop := fun pc => kc_Sim kt kw_A kw_N kt_cl kt_En "DirectoryDeskModel" prog_12_method_52_code 8 (none) "conclude" none pc (ct_Md_conclude pc)
  exact kc_case (P := P) (kc_se rfl sm_no) (
  kc_case (P := P) (kc_se c_Md_conclude_118 (sm_if_ge d_Md_conclude_118 (by decide))) (
  kc_case (P := P) (kc_se rfl sm_no) (
  kc_case (P := P) (kc_se rfl sm_no) (
  kc_case (P := P) (kc_se c_Md_conclude_115 (sm_cv (j := 109) rfl rfl kw_o kw_g wc_Md_find (Nat.le_of_ble_eq_true rfl) hd_Md_find (ci := 10) (F := kF_Md) (N := 52) rfl (kw4 208 rfl rfl) wi_Md_find ws_Md_find wn_Md_find d_Md_conclude_115)) (
  kc_case (P := P) (kc_se rfl sm_no) (
  kc_case (P := P) (kc_se c_Md_conclude_113 (sm_iload d_Md_conclude_113)) (
  kc_case (P := P) (kc_se c_Md_conclude_112 (sm_aload_n d_Md_conclude_112 rfl)) (
  kc_case (P := P) (kc_se rfl sm_no) (
  kc_case (P := P) (kc_se rfl sm_no) (
  kc_case (P := P) (kc_se c_Md_conclude_109 (sm_cm_ge d_Md_conclude_109 (by decide))) (
  kc_case (P := P) (kc_se rfl sm_no) (
  kc_case (P := P) (kc_se rfl sm_no) (
  kc_case (P := P) (kc_se c_Md_conclude_106 (sm_get (ci := 10) (C := "DirectoryDeskModel") (F := kF_Md) rfl kin_Md (Nat.le_of_ble_eq_true rfl) d_Md_conclude_106 (kw3 203 rfl rfl))) (
  kc_case (P := P) (kc_se c_Md_conclude_105 (sm_aload_n d_Md_conclude_105 rfl)) (
  kc_case (P := P) (kc_se rfl sm_no) (
  kc_case (P := P) (kc_se c_Md_conclude_103 (sm_iload d_Md_conclude_103)) (
  kc_case (P := P) (kc_se rfl sm_no) (
  kc_case (P := P) (kc_se c_Md_conclude_101 (sm_istore d_Md_conclude_101 (Nat.le_of_ble_eq_true rfl))) (
  kc_case (P := P) (kc_se c_Md_conclude_100 (sm_iconst d_Md_conclude_100 (by decide))) (
  kc_case (P := P) (kc_se rfl sm_no) (
  kc_case (P := P) (kc_se c_Md_conclude_98 (sm_istore d_Md_conclude_98 (Nat.le_of_ble_eq_true rfl))) (
  kc_case (P := P) (kc_se rfl sm_no) (
  kc_case (P := P) (kc_se rfl sm_no) (
  kc_case (P := P) (kc_se c_Md_conclude_95 (sm_cv (j := 140) rfl rfl kw_o kw_g wc_Md_begin (Nat.le_of_ble_eq_true rfl) hd_Md_begin (ci := 10) (F := kF_Md) (N := 52) rfl (kw5 8 rfl rfl) wi_Md_begin ws_Md_begin wn_Md_begin d_Md_conclude_95)) (
  kc_case (P := P) (kc_se c_Md_conclude_94 (sm_iconst d_Md_conclude_94 (by decide))) (
  kc_case (P := P) (kc_se c_Md_conclude_93 (sm_aload_n d_Md_conclude_93 rfl)) (
  kc_case (P := P) (kc_se rfl sm_no) (
  kc_case (P := P) (kc_se rfl sm_no) (
  kc_case (P := P) (kc_se c_Md_conclude_90 (sm_cv (j := 141) rfl rfl kw_o kw_g wc_Md_close (Nat.le_of_ble_eq_true rfl) hd_Md_close (ci := 10) (F := kF_Md) (N := 52) rfl (kw5 20 rfl rfl) wi_Md_close ws_Md_close wn_Md_close d_Md_conclude_90)) (
  kc_case (P := P) (kc_se rfl sm_no) (
  kc_case (P := P) (kc_se c_Md_conclude_88 (sm_iload d_Md_conclude_88)) (
  kc_case (P := P) (kc_se c_Md_conclude_87 (sm_aload_n d_Md_conclude_87 rfl)) (
  kc_case (P := P) (kc_se rfl sm_no) (
  kc_case (P := P) (kc_se rfl sm_no) (
  kc_case (P := P) (kc_se c_Md_conclude_84 (sm_cv (j := 139) rfl rfl kw_o kw_g wc_Md_say (Nat.le_of_ble_eq_true rfl) hd_Md_say (ci := 10) (F := kF_Md) (N := 52) rfl (kw5 12 rfl rfl) wi_Md_say ws_Md_say wn_Md_say d_Md_conclude_84)) (
  kc_case (P := P) (kc_se c_Md_conclude_83 (sm_iload_n d_Md_conclude_83 rfl)) (
  kc_case (P := P) (kc_se c_Md_conclude_82 (sm_aload_n d_Md_conclude_82 rfl)) (
  kc_case (P := P) (kc_se rfl sm_no) (
  kc_case (P := P) (kc_se c_Md_conclude_80 (sm_istore d_Md_conclude_80 (Nat.le_of_ble_eq_true rfl))) (
  kc_case (P := P) (kc_se rfl sm_no) (
  kc_case (P := P) (kc_se rfl sm_no) (
  kc_case (P := P) (kc_se c_Md_conclude_77 (sm_cv (j := 140) rfl rfl kw_o kw_g wc_Md_begin (Nat.le_of_ble_eq_true rfl) hd_Md_begin (ci := 10) (F := kF_Md) (N := 52) rfl (kw5 8 rfl rfl) wi_Md_begin ws_Md_begin wn_Md_begin d_Md_conclude_77)) (
  kc_case (P := P) (kc_se rfl sm_no) (
  kc_case (P := P) (kc_se c_Md_conclude_75 (sm_bipush d_Md_conclude_75 (by decide))) (
  kc_case (P := P) (kc_se c_Md_conclude_74 (sm_aload_n d_Md_conclude_74 rfl)) (
  kc_case (P := P) (kc_se c_Md_conclude_73 (sm_istore_n d_Md_conclude_73 rfl (Nat.le_of_ble_eq_true rfl))) (
  kc_case (P := P) (kc_se rfl sm_no) (
  kc_case (P := P) (kc_se rfl sm_no) (
  kc_case (P := P) (kc_se c_Md_conclude_70 (sm_cv (j := 140) rfl rfl kw_o kw_g wc_Md_begin (Nat.le_of_ble_eq_true rfl) hd_Md_begin (ci := 10) (F := kF_Md) (N := 52) rfl (kw5 8 rfl rfl) wi_Md_begin ws_Md_begin wn_Md_begin d_Md_conclude_70)) (
  kc_case (P := P) (kc_se rfl sm_no) (
  kc_case (P := P) (kc_se c_Md_conclude_68 (sm_bipush d_Md_conclude_68 (by decide))) (
  kc_case (P := P) (kc_se rfl sm_no) (
  kc_case (P := P) (kc_se rfl sm_no) (
  kc_case (P := P) (kc_se c_Md_conclude_65 (sm_goto d_Md_conclude_65 (by decide))) (
  kc_case (P := P) (kc_se rfl sm_no) (
  kc_case (P := P) (kc_se c_Md_conclude_63 (sm_bipush d_Md_conclude_63 (by decide))) (
  kc_case (P := P) (kc_se rfl sm_no) (
  kc_case (P := P) (kc_se rfl sm_no) (
  kc_case (P := P) (kc_se c_Md_conclude_60 (sm_cm_ne d_Md_conclude_60 (by decide))) (
  s_Md_conclude_60))))))))))))))))))))))))))))))))))))))))))))))))))))))))))))
set_option maxRecDepth 100000 in
set_option maxHeartbeats 4000000 in
theorem s_Md_conclude_180 : ∀ pc, pc < 180 → kc_Sim kt kw_A kw_N kt_cl kt_En "DirectoryDeskModel" prog_12_method_52_code 8 (none) "conclude" none pc (ct_Md_conclude pc) := by
  let P : Nat → Prop := fun pc => kc_Sim kt kw_A kw_N kt_cl kt_En "DirectoryDeskModel" prog_12_method_52_code 8 (none) "conclude" none pc (ct_Md_conclude pc)
  exact kc_case (P := P) (kc_se rfl sm_no) (
  kc_case (P := P) (kc_se rfl sm_no) (
  kc_case (P := P) (kc_se c_Md_conclude_177 (sm_inc d_Md_conclude_177 (by decide) (Nat.le_of_ble_eq_true rfl))) (
  kc_case (P := P) (kc_se rfl sm_no) (
  kc_case (P := P) (kc_se rfl sm_no) (
  kc_case (P := P) (kc_se c_Md_conclude_174 (sm_cv (j := 144) rfl rfl kw_o kw_g wc_Md_sayPart (Nat.le_of_ble_eq_true rfl) hd_Md_sayPart (ci := 10) (F := kF_Md) (N := 52) rfl (kw5 24 rfl rfl) wi_Md_sayPart ws_Md_sayPart wn_Md_sayPart d_Md_conclude_174)) (
  kc_case (P := P) (kc_se c_Md_conclude_173 (sm_lald d_Md_conclude_173)) (
  kc_case (P := P) (kc_se rfl sm_no) (
  kc_case (P := P) (kc_se c_Md_conclude_171 (sm_iload d_Md_conclude_171)) (
  kc_case (P := P) (kc_se rfl sm_no) (
  kc_case (P := P) (kc_se rfl sm_no) (
  kc_case (P := P) (kc_se c_Md_conclude_168 (sm_get (ci := 10) (C := "DirectoryDeskModel") (F := kF_Md) rfl kin_Md (Nat.le_of_ble_eq_true rfl) d_Md_conclude_168 (kw3 205 rfl rfl))) (
  kc_case (P := P) (kc_se c_Md_conclude_167 (sm_aload_n d_Md_conclude_167 rfl)) (
  kc_case (P := P) (kc_se c_Md_conclude_166 (sm_iald d_Md_conclude_166)) (
  kc_case (P := P) (kc_se rfl sm_no) (
  kc_case (P := P) (kc_se c_Md_conclude_164 (sm_iload d_Md_conclude_164)) (
  kc_case (P := P) (kc_se rfl sm_no) (
  kc_case (P := P) (kc_se rfl sm_no) (
  kc_case (P := P) (kc_se c_Md_conclude_161 (sm_get (ci := 10) (C := "DirectoryDeskModel") (F := kF_Md) rfl kin_Md (Nat.le_of_ble_eq_true rfl) d_Md_conclude_161 (kw3 204 rfl rfl))) (
  kc_case (P := P) (kc_se c_Md_conclude_160 (sm_aload_n d_Md_conclude_160 rfl)) (
  kc_case (P := P) (kc_se c_Md_conclude_159 (sm_aload_n d_Md_conclude_159 rfl)) (
  kc_case (P := P) (kc_se rfl sm_no) (
  kc_case (P := P) (kc_se rfl sm_no) (
  kc_case (P := P) (kc_se c_Md_conclude_156 (sm_cv (j := 139) rfl rfl kw_o kw_g wc_Md_say (Nat.le_of_ble_eq_true rfl) hd_Md_say (ci := 10) (F := kF_Md) (N := 52) rfl (kw5 12 rfl rfl) wi_Md_say ws_Md_say wn_Md_say d_Md_conclude_156)) (
  kc_case (P := P) (kc_se rfl sm_no) (
  kc_case (P := P) (kc_se c_Md_conclude_154 (sm_bipush d_Md_conclude_154 (by decide))) (
  kc_case (P := P) (kc_se c_Md_conclude_153 (sm_aload_n d_Md_conclude_153 rfl)) (
  kc_case (P := P) (kc_se rfl sm_no) (
  kc_case (P := P) (kc_se rfl sm_no) (
  kc_case (P := P) (kc_se c_Md_conclude_150 (sm_cm_le d_Md_conclude_150 (by decide))) (
  kc_case (P := P) (kc_se rfl sm_no) (
  kc_case (P := P) (kc_se c_Md_conclude_148 (sm_iload d_Md_conclude_148)) (
  kc_case (P := P) (kc_se rfl sm_no) (
  kc_case (P := P) (kc_se c_Md_conclude_146 (sm_iload d_Md_conclude_146)) (
  kc_case (P := P) (kc_se rfl sm_no) (
  kc_case (P := P) (kc_se rfl sm_no) (
  kc_case (P := P) (kc_se c_Md_conclude_143 (sm_cm_ge d_Md_conclude_143 (by decide))) (
  kc_case (P := P) (kc_se rfl sm_no) (
  kc_case (P := P) (kc_se rfl sm_no) (
  kc_case (P := P) (kc_se c_Md_conclude_140 (sm_get (ci := 10) (C := "DirectoryDeskModel") (F := kF_Md) rfl kin_Md (Nat.le_of_ble_eq_true rfl) d_Md_conclude_140 (kw3 203 rfl rfl))) (
  kc_case (P := P) (kc_se c_Md_conclude_139 (sm_aload_n d_Md_conclude_139 rfl)) (
  kc_case (P := P) (kc_se rfl sm_no) (
  kc_case (P := P) (kc_se c_Md_conclude_137 (sm_iload d_Md_conclude_137)) (
  kc_case (P := P) (kc_se rfl sm_no) (
  kc_case (P := P) (kc_se rfl sm_no) (
  kc_case (P := P) (kc_se c_Md_conclude_134 (sm_cm_ne d_Md_conclude_134 (by decide))) (
  kc_case (P := P) (kc_se rfl sm_no) (
  kc_case (P := P) (kc_se c_Md_conclude_132 (sm_bipush d_Md_conclude_132 (by decide))) (
  kc_case (P := P) (kc_se c_Md_conclude_131 (sm_iload_n d_Md_conclude_131 rfl)) (
  kc_case (P := P) (kc_se rfl sm_no) (
  kc_case (P := P) (kc_se c_Md_conclude_129 (sm_istore d_Md_conclude_129 (Nat.le_of_ble_eq_true rfl))) (
  kc_case (P := P) (kc_se rfl sm_no) (
  kc_case (P := P) (kc_se c_Md_conclude_127 (sm_iload d_Md_conclude_127)) (
  kc_case (P := P) (kc_se rfl sm_no) (
  kc_case (P := P) (kc_se rfl sm_no) (
  kc_case (P := P) (kc_se c_Md_conclude_124 (sm_goto d_Md_conclude_124 (by decide))) (
  kc_case (P := P) (kc_se rfl sm_no) (
  kc_case (P := P) (kc_se rfl sm_no) (
  kc_case (P := P) (kc_se c_Md_conclude_121 (sm_inc d_Md_conclude_121 (by decide) (Nat.le_of_ble_eq_true rfl))) (
  kc_case (P := P) (kc_se rfl sm_no) (
  s_Md_conclude_120))))))))))))))))))))))))))))))))))))))))))))))))))))))))))))
set_option maxRecDepth 100000 in
set_option maxHeartbeats 4000000 in
theorem s_Md_conclude_213 : ∀ pc, pc < 213 → kc_Sim kt kw_A kw_N kt_cl kt_En "DirectoryDeskModel" prog_12_method_52_code 8 (none) "conclude" none pc (ct_Md_conclude pc) := by
  let P : Nat → Prop := fun pc => kc_Sim kt kw_A kw_N kt_cl kt_En "DirectoryDeskModel" prog_12_method_52_code 8 (none) "conclude" none pc (ct_Md_conclude pc)
  exact kc_case (P := P) (kc_se c_Md_conclude_212 (sm_ret d_Md_conclude_212 rfl)) (
  kc_case (P := P) (kc_se rfl sm_no) (
  kc_case (P := P) (kc_se rfl sm_no) (
  kc_case (P := P) (kc_se c_Md_conclude_209 (sm_cv (j := 141) rfl rfl kw_o kw_g wc_Md_close (Nat.le_of_ble_eq_true rfl) hd_Md_close (ci := 10) (F := kF_Md) (N := 52) rfl (kw5 20 rfl rfl) wi_Md_close ws_Md_close wn_Md_close d_Md_conclude_209)) (
  kc_case (P := P) (kc_se c_Md_conclude_208 (sm_iload_n d_Md_conclude_208 rfl)) (
  kc_case (P := P) (kc_se c_Md_conclude_207 (sm_aload_n d_Md_conclude_207 rfl)) (
  kc_case (P := P) (kc_se rfl sm_no) (
  kc_case (P := P) (kc_se rfl sm_no) (
  kc_case (P := P) (kc_se c_Md_conclude_204 (sm_cv (j := 141) rfl rfl kw_o kw_g wc_Md_close (Nat.le_of_ble_eq_true rfl) hd_Md_close (ci := 10) (F := kF_Md) (N := 52) rfl (kw5 20 rfl rfl) wi_Md_close ws_Md_close wn_Md_close d_Md_conclude_204)) (
  kc_case (P := P) (kc_se c_Md_conclude_203 (sm_iload_n d_Md_conclude_203 rfl)) (
  kc_case (P := P) (kc_se c_Md_conclude_202 (sm_aload_n d_Md_conclude_202 rfl)) (
  kc_case (P := P) (kc_se rfl sm_no) (
  kc_case (P := P) (kc_se rfl sm_no) (
  kc_case (P := P) (kc_se c_Md_conclude_199 (sm_cv (j := 141) rfl rfl kw_o kw_g wc_Md_close (Nat.le_of_ble_eq_true rfl) hd_Md_close (ci := 10) (F := kF_Md) (N := 52) rfl (kw5 20 rfl rfl) wi_Md_close ws_Md_close wn_Md_close d_Md_conclude_199)) (
  kc_case (P := P) (kc_se rfl sm_no) (
  kc_case (P := P) (kc_se c_Md_conclude_197 (sm_iload d_Md_conclude_197)) (
  kc_case (P := P) (kc_se c_Md_conclude_196 (sm_aload_n d_Md_conclude_196 rfl)) (
  kc_case (P := P) (kc_se rfl sm_no) (
  kc_case (P := P) (kc_se c_Md_conclude_194 (sm_istore d_Md_conclude_194 (Nat.le_of_ble_eq_true rfl))) (
  kc_case (P := P) (kc_se rfl sm_no) (
  kc_case (P := P) (kc_se rfl sm_no) (
  kc_case (P := P) (kc_se c_Md_conclude_191 (sm_cv (j := 140) rfl rfl kw_o kw_g wc_Md_begin (Nat.le_of_ble_eq_true rfl) hd_Md_begin (ci := 10) (F := kF_Md) (N := 52) rfl (kw5 8 rfl rfl) wi_Md_begin ws_Md_begin wn_Md_begin d_Md_conclude_191)) (
  kc_case (P := P) (kc_se c_Md_conclude_190 (sm_iconst d_Md_conclude_190 (by decide))) (
  kc_case (P := P) (kc_se c_Md_conclude_189 (sm_aload_n d_Md_conclude_189 rfl)) (
  kc_case (P := P) (kc_se rfl sm_no) (
  kc_case (P := P) (kc_se rfl sm_no) (
  kc_case (P := P) (kc_se c_Md_conclude_186 (sm_cv (j := 141) rfl rfl kw_o kw_g wc_Md_close (Nat.le_of_ble_eq_true rfl) hd_Md_close (ci := 10) (F := kF_Md) (N := 52) rfl (kw5 20 rfl rfl) wi_Md_close ws_Md_close wn_Md_close d_Md_conclude_186)) (
  kc_case (P := P) (kc_se rfl sm_no) (
  kc_case (P := P) (kc_se c_Md_conclude_184 (sm_iload d_Md_conclude_184)) (
  kc_case (P := P) (kc_se c_Md_conclude_183 (sm_aload_n d_Md_conclude_183 rfl)) (
  kc_case (P := P) (kc_se rfl sm_no) (
  kc_case (P := P) (kc_se rfl sm_no) (
  kc_case (P := P) (kc_se c_Md_conclude_180 (sm_goto d_Md_conclude_180 (by decide))) (
  s_Md_conclude_180)))))))))))))))))))))))))))))))))
set_option maxRecDepth 100000 in
theorem ka_nth_no_Md_conclude (pc : Nat) (h : 213 ≤ pc) : ct_Md_conclude pc = ka_no := ka_nth_ge _ pc (Nat.le_trans (Nat.le_of_eq (by rfl)) h)
theorem s_Md_conclude (pc : Nat) : kc_Sim kt kw_A kw_N kt_cl kt_En "DirectoryDeskModel" prog_12_method_52_code 8 (none) "conclude" none pc (ct_Md_conclude pc) := (Nat.lt_or_ge pc 213).elim (s_Md_conclude_213 pc) (fun h => kc_se (ka_nth_no_Md_conclude pc h) sm_no)
def cl_Md_isMessage_0 : List kc_A := [ka_al 0 1, ka_ci (nI 0) 1, ka_al 0 1, ka_get 10 3, ka_no, ka_no, ka_ci (nI 48) 2, ka_no, ka_cv 100 3 10 0 0, ka_no, ka_no, ka_if (fun x => x = 0) 47, ka_no, ka_no, ka_al 0 1, ka_get 10 15, ka_no, ka_no, ka_al 0 1, ka_get 10 3, ka_no, ka_no, ka_cm (fun x y => ¬ x = y) 47, ka_no, ka_no, ka_al 0 1, ka_al 0 1, ka_get 10 14, ka_no, ka_no, ka_al 0 1, ka_get 10 3, ka_no, ka_no, ka_cv 101 2 10 0 0, ka_no, ka_no, ka_if (fun x => x = 0) 47, ka_no, ka_no, ka_al 0 1, ka_cv 102 0 10 0 0, ka_no, ka_no, ka_if (fun x => 0 ≤ x) 49, ka_no, ka_no, ka_ci (nI 0) 1, ka_rz, ka_al 0 1, ka_al 0 1, ka_cv 102 0 10 0 0, ka_no, ka_no, ka_put 10 16 .int, ka_no, ka_no, ka_al 0 1, ka_al 0 1, ka_get 10 15]
def cl_Md_isMessage_1 : List kc_A := [ka_no, ka_no, ka_al 0 1, ka_get 10 3, ka_no, ka_no, ka_cv 99 2 10 0 0, ka_no, ka_no, ka_if (fun x => x = 0) 83, ka_no, ka_no, ka_al 0 1, ka_get 10 15, ka_no, ka_no, ka_al 0 1, ka_get 10 3, ka_no, ka_no, ka_cm (fun x y => x = y) 85, ka_no, ka_no, ka_ci (nI 0) 1, ka_rz, ka_al 0 1, ka_al 0 1, ka_get 10 13, ka_no, ka_no, ka_put 10 17 .int, ka_no, ka_no, ka_al 0 1, ka_al 0 1, ka_get 10 14, ka_no, ka_no, ka_put 10 18 .int, ka_no, ka_no, ka_al 0 1, ka_al 0 1, ka_get 10 15, ka_no, ka_no, ka_put 10 19 .int, ka_no, ka_no, ka_al 0 1, ka_get 10 13, ka_no, ka_no, ka_ci (nI 96) 2, ka_no, ka_cm (fun x y => x = y) 154, ka_no, ka_no, ka_al 0 1, ka_get 10 13]
def cl_Md_isMessage_2 : List kc_A := [ka_no, ka_no, ka_ci (nI 99) 2, ka_no, ka_cm (fun x y => x = y) 154, ka_no, ka_no, ka_al 0 1, ka_get 10 13, ka_no, ka_no, ka_ci (nI 102) 2, ka_no, ka_cm (fun x y => x = y) 154, ka_no, ka_no, ka_al 0 1, ka_get 10 13, ka_no, ka_no, ka_ci (nI 104) 2, ka_no, ka_cm (fun x y => x = y) 154, ka_no, ka_no, ka_al 0 1, ka_get 10 13, ka_no, ka_no, ka_ci (nI 74) 2, ka_no, ka_cm (fun x y => ¬ x = y) 158, ka_no, ka_no, ka_ci (nI 1) 1, ka_goto 159, ka_no, ka_no, ka_ci (nI 0) 1, ka_rz]
def ct_Md_isMessage : Nat → kc_A := fun pc => ka_nth (cl_Md_isMessage_0 ++ (cl_Md_isMessage_1 ++ (cl_Md_isMessage_2))) pc
set_option maxRecDepth 100000 in
theorem c_Md_isMessage_0 : ct_Md_isMessage 0 = ka_al 0 1 := rfl
theorem d_Md_isMessage_0 : decode prog_12_method_53_code 0 = .ok (.aload_n 0, 1) := by decide +kernel
set_option maxRecDepth 100000 in
theorem c_Md_isMessage_1 : ct_Md_isMessage 1 = ka_ci (nI 0) 1 := rfl
theorem d_Md_isMessage_1 : decode prog_12_method_53_code 1 = .ok (.iconst 0, 1) := by decide +kernel
set_option maxRecDepth 100000 in
theorem c_Md_isMessage_2 : ct_Md_isMessage 2 = ka_al 0 1 := rfl
theorem d_Md_isMessage_2 : decode prog_12_method_53_code 2 = .ok (.aload_n 0, 1) := by decide +kernel
set_option maxRecDepth 100000 in
theorem c_Md_isMessage_3 : ct_Md_isMessage 3 = ka_get 10 3 := rfl
theorem d_Md_isMessage_3 : decode prog_12_method_53_code 3 = .ok (.getfield 98, 3) := by decide +kernel
set_option maxRecDepth 100000 in
theorem c_Md_isMessage_6 : ct_Md_isMessage 6 = ka_ci (nI 48) 2 := rfl
theorem d_Md_isMessage_6 : decode prog_12_method_53_code 6 = .ok (.bipush 48, 2) := by decide +kernel
set_option maxRecDepth 100000 in
theorem c_Md_isMessage_8 : ct_Md_isMessage 8 = ka_cv 100 3 10 0 0 := rfl
theorem d_Md_isMessage_8 : decode prog_12_method_53_code 8 = .ok (.invokevirtual 116, 3) := by decide +kernel
set_option maxRecDepth 100000 in
theorem c_Md_isMessage_11 : ct_Md_isMessage 11 = ka_if (fun x => x = 0) 47 := rfl
theorem d_Md_isMessage_11 : decode prog_12_method_53_code 11 = .ok (.ifCond .eq 36, 3) := by decide +kernel
set_option maxRecDepth 100000 in
theorem c_Md_isMessage_14 : ct_Md_isMessage 14 = ka_al 0 1 := rfl
theorem d_Md_isMessage_14 : decode prog_12_method_53_code 14 = .ok (.aload_n 0, 1) := by decide +kernel
set_option maxRecDepth 100000 in
theorem c_Md_isMessage_15 : ct_Md_isMessage 15 = ka_get 10 15 := rfl
theorem d_Md_isMessage_15 : decode prog_12_method_53_code 15 = .ok (.getfield 109, 3) := by decide +kernel
set_option maxRecDepth 100000 in
theorem c_Md_isMessage_18 : ct_Md_isMessage 18 = ka_al 0 1 := rfl
theorem d_Md_isMessage_18 : decode prog_12_method_53_code 18 = .ok (.aload_n 0, 1) := by decide +kernel
set_option maxRecDepth 100000 in
theorem c_Md_isMessage_19 : ct_Md_isMessage 19 = ka_get 10 3 := rfl
theorem d_Md_isMessage_19 : decode prog_12_method_53_code 19 = .ok (.getfield 98, 3) := by decide +kernel
set_option maxRecDepth 100000 in
theorem c_Md_isMessage_22 : ct_Md_isMessage 22 = ka_cm (fun x y => ¬ x = y) 47 := rfl
theorem d_Md_isMessage_22 : decode prog_12_method_53_code 22 = .ok (.if_icmp .ne 25, 3) := by decide +kernel
set_option maxRecDepth 100000 in
theorem c_Md_isMessage_25 : ct_Md_isMessage 25 = ka_al 0 1 := rfl
theorem d_Md_isMessage_25 : decode prog_12_method_53_code 25 = .ok (.aload_n 0, 1) := by decide +kernel
set_option maxRecDepth 100000 in
theorem c_Md_isMessage_26 : ct_Md_isMessage 26 = ka_al 0 1 := rfl
theorem d_Md_isMessage_26 : decode prog_12_method_53_code 26 = .ok (.aload_n 0, 1) := by decide +kernel
set_option maxRecDepth 100000 in
theorem c_Md_isMessage_27 : ct_Md_isMessage 27 = ka_get 10 14 := rfl
theorem d_Md_isMessage_27 : decode prog_12_method_53_code 27 = .ok (.getfield 106, 3) := by decide +kernel
set_option maxRecDepth 100000 in
theorem c_Md_isMessage_30 : ct_Md_isMessage 30 = ka_al 0 1 := rfl
theorem d_Md_isMessage_30 : decode prog_12_method_53_code 30 = .ok (.aload_n 0, 1) := by decide +kernel
set_option maxRecDepth 100000 in
theorem c_Md_isMessage_31 : ct_Md_isMessage 31 = ka_get 10 3 := rfl
theorem d_Md_isMessage_31 : decode prog_12_method_53_code 31 = .ok (.getfield 98, 3) := by decide +kernel
set_option maxRecDepth 100000 in
theorem c_Md_isMessage_34 : ct_Md_isMessage 34 = ka_cv 101 2 10 0 0 := rfl
theorem d_Md_isMessage_34 : decode prog_12_method_53_code 34 = .ok (.invokevirtual 146, 3) := by decide +kernel
set_option maxRecDepth 100000 in
theorem c_Md_isMessage_37 : ct_Md_isMessage 37 = ka_if (fun x => x = 0) 47 := rfl
theorem d_Md_isMessage_37 : decode prog_12_method_53_code 37 = .ok (.ifCond .eq 10, 3) := by decide +kernel
set_option maxRecDepth 100000 in
theorem c_Md_isMessage_40 : ct_Md_isMessage 40 = ka_al 0 1 := rfl
theorem d_Md_isMessage_40 : decode prog_12_method_53_code 40 = .ok (.aload_n 0, 1) := by decide +kernel
set_option maxRecDepth 100000 in
theorem c_Md_isMessage_41 : ct_Md_isMessage 41 = ka_cv 102 0 10 0 0 := rfl
theorem d_Md_isMessage_41 : decode prog_12_method_53_code 41 = .ok (.invokevirtual 149, 3) := by decide +kernel
set_option maxRecDepth 100000 in
theorem c_Md_isMessage_44 : ct_Md_isMessage 44 = ka_if (fun x => 0 ≤ x) 49 := rfl
theorem d_Md_isMessage_44 : decode prog_12_method_53_code 44 = .ok (.ifCond .ge 5, 3) := by decide +kernel
set_option maxRecDepth 100000 in
theorem c_Md_isMessage_47 : ct_Md_isMessage 47 = ka_ci (nI 0) 1 := rfl
theorem d_Md_isMessage_47 : decode prog_12_method_53_code 47 = .ok (.iconst 0, 1) := by decide +kernel
set_option maxRecDepth 100000 in
theorem c_Md_isMessage_48 : ct_Md_isMessage 48 = ka_rz := rfl
theorem d_Md_isMessage_48 : decode prog_12_method_53_code 48 = .ok (.ireturn, 1) := by decide +kernel
set_option maxRecDepth 100000 in
theorem c_Md_isMessage_49 : ct_Md_isMessage 49 = ka_al 0 1 := rfl
theorem d_Md_isMessage_49 : decode prog_12_method_53_code 49 = .ok (.aload_n 0, 1) := by decide +kernel
set_option maxRecDepth 100000 in
theorem c_Md_isMessage_50 : ct_Md_isMessage 50 = ka_al 0 1 := rfl
theorem d_Md_isMessage_50 : decode prog_12_method_53_code 50 = .ok (.aload_n 0, 1) := by decide +kernel
set_option maxRecDepth 100000 in
theorem c_Md_isMessage_51 : ct_Md_isMessage 51 = ka_cv 102 0 10 0 0 := rfl
theorem d_Md_isMessage_51 : decode prog_12_method_53_code 51 = .ok (.invokevirtual 149, 3) := by decide +kernel
set_option maxRecDepth 100000 in
theorem c_Md_isMessage_54 : ct_Md_isMessage 54 = ka_put 10 16 .int := rfl
theorem d_Md_isMessage_54 : decode prog_12_method_53_code 54 = .ok (.putfield 297, 3) := by decide +kernel
set_option maxRecDepth 100000 in
theorem c_Md_isMessage_57 : ct_Md_isMessage 57 = ka_al 0 1 := rfl
theorem d_Md_isMessage_57 : decode prog_12_method_53_code 57 = .ok (.aload_n 0, 1) := by decide +kernel
set_option maxRecDepth 100000 in
theorem c_Md_isMessage_58 : ct_Md_isMessage 58 = ka_al 0 1 := rfl
theorem d_Md_isMessage_58 : decode prog_12_method_53_code 58 = .ok (.aload_n 0, 1) := by decide +kernel
set_option maxRecDepth 100000 in
theorem c_Md_isMessage_59 : ct_Md_isMessage 59 = ka_get 10 15 := rfl
theorem d_Md_isMessage_59 : decode prog_12_method_53_code 59 = .ok (.getfield 109, 3) := by decide +kernel
set_option maxRecDepth 100000 in
theorem c_Md_isMessage_62 : ct_Md_isMessage 62 = ka_al 0 1 := rfl
theorem d_Md_isMessage_62 : decode prog_12_method_53_code 62 = .ok (.aload_n 0, 1) := by decide +kernel
set_option maxRecDepth 100000 in
theorem c_Md_isMessage_63 : ct_Md_isMessage 63 = ka_get 10 3 := rfl
theorem d_Md_isMessage_63 : decode prog_12_method_53_code 63 = .ok (.getfield 98, 3) := by decide +kernel
set_option maxRecDepth 100000 in
theorem c_Md_isMessage_66 : ct_Md_isMessage 66 = ka_cv 99 2 10 0 0 := rfl
theorem d_Md_isMessage_66 : decode prog_12_method_53_code 66 = .ok (.invokevirtual 112, 3) := by decide +kernel
set_option maxRecDepth 100000 in
theorem c_Md_isMessage_69 : ct_Md_isMessage 69 = ka_if (fun x => x = 0) 83 := rfl
theorem d_Md_isMessage_69 : decode prog_12_method_53_code 69 = .ok (.ifCond .eq 14, 3) := by decide +kernel
set_option maxRecDepth 100000 in
theorem c_Md_isMessage_72 : ct_Md_isMessage 72 = ka_al 0 1 := rfl
theorem d_Md_isMessage_72 : decode prog_12_method_53_code 72 = .ok (.aload_n 0, 1) := by decide +kernel
set_option maxRecDepth 100000 in
theorem c_Md_isMessage_73 : ct_Md_isMessage 73 = ka_get 10 15 := rfl
theorem d_Md_isMessage_73 : decode prog_12_method_53_code 73 = .ok (.getfield 109, 3) := by decide +kernel
set_option maxRecDepth 100000 in
theorem c_Md_isMessage_76 : ct_Md_isMessage 76 = ka_al 0 1 := rfl
theorem d_Md_isMessage_76 : decode prog_12_method_53_code 76 = .ok (.aload_n 0, 1) := by decide +kernel
set_option maxRecDepth 100000 in
theorem c_Md_isMessage_77 : ct_Md_isMessage 77 = ka_get 10 3 := rfl
theorem d_Md_isMessage_77 : decode prog_12_method_53_code 77 = .ok (.getfield 98, 3) := by decide +kernel
set_option maxRecDepth 100000 in
theorem c_Md_isMessage_80 : ct_Md_isMessage 80 = ka_cm (fun x y => x = y) 85 := rfl
theorem d_Md_isMessage_80 : decode prog_12_method_53_code 80 = .ok (.if_icmp .eq 5, 3) := by decide +kernel
set_option maxRecDepth 100000 in
theorem c_Md_isMessage_83 : ct_Md_isMessage 83 = ka_ci (nI 0) 1 := rfl
theorem d_Md_isMessage_83 : decode prog_12_method_53_code 83 = .ok (.iconst 0, 1) := by decide +kernel
set_option maxRecDepth 100000 in
theorem c_Md_isMessage_84 : ct_Md_isMessage 84 = ka_rz := rfl
theorem d_Md_isMessage_84 : decode prog_12_method_53_code 84 = .ok (.ireturn, 1) := by decide +kernel
set_option maxRecDepth 100000 in
theorem c_Md_isMessage_85 : ct_Md_isMessage 85 = ka_al 0 1 := rfl
theorem d_Md_isMessage_85 : decode prog_12_method_53_code 85 = .ok (.aload_n 0, 1) := by decide +kernel
set_option maxRecDepth 100000 in
theorem c_Md_isMessage_86 : ct_Md_isMessage 86 = ka_al 0 1 := rfl
theorem d_Md_isMessage_86 : decode prog_12_method_53_code 86 = .ok (.aload_n 0, 1) := by decide +kernel
set_option maxRecDepth 100000 in
theorem c_Md_isMessage_87 : ct_Md_isMessage 87 = ka_get 10 13 := rfl
theorem d_Md_isMessage_87 : decode prog_12_method_53_code 87 = .ok (.getfield 103, 3) := by decide +kernel
set_option maxRecDepth 100000 in
theorem c_Md_isMessage_90 : ct_Md_isMessage 90 = ka_put 10 17 .int := rfl
theorem d_Md_isMessage_90 : decode prog_12_method_53_code 90 = .ok (.putfield 223, 3) := by decide +kernel
set_option maxRecDepth 100000 in
theorem c_Md_isMessage_93 : ct_Md_isMessage 93 = ka_al 0 1 := rfl
theorem d_Md_isMessage_93 : decode prog_12_method_53_code 93 = .ok (.aload_n 0, 1) := by decide +kernel
set_option maxRecDepth 100000 in
theorem c_Md_isMessage_94 : ct_Md_isMessage 94 = ka_al 0 1 := rfl
theorem d_Md_isMessage_94 : decode prog_12_method_53_code 94 = .ok (.aload_n 0, 1) := by decide +kernel
set_option maxRecDepth 100000 in
theorem c_Md_isMessage_95 : ct_Md_isMessage 95 = ka_get 10 14 := rfl
theorem d_Md_isMessage_95 : decode prog_12_method_53_code 95 = .ok (.getfield 106, 3) := by decide +kernel
set_option maxRecDepth 100000 in
theorem c_Md_isMessage_98 : ct_Md_isMessage 98 = ka_put 10 18 .int := rfl
theorem d_Md_isMessage_98 : decode prog_12_method_53_code 98 = .ok (.putfield 140, 3) := by decide +kernel
set_option maxRecDepth 100000 in
theorem c_Md_isMessage_101 : ct_Md_isMessage 101 = ka_al 0 1 := rfl
theorem d_Md_isMessage_101 : decode prog_12_method_53_code 101 = .ok (.aload_n 0, 1) := by decide +kernel
set_option maxRecDepth 100000 in
theorem c_Md_isMessage_102 : ct_Md_isMessage 102 = ka_al 0 1 := rfl
theorem d_Md_isMessage_102 : decode prog_12_method_53_code 102 = .ok (.aload_n 0, 1) := by decide +kernel
set_option maxRecDepth 100000 in
theorem c_Md_isMessage_103 : ct_Md_isMessage 103 = ka_get 10 15 := rfl
theorem d_Md_isMessage_103 : decode prog_12_method_53_code 103 = .ok (.getfield 109, 3) := by decide +kernel
set_option maxRecDepth 100000 in
theorem c_Md_isMessage_106 : ct_Md_isMessage 106 = ka_put 10 19 .int := rfl
theorem d_Md_isMessage_106 : decode prog_12_method_53_code 106 = .ok (.putfield 143, 3) := by decide +kernel
set_option maxRecDepth 100000 in
theorem c_Md_isMessage_109 : ct_Md_isMessage 109 = ka_al 0 1 := rfl
theorem d_Md_isMessage_109 : decode prog_12_method_53_code 109 = .ok (.aload_n 0, 1) := by decide +kernel
set_option maxRecDepth 100000 in
theorem c_Md_isMessage_110 : ct_Md_isMessage 110 = ka_get 10 13 := rfl
theorem d_Md_isMessage_110 : decode prog_12_method_53_code 110 = .ok (.getfield 103, 3) := by decide +kernel
set_option maxRecDepth 100000 in
theorem c_Md_isMessage_113 : ct_Md_isMessage 113 = ka_ci (nI 96) 2 := rfl
theorem d_Md_isMessage_113 : decode prog_12_method_53_code 113 = .ok (.bipush 96, 2) := by decide +kernel
set_option maxRecDepth 100000 in
theorem c_Md_isMessage_115 : ct_Md_isMessage 115 = ka_cm (fun x y => x = y) 154 := rfl
theorem d_Md_isMessage_115 : decode prog_12_method_53_code 115 = .ok (.if_icmp .eq 39, 3) := by decide +kernel
set_option maxRecDepth 100000 in
theorem c_Md_isMessage_118 : ct_Md_isMessage 118 = ka_al 0 1 := rfl
theorem d_Md_isMessage_118 : decode prog_12_method_53_code 118 = .ok (.aload_n 0, 1) := by decide +kernel
set_option maxRecDepth 100000 in
theorem c_Md_isMessage_119 : ct_Md_isMessage 119 = ka_get 10 13 := rfl
theorem d_Md_isMessage_119 : decode prog_12_method_53_code 119 = .ok (.getfield 103, 3) := by decide +kernel
set_option maxRecDepth 100000 in
theorem c_Md_isMessage_122 : ct_Md_isMessage 122 = ka_ci (nI 99) 2 := rfl
theorem d_Md_isMessage_122 : decode prog_12_method_53_code 122 = .ok (.bipush 99, 2) := by decide +kernel
set_option maxRecDepth 100000 in
theorem c_Md_isMessage_124 : ct_Md_isMessage 124 = ka_cm (fun x y => x = y) 154 := rfl
theorem d_Md_isMessage_124 : decode prog_12_method_53_code 124 = .ok (.if_icmp .eq 30, 3) := by decide +kernel
set_option maxRecDepth 100000 in
theorem c_Md_isMessage_127 : ct_Md_isMessage 127 = ka_al 0 1 := rfl
theorem d_Md_isMessage_127 : decode prog_12_method_53_code 127 = .ok (.aload_n 0, 1) := by decide +kernel
set_option maxRecDepth 100000 in
theorem c_Md_isMessage_128 : ct_Md_isMessage 128 = ka_get 10 13 := rfl
theorem d_Md_isMessage_128 : decode prog_12_method_53_code 128 = .ok (.getfield 103, 3) := by decide +kernel
set_option maxRecDepth 100000 in
theorem c_Md_isMessage_131 : ct_Md_isMessage 131 = ka_ci (nI 102) 2 := rfl
theorem d_Md_isMessage_131 : decode prog_12_method_53_code 131 = .ok (.bipush 102, 2) := by decide +kernel
set_option maxRecDepth 100000 in
theorem c_Md_isMessage_133 : ct_Md_isMessage 133 = ka_cm (fun x y => x = y) 154 := rfl
theorem d_Md_isMessage_133 : decode prog_12_method_53_code 133 = .ok (.if_icmp .eq 21, 3) := by decide +kernel
set_option maxRecDepth 100000 in
theorem c_Md_isMessage_136 : ct_Md_isMessage 136 = ka_al 0 1 := rfl
theorem d_Md_isMessage_136 : decode prog_12_method_53_code 136 = .ok (.aload_n 0, 1) := by decide +kernel
set_option maxRecDepth 100000 in
theorem c_Md_isMessage_137 : ct_Md_isMessage 137 = ka_get 10 13 := rfl
theorem d_Md_isMessage_137 : decode prog_12_method_53_code 137 = .ok (.getfield 103, 3) := by decide +kernel
set_option maxRecDepth 100000 in
theorem c_Md_isMessage_140 : ct_Md_isMessage 140 = ka_ci (nI 104) 2 := rfl
theorem d_Md_isMessage_140 : decode prog_12_method_53_code 140 = .ok (.bipush 104, 2) := by decide +kernel
set_option maxRecDepth 100000 in
theorem c_Md_isMessage_142 : ct_Md_isMessage 142 = ka_cm (fun x y => x = y) 154 := rfl
theorem d_Md_isMessage_142 : decode prog_12_method_53_code 142 = .ok (.if_icmp .eq 12, 3) := by decide +kernel
set_option maxRecDepth 100000 in
theorem c_Md_isMessage_145 : ct_Md_isMessage 145 = ka_al 0 1 := rfl
theorem d_Md_isMessage_145 : decode prog_12_method_53_code 145 = .ok (.aload_n 0, 1) := by decide +kernel
set_option maxRecDepth 100000 in
theorem c_Md_isMessage_146 : ct_Md_isMessage 146 = ka_get 10 13 := rfl
theorem d_Md_isMessage_146 : decode prog_12_method_53_code 146 = .ok (.getfield 103, 3) := by decide +kernel
set_option maxRecDepth 100000 in
theorem c_Md_isMessage_149 : ct_Md_isMessage 149 = ka_ci (nI 74) 2 := rfl
theorem d_Md_isMessage_149 : decode prog_12_method_53_code 149 = .ok (.bipush 74, 2) := by decide +kernel
set_option maxRecDepth 100000 in
theorem c_Md_isMessage_151 : ct_Md_isMessage 151 = ka_cm (fun x y => ¬ x = y) 158 := rfl
theorem d_Md_isMessage_151 : decode prog_12_method_53_code 151 = .ok (.if_icmp .ne 7, 3) := by decide +kernel
set_option maxRecDepth 100000 in
theorem c_Md_isMessage_154 : ct_Md_isMessage 154 = ka_ci (nI 1) 1 := rfl
theorem d_Md_isMessage_154 : decode prog_12_method_53_code 154 = .ok (.iconst 1, 1) := by decide +kernel
set_option maxRecDepth 100000 in
theorem c_Md_isMessage_155 : ct_Md_isMessage 155 = ka_goto 159 := rfl
theorem d_Md_isMessage_155 : decode prog_12_method_53_code 155 = .ok (.goto 4, 3) := by decide +kernel
set_option maxRecDepth 100000 in
theorem c_Md_isMessage_158 : ct_Md_isMessage 158 = ka_ci (nI 0) 1 := rfl
theorem d_Md_isMessage_158 : decode prog_12_method_53_code 158 = .ok (.iconst 0, 1) := by decide +kernel
set_option maxRecDepth 100000 in
theorem c_Md_isMessage_159 : ct_Md_isMessage 159 = ka_rz := rfl
theorem d_Md_isMessage_159 : decode prog_12_method_53_code 159 = .ok (.ireturn, 1) := by decide +kernel
set_option maxRecDepth 100000 in
set_option maxHeartbeats 4000000 in
theorem s_Md_isMessage_60 : ∀ pc, pc < 60 → kc_Sim kt kw_A kw_N kt_cl kt_En "DirectoryDeskModel" prog_12_method_53_code 1 (some .boolean) "isMessage" none pc (ct_Md_isMessage pc) := by
  let P : Nat → Prop := fun pc => kc_Sim kt kw_A kw_N kt_cl kt_En "DirectoryDeskModel" prog_12_method_53_code 1 (some .boolean) "isMessage" none pc (ct_Md_isMessage pc)
  exact kc_case (P := P) (kc_se c_Md_isMessage_59 (sm_get (ci := 10) (C := "DirectoryDeskModel") (F := kF_Md) rfl kin_Md (Nat.le_of_ble_eq_true rfl) d_Md_isMessage_59 (kw3 198 rfl rfl))) (
  kc_case (P := P) (kc_se c_Md_isMessage_58 (sm_aload_n d_Md_isMessage_58 rfl)) (
  kc_case (P := P) (kc_se c_Md_isMessage_57 (sm_aload_n d_Md_isMessage_57 rfl)) (
  kc_case (P := P) (kc_se rfl sm_no) (
  kc_case (P := P) (kc_se rfl sm_no) (
  kc_case (P := P) (kc_se c_Md_isMessage_54 (sm_put (ci := 10) (C := "DirectoryDeskModel") (F := kF_Md) rfl kin_Md kty_Md ktk_Md knm_Md (Nat.le_of_ble_eq_true rfl) (by decide +kernel) d_Md_isMessage_54 (kw3 199 rfl rfl) rfl)) (
  kc_case (P := P) (kc_se rfl sm_no) (
  kc_case (P := P) (kc_se rfl sm_no) (
  kc_case (P := P) (kc_se c_Md_isMessage_51 (sm_cv (j := 102) rfl rfl kw_o kw_g wc_Md_number (Nat.le_of_ble_eq_true rfl) hd_Md_number (ci := 10) (F := kF_Md) (N := 52) rfl (kw4 129 rfl rfl) wi_Md_number ws_Md_number wn_Md_number d_Md_isMessage_51)) (
  kc_case (P := P) (kc_se c_Md_isMessage_50 (sm_aload_n d_Md_isMessage_50 rfl)) (
  kc_case (P := P) (kc_se c_Md_isMessage_49 (sm_aload_n d_Md_isMessage_49 rfl)) (
  kc_case (P := P) (kc_se c_Md_isMessage_48 (sm_rz d_Md_isMessage_48 rfl)) (
  kc_case (P := P) (kc_se c_Md_isMessage_47 (sm_iconst d_Md_isMessage_47 (by decide))) (
  kc_case (P := P) (kc_se rfl sm_no) (
  kc_case (P := P) (kc_se rfl sm_no) (
  kc_case (P := P) (kc_se c_Md_isMessage_44 (sm_if_ge d_Md_isMessage_44 (by decide))) (
  kc_case (P := P) (kc_se rfl sm_no) (
  kc_case (P := P) (kc_se rfl sm_no) (
  kc_case (P := P) (kc_se c_Md_isMessage_41 (sm_cv (j := 102) rfl rfl kw_o kw_g wc_Md_number (Nat.le_of_ble_eq_true rfl) hd_Md_number (ci := 10) (F := kF_Md) (N := 52) rfl (kw4 129 rfl rfl) wi_Md_number ws_Md_number wn_Md_number d_Md_isMessage_41)) (
  kc_case (P := P) (kc_se c_Md_isMessage_40 (sm_aload_n d_Md_isMessage_40 rfl)) (
  kc_case (P := P) (kc_se rfl sm_no) (
  kc_case (P := P) (kc_se rfl sm_no) (
  kc_case (P := P) (kc_se c_Md_isMessage_37 (sm_if_eq d_Md_isMessage_37 (by decide))) (
  kc_case (P := P) (kc_se rfl sm_no) (
  kc_case (P := P) (kc_se rfl sm_no) (
  kc_case (P := P) (kc_se c_Md_isMessage_34 (sm_cv (j := 101) rfl rfl kw_o kw_g wc_Md_numbered (Nat.le_of_ble_eq_true rfl) hd_Md_numbered (ci := 10) (F := kF_Md) (N := 52) rfl (kw4 125 rfl rfl) wi_Md_numbered ws_Md_numbered wn_Md_numbered d_Md_isMessage_34)) (
  kc_case (P := P) (kc_se rfl sm_no) (
  kc_case (P := P) (kc_se rfl sm_no) (
  kc_case (P := P) (kc_se c_Md_isMessage_31 (sm_get (ci := 10) (C := "DirectoryDeskModel") (F := kF_Md) rfl kin_Md (Nat.le_of_ble_eq_true rfl) d_Md_isMessage_31 (kw3 186 rfl rfl))) (
  kc_case (P := P) (kc_se c_Md_isMessage_30 (sm_aload_n d_Md_isMessage_30 rfl)) (
  kc_case (P := P) (kc_se rfl sm_no) (
  kc_case (P := P) (kc_se rfl sm_no) (
  kc_case (P := P) (kc_se c_Md_isMessage_27 (sm_get (ci := 10) (C := "DirectoryDeskModel") (F := kF_Md) rfl kin_Md (Nat.le_of_ble_eq_true rfl) d_Md_isMessage_27 (kw3 197 rfl rfl))) (
  kc_case (P := P) (kc_se c_Md_isMessage_26 (sm_aload_n d_Md_isMessage_26 rfl)) (
  kc_case (P := P) (kc_se c_Md_isMessage_25 (sm_aload_n d_Md_isMessage_25 rfl)) (
  kc_case (P := P) (kc_se rfl sm_no) (
  kc_case (P := P) (kc_se rfl sm_no) (
  kc_case (P := P) (kc_se c_Md_isMessage_22 (sm_cm_ne d_Md_isMessage_22 (by decide))) (
  kc_case (P := P) (kc_se rfl sm_no) (
  kc_case (P := P) (kc_se rfl sm_no) (
  kc_case (P := P) (kc_se c_Md_isMessage_19 (sm_get (ci := 10) (C := "DirectoryDeskModel") (F := kF_Md) rfl kin_Md (Nat.le_of_ble_eq_true rfl) d_Md_isMessage_19 (kw3 186 rfl rfl))) (
  kc_case (P := P) (kc_se c_Md_isMessage_18 (sm_aload_n d_Md_isMessage_18 rfl)) (
  kc_case (P := P) (kc_se rfl sm_no) (
  kc_case (P := P) (kc_se rfl sm_no) (
  kc_case (P := P) (kc_se c_Md_isMessage_15 (sm_get (ci := 10) (C := "DirectoryDeskModel") (F := kF_Md) rfl kin_Md (Nat.le_of_ble_eq_true rfl) d_Md_isMessage_15 (kw3 198 rfl rfl))) (
  kc_case (P := P) (kc_se c_Md_isMessage_14 (sm_aload_n d_Md_isMessage_14 rfl)) (
  kc_case (P := P) (kc_se rfl sm_no) (
  kc_case (P := P) (kc_se rfl sm_no) (
  kc_case (P := P) (kc_se c_Md_isMessage_11 (sm_if_eq d_Md_isMessage_11 (by decide))) (
  kc_case (P := P) (kc_se rfl sm_no) (
  kc_case (P := P) (kc_se rfl sm_no) (
  kc_case (P := P) (kc_se c_Md_isMessage_8 (sm_cv (j := 100) rfl rfl kw_o kw_g wc_Md_tagged (Nat.le_of_ble_eq_true rfl) hd_Md_tagged (ci := 10) (F := kF_Md) (N := 52) rfl (kw4 117 rfl rfl) wi_Md_tagged ws_Md_tagged wn_Md_tagged d_Md_isMessage_8)) (
  kc_case (P := P) (kc_se rfl sm_no) (
  kc_case (P := P) (kc_se c_Md_isMessage_6 (sm_bipush d_Md_isMessage_6 (by decide))) (
  kc_case (P := P) (kc_se rfl sm_no) (
  kc_case (P := P) (kc_se rfl sm_no) (
  kc_case (P := P) (kc_se c_Md_isMessage_3 (sm_get (ci := 10) (C := "DirectoryDeskModel") (F := kF_Md) rfl kin_Md (Nat.le_of_ble_eq_true rfl) d_Md_isMessage_3 (kw3 186 rfl rfl))) (
  kc_case (P := P) (kc_se c_Md_isMessage_2 (sm_aload_n d_Md_isMessage_2 rfl)) (
  kc_case (P := P) (kc_se c_Md_isMessage_1 (sm_iconst d_Md_isMessage_1 (by decide))) (
  kc_case (P := P) (kc_se c_Md_isMessage_0 (sm_aload_n d_Md_isMessage_0 rfl)) (
  kc_case0))))))))))))))))))))))))))))))))))))))))))))))))))))))))))))
set_option maxRecDepth 100000 in
set_option maxHeartbeats 4000000 in
theorem s_Md_isMessage_120 : ∀ pc, pc < 120 → kc_Sim kt kw_A kw_N kt_cl kt_En "DirectoryDeskModel" prog_12_method_53_code 1 (some .boolean) "isMessage" none pc (ct_Md_isMessage pc) := by
  let P : Nat → Prop := fun pc => kc_Sim kt kw_A kw_N kt_cl kt_En "DirectoryDeskModel" prog_12_method_53_code 1 (some .boolean) "isMessage" none pc (ct_Md_isMessage pc)
  exact kc_case (P := P) (kc_se c_Md_isMessage_119 (sm_get (ci := 10) (C := "DirectoryDeskModel") (F := kF_Md) rfl kin_Md (Nat.le_of_ble_eq_true rfl) d_Md_isMessage_119 (kw3 196 rfl rfl))) (
  kc_case (P := P) (kc_se c_Md_isMessage_118 (sm_aload_n d_Md_isMessage_118 rfl)) (
  kc_case (P := P) (kc_se rfl sm_no) (
  kc_case (P := P) (kc_se rfl sm_no) (
  kc_case (P := P) (kc_se c_Md_isMessage_115 (sm_cm_eq d_Md_isMessage_115 (by decide))) (
  kc_case (P := P) (kc_se rfl sm_no) (
  kc_case (P := P) (kc_se c_Md_isMessage_113 (sm_bipush d_Md_isMessage_113 (by decide))) (
  kc_case (P := P) (kc_se rfl sm_no) (
  kc_case (P := P) (kc_se rfl sm_no) (
  kc_case (P := P) (kc_se c_Md_isMessage_110 (sm_get (ci := 10) (C := "DirectoryDeskModel") (F := kF_Md) rfl kin_Md (Nat.le_of_ble_eq_true rfl) d_Md_isMessage_110 (kw3 196 rfl rfl))) (
  kc_case (P := P) (kc_se c_Md_isMessage_109 (sm_aload_n d_Md_isMessage_109 rfl)) (
  kc_case (P := P) (kc_se rfl sm_no) (
  kc_case (P := P) (kc_se rfl sm_no) (
  kc_case (P := P) (kc_se c_Md_isMessage_106 (sm_put (ci := 10) (C := "DirectoryDeskModel") (F := kF_Md) rfl kin_Md kty_Md ktk_Md knm_Md (Nat.le_of_ble_eq_true rfl) (by decide +kernel) d_Md_isMessage_106 (kw3 202 rfl rfl) rfl)) (
  kc_case (P := P) (kc_se rfl sm_no) (
  kc_case (P := P) (kc_se rfl sm_no) (
  kc_case (P := P) (kc_se c_Md_isMessage_103 (sm_get (ci := 10) (C := "DirectoryDeskModel") (F := kF_Md) rfl kin_Md (Nat.le_of_ble_eq_true rfl) d_Md_isMessage_103 (kw3 198 rfl rfl))) (
  kc_case (P := P) (kc_se c_Md_isMessage_102 (sm_aload_n d_Md_isMessage_102 rfl)) (
  kc_case (P := P) (kc_se c_Md_isMessage_101 (sm_aload_n d_Md_isMessage_101 rfl)) (
  kc_case (P := P) (kc_se rfl sm_no) (
  kc_case (P := P) (kc_se rfl sm_no) (
  kc_case (P := P) (kc_se c_Md_isMessage_98 (sm_put (ci := 10) (C := "DirectoryDeskModel") (F := kF_Md) rfl kin_Md kty_Md ktk_Md knm_Md (Nat.le_of_ble_eq_true rfl) (by decide +kernel) d_Md_isMessage_98 (kw3 201 rfl rfl) rfl)) (
  kc_case (P := P) (kc_se rfl sm_no) (
  kc_case (P := P) (kc_se rfl sm_no) (
  kc_case (P := P) (kc_se c_Md_isMessage_95 (sm_get (ci := 10) (C := "DirectoryDeskModel") (F := kF_Md) rfl kin_Md (Nat.le_of_ble_eq_true rfl) d_Md_isMessage_95 (kw3 197 rfl rfl))) (
  kc_case (P := P) (kc_se c_Md_isMessage_94 (sm_aload_n d_Md_isMessage_94 rfl)) (
  kc_case (P := P) (kc_se c_Md_isMessage_93 (sm_aload_n d_Md_isMessage_93 rfl)) (
  kc_case (P := P) (kc_se rfl sm_no) (
  kc_case (P := P) (kc_se rfl sm_no) (
  kc_case (P := P) (kc_se c_Md_isMessage_90 (sm_put (ci := 10) (C := "DirectoryDeskModel") (F := kF_Md) rfl kin_Md kty_Md ktk_Md knm_Md (Nat.le_of_ble_eq_true rfl) (by decide +kernel) d_Md_isMessage_90 (kw3 200 rfl rfl) rfl)) (
  kc_case (P := P) (kc_se rfl sm_no) (
  kc_case (P := P) (kc_se rfl sm_no) (
  kc_case (P := P) (kc_se c_Md_isMessage_87 (sm_get (ci := 10) (C := "DirectoryDeskModel") (F := kF_Md) rfl kin_Md (Nat.le_of_ble_eq_true rfl) d_Md_isMessage_87 (kw3 196 rfl rfl))) (
  kc_case (P := P) (kc_se c_Md_isMessage_86 (sm_aload_n d_Md_isMessage_86 rfl)) (
  kc_case (P := P) (kc_se c_Md_isMessage_85 (sm_aload_n d_Md_isMessage_85 rfl)) (
  kc_case (P := P) (kc_se c_Md_isMessage_84 (sm_rz d_Md_isMessage_84 rfl)) (
  kc_case (P := P) (kc_se c_Md_isMessage_83 (sm_iconst d_Md_isMessage_83 (by decide))) (
  kc_case (P := P) (kc_se rfl sm_no) (
  kc_case (P := P) (kc_se rfl sm_no) (
  kc_case (P := P) (kc_se c_Md_isMessage_80 (sm_cm_eq d_Md_isMessage_80 (by decide))) (
  kc_case (P := P) (kc_se rfl sm_no) (
  kc_case (P := P) (kc_se rfl sm_no) (
  kc_case (P := P) (kc_se c_Md_isMessage_77 (sm_get (ci := 10) (C := "DirectoryDeskModel") (F := kF_Md) rfl kin_Md (Nat.le_of_ble_eq_true rfl) d_Md_isMessage_77 (kw3 186 rfl rfl))) (
  kc_case (P := P) (kc_se c_Md_isMessage_76 (sm_aload_n d_Md_isMessage_76 rfl)) (
  kc_case (P := P) (kc_se rfl sm_no) (
  kc_case (P := P) (kc_se rfl sm_no) (
  kc_case (P := P) (kc_se c_Md_isMessage_73 (sm_get (ci := 10) (C := "DirectoryDeskModel") (F := kF_Md) rfl kin_Md (Nat.le_of_ble_eq_true rfl) d_Md_isMessage_73 (kw3 198 rfl rfl))) (
  kc_case (P := P) (kc_se c_Md_isMessage_72 (sm_aload_n d_Md_isMessage_72 rfl)) (
  kc_case (P := P) (kc_se rfl sm_no) (
  kc_case (P := P) (kc_se rfl sm_no) (
  kc_case (P := P) (kc_se c_Md_isMessage_69 (sm_if_eq d_Md_isMessage_69 (by decide))) (
  kc_case (P := P) (kc_se rfl sm_no) (
  kc_case (P := P) (kc_se rfl sm_no) (
  kc_case (P := P) (kc_se c_Md_isMessage_66 (sm_cv (j := 99) rfl rfl kw_o kw_g wc_Md_element (Nat.le_of_ble_eq_true rfl) hd_Md_element (ci := 10) (F := kF_Md) (N := 52) rfl (kw4 121 rfl rfl) wi_Md_element ws_Md_element wn_Md_element d_Md_isMessage_66)) (
  kc_case (P := P) (kc_se rfl sm_no) (
  kc_case (P := P) (kc_se rfl sm_no) (
  kc_case (P := P) (kc_se c_Md_isMessage_63 (sm_get (ci := 10) (C := "DirectoryDeskModel") (F := kF_Md) rfl kin_Md (Nat.le_of_ble_eq_true rfl) d_Md_isMessage_63 (kw3 186 rfl rfl))) (
  kc_case (P := P) (kc_se c_Md_isMessage_62 (sm_aload_n d_Md_isMessage_62 rfl)) (
  kc_case (P := P) (kc_se rfl sm_no) (
  kc_case (P := P) (kc_se rfl sm_no) (
  s_Md_isMessage_60))))))))))))))))))))))))))))))))))))))))))))))))))))))))))))
set_option maxRecDepth 100000 in
set_option maxHeartbeats 4000000 in
theorem s_Md_isMessage_160 : ∀ pc, pc < 160 → kc_Sim kt kw_A kw_N kt_cl kt_En "DirectoryDeskModel" prog_12_method_53_code 1 (some .boolean) "isMessage" none pc (ct_Md_isMessage pc) := by
  let P : Nat → Prop := fun pc => kc_Sim kt kw_A kw_N kt_cl kt_En "DirectoryDeskModel" prog_12_method_53_code 1 (some .boolean) "isMessage" none pc (ct_Md_isMessage pc)
  exact kc_case (P := P) (kc_se c_Md_isMessage_159 (sm_rz d_Md_isMessage_159 rfl)) (
  kc_case (P := P) (kc_se c_Md_isMessage_158 (sm_iconst d_Md_isMessage_158 (by decide))) (
  kc_case (P := P) (kc_se rfl sm_no) (
  kc_case (P := P) (kc_se rfl sm_no) (
  kc_case (P := P) (kc_se c_Md_isMessage_155 (sm_goto d_Md_isMessage_155 (by decide))) (
  kc_case (P := P) (kc_se c_Md_isMessage_154 (sm_iconst d_Md_isMessage_154 (by decide))) (
  kc_case (P := P) (kc_se rfl sm_no) (
  kc_case (P := P) (kc_se rfl sm_no) (
  kc_case (P := P) (kc_se c_Md_isMessage_151 (sm_cm_ne d_Md_isMessage_151 (by decide))) (
  kc_case (P := P) (kc_se rfl sm_no) (
  kc_case (P := P) (kc_se c_Md_isMessage_149 (sm_bipush d_Md_isMessage_149 (by decide))) (
  kc_case (P := P) (kc_se rfl sm_no) (
  kc_case (P := P) (kc_se rfl sm_no) (
  kc_case (P := P) (kc_se c_Md_isMessage_146 (sm_get (ci := 10) (C := "DirectoryDeskModel") (F := kF_Md) rfl kin_Md (Nat.le_of_ble_eq_true rfl) d_Md_isMessage_146 (kw3 196 rfl rfl))) (
  kc_case (P := P) (kc_se c_Md_isMessage_145 (sm_aload_n d_Md_isMessage_145 rfl)) (
  kc_case (P := P) (kc_se rfl sm_no) (
  kc_case (P := P) (kc_se rfl sm_no) (
  kc_case (P := P) (kc_se c_Md_isMessage_142 (sm_cm_eq d_Md_isMessage_142 (by decide))) (
  kc_case (P := P) (kc_se rfl sm_no) (
  kc_case (P := P) (kc_se c_Md_isMessage_140 (sm_bipush d_Md_isMessage_140 (by decide))) (
  kc_case (P := P) (kc_se rfl sm_no) (
  kc_case (P := P) (kc_se rfl sm_no) (
  kc_case (P := P) (kc_se c_Md_isMessage_137 (sm_get (ci := 10) (C := "DirectoryDeskModel") (F := kF_Md) rfl kin_Md (Nat.le_of_ble_eq_true rfl) d_Md_isMessage_137 (kw3 196 rfl rfl))) (
  kc_case (P := P) (kc_se c_Md_isMessage_136 (sm_aload_n d_Md_isMessage_136 rfl)) (
  kc_case (P := P) (kc_se rfl sm_no) (
  kc_case (P := P) (kc_se rfl sm_no) (
  kc_case (P := P) (kc_se c_Md_isMessage_133 (sm_cm_eq d_Md_isMessage_133 (by decide))) (
  kc_case (P := P) (kc_se rfl sm_no) (
  kc_case (P := P) (kc_se c_Md_isMessage_131 (sm_bipush d_Md_isMessage_131 (by decide))) (
  kc_case (P := P) (kc_se rfl sm_no) (
  kc_case (P := P) (kc_se rfl sm_no) (
  kc_case (P := P) (kc_se c_Md_isMessage_128 (sm_get (ci := 10) (C := "DirectoryDeskModel") (F := kF_Md) rfl kin_Md (Nat.le_of_ble_eq_true rfl) d_Md_isMessage_128 (kw3 196 rfl rfl))) (
  kc_case (P := P) (kc_se c_Md_isMessage_127 (sm_aload_n d_Md_isMessage_127 rfl)) (
  kc_case (P := P) (kc_se rfl sm_no) (
  kc_case (P := P) (kc_se rfl sm_no) (
  kc_case (P := P) (kc_se c_Md_isMessage_124 (sm_cm_eq d_Md_isMessage_124 (by decide))) (
  kc_case (P := P) (kc_se rfl sm_no) (
  kc_case (P := P) (kc_se c_Md_isMessage_122 (sm_bipush d_Md_isMessage_122 (by decide))) (
  kc_case (P := P) (kc_se rfl sm_no) (
  kc_case (P := P) (kc_se rfl sm_no) (
  s_Md_isMessage_120))))))))))))))))))))))))))))))))))))))))
set_option maxRecDepth 100000 in
theorem ka_nth_no_Md_isMessage (pc : Nat) (h : 160 ≤ pc) : ct_Md_isMessage pc = ka_no := ka_nth_ge _ pc (Nat.le_trans (Nat.le_of_eq (by rfl)) h)
theorem s_Md_isMessage (pc : Nat) : kc_Sim kt kw_A kw_N kt_cl kt_En "DirectoryDeskModel" prog_12_method_53_code 1 (some .boolean) "isMessage" none pc (ct_Md_isMessage pc) := (Nat.lt_or_ge pc 160).elim (s_Md_isMessage_160 pc) (fun h => kc_se (ka_nth_no_Md_isMessage pc h) sm_no)
def cl_Md_perform_0 : List kc_A := [ka_al 0 1, ka_get 10 17, ka_no, ka_no, ka_ci (nI 96) 2, ka_no, ka_cm (fun x y => ¬ x = y) 14, ka_no, ka_no, ka_al 0 1, ka_cv 129 0 10 0 0, ka_no, ka_no, ka_ri, ka_al 0 1, ka_get 10 17, ka_no, ka_no, ka_ci (nI 99) 2, ka_no, ka_cm (fun x y => ¬ x = y) 28, ka_no, ka_no, ka_al 0 1, ka_cv 138 0 10 0 0, ka_no, ka_no, ka_ri, ka_al 0 1, ka_get 10 1, ka_no, ka_no, ka_if (fun x => ¬ x = 0) 38, ka_no, ka_no, ka_ci (nI 50) 2, ka_no, ka_ri, ka_al 0 1, ka_al 0 1, ka_get 10 23, ka_no, ka_no, ka_al 0 1, ka_get 10 24, ka_no, ka_no, ka_cv 107 2 10 0 0, ka_no, ka_no, ka_ci (nI 1) 1, ka_cm (fun x y => x = y) 57, ka_no, ka_no, ka_ci (nI 34) 2, ka_no, ka_ri, ka_al 0 1, ka_get 10 17, ka_no]
def cl_Md_perform_1 : List kc_A := [ka_no, ka_ci (nI 104) 2, ka_no, ka_cm (fun x y => ¬ x = y) 73, ka_no, ka_no, ka_al 0 1, ka_cv 130 0 10 0 0, ka_no, ka_no, ka_goto 93, ka_no, ka_no, ka_al 0 1, ka_get 10 17, ka_no, ka_no, ka_ci (nI 102) 2, ka_no, ka_cm (fun x y => ¬ x = y) 89, ka_no, ka_no, ka_al 0 1, ka_cv 132 0 10 0 0, ka_no, ka_no, ka_goto 93, ka_no, ka_no, ka_al 0 1, ka_cv 131 0 10 0 0, ka_no, ka_no, ka_ri]
def ct_Md_perform : Nat → kc_A := fun pc => ka_nth (cl_Md_perform_0 ++ (cl_Md_perform_1)) pc
set_option maxRecDepth 100000 in
theorem c_Md_perform_0 : ct_Md_perform 0 = ka_al 0 1 := rfl
theorem d_Md_perform_0 : decode prog_12_method_54_code 0 = .ok (.aload_n 0, 1) := by decide +kernel
set_option maxRecDepth 100000 in
theorem c_Md_perform_1 : ct_Md_perform 1 = ka_get 10 17 := rfl
theorem d_Md_perform_1 : decode prog_12_method_54_code 1 = .ok (.getfield 223, 3) := by decide +kernel
set_option maxRecDepth 100000 in
theorem c_Md_perform_4 : ct_Md_perform 4 = ka_ci (nI 96) 2 := rfl
theorem d_Md_perform_4 : decode prog_12_method_54_code 4 = .ok (.bipush 96, 2) := by decide +kernel
set_option maxRecDepth 100000 in
theorem c_Md_perform_6 : ct_Md_perform 6 = ka_cm (fun x y => ¬ x = y) 14 := rfl
theorem d_Md_perform_6 : decode prog_12_method_54_code 6 = .ok (.if_icmp .ne 8, 3) := by decide +kernel
set_option maxRecDepth 100000 in
theorem c_Md_perform_9 : ct_Md_perform 9 = ka_al 0 1 := rfl
theorem d_Md_perform_9 : decode prog_12_method_54_code 9 = .ok (.aload_n 0, 1) := by decide +kernel
set_option maxRecDepth 100000 in
theorem c_Md_perform_10 : ct_Md_perform 10 = ka_cv 129 0 10 0 0 := rfl
theorem d_Md_perform_10 : decode prog_12_method_54_code 10 = .ok (.invokevirtual 317, 3) := by decide +kernel
set_option maxRecDepth 100000 in
theorem c_Md_perform_13 : ct_Md_perform 13 = ka_ri := rfl
theorem d_Md_perform_13 : decode prog_12_method_54_code 13 = .ok (.ireturn, 1) := by decide +kernel
set_option maxRecDepth 100000 in
theorem c_Md_perform_14 : ct_Md_perform 14 = ka_al 0 1 := rfl
theorem d_Md_perform_14 : decode prog_12_method_54_code 14 = .ok (.aload_n 0, 1) := by decide +kernel
set_option maxRecDepth 100000 in
theorem c_Md_perform_15 : ct_Md_perform 15 = ka_get 10 17 := rfl
theorem d_Md_perform_15 : decode prog_12_method_54_code 15 = .ok (.getfield 223, 3) := by decide +kernel
set_option maxRecDepth 100000 in
theorem c_Md_perform_18 : ct_Md_perform 18 = ka_ci (nI 99) 2 := rfl
theorem d_Md_perform_18 : decode prog_12_method_54_code 18 = .ok (.bipush 99, 2) := by decide +kernel
set_option maxRecDepth 100000 in
theorem c_Md_perform_20 : ct_Md_perform 20 = ka_cm (fun x y => ¬ x = y) 28 := rfl
theorem d_Md_perform_20 : decode prog_12_method_54_code 20 = .ok (.if_icmp .ne 8, 3) := by decide +kernel
set_option maxRecDepth 100000 in
theorem c_Md_perform_23 : ct_Md_perform 23 = ka_al 0 1 := rfl
theorem d_Md_perform_23 : decode prog_12_method_54_code 23 = .ok (.aload_n 0, 1) := by decide +kernel
set_option maxRecDepth 100000 in
theorem c_Md_perform_24 : ct_Md_perform 24 = ka_cv 138 0 10 0 0 := rfl
theorem d_Md_perform_24 : decode prog_12_method_54_code 24 = .ok (.invokevirtual 320, 3) := by decide +kernel
set_option maxRecDepth 100000 in
theorem c_Md_perform_27 : ct_Md_perform 27 = ka_ri := rfl
theorem d_Md_perform_27 : decode prog_12_method_54_code 27 = .ok (.ireturn, 1) := by decide +kernel
set_option maxRecDepth 100000 in
theorem c_Md_perform_28 : ct_Md_perform 28 = ka_al 0 1 := rfl
theorem d_Md_perform_28 : decode prog_12_method_54_code 28 = .ok (.aload_n 0, 1) := by decide +kernel
set_option maxRecDepth 100000 in
theorem c_Md_perform_29 : ct_Md_perform 29 = ka_get 10 1 := rfl
theorem d_Md_perform_29 : decode prog_12_method_54_code 29 = .ok (.getfield 95, 3) := by decide +kernel
set_option maxRecDepth 100000 in
theorem c_Md_perform_32 : ct_Md_perform 32 = ka_if (fun x => ¬ x = 0) 38 := rfl
theorem d_Md_perform_32 : decode prog_12_method_54_code 32 = .ok (.ifCond .ne 6, 3) := by decide +kernel
set_option maxRecDepth 100000 in
theorem c_Md_perform_35 : ct_Md_perform 35 = ka_ci (nI 50) 2 := rfl
theorem d_Md_perform_35 : decode prog_12_method_54_code 35 = .ok (.bipush 50, 2) := by decide +kernel
set_option maxRecDepth 100000 in
theorem c_Md_perform_37 : ct_Md_perform 37 = ka_ri := rfl
theorem d_Md_perform_37 : decode prog_12_method_54_code 37 = .ok (.ireturn, 1) := by decide +kernel
set_option maxRecDepth 100000 in
theorem c_Md_perform_38 : ct_Md_perform 38 = ka_al 0 1 := rfl
theorem d_Md_perform_38 : decode prog_12_method_54_code 38 = .ok (.aload_n 0, 1) := by decide +kernel
set_option maxRecDepth 100000 in
theorem c_Md_perform_39 : ct_Md_perform 39 = ka_al 0 1 := rfl
theorem d_Md_perform_39 : decode prog_12_method_54_code 39 = .ok (.aload_n 0, 1) := by decide +kernel
set_option maxRecDepth 100000 in
theorem c_Md_perform_40 : ct_Md_perform 40 = ka_get 10 23 := rfl
theorem d_Md_perform_40 : decode prog_12_method_54_code 40 = .ok (.getfield 156, 3) := by decide +kernel
set_option maxRecDepth 100000 in
theorem c_Md_perform_43 : ct_Md_perform 43 = ka_al 0 1 := rfl
theorem d_Md_perform_43 : decode prog_12_method_54_code 43 = .ok (.aload_n 0, 1) := by decide +kernel
set_option maxRecDepth 100000 in
theorem c_Md_perform_44 : ct_Md_perform 44 = ka_get 10 24 := rfl
theorem d_Md_perform_44 : decode prog_12_method_54_code 44 = .ok (.getfield 159, 3) := by decide +kernel
set_option maxRecDepth 100000 in
theorem c_Md_perform_47 : ct_Md_perform 47 = ka_cv 107 2 10 0 0 := rfl
theorem d_Md_perform_47 : decode prog_12_method_54_code 47 = .ok (.invokevirtual 255, 3) := by decide +kernel
set_option maxRecDepth 100000 in
theorem c_Md_perform_50 : ct_Md_perform 50 = ka_ci (nI 1) 1 := rfl
theorem d_Md_perform_50 : decode prog_12_method_54_code 50 = .ok (.iconst 1, 1) := by decide +kernel
set_option maxRecDepth 100000 in
theorem c_Md_perform_51 : ct_Md_perform 51 = ka_cm (fun x y => x = y) 57 := rfl
theorem d_Md_perform_51 : decode prog_12_method_54_code 51 = .ok (.if_icmp .eq 6, 3) := by decide +kernel
set_option maxRecDepth 100000 in
theorem c_Md_perform_54 : ct_Md_perform 54 = ka_ci (nI 34) 2 := rfl
theorem d_Md_perform_54 : decode prog_12_method_54_code 54 = .ok (.bipush 34, 2) := by decide +kernel
set_option maxRecDepth 100000 in
theorem c_Md_perform_56 : ct_Md_perform 56 = ka_ri := rfl
theorem d_Md_perform_56 : decode prog_12_method_54_code 56 = .ok (.ireturn, 1) := by decide +kernel
set_option maxRecDepth 100000 in
theorem c_Md_perform_57 : ct_Md_perform 57 = ka_al 0 1 := rfl
theorem d_Md_perform_57 : decode prog_12_method_54_code 57 = .ok (.aload_n 0, 1) := by decide +kernel
set_option maxRecDepth 100000 in
theorem c_Md_perform_58 : ct_Md_perform 58 = ka_get 10 17 := rfl
theorem d_Md_perform_58 : decode prog_12_method_54_code 58 = .ok (.getfield 223, 3) := by decide +kernel
set_option maxRecDepth 100000 in
theorem c_Md_perform_61 : ct_Md_perform 61 = ka_ci (nI 104) 2 := rfl
theorem d_Md_perform_61 : decode prog_12_method_54_code 61 = .ok (.bipush 104, 2) := by decide +kernel
set_option maxRecDepth 100000 in
theorem c_Md_perform_63 : ct_Md_perform 63 = ka_cm (fun x y => ¬ x = y) 73 := rfl
theorem d_Md_perform_63 : decode prog_12_method_54_code 63 = .ok (.if_icmp .ne 10, 3) := by decide +kernel
set_option maxRecDepth 100000 in
theorem c_Md_perform_66 : ct_Md_perform 66 = ka_al 0 1 := rfl
theorem d_Md_perform_66 : decode prog_12_method_54_code 66 = .ok (.aload_n 0, 1) := by decide +kernel
set_option maxRecDepth 100000 in
theorem c_Md_perform_67 : ct_Md_perform 67 = ka_cv 130 0 10 0 0 := rfl
theorem d_Md_perform_67 : decode prog_12_method_54_code 67 = .ok (.invokevirtual 323, 3) := by decide +kernel
set_option maxRecDepth 100000 in
theorem c_Md_perform_70 : ct_Md_perform 70 = ka_goto 93 := rfl
theorem d_Md_perform_70 : decode prog_12_method_54_code 70 = .ok (.goto 23, 3) := by decide +kernel
set_option maxRecDepth 100000 in
theorem c_Md_perform_73 : ct_Md_perform 73 = ka_al 0 1 := rfl
theorem d_Md_perform_73 : decode prog_12_method_54_code 73 = .ok (.aload_n 0, 1) := by decide +kernel
set_option maxRecDepth 100000 in
theorem c_Md_perform_74 : ct_Md_perform 74 = ka_get 10 17 := rfl
theorem d_Md_perform_74 : decode prog_12_method_54_code 74 = .ok (.getfield 223, 3) := by decide +kernel
set_option maxRecDepth 100000 in
theorem c_Md_perform_77 : ct_Md_perform 77 = ka_ci (nI 102) 2 := rfl
theorem d_Md_perform_77 : decode prog_12_method_54_code 77 = .ok (.bipush 102, 2) := by decide +kernel
set_option maxRecDepth 100000 in
theorem c_Md_perform_79 : ct_Md_perform 79 = ka_cm (fun x y => ¬ x = y) 89 := rfl
theorem d_Md_perform_79 : decode prog_12_method_54_code 79 = .ok (.if_icmp .ne 10, 3) := by decide +kernel
set_option maxRecDepth 100000 in
theorem c_Md_perform_82 : ct_Md_perform 82 = ka_al 0 1 := rfl
theorem d_Md_perform_82 : decode prog_12_method_54_code 82 = .ok (.aload_n 0, 1) := by decide +kernel
set_option maxRecDepth 100000 in
theorem c_Md_perform_83 : ct_Md_perform 83 = ka_cv 132 0 10 0 0 := rfl
theorem d_Md_perform_83 : decode prog_12_method_54_code 83 = .ok (.invokevirtual 326, 3) := by decide +kernel
set_option maxRecDepth 100000 in
theorem c_Md_perform_86 : ct_Md_perform 86 = ka_goto 93 := rfl
theorem d_Md_perform_86 : decode prog_12_method_54_code 86 = .ok (.goto 7, 3) := by decide +kernel
set_option maxRecDepth 100000 in
theorem c_Md_perform_89 : ct_Md_perform 89 = ka_al 0 1 := rfl
theorem d_Md_perform_89 : decode prog_12_method_54_code 89 = .ok (.aload_n 0, 1) := by decide +kernel
set_option maxRecDepth 100000 in
theorem c_Md_perform_90 : ct_Md_perform 90 = ka_cv 131 0 10 0 0 := rfl
theorem d_Md_perform_90 : decode prog_12_method_54_code 90 = .ok (.invokevirtual 329, 3) := by decide +kernel
set_option maxRecDepth 100000 in
theorem c_Md_perform_93 : ct_Md_perform 93 = ka_ri := rfl
theorem d_Md_perform_93 : decode prog_12_method_54_code 93 = .ok (.ireturn, 1) := by decide +kernel
set_option maxRecDepth 100000 in
set_option maxHeartbeats 4000000 in
theorem s_Md_perform_60 : ∀ pc, pc < 60 → kc_Sim kt kw_A kw_N kt_cl kt_En "DirectoryDeskModel" prog_12_method_54_code 1 (some .int) "perform" none pc (ct_Md_perform pc) := by
  let P : Nat → Prop := fun pc => kc_Sim kt kw_A kw_N kt_cl kt_En "DirectoryDeskModel" prog_12_method_54_code 1 (some .int) "perform" none pc (ct_Md_perform pc)
  exact kc_case (P := P) (kc_se rfl sm_no) (
  kc_case (P := P) (kc_se c_Md_perform_58 (sm_get (ci := 10) (C := "DirectoryDeskModel") (F := kF_Md) rfl kin_Md (Nat.le_of_ble_eq_true rfl) d_Md_perform_58 (kw3 200 rfl rfl))) (
  kc_case (P := P) (kc_se c_Md_perform_57 (sm_aload_n d_Md_perform_57 rfl)) (
  kc_case (P := P) (kc_se c_Md_perform_56 (sm_ri d_Md_perform_56 rfl)) (
  kc_case (P := P) (kc_se rfl sm_no) (
  kc_case (P := P) (kc_se c_Md_perform_54 (sm_bipush d_Md_perform_54 (by decide))) (
  kc_case (P := P) (kc_se rfl sm_no) (
  kc_case (P := P) (kc_se rfl sm_no) (
  kc_case (P := P) (kc_se c_Md_perform_51 (sm_cm_eq d_Md_perform_51 (by decide))) (
  kc_case (P := P) (kc_se c_Md_perform_50 (sm_iconst d_Md_perform_50 (by decide))) (
  kc_case (P := P) (kc_se rfl sm_no) (
  kc_case (P := P) (kc_se rfl sm_no) (
  kc_case (P := P) (kc_se c_Md_perform_47 (sm_cv (j := 107) rfl rfl kw_o kw_g wc_Md_takeName (Nat.le_of_ble_eq_true rfl) hd_Md_takeName (ci := 10) (F := kF_Md) (N := 52) rfl (kw4 204 rfl rfl) wi_Md_takeName ws_Md_takeName wn_Md_takeName d_Md_perform_47)) (
  kc_case (P := P) (kc_se rfl sm_no) (
  kc_case (P := P) (kc_se rfl sm_no) (
  kc_case (P := P) (kc_se c_Md_perform_44 (sm_get (ci := 10) (C := "DirectoryDeskModel") (F := kF_Md) rfl kin_Md (Nat.le_of_ble_eq_true rfl) d_Md_perform_44 (kw3 207 rfl rfl))) (
  kc_case (P := P) (kc_se c_Md_perform_43 (sm_aload_n d_Md_perform_43 rfl)) (
  kc_case (P := P) (kc_se rfl sm_no) (
  kc_case (P := P) (kc_se rfl sm_no) (
  kc_case (P := P) (kc_se c_Md_perform_40 (sm_get (ci := 10) (C := "DirectoryDeskModel") (F := kF_Md) rfl kin_Md (Nat.le_of_ble_eq_true rfl) d_Md_perform_40 (kw3 206 rfl rfl))) (
  kc_case (P := P) (kc_se c_Md_perform_39 (sm_aload_n d_Md_perform_39 rfl)) (
  kc_case (P := P) (kc_se c_Md_perform_38 (sm_aload_n d_Md_perform_38 rfl)) (
  kc_case (P := P) (kc_se c_Md_perform_37 (sm_ri d_Md_perform_37 rfl)) (
  kc_case (P := P) (kc_se rfl sm_no) (
  kc_case (P := P) (kc_se c_Md_perform_35 (sm_bipush d_Md_perform_35 (by decide))) (
  kc_case (P := P) (kc_se rfl sm_no) (
  kc_case (P := P) (kc_se rfl sm_no) (
  kc_case (P := P) (kc_se c_Md_perform_32 (sm_if_ne d_Md_perform_32 (by decide))) (
  kc_case (P := P) (kc_se rfl sm_no) (
  kc_case (P := P) (kc_se rfl sm_no) (
  kc_case (P := P) (kc_se c_Md_perform_29 (sm_get (ci := 10) (C := "DirectoryDeskModel") (F := kF_Md) rfl kin_Md (Nat.le_of_ble_eq_true rfl) d_Md_perform_29 (kw3 184 rfl rfl))) (
  kc_case (P := P) (kc_se c_Md_perform_28 (sm_aload_n d_Md_perform_28 rfl)) (
  kc_case (P := P) (kc_se c_Md_perform_27 (sm_ri d_Md_perform_27 rfl)) (
  kc_case (P := P) (kc_se rfl sm_no) (
  kc_case (P := P) (kc_se rfl sm_no) (
  kc_case (P := P) (kc_se c_Md_perform_24 (sm_cv (j := 138) rfl rfl kw_o kw_g wc_Md_search (Nat.le_of_ble_eq_true rfl) hd_Md_search (ci := 10) (F := kF_Md) (N := 52) rfl (kw4 216 rfl rfl) wi_Md_search ws_Md_search wn_Md_search d_Md_perform_24)) (
  kc_case (P := P) (kc_se c_Md_perform_23 (sm_aload_n d_Md_perform_23 rfl)) (
  kc_case (P := P) (kc_se rfl sm_no) (
  kc_case (P := P) (kc_se rfl sm_no) (
  kc_case (P := P) (kc_se c_Md_perform_20 (sm_cm_ne d_Md_perform_20 (by decide))) (
  kc_case (P := P) (kc_se rfl sm_no) (
  kc_case (P := P) (kc_se c_Md_perform_18 (sm_bipush d_Md_perform_18 (by decide))) (
  kc_case (P := P) (kc_se rfl sm_no) (
  kc_case (P := P) (kc_se rfl sm_no) (
  kc_case (P := P) (kc_se c_Md_perform_15 (sm_get (ci := 10) (C := "DirectoryDeskModel") (F := kF_Md) rfl kin_Md (Nat.le_of_ble_eq_true rfl) d_Md_perform_15 (kw3 200 rfl rfl))) (
  kc_case (P := P) (kc_se c_Md_perform_14 (sm_aload_n d_Md_perform_14 rfl)) (
  kc_case (P := P) (kc_se c_Md_perform_13 (sm_ri d_Md_perform_13 rfl)) (
  kc_case (P := P) (kc_se rfl sm_no) (
  kc_case (P := P) (kc_se rfl sm_no) (
  kc_case (P := P) (kc_se c_Md_perform_10 (sm_cv (j := 129) rfl rfl kw_o kw_g wc_Md_sign (Nat.le_of_ble_eq_true rfl) hd_Md_sign (ci := 10) (F := kF_Md) (N := 52) rfl (kw4 200 rfl rfl) wi_Md_sign ws_Md_sign wn_Md_sign d_Md_perform_10)) (
  kc_case (P := P) (kc_se c_Md_perform_9 (sm_aload_n d_Md_perform_9 rfl)) (
  kc_case (P := P) (kc_se rfl sm_no) (
  kc_case (P := P) (kc_se rfl sm_no) (
  kc_case (P := P) (kc_se c_Md_perform_6 (sm_cm_ne d_Md_perform_6 (by decide))) (
  kc_case (P := P) (kc_se rfl sm_no) (
  kc_case (P := P) (kc_se c_Md_perform_4 (sm_bipush d_Md_perform_4 (by decide))) (
  kc_case (P := P) (kc_se rfl sm_no) (
  kc_case (P := P) (kc_se rfl sm_no) (
  kc_case (P := P) (kc_se c_Md_perform_1 (sm_get (ci := 10) (C := "DirectoryDeskModel") (F := kF_Md) rfl kin_Md (Nat.le_of_ble_eq_true rfl) d_Md_perform_1 (kw3 200 rfl rfl))) (
  kc_case (P := P) (kc_se c_Md_perform_0 (sm_aload_n d_Md_perform_0 rfl)) (
  kc_case0))))))))))))))))))))))))))))))))))))))))))))))))))))))))))))
set_option maxRecDepth 100000 in
set_option maxHeartbeats 4000000 in
theorem s_Md_perform_94 : ∀ pc, pc < 94 → kc_Sim kt kw_A kw_N kt_cl kt_En "DirectoryDeskModel" prog_12_method_54_code 1 (some .int) "perform" none pc (ct_Md_perform pc) := by
  let P : Nat → Prop := fun pc => kc_Sim kt kw_A kw_N kt_cl kt_En "DirectoryDeskModel" prog_12_method_54_code 1 (some .int) "perform" none pc (ct_Md_perform pc)
  exact kc_case (P := P) (kc_se c_Md_perform_93 (sm_ri d_Md_perform_93 rfl)) (
  kc_case (P := P) (kc_se rfl sm_no) (
  kc_case (P := P) (kc_se rfl sm_no) (
  kc_case (P := P) (kc_se c_Md_perform_90 (sm_cv (j := 131) rfl rfl kw_o kw_g wc_Md_remove (Nat.le_of_ble_eq_true rfl) hd_Md_remove (ci := 10) (F := kF_Md) (N := 52) rfl (kw5 68 rfl rfl) wi_Md_remove ws_Md_remove wn_Md_remove d_Md_perform_90)) (
  kc_case (P := P) (kc_se c_Md_perform_89 (sm_aload_n d_Md_perform_89 rfl)) (
  kc_case (P := P) (kc_se rfl sm_no) (
  kc_case (P := P) (kc_se rfl sm_no) (
  kc_case (P := P) (kc_se c_Md_perform_86 (sm_goto d_Md_perform_86 (by decide))) (
  kc_case (P := P) (kc_se rfl sm_no) (
  kc_case (P := P) (kc_se rfl sm_no) (
  kc_case (P := P) (kc_se c_Md_perform_83 (sm_cv (j := 132) rfl rfl kw_o kw_g wc_Md_modify (Nat.le_of_ble_eq_true rfl) hd_Md_modify (ci := 10) (F := kF_Md) (N := 52) rfl (kw5 64 rfl rfl) wi_Md_modify ws_Md_modify wn_Md_modify d_Md_perform_83)) (
  kc_case (P := P) (kc_se c_Md_perform_82 (sm_aload_n d_Md_perform_82 rfl)) (
  kc_case (P := P) (kc_se rfl sm_no) (
  kc_case (P := P) (kc_se rfl sm_no) (
  kc_case (P := P) (kc_se c_Md_perform_79 (sm_cm_ne d_Md_perform_79 (by decide))) (
  kc_case (P := P) (kc_se rfl sm_no) (
  kc_case (P := P) (kc_se c_Md_perform_77 (sm_bipush d_Md_perform_77 (by decide))) (
  kc_case (P := P) (kc_se rfl sm_no) (
  kc_case (P := P) (kc_se rfl sm_no) (
  kc_case (P := P) (kc_se c_Md_perform_74 (sm_get (ci := 10) (C := "DirectoryDeskModel") (F := kF_Md) rfl kin_Md (Nat.le_of_ble_eq_true rfl) d_Md_perform_74 (kw3 200 rfl rfl))) (
  kc_case (P := P) (kc_se c_Md_perform_73 (sm_aload_n d_Md_perform_73 rfl)) (
  kc_case (P := P) (kc_se rfl sm_no) (
  kc_case (P := P) (kc_se rfl sm_no) (
  kc_case (P := P) (kc_se c_Md_perform_70 (sm_goto d_Md_perform_70 (by decide))) (
  kc_case (P := P) (kc_se rfl sm_no) (
  kc_case (P := P) (kc_se rfl sm_no) (
  kc_case (P := P) (kc_se c_Md_perform_67 (sm_cv (j := 130) rfl rfl kw_o kw_g wc_Md_add (Nat.le_of_ble_eq_true rfl) hd_Md_add (ci := 10) (F := kF_Md) (N := 52) rfl (kw5 36 rfl rfl) wi_Md_add ws_Md_add wn_Md_add d_Md_perform_67)) (
  kc_case (P := P) (kc_se c_Md_perform_66 (sm_aload_n d_Md_perform_66 rfl)) (
  kc_case (P := P) (kc_se rfl sm_no) (
  kc_case (P := P) (kc_se rfl sm_no) (
  kc_case (P := P) (kc_se c_Md_perform_63 (sm_cm_ne d_Md_perform_63 (by decide))) (
  kc_case (P := P) (kc_se rfl sm_no) (
  kc_case (P := P) (kc_se c_Md_perform_61 (sm_bipush d_Md_perform_61 (by decide))) (
  kc_case (P := P) (kc_se rfl sm_no) (
  s_Md_perform_60))))))))))))))))))))))))))))))))))
set_option maxRecDepth 100000 in
theorem ka_nth_no_Md_perform (pc : Nat) (h : 94 ≤ pc) : ct_Md_perform pc = ka_no := ka_nth_ge _ pc (Nat.le_trans (Nat.le_of_eq (by rfl)) h)
theorem s_Md_perform (pc : Nat) : kc_Sim kt kw_A kw_N kt_cl kt_En "DirectoryDeskModel" prog_12_method_54_code 1 (some .int) "perform" none pc (ct_Md_perform pc) := (Nat.lt_or_ge pc 94).elim (s_Md_perform_94 pc) (fun h => kc_se (ka_nth_no_Md_perform pc h) sm_no)
def cl_Md_handle_0 : List kc_A := [ka_al 0 1, ka_get 10 0, ka_no, ka_no, ka_if (fun x => x = 0) 9, ka_no, ka_no, ka_ci (-1) 1, ka_ri, ka_al 0 1, ka_ci (nI 0) 1, ka_put 10 5 .int, ka_no, ka_no, ka_al 0 1, ka_cv 148 0 10 0 0, ka_no, ka_no, ka_if (fun x => ¬ x = 0) 38, ka_no, ka_no, ka_al 0 1, ka_ci (nI 1) 1, ka_put 10 0 .boolean, ka_no, ka_no, ka_al 0 1, ka_ci (nI 0) 1, ka_put 10 1 .boolean, ka_no, ka_no, ka_al 0 1, ka_ci (nI 0) 1, ka_put 10 3 .int, ka_no, ka_no, ka_ci (-1) 1, ka_ri, ka_al 0 1, ka_cv 122 0 10 0 0, ka_no, ka_no, ka_if (fun x => x = 0) 52, ka_no, ka_no, ka_al 0 1, ka_cv 149 0 10 0 0, ka_no, ka_no, ka_goto 53, ka_no, ka_no, ka_ci (nI 2) 1, ka_is 1 1, ka_al 0 1, ka_il 1 1, ka_cv 147 1 10 0 0, ka_no, ka_no, ka_al 0 1]
def cl_Md_handle_1 : List kc_A := [ka_ci (nI 0) 1, ka_put 10 3 .int, ka_no, ka_no, ka_il 1 1, ka_ri]
def ct_Md_handle : Nat → kc_A := fun pc => ka_nth (cl_Md_handle_0 ++ (cl_Md_handle_1)) pc
set_option maxRecDepth 100000 in
theorem c_Md_handle_0 : ct_Md_handle 0 = ka_al 0 1 := rfl
theorem d_Md_handle_0 : decode prog_12_method_55_code 0 = .ok (.aload_n 0, 1) := by decide +kernel
set_option maxRecDepth 100000 in
theorem c_Md_handle_1 : ct_Md_handle 1 = ka_get 10 0 := rfl
theorem d_Md_handle_1 : decode prog_12_method_55_code 1 = .ok (.getfield 91, 3) := by decide +kernel
set_option maxRecDepth 100000 in
theorem c_Md_handle_4 : ct_Md_handle 4 = ka_if (fun x => x = 0) 9 := rfl
theorem d_Md_handle_4 : decode prog_12_method_55_code 4 = .ok (.ifCond .eq 5, 3) := by decide +kernel
set_option maxRecDepth 100000 in
theorem c_Md_handle_7 : ct_Md_handle 7 = ka_ci (-1) 1 := rfl
theorem d_Md_handle_7 : decode prog_12_method_55_code 7 = .ok (.iconst (-1), 1) := by decide +kernel
set_option maxRecDepth 100000 in
theorem c_Md_handle_8 : ct_Md_handle 8 = ka_ri := rfl
theorem d_Md_handle_8 : decode prog_12_method_55_code 8 = .ok (.ireturn, 1) := by decide +kernel
set_option maxRecDepth 100000 in
theorem c_Md_handle_9 : ct_Md_handle 9 = ka_al 0 1 := rfl
theorem d_Md_handle_9 : decode prog_12_method_55_code 9 = .ok (.aload_n 0, 1) := by decide +kernel
set_option maxRecDepth 100000 in
theorem c_Md_handle_10 : ct_Md_handle 10 = ka_ci (nI 0) 1 := rfl
theorem d_Md_handle_10 : decode prog_12_method_55_code 10 = .ok (.iconst 0, 1) := by decide +kernel
set_option maxRecDepth 100000 in
theorem c_Md_handle_11 : ct_Md_handle 11 = ka_put 10 5 .int := rfl
theorem d_Md_handle_11 : decode prog_12_method_55_code 11 = .ok (.putfield 288, 3) := by decide +kernel
set_option maxRecDepth 100000 in
theorem c_Md_handle_14 : ct_Md_handle 14 = ka_al 0 1 := rfl
theorem d_Md_handle_14 : decode prog_12_method_55_code 14 = .ok (.aload_n 0, 1) := by decide +kernel
set_option maxRecDepth 100000 in
theorem c_Md_handle_15 : ct_Md_handle 15 = ka_cv 148 0 10 0 0 := rfl
theorem d_Md_handle_15 : decode prog_12_method_55_code 15 = .ok (.invokevirtual 332, 3) := by decide +kernel
set_option maxRecDepth 100000 in
theorem c_Md_handle_18 : ct_Md_handle 18 = ka_if (fun x => ¬ x = 0) 38 := rfl
theorem d_Md_handle_18 : decode prog_12_method_55_code 18 = .ok (.ifCond .ne 20, 3) := by decide +kernel
set_option maxRecDepth 100000 in
theorem c_Md_handle_21 : ct_Md_handle 21 = ka_al 0 1 := rfl
theorem d_Md_handle_21 : decode prog_12_method_55_code 21 = .ok (.aload_n 0, 1) := by decide +kernel
set_option maxRecDepth 100000 in
theorem c_Md_handle_22 : ct_Md_handle 22 = ka_ci (nI 1) 1 := rfl
theorem d_Md_handle_22 : decode prog_12_method_55_code 22 = .ok (.iconst 1, 1) := by decide +kernel
set_option maxRecDepth 100000 in
theorem c_Md_handle_23 : ct_Md_handle 23 = ka_put 10 0 .boolean := rfl
theorem d_Md_handle_23 : decode prog_12_method_55_code 23 = .ok (.putfield 91, 3) := by decide +kernel
set_option maxRecDepth 100000 in
theorem c_Md_handle_26 : ct_Md_handle 26 = ka_al 0 1 := rfl
theorem d_Md_handle_26 : decode prog_12_method_55_code 26 = .ok (.aload_n 0, 1) := by decide +kernel
set_option maxRecDepth 100000 in
theorem c_Md_handle_27 : ct_Md_handle 27 = ka_ci (nI 0) 1 := rfl
theorem d_Md_handle_27 : decode prog_12_method_55_code 27 = .ok (.iconst 0, 1) := by decide +kernel
set_option maxRecDepth 100000 in
theorem c_Md_handle_28 : ct_Md_handle 28 = ka_put 10 1 .boolean := rfl
theorem d_Md_handle_28 : decode prog_12_method_55_code 28 = .ok (.putfield 95, 3) := by decide +kernel
set_option maxRecDepth 100000 in
theorem c_Md_handle_31 : ct_Md_handle 31 = ka_al 0 1 := rfl
theorem d_Md_handle_31 : decode prog_12_method_55_code 31 = .ok (.aload_n 0, 1) := by decide +kernel
set_option maxRecDepth 100000 in
theorem c_Md_handle_32 : ct_Md_handle 32 = ka_ci (nI 0) 1 := rfl
theorem d_Md_handle_32 : decode prog_12_method_55_code 32 = .ok (.iconst 0, 1) := by decide +kernel
set_option maxRecDepth 100000 in
theorem c_Md_handle_33 : ct_Md_handle 33 = ka_put 10 3 .int := rfl
theorem d_Md_handle_33 : decode prog_12_method_55_code 33 = .ok (.putfield 98, 3) := by decide +kernel
set_option maxRecDepth 100000 in
theorem c_Md_handle_36 : ct_Md_handle 36 = ka_ci (-1) 1 := rfl
theorem d_Md_handle_36 : decode prog_12_method_55_code 36 = .ok (.iconst (-1), 1) := by decide +kernel
set_option maxRecDepth 100000 in
theorem c_Md_handle_37 : ct_Md_handle 37 = ka_ri := rfl
theorem d_Md_handle_37 : decode prog_12_method_55_code 37 = .ok (.ireturn, 1) := by decide +kernel
set_option maxRecDepth 100000 in
theorem c_Md_handle_38 : ct_Md_handle 38 = ka_al 0 1 := rfl
theorem d_Md_handle_38 : decode prog_12_method_55_code 38 = .ok (.aload_n 0, 1) := by decide +kernel
set_option maxRecDepth 100000 in
theorem c_Md_handle_39 : ct_Md_handle 39 = ka_cv 122 0 10 0 0 := rfl
theorem d_Md_handle_39 : decode prog_12_method_55_code 39 = .ok (.invokevirtual 335, 3) := by decide +kernel
set_option maxRecDepth 100000 in
theorem c_Md_handle_42 : ct_Md_handle 42 = ka_if (fun x => x = 0) 52 := rfl
theorem d_Md_handle_42 : decode prog_12_method_55_code 42 = .ok (.ifCond .eq 10, 3) := by decide +kernel
set_option maxRecDepth 100000 in
theorem c_Md_handle_45 : ct_Md_handle 45 = ka_al 0 1 := rfl
theorem d_Md_handle_45 : decode prog_12_method_55_code 45 = .ok (.aload_n 0, 1) := by decide +kernel
set_option maxRecDepth 100000 in
theorem c_Md_handle_46 : ct_Md_handle 46 = ka_cv 149 0 10 0 0 := rfl
theorem d_Md_handle_46 : decode prog_12_method_55_code 46 = .ok (.invokevirtual 338, 3) := by decide +kernel
set_option maxRecDepth 100000 in
theorem c_Md_handle_49 : ct_Md_handle 49 = ka_goto 53 := rfl
theorem d_Md_handle_49 : decode prog_12_method_55_code 49 = .ok (.goto 4, 3) := by decide +kernel
set_option maxRecDepth 100000 in
theorem c_Md_handle_52 : ct_Md_handle 52 = ka_ci (nI 2) 1 := rfl
theorem d_Md_handle_52 : decode prog_12_method_55_code 52 = .ok (.iconst 2, 1) := by decide +kernel
set_option maxRecDepth 100000 in
theorem c_Md_handle_53 : ct_Md_handle 53 = ka_is 1 1 := rfl
theorem d_Md_handle_53 : decode prog_12_method_55_code 53 = .ok (.istore_n 1, 1) := by decide +kernel
set_option maxRecDepth 100000 in
theorem c_Md_handle_54 : ct_Md_handle 54 = ka_al 0 1 := rfl
theorem d_Md_handle_54 : decode prog_12_method_55_code 54 = .ok (.aload_n 0, 1) := by decide +kernel
set_option maxRecDepth 100000 in
theorem c_Md_handle_55 : ct_Md_handle 55 = ka_il 1 1 := rfl
theorem d_Md_handle_55 : decode prog_12_method_55_code 55 = .ok (.iload_n 1, 1) := by decide +kernel
set_option maxRecDepth 100000 in
theorem c_Md_handle_56 : ct_Md_handle 56 = ka_cv 147 1 10 0 0 := rfl
theorem d_Md_handle_56 : decode prog_12_method_55_code 56 = .ok (.invokevirtual 341, 3) := by decide +kernel
set_option maxRecDepth 100000 in
theorem c_Md_handle_59 : ct_Md_handle 59 = ka_al 0 1 := rfl
theorem d_Md_handle_59 : decode prog_12_method_55_code 59 = .ok (.aload_n 0, 1) := by decide +kernel
set_option maxRecDepth 100000 in
theorem c_Md_handle_60 : ct_Md_handle 60 = ka_ci (nI 0) 1 := rfl
theorem d_Md_handle_60 : decode prog_12_method_55_code 60 = .ok (.iconst 0, 1) := by decide +kernel
set_option maxRecDepth 100000 in
theorem c_Md_handle_61 : ct_Md_handle 61 = ka_put 10 3 .int := rfl
theorem d_Md_handle_61 : decode prog_12_method_55_code 61 = .ok (.putfield 98, 3) := by decide +kernel
set_option maxRecDepth 100000 in
theorem c_Md_handle_64 : ct_Md_handle 64 = ka_il 1 1 := rfl
theorem d_Md_handle_64 : decode prog_12_method_55_code 64 = .ok (.iload_n 1, 1) := by decide +kernel
set_option maxRecDepth 100000 in
theorem c_Md_handle_65 : ct_Md_handle 65 = ka_ri := rfl
theorem d_Md_handle_65 : decode prog_12_method_55_code 65 = .ok (.ireturn, 1) := by decide +kernel
set_option maxRecDepth 100000 in
set_option maxHeartbeats 4000000 in
theorem s_Md_handle_60 : ∀ pc, pc < 60 → kc_Sim kt kw_A kw_N kt_cl kt_En "DirectoryDeskModel" prog_12_method_55_code 2 (some .int) "handle" none pc (ct_Md_handle pc) := by
  let P : Nat → Prop := fun pc => kc_Sim kt kw_A kw_N kt_cl kt_En "DirectoryDeskModel" prog_12_method_55_code 2 (some .int) "handle" none pc (ct_Md_handle pc)
  exact kc_case (P := P) (kc_se c_Md_handle_59 (sm_aload_n d_Md_handle_59 rfl)) (
  kc_case (P := P) (kc_se rfl sm_no) (
  kc_case (P := P) (kc_se rfl sm_no) (
  kc_case (P := P) (kc_se c_Md_handle_56 (sm_cv (j := 147) rfl rfl kw_o kw_g wc_Md_conclude (Nat.le_of_ble_eq_true rfl) hd_Md_conclude (ci := 10) (F := kF_Md) (N := 52) rfl (kw5 72 rfl rfl) wi_Md_conclude ws_Md_conclude wn_Md_conclude d_Md_handle_56)) (
  kc_case (P := P) (kc_se c_Md_handle_55 (sm_iload_n d_Md_handle_55 rfl)) (
  kc_case (P := P) (kc_se c_Md_handle_54 (sm_aload_n d_Md_handle_54 rfl)) (
  kc_case (P := P) (kc_se c_Md_handle_53 (sm_istore_n d_Md_handle_53 rfl (Nat.le_of_ble_eq_true rfl))) (
  kc_case (P := P) (kc_se c_Md_handle_52 (sm_iconst d_Md_handle_52 (by decide))) (
  kc_case (P := P) (kc_se rfl sm_no) (
  kc_case (P := P) (kc_se rfl sm_no) (
  kc_case (P := P) (kc_se c_Md_handle_49 (sm_goto d_Md_handle_49 (by decide))) (
  kc_case (P := P) (kc_se rfl sm_no) (
  kc_case (P := P) (kc_se rfl sm_no) (
  kc_case (P := P) (kc_se c_Md_handle_46 (sm_cv (j := 149) rfl rfl kw_o kw_g wc_Md_perform (Nat.le_of_ble_eq_true rfl) hd_Md_perform (ci := 10) (F := kF_Md) (N := 52) rfl (kw4 196 rfl rfl) wi_Md_perform ws_Md_perform wn_Md_perform d_Md_handle_46)) (
  kc_case (P := P) (kc_se c_Md_handle_45 (sm_aload_n d_Md_handle_45 rfl)) (
  kc_case (P := P) (kc_se rfl sm_no) (
  kc_case (P := P) (kc_se rfl sm_no) (
  kc_case (P := P) (kc_se c_Md_handle_42 (sm_if_eq d_Md_handle_42 (by decide))) (
  kc_case (P := P) (kc_se rfl sm_no) (
  kc_case (P := P) (kc_se rfl sm_no) (
  kc_case (P := P) (kc_se c_Md_handle_39 (sm_cv (j := 122) rfl rfl kw_o kw_g wc_Md_readOperation (Nat.le_of_ble_eq_true rfl) hd_Md_readOperation (ci := 10) (F := kF_Md) (N := 52) rfl (kw4 133 rfl rfl) wi_Md_readOperation ws_Md_readOperation wn_Md_readOperation d_Md_handle_39)) (
  kc_case (P := P) (kc_se c_Md_handle_38 (sm_aload_n d_Md_handle_38 rfl)) (
  kc_case (P := P) (kc_se c_Md_handle_37 (sm_ri d_Md_handle_37 rfl)) (
  kc_case (P := P) (kc_se c_Md_handle_36 (sm_iconst d_Md_handle_36 (by decide))) (
  kc_case (P := P) (kc_se rfl sm_no) (
  kc_case (P := P) (kc_se rfl sm_no) (
  kc_case (P := P) (kc_se c_Md_handle_33 (sm_put (ci := 10) (C := "DirectoryDeskModel") (F := kF_Md) rfl kin_Md kty_Md ktk_Md knm_Md (Nat.le_of_ble_eq_true rfl) (by decide +kernel) d_Md_handle_33 (kw3 186 rfl rfl) rfl)) (
  kc_case (P := P) (kc_se c_Md_handle_32 (sm_iconst d_Md_handle_32 (by decide))) (
  kc_case (P := P) (kc_se c_Md_handle_31 (sm_aload_n d_Md_handle_31 rfl)) (
  kc_case (P := P) (kc_se rfl sm_no) (
  kc_case (P := P) (kc_se rfl sm_no) (
  kc_case (P := P) (kc_se c_Md_handle_28 (sm_put (ci := 10) (C := "DirectoryDeskModel") (F := kF_Md) rfl kin_Md kty_Md ktk_Md knm_Md (Nat.le_of_ble_eq_true rfl) (by decide +kernel) d_Md_handle_28 (kw3 184 rfl rfl) rfl)) (
  kc_case (P := P) (kc_se c_Md_handle_27 (sm_iconst d_Md_handle_27 (by decide))) (
  kc_case (P := P) (kc_se c_Md_handle_26 (sm_aload_n d_Md_handle_26 rfl)) (
  kc_case (P := P) (kc_se rfl sm_no) (
  kc_case (P := P) (kc_se rfl sm_no) (
  kc_case (P := P) (kc_se c_Md_handle_23 (sm_put (ci := 10) (C := "DirectoryDeskModel") (F := kF_Md) rfl kin_Md kty_Md ktk_Md knm_Md (Nat.le_of_ble_eq_true rfl) (by decide +kernel) d_Md_handle_23 (kw3 183 rfl rfl) rfl)) (
  kc_case (P := P) (kc_se c_Md_handle_22 (sm_iconst d_Md_handle_22 (by decide))) (
  kc_case (P := P) (kc_se c_Md_handle_21 (sm_aload_n d_Md_handle_21 rfl)) (
  kc_case (P := P) (kc_se rfl sm_no) (
  kc_case (P := P) (kc_se rfl sm_no) (
  kc_case (P := P) (kc_se c_Md_handle_18 (sm_if_ne d_Md_handle_18 (by decide))) (
  kc_case (P := P) (kc_se rfl sm_no) (
  kc_case (P := P) (kc_se rfl sm_no) (
  kc_case (P := P) (kc_se c_Md_handle_15 (sm_cv (j := 148) rfl rfl kw_o kw_g wc_Md_isMessage (Nat.le_of_ble_eq_true rfl) hd_Md_isMessage (ci := 10) (F := kF_Md) (N := 52) rfl (kw4 113 rfl rfl) wi_Md_isMessage ws_Md_isMessage wn_Md_isMessage d_Md_handle_15)) (
  kc_case (P := P) (kc_se c_Md_handle_14 (sm_aload_n d_Md_handle_14 rfl)) (
  kc_case (P := P) (kc_se rfl sm_no) (
  kc_case (P := P) (kc_se rfl sm_no) (
  kc_case (P := P) (kc_se c_Md_handle_11 (sm_put (ci := 10) (C := "DirectoryDeskModel") (F := kF_Md) rfl kin_Md kty_Md ktk_Md knm_Md (Nat.le_of_ble_eq_true rfl) (by decide +kernel) d_Md_handle_11 (kw3 188 rfl rfl) rfl)) (
  kc_case (P := P) (kc_se c_Md_handle_10 (sm_iconst d_Md_handle_10 (by decide))) (
  kc_case (P := P) (kc_se c_Md_handle_9 (sm_aload_n d_Md_handle_9 rfl)) (
  kc_case (P := P) (kc_se c_Md_handle_8 (sm_ri d_Md_handle_8 rfl)) (
  kc_case (P := P) (kc_se c_Md_handle_7 (sm_iconst d_Md_handle_7 (by decide))) (
  kc_case (P := P) (kc_se rfl sm_no) (
  kc_case (P := P) (kc_se rfl sm_no) (
  kc_case (P := P) (kc_se c_Md_handle_4 (sm_if_eq d_Md_handle_4 (by decide))) (
  kc_case (P := P) (kc_se rfl sm_no) (
  kc_case (P := P) (kc_se rfl sm_no) (
  kc_case (P := P) (kc_se c_Md_handle_1 (sm_get (ci := 10) (C := "DirectoryDeskModel") (F := kF_Md) rfl kin_Md (Nat.le_of_ble_eq_true rfl) d_Md_handle_1 (kw3 183 rfl rfl))) (
  kc_case (P := P) (kc_se c_Md_handle_0 (sm_aload_n d_Md_handle_0 rfl)) (
  kc_case0))))))))))))))))))))))))))))))))))))))))))))))))))))))))))))
set_option maxRecDepth 100000 in
set_option maxHeartbeats 4000000 in
theorem s_Md_handle_66 : ∀ pc, pc < 66 → kc_Sim kt kw_A kw_N kt_cl kt_En "DirectoryDeskModel" prog_12_method_55_code 2 (some .int) "handle" none pc (ct_Md_handle pc) := by
  let P : Nat → Prop := fun pc => kc_Sim kt kw_A kw_N kt_cl kt_En "DirectoryDeskModel" prog_12_method_55_code 2 (some .int) "handle" none pc (ct_Md_handle pc)
  exact kc_case (P := P) (kc_se c_Md_handle_65 (sm_ri d_Md_handle_65 rfl)) (
  kc_case (P := P) (kc_se c_Md_handle_64 (sm_iload_n d_Md_handle_64 rfl)) (
  kc_case (P := P) (kc_se rfl sm_no) (
  kc_case (P := P) (kc_se rfl sm_no) (
  kc_case (P := P) (kc_se c_Md_handle_61 (sm_put (ci := 10) (C := "DirectoryDeskModel") (F := kF_Md) rfl kin_Md kty_Md ktk_Md knm_Md (Nat.le_of_ble_eq_true rfl) (by decide +kernel) d_Md_handle_61 (kw3 186 rfl rfl) rfl)) (
  kc_case (P := P) (kc_se c_Md_handle_60 (sm_iconst d_Md_handle_60 (by decide))) (
  s_Md_handle_60))))))
set_option maxRecDepth 100000 in
theorem ka_nth_no_Md_handle (pc : Nat) (h : 66 ≤ pc) : ct_Md_handle pc = ka_no := ka_nth_ge _ pc (Nat.le_trans (Nat.le_of_eq (by rfl)) h)
theorem s_Md_handle (pc : Nat) : kc_Sim kt kw_A kw_N kt_cl kt_En "DirectoryDeskModel" prog_12_method_55_code 2 (some .int) "handle" none pc (ct_Md_handle pc) := (Nat.lt_or_ge pc 66).elim (s_Md_handle_66 pc) (fun h => kc_se (ka_nth_no_Md_handle pc h) sm_no)
def cl_Md_answered_0 : List kc_A := [ka_al 0 1, ka_get 10 5, ka_no, ka_no, ka_ri]
def ct_Md_answered : Nat → kc_A := fun pc => ka_nth (cl_Md_answered_0) pc
set_option maxRecDepth 100000 in
theorem c_Md_answered_0 : ct_Md_answered 0 = ka_al 0 1 := rfl
theorem d_Md_answered_0 : decode prog_12_method_56_code 0 = .ok (.aload_n 0, 1) := by decide +kernel
set_option maxRecDepth 100000 in
theorem c_Md_answered_1 : ct_Md_answered 1 = ka_get 10 5 := rfl
theorem d_Md_answered_1 : decode prog_12_method_56_code 1 = .ok (.getfield 288, 3) := by decide +kernel
set_option maxRecDepth 100000 in
theorem c_Md_answered_4 : ct_Md_answered 4 = ka_ri := rfl
theorem d_Md_answered_4 : decode prog_12_method_56_code 4 = .ok (.ireturn, 1) := by decide +kernel
set_option maxRecDepth 100000 in
set_option maxHeartbeats 4000000 in
theorem s_Md_answered_5 : ∀ pc, pc < 5 → kc_Sim kt kw_A kw_N kt_cl kt_En "DirectoryDeskModel" prog_12_method_56_code 1 (some .int) "answered" none pc (ct_Md_answered pc) := by
  let P : Nat → Prop := fun pc => kc_Sim kt kw_A kw_N kt_cl kt_En "DirectoryDeskModel" prog_12_method_56_code 1 (some .int) "answered" none pc (ct_Md_answered pc)
  exact kc_case (P := P) (kc_se c_Md_answered_4 (sm_ri d_Md_answered_4 rfl)) (
  kc_case (P := P) (kc_se rfl sm_no) (
  kc_case (P := P) (kc_se rfl sm_no) (
  kc_case (P := P) (kc_se c_Md_answered_1 (sm_get (ci := 10) (C := "DirectoryDeskModel") (F := kF_Md) rfl kin_Md (Nat.le_of_ble_eq_true rfl) d_Md_answered_1 (kw3 188 rfl rfl))) (
  kc_case (P := P) (kc_se c_Md_answered_0 (sm_aload_n d_Md_answered_0 rfl)) (
  kc_case0)))))
set_option maxRecDepth 100000 in
theorem ka_nth_no_Md_answered (pc : Nat) (h : 5 ≤ pc) : ct_Md_answered pc = ka_no := ka_nth_ge _ pc (Nat.le_trans (Nat.le_of_eq (by rfl)) h)
theorem s_Md_answered (pc : Nat) : kc_Sim kt kw_A kw_N kt_cl kt_En "DirectoryDeskModel" prog_12_method_56_code 1 (some .int) "answered" none pc (ct_Md_answered pc) := (Nat.lt_or_ge pc 5).elim (s_Md_answered_5 pc) (fun h => kc_se (ka_nth_no_Md_answered pc h) sm_no)
def cl_Md_answer_0 : List kc_A := [ka_il 1 1, ka_if (fun x => x < 0) 12, ka_no, ka_no, ka_il 1 1, ka_al 0 1, ka_get 10 5, ka_no, ka_no, ka_cm (fun x y => x < y) 16, ka_no, ka_no, ka_cl (-1) 3, ka_no, ka_no, ka_rl, ka_cl 0 1, ka_ls 2 1, ka_il 1 1, ka_is 4 2, ka_no, ka_il 4 2, ka_no, ka_al 0 1, ka_get 10 5, ka_no, ka_no, ka_cm (fun x y => y ≤ x) 59, ka_no, ka_no, ka_il 4 2, ka_no, ka_il 1 1, ka_ci (nI 7) 2, ka_no, ka_ii (fun x y => x + y), ka_cm (fun x y => y ≤ x) 59, ka_no, ka_no, ka_ll 2 1, ka_ci (nI 8) 2, ka_no, ka_lsh (fun x y => x <<< (y.toInt64 &&& 63)), ka_al 0 1, ka_get 10 4, ka_no, ka_no, ka_il 4 2, ka_no, ka_iald, ka_i2l, ka_ll2 (fun x y => x ||| y), ka_ls 2 1, ka_inc 4 (nI 1), ka_no, ka_no, ka_goto 21, ka_no, ka_no, ka_ll 2 1]
def cl_Md_answer_1 : List kc_A := [ka_rl]
def ct_Md_answer : Nat → kc_A := fun pc => ka_nth (cl_Md_answer_0 ++ (cl_Md_answer_1)) pc
set_option maxRecDepth 100000 in
theorem c_Md_answer_0 : ct_Md_answer 0 = ka_il 1 1 := rfl
theorem d_Md_answer_0 : decode prog_12_method_57_code 0 = .ok (.iload_n 1, 1) := by decide +kernel
set_option maxRecDepth 100000 in
theorem c_Md_answer_1 : ct_Md_answer 1 = ka_if (fun x => x < 0) 12 := rfl
theorem d_Md_answer_1 : decode prog_12_method_57_code 1 = .ok (.ifCond .lt 11, 3) := by decide +kernel
set_option maxRecDepth 100000 in
theorem c_Md_answer_4 : ct_Md_answer 4 = ka_il 1 1 := rfl
theorem d_Md_answer_4 : decode prog_12_method_57_code 4 = .ok (.iload_n 1, 1) := by decide +kernel
set_option maxRecDepth 100000 in
theorem c_Md_answer_5 : ct_Md_answer 5 = ka_al 0 1 := rfl
theorem d_Md_answer_5 : decode prog_12_method_57_code 5 = .ok (.aload_n 0, 1) := by decide +kernel
set_option maxRecDepth 100000 in
theorem c_Md_answer_6 : ct_Md_answer 6 = ka_get 10 5 := rfl
theorem d_Md_answer_6 : decode prog_12_method_57_code 6 = .ok (.getfield 288, 3) := by decide +kernel
set_option maxRecDepth 100000 in
theorem c_Md_answer_9 : ct_Md_answer 9 = ka_cm (fun x y => x < y) 16 := rfl
theorem d_Md_answer_9 : decode prog_12_method_57_code 9 = .ok (.if_icmp .lt 7, 3) := by decide +kernel
set_option maxRecDepth 100000 in
theorem c_Md_answer_12 : ct_Md_answer 12 = ka_cl (-1) 3 := rfl
theorem d_Md_answer_12 : decode prog_12_method_57_code 12 = .ok (.ldc2_w 120, 3) := by decide +kernel
set_option maxRecDepth 100000 in
theorem c_Md_answer_15 : ct_Md_answer 15 = ka_rl := rfl
theorem d_Md_answer_15 : decode prog_12_method_57_code 15 = .ok (.lreturn, 1) := by decide +kernel
set_option maxRecDepth 100000 in
theorem c_Md_answer_16 : ct_Md_answer 16 = ka_cl 0 1 := rfl
theorem d_Md_answer_16 : decode prog_12_method_57_code 16 = .ok (.lconst 0, 1) := by decide +kernel
set_option maxRecDepth 100000 in
theorem c_Md_answer_17 : ct_Md_answer 17 = ka_ls 2 1 := rfl
theorem d_Md_answer_17 : decode prog_12_method_57_code 17 = .ok (.lstore_n 2, 1) := by decide +kernel
set_option maxRecDepth 100000 in
theorem c_Md_answer_18 : ct_Md_answer 18 = ka_il 1 1 := rfl
theorem d_Md_answer_18 : decode prog_12_method_57_code 18 = .ok (.iload_n 1, 1) := by decide +kernel
set_option maxRecDepth 100000 in
theorem c_Md_answer_19 : ct_Md_answer 19 = ka_is 4 2 := rfl
theorem d_Md_answer_19 : decode prog_12_method_57_code 19 = .ok (.istore 4, 2) := by decide +kernel
set_option maxRecDepth 100000 in
theorem c_Md_answer_21 : ct_Md_answer 21 = ka_il 4 2 := rfl
theorem d_Md_answer_21 : decode prog_12_method_57_code 21 = .ok (.iload 4, 2) := by decide +kernel
set_option maxRecDepth 100000 in
theorem c_Md_answer_23 : ct_Md_answer 23 = ka_al 0 1 := rfl
theorem d_Md_answer_23 : decode prog_12_method_57_code 23 = .ok (.aload_n 0, 1) := by decide +kernel
set_option maxRecDepth 100000 in
theorem c_Md_answer_24 : ct_Md_answer 24 = ka_get 10 5 := rfl
theorem d_Md_answer_24 : decode prog_12_method_57_code 24 = .ok (.getfield 288, 3) := by decide +kernel
set_option maxRecDepth 100000 in
theorem c_Md_answer_27 : ct_Md_answer 27 = ka_cm (fun x y => y ≤ x) 59 := rfl
theorem d_Md_answer_27 : decode prog_12_method_57_code 27 = .ok (.if_icmp .ge 32, 3) := by decide +kernel
set_option maxRecDepth 100000 in
theorem c_Md_answer_30 : ct_Md_answer 30 = ka_il 4 2 := rfl
theorem d_Md_answer_30 : decode prog_12_method_57_code 30 = .ok (.iload 4, 2) := by decide +kernel
set_option maxRecDepth 100000 in
theorem c_Md_answer_32 : ct_Md_answer 32 = ka_il 1 1 := rfl
theorem d_Md_answer_32 : decode prog_12_method_57_code 32 = .ok (.iload_n 1, 1) := by decide +kernel
set_option maxRecDepth 100000 in
theorem c_Md_answer_33 : ct_Md_answer 33 = ka_ci (nI 7) 2 := rfl
theorem d_Md_answer_33 : decode prog_12_method_57_code 33 = .ok (.bipush 7, 2) := by decide +kernel
set_option maxRecDepth 100000 in
theorem c_Md_answer_35 : ct_Md_answer 35 = ka_ii (fun x y => x + y) := rfl
theorem d_Md_answer_35 : decode prog_12_method_57_code 35 = .ok (.iadd, 1) := by decide +kernel
set_option maxRecDepth 100000 in
theorem c_Md_answer_36 : ct_Md_answer 36 = ka_cm (fun x y => y ≤ x) 59 := rfl
theorem d_Md_answer_36 : decode prog_12_method_57_code 36 = .ok (.if_icmp .ge 23, 3) := by decide +kernel
set_option maxRecDepth 100000 in
theorem c_Md_answer_39 : ct_Md_answer 39 = ka_ll 2 1 := rfl
theorem d_Md_answer_39 : decode prog_12_method_57_code 39 = .ok (.lload_n 2, 1) := by decide +kernel
set_option maxRecDepth 100000 in
theorem c_Md_answer_40 : ct_Md_answer 40 = ka_ci (nI 8) 2 := rfl
theorem d_Md_answer_40 : decode prog_12_method_57_code 40 = .ok (.bipush 8, 2) := by decide +kernel
set_option maxRecDepth 100000 in
theorem c_Md_answer_42 : ct_Md_answer 42 = ka_lsh (fun x y => x <<< (y.toInt64 &&& 63)) := rfl
theorem d_Md_answer_42 : decode prog_12_method_57_code 42 = .ok (.lshl, 1) := by decide +kernel
set_option maxRecDepth 100000 in
theorem c_Md_answer_43 : ct_Md_answer 43 = ka_al 0 1 := rfl
theorem d_Md_answer_43 : decode prog_12_method_57_code 43 = .ok (.aload_n 0, 1) := by decide +kernel
set_option maxRecDepth 100000 in
theorem c_Md_answer_44 : ct_Md_answer 44 = ka_get 10 4 := rfl
theorem d_Md_answer_44 : decode prog_12_method_57_code 44 = .ok (.getfield 13, 3) := by decide +kernel
set_option maxRecDepth 100000 in
theorem c_Md_answer_47 : ct_Md_answer 47 = ka_il 4 2 := rfl
theorem d_Md_answer_47 : decode prog_12_method_57_code 47 = .ok (.iload 4, 2) := by decide +kernel
set_option maxRecDepth 100000 in
theorem c_Md_answer_49 : ct_Md_answer 49 = ka_iald := rfl
theorem d_Md_answer_49 : decode prog_12_method_57_code 49 = .ok (.iaload, 1) := by decide +kernel
set_option maxRecDepth 100000 in
theorem c_Md_answer_50 : ct_Md_answer 50 = ka_i2l := rfl
theorem d_Md_answer_50 : decode prog_12_method_57_code 50 = .ok (.i2l, 1) := by decide +kernel
set_option maxRecDepth 100000 in
theorem c_Md_answer_51 : ct_Md_answer 51 = ka_ll2 (fun x y => x ||| y) := rfl
theorem d_Md_answer_51 : decode prog_12_method_57_code 51 = .ok (.lor, 1) := by decide +kernel
set_option maxRecDepth 100000 in
theorem c_Md_answer_52 : ct_Md_answer 52 = ka_ls 2 1 := rfl
theorem d_Md_answer_52 : decode prog_12_method_57_code 52 = .ok (.lstore_n 2, 1) := by decide +kernel
set_option maxRecDepth 100000 in
theorem c_Md_answer_53 : ct_Md_answer 53 = ka_inc 4 (nI 1) := rfl
theorem d_Md_answer_53 : decode prog_12_method_57_code 53 = .ok (.iinc 4 1, 3) := by decide +kernel
set_option maxRecDepth 100000 in
theorem c_Md_answer_56 : ct_Md_answer 56 = ka_goto 21 := rfl
theorem d_Md_answer_56 : decode prog_12_method_57_code 56 = .ok (.goto (-35), 3) := by decide +kernel
set_option maxRecDepth 100000 in
theorem c_Md_answer_59 : ct_Md_answer 59 = ka_ll 2 1 := rfl
theorem d_Md_answer_59 : decode prog_12_method_57_code 59 = .ok (.lload_n 2, 1) := by decide +kernel
set_option maxRecDepth 100000 in
theorem c_Md_answer_60 : ct_Md_answer 60 = ka_rl := rfl
theorem d_Md_answer_60 : decode prog_12_method_57_code 60 = .ok (.lreturn, 1) := by decide +kernel
set_option maxRecDepth 100000 in
set_option maxHeartbeats 4000000 in
theorem s_Md_answer_60 : ∀ pc, pc < 60 → kc_Sim kt kw_A kw_N kt_cl kt_En "DirectoryDeskModel" prog_12_method_57_code 5 (some .long) "answer" none pc (ct_Md_answer pc) := by
  let P : Nat → Prop := fun pc => kc_Sim kt kw_A kw_N kt_cl kt_En "DirectoryDeskModel" prog_12_method_57_code 5 (some .long) "answer" none pc (ct_Md_answer pc)
  exact kc_case (P := P) (kc_se c_Md_answer_59 (sm_lload_n d_Md_answer_59 rfl)) (
  kc_case (P := P) (kc_se rfl sm_no) (
  kc_case (P := P) (kc_se rfl sm_no) (
  kc_case (P := P) (kc_se c_Md_answer_56 (sm_goto d_Md_answer_56 (by decide))) (
  kc_case (P := P) (kc_se rfl sm_no) (
  kc_case (P := P) (kc_se rfl sm_no) (
  kc_case (P := P) (kc_se c_Md_answer_53 (sm_inc d_Md_answer_53 (by decide) (Nat.le_of_ble_eq_true rfl))) (
  kc_case (P := P) (kc_se c_Md_answer_52 (sm_lstore_n d_Md_answer_52 rfl (Nat.le_of_ble_eq_true rfl))) (
  kc_case (P := P) (kc_se c_Md_answer_51 (sm_lor d_Md_answer_51)) (
  kc_case (P := P) (kc_se c_Md_answer_50 (sm_i2l d_Md_answer_50)) (
  kc_case (P := P) (kc_se c_Md_answer_49 (sm_iald d_Md_answer_49)) (
  kc_case (P := P) (kc_se rfl sm_no) (
  kc_case (P := P) (kc_se c_Md_answer_47 (sm_iload d_Md_answer_47)) (
  kc_case (P := P) (kc_se rfl sm_no) (
  kc_case (P := P) (kc_se rfl sm_no) (
  kc_case (P := P) (kc_se c_Md_answer_44 (sm_get (ci := 10) (C := "DirectoryDeskModel") (F := kF_Md) rfl kin_Md (Nat.le_of_ble_eq_true rfl) d_Md_answer_44 (kw3 187 rfl rfl))) (
  kc_case (P := P) (kc_se c_Md_answer_43 (sm_aload_n d_Md_answer_43 rfl)) (
  kc_case (P := P) (kc_se c_Md_answer_42 (sm_lshl d_Md_answer_42)) (
  kc_case (P := P) (kc_se rfl sm_no) (
  kc_case (P := P) (kc_se c_Md_answer_40 (sm_bipush d_Md_answer_40 (by decide))) (
  kc_case (P := P) (kc_se c_Md_answer_39 (sm_lload_n d_Md_answer_39 rfl)) (
  kc_case (P := P) (kc_se rfl sm_no) (
  kc_case (P := P) (kc_se rfl sm_no) (
  kc_case (P := P) (kc_se c_Md_answer_36 (sm_cm_ge d_Md_answer_36 (by decide))) (
  kc_case (P := P) (kc_se c_Md_answer_35 (sm_iadd d_Md_answer_35)) (
  kc_case (P := P) (kc_se rfl sm_no) (
  kc_case (P := P) (kc_se c_Md_answer_33 (sm_bipush d_Md_answer_33 (by decide))) (
  kc_case (P := P) (kc_se c_Md_answer_32 (sm_iload_n d_Md_answer_32 rfl)) (
  kc_case (P := P) (kc_se rfl sm_no) (
  kc_case (P := P) (kc_se c_Md_answer_30 (sm_iload d_Md_answer_30)) (
  kc_case (P := P) (kc_se rfl sm_no) (
  kc_case (P := P) (kc_se rfl sm_no) (
  kc_case (P := P) (kc_se c_Md_answer_27 (sm_cm_ge d_Md_answer_27 (by decide))) (
  kc_case (P := P) (kc_se rfl sm_no) (
  kc_case (P := P) (kc_se rfl sm_no) (
  kc_case (P := P) (kc_se c_Md_answer_24 (sm_get (ci := 10) (C := "DirectoryDeskModel") (F := kF_Md) rfl kin_Md (Nat.le_of_ble_eq_true rfl) d_Md_answer_24 (kw3 188 rfl rfl))) (
  kc_case (P := P) (kc_se c_Md_answer_23 (sm_aload_n d_Md_answer_23 rfl)) (
  kc_case (P := P) (kc_se rfl sm_no) (
  kc_case (P := P) (kc_se c_Md_answer_21 (sm_iload d_Md_answer_21)) (
  kc_case (P := P) (kc_se rfl sm_no) (
  kc_case (P := P) (kc_se c_Md_answer_19 (sm_istore d_Md_answer_19 (Nat.le_of_ble_eq_true rfl))) (
  kc_case (P := P) (kc_se c_Md_answer_18 (sm_iload_n d_Md_answer_18 rfl)) (
  kc_case (P := P) (kc_se c_Md_answer_17 (sm_lstore_n d_Md_answer_17 rfl (Nat.le_of_ble_eq_true rfl))) (
  kc_case (P := P) (kc_se c_Md_answer_16 (sm_lconst d_Md_answer_16 (by decide))) (
  kc_case (P := P) (kc_se c_Md_answer_15 (sm_rl d_Md_answer_15 rfl)) (
  kc_case (P := P) (kc_se rfl sm_no) (
  kc_case (P := P) (kc_se rfl sm_no) (
  kc_case (P := P) (kc_se c_Md_answer_12 (sm_ldc2 d_Md_answer_12 (kw4 168 rfl rfl))) (
  kc_case (P := P) (kc_se rfl sm_no) (
  kc_case (P := P) (kc_se rfl sm_no) (
  kc_case (P := P) (kc_se c_Md_answer_9 (sm_cm_lt d_Md_answer_9 (by decide))) (
  kc_case (P := P) (kc_se rfl sm_no) (
  kc_case (P := P) (kc_se rfl sm_no) (
  kc_case (P := P) (kc_se c_Md_answer_6 (sm_get (ci := 10) (C := "DirectoryDeskModel") (F := kF_Md) rfl kin_Md (Nat.le_of_ble_eq_true rfl) d_Md_answer_6 (kw3 188 rfl rfl))) (
  kc_case (P := P) (kc_se c_Md_answer_5 (sm_aload_n d_Md_answer_5 rfl)) (
  kc_case (P := P) (kc_se c_Md_answer_4 (sm_iload_n d_Md_answer_4 rfl)) (
  kc_case (P := P) (kc_se rfl sm_no) (
  kc_case (P := P) (kc_se rfl sm_no) (
  kc_case (P := P) (kc_se c_Md_answer_1 (sm_if_lt d_Md_answer_1 (by decide))) (
  kc_case (P := P) (kc_se c_Md_answer_0 (sm_iload_n d_Md_answer_0 rfl)) (
  kc_case0))))))))))))))))))))))))))))))))))))))))))))))))))))))))))))
set_option maxRecDepth 100000 in
set_option maxHeartbeats 4000000 in
theorem s_Md_answer_61 : ∀ pc, pc < 61 → kc_Sim kt kw_A kw_N kt_cl kt_En "DirectoryDeskModel" prog_12_method_57_code 5 (some .long) "answer" none pc (ct_Md_answer pc) := by
  let P : Nat → Prop := fun pc => kc_Sim kt kw_A kw_N kt_cl kt_En "DirectoryDeskModel" prog_12_method_57_code 5 (some .long) "answer" none pc (ct_Md_answer pc)
  exact kc_case (P := P) (kc_se c_Md_answer_60 (sm_rl d_Md_answer_60 rfl)) (
  s_Md_answer_60)
set_option maxRecDepth 100000 in
theorem ka_nth_no_Md_answer (pc : Nat) (h : 61 ≤ pc) : ct_Md_answer pc = ka_no := ka_nth_ge _ pc (Nat.le_trans (Nat.le_of_eq (by rfl)) h)
theorem s_Md_answer (pc : Nat) : kc_Sim kt kw_A kw_N kt_cl kt_En "DirectoryDeskModel" prog_12_method_57_code 5 (some .long) "answer" none pc (ct_Md_answer pc) := (Nat.lt_or_ge pc 61).elim (s_Md_answer_61 pc) (fun h => kc_se (ka_nth_no_Md_answer pc h) sm_no)
def cl_Md_entries_0 : List kc_A := [ka_al 0 1, ka_get 10 6, ka_no, ka_no, ka_ri]
def ct_Md_entries : Nat → kc_A := fun pc => ka_nth (cl_Md_entries_0) pc
set_option maxRecDepth 100000 in
theorem c_Md_entries_0 : ct_Md_entries 0 = ka_al 0 1 := rfl
theorem d_Md_entries_0 : decode prog_12_method_58_code 0 = .ok (.aload_n 0, 1) := by decide +kernel
set_option maxRecDepth 100000 in
theorem c_Md_entries_1 : ct_Md_entries 1 = ka_get 10 6 := rfl
theorem d_Md_entries_1 : decode prog_12_method_58_code 1 = .ok (.getfield 83, 3) := by decide +kernel
set_option maxRecDepth 100000 in
theorem c_Md_entries_4 : ct_Md_entries 4 = ka_ri := rfl
theorem d_Md_entries_4 : decode prog_12_method_58_code 4 = .ok (.ireturn, 1) := by decide +kernel
set_option maxRecDepth 100000 in
set_option maxHeartbeats 4000000 in
theorem s_Md_entries_5 : ∀ pc, pc < 5 → kc_Sim kt kw_A kw_N kt_cl kt_En "DirectoryDeskModel" prog_12_method_58_code 1 (some .int) "entries" none pc (ct_Md_entries pc) := by
  let P : Nat → Prop := fun pc => kc_Sim kt kw_A kw_N kt_cl kt_En "DirectoryDeskModel" prog_12_method_58_code 1 (some .int) "entries" none pc (ct_Md_entries pc)
  exact kc_case (P := P) (kc_se c_Md_entries_4 (sm_ri d_Md_entries_4 rfl)) (
  kc_case (P := P) (kc_se rfl sm_no) (
  kc_case (P := P) (kc_se rfl sm_no) (
  kc_case (P := P) (kc_se c_Md_entries_1 (sm_get (ci := 10) (C := "DirectoryDeskModel") (F := kF_Md) rfl kin_Md (Nat.le_of_ble_eq_true rfl) d_Md_entries_1 (kw3 189 rfl rfl))) (
  kc_case (P := P) (kc_se c_Md_entries_0 (sm_aload_n d_Md_entries_0 rfl)) (
  kc_case0)))))
set_option maxRecDepth 100000 in
theorem ka_nth_no_Md_entries (pc : Nat) (h : 5 ≤ pc) : ct_Md_entries pc = ka_no := ka_nth_ge _ pc (Nat.le_trans (Nat.le_of_eq (by rfl)) h)
theorem s_Md_entries (pc : Nat) : kc_Sim kt kw_A kw_N kt_cl kt_En "DirectoryDeskModel" prog_12_method_58_code 1 (some .int) "entries" none pc (ct_Md_entries pc) := (Nat.lt_or_ge pc 5).elim (s_Md_entries_5 pc) (fun h => kc_se (ka_nth_no_Md_entries pc h) sm_no)
def cl_Md_entry_0 : List kc_A := [ka_il 1 1, ka_if (fun x => x < 0) 12, ka_no, ka_no, ka_il 1 1, ka_al 0 1, ka_get 10 6, ka_no, ka_no, ka_cm (fun x y => x < y) 17, ka_no, ka_no, ka_ci (-2) 2, ka_no, ka_goto 33, ka_no, ka_no, ka_al 0 1, ka_get 10 7, ka_no, ka_no, ka_il 1 1, ka_iald, ka_ci (nI 8) 2, ka_no, ka_al 0 1, ka_get 10 10, ka_no, ka_no, ka_il 1 1, ka_iald, ka_ii (fun x y => x * y), ka_ii (fun x y => x + y), ka_ri]
def ct_Md_entry : Nat → kc_A := fun pc => ka_nth (cl_Md_entry_0) pc
set_option maxRecDepth 100000 in
theorem c_Md_entry_0 : ct_Md_entry 0 = ka_il 1 1 := rfl
theorem d_Md_entry_0 : decode prog_12_method_59_code 0 = .ok (.iload_n 1, 1) := by decide +kernel
set_option maxRecDepth 100000 in
theorem c_Md_entry_1 : ct_Md_entry 1 = ka_if (fun x => x < 0) 12 := rfl
theorem d_Md_entry_1 : decode prog_12_method_59_code 1 = .ok (.ifCond .lt 11, 3) := by decide +kernel
set_option maxRecDepth 100000 in
theorem c_Md_entry_4 : ct_Md_entry 4 = ka_il 1 1 := rfl
theorem d_Md_entry_4 : decode prog_12_method_59_code 4 = .ok (.iload_n 1, 1) := by decide +kernel
set_option maxRecDepth 100000 in
theorem c_Md_entry_5 : ct_Md_entry 5 = ka_al 0 1 := rfl
theorem d_Md_entry_5 : decode prog_12_method_59_code 5 = .ok (.aload_n 0, 1) := by decide +kernel
set_option maxRecDepth 100000 in
theorem c_Md_entry_6 : ct_Md_entry 6 = ka_get 10 6 := rfl
theorem d_Md_entry_6 : decode prog_12_method_59_code 6 = .ok (.getfield 83, 3) := by decide +kernel
set_option maxRecDepth 100000 in
theorem c_Md_entry_9 : ct_Md_entry 9 = ka_cm (fun x y => x < y) 17 := rfl
theorem d_Md_entry_9 : decode prog_12_method_59_code 9 = .ok (.if_icmp .lt 8, 3) := by decide +kernel
set_option maxRecDepth 100000 in
theorem c_Md_entry_12 : ct_Md_entry 12 = ka_ci (-2) 2 := rfl
theorem d_Md_entry_12 : decode prog_12_method_59_code 12 = .ok (.bipush (-2), 2) := by decide +kernel
set_option maxRecDepth 100000 in
theorem c_Md_entry_14 : ct_Md_entry 14 = ka_goto 33 := rfl
theorem d_Md_entry_14 : decode prog_12_method_59_code 14 = .ok (.goto 19, 3) := by decide +kernel
set_option maxRecDepth 100000 in
theorem c_Md_entry_17 : ct_Md_entry 17 = ka_al 0 1 := rfl
theorem d_Md_entry_17 : decode prog_12_method_59_code 17 = .ok (.aload_n 0, 1) := by decide +kernel
set_option maxRecDepth 100000 in
theorem c_Md_entry_18 : ct_Md_entry 18 = ka_get 10 7 := rfl
theorem d_Md_entry_18 : decode prog_12_method_59_code 18 = .ok (.getfield 16, 3) := by decide +kernel
set_option maxRecDepth 100000 in
theorem c_Md_entry_21 : ct_Md_entry 21 = ka_il 1 1 := rfl
theorem d_Md_entry_21 : decode prog_12_method_59_code 21 = .ok (.iload_n 1, 1) := by decide +kernel
set_option maxRecDepth 100000 in
theorem c_Md_entry_22 : ct_Md_entry 22 = ka_iald := rfl
theorem d_Md_entry_22 : decode prog_12_method_59_code 22 = .ok (.iaload, 1) := by decide +kernel
set_option maxRecDepth 100000 in
theorem c_Md_entry_23 : ct_Md_entry 23 = ka_ci (nI 8) 2 := rfl
theorem d_Md_entry_23 : decode prog_12_method_59_code 23 = .ok (.bipush 8, 2) := by decide +kernel
set_option maxRecDepth 100000 in
theorem c_Md_entry_25 : ct_Md_entry 25 = ka_al 0 1 := rfl
theorem d_Md_entry_25 : decode prog_12_method_59_code 25 = .ok (.aload_n 0, 1) := by decide +kernel
set_option maxRecDepth 100000 in
theorem c_Md_entry_26 : ct_Md_entry 26 = ka_get 10 10 := rfl
theorem d_Md_entry_26 : decode prog_12_method_59_code 26 = .ok (.getfield 26, 3) := by decide +kernel
set_option maxRecDepth 100000 in
theorem c_Md_entry_29 : ct_Md_entry 29 = ka_il 1 1 := rfl
theorem d_Md_entry_29 : decode prog_12_method_59_code 29 = .ok (.iload_n 1, 1) := by decide +kernel
set_option maxRecDepth 100000 in
theorem c_Md_entry_30 : ct_Md_entry 30 = ka_iald := rfl
theorem d_Md_entry_30 : decode prog_12_method_59_code 30 = .ok (.iaload, 1) := by decide +kernel
set_option maxRecDepth 100000 in
theorem c_Md_entry_31 : ct_Md_entry 31 = ka_ii (fun x y => x * y) := rfl
theorem d_Md_entry_31 : decode prog_12_method_59_code 31 = .ok (.imul, 1) := by decide +kernel
set_option maxRecDepth 100000 in
theorem c_Md_entry_32 : ct_Md_entry 32 = ka_ii (fun x y => x + y) := rfl
theorem d_Md_entry_32 : decode prog_12_method_59_code 32 = .ok (.iadd, 1) := by decide +kernel
set_option maxRecDepth 100000 in
theorem c_Md_entry_33 : ct_Md_entry 33 = ka_ri := rfl
theorem d_Md_entry_33 : decode prog_12_method_59_code 33 = .ok (.ireturn, 1) := by decide +kernel
set_option maxRecDepth 100000 in
set_option maxHeartbeats 4000000 in
theorem s_Md_entry_34 : ∀ pc, pc < 34 → kc_Sim kt kw_A kw_N kt_cl kt_En "DirectoryDeskModel" prog_12_method_59_code 2 (some .int) "entry" none pc (ct_Md_entry pc) := by
  let P : Nat → Prop := fun pc => kc_Sim kt kw_A kw_N kt_cl kt_En "DirectoryDeskModel" prog_12_method_59_code 2 (some .int) "entry" none pc (ct_Md_entry pc)
  exact kc_case (P := P) (kc_se c_Md_entry_33 (sm_ri d_Md_entry_33 rfl)) (
  kc_case (P := P) (kc_se c_Md_entry_32 (sm_iadd d_Md_entry_32)) (
  kc_case (P := P) (kc_se c_Md_entry_31 (sm_imul d_Md_entry_31)) (
  kc_case (P := P) (kc_se c_Md_entry_30 (sm_iald d_Md_entry_30)) (
  kc_case (P := P) (kc_se c_Md_entry_29 (sm_iload_n d_Md_entry_29 rfl)) (
  kc_case (P := P) (kc_se rfl sm_no) (
  kc_case (P := P) (kc_se rfl sm_no) (
  kc_case (P := P) (kc_se c_Md_entry_26 (sm_get (ci := 10) (C := "DirectoryDeskModel") (F := kF_Md) rfl kin_Md (Nat.le_of_ble_eq_true rfl) d_Md_entry_26 (kw3 193 rfl rfl))) (
  kc_case (P := P) (kc_se c_Md_entry_25 (sm_aload_n d_Md_entry_25 rfl)) (
  kc_case (P := P) (kc_se rfl sm_no) (
  kc_case (P := P) (kc_se c_Md_entry_23 (sm_bipush d_Md_entry_23 (by decide))) (
  kc_case (P := P) (kc_se c_Md_entry_22 (sm_iald d_Md_entry_22)) (
  kc_case (P := P) (kc_se c_Md_entry_21 (sm_iload_n d_Md_entry_21 rfl)) (
  kc_case (P := P) (kc_se rfl sm_no) (
  kc_case (P := P) (kc_se rfl sm_no) (
  kc_case (P := P) (kc_se c_Md_entry_18 (sm_get (ci := 10) (C := "DirectoryDeskModel") (F := kF_Md) rfl kin_Md (Nat.le_of_ble_eq_true rfl) d_Md_entry_18 (kw3 190 rfl rfl))) (
  kc_case (P := P) (kc_se c_Md_entry_17 (sm_aload_n d_Md_entry_17 rfl)) (
  kc_case (P := P) (kc_se rfl sm_no) (
  kc_case (P := P) (kc_se rfl sm_no) (
  kc_case (P := P) (kc_se c_Md_entry_14 (sm_goto d_Md_entry_14 (by decide))) (
  kc_case (P := P) (kc_se rfl sm_no) (
  kc_case (P := P) (kc_se c_Md_entry_12 (sm_bipush d_Md_entry_12 (by decide))) (
  kc_case (P := P) (kc_se rfl sm_no) (
  kc_case (P := P) (kc_se rfl sm_no) (
  kc_case (P := P) (kc_se c_Md_entry_9 (sm_cm_lt d_Md_entry_9 (by decide))) (
  kc_case (P := P) (kc_se rfl sm_no) (
  kc_case (P := P) (kc_se rfl sm_no) (
  kc_case (P := P) (kc_se c_Md_entry_6 (sm_get (ci := 10) (C := "DirectoryDeskModel") (F := kF_Md) rfl kin_Md (Nat.le_of_ble_eq_true rfl) d_Md_entry_6 (kw3 189 rfl rfl))) (
  kc_case (P := P) (kc_se c_Md_entry_5 (sm_aload_n d_Md_entry_5 rfl)) (
  kc_case (P := P) (kc_se c_Md_entry_4 (sm_iload_n d_Md_entry_4 rfl)) (
  kc_case (P := P) (kc_se rfl sm_no) (
  kc_case (P := P) (kc_se rfl sm_no) (
  kc_case (P := P) (kc_se c_Md_entry_1 (sm_if_lt d_Md_entry_1 (by decide))) (
  kc_case (P := P) (kc_se c_Md_entry_0 (sm_iload_n d_Md_entry_0 rfl)) (
  kc_case0))))))))))))))))))))))))))))))))))
set_option maxRecDepth 100000 in
theorem ka_nth_no_Md_entry (pc : Nat) (h : 34 ≤ pc) : ct_Md_entry pc = ka_no := ka_nth_ge _ pc (Nat.le_trans (Nat.le_of_eq (by rfl)) h)
theorem s_Md_entry (pc : Nat) : kc_Sim kt kw_A kw_N kt_cl kt_En "DirectoryDeskModel" prog_12_method_59_code 2 (some .int) "entry" none pc (ct_Md_entry pc) := (Nat.lt_or_ge pc 34).elim (s_Md_entry_34 pc) (fun h => kc_se (ka_nth_no_Md_entry pc h) sm_no)
def cl_Md_isPair_0 : List kc_A := [ka_il 1 1, ka_if (fun x => x < 0) 30, ka_no, ka_no, ka_il 1 1, ka_al 0 1, ka_get 10 6, ka_no, ka_no, ka_cm (fun x y => y ≤ x) 30, ka_no, ka_no, ka_il 2 1, ka_if (fun x => x < 0) 30, ka_no, ka_no, ka_il 2 1, ka_al 0 1, ka_get 10 10, ka_no, ka_no, ka_il 1 1, ka_iald, ka_cm (fun x y => y ≤ x) 30, ka_no, ka_no, ka_ci (nI 1) 1, ka_goto 31, ka_no, ka_no, ka_ci (nI 0) 1, ka_rz]
def ct_Md_isPair : Nat → kc_A := fun pc => ka_nth (cl_Md_isPair_0) pc
set_option maxRecDepth 100000 in
theorem c_Md_isPair_0 : ct_Md_isPair 0 = ka_il 1 1 := rfl
theorem d_Md_isPair_0 : decode prog_12_method_60_code 0 = .ok (.iload_n 1, 1) := by decide +kernel
set_option maxRecDepth 100000 in
theorem c_Md_isPair_1 : ct_Md_isPair 1 = ka_if (fun x => x < 0) 30 := rfl
theorem d_Md_isPair_1 : decode prog_12_method_60_code 1 = .ok (.ifCond .lt 29, 3) := by decide +kernel
set_option maxRecDepth 100000 in
theorem c_Md_isPair_4 : ct_Md_isPair 4 = ka_il 1 1 := rfl
theorem d_Md_isPair_4 : decode prog_12_method_60_code 4 = .ok (.iload_n 1, 1) := by decide +kernel
set_option maxRecDepth 100000 in
theorem c_Md_isPair_5 : ct_Md_isPair 5 = ka_al 0 1 := rfl
theorem d_Md_isPair_5 : decode prog_12_method_60_code 5 = .ok (.aload_n 0, 1) := by decide +kernel
set_option maxRecDepth 100000 in
theorem c_Md_isPair_6 : ct_Md_isPair 6 = ka_get 10 6 := rfl
theorem d_Md_isPair_6 : decode prog_12_method_60_code 6 = .ok (.getfield 83, 3) := by decide +kernel
set_option maxRecDepth 100000 in
theorem c_Md_isPair_9 : ct_Md_isPair 9 = ka_cm (fun x y => y ≤ x) 30 := rfl
theorem d_Md_isPair_9 : decode prog_12_method_60_code 9 = .ok (.if_icmp .ge 21, 3) := by decide +kernel
set_option maxRecDepth 100000 in
theorem c_Md_isPair_12 : ct_Md_isPair 12 = ka_il 2 1 := rfl
theorem d_Md_isPair_12 : decode prog_12_method_60_code 12 = .ok (.iload_n 2, 1) := by decide +kernel
set_option maxRecDepth 100000 in
theorem c_Md_isPair_13 : ct_Md_isPair 13 = ka_if (fun x => x < 0) 30 := rfl
theorem d_Md_isPair_13 : decode prog_12_method_60_code 13 = .ok (.ifCond .lt 17, 3) := by decide +kernel
set_option maxRecDepth 100000 in
theorem c_Md_isPair_16 : ct_Md_isPair 16 = ka_il 2 1 := rfl
theorem d_Md_isPair_16 : decode prog_12_method_60_code 16 = .ok (.iload_n 2, 1) := by decide +kernel
set_option maxRecDepth 100000 in
theorem c_Md_isPair_17 : ct_Md_isPair 17 = ka_al 0 1 := rfl
theorem d_Md_isPair_17 : decode prog_12_method_60_code 17 = .ok (.aload_n 0, 1) := by decide +kernel
set_option maxRecDepth 100000 in
theorem c_Md_isPair_18 : ct_Md_isPair 18 = ka_get 10 10 := rfl
theorem d_Md_isPair_18 : decode prog_12_method_60_code 18 = .ok (.getfield 26, 3) := by decide +kernel
set_option maxRecDepth 100000 in
theorem c_Md_isPair_21 : ct_Md_isPair 21 = ka_il 1 1 := rfl
theorem d_Md_isPair_21 : decode prog_12_method_60_code 21 = .ok (.iload_n 1, 1) := by decide +kernel
set_option maxRecDepth 100000 in
theorem c_Md_isPair_22 : ct_Md_isPair 22 = ka_iald := rfl
theorem d_Md_isPair_22 : decode prog_12_method_60_code 22 = .ok (.iaload, 1) := by decide +kernel
set_option maxRecDepth 100000 in
theorem c_Md_isPair_23 : ct_Md_isPair 23 = ka_cm (fun x y => y ≤ x) 30 := rfl
theorem d_Md_isPair_23 : decode prog_12_method_60_code 23 = .ok (.if_icmp .ge 7, 3) := by decide +kernel
set_option maxRecDepth 100000 in
theorem c_Md_isPair_26 : ct_Md_isPair 26 = ka_ci (nI 1) 1 := rfl
theorem d_Md_isPair_26 : decode prog_12_method_60_code 26 = .ok (.iconst 1, 1) := by decide +kernel
set_option maxRecDepth 100000 in
theorem c_Md_isPair_27 : ct_Md_isPair 27 = ka_goto 31 := rfl
theorem d_Md_isPair_27 : decode prog_12_method_60_code 27 = .ok (.goto 4, 3) := by decide +kernel
set_option maxRecDepth 100000 in
theorem c_Md_isPair_30 : ct_Md_isPair 30 = ka_ci (nI 0) 1 := rfl
theorem d_Md_isPair_30 : decode prog_12_method_60_code 30 = .ok (.iconst 0, 1) := by decide +kernel
set_option maxRecDepth 100000 in
theorem c_Md_isPair_31 : ct_Md_isPair 31 = ka_rz := rfl
theorem d_Md_isPair_31 : decode prog_12_method_60_code 31 = .ok (.ireturn, 1) := by decide +kernel
set_option maxRecDepth 100000 in
set_option maxHeartbeats 4000000 in
theorem s_Md_isPair_32 : ∀ pc, pc < 32 → kc_Sim kt kw_A kw_N kt_cl kt_En "DirectoryDeskModel" prog_12_method_60_code 3 (some .boolean) "isPair" none pc (ct_Md_isPair pc) := by
  let P : Nat → Prop := fun pc => kc_Sim kt kw_A kw_N kt_cl kt_En "DirectoryDeskModel" prog_12_method_60_code 3 (some .boolean) "isPair" none pc (ct_Md_isPair pc)
  exact kc_case (P := P) (kc_se c_Md_isPair_31 (sm_rz d_Md_isPair_31 rfl)) (
  kc_case (P := P) (kc_se c_Md_isPair_30 (sm_iconst d_Md_isPair_30 (by decide))) (
  kc_case (P := P) (kc_se rfl sm_no) (
  kc_case (P := P) (kc_se rfl sm_no) (
  kc_case (P := P) (kc_se c_Md_isPair_27 (sm_goto d_Md_isPair_27 (by decide))) (
  kc_case (P := P) (kc_se c_Md_isPair_26 (sm_iconst d_Md_isPair_26 (by decide))) (
  kc_case (P := P) (kc_se rfl sm_no) (
  kc_case (P := P) (kc_se rfl sm_no) (
  kc_case (P := P) (kc_se c_Md_isPair_23 (sm_cm_ge d_Md_isPair_23 (by decide))) (
  kc_case (P := P) (kc_se c_Md_isPair_22 (sm_iald d_Md_isPair_22)) (
  kc_case (P := P) (kc_se c_Md_isPair_21 (sm_iload_n d_Md_isPair_21 rfl)) (
  kc_case (P := P) (kc_se rfl sm_no) (
  kc_case (P := P) (kc_se rfl sm_no) (
  kc_case (P := P) (kc_se c_Md_isPair_18 (sm_get (ci := 10) (C := "DirectoryDeskModel") (F := kF_Md) rfl kin_Md (Nat.le_of_ble_eq_true rfl) d_Md_isPair_18 (kw3 193 rfl rfl))) (
  kc_case (P := P) (kc_se c_Md_isPair_17 (sm_aload_n d_Md_isPair_17 rfl)) (
  kc_case (P := P) (kc_se c_Md_isPair_16 (sm_iload_n d_Md_isPair_16 rfl)) (
  kc_case (P := P) (kc_se rfl sm_no) (
  kc_case (P := P) (kc_se rfl sm_no) (
  kc_case (P := P) (kc_se c_Md_isPair_13 (sm_if_lt d_Md_isPair_13 (by decide))) (
  kc_case (P := P) (kc_se c_Md_isPair_12 (sm_iload_n d_Md_isPair_12 rfl)) (
  kc_case (P := P) (kc_se rfl sm_no) (
  kc_case (P := P) (kc_se rfl sm_no) (
  kc_case (P := P) (kc_se c_Md_isPair_9 (sm_cm_ge d_Md_isPair_9 (by decide))) (
  kc_case (P := P) (kc_se rfl sm_no) (
  kc_case (P := P) (kc_se rfl sm_no) (
  kc_case (P := P) (kc_se c_Md_isPair_6 (sm_get (ci := 10) (C := "DirectoryDeskModel") (F := kF_Md) rfl kin_Md (Nat.le_of_ble_eq_true rfl) d_Md_isPair_6 (kw3 189 rfl rfl))) (
  kc_case (P := P) (kc_se c_Md_isPair_5 (sm_aload_n d_Md_isPair_5 rfl)) (
  kc_case (P := P) (kc_se c_Md_isPair_4 (sm_iload_n d_Md_isPair_4 rfl)) (
  kc_case (P := P) (kc_se rfl sm_no) (
  kc_case (P := P) (kc_se rfl sm_no) (
  kc_case (P := P) (kc_se c_Md_isPair_1 (sm_if_lt d_Md_isPair_1 (by decide))) (
  kc_case (P := P) (kc_se c_Md_isPair_0 (sm_iload_n d_Md_isPair_0 rfl)) (
  kc_case0))))))))))))))))))))))))))))))))
set_option maxRecDepth 100000 in
theorem ka_nth_no_Md_isPair (pc : Nat) (h : 32 ≤ pc) : ct_Md_isPair pc = ka_no := ka_nth_ge _ pc (Nat.le_trans (Nat.le_of_eq (by rfl)) h)
theorem s_Md_isPair (pc : Nat) : kc_Sim kt kw_A kw_N kt_cl kt_En "DirectoryDeskModel" prog_12_method_60_code 3 (some .boolean) "isPair" none pc (ct_Md_isPair pc) := (Nat.lt_or_ge pc 32).elim (s_Md_isPair_32 pc) (fun h => kc_se (ka_nth_no_Md_isPair pc h) sm_no)
def cl_Md_pairType_0 : List kc_A := [ka_al 0 1, ka_il 1 1, ka_il 2 1, ka_cv 155 2 10 0 0, ka_no, ka_no, ka_if (fun x => x = 0) 23, ka_no, ka_no, ka_al 0 1, ka_get 10 11, ka_no, ka_no, ka_ci (nI 6) 2, ka_no, ka_il 1 1, ka_ii (fun x y => x * y), ka_il 2 1, ka_ii (fun x y => x + y), ka_iald, ka_goto 24, ka_no, ka_no, ka_ci (-1) 1, ka_ri]
def ct_Md_pairType : Nat → kc_A := fun pc => ka_nth (cl_Md_pairType_0) pc
set_option maxRecDepth 100000 in
theorem c_Md_pairType_0 : ct_Md_pairType 0 = ka_al 0 1 := rfl
theorem d_Md_pairType_0 : decode prog_12_method_61_code 0 = .ok (.aload_n 0, 1) := by decide +kernel
set_option maxRecDepth 100000 in
theorem c_Md_pairType_1 : ct_Md_pairType 1 = ka_il 1 1 := rfl
theorem d_Md_pairType_1 : decode prog_12_method_61_code 1 = .ok (.iload_n 1, 1) := by decide +kernel
set_option maxRecDepth 100000 in
theorem c_Md_pairType_2 : ct_Md_pairType 2 = ka_il 2 1 := rfl
theorem d_Md_pairType_2 : decode prog_12_method_61_code 2 = .ok (.iload_n 2, 1) := by decide +kernel
set_option maxRecDepth 100000 in
theorem c_Md_pairType_3 : ct_Md_pairType 3 = ka_cv 155 2 10 0 0 := rfl
theorem d_Md_pairType_3 : decode prog_12_method_61_code 3 = .ok (.invokevirtual 344, 3) := by decide +kernel
set_option maxRecDepth 100000 in
theorem c_Md_pairType_6 : ct_Md_pairType 6 = ka_if (fun x => x = 0) 23 := rfl
theorem d_Md_pairType_6 : decode prog_12_method_61_code 6 = .ok (.ifCond .eq 17, 3) := by decide +kernel
set_option maxRecDepth 100000 in
theorem c_Md_pairType_9 : ct_Md_pairType 9 = ka_al 0 1 := rfl
theorem d_Md_pairType_9 : decode prog_12_method_61_code 9 = .ok (.aload_n 0, 1) := by decide +kernel
set_option maxRecDepth 100000 in
theorem c_Md_pairType_10 : ct_Md_pairType 10 = ka_get 10 11 := rfl
theorem d_Md_pairType_10 : decode prog_12_method_61_code 10 = .ok (.getfield 29, 3) := by decide +kernel
set_option maxRecDepth 100000 in
theorem c_Md_pairType_13 : ct_Md_pairType 13 = ka_ci (nI 6) 2 := rfl
theorem d_Md_pairType_13 : decode prog_12_method_61_code 13 = .ok (.bipush 6, 2) := by decide +kernel
set_option maxRecDepth 100000 in
theorem c_Md_pairType_15 : ct_Md_pairType 15 = ka_il 1 1 := rfl
theorem d_Md_pairType_15 : decode prog_12_method_61_code 15 = .ok (.iload_n 1, 1) := by decide +kernel
set_option maxRecDepth 100000 in
theorem c_Md_pairType_16 : ct_Md_pairType 16 = ka_ii (fun x y => x * y) := rfl
theorem d_Md_pairType_16 : decode prog_12_method_61_code 16 = .ok (.imul, 1) := by decide +kernel
set_option maxRecDepth 100000 in
theorem c_Md_pairType_17 : ct_Md_pairType 17 = ka_il 2 1 := rfl
theorem d_Md_pairType_17 : decode prog_12_method_61_code 17 = .ok (.iload_n 2, 1) := by decide +kernel
set_option maxRecDepth 100000 in
theorem c_Md_pairType_18 : ct_Md_pairType 18 = ka_ii (fun x y => x + y) := rfl
theorem d_Md_pairType_18 : decode prog_12_method_61_code 18 = .ok (.iadd, 1) := by decide +kernel
set_option maxRecDepth 100000 in
theorem c_Md_pairType_19 : ct_Md_pairType 19 = ka_iald := rfl
theorem d_Md_pairType_19 : decode prog_12_method_61_code 19 = .ok (.iaload, 1) := by decide +kernel
set_option maxRecDepth 100000 in
theorem c_Md_pairType_20 : ct_Md_pairType 20 = ka_goto 24 := rfl
theorem d_Md_pairType_20 : decode prog_12_method_61_code 20 = .ok (.goto 4, 3) := by decide +kernel
set_option maxRecDepth 100000 in
theorem c_Md_pairType_23 : ct_Md_pairType 23 = ka_ci (-1) 1 := rfl
theorem d_Md_pairType_23 : decode prog_12_method_61_code 23 = .ok (.iconst (-1), 1) := by decide +kernel
set_option maxRecDepth 100000 in
theorem c_Md_pairType_24 : ct_Md_pairType 24 = ka_ri := rfl
theorem d_Md_pairType_24 : decode prog_12_method_61_code 24 = .ok (.ireturn, 1) := by decide +kernel
set_option maxRecDepth 100000 in
set_option maxHeartbeats 4000000 in
theorem s_Md_pairType_25 : ∀ pc, pc < 25 → kc_Sim kt kw_A kw_N kt_cl kt_En "DirectoryDeskModel" prog_12_method_61_code 3 (some .int) "pairType" none pc (ct_Md_pairType pc) := by
  let P : Nat → Prop := fun pc => kc_Sim kt kw_A kw_N kt_cl kt_En "DirectoryDeskModel" prog_12_method_61_code 3 (some .int) "pairType" none pc (ct_Md_pairType pc)
  exact kc_case (P := P) (kc_se c_Md_pairType_24 (sm_ri d_Md_pairType_24 rfl)) (
  kc_case (P := P) (kc_se c_Md_pairType_23 (sm_iconst d_Md_pairType_23 (by decide))) (
  kc_case (P := P) (kc_se rfl sm_no) (
  kc_case (P := P) (kc_se rfl sm_no) (
  kc_case (P := P) (kc_se c_Md_pairType_20 (sm_goto d_Md_pairType_20 (by decide))) (
  kc_case (P := P) (kc_se c_Md_pairType_19 (sm_iald d_Md_pairType_19)) (
  kc_case (P := P) (kc_se c_Md_pairType_18 (sm_iadd d_Md_pairType_18)) (
  kc_case (P := P) (kc_se c_Md_pairType_17 (sm_iload_n d_Md_pairType_17 rfl)) (
  kc_case (P := P) (kc_se c_Md_pairType_16 (sm_imul d_Md_pairType_16)) (
  kc_case (P := P) (kc_se c_Md_pairType_15 (sm_iload_n d_Md_pairType_15 rfl)) (
  kc_case (P := P) (kc_se rfl sm_no) (
  kc_case (P := P) (kc_se c_Md_pairType_13 (sm_bipush d_Md_pairType_13 (by decide))) (
  kc_case (P := P) (kc_se rfl sm_no) (
  kc_case (P := P) (kc_se rfl sm_no) (
  kc_case (P := P) (kc_se c_Md_pairType_10 (sm_get (ci := 10) (C := "DirectoryDeskModel") (F := kF_Md) rfl kin_Md (Nat.le_of_ble_eq_true rfl) d_Md_pairType_10 (kw3 194 rfl rfl))) (
  kc_case (P := P) (kc_se c_Md_pairType_9 (sm_aload_n d_Md_pairType_9 rfl)) (
  kc_case (P := P) (kc_se rfl sm_no) (
  kc_case (P := P) (kc_se rfl sm_no) (
  kc_case (P := P) (kc_se c_Md_pairType_6 (sm_if_eq d_Md_pairType_6 (by decide))) (
  kc_case (P := P) (kc_se rfl sm_no) (
  kc_case (P := P) (kc_se rfl sm_no) (
  kc_case (P := P) (kc_se c_Md_pairType_3 (sm_cv (j := 155) rfl rfl kw_o kw_g wc_Md_isPair (Nat.le_of_ble_eq_true rfl) hd_Md_isPair (ci := 10) (F := kF_Md) (N := 52) rfl (kw5 96 rfl rfl) wi_Md_isPair ws_Md_isPair wn_Md_isPair d_Md_pairType_3)) (
  kc_case (P := P) (kc_se c_Md_pairType_2 (sm_iload_n d_Md_pairType_2 rfl)) (
  kc_case (P := P) (kc_se c_Md_pairType_1 (sm_iload_n d_Md_pairType_1 rfl)) (
  kc_case (P := P) (kc_se c_Md_pairType_0 (sm_aload_n d_Md_pairType_0 rfl)) (
  kc_case0)))))))))))))))))))))))))
set_option maxRecDepth 100000 in
theorem ka_nth_no_Md_pairType (pc : Nat) (h : 25 ≤ pc) : ct_Md_pairType pc = ka_no := ka_nth_ge _ pc (Nat.le_trans (Nat.le_of_eq (by rfl)) h)
theorem s_Md_pairType (pc : Nat) : kc_Sim kt kw_A kw_N kt_cl kt_En "DirectoryDeskModel" prog_12_method_61_code 3 (some .int) "pairType" none pc (ct_Md_pairType pc) := (Nat.lt_or_ge pc 25).elim (s_Md_pairType_25 pc) (fun h => kc_se (ka_nth_no_Md_pairType pc h) sm_no)
def cl_Md_pairValue_0 : List kc_A := [ka_al 0 1, ka_il 1 1, ka_il 2 1, ka_cv 155 2 10 0 0, ka_no, ka_no, ka_if (fun x => x = 0) 23, ka_no, ka_no, ka_al 0 1, ka_get 10 12, ka_no, ka_no, ka_ci (nI 6) 2, ka_no, ka_il 1 1, ka_ii (fun x y => x * y), ka_il 2 1, ka_ii (fun x y => x + y), ka_lald, ka_goto 26, ka_no, ka_no, ka_cl (-1) 3, ka_no, ka_no, ka_rl]
def ct_Md_pairValue : Nat → kc_A := fun pc => ka_nth (cl_Md_pairValue_0) pc
set_option maxRecDepth 100000 in
theorem c_Md_pairValue_0 : ct_Md_pairValue 0 = ka_al 0 1 := rfl
theorem d_Md_pairValue_0 : decode prog_12_method_62_code 0 = .ok (.aload_n 0, 1) := by decide +kernel
set_option maxRecDepth 100000 in
theorem c_Md_pairValue_1 : ct_Md_pairValue 1 = ka_il 1 1 := rfl
theorem d_Md_pairValue_1 : decode prog_12_method_62_code 1 = .ok (.iload_n 1, 1) := by decide +kernel
set_option maxRecDepth 100000 in
theorem c_Md_pairValue_2 : ct_Md_pairValue 2 = ka_il 2 1 := rfl
theorem d_Md_pairValue_2 : decode prog_12_method_62_code 2 = .ok (.iload_n 2, 1) := by decide +kernel
set_option maxRecDepth 100000 in
theorem c_Md_pairValue_3 : ct_Md_pairValue 3 = ka_cv 155 2 10 0 0 := rfl
theorem d_Md_pairValue_3 : decode prog_12_method_62_code 3 = .ok (.invokevirtual 344, 3) := by decide +kernel
set_option maxRecDepth 100000 in
theorem c_Md_pairValue_6 : ct_Md_pairValue 6 = ka_if (fun x => x = 0) 23 := rfl
theorem d_Md_pairValue_6 : decode prog_12_method_62_code 6 = .ok (.ifCond .eq 17, 3) := by decide +kernel
set_option maxRecDepth 100000 in
theorem c_Md_pairValue_9 : ct_Md_pairValue 9 = ka_al 0 1 := rfl
theorem d_Md_pairValue_9 : decode prog_12_method_62_code 9 = .ok (.aload_n 0, 1) := by decide +kernel
set_option maxRecDepth 100000 in
theorem c_Md_pairValue_10 : ct_Md_pairValue 10 = ka_get 10 12 := rfl
theorem d_Md_pairValue_10 : decode prog_12_method_62_code 10 = .ok (.getfield 32, 3) := by decide +kernel
set_option maxRecDepth 100000 in
theorem c_Md_pairValue_13 : ct_Md_pairValue 13 = ka_ci (nI 6) 2 := rfl
theorem d_Md_pairValue_13 : decode prog_12_method_62_code 13 = .ok (.bipush 6, 2) := by decide +kernel
set_option maxRecDepth 100000 in
theorem c_Md_pairValue_15 : ct_Md_pairValue 15 = ka_il 1 1 := rfl
theorem d_Md_pairValue_15 : decode prog_12_method_62_code 15 = .ok (.iload_n 1, 1) := by decide +kernel
set_option maxRecDepth 100000 in
theorem c_Md_pairValue_16 : ct_Md_pairValue 16 = ka_ii (fun x y => x * y) := rfl
theorem d_Md_pairValue_16 : decode prog_12_method_62_code 16 = .ok (.imul, 1) := by decide +kernel
set_option maxRecDepth 100000 in
theorem c_Md_pairValue_17 : ct_Md_pairValue 17 = ka_il 2 1 := rfl
theorem d_Md_pairValue_17 : decode prog_12_method_62_code 17 = .ok (.iload_n 2, 1) := by decide +kernel
set_option maxRecDepth 100000 in
theorem c_Md_pairValue_18 : ct_Md_pairValue 18 = ka_ii (fun x y => x + y) := rfl
theorem d_Md_pairValue_18 : decode prog_12_method_62_code 18 = .ok (.iadd, 1) := by decide +kernel
set_option maxRecDepth 100000 in
theorem c_Md_pairValue_19 : ct_Md_pairValue 19 = ka_lald := rfl
theorem d_Md_pairValue_19 : decode prog_12_method_62_code 19 = .ok (.laload, 1) := by decide +kernel
set_option maxRecDepth 100000 in
theorem c_Md_pairValue_20 : ct_Md_pairValue 20 = ka_goto 26 := rfl
theorem d_Md_pairValue_20 : decode prog_12_method_62_code 20 = .ok (.goto 6, 3) := by decide +kernel
set_option maxRecDepth 100000 in
theorem c_Md_pairValue_23 : ct_Md_pairValue 23 = ka_cl (-1) 3 := rfl
theorem d_Md_pairValue_23 : decode prog_12_method_62_code 23 = .ok (.ldc2_w 120, 3) := by decide +kernel
set_option maxRecDepth 100000 in
theorem c_Md_pairValue_26 : ct_Md_pairValue 26 = ka_rl := rfl
theorem d_Md_pairValue_26 : decode prog_12_method_62_code 26 = .ok (.lreturn, 1) := by decide +kernel
set_option maxRecDepth 100000 in
set_option maxHeartbeats 4000000 in
theorem s_Md_pairValue_27 : ∀ pc, pc < 27 → kc_Sim kt kw_A kw_N kt_cl kt_En "DirectoryDeskModel" prog_12_method_62_code 3 (some .long) "pairValue" none pc (ct_Md_pairValue pc) := by
  let P : Nat → Prop := fun pc => kc_Sim kt kw_A kw_N kt_cl kt_En "DirectoryDeskModel" prog_12_method_62_code 3 (some .long) "pairValue" none pc (ct_Md_pairValue pc)
  exact kc_case (P := P) (kc_se c_Md_pairValue_26 (sm_rl d_Md_pairValue_26 rfl)) (
  kc_case (P := P) (kc_se rfl sm_no) (
  kc_case (P := P) (kc_se rfl sm_no) (
  kc_case (P := P) (kc_se c_Md_pairValue_23 (sm_ldc2 d_Md_pairValue_23 (kw4 168 rfl rfl))) (
  kc_case (P := P) (kc_se rfl sm_no) (
  kc_case (P := P) (kc_se rfl sm_no) (
  kc_case (P := P) (kc_se c_Md_pairValue_20 (sm_goto d_Md_pairValue_20 (by decide))) (
  kc_case (P := P) (kc_se c_Md_pairValue_19 (sm_lald d_Md_pairValue_19)) (
  kc_case (P := P) (kc_se c_Md_pairValue_18 (sm_iadd d_Md_pairValue_18)) (
  kc_case (P := P) (kc_se c_Md_pairValue_17 (sm_iload_n d_Md_pairValue_17 rfl)) (
  kc_case (P := P) (kc_se c_Md_pairValue_16 (sm_imul d_Md_pairValue_16)) (
  kc_case (P := P) (kc_se c_Md_pairValue_15 (sm_iload_n d_Md_pairValue_15 rfl)) (
  kc_case (P := P) (kc_se rfl sm_no) (
  kc_case (P := P) (kc_se c_Md_pairValue_13 (sm_bipush d_Md_pairValue_13 (by decide))) (
  kc_case (P := P) (kc_se rfl sm_no) (
  kc_case (P := P) (kc_se rfl sm_no) (
  kc_case (P := P) (kc_se c_Md_pairValue_10 (sm_get (ci := 10) (C := "DirectoryDeskModel") (F := kF_Md) rfl kin_Md (Nat.le_of_ble_eq_true rfl) d_Md_pairValue_10 (kw3 195 rfl rfl))) (
  kc_case (P := P) (kc_se c_Md_pairValue_9 (sm_aload_n d_Md_pairValue_9 rfl)) (
  kc_case (P := P) (kc_se rfl sm_no) (
  kc_case (P := P) (kc_se rfl sm_no) (
  kc_case (P := P) (kc_se c_Md_pairValue_6 (sm_if_eq d_Md_pairValue_6 (by decide))) (
  kc_case (P := P) (kc_se rfl sm_no) (
  kc_case (P := P) (kc_se rfl sm_no) (
  kc_case (P := P) (kc_se c_Md_pairValue_3 (sm_cv (j := 155) rfl rfl kw_o kw_g wc_Md_isPair (Nat.le_of_ble_eq_true rfl) hd_Md_isPair (ci := 10) (F := kF_Md) (N := 52) rfl (kw5 96 rfl rfl) wi_Md_isPair ws_Md_isPair wn_Md_isPair d_Md_pairValue_3)) (
  kc_case (P := P) (kc_se c_Md_pairValue_2 (sm_iload_n d_Md_pairValue_2 rfl)) (
  kc_case (P := P) (kc_se c_Md_pairValue_1 (sm_iload_n d_Md_pairValue_1 rfl)) (
  kc_case (P := P) (kc_se c_Md_pairValue_0 (sm_aload_n d_Md_pairValue_0 rfl)) (
  kc_case0)))))))))))))))))))))))))))
set_option maxRecDepth 100000 in
theorem ka_nth_no_Md_pairValue (pc : Nat) (h : 27 ≤ pc) : ct_Md_pairValue pc = ka_no := ka_nth_ge _ pc (Nat.le_trans (Nat.le_of_eq (by rfl)) h)
theorem s_Md_pairValue (pc : Nat) : kc_Sim kt kw_A kw_N kt_cl kt_En "DirectoryDeskModel" prog_12_method_62_code 3 (some .long) "pairValue" none pc (ct_Md_pairValue pc) := (Nat.lt_or_ge pc 27).elim (s_Md_pairValue_27 pc) (fun h => kc_se (ka_nth_no_Md_pairValue pc h) sm_no)
def cl_Md_signed_0 : List kc_A := [ka_al 0 1, ka_get 10 1, ka_no, ka_no, ka_rz]
def ct_Md_signed : Nat → kc_A := fun pc => ka_nth (cl_Md_signed_0) pc
set_option maxRecDepth 100000 in
theorem c_Md_signed_0 : ct_Md_signed 0 = ka_al 0 1 := rfl
theorem d_Md_signed_0 : decode prog_12_method_63_code 0 = .ok (.aload_n 0, 1) := by decide +kernel
set_option maxRecDepth 100000 in
theorem c_Md_signed_1 : ct_Md_signed 1 = ka_get 10 1 := rfl
theorem d_Md_signed_1 : decode prog_12_method_63_code 1 = .ok (.getfield 95, 3) := by decide +kernel
set_option maxRecDepth 100000 in
theorem c_Md_signed_4 : ct_Md_signed 4 = ka_rz := rfl
theorem d_Md_signed_4 : decode prog_12_method_63_code 4 = .ok (.ireturn, 1) := by decide +kernel
set_option maxRecDepth 100000 in
set_option maxHeartbeats 4000000 in
theorem s_Md_signed_5 : ∀ pc, pc < 5 → kc_Sim kt kw_A kw_N kt_cl kt_En "DirectoryDeskModel" prog_12_method_63_code 1 (some .boolean) "signed" none pc (ct_Md_signed pc) := by
  let P : Nat → Prop := fun pc => kc_Sim kt kw_A kw_N kt_cl kt_En "DirectoryDeskModel" prog_12_method_63_code 1 (some .boolean) "signed" none pc (ct_Md_signed pc)
  exact kc_case (P := P) (kc_se c_Md_signed_4 (sm_rz d_Md_signed_4 rfl)) (
  kc_case (P := P) (kc_se rfl sm_no) (
  kc_case (P := P) (kc_se rfl sm_no) (
  kc_case (P := P) (kc_se c_Md_signed_1 (sm_get (ci := 10) (C := "DirectoryDeskModel") (F := kF_Md) rfl kin_Md (Nat.le_of_ble_eq_true rfl) d_Md_signed_1 (kw3 184 rfl rfl))) (
  kc_case (P := P) (kc_se c_Md_signed_0 (sm_aload_n d_Md_signed_0 rfl)) (
  kc_case0)))))
set_option maxRecDepth 100000 in
theorem ka_nth_no_Md_signed (pc : Nat) (h : 5 ≤ pc) : ct_Md_signed pc = ka_no := ka_nth_ge _ pc (Nat.le_trans (Nat.le_of_eq (by rfl)) h)
theorem s_Md_signed (pc : Nat) : kc_Sim kt kw_A kw_N kt_cl kt_En "DirectoryDeskModel" prog_12_method_63_code 1 (some .boolean) "signed" none pc (ct_Md_signed pc) := (Nat.lt_or_ge pc 5).elim (s_Md_signed_5 pc) (fun h => kc_se (ka_nth_no_Md_signed pc h) sm_no)
def cl_Md_open_0 : List kc_A := [ka_al 0 1, ka_get 10 0, ka_no, ka_no, ka_if (fun x => ¬ x = 0) 11, ka_no, ka_no, ka_ci (nI 1) 1, ka_goto 12, ka_no, ka_no, ka_ci (nI 0) 1, ka_rz]
def ct_Md_open : Nat → kc_A := fun pc => ka_nth (cl_Md_open_0) pc
set_option maxRecDepth 100000 in
theorem c_Md_open_0 : ct_Md_open 0 = ka_al 0 1 := rfl
theorem d_Md_open_0 : decode prog_12_method_64_code 0 = .ok (.aload_n 0, 1) := by decide +kernel
set_option maxRecDepth 100000 in
theorem c_Md_open_1 : ct_Md_open 1 = ka_get 10 0 := rfl
theorem d_Md_open_1 : decode prog_12_method_64_code 1 = .ok (.getfield 91, 3) := by decide +kernel
set_option maxRecDepth 100000 in
theorem c_Md_open_4 : ct_Md_open 4 = ka_if (fun x => ¬ x = 0) 11 := rfl
theorem d_Md_open_4 : decode prog_12_method_64_code 4 = .ok (.ifCond .ne 7, 3) := by decide +kernel
set_option maxRecDepth 100000 in
theorem c_Md_open_7 : ct_Md_open 7 = ka_ci (nI 1) 1 := rfl
theorem d_Md_open_7 : decode prog_12_method_64_code 7 = .ok (.iconst 1, 1) := by decide +kernel
set_option maxRecDepth 100000 in
theorem c_Md_open_8 : ct_Md_open 8 = ka_goto 12 := rfl
theorem d_Md_open_8 : decode prog_12_method_64_code 8 = .ok (.goto 4, 3) := by decide +kernel
set_option maxRecDepth 100000 in
theorem c_Md_open_11 : ct_Md_open 11 = ka_ci (nI 0) 1 := rfl
theorem d_Md_open_11 : decode prog_12_method_64_code 11 = .ok (.iconst 0, 1) := by decide +kernel
set_option maxRecDepth 100000 in
theorem c_Md_open_12 : ct_Md_open 12 = ka_rz := rfl
theorem d_Md_open_12 : decode prog_12_method_64_code 12 = .ok (.ireturn, 1) := by decide +kernel
set_option maxRecDepth 100000 in
set_option maxHeartbeats 4000000 in
theorem s_Md_open_13 : ∀ pc, pc < 13 → kc_Sim kt kw_A kw_N kt_cl kt_En "DirectoryDeskModel" prog_12_method_64_code 1 (some .boolean) "open" none pc (ct_Md_open pc) := by
  let P : Nat → Prop := fun pc => kc_Sim kt kw_A kw_N kt_cl kt_En "DirectoryDeskModel" prog_12_method_64_code 1 (some .boolean) "open" none pc (ct_Md_open pc)
  exact kc_case (P := P) (kc_se c_Md_open_12 (sm_rz d_Md_open_12 rfl)) (
  kc_case (P := P) (kc_se c_Md_open_11 (sm_iconst d_Md_open_11 (by decide))) (
  kc_case (P := P) (kc_se rfl sm_no) (
  kc_case (P := P) (kc_se rfl sm_no) (
  kc_case (P := P) (kc_se c_Md_open_8 (sm_goto d_Md_open_8 (by decide))) (
  kc_case (P := P) (kc_se c_Md_open_7 (sm_iconst d_Md_open_7 (by decide))) (
  kc_case (P := P) (kc_se rfl sm_no) (
  kc_case (P := P) (kc_se rfl sm_no) (
  kc_case (P := P) (kc_se c_Md_open_4 (sm_if_ne d_Md_open_4 (by decide))) (
  kc_case (P := P) (kc_se rfl sm_no) (
  kc_case (P := P) (kc_se rfl sm_no) (
  kc_case (P := P) (kc_se c_Md_open_1 (sm_get (ci := 10) (C := "DirectoryDeskModel") (F := kF_Md) rfl kin_Md (Nat.le_of_ble_eq_true rfl) d_Md_open_1 (kw3 183 rfl rfl))) (
  kc_case (P := P) (kc_se c_Md_open_0 (sm_aload_n d_Md_open_0 rfl)) (
  kc_case0)))))))))))))
set_option maxRecDepth 100000 in
theorem ka_nth_no_Md_open (pc : Nat) (h : 13 ≤ pc) : ct_Md_open pc = ka_no := ka_nth_ge _ pc (Nat.le_trans (Nat.le_of_eq (by rfl)) h)
theorem s_Md_open (pc : Nat) : kc_Sim kt kw_A kw_N kt_cl kt_En "DirectoryDeskModel" prog_12_method_64_code 1 (some .boolean) "open" none pc (ct_Md_open pc) := (Nat.lt_or_ge pc 13).elim (s_Md_open_13 pc) (fun h => kc_se (ka_nth_no_Md_open pc h) sm_no)
