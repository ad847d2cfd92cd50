/-! code of methods, decode rows, and that the JVM follows (by program) -/
def cl_Md_modify_0 : List kc_A := [ka_al 0 1, ka_ci (nI 0) 1, ka_cv 109 1 10 0 0, ka_no, ka_no, ka_is 1 1, ka_il 1 1, ka_if (fun x => 0 ≤ x) 13, ka_no, ka_no, ka_ci (nI 32) 2, ka_no, ka_ri, ka_al 0 1, ka_ci (nI 0) 1, ka_put 10 49 .int, ka_no, ka_no, ka_ci (nI 0) 1, ka_is 2 1, ka_il 2 1, ka_al 0 1, ka_get 10 10, ka_no, ka_no, ka_il 1 1, ka_iald, ka_cm (fun x y => y ≤ x) 62, ka_no, ka_no, ka_al 0 1, ka_al 0 1, ka_get 10 11, ka_no, ka_no, ka_ci (nI 6) 2, ka_no, ka_il 1 1, ka_ii (fun x y => x * y), ka_il 2 1, ka_ii (fun x y => x + y), ka_iald, ka_al 0 1, ka_get 10 12, ka_no, ka_no, ka_ci (nI 6) 2, ka_no, ka_il 1 1, ka_ii (fun x y => x * y), ka_il 2 1, ka_ii (fun x y => x + y), ka_lald, ka_cv 124 2 10 0 0, ka_no, ka_no, ka_inc 2 (nI 1), ka_no, ka_no, ka_goto 20]
def cl_Md_modify_1 : List kc_A := [ka_no, ka_no, ka_ci (nI 0) 1, ka_is 2 1, ka_il 2 1, ka_al 0 1, ka_get 10 33, ka_no, ka_no, ka_cm (fun x y => y ≤ x) 96, ka_no, ka_no, ka_al 0 1, ka_il 2 1, ka_al 0 1, ka_get 10 34, ka_no, ka_no, ka_il 2 1, ka_iald, ka_cv 128 2 10 0 0, ka_no, ka_no, ka_is 3 1, ka_il 3 1, ka_if (fun x => x = 0) 90, ka_no, ka_no, ka_il 3 1, ka_ri, ka_inc 2 (nI 1), ka_no, ka_no, ka_goto 64, ka_no, ka_no, ka_al 0 1, ka_al 0 1, ka_get 10 21, ka_no, ka_no, ka_ci (nI 0) 1, ka_iald, ka_al 0 1, ka_get 10 22, ka_no, ka_no, ka_ci (nI 0) 1, ka_lald, ka_cv 123 2 10 0 0, ka_no, ka_no, ka_if (fun x => 0 ≤ x) 118, ka_no, ka_no, ka_ci (nI 67) 2, ka_no, ka_ri, ka_al 0 1, ka_get 10 49]
def cl_Md_modify_2 : List kc_A := [ka_no, ka_no, ka_ci (nI 6) 2, ka_no, ka_cm (fun x y => x ≤ y) 130, ka_no, ka_no, ka_ci (nI 53) 2, ka_no, ka_ri, ka_al 0 1, ka_il 1 1, ka_cv 127 1 10 0 0, ka_no, ka_no, ka_ci (nI 0) 1, ka_ri]
def ct_Md_modify : Nat → kc_A := fun pc => ka_nth (cl_Md_modify_0 ++ (cl_Md_modify_1 ++ (cl_Md_modify_2))) pc
set_option maxRecDepth 100000 in
theorem c_Md_modify_0 : ct_Md_modify 0 = ka_al 0 1 := rfl
theorem d_Md_modify_0 : decode prog_12_method_37_code 0 = .ok (.aload_n 0, 1) := by decide +kernel
set_option maxRecDepth 100000 in
theorem c_Md_modify_1 : ct_Md_modify 1 = ka_ci (nI 0) 1 := rfl
theorem d_Md_modify_1 : decode prog_12_method_37_code 1 = .ok (.iconst 0, 1) := by decide +kernel
set_option maxRecDepth 100000 in
theorem c_Md_modify_2 : ct_Md_modify 2 = ka_cv 109 1 10 0 0 := rfl
theorem d_Md_modify_2 : decode prog_12_method_37_code 2 = .ok (.invokevirtual 258, 3) := by decide +kernel
set_option maxRecDepth 100000 in
theorem c_Md_modify_5 : ct_Md_modify 5 = ka_is 1 1 := rfl
theorem d_Md_modify_5 : decode prog_12_method_37_code 5 = .ok (.istore_n 1, 1) := by decide +kernel
set_option maxRecDepth 100000 in
theorem c_Md_modify_6 : ct_Md_modify 6 = ka_il 1 1 := rfl
theorem d_Md_modify_6 : decode prog_12_method_37_code 6 = .ok (.iload_n 1, 1) := by decide +kernel
set_option maxRecDepth 100000 in
theorem c_Md_modify_7 : ct_Md_modify 7 = ka_if (fun x => 0 ≤ x) 13 := rfl
theorem d_Md_modify_7 : decode prog_12_method_37_code 7 = .ok (.ifCond .ge 6, 3) := by decide +kernel
set_option maxRecDepth 100000 in
theorem c_Md_modify_10 : ct_Md_modify 10 = ka_ci (nI 32) 2 := rfl
theorem d_Md_modify_10 : decode prog_12_method_37_code 10 = .ok (.bipush 32, 2) := by decide +kernel
set_option maxRecDepth 100000 in
theorem c_Md_modify_12 : ct_Md_modify 12 = ka_ri := rfl
theorem d_Md_modify_12 : decode prog_12_method_37_code 12 = .ok (.ireturn, 1) := by decide +kernel
set_option maxRecDepth 100000 in
theorem c_Md_modify_13 : ct_Md_modify 13 = ka_al 0 1 := rfl
theorem d_Md_modify_13 : decode prog_12_method_37_code 13 = .ok (.aload_n 0, 1) := by decide +kernel
set_option maxRecDepth 100000 in
theorem c_Md_modify_14 : ct_Md_modify 14 = ka_ci (nI 0) 1 := rfl
theorem d_Md_modify_14 : decode prog_12_method_37_code 14 = .ok (.iconst 0, 1) := by decide +kernel
set_option maxRecDepth 100000 in
theorem c_Md_modify_15 : ct_Md_modify 15 = ka_put 10 49 .int := rfl
theorem d_Md_modify_15 : decode prog_12_method_37_code 15 = .ok (.putfield 237, 3) := by decide +kernel
set_option maxRecDepth 100000 in
theorem c_Md_modify_18 : ct_Md_modify 18 = ka_ci (nI 0) 1 := rfl
theorem d_Md_modify_18 : decode prog_12_method_37_code 18 = .ok (.iconst 0, 1) := by decide +kernel
set_option maxRecDepth 100000 in
theorem c_Md_modify_19 : ct_Md_modify 19 = ka_is 2 1 := rfl
theorem d_Md_modify_19 : decode prog_12_method_37_code 19 = .ok (.istore_n 2, 1) := by decide +kernel
set_option maxRecDepth 100000 in
theorem c_Md_modify_20 : ct_Md_modify 20 = ka_il 2 1 := rfl
theorem d_Md_modify_20 : decode prog_12_method_37_code 20 = .ok (.iload_n 2, 1) := by decide +kernel
set_option maxRecDepth 100000 in
theorem c_Md_modify_21 : ct_Md_modify 21 = ka_al 0 1 := rfl
theorem d_Md_modify_21 : decode prog_12_method_37_code 21 = .ok (.aload_n 0, 1) := by decide +kernel
set_option maxRecDepth 100000 in
theorem c_Md_modify_22 : ct_Md_modify 22 = ka_get 10 10 := rfl
theorem d_Md_modify_22 : decode prog_12_method_37_code 22 = .ok (.getfield 26, 3) := by decide +kernel
set_option maxRecDepth 100000 in
theorem c_Md_modify_25 : ct_Md_modify 25 = ka_il 1 1 := rfl
theorem d_Md_modify_25 : decode prog_12_method_37_code 25 = .ok (.iload_n 1, 1) := by decide +kernel
set_option maxRecDepth 100000 in
theorem c_Md_modify_26 : ct_Md_modify 26 = ka_iald := rfl
theorem d_Md_modify_26 : decode prog_12_method_37_code 26 = .ok (.iaload, 1) := by decide +kernel
set_option maxRecDepth 100000 in
theorem c_Md_modify_27 : ct_Md_modify 27 = ka_cm (fun x y => y ≤ x) 62 := rfl
theorem d_Md_modify_27 : decode prog_12_method_37_code 27 = .ok (.if_icmp .ge 35, 3) := by decide +kernel
set_option maxRecDepth 100000 in
theorem c_Md_modify_30 : ct_Md_modify 30 = ka_al 0 1 := rfl
theorem d_Md_modify_30 : decode prog_12_method_37_code 30 = .ok (.aload_n 0, 1) := by decide +kernel
set_option maxRecDepth 100000 in
theorem c_Md_modify_31 : ct_Md_modify 31 = ka_al 0 1 := rfl
theorem d_Md_modify_31 : decode prog_12_method_37_code 31 = .ok (.aload_n 0, 1) := by decide +kernel
set_option maxRecDepth 100000 in
theorem c_Md_modify_32 : ct_Md_modify 32 = ka_get 10 11 := rfl
theorem d_Md_modify_32 : decode prog_12_method_37_code 32 = .ok (.getfield 29, 3) := by decide +kernel
set_option maxRecDepth 100000 in
theorem c_Md_modify_35 : ct_Md_modify 35 = ka_ci (nI 6) 2 := rfl
theorem d_Md_modify_35 : decode prog_12_method_37_code 35 = .ok (.bipush 6, 2) := by decide +kernel
set_option maxRecDepth 100000 in
theorem c_Md_modify_37 : ct_Md_modify 37 = ka_il 1 1 := rfl
theorem d_Md_modify_37 : decode prog_12_method_37_code 37 = .ok (.iload_n 1, 1) := by decide +kernel
set_option maxRecDepth 100000 in
theorem c_Md_modify_38 : ct_Md_modify 38 = ka_ii (fun x y => x * y) := rfl
theorem d_Md_modify_38 : decode prog_12_method_37_code 38 = .ok (.imul, 1) := by decide +kernel
set_option maxRecDepth 100000 in
theorem c_Md_modify_39 : ct_Md_modify 39 = ka_il 2 1 := rfl
theorem d_Md_modify_39 : decode prog_12_method_37_code 39 = .ok (.iload_n 2, 1) := by decide +kernel
set_option maxRecDepth 100000 in
theorem c_Md_modify_40 : ct_Md_modify 40 = ka_ii (fun x y => x + y) := rfl
theorem d_Md_modify_40 : decode prog_12_method_37_code 40 = .ok (.iadd, 1) := by decide +kernel
set_option maxRecDepth 100000 in
theorem c_Md_modify_41 : ct_Md_modify 41 = ka_iald := rfl
theorem d_Md_modify_41 : decode prog_12_method_37_code 41 = .ok (.iaload, 1) := by decide +kernel
set_option maxRecDepth 100000 in
theorem c_Md_modify_42 : ct_Md_modify 42 = ka_al 0 1 := rfl
theorem d_Md_modify_42 : decode prog_12_method_37_code 42 = .ok (.aload_n 0, 1) := by decide +kernel
set_option maxRecDepth 100000 in
theorem c_Md_modify_43 : ct_Md_modify 43 = ka_get 10 12 := rfl
theorem d_Md_modify_43 : decode prog_12_method_37_code 43 = .ok (.getfield 32, 3) := by decide +kernel
set_option maxRecDepth 100000 in
theorem c_Md_modify_46 : ct_Md_modify 46 = ka_ci (nI 6) 2 := rfl
theorem d_Md_modify_46 : decode prog_12_method_37_code 46 = .ok (.bipush 6, 2) := by decide +kernel
set_option maxRecDepth 100000 in
theorem c_Md_modify_48 : ct_Md_modify 48 = ka_il 1 1 := rfl
theorem d_Md_modify_48 : decode prog_12_method_37_code 48 = .ok (.iload_n 1, 1) := by decide +kernel
set_option maxRecDepth 100000 in
theorem c_Md_modify_49 : ct_Md_modify 49 = ka_ii (fun x y => x * y) := rfl
theorem d_Md_modify_49 : decode prog_12_method_37_code 49 = .ok (.imul, 1) := by decide +kernel
set_option maxRecDepth 100000 in
theorem c_Md_modify_50 : ct_Md_modify 50 = ka_il 2 1 := rfl
theorem d_Md_modify_50 : decode prog_12_method_37_code 50 = .ok (.iload_n 2, 1) := by decide +kernel
set_option maxRecDepth 100000 in
theorem c_Md_modify_51 : ct_Md_modify 51 = ka_ii (fun x y => x + y) := rfl
theorem d_Md_modify_51 : decode prog_12_method_37_code 51 = .ok (.iadd, 1) := by decide +kernel
set_option maxRecDepth 100000 in
theorem c_Md_modify_52 : ct_Md_modify 52 = ka_lald := rfl
theorem d_Md_modify_52 : decode prog_12_method_37_code 52 = .ok (.laload, 1) := by decide +kernel
set_option maxRecDepth 100000 in
theorem c_Md_modify_53 : ct_Md_modify 53 = ka_cv 124 2 10 0 0 := rfl
theorem d_Md_modify_53 : decode prog_12_method_37_code 53 = .ok (.invokevirtual 251, 3) := by decide +kernel
set_option maxRecDepth 100000 in
theorem c_Md_modify_56 : ct_Md_modify 56 = ka_inc 2 (nI 1) := rfl
theorem d_Md_modify_56 : decode prog_12_method_37_code 56 = .ok (.iinc 2 1, 3) := by decide +kernel
set_option maxRecDepth 100000 in
theorem c_Md_modify_59 : ct_Md_modify 59 = ka_goto 20 := rfl
theorem d_Md_modify_59 : decode prog_12_method_37_code 59 = .ok (.goto (-39), 3) := by decide +kernel
set_option maxRecDepth 100000 in
theorem c_Md_modify_62 : ct_Md_modify 62 = ka_ci (nI 0) 1 := rfl
theorem d_Md_modify_62 : decode prog_12_method_37_code 62 = .ok (.iconst 0, 1) := by decide +kernel
set_option maxRecDepth 100000 in
theorem c_Md_modify_63 : ct_Md_modify 63 = ka_is 2 1 := rfl
theorem d_Md_modify_63 : decode prog_12_method_37_code 63 = .ok (.istore_n 2, 1) := by decide +kernel
set_option maxRecDepth 100000 in
theorem c_Md_modify_64 : ct_Md_modify 64 = ka_il 2 1 := rfl
theorem d_Md_modify_64 : decode prog_12_method_37_code 64 = .ok (.iload_n 2, 1) := by decide +kernel
set_option maxRecDepth 100000 in
theorem c_Md_modify_65 : ct_Md_modify 65 = ka_al 0 1 := rfl
theorem d_Md_modify_65 : decode prog_12_method_37_code 65 = .ok (.aload_n 0, 1) := by decide +kernel
set_option maxRecDepth 100000 in
theorem c_Md_modify_66 : ct_Md_modify 66 = ka_get 10 33 := rfl
theorem d_Md_modify_66 : decode prog_12_method_37_code 66 = .ok (.getfield 171, 3) := by decide +kernel
set_option maxRecDepth 100000 in
theorem c_Md_modify_69 : ct_Md_modify 69 = ka_cm (fun x y => y ≤ x) 96 := rfl
theorem d_Md_modify_69 : decode prog_12_method_37_code 69 = .ok (.if_icmp .ge 27, 3) := by decide +kernel
set_option maxRecDepth 100000 in
theorem c_Md_modify_72 : ct_Md_modify 72 = ka_al 0 1 := rfl
theorem d_Md_modify_72 : decode prog_12_method_37_code 72 = .ok (.aload_n 0, 1) := by decide +kernel
set_option maxRecDepth 100000 in
theorem c_Md_modify_73 : ct_Md_modify 73 = ka_il 2 1 := rfl
theorem d_Md_modify_73 : decode prog_12_method_37_code 73 = .ok (.iload_n 2, 1) := by decide +kernel
set_option maxRecDepth 100000 in
theorem c_Md_modify_74 : ct_Md_modify 74 = ka_al 0 1 := rfl
theorem d_Md_modify_74 : decode prog_12_method_37_code 74 = .ok (.aload_n 0, 1) := by decide +kernel
set_option maxRecDepth 100000 in
theorem c_Md_modify_75 : ct_Md_modify 75 = ka_get 10 34 := rfl
theorem d_Md_modify_75 : decode prog_12_method_37_code 75 = .ok (.getfield 41, 3) := by decide +kernel
set_option maxRecDepth 100000 in
theorem c_Md_modify_78 : ct_Md_modify 78 = ka_il 2 1 := rfl
theorem d_Md_modify_78 : decode prog_12_method_37_code 78 = .ok (.iload_n 2, 1) := by decide +kernel
set_option maxRecDepth 100000 in
theorem c_Md_modify_79 : ct_Md_modify 79 = ka_iald := rfl
theorem d_Md_modify_79 : decode prog_12_method_37_code 79 = .ok (.iaload, 1) := by decide +kernel
set_option maxRecDepth 100000 in
theorem c_Md_modify_80 : ct_Md_modify 80 = ka_cv 128 2 10 0 0 := rfl
theorem d_Md_modify_80 : decode prog_12_method_37_code 80 = .ok (.invokevirtual 261, 3) := by decide +kernel
set_option maxRecDepth 100000 in
theorem c_Md_modify_83 : ct_Md_modify 83 = ka_is 3 1 := rfl
theorem d_Md_modify_83 : decode prog_12_method_37_code 83 = .ok (.istore_n 3, 1) := by decide +kernel
set_option maxRecDepth 100000 in
theorem c_Md_modify_84 : ct_Md_modify 84 = ka_il 3 1 := rfl
theorem d_Md_modify_84 : decode prog_12_method_37_code 84 = .ok (.iload_n 3, 1) := by decide +kernel
set_option maxRecDepth 100000 in
theorem c_Md_modify_85 : ct_Md_modify 85 = ka_if (fun x => x = 0) 90 := rfl
theorem d_Md_modify_85 : decode prog_12_method_37_code 85 = .ok (.ifCond .eq 5, 3) := by decide +kernel
set_option maxRecDepth 100000 in
theorem c_Md_modify_88 : ct_Md_modify 88 = ka_il 3 1 := rfl
theorem d_Md_modify_88 : decode prog_12_method_37_code 88 = .ok (.iload_n 3, 1) := by decide +kernel
set_option maxRecDepth 100000 in
theorem c_Md_modify_89 : ct_Md_modify 89 = ka_ri := rfl
theorem d_Md_modify_89 : decode prog_12_method_37_code 89 = .ok (.ireturn, 1) := by decide +kernel
set_option maxRecDepth 100000 in
theorem c_Md_modify_90 : ct_Md_modify 90 = ka_inc 2 (nI 1) := rfl
theorem d_Md_modify_90 : decode prog_12_method_37_code 90 = .ok (.iinc 2 1, 3) := by decide +kernel
set_option maxRecDepth 100000 in
theorem c_Md_modify_93 : ct_Md_modify 93 = ka_goto 64 := rfl
theorem d_Md_modify_93 : decode prog_12_method_37_code 93 = .ok (.goto (-29), 3) := by decide +kernel
set_option maxRecDepth 100000 in
theorem c_Md_modify_96 : ct_Md_modify 96 = ka_al 0 1 := rfl
theorem d_Md_modify_96 : decode prog_12_method_37_code 96 = .ok (.aload_n 0, 1) := by decide +kernel
set_option maxRecDepth 100000 in
theorem c_Md_modify_97 : ct_Md_modify 97 = ka_al 0 1 := rfl
theorem d_Md_modify_97 : decode prog_12_method_37_code 97 = .ok (.aload_n 0, 1) := by decide +kernel
set_option maxRecDepth 100000 in
theorem c_Md_modify_98 : ct_Md_modify 98 = ka_get 10 21 := rfl
theorem d_Md_modify_98 : decode prog_12_method_37_code 98 = .ok (.getfield 35, 3) := by decide +kernel
set_option maxRecDepth 100000 in
theorem c_Md_modify_101 : ct_Md_modify 101 = ka_ci (nI 0) 1 := rfl
theorem d_Md_modify_101 : decode prog_12_method_37_code 101 = .ok (.iconst 0, 1) := by decide +kernel
set_option maxRecDepth 100000 in
theorem c_Md_modify_102 : ct_Md_modify 102 = ka_iald := rfl
theorem d_Md_modify_102 : decode prog_12_method_37_code 102 = .ok (.iaload, 1) := by decide +kernel
set_option maxRecDepth 100000 in
theorem c_Md_modify_103 : ct_Md_modify 103 = ka_al 0 1 := rfl
theorem d_Md_modify_103 : decode prog_12_method_37_code 103 = .ok (.aload_n 0, 1) := by decide +kernel
set_option maxRecDepth 100000 in
theorem c_Md_modify_104 : ct_Md_modify 104 = ka_get 10 22 := rfl
theorem d_Md_modify_104 : decode prog_12_method_37_code 104 = .ok (.getfield 38, 3) := by decide +kernel
set_option maxRecDepth 100000 in
theorem c_Md_modify_107 : ct_Md_modify 107 = ka_ci (nI 0) 1 := rfl
theorem d_Md_modify_107 : decode prog_12_method_37_code 107 = .ok (.iconst 0, 1) := by decide +kernel
set_option maxRecDepth 100000 in
theorem c_Md_modify_108 : ct_Md_modify 108 = ka_lald := rfl
theorem d_Md_modify_108 : decode prog_12_method_37_code 108 = .ok (.laload, 1) := by decide +kernel
set_option maxRecDepth 100000 in
theorem c_Md_modify_109 : ct_Md_modify 109 = ka_cv 123 2 10 0 0 := rfl
theorem d_Md_modify_109 : decode prog_12_method_37_code 109 = .ok (.invokevirtual 247, 3) := by decide +kernel
set_option maxRecDepth 100000 in
theorem c_Md_modify_112 : ct_Md_modify 112 = ka_if (fun x => 0 ≤ x) 118 := rfl
theorem d_Md_modify_112 : decode prog_12_method_37_code 112 = .ok (.ifCond .ge 6, 3) := by decide +kernel
set_option maxRecDepth 100000 in
theorem c_Md_modify_115 : ct_Md_modify 115 = ka_ci (nI 67) 2 := rfl
theorem d_Md_modify_115 : decode prog_12_method_37_code 115 = .ok (.bipush 67, 2) := by decide +kernel
set_option maxRecDepth 100000 in
theorem c_Md_modify_117 : ct_Md_modify 117 = ka_ri := rfl
theorem d_Md_modify_117 : decode prog_12_method_37_code 117 = .ok (.ireturn, 1) := by decide +kernel
set_option maxRecDepth 100000 in
theorem c_Md_modify_118 : ct_Md_modify 118 = ka_al 0 1 := rfl
theorem d_Md_modify_118 : decode prog_12_method_37_code 118 = .ok (.aload_n 0, 1) := by decide +kernel
set_option maxRecDepth 100000 in
theorem c_Md_modify_119 : ct_Md_modify 119 = ka_get 10 49 := rfl
theorem d_Md_modify_119 : decode prog_12_method_37_code 119 = .ok (.getfield 237, 3) := by decide +kernel
set_option maxRecDepth 100000 in
theorem c_Md_modify_122 : ct_Md_modify 122 = ka_ci (nI 6) 2 := rfl
theorem d_Md_modify_122 : decode prog_12_method_37_code 122 = .ok (.bipush 6, 2) := by decide +kernel
set_option maxRecDepth 100000 in
theorem c_Md_modify_124 : ct_Md_modify 124 = ka_cm (fun x y => x ≤ y) 130 := rfl
theorem d_Md_modify_124 : decode prog_12_method_37_code 124 = .ok (.if_icmp .le 6, 3) := by decide +kernel
set_option maxRecDepth 100000 in
theorem c_Md_modify_127 : ct_Md_modify 127 = ka_ci (nI 53) 2 := rfl
theorem d_Md_modify_127 : decode prog_12_method_37_code 127 = .ok (.bipush 53, 2) := by decide +kernel
set_option maxRecDepth 100000 in
theorem c_Md_modify_129 : ct_Md_modify 129 = ka_ri := rfl
theorem d_Md_modify_129 : decode prog_12_method_37_code 129 = .ok (.ireturn, 1) := by decide +kernel
set_option maxRecDepth 100000 in
theorem c_Md_modify_130 : ct_Md_modify 130 = ka_al 0 1 := rfl
theorem d_Md_modify_130 : decode prog_12_method_37_code 130 = .ok (.aload_n 0, 1) := by decide +kernel
set_option maxRecDepth 100000 in
theorem c_Md_modify_131 : ct_Md_modify 131 = ka_il 1 1 := rfl
theorem d_Md_modify_131 : decode prog_12_method_37_code 131 = .ok (.iload_n 1, 1) := by decide +kernel
set_option maxRecDepth 100000 in
theorem c_Md_modify_132 : ct_Md_modify 132 = ka_cv 127 1 10 0 0 := rfl
theorem d_Md_modify_132 : decode prog_12_method_37_code 132 = .ok (.invokevirtual 264, 3) := by decide +kernel
set_option maxRecDepth 100000 in
theorem c_Md_modify_135 : ct_Md_modify 135 = ka_ci (nI 0) 1 := rfl
theorem d_Md_modify_135 : decode prog_12_method_37_code 135 = .ok (.iconst 0, 1) := by decide +kernel
set_option maxRecDepth 100000 in
theorem c_Md_modify_136 : ct_Md_modify 136 = ka_ri := rfl
theorem d_Md_modify_136 : decode prog_12_method_37_code 136 = .ok (.ireturn, 1) := by decide +kernel
set_option maxRecDepth 100000 in
set_option maxHeartbeats 4000000 in
theorem s_Md_modify_60 : ∀ pc, pc < 60 → kc_Sim kt kw_A kw_N kt_cl kt_En "DirectoryDeskModel" prog_12_method_37_code 4 (some .int) "modify" none pc (ct_Md_modify pc) := by
  let P : Nat → Prop := fun pc => kc_Sim kt kw_A kw_N kt_cl kt_En "DirectoryDeskModel" prog_12_method_37_code 4 (some .int) "modify" none pc (ct_Md_modify pc)
  exact kc_case (P := P) (kc_se c_Md_modify_59 (sm_goto d_Md_modify_59 (by decide))) (
  kc_case (P := P) (kc_se rfl sm_no) (
  kc_case (P := P) (kc_se rfl sm_no) (
  kc_case (P := P) (kc_se c_Md_modify_56 (sm_inc d_Md_modify_56 (by decide) (Nat.le_of_ble_eq_true rfl))) (
  kc_case (P := P) (kc_se rfl sm_no) (
  kc_case (P := P) (kc_se rfl sm_no) (
  kc_case (P := P) (kc_se c_Md_modify_53 (sm_cv (j := 124) rfl rfl kw_o kw_g wc_Md_work (Nat.le_of_ble_eq_true rfl) hd_Md_work (ci := 10) (F := kF_Md) (N := 52) rfl (kw5 56 rfl rfl) wi_Md_work ws_Md_work wn_Md_work d_Md_modify_53)) (
  kc_case (P := P) (kc_se c_Md_modify_52 (sm_lald d_Md_modify_52)) (
  kc_case (P := P) (kc_se c_Md_modify_51 (sm_iadd d_Md_modify_51)) (
  kc_case (P := P) (kc_se c_Md_modify_50 (sm_iload_n d_Md_modify_50 rfl)) (
  kc_case (P := P) (kc_se c_Md_modify_49 (sm_imul d_Md_modify_49)) (
  kc_case (P := P) (kc_se c_Md_modify_48 (sm_iload_n d_Md_modify_48 rfl)) (
  kc_case (P := P) (kc_se rfl sm_no) (
  kc_case (P := P) (kc_se c_Md_modify_46 (sm_bipush d_Md_modify_46 (by decide))) (
  kc_case (P := P) (kc_se rfl sm_no) (
  kc_case (P := P) (kc_se rfl sm_no) (
  kc_case (P := P) (kc_se c_Md_modify_43 (sm_get (ci := 10) (C := "DirectoryDeskModel") (F := kF_Md) rfl kin_Md (Nat.le_of_ble_eq_true rfl) d_Md_modify_43 (kw3 195 rfl rfl))) (
  kc_case (P := P) (kc_se c_Md_modify_42 (sm_aload_n d_Md_modify_42 rfl)) (
  kc_case (P := P) (kc_se c_Md_modify_41 (sm_iald d_Md_modify_41)) (
  kc_case (P := P) (kc_se c_Md_modify_40 (sm_iadd d_Md_modify_40)) (
  kc_case (P := P) (kc_se c_Md_modify_39 (sm_iload_n d_Md_modify_39 rfl)) (
  kc_case (P := P) (kc_se c_Md_modify_38 (sm_imul d_Md_modify_38)) (
  kc_case (P := P) (kc_se c_Md_modify_37 (sm_iload_n d_Md_modify_37 rfl)) (
  kc_case (P := P) (kc_se rfl sm_no) (
  kc_case (P := P) (kc_se c_Md_modify_35 (sm_bipush d_Md_modify_35 (by decide))) (
  kc_case (P := P) (kc_se rfl sm_no) (
  kc_case (P := P) (kc_se rfl sm_no) (
  kc_case (P := P) (kc_se c_Md_modify_32 (sm_get (ci := 10) (C := "DirectoryDeskModel") (F := kF_Md) rfl kin_Md (Nat.le_of_ble_eq_true rfl) d_Md_modify_32 (kw3 194 rfl rfl))) (
  kc_case (P := P) (kc_se c_Md_modify_31 (sm_aload_n d_Md_modify_31 rfl)) (
  kc_case (P := P) (kc_se c_Md_modify_30 (sm_aload_n d_Md_modify_30 rfl)) (
  kc_case (P := P) (kc_se rfl sm_no) (
  kc_case (P := P) (kc_se rfl sm_no) (
  kc_case (P := P) (kc_se c_Md_modify_27 (sm_cm_ge d_Md_modify_27 (by decide))) (
  kc_case (P := P) (kc_se c_Md_modify_26 (sm_iald d_Md_modify_26)) (
  kc_case (P := P) (kc_se c_Md_modify_25 (sm_iload_n d_Md_modify_25 rfl)) (
  kc_case (P := P) (kc_se rfl sm_no) (
  kc_case (P := P) (kc_se rfl sm_no) (
  kc_case (P := P) (kc_se c_Md_modify_22 (sm_get (ci := 10) (C := "DirectoryDeskModel") (F := kF_Md) rfl kin_Md (Nat.le_of_ble_eq_true rfl) d_Md_modify_22 (kw3 193 rfl rfl))) (
  kc_case (P := P) (kc_se c_Md_modify_21 (sm_aload_n d_Md_modify_21 rfl)) (
  kc_case (P := P) (kc_se c_Md_modify_20 (sm_iload_n d_Md_modify_20 rfl)) (
  kc_case (P := P) (kc_se c_Md_modify_19 (sm_istore_n d_Md_modify_19 rfl (Nat.le_of_ble_eq_true rfl))) (
  kc_case (P := P) (kc_se c_Md_modify_18 (sm_iconst d_Md_modify_18 (by decide))) (
  kc_case (P := P) (kc_se rfl sm_no) (
  kc_case (P := P) (kc_se rfl sm_no) (
  kc_case (P := P) (kc_se c_Md_modify_15 (sm_put (ci := 10) (C := "DirectoryDeskModel") (F := kF_Md) rfl kin_Md kty_Md ktk_Md knm_Md (Nat.le_of_ble_eq_true rfl) (by decide +kernel) d_Md_modify_15 (kw3 232 rfl rfl) rfl)) (
  kc_case (P := P) (kc_se c_Md_modify_14 (sm_iconst d_Md_modify_14 (by decide))) (
  kc_case (P := P) (kc_se c_Md_modify_13 (sm_aload_n d_Md_modify_13 rfl)) (
  kc_case (P := P) (kc_se c_Md_modify_12 (sm_ri d_Md_modify_12 rfl)) (
  kc_case (P := P) (kc_se rfl sm_no) (
  kc_case (P := P) (kc_se c_Md_modify_10 (sm_bipush d_Md_modify_10 (by decide))) (
  kc_case (P := P) (kc_se rfl sm_no) (
  kc_case (P := P) (kc_se rfl sm_no) (
  kc_case (P := P) (kc_se c_Md_modify_7 (sm_if_ge d_Md_modify_7 (by decide))) (
  kc_case (P := P) (kc_se c_Md_modify_6 (sm_iload_n d_Md_modify_6 rfl)) (
  kc_case (P := P) (kc_se c_Md_modify_5 (sm_istore_n d_Md_modify_5 rfl (Nat.le_of_ble_eq_true rfl))) (
  kc_case (P := P) (kc_se rfl sm_no) (
  kc_case (P := P) (kc_se rfl sm_no) (
  kc_case (P := P) (kc_se c_Md_modify_2 (sm_cv (j := 109) rfl rfl kw_o kw_g wc_Md_find (Nat.le_of_ble_eq_true rfl) hd_Md_find (ci := 10) (F := kF_Md) (N := 52) rfl (kw4 208 rfl rfl) wi_Md_find ws_Md_find wn_Md_find d_Md_modify_2)) (
  kc_case (P := P) (kc_se c_Md_modify_1 (sm_iconst d_Md_modify_1 (by decide))) (
  kc_case (P := P) (kc_se c_Md_modify_0 (sm_aload_n d_Md_modify_0 rfl)) (
  kc_case0))))))))))))))))))))))))))))))))))))))))))))))))))))))))))))
set_option maxRecDepth 100000 in
set_option maxHeartbeats 4000000 in
theorem s_Md_modify_120 : ∀ pc, pc < 120 → kc_Sim kt kw_A kw_N kt_cl kt_En "DirectoryDeskModel" prog_12_method_37_code 4 (some .int) "modify" none pc (ct_Md_modify pc) := by
  let P : Nat → Prop := fun pc => kc_Sim kt kw_A kw_N kt_cl kt_En "DirectoryDeskModel" prog_12_method_37_code 4 (some .int) "modify" none pc (ct_Md_modify pc)
  exact kc_case (P := P) (kc_se c_Md_modify_119 (sm_get (ci := 10) (C := "DirectoryDeskModel") (F := kF_Md) rfl kin_Md (Nat.le_of_ble_eq_true rfl) d_Md_modify_119 (kw3 232 rfl rfl))) (
  kc_case (P := P) (kc_se c_Md_modify_118 (sm_aload_n d_Md_modify_118 rfl)) (
  kc_case (P := P) (kc_se c_Md_modify_117 (sm_ri d_Md_modify_117 rfl)) (
  kc_case (P := P) (kc_se rfl sm_no) (
  kc_case (P := P) (kc_se c_Md_modify_115 (sm_bipush d_Md_modify_115 (by decide))) (
  kc_case (P := P) (kc_se rfl sm_no) (
  kc_case (P := P) (kc_se rfl sm_no) (
  kc_case (P := P) (kc_se c_Md_modify_112 (sm_if_ge d_Md_modify_112 (by decide))) (
  kc_case (P := P) (kc_se rfl sm_no) (
  kc_case (P := P) (kc_se rfl sm_no) (
  kc_case (P := P) (kc_se c_Md_modify_109 (sm_cv (j := 123) rfl rfl kw_o kw_g wc_Md_workAt (Nat.le_of_ble_eq_true rfl) hd_Md_workAt (ci := 10) (F := kF_Md) (N := 52) rfl (kw5 52 rfl rfl) wi_Md_workAt ws_Md_workAt wn_Md_workAt d_Md_modify_109)) (
  kc_case (P := P) (kc_se c_Md_modify_108 (sm_lald d_Md_modify_108)) (
  kc_case (P := P) (kc_se c_Md_modify_107 (sm_iconst d_Md_modify_107 (by decide))) (
  kc_case (P := P) (kc_se rfl sm_no) (
  kc_case (P := P) (kc_se rfl sm_no) (
  kc_case (P := P) (kc_se c_Md_modify_104 (sm_get (ci := 10) (C := "DirectoryDeskModel") (F := kF_Md) rfl kin_Md (Nat.le_of_ble_eq_true rfl) d_Md_modify_104 (kw3 205 rfl rfl))) (
  kc_case (P := P) (kc_se c_Md_modify_103 (sm_aload_n d_Md_modify_103 rfl)) (
  kc_case (P := P) (kc_se c_Md_modify_102 (sm_iald d_Md_modify_102)) (
  kc_case (P := P) (kc_se c_Md_modify_101 (sm_iconst d_Md_modify_101 (by decide))) (
  kc_case (P := P) (kc_se rfl sm_no) (
  kc_case (P := P) (kc_se rfl sm_no) (
  kc_case (P := P) (kc_se c_Md_modify_98 (sm_get (ci := 10) (C := "DirectoryDeskModel") (F := kF_Md) rfl kin_Md (Nat.le_of_ble_eq_true rfl) d_Md_modify_98 (kw3 204 rfl rfl))) (
  kc_case (P := P) (kc_se c_Md_modify_97 (sm_aload_n d_Md_modify_97 rfl)) (
  kc_case (P := P) (kc_se c_Md_modify_96 (sm_aload_n d_Md_modify_96 rfl)) (
  kc_case (P := P) (kc_se rfl sm_no) (
  kc_case (P := P) (kc_se rfl sm_no) (
  kc_case (P := P) (kc_se c_Md_modify_93 (sm_goto d_Md_modify_93 (by decide))) (
  kc_case (P := P) (kc_se rfl sm_no) (
  kc_case (P := P) (kc_se rfl sm_no) (
  kc_case (P := P) (kc_se c_Md_modify_90 (sm_inc d_Md_modify_90 (by decide) (Nat.le_of_ble_eq_true rfl))) (
  kc_case (P := P) (kc_se c_Md_modify_89 (sm_ri d_Md_modify_89 rfl)) (
  kc_case (P := P) (kc_se c_Md_modify_88 (sm_iload_n d_Md_modify_88 rfl)) (
  kc_case (P := P) (kc_se rfl sm_no) (
  kc_case (P := P) (kc_se rfl sm_no) (
  kc_case (P := P) (kc_se c_Md_modify_85 (sm_if_eq d_Md_modify_85 (by decide))) (
  kc_case (P := P) (kc_se c_Md_modify_84 (sm_iload_n d_Md_modify_84 rfl)) (
  kc_case (P := P) (kc_se c_Md_modify_83 (sm_istore_n d_Md_modify_83 rfl (Nat.le_of_ble_eq_true rfl))) (
  kc_case (P := P) (kc_se rfl sm_no) (
  kc_case (P := P) (kc_se rfl sm_no) (
  kc_case (P := P) (kc_se c_Md_modify_80 (sm_cv (j := 128) rfl rfl kw_o kw_g wc_Md_workIn (Nat.le_of_ble_eq_true rfl) hd_Md_workIn (ci := 10) (F := kF_Md) (N := 52) rfl (kw5 40 rfl rfl) wi_Md_workIn ws_Md_workIn wn_Md_workIn d_Md_modify_80)) (
  kc_case (P := P) (kc_se c_Md_modify_79 (sm_iald d_Md_modify_79)) (
  kc_case (P := P) (kc_se c_Md_modify_78 (sm_iload_n d_Md_modify_78 rfl)) (
  kc_case (P := P) (kc_se rfl sm_no) (
  kc_case (P := P) (kc_se rfl sm_no) (
  kc_case (P := P) (kc_se c_Md_modify_75 (sm_get (ci := 10) (C := "DirectoryDeskModel") (F := kF_Md) rfl kin_Md (Nat.le_of_ble_eq_true rfl) d_Md_modify_75 (kw3 217 rfl rfl))) (
  kc_case (P := P) (kc_se c_Md_modify_74 (sm_aload_n d_Md_modify_74 rfl)) (
  kc_case (P := P) (kc_se c_Md_modify_73 (sm_iload_n d_Md_modify_73 rfl)) (
  kc_case (P := P) (kc_se c_Md_modify_72 (sm_aload_n d_Md_modify_72 rfl)) (
  kc_case (P := P) (kc_se rfl sm_no) (
  kc_case (P := P) (kc_se rfl sm_no) (
  kc_case (P := P) (kc_se c_Md_modify_69 (sm_cm_ge d_Md_modify_69 (by decide))) (
  kc_case (P := P) (kc_se rfl sm_no) (
  kc_case (P := P) (kc_se rfl sm_no) (
  kc_case (P := P) (kc_se c_Md_modify_66 (sm_get (ci := 10) (C := "DirectoryDeskModel") (F := kF_Md) rfl kin_Md (Nat.le_of_ble_eq_true rfl) d_Md_modify_66 (kw3 216 rfl rfl))) (
  kc_case (P := P) (kc_se c_Md_modify_65 (sm_aload_n d_Md_modify_65 rfl)) (
  kc_case (P := P) (kc_se c_Md_modify_64 (sm_iload_n d_Md_modify_64 rfl)) (
  kc_case (P := P) (kc_se c_Md_modify_63 (sm_istore_n d_Md_modify_63 rfl (Nat.le_of_ble_eq_true rfl))) (
  kc_case (P := P) (kc_se c_Md_modify_62 (sm_iconst d_Md_modify_62 (by decide))) (
  kc_case (P := P) (kc_se rfl sm_no) (
  kc_case (P := P) (kc_se rfl sm_no) (
  s_Md_modify_60))))))))))))))))))))))))))))))))))))))))))))))))))))))))))))
set_option maxRecDepth 100000 in
set_option maxHeartbeats 4000000 in
theorem s_Md_modify_137 : ∀ pc, pc < 137 → kc_Sim kt kw_A kw_N kt_cl kt_En "DirectoryDeskModel" prog_12_method_37_code 4 (some .int) "modify" none pc (ct_Md_modify pc) := by
  let P : Nat → Prop := fun pc => kc_Sim kt kw_A kw_N kt_cl kt_En "DirectoryDeskModel" prog_12_method_37_code 4 (some .int) "modify" none pc (ct_Md_modify pc)
  exact kc_case (P := P) (kc_se c_Md_modify_136 (sm_ri d_Md_modify_136 rfl)) (
  kc_case (P := P) (kc_se c_Md_modify_135 (sm_iconst d_Md_modify_135 (by decide))) (
  kc_case (P := P) (kc_se rfl sm_no) (
  kc_case (P := P) (kc_se rfl sm_no) (
  kc_case (P := P) (kc_se c_Md_modify_132 (sm_cv (j := 127) rfl rfl kw_o kw_g wc_Md_settle (Nat.le_of_ble_eq_true rfl) hd_Md_settle (ci := 10) (F := kF_Md) (N := 52) rfl (kw5 60 rfl rfl) wi_Md_settle ws_Md_settle wn_Md_settle d_Md_modify_132)) (
  kc_case (P := P) (kc_se c_Md_modify_131 (sm_iload_n d_Md_modify_131 rfl)) (
  kc_case (P := P) (kc_se c_Md_modify_130 (sm_aload_n d_Md_modify_130 rfl)) (
  kc_case (P := P) (kc_se c_Md_modify_129 (sm_ri d_Md_modify_129 rfl)) (
  kc_case (P := P) (kc_se rfl sm_no) (
  kc_case (P := P) (kc_se c_Md_modify_127 (sm_bipush d_Md_modify_127 (by decide))) (
  kc_case (P := P) (kc_se rfl sm_no) (
  kc_case (P := P) (kc_se rfl sm_no) (
  kc_case (P := P) (kc_se c_Md_modify_124 (sm_cm_le d_Md_modify_124 (by decide))) (
  kc_case (P := P) (kc_se rfl sm_no) (
  kc_case (P := P) (kc_se c_Md_modify_122 (sm_bipush d_Md_modify_122 (by decide))) (
  kc_case (P := P) (kc_se rfl sm_no) (
  kc_case (P := P) (kc_se rfl sm_no) (
  s_Md_modify_120)))))))))))))))))
set_option maxRecDepth 100000 in
theorem ka_nth_no_Md_modify (pc : Nat) (h : 137 ≤ pc) : ct_Md_modify pc = ka_no := ka_nth_ge _ pc (Nat.le_trans (Nat.le_of_eq (by rfl)) h)
theorem s_Md_modify (pc : Nat) : kc_Sim kt kw_A kw_N kt_cl kt_En "DirectoryDeskModel" prog_12_method_37_code 4 (some .int) "modify" none pc (ct_Md_modify pc) := (Nat.lt_or_ge pc 137).elim (s_Md_modify_137 pc) (fun h => kc_se (ka_nth_no_Md_modify pc h) sm_no)
def cl_Md_judgeLeaf_0 : List kc_A := [ka_al 0 1, ka_get 10 43, ka_no, ka_no, ka_il 1 1, ka_iald, ka_is 3 1, ka_al 0 1, ka_get 10 41, ka_no, ka_no, ka_il 1 1, ka_iald, ka_ci (nI 165) 3, ka_no, ka_no, ka_cm (fun x y => x = y) 31, ka_no, ka_no, ka_al 0 1, ka_get 10 41, ka_no, ka_no, ka_il 1 1, ka_iald, ka_ci (nI 166) 3, ka_no, ka_no, ka_cm (fun x y => ¬ x = y) 35, ka_no, ka_no, ka_ci (nI 1) 1, ka_goto 36, ka_no, ka_no, ka_ci (nI 0) 1, ka_is 4 2, ka_no, ka_il 3 1, ka_ci (-1) 1, ka_cm (fun x y => x = y) 79, ka_no, ka_no, ka_al 0 1, ka_get 10 41, ka_no, ka_no, ka_il 1 1, ka_iald, ka_ci (nI 135) 3, ka_no, ka_no, ka_cm (fun x y => x = y) 68, ka_no, ka_no, ka_al 0 1, ka_get 10 44, ka_no, ka_no, ka_il 1 1]
def cl_Md_judgeLeaf_1 : List kc_A := [ka_lald, ka_cl (-1) 3, ka_no, ka_no, ka_lcmp, ka_if (fun x => x = 0) 79, ka_no, ka_no, ka_il 4 2, ka_no, ka_if (fun x => x = 0) 81, ka_no, ka_no, ka_il 3 1, ka_ci (nI 100) 2, ka_no, ka_cm (fun x y => y ≤ x) 81, ka_no, ka_no, ka_ci (nI 2) 1, ka_ri, ka_ci (nI 0) 1, ka_is 5 2, ka_no, ka_ci (nI 6) 2, ka_no, ka_il 2 1, ka_ii (fun x y => x * y), ka_is 6 2, ka_no, ka_il 6 2, ka_no, ka_ci (nI 6) 2, ka_no, ka_il 2 1, ka_ii (fun x y => x * y), ka_al 0 1, ka_get 10 10, ka_no, ka_no, ka_il 2 1, ka_iald, ka_ii (fun x y => x + y), ka_cm (fun x y => y ≤ x) 234, ka_no, ka_no, ka_al 0 1, ka_get 10 12, ka_no, ka_no, ka_il 6 2, ka_no, ka_lald, ka_ls 7 2, ka_no, ka_al 0 1, ka_get 10 41, ka_no, ka_no, ka_il 1 1]
def cl_Md_judgeLeaf_2 : List kc_A := [ka_iald, ka_ci (nI 135) 3, ka_no, ka_no, ka_cm (fun x y => x = y) 193, ka_no, ka_no, ka_al 0 1, ka_get 10 41, ka_no, ka_no, ka_il 1 1, ka_iald, ka_ci (nI 163) 3, ka_no, ka_no, ka_cm (fun x y => ¬ x = y) 154, ka_no, ka_no, ka_ll 7 2, ka_no, ka_al 0 1, ka_get 10 44, ka_no, ka_no, ka_il 1 1, ka_lald, ka_lcmp, ka_if (fun x => ¬ x = 0) 197, ka_no, ka_no, ka_goto 193, ka_no, ka_no, ka_al 0 1, ka_get 10 41, ka_no, ka_no, ka_il 1 1, ka_iald, ka_ci (nI 165) 3, ka_no, ka_no, ka_cm (fun x y => ¬ x = y) 181, ka_no, ka_no, ka_ll 7 2, ka_no, ka_al 0 1, ka_get 10 44, ka_no, ka_no, ka_il 1 1, ka_lald, ka_lcmp, ka_if (fun x => x < 0) 197, ka_no, ka_no, ka_goto 193, ka_no]
def cl_Md_judgeLeaf_3 : List kc_A := [ka_no, ka_ll 7 2, ka_no, ka_al 0 1, ka_get 10 44, ka_no, ka_no, ka_il 1 1, ka_lald, ka_lcmp, ka_if (fun x => 0 < x) 197, ka_no, ka_no, ka_ci (nI 1) 1, ka_goto 198, ka_no, ka_no, ka_ci (nI 0) 1, ka_is 9 2, ka_no, ka_il 5 2, ka_no, ka_if (fun x => ¬ x = 0) 221, ka_no, ka_no, ka_al 0 1, ka_get 10 11, ka_no, ka_no, ka_il 6 2, ka_no, ka_iald, ka_il 3 1, ka_cm (fun x y => ¬ x = y) 225, ka_no, ka_no, ka_il 9 2, ka_no, ka_if (fun x => x = 0) 225, ka_no, ka_no, ka_ci (nI 1) 1, ka_goto 226, ka_no, ka_no, ka_ci (nI 0) 1, ka_is 5 2, ka_no, ka_inc 6 (nI 1), ka_no, ka_no, ka_goto 90, ka_no, ka_no, ka_il 5 2, ka_no, ka_if (fun x => x = 0) 243, ka_no, ka_no, ka_ci (nI 1) 1]
def cl_Md_judgeLeaf_4 : List kc_A := [ka_goto 244, ka_no, ka_no, ka_ci (nI 0) 1, ka_ri]
def ct_Md_judgeLeaf : Nat → kc_A := fun pc => ka_nth (cl_Md_judgeLeaf_0 ++ (cl_Md_judgeLeaf_1 ++ (cl_Md_judgeLeaf_2 ++ (cl_Md_judgeLeaf_3 ++ (cl_Md_judgeLeaf_4))))) pc
set_option maxRecDepth 100000 in
theorem c_Md_judgeLeaf_0 : ct_Md_judgeLeaf 0 = ka_al 0 1 := rfl
theorem d_Md_judgeLeaf_0 : decode prog_12_method_38_code 0 = .ok (.aload_n 0, 1) := by decide +kernel
set_option maxRecDepth 100000 in
theorem c_Md_judgeLeaf_1 : ct_Md_judgeLeaf 1 = ka_get 10 43 := rfl
theorem d_Md_judgeLeaf_1 : decode prog_12_method_38_code 1 = .ok (.getfield 62, 3) := by decide +kernel
set_option maxRecDepth 100000 in
theorem c_Md_judgeLeaf_4 : ct_Md_judgeLeaf 4 = ka_il 1 1 := rfl
theorem d_Md_judgeLeaf_4 : decode prog_12_method_38_code 4 = .ok (.iload_n 1, 1) := by decide +kernel
set_option maxRecDepth 100000 in
theorem c_Md_judgeLeaf_5 : ct_Md_judgeLeaf 5 = ka_iald := rfl
theorem d_Md_judgeLeaf_5 : decode prog_12_method_38_code 5 = .ok (.iaload, 1) := by decide +kernel
set_option maxRecDepth 100000 in
theorem c_Md_judgeLeaf_6 : ct_Md_judgeLeaf 6 = ka_is 3 1 := rfl
theorem d_Md_judgeLeaf_6 : decode prog_12_method_38_code 6 = .ok (.istore_n 3, 1) := by decide +kernel
set_option maxRecDepth 100000 in
theorem c_Md_judgeLeaf_7 : ct_Md_judgeLeaf 7 = ka_al 0 1 := rfl
theorem d_Md_judgeLeaf_7 : decode prog_12_method_38_code 7 = .ok (.aload_n 0, 1) := by decide +kernel
set_option maxRecDepth 100000 in
theorem c_Md_judgeLeaf_8 : ct_Md_judgeLeaf 8 = ka_get 10 41 := rfl
theorem d_Md_judgeLeaf_8 : decode prog_12_method_38_code 8 = .ok (.getfield 56, 3) := by decide +kernel
set_option maxRecDepth 100000 in
theorem c_Md_judgeLeaf_11 : ct_Md_judgeLeaf 11 = ka_il 1 1 := rfl
theorem d_Md_judgeLeaf_11 : decode prog_12_method_38_code 11 = .ok (.iload_n 1, 1) := by decide +kernel
set_option maxRecDepth 100000 in
theorem c_Md_judgeLeaf_12 : ct_Md_judgeLeaf 12 = ka_iald := rfl
theorem d_Md_judgeLeaf_12 : decode prog_12_method_38_code 12 = .ok (.iaload, 1) := by decide +kernel
set_option maxRecDepth 100000 in
theorem c_Md_judgeLeaf_13 : ct_Md_judgeLeaf 13 = ka_ci (nI 165) 3 := rfl
theorem d_Md_judgeLeaf_13 : decode prog_12_method_38_code 13 = .ok (.sipush 165, 3) := by decide +kernel
set_option maxRecDepth 100000 in
theorem c_Md_judgeLeaf_16 : ct_Md_judgeLeaf 16 = ka_cm (fun x y => x = y) 31 := rfl
theorem d_Md_judgeLeaf_16 : decode prog_12_method_38_code 16 = .ok (.if_icmp .eq 15, 3) := by decide +kernel
set_option maxRecDepth 100000 in
theorem c_Md_judgeLeaf_19 : ct_Md_judgeLeaf 19 = ka_al 0 1 := rfl
theorem d_Md_judgeLeaf_19 : decode prog_12_method_38_code 19 = .ok (.aload_n 0, 1) := by decide +kernel
set_option maxRecDepth 100000 in
theorem c_Md_judgeLeaf_20 : ct_Md_judgeLeaf 20 = ka_get 10 41 := rfl
theorem d_Md_judgeLeaf_20 : decode prog_12_method_38_code 20 = .ok (.getfield 56, 3) := by decide +kernel
set_option maxRecDepth 100000 in
theorem c_Md_judgeLeaf_23 : ct_Md_judgeLeaf 23 = ka_il 1 1 := rfl
theorem d_Md_judgeLeaf_23 : decode prog_12_method_38_code 23 = .ok (.iload_n 1, 1) := by decide +kernel
set_option maxRecDepth 100000 in
theorem c_Md_judgeLeaf_24 : ct_Md_judgeLeaf 24 = ka_iald := rfl
theorem d_Md_judgeLeaf_24 : decode prog_12_method_38_code 24 = .ok (.iaload, 1) := by decide +kernel
set_option maxRecDepth 100000 in
theorem c_Md_judgeLeaf_25 : ct_Md_judgeLeaf 25 = ka_ci (nI 166) 3 := rfl
theorem d_Md_judgeLeaf_25 : decode prog_12_method_38_code 25 = .ok (.sipush 166, 3) := by decide +kernel
set_option maxRecDepth 100000 in
theorem c_Md_judgeLeaf_28 : ct_Md_judgeLeaf 28 = ka_cm (fun x y => ¬ x = y) 35 := rfl
theorem d_Md_judgeLeaf_28 : decode prog_12_method_38_code 28 = .ok (.if_icmp .ne 7, 3) := by decide +kernel
set_option maxRecDepth 100000 in
theorem c_Md_judgeLeaf_31 : ct_Md_judgeLeaf 31 = ka_ci (nI 1) 1 := rfl
theorem d_Md_judgeLeaf_31 : decode prog_12_method_38_code 31 = .ok (.iconst 1, 1) := by decide +kernel
set_option maxRecDepth 100000 in
theorem c_Md_judgeLeaf_32 : ct_Md_judgeLeaf 32 = ka_goto 36 := rfl
theorem d_Md_judgeLeaf_32 : decode prog_12_method_38_code 32 = .ok (.goto 4, 3) := by decide +kernel
set_option maxRecDepth 100000 in
theorem c_Md_judgeLeaf_35 : ct_Md_judgeLeaf 35 = ka_ci (nI 0) 1 := rfl
theorem d_Md_judgeLeaf_35 : decode prog_12_method_38_code 35 = .ok (.iconst 0, 1) := by decide +kernel
set_option maxRecDepth 100000 in
theorem c_Md_judgeLeaf_36 : ct_Md_judgeLeaf 36 = ka_is 4 2 := rfl
theorem d_Md_judgeLeaf_36 : decode prog_12_method_38_code 36 = .ok (.istore 4, 2) := by decide +kernel
set_option maxRecDepth 100000 in
theorem c_Md_judgeLeaf_38 : ct_Md_judgeLeaf 38 = ka_il 3 1 := rfl
theorem d_Md_judgeLeaf_38 : decode prog_12_method_38_code 38 = .ok (.iload_n 3, 1) := by decide +kernel
set_option maxRecDepth 100000 in
theorem c_Md_judgeLeaf_39 : ct_Md_judgeLeaf 39 = ka_ci (-1) 1 := rfl
theorem d_Md_judgeLeaf_39 : decode prog_12_method_38_code 39 = .ok (.iconst (-1), 1) := by decide +kernel
set_option maxRecDepth 100000 in
theorem c_Md_judgeLeaf_40 : ct_Md_judgeLeaf 40 = ka_cm (fun x y => x = y) 79 := rfl
theorem d_Md_judgeLeaf_40 : decode prog_12_method_38_code 40 = .ok (.if_icmp .eq 39, 3) := by decide +kernel
set_option maxRecDepth 100000 in
theorem c_Md_judgeLeaf_43 : ct_Md_judgeLeaf 43 = ka_al 0 1 := rfl
theorem d_Md_judgeLeaf_43 : decode prog_12_method_38_code 43 = .ok (.aload_n 0, 1) := by decide +kernel
set_option maxRecDepth 100000 in
theorem c_Md_judgeLeaf_44 : ct_Md_judgeLeaf 44 = ka_get 10 41 := rfl
theorem d_Md_judgeLeaf_44 : decode prog_12_method_38_code 44 = .ok (.getfield 56, 3) := by decide +kernel
set_option maxRecDepth 100000 in
theorem c_Md_judgeLeaf_47 : ct_Md_judgeLeaf 47 = ka_il 1 1 := rfl
theorem d_Md_judgeLeaf_47 : decode prog_12_method_38_code 47 = .ok (.iload_n 1, 1) := by decide +kernel
set_option maxRecDepth 100000 in
theorem c_Md_judgeLeaf_48 : ct_Md_judgeLeaf 48 = ka_iald := rfl
theorem d_Md_judgeLeaf_48 : decode prog_12_method_38_code 48 = .ok (.iaload, 1) := by decide +kernel
set_option maxRecDepth 100000 in
theorem c_Md_judgeLeaf_49 : ct_Md_judgeLeaf 49 = ka_ci (nI 135) 3 := rfl
theorem d_Md_judgeLeaf_49 : decode prog_12_method_38_code 49 = .ok (.sipush 135, 3) := by decide +kernel
set_option maxRecDepth 100000 in
theorem c_Md_judgeLeaf_52 : ct_Md_judgeLeaf 52 = ka_cm (fun x y => x = y) 68 := rfl
theorem d_Md_judgeLeaf_52 : decode prog_12_method_38_code 52 = .ok (.if_icmp .eq 16, 3) := by decide +kernel
set_option maxRecDepth 100000 in
theorem c_Md_judgeLeaf_55 : ct_Md_judgeLeaf 55 = ka_al 0 1 := rfl
theorem d_Md_judgeLeaf_55 : decode prog_12_method_38_code 55 = .ok (.aload_n 0, 1) := by decide +kernel
set_option maxRecDepth 100000 in
theorem c_Md_judgeLeaf_56 : ct_Md_judgeLeaf 56 = ka_get 10 44 := rfl
theorem d_Md_judgeLeaf_56 : decode prog_12_method_38_code 56 = .ok (.getfield 65, 3) := by decide +kernel
set_option maxRecDepth 100000 in
theorem c_Md_judgeLeaf_59 : ct_Md_judgeLeaf 59 = ka_il 1 1 := rfl
theorem d_Md_judgeLeaf_59 : decode prog_12_method_38_code 59 = .ok (.iload_n 1, 1) := by decide +kernel
set_option maxRecDepth 100000 in
theorem c_Md_judgeLeaf_60 : ct_Md_judgeLeaf 60 = ka_lald := rfl
theorem d_Md_judgeLeaf_60 : decode prog_12_method_38_code 60 = .ok (.laload, 1) := by decide +kernel
set_option maxRecDepth 100000 in
theorem c_Md_judgeLeaf_61 : ct_Md_judgeLeaf 61 = ka_cl (-1) 3 := rfl
theorem d_Md_judgeLeaf_61 : decode prog_12_method_38_code 61 = .ok (.ldc2_w 120, 3) := by decide +kernel
set_option maxRecDepth 100000 in
theorem c_Md_judgeLeaf_64 : ct_Md_judgeLeaf 64 = ka_lcmp := rfl
theorem d_Md_judgeLeaf_64 : decode prog_12_method_38_code 64 = .ok (.lcmp, 1) := by decide +kernel
set_option maxRecDepth 100000 in
theorem c_Md_judgeLeaf_65 : ct_Md_judgeLeaf 65 = ka_if (fun x => x = 0) 79 := rfl
theorem d_Md_judgeLeaf_65 : decode prog_12_method_38_code 65 = .ok (.ifCond .eq 14, 3) := by decide +kernel
set_option maxRecDepth 100000 in
theorem c_Md_judgeLeaf_68 : ct_Md_judgeLeaf 68 = ka_il 4 2 := rfl
theorem d_Md_judgeLeaf_68 : decode prog_12_method_38_code 68 = .ok (.iload 4, 2) := by decide +kernel
set_option maxRecDepth 100000 in
theorem c_Md_judgeLeaf_70 : ct_Md_judgeLeaf 70 = ka_if (fun x => x = 0) 81 := rfl
theorem d_Md_judgeLeaf_70 : decode prog_12_method_38_code 70 = .ok (.ifCond .eq 11, 3) := by decide +kernel
set_option maxRecDepth 100000 in
theorem c_Md_judgeLeaf_73 : ct_Md_judgeLeaf 73 = ka_il 3 1 := rfl
theorem d_Md_judgeLeaf_73 : decode prog_12_method_38_code 73 = .ok (.iload_n 3, 1) := by decide +kernel
set_option maxRecDepth 100000 in
theorem c_Md_judgeLeaf_74 : ct_Md_judgeLeaf 74 = ka_ci (nI 100) 2 := rfl
theorem d_Md_judgeLeaf_74 : decode prog_12_method_38_code 74 = .ok (.bipush 100, 2) := by decide +kernel
set_option maxRecDepth 100000 in
theorem c_Md_judgeLeaf_76 : ct_Md_judgeLeaf 76 = ka_cm (fun x y => y ≤ x) 81 := rfl
theorem d_Md_judgeLeaf_76 : decode prog_12_method_38_code 76 = .ok (.if_icmp .ge 5, 3) := by decide +kernel
set_option maxRecDepth 100000 in
theorem c_Md_judgeLeaf_79 : ct_Md_judgeLeaf 79 = ka_ci (nI 2) 1 := rfl
theorem d_Md_judgeLeaf_79 : decode prog_12_method_38_code 79 = .ok (.iconst 2, 1) := by decide +kernel
set_option maxRecDepth 100000 in
theorem c_Md_judgeLeaf_80 : ct_Md_judgeLeaf 80 = ka_ri := rfl
theorem d_Md_judgeLeaf_80 : decode prog_12_method_38_code 80 = .ok (.ireturn, 1) := by decide +kernel
set_option maxRecDepth 100000 in
theorem c_Md_judgeLeaf_81 : ct_Md_judgeLeaf 81 = ka_ci (nI 0) 1 := rfl
theorem d_Md_judgeLeaf_81 : decode prog_12_method_38_code 81 = .ok (.iconst 0, 1) := by decide +kernel
set_option maxRecDepth 100000 in
theorem c_Md_judgeLeaf_82 : ct_Md_judgeLeaf 82 = ka_is 5 2 := rfl
theorem d_Md_judgeLeaf_82 : decode prog_12_method_38_code 82 = .ok (.istore 5, 2) := by decide +kernel
set_option maxRecDepth 100000 in
theorem c_Md_judgeLeaf_84 : ct_Md_judgeLeaf 84 = ka_ci (nI 6) 2 := rfl
theorem d_Md_judgeLeaf_84 : decode prog_12_method_38_code 84 = .ok (.bipush 6, 2) := by decide +kernel
set_option maxRecDepth 100000 in
theorem c_Md_judgeLeaf_86 : ct_Md_judgeLeaf 86 = ka_il 2 1 := rfl
theorem d_Md_judgeLeaf_86 : decode prog_12_method_38_code 86 = .ok (.iload_n 2, 1) := by decide +kernel
set_option maxRecDepth 100000 in
theorem c_Md_judgeLeaf_87 : ct_Md_judgeLeaf 87 = ka_ii (fun x y => x * y) := rfl
theorem d_Md_judgeLeaf_87 : decode prog_12_method_38_code 87 = .ok (.imul, 1) := by decide +kernel
set_option maxRecDepth 100000 in
theorem c_Md_judgeLeaf_88 : ct_Md_judgeLeaf 88 = ka_is 6 2 := rfl
theorem d_Md_judgeLeaf_88 : decode prog_12_method_38_code 88 = .ok (.istore 6, 2) := by decide +kernel
set_option maxRecDepth 100000 in
theorem c_Md_judgeLeaf_90 : ct_Md_judgeLeaf 90 = ka_il 6 2 := rfl
theorem d_Md_judgeLeaf_90 : decode prog_12_method_38_code 90 = .ok (.iload 6, 2) := by decide +kernel
set_option maxRecDepth 100000 in
theorem c_Md_judgeLeaf_92 : ct_Md_judgeLeaf 92 = ka_ci (nI 6) 2 := rfl
theorem d_Md_judgeLeaf_92 : decode prog_12_method_38_code 92 = .ok (.bipush 6, 2) := by decide +kernel
set_option maxRecDepth 100000 in
theorem c_Md_judgeLeaf_94 : ct_Md_judgeLeaf 94 = ka_il 2 1 := rfl
theorem d_Md_judgeLeaf_94 : decode prog_12_method_38_code 94 = .ok (.iload_n 2, 1) := by decide +kernel
set_option maxRecDepth 100000 in
theorem c_Md_judgeLeaf_95 : ct_Md_judgeLeaf 95 = ka_ii (fun x y => x * y) := rfl
theorem d_Md_judgeLeaf_95 : decode prog_12_method_38_code 95 = .ok (.imul, 1) := by decide +kernel
set_option maxRecDepth 100000 in
theorem c_Md_judgeLeaf_96 : ct_Md_judgeLeaf 96 = ka_al 0 1 := rfl
theorem d_Md_judgeLeaf_96 : decode prog_12_method_38_code 96 = .ok (.aload_n 0, 1) := by decide +kernel
set_option maxRecDepth 100000 in
theorem c_Md_judgeLeaf_97 : ct_Md_judgeLeaf 97 = ka_get 10 10 := rfl
theorem d_Md_judgeLeaf_97 : decode prog_12_method_38_code 97 = .ok (.getfield 26, 3) := by decide +kernel
set_option maxRecDepth 100000 in
theorem c_Md_judgeLeaf_100 : ct_Md_judgeLeaf 100 = ka_il 2 1 := rfl
theorem d_Md_judgeLeaf_100 : decode prog_12_method_38_code 100 = .ok (.iload_n 2, 1) := by decide +kernel
set_option maxRecDepth 100000 in
theorem c_Md_judgeLeaf_101 : ct_Md_judgeLeaf 101 = ka_iald := rfl
theorem d_Md_judgeLeaf_101 : decode prog_12_method_38_code 101 = .ok (.iaload, 1) := by decide +kernel
set_option maxRecDepth 100000 in
theorem c_Md_judgeLeaf_102 : ct_Md_judgeLeaf 102 = ka_ii (fun x y => x + y) := rfl
theorem d_Md_judgeLeaf_102 : decode prog_12_method_38_code 102 = .ok (.iadd, 1) := by decide +kernel
set_option maxRecDepth 100000 in
theorem c_Md_judgeLeaf_103 : ct_Md_judgeLeaf 103 = ka_cm (fun x y => y ≤ x) 234 := rfl
theorem d_Md_judgeLeaf_103 : decode prog_12_method_38_code 103 = .ok (.if_icmp .ge 131, 3) := by decide +kernel
set_option maxRecDepth 100000 in
theorem c_Md_judgeLeaf_106 : ct_Md_judgeLeaf 106 = ka_al 0 1 := rfl
theorem d_Md_judgeLeaf_106 : decode prog_12_method_38_code 106 = .ok (.aload_n 0, 1) := by decide +kernel
set_option maxRecDepth 100000 in
theorem c_Md_judgeLeaf_107 : ct_Md_judgeLeaf 107 = ka_get 10 12 := rfl
theorem d_Md_judgeLeaf_107 : decode prog_12_method_38_code 107 = .ok (.getfield 32, 3) := by decide +kernel
set_option maxRecDepth 100000 in
theorem c_Md_judgeLeaf_110 : ct_Md_judgeLeaf 110 = ka_il 6 2 := rfl
theorem d_Md_judgeLeaf_110 : decode prog_12_method_38_code 110 = .ok (.iload 6, 2) := by decide +kernel
set_option maxRecDepth 100000 in
theorem c_Md_judgeLeaf_112 : ct_Md_judgeLeaf 112 = ka_lald := rfl
theorem d_Md_judgeLeaf_112 : decode prog_12_method_38_code 112 = .ok (.laload, 1) := by decide +kernel
set_option maxRecDepth 100000 in
theorem c_Md_judgeLeaf_113 : ct_Md_judgeLeaf 113 = ka_ls 7 2 := rfl
theorem d_Md_judgeLeaf_113 : decode prog_12_method_38_code 113 = .ok (.lstore 7, 2) := by decide +kernel
set_option maxRecDepth 100000 in
theorem c_Md_judgeLeaf_115 : ct_Md_judgeLeaf 115 = ka_al 0 1 := rfl
theorem d_Md_judgeLeaf_115 : decode prog_12_method_38_code 115 = .ok (.aload_n 0, 1) := by decide +kernel
set_option maxRecDepth 100000 in
theorem c_Md_judgeLeaf_116 : ct_Md_judgeLeaf 116 = ka_get 10 41 := rfl
theorem d_Md_judgeLeaf_116 : decode prog_12_method_38_code 116 = .ok (.getfield 56, 3) := by decide +kernel
set_option maxRecDepth 100000 in
theorem c_Md_judgeLeaf_119 : ct_Md_judgeLeaf 119 = ka_il 1 1 := rfl
theorem d_Md_judgeLeaf_119 : decode prog_12_method_38_code 119 = .ok (.iload_n 1, 1) := by decide +kernel
set_option maxRecDepth 100000 in
theorem c_Md_judgeLeaf_120 : ct_Md_judgeLeaf 120 = ka_iald := rfl
theorem d_Md_judgeLeaf_120 : decode prog_12_method_38_code 120 = .ok (.iaload, 1) := by decide +kernel
set_option maxRecDepth 100000 in
theorem c_Md_judgeLeaf_121 : ct_Md_judgeLeaf 121 = ka_ci (nI 135) 3 := rfl
theorem d_Md_judgeLeaf_121 : decode prog_12_method_38_code 121 = .ok (.sipush 135, 3) := by decide +kernel
set_option maxRecDepth 100000 in
theorem c_Md_judgeLeaf_124 : ct_Md_judgeLeaf 124 = ka_cm (fun x y => x = y) 193 := rfl
theorem d_Md_judgeLeaf_124 : decode prog_12_method_38_code 124 = .ok (.if_icmp .eq 69, 3) := by decide +kernel
set_option maxRecDepth 100000 in
theorem c_Md_judgeLeaf_127 : ct_Md_judgeLeaf 127 = ka_al 0 1 := rfl
theorem d_Md_judgeLeaf_127 : decode prog_12_method_38_code 127 = .ok (.aload_n 0, 1) := by decide +kernel
set_option maxRecDepth 100000 in
theorem c_Md_judgeLeaf_128 : ct_Md_judgeLeaf 128 = ka_get 10 41 := rfl
theorem d_Md_judgeLeaf_128 : decode prog_12_method_38_code 128 = .ok (.getfield 56, 3) := by decide +kernel
set_option maxRecDepth 100000 in
theorem c_Md_judgeLeaf_131 : ct_Md_judgeLeaf 131 = ka_il 1 1 := rfl
theorem d_Md_judgeLeaf_131 : decode prog_12_method_38_code 131 = .ok (.iload_n 1, 1) := by decide +kernel
set_option maxRecDepth 100000 in
theorem c_Md_judgeLeaf_132 : ct_Md_judgeLeaf 132 = ka_iald := rfl
theorem d_Md_judgeLeaf_132 : decode prog_12_method_38_code 132 = .ok (.iaload, 1) := by decide +kernel
set_option maxRecDepth 100000 in
theorem c_Md_judgeLeaf_133 : ct_Md_judgeLeaf 133 = ka_ci (nI 163) 3 := rfl
theorem d_Md_judgeLeaf_133 : decode prog_12_method_38_code 133 = .ok (.sipush 163, 3) := by decide +kernel
set_option maxRecDepth 100000 in
theorem c_Md_judgeLeaf_136 : ct_Md_judgeLeaf 136 = ka_cm (fun x y => ¬ x = y) 154 := rfl
theorem d_Md_judgeLeaf_136 : decode prog_12_method_38_code 136 = .ok (.if_icmp .ne 18, 3) := by decide +kernel
set_option maxRecDepth 100000 in
theorem c_Md_judgeLeaf_139 : ct_Md_judgeLeaf 139 = ka_ll 7 2 := rfl
theorem d_Md_judgeLeaf_139 : decode prog_12_method_38_code 139 = .ok (.lload 7, 2) := by decide +kernel
set_option maxRecDepth 100000 in
theorem c_Md_judgeLeaf_141 : ct_Md_judgeLeaf 141 = ka_al 0 1 := rfl
theorem d_Md_judgeLeaf_141 : decode prog_12_method_38_code 141 = .ok (.aload_n 0, 1) := by decide +kernel
set_option maxRecDepth 100000 in
theorem c_Md_judgeLeaf_142 : ct_Md_judgeLeaf 142 = ka_get 10 44 := rfl
theorem d_Md_judgeLeaf_142 : decode prog_12_method_38_code 142 = .ok (.getfield 65, 3) := by decide +kernel
set_option maxRecDepth 100000 in
theorem c_Md_judgeLeaf_145 : ct_Md_judgeLeaf 145 = ka_il 1 1 := rfl
theorem d_Md_judgeLeaf_145 : decode prog_12_method_38_code 145 = .ok (.iload_n 1, 1) := by decide +kernel
set_option maxRecDepth 100000 in
theorem c_Md_judgeLeaf_146 : ct_Md_judgeLeaf 146 = ka_lald := rfl
theorem d_Md_judgeLeaf_146 : decode prog_12_method_38_code 146 = .ok (.laload, 1) := by decide +kernel
set_option maxRecDepth 100000 in
theorem c_Md_judgeLeaf_147 : ct_Md_judgeLeaf 147 = ka_lcmp := rfl
theorem d_Md_judgeLeaf_147 : decode prog_12_method_38_code 147 = .ok (.lcmp, 1) := by decide +kernel
set_option maxRecDepth 100000 in
theorem c_Md_judgeLeaf_148 : ct_Md_judgeLeaf 148 = ka_if (fun x => ¬ x = 0) 197 := rfl
theorem d_Md_judgeLeaf_148 : decode prog_12_method_38_code 148 = .ok (.ifCond .ne 49, 3) := by decide +kernel
set_option maxRecDepth 100000 in
theorem c_Md_judgeLeaf_151 : ct_Md_judgeLeaf 151 = ka_goto 193 := rfl
theorem d_Md_judgeLeaf_151 : decode prog_12_method_38_code 151 = .ok (.goto 42, 3) := by decide +kernel
set_option maxRecDepth 100000 in
theorem c_Md_judgeLeaf_154 : ct_Md_judgeLeaf 154 = ka_al 0 1 := rfl
theorem d_Md_judgeLeaf_154 : decode prog_12_method_38_code 154 = .ok (.aload_n 0, 1) := by decide +kernel
set_option maxRecDepth 100000 in
theorem c_Md_judgeLeaf_155 : ct_Md_judgeLeaf 155 = ka_get 10 41 := rfl
theorem d_Md_judgeLeaf_155 : decode prog_12_method_38_code 155 = .ok (.getfield 56, 3) := by decide +kernel
set_option maxRecDepth 100000 in
theorem c_Md_judgeLeaf_158 : ct_Md_judgeLeaf 158 = ka_il 1 1 := rfl
theorem d_Md_judgeLeaf_158 : decode prog_12_method_38_code 158 = .ok (.iload_n 1, 1) := by decide +kernel
set_option maxRecDepth 100000 in
theorem c_Md_judgeLeaf_159 : ct_Md_judgeLeaf 159 = ka_iald := rfl
theorem d_Md_judgeLeaf_159 : decode prog_12_method_38_code 159 = .ok (.iaload, 1) := by decide +kernel
set_option maxRecDepth 100000 in
theorem c_Md_judgeLeaf_160 : ct_Md_judgeLeaf 160 = ka_ci (nI 165) 3 := rfl
theorem d_Md_judgeLeaf_160 : decode prog_12_method_38_code 160 = .ok (.sipush 165, 3) := by decide +kernel
set_option maxRecDepth 100000 in
theorem c_Md_judgeLeaf_163 : ct_Md_judgeLeaf 163 = ka_cm (fun x y => ¬ x = y) 181 := rfl
theorem d_Md_judgeLeaf_163 : decode prog_12_method_38_code 163 = .ok (.if_icmp .ne 18, 3) := by decide +kernel
set_option maxRecDepth 100000 in
theorem c_Md_judgeLeaf_166 : ct_Md_judgeLeaf 166 = ka_ll 7 2 := rfl
theorem d_Md_judgeLeaf_166 : decode prog_12_method_38_code 166 = .ok (.lload 7, 2) := by decide +kernel
set_option maxRecDepth 100000 in
theorem c_Md_judgeLeaf_168 : ct_Md_judgeLeaf 168 = ka_al 0 1 := rfl
theorem d_Md_judgeLeaf_168 : decode prog_12_method_38_code 168 = .ok (.aload_n 0, 1) := by decide +kernel
set_option maxRecDepth 100000 in
theorem c_Md_judgeLeaf_169 : ct_Md_judgeLeaf 169 = ka_get 10 44 := rfl
theorem d_Md_judgeLeaf_169 : decode prog_12_method_38_code 169 = .ok (.getfield 65, 3) := by decide +kernel
set_option maxRecDepth 100000 in
theorem c_Md_judgeLeaf_172 : ct_Md_judgeLeaf 172 = ka_il 1 1 := rfl
theorem d_Md_judgeLeaf_172 : decode prog_12_method_38_code 172 = .ok (.iload_n 1, 1) := by decide +kernel
set_option maxRecDepth 100000 in
theorem c_Md_judgeLeaf_173 : ct_Md_judgeLeaf 173 = ka_lald := rfl
theorem d_Md_judgeLeaf_173 : decode prog_12_method_38_code 173 = .ok (.laload, 1) := by decide +kernel
set_option maxRecDepth 100000 in
theorem c_Md_judgeLeaf_174 : ct_Md_judgeLeaf 174 = ka_lcmp := rfl
theorem d_Md_judgeLeaf_174 : decode prog_12_method_38_code 174 = .ok (.lcmp, 1) := by decide +kernel
set_option maxRecDepth 100000 in
theorem c_Md_judgeLeaf_175 : ct_Md_judgeLeaf 175 = ka_if (fun x => x < 0) 197 := rfl
theorem d_Md_judgeLeaf_175 : decode prog_12_method_38_code 175 = .ok (.ifCond .lt 22, 3) := by decide +kernel
set_option maxRecDepth 100000 in
theorem c_Md_judgeLeaf_178 : ct_Md_judgeLeaf 178 = ka_goto 193 := rfl
theorem d_Md_judgeLeaf_178 : decode prog_12_method_38_code 178 = .ok (.goto 15, 3) := by decide +kernel
set_option maxRecDepth 100000 in
theorem c_Md_judgeLeaf_181 : ct_Md_judgeLeaf 181 = ka_ll 7 2 := rfl
theorem d_Md_judgeLeaf_181 : decode prog_12_method_38_code 181 = .ok (.lload 7, 2) := by decide +kernel
set_option maxRecDepth 100000 in
theorem c_Md_judgeLeaf_183 : ct_Md_judgeLeaf 183 = ka_al 0 1 := rfl
theorem d_Md_judgeLeaf_183 : decode prog_12_method_38_code 183 = .ok (.aload_n 0, 1) := by decide +kernel
set_option maxRecDepth 100000 in
theorem c_Md_judgeLeaf_184 : ct_Md_judgeLeaf 184 = ka_get 10 44 := rfl
theorem d_Md_judgeLeaf_184 : decode prog_12_method_38_code 184 = .ok (.getfield 65, 3) := by decide +kernel
set_option maxRecDepth 100000 in
theorem c_Md_judgeLeaf_187 : ct_Md_judgeLeaf 187 = ka_il 1 1 := rfl
theorem d_Md_judgeLeaf_187 : decode prog_12_method_38_code 187 = .ok (.iload_n 1, 1) := by decide +kernel
set_option maxRecDepth 100000 in
theorem c_Md_judgeLeaf_188 : ct_Md_judgeLeaf 188 = ka_lald := rfl
theorem d_Md_judgeLeaf_188 : decode prog_12_method_38_code 188 = .ok (.laload, 1) := by decide +kernel
set_option maxRecDepth 100000 in
theorem c_Md_judgeLeaf_189 : ct_Md_judgeLeaf 189 = ka_lcmp := rfl
theorem d_Md_judgeLeaf_189 : decode prog_12_method_38_code 189 = .ok (.lcmp, 1) := by decide +kernel
set_option maxRecDepth 100000 in
theorem c_Md_judgeLeaf_190 : ct_Md_judgeLeaf 190 = ka_if (fun x => 0 < x) 197 := rfl
theorem d_Md_judgeLeaf_190 : decode prog_12_method_38_code 190 = .ok (.ifCond .gt 7, 3) := by decide +kernel
set_option maxRecDepth 100000 in
theorem c_Md_judgeLeaf_193 : ct_Md_judgeLeaf 193 = ka_ci (nI 1) 1 := rfl
theorem d_Md_judgeLeaf_193 : decode prog_12_method_38_code 193 = .ok (.iconst 1, 1) := by decide +kernel
set_option maxRecDepth 100000 in
theorem c_Md_judgeLeaf_194 : ct_Md_judgeLeaf 194 = ka_goto 198 := rfl
theorem d_Md_judgeLeaf_194 : decode prog_12_method_38_code 194 = .ok (.goto 4, 3) := by decide +kernel
set_option maxRecDepth 100000 in
theorem c_Md_judgeLeaf_197 : ct_Md_judgeLeaf 197 = ka_ci (nI 0) 1 := rfl
theorem d_Md_judgeLeaf_197 : decode prog_12_method_38_code 197 = .ok (.iconst 0, 1) := by decide +kernel
set_option maxRecDepth 100000 in
theorem c_Md_judgeLeaf_198 : ct_Md_judgeLeaf 198 = ka_is 9 2 := rfl
theorem d_Md_judgeLeaf_198 : decode prog_12_method_38_code 198 = .ok (.istore 9, 2) := by decide +kernel
set_option maxRecDepth 100000 in
theorem c_Md_judgeLeaf_200 : ct_Md_judgeLeaf 200 = ka_il 5 2 := rfl
theorem d_Md_judgeLeaf_200 : decode prog_12_method_38_code 200 = .ok (.iload 5, 2) := by decide +kernel
set_option maxRecDepth 100000 in
theorem c_Md_judgeLeaf_202 : ct_Md_judgeLeaf 202 = ka_if (fun x => ¬ x = 0) 221 := rfl
theorem d_Md_judgeLeaf_202 : decode prog_12_method_38_code 202 = .ok (.ifCond .ne 19, 3) := by decide +kernel
set_option maxRecDepth 100000 in
theorem c_Md_judgeLeaf_205 : ct_Md_judgeLeaf 205 = ka_al 0 1 := rfl
theorem d_Md_judgeLeaf_205 : decode prog_12_method_38_code 205 = .ok (.aload_n 0, 1) := by decide +kernel
set_option maxRecDepth 100000 in
theorem c_Md_judgeLeaf_206 : ct_Md_judgeLeaf 206 = ka_get 10 11 := rfl
theorem d_Md_judgeLeaf_206 : decode prog_12_method_38_code 206 = .ok (.getfield 29, 3) := by decide +kernel
set_option maxRecDepth 100000 in
theorem c_Md_judgeLeaf_209 : ct_Md_judgeLeaf 209 = ka_il 6 2 := rfl
theorem d_Md_judgeLeaf_209 : decode prog_12_method_38_code 209 = .ok (.iload 6, 2) := by decide +kernel
set_option maxRecDepth 100000 in
theorem c_Md_judgeLeaf_211 : ct_Md_judgeLeaf 211 = ka_iald := rfl
theorem d_Md_judgeLeaf_211 : decode prog_12_method_38_code 211 = .ok (.iaload, 1) := by decide +kernel
set_option maxRecDepth 100000 in
theorem c_Md_judgeLeaf_212 : ct_Md_judgeLeaf 212 = ka_il 3 1 := rfl
theorem d_Md_judgeLeaf_212 : decode prog_12_method_38_code 212 = .ok (.iload_n 3, 1) := by decide +kernel
set_option maxRecDepth 100000 in
theorem c_Md_judgeLeaf_213 : ct_Md_judgeLeaf 213 = ka_cm (fun x y => ¬ x = y) 225 := rfl
theorem d_Md_judgeLeaf_213 : decode prog_12_method_38_code 213 = .ok (.if_icmp .ne 12, 3) := by decide +kernel
set_option maxRecDepth 100000 in
theorem c_Md_judgeLeaf_216 : ct_Md_judgeLeaf 216 = ka_il 9 2 := rfl
theorem d_Md_judgeLeaf_216 : decode prog_12_method_38_code 216 = .ok (.iload 9, 2) := by decide +kernel
set_option maxRecDepth 100000 in
theorem c_Md_judgeLeaf_218 : ct_Md_judgeLeaf 218 = ka_if (fun x => x = 0) 225 := rfl
theorem d_Md_judgeLeaf_218 : decode prog_12_method_38_code 218 = .ok (.ifCond .eq 7, 3) := by decide +kernel
set_option maxRecDepth 100000 in
theorem c_Md_judgeLeaf_221 : ct_Md_judgeLeaf 221 = ka_ci (nI 1) 1 := rfl
theorem d_Md_judgeLeaf_221 : decode prog_12_method_38_code 221 = .ok (.iconst 1, 1) := by decide +kernel
set_option maxRecDepth 100000 in
theorem c_Md_judgeLeaf_222 : ct_Md_judgeLeaf 222 = ka_goto 226 := rfl
theorem d_Md_judgeLeaf_222 : decode prog_12_method_38_code 222 = .ok (.goto 4, 3) := by decide +kernel
set_option maxRecDepth 100000 in
theorem c_Md_judgeLeaf_225 : ct_Md_judgeLeaf 225 = ka_ci (nI 0) 1 := rfl
theorem d_Md_judgeLeaf_225 : decode prog_12_method_38_code 225 = .ok (.iconst 0, 1) := by decide +kernel
set_option maxRecDepth 100000 in
theorem c_Md_judgeLeaf_226 : ct_Md_judgeLeaf 226 = ka_is 5 2 := rfl
theorem d_Md_judgeLeaf_226 : decode prog_12_method_38_code 226 = .ok (.istore 5, 2) := by decide +kernel
set_option maxRecDepth 100000 in
theorem c_Md_judgeLeaf_228 : ct_Md_judgeLeaf 228 = ka_inc 6 (nI 1) := rfl
theorem d_Md_judgeLeaf_228 : decode prog_12_method_38_code 228 = .ok (.iinc 6 1, 3) := by decide +kernel
set_option maxRecDepth 100000 in
theorem c_Md_judgeLeaf_231 : ct_Md_judgeLeaf 231 = ka_goto 90 := rfl
theorem d_Md_judgeLeaf_231 : decode prog_12_method_38_code 231 = .ok (.goto (-141), 3) := by decide +kernel
set_option maxRecDepth 100000 in
theorem c_Md_judgeLeaf_234 : ct_Md_judgeLeaf 234 = ka_il 5 2 := rfl
theorem d_Md_judgeLeaf_234 : decode prog_12_method_38_code 234 = .ok (.iload 5, 2) := by decide +kernel
set_option maxRecDepth 100000 in
theorem c_Md_judgeLeaf_236 : ct_Md_judgeLeaf 236 = ka_if (fun x => x = 0) 243 := rfl
theorem d_Md_judgeLeaf_236 : decode prog_12_method_38_code 236 = .ok (.ifCond .eq 7, 3) := by decide +kernel
set_option maxRecDepth 100000 in
theorem c_Md_judgeLeaf_239 : ct_Md_judgeLeaf 239 = ka_ci (nI 1) 1 := rfl
theorem d_Md_judgeLeaf_239 : decode prog_12_method_38_code 239 = .ok (.iconst 1, 1) := by decide +kernel
set_option maxRecDepth 100000 in
theorem c_Md_judgeLeaf_240 : ct_Md_judgeLeaf 240 = ka_goto 244 := rfl
theorem d_Md_judgeLeaf_240 : decode prog_12_method_38_code 240 = .ok (.goto 4, 3) := by decide +kernel
set_option maxRecDepth 100000 in
theorem c_Md_judgeLeaf_243 : ct_Md_judgeLeaf 243 = ka_ci (nI 0) 1 := rfl
theorem d_Md_judgeLeaf_243 : decode prog_12_method_38_code 243 = .ok (.iconst 0, 1) := by decide +kernel
set_option maxRecDepth 100000 in
theorem c_Md_judgeLeaf_244 : ct_Md_judgeLeaf 244 = ka_ri := rfl
theorem d_Md_judgeLeaf_244 : decode prog_12_method_38_code 244 = .ok (.ireturn, 1) := by decide +kernel
set_option maxRecDepth 100000 in
set_option maxHeartbeats 4000000 in
theorem s_Md_judgeLeaf_60 : ∀ pc, pc < 60 → kc_Sim kt kw_A kw_N kt_cl kt_En "DirectoryDeskModel" prog_12_method_38_code 10 (some .int) "judgeLeaf" none pc (ct_Md_judgeLeaf pc) := by
  let P : Nat → Prop := fun pc => kc_Sim kt kw_A kw_N kt_cl kt_En "DirectoryDeskModel" prog_12_method_38_code 10 (some .int) "judgeLeaf" none pc (ct_Md_judgeLeaf pc)
  exact kc_case (P := P) (kc_se c_Md_judgeLeaf_59 (sm_iload_n d_Md_judgeLeaf_59 rfl)) (
  kc_case (P := P) (kc_se rfl sm_no) (
  kc_case (P := P) (kc_se rfl sm_no) (
  kc_case (P := P) (kc_se c_Md_judgeLeaf_56 (sm_get (ci := 10) (C := "DirectoryDeskModel") (F := kF_Md) rfl kin_Md (Nat.le_of_ble_eq_true rfl) d_Md_judgeLeaf_56 (kw3 227 rfl rfl))) (
  kc_case (P := P) (kc_se c_Md_judgeLeaf_55 (sm_aload_n d_Md_judgeLeaf_55 rfl)) (
  kc_case (P := P) (kc_se rfl sm_no) (
  kc_case (P := P) (kc_se rfl sm_no) (
  kc_case (P := P) (kc_se c_Md_judgeLeaf_52 (sm_cm_eq d_Md_judgeLeaf_52 (by decide))) (
  kc_case (P := P) (kc_se rfl sm_no) (
  kc_case (P := P) (kc_se rfl sm_no) (
  kc_case (P := P) (kc_se c_Md_judgeLeaf_49 (sm_sipush d_Md_judgeLeaf_49 (by decide))) (
  kc_case (P := P) (kc_se c_Md_judgeLeaf_48 (sm_iald d_Md_judgeLeaf_48)) (
  kc_case (P := P) (kc_se c_Md_judgeLeaf_47 (sm_iload_n d_Md_judgeLeaf_47 rfl)) (
  kc_case (P := P) (kc_se rfl sm_no) (
  kc_case (P := P) (kc_se rfl sm_no) (
  kc_case (P := P) (kc_se c_Md_judgeLeaf_44 (sm_get (ci := 10) (C := "DirectoryDeskModel") (F := kF_Md) rfl kin_Md (Nat.le_of_ble_eq_true rfl) d_Md_judgeLeaf_44 (kw3 224 rfl rfl))) (
  kc_case (P := P) (kc_se c_Md_judgeLeaf_43 (sm_aload_n d_Md_judgeLeaf_43 rfl)) (
  kc_case (P := P) (kc_se rfl sm_no) (
  kc_case (P := P) (kc_se rfl sm_no) (
  kc_case (P := P) (kc_se c_Md_judgeLeaf_40 (sm_cm_eq d_Md_judgeLeaf_40 (by decide))) (
  kc_case (P := P) (kc_se c_Md_judgeLeaf_39 (sm_iconst d_Md_judgeLeaf_39 (by decide))) (
  kc_case (P := P) (kc_se c_Md_judgeLeaf_38 (sm_iload_n d_Md_judgeLeaf_38 rfl)) (
  kc_case (P := P) (kc_se rfl sm_no) (
  kc_case (P := P) (kc_se c_Md_judgeLeaf_36 (sm_istore d_Md_judgeLeaf_36 (Nat.le_of_ble_eq_true rfl))) (
  kc_case (P := P) (kc_se c_Md_judgeLeaf_35 (sm_iconst d_Md_judgeLeaf_35 (by decide))) (
  kc_case (P := P) (kc_se rfl sm_no) (
  kc_case (P := P) (kc_se rfl sm_no) (
  kc_case (P := P) (kc_se c_Md_judgeLeaf_32 (sm_goto d_Md_judgeLeaf_32 (by decide))) (
  kc_case (P := P) (kc_se c_Md_judgeLeaf_31 (sm_iconst d_Md_judgeLeaf_31 (by decide))) (
  kc_case (P := P) (kc_se rfl sm_no) (
  kc_case (P := P) (kc_se rfl sm_no) (
  kc_case (P := P) (kc_se c_Md_judgeLeaf_28 (sm_cm_ne d_Md_judgeLeaf_28 (by decide))) (
  kc_case (P := P) (kc_se rfl sm_no) (
  kc_case (P := P) (kc_se rfl sm_no) (
  kc_case (P := P) (kc_se c_Md_judgeLeaf_25 (sm_sipush d_Md_judgeLeaf_25 (by decide))) (
  kc_case (P := P) (kc_se c_Md_judgeLeaf_24 (sm_iald d_Md_judgeLeaf_24)) (
  kc_case (P := P) (kc_se c_Md_judgeLeaf_23 (sm_iload_n d_Md_judgeLeaf_23 rfl)) (
  kc_case (P := P) (kc_se rfl sm_no) (
  kc_case (P := P) (kc_se rfl sm_no) (
  kc_case (P := P) (kc_se c_Md_judgeLeaf_20 (sm_get (ci := 10) (C := "DirectoryDeskModel") (F := kF_Md) rfl kin_Md (Nat.le_of_ble_eq_true rfl) d_Md_judgeLeaf_20 (kw3 224 rfl rfl))) (
  kc_case (P := P) (kc_se c_Md_judgeLeaf_19 (sm_aload_n d_Md_judgeLeaf_19 rfl)) (
  kc_case (P := P) (kc_se rfl sm_no) (
  kc_case (P := P) (kc_se rfl sm_no) (
  kc_case (P := P) (kc_se c_Md_judgeLeaf_16 (sm_cm_eq d_Md_judgeLeaf_16 (by decide))) (
  kc_case (P := P) (kc_se rfl sm_no) (
  kc_case (P := P) (kc_se rfl sm_no) (
  kc_case (P := P) (kc_se c_Md_judgeLeaf_13 (sm_sipush d_Md_judgeLeaf_13 (by decide))) (
  kc_case (P := P) (kc_se c_Md_judgeLeaf_12 (sm_iald d_Md_judgeLeaf_12)) (
  kc_case (P := P) (kc_se c_Md_judgeLeaf_11 (sm_iload_n d_Md_judgeLeaf_11 rfl)) (
  kc_case (P := P) (kc_se rfl sm_no) (
  kc_case (P := P) (kc_se rfl sm_no) (
  kc_case (P := P) (kc_se c_Md_judgeLeaf_8 (sm_get (ci := 10) (C := "DirectoryDeskModel") (F := kF_Md) rfl kin_Md (Nat.le_of_ble_eq_true rfl) d_Md_judgeLeaf_8 (kw3 224 rfl rfl))) (
  kc_case (P := P) (kc_se c_Md_judgeLeaf_7 (sm_aload_n d_Md_judgeLeaf_7 rfl)) (
  kc_case (P := P) (kc_se c_Md_judgeLeaf_6 (sm_istore_n d_Md_judgeLeaf_6 rfl (Nat.le_of_ble_eq_true rfl))) (
  kc_case (P := P) (kc_se c_Md_judgeLeaf_5 (sm_iald d_Md_judgeLeaf_5)) (
  kc_case (P := P) (kc_se c_Md_judgeLeaf_4 (sm_iload_n d_Md_judgeLeaf_4 rfl)) (
  kc_case (P := P) (kc_se rfl sm_no) (
  kc_case (P := P) (kc_se rfl sm_no) (
  kc_case (P := P) (kc_se c_Md_judgeLeaf_1 (sm_get (ci := 10) (C := "DirectoryDeskModel") (F := kF_Md) rfl kin_Md (Nat.le_of_ble_eq_true rfl) d_Md_judgeLeaf_1 (kw3 226 rfl rfl))) (
  kc_case (P := P) (kc_se c_Md_judgeLeaf_0 (sm_aload_n d_Md_judgeLeaf_0 rfl)) (
  kc_case0))))))))))))))))))))))))))))))))))))))))))))))))))))))))))))
set_option maxRecDepth 100000 in
set_option maxHeartbeats 4000000 in
theorem s_Md_judgeLeaf_120 : ∀ pc, pc < 120 → kc_Sim kt kw_A kw_N kt_cl kt_En "DirectoryDeskModel" prog_12_method_38_code 10 (some .int) "judgeLeaf" none pc (ct_Md_judgeLeaf pc) := by
  let P : Nat → Prop := fun pc => kc_Sim kt kw_A kw_N kt_cl kt_En "DirectoryDeskModel" prog_12_method_38_code 10 (some .int) "judgeLeaf" none pc (ct_Md_judgeLeaf pc)
  exact kc_case (P := P) (kc_se c_Md_judgeLeaf_119 (sm_iload_n d_Md_judgeLeaf_119 rfl)) (
  kc_case (P := P) (kc_se rfl sm_no) (
  kc_case (P := P) (kc_se rfl sm_no) (
  kc_case (P := P) (kc_se c_Md_judgeLeaf_116 (sm_get (ci := 10) (C := "DirectoryDeskModel") (F := kF_Md) rfl kin_Md (Nat.le_of_ble_eq_true rfl) d_Md_judgeLeaf_116 (kw3 224 rfl rfl))) (
  kc_case (P := P) (kc_se c_Md_judgeLeaf_115 (sm_aload_n d_Md_judgeLeaf_115 rfl)) (
  kc_case (P := P) (kc_se rfl sm_no) (
  kc_case (P := P) (kc_se c_Md_judgeLeaf_113 (sm_lstore d_Md_judgeLeaf_113 (Nat.le_of_ble_eq_true rfl))) (
  kc_case (P := P) (kc_se c_Md_judgeLeaf_112 (sm_lald d_Md_judgeLeaf_112)) (
  kc_case (P := P) (kc_se rfl sm_no) (
  kc_case (P := P) (kc_se c_Md_judgeLeaf_110 (sm_iload d_Md_judgeLeaf_110)) (
  kc_case (P := P) (kc_se rfl sm_no) (
  kc_case (P := P) (kc_se rfl sm_no) (
  kc_case (P := P) (kc_se c_Md_judgeLeaf_107 (sm_get (ci := 10) (C := "DirectoryDeskModel") (F := kF_Md) rfl kin_Md (Nat.le_of_ble_eq_true rfl) d_Md_judgeLeaf_107 (kw3 195 rfl rfl))) (
  kc_case (P := P) (kc_se c_Md_judgeLeaf_106 (sm_aload_n d_Md_judgeLeaf_106 rfl)) (
  kc_case (P := P) (kc_se rfl sm_no) (
  kc_case (P := P) (kc_se rfl sm_no) (
  kc_case (P := P) (kc_se c_Md_judgeLeaf_103 (sm_cm_ge d_Md_judgeLeaf_103 (by decide))) (
  kc_case (P := P) (kc_se c_Md_judgeLeaf_102 (sm_iadd d_Md_judgeLeaf_102)) (
  kc_case (P := P) (kc_se c_Md_judgeLeaf_101 (sm_iald d_Md_judgeLeaf_101)) (
  kc_case (P := P) (kc_se c_Md_judgeLeaf_100 (sm_iload_n d_Md_judgeLeaf_100 rfl)) (
  kc_case (P := P) (kc_se rfl sm_no) (
  kc_case (P := P) (kc_se rfl sm_no) (
  kc_case (P := P) (kc_se c_Md_judgeLeaf_97 (sm_get (ci := 10) (C := "DirectoryDeskModel") (F := kF_Md) rfl kin_Md (Nat.le_of_ble_eq_true rfl) d_Md_judgeLeaf_97 (kw3 193 rfl rfl))) (
  kc_case (P := P) (kc_se c_Md_judgeLeaf_96 (sm_aload_n d_Md_judgeLeaf_96 rfl)) (
  kc_case (P := P) (kc_se c_Md_judgeLeaf_95 (sm_imul d_Md_judgeLeaf_95)) (
  kc_case (P := P) (kc_se c_Md_judgeLeaf_94 (sm_iload_n d_Md_judgeLeaf_94 rfl)) (
  kc_case (P := P) (kc_se rfl sm_no) (
  kc_case (P := P) (kc_se c_Md_judgeLeaf_92 (sm_bipush d_Md_judgeLeaf_92 (by decide))) (
  kc_case (P := P) (kc_se rfl sm_no) (
  kc_case (P := P) (kc_se c_Md_judgeLeaf_90 (sm_iload d_Md_judgeLeaf_90)) (
  kc_case (P := P) (kc_se rfl sm_no) (
  kc_case (P := P) (kc_se c_Md_judgeLeaf_88 (sm_istore d_Md_judgeLeaf_88 (Nat.le_of_ble_eq_true rfl))) (
  kc_case (P := P) (kc_se c_Md_judgeLeaf_87 (sm_imul d_Md_judgeLeaf_87)) (
  kc_case (P := P) (kc_se c_Md_judgeLeaf_86 (sm_iload_n d_Md_judgeLeaf_86 rfl)) (
  kc_case (P := P) (kc_se rfl sm_no) (
  kc_case (P := P) (kc_se c_Md_judgeLeaf_84 (sm_bipush d_Md_judgeLeaf_84 (by decide))) (
  kc_case (P := P) (kc_se rfl sm_no) (
  kc_case (P := P) (kc_se c_Md_judgeLeaf_82 (sm_istore d_Md_judgeLeaf_82 (Nat.le_of_ble_eq_true rfl))) (
  kc_case (P := P) (kc_se c_Md_judgeLeaf_81 (sm_iconst d_Md_judgeLeaf_81 (by decide))) (
  kc_case (P := P) (kc_se c_Md_judgeLeaf_80 (sm_ri d_Md_judgeLeaf_80 rfl)) (
  kc_case (P := P) (kc_se c_Md_judgeLeaf_79 (sm_iconst d_Md_judgeLeaf_79 (by decide))) (
  kc_case (P := P) (kc_se rfl sm_no) (
  kc_case (P := P) (kc_se rfl sm_no) (
  kc_case (P := P) (kc_se c_Md_judgeLeaf_76 (sm_cm_ge d_Md_judgeLeaf_76 (by decide))) (
  kc_case (P := P) (kc_se rfl sm_no) (
  kc_case (P := P) (kc_se c_Md_judgeLeaf_74 (sm_bipush d_Md_judgeLeaf_74 (by decide))) (
  kc_case (P := P) (kc_se c_Md_judgeLeaf_73 (sm_iload_n d_Md_judgeLeaf_73 rfl)) (
  kc_case (P := P) (kc_se rfl sm_no) (
  kc_case (P := P) (kc_se rfl sm_no) (
  kc_case (P := P) (kc_se c_Md_judgeLeaf_70 (sm_if_eq d_Md_judgeLeaf_70 (by decide))) (
  kc_case (P := P) (kc_se rfl sm_no) (
  kc_case (P := P) (kc_se c_Md_judgeLeaf_68 (sm_iload d_Md_judgeLeaf_68)) (
  kc_case (P := P) (kc_se rfl sm_no) (
  kc_case (P := P) (kc_se rfl sm_no) (
  kc_case (P := P) (kc_se c_Md_judgeLeaf_65 (sm_if_eq d_Md_judgeLeaf_65 (by decide))) (
  kc_case (P := P) (kc_se c_Md_judgeLeaf_64 (sm_lcmp d_Md_judgeLeaf_64)) (
  kc_case (P := P) (kc_se rfl sm_no) (
  kc_case (P := P) (kc_se rfl sm_no) (
  kc_case (P := P) (kc_se c_Md_judgeLeaf_61 (sm_ldc2 d_Md_judgeLeaf_61 (kw4 168 rfl rfl))) (
  kc_case (P := P) (kc_se c_Md_judgeLeaf_60 (sm_lald d_Md_judgeLeaf_60)) (
  s_Md_judgeLeaf_60))))))))))))))))))))))))))))))))))))))))))))))))))))))))))))
set_option maxRecDepth 100000 in
set_option maxHeartbeats 4000000 in
theorem s_Md_judgeLeaf_180 : ∀ pc, pc < 180 → kc_Sim kt kw_A kw_N kt_cl kt_En "DirectoryDeskModel" prog_12_method_38_code 10 (some .int) "judgeLeaf" none pc (ct_Md_judgeLeaf pc) := by
  let P : Nat → Prop := fun pc => kc_Sim kt kw_A kw_N kt_cl kt_En "DirectoryDeskModel" prog_12_method_38_code 10 (some .int) "judgeLeaf" none pc (ct_Md_judgeLeaf pc)
  exact kc_case (P := P) (kc_se rfl sm_no) (
  kc_case (P := P) (kc_se c_Md_judgeLeaf_178 (sm_goto d_Md_judgeLeaf_178 (by decide))) (
  kc_case (P := P) (kc_se rfl sm_no) (
  kc_case (P := P) (kc_se rfl sm_no) (
  kc_case (P := P) (kc_se c_Md_judgeLeaf_175 (sm_if_lt d_Md_judgeLeaf_175 (by decide))) (
  kc_case (P := P) (kc_se c_Md_judgeLeaf_174 (sm_lcmp d_Md_judgeLeaf_174)) (
  kc_case (P := P) (kc_se c_Md_judgeLeaf_173 (sm_lald d_Md_judgeLeaf_173)) (
  kc_case (P := P) (kc_se c_Md_judgeLeaf_172 (sm_iload_n d_Md_judgeLeaf_172 rfl)) (
  kc_case (P := P) (kc_se rfl sm_no) (
  kc_case (P := P) (kc_se rfl sm_no) (
  kc_case (P := P) (kc_se c_Md_judgeLeaf_169 (sm_get (ci := 10) (C := "DirectoryDeskModel") (F := kF_Md) rfl kin_Md (Nat.le_of_ble_eq_true rfl) d_Md_judgeLeaf_169 (kw3 227 rfl rfl))) (
  kc_case (P := P) (kc_se c_Md_judgeLeaf_168 (sm_aload_n d_Md_judgeLeaf_168 rfl)) (
  kc_case (P := P) (kc_se rfl sm_no) (
  kc_case (P := P) (kc_se c_Md_judgeLeaf_166 (sm_lload d_Md_judgeLeaf_166)) (
  kc_case (P := P) (kc_se rfl sm_no) (
  kc_case (P := P) (kc_se rfl sm_no) (
  kc_case (P := P) (kc_se c_Md_judgeLeaf_163 (sm_cm_ne d_Md_judgeLeaf_163 (by decide))) (
  kc_case (P := P) (kc_se rfl sm_no) (
  kc_case (P := P) (kc_se rfl sm_no) (
  kc_case (P := P) (kc_se c_Md_judgeLeaf_160 (sm_sipush d_Md_judgeLeaf_160 (by decide))) (
  kc_case (P := P) (kc_se c_Md_judgeLeaf_159 (sm_iald d_Md_judgeLeaf_159)) (
  kc_case (P := P) (kc_se c_Md_judgeLeaf_158 (sm_iload_n d_Md_judgeLeaf_158 rfl)) (
  kc_case (P := P) (kc_se rfl sm_no) (
  kc_case (P := P) (kc_se rfl sm_no) (
  kc_case (P := P) (kc_se c_Md_judgeLeaf_155 (sm_get (ci := 10) (C := "DirectoryDeskModel") (F := kF_Md) rfl kin_Md (Nat.le_of_ble_eq_true rfl) d_Md_judgeLeaf_155 (kw3 224 rfl rfl))) (
  kc_case (P := P) (kc_se c_Md_judgeLeaf_154 (sm_aload_n d_Md_judgeLeaf_154 rfl)) (
  kc_case (P := P) (kc_se rfl sm_no) (
  kc_case (P := P) (kc_se rfl sm_no) (
  kc_case (P := P) (kc_se c_Md_judgeLeaf_151 (sm_goto d_Md_judgeLeaf_151 (by decide))) (
  kc_case (P := P) (kc_se rfl sm_no) (
  kc_case (P := P) (kc_se rfl sm_no) (
  kc_case (P := P) (kc_se c_Md_judgeLeaf_148 (sm_if_ne d_Md_judgeLeaf_148 (by decide))) (
  kc_case (P := P) (kc_se c_Md_judgeLeaf_147 (sm_lcmp d_Md_judgeLeaf_147)) (
  kc_case (P := P) (kc_se c_Md_judgeLeaf_146 (sm_lald d_Md_judgeLeaf_146)) (
  kc_case (P := P) (kc_se c_Md_judgeLeaf_145 (sm_iload_n d_Md_judgeLeaf_145 rfl)) (
  kc_case (P := P) (kc_se rfl sm_no) (
  kc_case (P := P) (kc_se rfl sm_no) (
  kc_case (P := P) (kc_se c_Md_judgeLeaf_142 (sm_get (ci := 10) (C := "DirectoryDeskModel") (F := kF_Md) rfl kin_Md (Nat.le_of_ble_eq_true rfl) d_Md_judgeLeaf_142 (kw3 227 rfl rfl))) (
  kc_case (P := P) (kc_se c_Md_judgeLeaf_141 (sm_aload_n d_Md_judgeLeaf_141 rfl)) (
  kc_case (P := P) (kc_se rfl sm_no) (
  kc_case (P := P) (kc_se c_Md_judgeLeaf_139 (sm_lload d_Md_judgeLeaf_139)) (
  kc_case (P := P) (kc_se rfl sm_no) (
  kc_case (P := P) (kc_se rfl sm_no) (
  kc_case (P := P) (kc_se c_Md_judgeLeaf_136 (sm_cm_ne d_Md_judgeLeaf_136 (by decide))) (
  kc_case (P := P) (kc_se rfl sm_no) (
  kc_case (P := P) (kc_se rfl sm_no) (
  kc_case (P := P) (kc_se c_Md_judgeLeaf_133 (sm_sipush d_Md_judgeLeaf_133 (by decide))) (
  kc_case (P := P) (kc_se c_Md_judgeLeaf_132 (sm_iald d_Md_judgeLeaf_132)) (
  kc_case (P := P) (kc_se c_Md_judgeLeaf_131 (sm_iload_n d_Md_judgeLeaf_131 rfl)) (
  kc_case (P := P) (kc_se rfl sm_no) (
  kc_case (P := P) (kc_se rfl sm_no) (
  kc_case (P := P) (kc_se c_Md_judgeLeaf_128 (sm_get (ci := 10) (C := "DirectoryDeskModel") (F := kF_Md) rfl kin_Md (Nat.le_of_ble_eq_true rfl) d_Md_judgeLeaf_128 (kw3 224 rfl rfl))) (
  kc_case (P := P) (kc_se c_Md_judgeLeaf_127 (sm_aload_n d_Md_judgeLeaf_127 rfl)) (
  kc_case (P := P) (kc_se rfl sm_no) (
  kc_case (P := P) (kc_se rfl sm_no) (
  kc_case (P := P) (kc_se c_Md_judgeLeaf_124 (sm_cm_eq d_Md_judgeLeaf_124 (by decide))) (
  kc_case (P := P) (kc_se rfl sm_no) (
  kc_case (P := P) (kc_se rfl sm_no) (
  kc_case (P := P) (kc_se c_Md_judgeLeaf_121 (sm_sipush d_Md_judgeLeaf_121 (by decide))) (
  kc_case (P := P) (kc_se c_Md_judgeLeaf_120 (sm_iald d_Md_judgeLeaf_120)) (
  s_Md_judgeLeaf_120))))))))))))))))))))))))))))))))))))))))))))))))))))))))))))
set_option maxRecDepth 100000 in
set_option maxHeartbeats 4000000 in
theorem s_Md_judgeLeaf_240 : ∀ pc, pc < 240 → kc_Sim kt kw_A kw_N kt_cl kt_En "DirectoryDeskModel" prog_12_method_38_code 10 (some .int) "judgeLeaf" none pc (ct_Md_judgeLeaf pc) := by
  let P : Nat → Prop := fun pc => kc_Sim kt kw_A kw_N kt_cl kt_En "DirectoryDeskModel" prog_12_method_38_code 10 (some .int) "judgeLeaf" none pc (ct_Md_judgeLeaf pc)
  exact kc_case (P := P) (kc_se c_Md_judgeLeaf_239 (sm_iconst d_Md_judgeLeaf_239 (by decide))) (
  kc_case (P := P) (kc_se rfl sm_no) (
  kc_case (P := P) (kc_se rfl sm_no) (
  kc_case (P := P) (kc_se c_Md_judgeLeaf_236 (sm_if_eq d_Md_judgeLeaf_236 (by decide))) (
  kc_case (P := P) (kc_se rfl sm_no) (
  kc_case (P := P) (kc_se c_Md_judgeLeaf_234 (sm_iload d_Md_judgeLeaf_234)) (
  kc_case (P := P) (kc_se rfl sm_no) (
  kc_case (P := P) (kc_se rfl sm_no) (
  kc_case (P := P) (kc_se c_Md_judgeLeaf_231 (sm_goto d_Md_judgeLeaf_231 (by decide))) (
  kc_case (P := P) (kc_se rfl sm_no) (
  kc_case (P := P) (kc_se rfl sm_no) (
  kc_case (P := P) (kc_se c_Md_judgeLeaf_228 (sm_inc d_Md_judgeLeaf_228 (by decide) (Nat.le_of_ble_eq_true rfl))) (
  kc_case (P := P) (kc_se rfl sm_no) (
  kc_case (P := P) (kc_se c_Md_judgeLeaf_226 (sm_istore d_Md_judgeLeaf_226 (Nat.le_of_ble_eq_true rfl))) (
  kc_case (P := P) (kc_se c_Md_judgeLeaf_225 (sm_iconst d_Md_judgeLeaf_225 (by decide))) (
  kc_case (P := P) (kc_se rfl sm_no) (
  kc_case (P := P) (kc_se rfl sm_no) (
  kc_case (P := P) (kc_se c_Md_judgeLeaf_222 (sm_goto d_Md_judgeLeaf_222 (by decide))) (
  kc_case (P := P) (kc_se c_Md_judgeLeaf_221 (sm_iconst d_Md_judgeLeaf_221 (by decide))) (
  kc_case (P := P) (kc_se rfl sm_no) (
  kc_case (P := P) (kc_se rfl sm_no) (
  kc_case (P := P) (kc_se c_Md_judgeLeaf_218 (sm_if_eq d_Md_judgeLeaf_218 (by decide))) (
  kc_case (P := P) (kc_se rfl sm_no) (
  kc_case (P := P) (kc_se c_Md_judgeLeaf_216 (sm_iload d_Md_judgeLeaf_216)) (
  kc_case (P := P) (kc_se rfl sm_no) (
  kc_case (P := P) (kc_se rfl sm_no) (
  kc_case (P := P) (kc_se c_Md_judgeLeaf_213 (sm_cm_ne d_Md_judgeLeaf_213 (by decide))) (
  kc_case (P := P) (kc_se c_Md_judgeLeaf_212 (sm_iload_n d_Md_judgeLeaf_212 rfl)) (
  kc_case (P := P) (kc_se c_Md_judgeLeaf_211 (sm_iald d_Md_judgeLeaf_211)) (
  kc_case (P := P) (kc_se rfl sm_no) (
  kc_case (P := P) (kc_se c_Md_judgeLeaf_209 (sm_iload d_Md_judgeLeaf_209)) (
  kc_case (P := P) (kc_se rfl sm_no) (
  kc_case (P := P) (kc_se rfl sm_no) (
  kc_case (P := P) (kc_se c_Md_judgeLeaf_206 (sm_get (ci := 10) (C := "DirectoryDeskModel") (F := kF_Md) rfl kin_Md (Nat.le_of_ble_eq_true rfl) d_Md_judgeLeaf_206 (kw3 194 rfl rfl))) (
  kc_case (P := P) (kc_se c_Md_judgeLeaf_205 (sm_aload_n d_Md_judgeLeaf_205 rfl)) (
  kc_case (P := P) (kc_se rfl sm_no) (
  kc_case (P := P) (kc_se rfl sm_no) (
  kc_case (P := P) (kc_se c_Md_judgeLeaf_202 (sm_if_ne d_Md_judgeLeaf_202 (by decide))) (
  kc_case (P := P) (kc_se rfl sm_no) (
  kc_case (P := P) (kc_se c_Md_judgeLeaf_200 (sm_iload d_Md_judgeLeaf_200)) (
  kc_case (P := P) (kc_se rfl sm_no) (
  kc_case (P := P) (kc_se c_Md_judgeLeaf_198 (sm_istore d_Md_judgeLeaf_198 (Nat.le_of_ble_eq_true rfl))) (
  kc_case (P := P) (kc_se c_Md_judgeLeaf_197 (sm_iconst d_Md_judgeLeaf_197 (by decide))) (
  kc_case (P := P) (kc_se rfl sm_no) (
  kc_case (P := P) (kc_se rfl sm_no) (
  kc_case (P := P) (kc_se c_Md_judgeLeaf_194 (sm_goto d_Md_judgeLeaf_194 (by decide))) (
  kc_case (P := P) (kc_se c_Md_judgeLeaf_193 (sm_iconst d_Md_judgeLeaf_193 (by decide))) (
  kc_case (P := P) (kc_se rfl sm_no) (
  kc_case (P := P) (kc_se rfl sm_no) (
  kc_case (P := P) (kc_se c_Md_judgeLeaf_190 (sm_if_gt d_Md_judgeLeaf_190 (by decide))) (
  kc_case (P := P) (kc_se c_Md_judgeLeaf_189 (sm_lcmp d_Md_judgeLeaf_189)) (
  kc_case (P := P) (kc_se c_Md_judgeLeaf_188 (sm_lald d_Md_judgeLeaf_188)) (
  kc_case (P := P) (kc_se c_Md_judgeLeaf_187 (sm_iload_n d_Md_judgeLeaf_187 rfl)) (
  kc_case (P := P) (kc_se rfl sm_no) (
  kc_case (P := P) (kc_se rfl sm_no) (
  kc_case (P := P) (kc_se c_Md_judgeLeaf_184 (sm_get (ci := 10) (C := "DirectoryDeskModel") (F := kF_Md) rfl kin_Md (Nat.le_of_ble_eq_true rfl) d_Md_judgeLeaf_184 (kw3 227 rfl rfl))) (
  kc_case (P := P) (kc_se c_Md_judgeLeaf_183 (sm_aload_n d_Md_judgeLeaf_183 rfl)) (
  kc_case (P := P) (kc_se rfl sm_no) (
  kc_case (P := P) (kc_se c_Md_judgeLeaf_181 (sm_lload d_Md_judgeLeaf_181)) (
  kc_case (P := P) (kc_se rfl sm_no) (
  s_Md_judgeLeaf_180))))))))))))))))))))))))))))))))))))))))))))))))))))))))))))
set_option maxRecDepth 100000 in
set_option maxHeartbeats 4000000 in
theorem s_Md_judgeLeaf_245 : ∀ pc, pc < 245 → kc_Sim kt kw_A kw_N kt_cl kt_En "DirectoryDeskModel" prog_12_method_38_code 10 (some .int) "judgeLeaf" none pc (ct_Md_judgeLeaf pc) := by
  let P : Nat → Prop := fun pc => kc_Sim kt kw_A kw_N kt_cl kt_En "DirectoryDeskModel" prog_12_method_38_code 10 (some .int) "judgeLeaf" none pc (ct_Md_judgeLeaf pc)
  exact kc_case (P := P) (kc_se c_Md_judgeLeaf_244 (sm_ri d_Md_judgeLeaf_244 rfl)) (
  kc_case (P := P) (kc_se c_Md_judgeLeaf_243 (sm_iconst d_Md_judgeLeaf_243 (by decide))) (
  kc_case (P := P) (kc_se rfl sm_no) (
  kc_case (P := P) (kc_se rfl sm_no) (
  kc_case (P := P) (kc_se c_Md_judgeLeaf_240 (sm_goto d_Md_judgeLeaf_240 (by decide))) (
  s_Md_judgeLeaf_240)))))
set_option maxRecDepth 100000 in
theorem ka_nth_no_Md_judgeLeaf (pc : Nat) (h : 245 ≤ pc) : ct_Md_judgeLeaf pc = ka_no := ka_nth_ge _ pc (Nat.le_trans (Nat.le_of_eq (by rfl)) h)
theorem s_Md_judgeLeaf (pc : Nat) : kc_Sim kt kw_A kw_N kt_cl kt_En "DirectoryDeskModel" prog_12_method_38_code 10 (some .int) "judgeLeaf" none pc (ct_Md_judgeLeaf pc) := (Nat.lt_or_ge pc 245).elim (s_Md_judgeLeaf_245 pc) (fun h => kc_se (ka_nth_no_Md_judgeLeaf pc h) sm_no)
def cl_Md_having_0 : List kc_A := [ka_ci (nI 0) 1, ka_is 3 1, ka_il 1 1, ka_ci (nI 1) 1, ka_ii (fun x y => x + y), ka_is 4 2, ka_no, ka_il 4 2, ka_no, ka_al 0 1, ka_get 10 40, ka_no, ka_no, ka_cm (fun x y => y ≤ x) 52, ka_no, ka_no, ka_al 0 1, ka_get 10 42, ka_no, ka_no, ka_il 4 2, ka_no, ka_iald, ka_il 1 1, ka_cm (fun x y => ¬ x = y) 44, ka_no, ka_no, ka_al 0 1, ka_get 10 45, ka_no, ka_no, ka_il 4 2, ka_no, ka_iald, ka_il 2 1, ka_cm (fun x y => ¬ x = y) 44, ka_no, ka_no, ka_il 3 1, ka_ci (nI 1) 1, ka_ii (fun x y => x + y), ka_goto 45, ka_no, ka_no, ka_il 3 1, ka_is 3 1, ka_inc 4 (nI 1), ka_no, ka_no, ka_goto 7, ka_no, ka_no, ka_il 3 1, ka_ri]
def ct_Md_having : Nat → kc_A := fun pc => ka_nth (cl_Md_having_0) pc
set_option maxRecDepth 100000 in
theorem c_Md_having_0 : ct_Md_having 0 = ka_ci (nI 0) 1 := rfl
theorem d_Md_having_0 : decode prog_12_method_39_code 0 = .ok (.iconst 0, 1) := by decide +kernel
set_option maxRecDepth 100000 in
theorem c_Md_having_1 : ct_Md_having 1 = ka_is 3 1 := rfl
theorem d_Md_having_1 : decode prog_12_method_39_code 1 = .ok (.istore_n 3, 1) := by decide +kernel
set_option maxRecDepth 100000 in
theorem c_Md_having_2 : ct_Md_having 2 = ka_il 1 1 := rfl
theorem d_Md_having_2 : decode prog_12_method_39_code 2 = .ok (.iload_n 1, 1) := by decide +kernel
set_option maxRecDepth 100000 in
theorem c_Md_having_3 : ct_Md_having 3 = ka_ci (nI 1) 1 := rfl
theorem d_Md_having_3 : decode prog_12_method_39_code 3 = .ok (.iconst 1, 1) := by decide +kernel
set_option maxRecDepth 100000 in
theorem c_Md_having_4 : ct_Md_having 4 = ka_ii (fun x y => x + y) := rfl
theorem d_Md_having_4 : decode prog_12_method_39_code 4 = .ok (.iadd, 1) := by decide +kernel
set_option maxRecDepth 100000 in
theorem c_Md_having_5 : ct_Md_having 5 = ka_is 4 2 := rfl
theorem d_Md_having_5 : decode prog_12_method_39_code 5 = .ok (.istore 4, 2) := by decide +kernel
set_option maxRecDepth 100000 in
theorem c_Md_having_7 : ct_Md_having 7 = ka_il 4 2 := rfl
theorem d_Md_having_7 : decode prog_12_method_39_code 7 = .ok (.iload 4, 2) := by decide +kernel
set_option maxRecDepth 100000 in
theorem c_Md_having_9 : ct_Md_having 9 = ka_al 0 1 := rfl
theorem d_Md_having_9 : decode prog_12_method_39_code 9 = .ok (.aload_n 0, 1) := by decide +kernel
set_option maxRecDepth 100000 in
theorem c_Md_having_10 : ct_Md_having 10 = ka_get 10 40 := rfl
theorem d_Md_having_10 : decode prog_12_method_39_code 10 = .ok (.getfield 183, 3) := by decide +kernel
set_option maxRecDepth 100000 in
theorem c_Md_having_13 : ct_Md_having 13 = ka_cm (fun x y => y ≤ x) 52 := rfl
theorem d_Md_having_13 : decode prog_12_method_39_code 13 = .ok (.if_icmp .ge 39, 3) := by decide +kernel
set_option maxRecDepth 100000 in
theorem c_Md_having_16 : ct_Md_having 16 = ka_al 0 1 := rfl
theorem d_Md_having_16 : decode prog_12_method_39_code 16 = .ok (.aload_n 0, 1) := by decide +kernel
set_option maxRecDepth 100000 in
theorem c_Md_having_17 : ct_Md_having 17 = ka_get 10 42 := rfl
theorem d_Md_having_17 : decode prog_12_method_39_code 17 = .ok (.getfield 59, 3) := by decide +kernel
set_option maxRecDepth 100000 in
theorem c_Md_having_20 : ct_Md_having 20 = ka_il 4 2 := rfl
theorem d_Md_having_20 : decode prog_12_method_39_code 20 = .ok (.iload 4, 2) := by decide +kernel
set_option maxRecDepth 100000 in
theorem c_Md_having_22 : ct_Md_having 22 = ka_iald := rfl
theorem d_Md_having_22 : decode prog_12_method_39_code 22 = .ok (.iaload, 1) := by decide +kernel
set_option maxRecDepth 100000 in
theorem c_Md_having_23 : ct_Md_having 23 = ka_il 1 1 := rfl
theorem d_Md_having_23 : decode prog_12_method_39_code 23 = .ok (.iload_n 1, 1) := by decide +kernel
set_option maxRecDepth 100000 in
theorem c_Md_having_24 : ct_Md_having 24 = ka_cm (fun x y => ¬ x = y) 44 := rfl
theorem d_Md_having_24 : decode prog_12_method_39_code 24 = .ok (.if_icmp .ne 20, 3) := by decide +kernel
set_option maxRecDepth 100000 in
theorem c_Md_having_27 : ct_Md_having 27 = ka_al 0 1 := rfl
theorem d_Md_having_27 : decode prog_12_method_39_code 27 = .ok (.aload_n 0, 1) := by decide +kernel
set_option maxRecDepth 100000 in
theorem c_Md_having_28 : ct_Md_having 28 = ka_get 10 45 := rfl
theorem d_Md_having_28 : decode prog_12_method_39_code 28 = .ok (.getfield 68, 3) := by decide +kernel
set_option maxRecDepth 100000 in
theorem c_Md_having_31 : ct_Md_having 31 = ka_il 4 2 := rfl
theorem d_Md_having_31 : decode prog_12_method_39_code 31 = .ok (.iload 4, 2) := by decide +kernel
set_option maxRecDepth 100000 in
theorem c_Md_having_33 : ct_Md_having 33 = ka_iald := rfl
theorem d_Md_having_33 : decode prog_12_method_39_code 33 = .ok (.iaload, 1) := by decide +kernel
set_option maxRecDepth 100000 in
theorem c_Md_having_34 : ct_Md_having 34 = ka_il 2 1 := rfl
theorem d_Md_having_34 : decode prog_12_method_39_code 34 = .ok (.iload_n 2, 1) := by decide +kernel
set_option maxRecDepth 100000 in
theorem c_Md_having_35 : ct_Md_having 35 = ka_cm (fun x y => ¬ x = y) 44 := rfl
theorem d_Md_having_35 : decode prog_12_method_39_code 35 = .ok (.if_icmp .ne 9, 3) := by decide +kernel
set_option maxRecDepth 100000 in
theorem c_Md_having_38 : ct_Md_having 38 = ka_il 3 1 := rfl
theorem d_Md_having_38 : decode prog_12_method_39_code 38 = .ok (.iload_n 3, 1) := by decide +kernel
set_option maxRecDepth 100000 in
theorem c_Md_having_39 : ct_Md_having 39 = ka_ci (nI 1) 1 := rfl
theorem d_Md_having_39 : decode prog_12_method_39_code 39 = .ok (.iconst 1, 1) := by decide +kernel
set_option maxRecDepth 100000 in
theorem c_Md_having_40 : ct_Md_having 40 = ka_ii (fun x y => x + y) := rfl
theorem d_Md_having_40 : decode prog_12_method_39_code 40 = .ok (.iadd, 1) := by decide +kernel
set_option maxRecDepth 100000 in
theorem c_Md_having_41 : ct_Md_having 41 = ka_goto 45 := rfl
theorem d_Md_having_41 : decode prog_12_method_39_code 41 = .ok (.goto 4, 3) := by decide +kernel
set_option maxRecDepth 100000 in
theorem c_Md_having_44 : ct_Md_having 44 = ka_il 3 1 := rfl
theorem d_Md_having_44 : decode prog_12_method_39_code 44 = .ok (.iload_n 3, 1) := by decide +kernel
set_option maxRecDepth 100000 in
theorem c_Md_having_45 : ct_Md_having 45 = ka_is 3 1 := rfl
theorem d_Md_having_45 : decode prog_12_method_39_code 45 = .ok (.istore_n 3, 1) := by decide +kernel
set_option maxRecDepth 100000 in
theorem c_Md_having_46 : ct_Md_having 46 = ka_inc 4 (nI 1) := rfl
theorem d_Md_having_46 : decode prog_12_method_39_code 46 = .ok (.iinc 4 1, 3) := by decide +kernel
set_option maxRecDepth 100000 in
theorem c_Md_having_49 : ct_Md_having 49 = ka_goto 7 := rfl
theorem d_Md_having_49 : decode prog_12_method_39_code 49 = .ok (.goto (-42), 3) := by decide +kernel
set_option maxRecDepth 100000 in
theorem c_Md_having_52 : ct_Md_having 52 = ka_il 3 1 := rfl
theorem d_Md_having_52 : decode prog_12_method_39_code 52 = .ok (.iload_n 3, 1) := by decide +kernel
set_option maxRecDepth 100000 in
theorem c_Md_having_53 : ct_Md_having 53 = ka_ri := rfl
theorem d_Md_having_53 : decode prog_12_method_39_code 53 = .ok (.ireturn, 1) := by decide +kernel
set_option maxRecDepth 100000 in
set_option maxHeartbeats 4000000 in
theorem s_Md_having_54 : ∀ pc, pc < 54 → kc_Sim kt kw_A kw_N kt_cl kt_En "DirectoryDeskModel" prog_12_method_39_code 5 (some .int) "having" none pc (ct_Md_having pc) := by
  let P : Nat → Prop := fun pc => kc_Sim kt kw_A kw_N kt_cl kt_En "DirectoryDeskModel" prog_12_method_39_code 5 (some .int) "having" none pc (ct_Md_having pc)
  exact kc_case (P := P) (kc_se c_Md_having_53 (sm_ri d_Md_having_53 rfl)) (
  kc_case (P := P) (kc_se c_Md_having_52 (sm_iload_n d_Md_having_52 rfl)) (
  kc_case (P := P) (kc_se rfl sm_no) (
  kc_case (P := P) (kc_se rfl sm_no) (
  kc_case (P := P) (kc_se c_Md_having_49 (sm_goto d_Md_having_49 (by decide))) (
  kc_case (P := P) (kc_se rfl sm_no) (
  kc_case (P := P) (kc_se rfl sm_no) (
  kc_case (P := P) (kc_se c_Md_having_46 (sm_inc d_Md_having_46 (by decide) (Nat.le_of_ble_eq_true rfl))) (
  kc_case (P := P) (kc_se c_Md_having_45 (sm_istore_n d_Md_having_45 rfl (Nat.le_of_ble_eq_true rfl))) (
  kc_case (P := P) (kc_se c_Md_having_44 (sm_iload_n d_Md_having_44 rfl)) (
  kc_case (P := P) (kc_se rfl sm_no) (
  kc_case (P := P) (kc_se rfl sm_no) (
  kc_case (P := P) (kc_se c_Md_having_41 (sm_goto d_Md_having_41 (by decide))) (
  kc_case (P := P) (kc_se c_Md_having_40 (sm_iadd d_Md_having_40)) (
  kc_case (P := P) (kc_se c_Md_having_39 (sm_iconst d_Md_having_39 (by decide))) (
  kc_case (P := P) (kc_se c_Md_having_38 (sm_iload_n d_Md_having_38 rfl)) (
  kc_case (P := P) (kc_se rfl sm_no) (
  kc_case (P := P) (kc_se rfl sm_no) (
  kc_case (P := P) (kc_se c_Md_having_35 (sm_cm_ne d_Md_having_35 (by decide))) (
  kc_case (P := P) (kc_se c_Md_having_34 (sm_iload_n d_Md_having_34 rfl)) (
  kc_case (P := P) (kc_se c_Md_having_33 (sm_iald d_Md_having_33)) (
  kc_case (P := P) (kc_se rfl sm_no) (
  kc_case (P := P) (kc_se c_Md_having_31 (sm_iload d_Md_having_31)) (
  kc_case (P := P) (kc_se rfl sm_no) (
  kc_case (P := P) (kc_se rfl sm_no) (
  kc_case (P := P) (kc_se c_Md_having_28 (sm_get (ci := 10) (C := "DirectoryDeskModel") (F := kF_Md) rfl kin_Md (Nat.le_of_ble_eq_true rfl) d_Md_having_28 (kw3 228 rfl rfl))) (
  kc_case (P := P) (kc_se c_Md_having_27 (sm_aload_n d_Md_having_27 rfl)) (
  kc_case (P := P) (kc_se rfl sm_no) (
  kc_case (P := P) (kc_se rfl sm_no) (
  kc_case (P := P) (kc_se c_Md_having_24 (sm_cm_ne d_Md_having_24 (by decide))) (
  kc_case (P := P) (kc_se c_Md_having_23 (sm_iload_n d_Md_having_23 rfl)) (
  kc_case (P := P) (kc_se c_Md_having_22 (sm_iald d_Md_having_22)) (
  kc_case (P := P) (kc_se rfl sm_no) (
  kc_case (P := P) (kc_se c_Md_having_20 (sm_iload d_Md_having_20)) (
  kc_case (P := P) (kc_se rfl sm_no) (
  kc_case (P := P) (kc_se rfl sm_no) (
  kc_case (P := P) (kc_se c_Md_having_17 (sm_get (ci := 10) (C := "DirectoryDeskModel") (F := kF_Md) rfl kin_Md (Nat.le_of_ble_eq_true rfl) d_Md_having_17 (kw3 225 rfl rfl))) (
  kc_case (P := P) (kc_se c_Md_having_16 (sm_aload_n d_Md_having_16 rfl)) (
  kc_case (P := P) (kc_se rfl sm_no) (
  kc_case (P := P) (kc_se rfl sm_no) (
  kc_case (P := P) (kc_se c_Md_having_13 (sm_cm_ge d_Md_having_13 (by decide))) (
  kc_case (P := P) (kc_se rfl sm_no) (
  kc_case (P := P) (kc_se rfl sm_no) (
  kc_case (P := P) (kc_se c_Md_having_10 (sm_get (ci := 10) (C := "DirectoryDeskModel") (F := kF_Md) rfl kin_Md (Nat.le_of_ble_eq_true rfl) d_Md_having_10 (kw3 223 rfl rfl))) (
  kc_case (P := P) (kc_se c_Md_having_9 (sm_aload_n d_Md_having_9 rfl)) (
  kc_case (P := P) (kc_se rfl sm_no) (
  kc_case (P := P) (kc_se c_Md_having_7 (sm_iload d_Md_having_7)) (
  kc_case (P := P) (kc_se rfl sm_no) (
  kc_case (P := P) (kc_se c_Md_having_5 (sm_istore d_Md_having_5 (Nat.le_of_ble_eq_true rfl))) (
  kc_case (P := P) (kc_se c_Md_having_4 (sm_iadd d_Md_having_4)) (
  kc_case (P := P) (kc_se c_Md_having_3 (sm_iconst d_Md_having_3 (by decide))) (
  kc_case (P := P) (kc_se c_Md_having_2 (sm_iload_n d_Md_having_2 rfl)) (
  kc_case (P := P) (kc_se c_Md_having_1 (sm_istore_n d_Md_having_1 rfl (Nat.le_of_ble_eq_true rfl))) (
  kc_case (P := P) (kc_se c_Md_having_0 (sm_iconst d_Md_having_0 (by decide))) (
  kc_case0))))))))))))))))))))))))))))))))))))))))))))))))))))))
set_option maxRecDepth 100000 in
theorem ka_nth_no_Md_having (pc : Nat) (h : 54 ≤ pc) : ct_Md_having pc = ka_no := ka_nth_ge _ pc (Nat.le_trans (Nat.le_of_eq (by rfl)) h)
theorem s_Md_having (pc : Nat) : kc_Sim kt kw_A kw_N kt_cl kt_En "DirectoryDeskModel" prog_12_method_39_code 5 (some .int) "having" none pc (ct_Md_having pc) := (Nat.lt_or_ge pc 54).elim (s_Md_having_54 pc) (fun h => kc_se (ka_nth_no_Md_having pc h) sm_no)
def cl_Md_judge_0 : List kc_A := [ka_al 0 1, ka_get 10 41, ka_no, ka_no, ka_il 1 1, ka_iald, ka_sw (fun x => if x = nI 160 then 32 else if x = nI 161 then 60 else if x = nI 162 then 88 else 116), ka_no, ka_no, ka_no, ka_no, ka_no, ka_no, ka_no, ka_no, ka_no, ka_no, ka_no, ka_no, ka_no, ka_no, ka_no, ka_no, ka_no, ka_no, ka_no, ka_no, ka_no, ka_no, ka_no, ka_no, ka_no, ka_al 0 1, ka_il 1 1, ka_ci (nI 0) 1, ka_cv 134 2 10 0 0, ka_no, ka_no, ka_if (fun x => x ≤ 0) 45, ka_no, ka_no, ka_ci (nI 0) 1, ka_goto 59, ka_no, ka_no, ka_al 0 1, ka_il 1 1, ka_ci (nI 2) 1, ka_cv 134 2 10 0 0, ka_no, ka_no, ka_if (fun x => x ≤ 0) 58, ka_no, ka_no, ka_ci (nI 2) 1, ka_goto 59, ka_no, ka_no, ka_ci (nI 1) 1, ka_ri]
def cl_Md_judge_1 : List kc_A := [ka_al 0 1, ka_il 1 1, ka_ci (nI 1) 1, ka_cv 134 2 10 0 0, ka_no, ka_no, ka_if (fun x => x ≤ 0) 73, ka_no, ka_no, ka_ci (nI 1) 1, ka_goto 87, ka_no, ka_no, ka_al 0 1, ka_il 1 1, ka_ci (nI 2) 1, ka_cv 134 2 10 0 0, ka_no, ka_no, ka_if (fun x => x ≤ 0) 86, ka_no, ka_no, ka_ci (nI 2) 1, ka_goto 87, ka_no, ka_no, ka_ci (nI 0) 1, ka_ri, ka_al 0 1, ka_il 1 1, ka_ci (nI 2) 1, ka_cv 134 2 10 0 0, ka_no, ka_no, ka_if (fun x => x ≤ 0) 101, ka_no, ka_no, ka_ci (nI 2) 1, ka_goto 115, ka_no, ka_no, ka_al 0 1, ka_il 1 1, ka_ci (nI 0) 1, ka_cv 134 2 10 0 0, ka_no, ka_no, ka_if (fun x => x ≤ 0) 114, ka_no, ka_no, ka_ci (nI 1) 1, ka_goto 115, ka_no, ka_no, ka_ci (nI 0) 1, ka_ri, ka_al 0 1, ka_il 1 1, ka_il 2 1, ka_cv 133 2 10 0 0]
def cl_Md_judge_2 : List kc_A := [ka_no, ka_no, ka_ri]
def ct_Md_judge : Nat → kc_A := fun pc => ka_nth (cl_Md_judge_0 ++ (cl_Md_judge_1 ++ (cl_Md_judge_2))) pc
set_option maxRecDepth 100000 in
theorem c_Md_judge_0 : ct_Md_judge 0 = ka_al 0 1 := rfl
theorem d_Md_judge_0 : decode prog_12_method_40_code 0 = .ok (.aload_n 0, 1) := by decide +kernel
set_option maxRecDepth 100000 in
theorem c_Md_judge_1 : ct_Md_judge 1 = ka_get 10 41 := rfl
theorem d_Md_judge_1 : decode prog_12_method_40_code 1 = .ok (.getfield 56, 3) := by decide +kernel
set_option maxRecDepth 100000 in
theorem c_Md_judge_4 : ct_Md_judge 4 = ka_il 1 1 := rfl
theorem d_Md_judge_4 : decode prog_12_method_40_code 4 = .ok (.iload_n 1, 1) := by decide +kernel
set_option maxRecDepth 100000 in
theorem c_Md_judge_5 : ct_Md_judge 5 = ka_iald := rfl
theorem d_Md_judge_5 : decode prog_12_method_40_code 5 = .ok (.iaload, 1) := by decide +kernel
set_option maxRecDepth 100000 in
theorem c_Md_judge_6 : ct_Md_judge 6 = ka_sw (fun x => if x = nI 160 then 32 else if x = nI 161 then 60 else if x = nI 162 then 88 else 116) := rfl
theorem d_Md_judge_6 : decode prog_12_method_40_code 6 = .ok (.tableswitch 110 160 162 #[26, 54, 82], 26) := by decide +kernel
set_option maxRecDepth 100000 in
theorem c_Md_judge_32 : ct_Md_judge 32 = ka_al 0 1 := rfl
theorem d_Md_judge_32 : decode prog_12_method_40_code 32 = .ok (.aload_n 0, 1) := by decide +kernel
set_option maxRecDepth 100000 in
theorem c_Md_judge_33 : ct_Md_judge 33 = ka_il 1 1 := rfl
theorem d_Md_judge_33 : decode prog_12_method_40_code 33 = .ok (.iload_n 1, 1) := by decide +kernel
set_option maxRecDepth 100000 in
theorem c_Md_judge_34 : ct_Md_judge 34 = ka_ci (nI 0) 1 := rfl
theorem d_Md_judge_34 : decode prog_12_method_40_code 34 = .ok (.iconst 0, 1) := by decide +kernel
set_option maxRecDepth 100000 in
theorem c_Md_judge_35 : ct_Md_judge 35 = ka_cv 134 2 10 0 0 := rfl
theorem d_Md_judge_35 : decode prog_12_method_40_code 35 = .ok (.invokevirtual 270, 3) := by decide +kernel
set_option maxRecDepth 100000 in
theorem c_Md_judge_38 : ct_Md_judge 38 = ka_if (fun x => x ≤ 0) 45 := rfl
theorem d_Md_judge_38 : decode prog_12_method_40_code 38 = .ok (.ifCond .le 7, 3) := by decide +kernel
set_option maxRecDepth 100000 in
theorem c_Md_judge_41 : ct_Md_judge 41 = ka_ci (nI 0) 1 := rfl
theorem d_Md_judge_41 : decode prog_12_method_40_code 41 = .ok (.iconst 0, 1) := by decide +kernel
set_option maxRecDepth 100000 in
theorem c_Md_judge_42 : ct_Md_judge 42 = ka_goto 59 := rfl
theorem d_Md_judge_42 : decode prog_12_method_40_code 42 = .ok (.goto 17, 3) := by decide +kernel
set_option maxRecDepth 100000 in
theorem c_Md_judge_45 : ct_Md_judge 45 = ka_al 0 1 := rfl
theorem d_Md_judge_45 : decode prog_12_method_40_code 45 = .ok (.aload_n 0, 1) := by decide +kernel
set_option maxRecDepth 100000 in
theorem c_Md_judge_46 : ct_Md_judge 46 = ka_il 1 1 := rfl
theorem d_Md_judge_46 : decode prog_12_method_40_code 46 = .ok (.iload_n 1, 1) := by decide +kernel
set_option maxRecDepth 100000 in
theorem c_Md_judge_47 : ct_Md_judge 47 = ka_ci (nI 2) 1 := rfl
theorem d_Md_judge_47 : decode prog_12_method_40_code 47 = .ok (.iconst 2, 1) := by decide +kernel
set_option maxRecDepth 100000 in
theorem c_Md_judge_48 : ct_Md_judge 48 = ka_cv 134 2 10 0 0 := rfl
theorem d_Md_judge_48 : decode prog_12_method_40_code 48 = .ok (.invokevirtual 270, 3) := by decide +kernel
set_option maxRecDepth 100000 in
theorem c_Md_judge_51 : ct_Md_judge 51 = ka_if (fun x => x ≤ 0) 58 := rfl
theorem d_Md_judge_51 : decode prog_12_method_40_code 51 = .ok (.ifCond .le 7, 3) := by decide +kernel
set_option maxRecDepth 100000 in
theorem c_Md_judge_54 : ct_Md_judge 54 = ka_ci (nI 2) 1 := rfl
theorem d_Md_judge_54 : decode prog_12_method_40_code 54 = .ok (.iconst 2, 1) := by decide +kernel
set_option maxRecDepth 100000 in
theorem c_Md_judge_55 : ct_Md_judge 55 = ka_goto 59 := rfl
theorem d_Md_judge_55 : decode prog_12_method_40_code 55 = .ok (.goto 4, 3) := by decide +kernel
set_option maxRecDepth 100000 in
theorem c_Md_judge_58 : ct_Md_judge 58 = ka_ci (nI 1) 1 := rfl
theorem d_Md_judge_58 : decode prog_12_method_40_code 58 = .ok (.iconst 1, 1) := by decide +kernel
set_option maxRecDepth 100000 in
theorem c_Md_judge_59 : ct_Md_judge 59 = ka_ri := rfl
theorem d_Md_judge_59 : decode prog_12_method_40_code 59 = .ok (.ireturn, 1) := by decide +kernel
set_option maxRecDepth 100000 in
theorem c_Md_judge_60 : ct_Md_judge 60 = ka_al 0 1 := rfl
theorem d_Md_judge_60 : decode prog_12_method_40_code 60 = .ok (.aload_n 0, 1) := by decide +kernel
set_option maxRecDepth 100000 in
theorem c_Md_judge_61 : ct_Md_judge 61 = ka_il 1 1 := rfl
theorem d_Md_judge_61 : decode prog_12_method_40_code 61 = .ok (.iload_n 1, 1) := by decide +kernel
set_option maxRecDepth 100000 in
theorem c_Md_judge_62 : ct_Md_judge 62 = ka_ci (nI 1) 1 := rfl
theorem d_Md_judge_62 : decode prog_12_method_40_code 62 = .ok (.iconst 1, 1) := by decide +kernel
set_option maxRecDepth 100000 in
theorem c_Md_judge_63 : ct_Md_judge 63 = ka_cv 134 2 10 0 0 := rfl
theorem d_Md_judge_63 : decode prog_12_method_40_code 63 = .ok (.invokevirtual 270, 3) := by decide +kernel
set_option maxRecDepth 100000 in
theorem c_Md_judge_66 : ct_Md_judge 66 = ka_if (fun x => x ≤ 0) 73 := rfl
theorem d_Md_judge_66 : decode prog_12_method_40_code 66 = .ok (.ifCond .le 7, 3) := by decide +kernel
set_option maxRecDepth 100000 in
theorem c_Md_judge_69 : ct_Md_judge 69 = ka_ci (nI 1) 1 := rfl
theorem d_Md_judge_69 : decode prog_12_method_40_code 69 = .ok (.iconst 1, 1) := by decide +kernel
set_option maxRecDepth 100000 in
theorem c_Md_judge_70 : ct_Md_judge 70 = ka_goto 87 := rfl
theorem d_Md_judge_70 : decode prog_12_method_40_code 70 = .ok (.goto 17, 3) := by decide +kernel
set_option maxRecDepth 100000 in
theorem c_Md_judge_73 : ct_Md_judge 73 = ka_al 0 1 := rfl
theorem d_Md_judge_73 : decode prog_12_method_40_code 73 = .ok (.aload_n 0, 1) := by decide +kernel
set_option maxRecDepth 100000 in
theorem c_Md_judge_74 : ct_Md_judge 74 = ka_il 1 1 := rfl
theorem d_Md_judge_74 : decode prog_12_method_40_code 74 = .ok (.iload_n 1, 1) := by decide +kernel
set_option maxRecDepth 100000 in
theorem c_Md_judge_75 : ct_Md_judge 75 = ka_ci (nI 2) 1 := rfl
theorem d_Md_judge_75 : decode prog_12_method_40_code 75 = .ok (.iconst 2, 1) := by decide +kernel
set_option maxRecDepth 100000 in
theorem c_Md_judge_76 : ct_Md_judge 76 = ka_cv 134 2 10 0 0 := rfl
theorem d_Md_judge_76 : decode prog_12_method_40_code 76 = .ok (.invokevirtual 270, 3) := by decide +kernel
set_option maxRecDepth 100000 in
theorem c_Md_judge_79 : ct_Md_judge 79 = ka_if (fun x => x ≤ 0) 86 := rfl
theorem d_Md_judge_79 : decode prog_12_method_40_code 79 = .ok (.ifCond .le 7, 3) := by decide +kernel
set_option maxRecDepth 100000 in
theorem c_Md_judge_82 : ct_Md_judge 82 = ka_ci (nI 2) 1 := rfl
theorem d_Md_judge_82 : decode prog_12_method_40_code 82 = .ok (.iconst 2, 1) := by decide +kernel
set_option maxRecDepth 100000 in
theorem c_Md_judge_83 : ct_Md_judge 83 = ka_goto 87 := rfl
theorem d_Md_judge_83 : decode prog_12_method_40_code 83 = .ok (.goto 4, 3) := by decide +kernel
set_option maxRecDepth 100000 in
theorem c_Md_judge_86 : ct_Md_judge 86 = ka_ci (nI 0) 1 := rfl
theorem d_Md_judge_86 : decode prog_12_method_40_code 86 = .ok (.iconst 0, 1) := by decide +kernel
set_option maxRecDepth 100000 in
theorem c_Md_judge_87 : ct_Md_judge 87 = ka_ri := rfl
theorem d_Md_judge_87 : decode prog_12_method_40_code 87 = .ok (.ireturn, 1) := by decide +kernel
set_option maxRecDepth 100000 in
theorem c_Md_judge_88 : ct_Md_judge 88 = ka_al 0 1 := rfl
theorem d_Md_judge_88 : decode prog_12_method_40_code 88 = .ok (.aload_n 0, 1) := by decide +kernel
set_option maxRecDepth 100000 in
theorem c_Md_judge_89 : ct_Md_judge 89 = ka_il 1 1 := rfl
theorem d_Md_judge_89 : decode prog_12_method_40_code 89 = .ok (.iload_n 1, 1) := by decide +kernel
set_option maxRecDepth 100000 in
theorem c_Md_judge_90 : ct_Md_judge 90 = ka_ci (nI 2) 1 := rfl
theorem d_Md_judge_90 : decode prog_12_method_40_code 90 = .ok (.iconst 2, 1) := by decide +kernel
set_option maxRecDepth 100000 in
theorem c_Md_judge_91 : ct_Md_judge 91 = ka_cv 134 2 10 0 0 := rfl
theorem d_Md_judge_91 : decode prog_12_method_40_code 91 = .ok (.invokevirtual 270, 3) := by decide +kernel
set_option maxRecDepth 100000 in
theorem c_Md_judge_94 : ct_Md_judge 94 = ka_if (fun x => x ≤ 0) 101 := rfl
theorem d_Md_judge_94 : decode prog_12_method_40_code 94 = .ok (.ifCond .le 7, 3) := by decide +kernel
set_option maxRecDepth 100000 in
theorem c_Md_judge_97 : ct_Md_judge 97 = ka_ci (nI 2) 1 := rfl
theorem d_Md_judge_97 : decode prog_12_method_40_code 97 = .ok (.iconst 2, 1) := by decide +kernel
set_option maxRecDepth 100000 in
theorem c_Md_judge_98 : ct_Md_judge 98 = ka_goto 115 := rfl
theorem d_Md_judge_98 : decode prog_12_method_40_code 98 = .ok (.goto 17, 3) := by decide +kernel
set_option maxRecDepth 100000 in
theorem c_Md_judge_101 : ct_Md_judge 101 = ka_al 0 1 := rfl
theorem d_Md_judge_101 : decode prog_12_method_40_code 101 = .ok (.aload_n 0, 1) := by decide +kernel
set_option maxRecDepth 100000 in
theorem c_Md_judge_102 : ct_Md_judge 102 = ka_il 1 1 := rfl
theorem d_Md_judge_102 : decode prog_12_method_40_code 102 = .ok (.iload_n 1, 1) := by decide +kernel
set_option maxRecDepth 100000 in
theorem c_Md_judge_103 : ct_Md_judge 103 = ka_ci (nI 0) 1 := rfl
theorem d_Md_judge_103 : decode prog_12_method_40_code 103 = .ok (.iconst 0, 1) := by decide +kernel
set_option maxRecDepth 100000 in
theorem c_Md_judge_104 : ct_Md_judge 104 = ka_cv 134 2 10 0 0 := rfl
theorem d_Md_judge_104 : decode prog_12_method_40_code 104 = .ok (.invokevirtual 270, 3) := by decide +kernel
set_option maxRecDepth 100000 in
theorem c_Md_judge_107 : ct_Md_judge 107 = ka_if (fun x => x ≤ 0) 114 := rfl
theorem d_Md_judge_107 : decode prog_12_method_40_code 107 = .ok (.ifCond .le 7, 3) := by decide +kernel
set_option maxRecDepth 100000 in
theorem c_Md_judge_110 : ct_Md_judge 110 = ka_ci (nI 1) 1 := rfl
theorem d_Md_judge_110 : decode prog_12_method_40_code 110 = .ok (.iconst 1, 1) := by decide +kernel
set_option maxRecDepth 100000 in
theorem c_Md_judge_111 : ct_Md_judge 111 = ka_goto 115 := rfl
theorem d_Md_judge_111 : decode prog_12_method_40_code 111 = .ok (.goto 4, 3) := by decide +kernel
set_option maxRecDepth 100000 in
theorem c_Md_judge_114 : ct_Md_judge 114 = ka_ci (nI 0) 1 := rfl
theorem d_Md_judge_114 : decode prog_12_method_40_code 114 = .ok (.iconst 0, 1) := by decide +kernel
set_option maxRecDepth 100000 in
theorem c_Md_judge_115 : ct_Md_judge 115 = ka_ri := rfl
theorem d_Md_judge_115 : decode prog_12_method_40_code 115 = .ok (.ireturn, 1) := by decide +kernel
set_option maxRecDepth 100000 in
theorem c_Md_judge_116 : ct_Md_judge 116 = ka_al 0 1 := rfl
theorem d_Md_judge_116 : decode prog_12_method_40_code 116 = .ok (.aload_n 0, 1) := by decide +kernel
set_option maxRecDepth 100000 in
theorem c_Md_judge_117 : ct_Md_judge 117 = ka_il 1 1 := rfl
theorem d_Md_judge_117 : decode prog_12_method_40_code 117 = .ok (.iload_n 1, 1) := by decide +kernel
set_option maxRecDepth 100000 in
theorem c_Md_judge_118 : ct_Md_judge 118 = ka_il 2 1 := rfl
theorem d_Md_judge_118 : decode prog_12_method_40_code 118 = .ok (.iload_n 2, 1) := by decide +kernel
set_option maxRecDepth 100000 in
theorem c_Md_judge_119 : ct_Md_judge 119 = ka_cv 133 2 10 0 0 := rfl
theorem d_Md_judge_119 : decode prog_12_method_40_code 119 = .ok (.invokevirtual 273, 3) := by decide +kernel
set_option maxRecDepth 100000 in
theorem c_Md_judge_122 : ct_Md_judge 122 = ka_ri := rfl
theorem d_Md_judge_122 : decode prog_12_method_40_code 122 = .ok (.ireturn, 1) := by decide +kernel
set_option maxRecDepth 100000 in
set_option maxHeartbeats 4000000 in
theorem s_Md_judge_60 : ∀ pc, pc < 60 → kc_Sim kt kw_A kw_N kt_cl kt_En "DirectoryDeskModel" prog_12_method_40_code 3 (some .int) "judge" none pc (ct_Md_judge pc) := by
  let P : Nat → Prop := fun pc => kc_Sim kt kw_A kw_N kt_cl kt_En "DirectoryDeskModel" prog_12_method_40_code 3 (some .int) "judge" none pc (ct_Md_judge pc)
  exact kc_case (P := P) (kc_se c_Md_judge_59 (sm_ri d_Md_judge_59 rfl)) (
  kc_case (P := P) (kc_se c_Md_judge_58 (sm_iconst d_Md_judge_58 (by decide))) (
  kc_case (P := P) (kc_se rfl sm_no) (
  kc_case (P := P) (kc_se rfl sm_no) (
  kc_case (P := P) (kc_se c_Md_judge_55 (sm_goto d_Md_judge_55 (by decide))) (
  kc_case (P := P) (kc_se c_Md_judge_54 (sm_iconst d_Md_judge_54 (by decide))) (
  kc_case (P := P) (kc_se rfl sm_no) (
  kc_case (P := P) (kc_se rfl sm_no) (
  kc_case (P := P) (kc_se c_Md_judge_51 (sm_if_le d_Md_judge_51 (by decide))) (
  kc_case (P := P) (kc_se rfl sm_no) (
  kc_case (P := P) (kc_se rfl sm_no) (
  kc_case (P := P) (kc_se c_Md_judge_48 (sm_cv (j := 134) rfl rfl kw_o kw_g wc_Md_having (Nat.le_of_ble_eq_true rfl) hd_Md_having (ci := 10) (F := kF_Md) (N := 52) rfl (kw4 236 rfl rfl) wi_Md_having ws_Md_having wn_Md_having d_Md_judge_48)) (
  kc_case (P := P) (kc_se c_Md_judge_47 (sm_iconst d_Md_judge_47 (by decide))) (
  kc_case (P := P) (kc_se c_Md_judge_46 (sm_iload_n d_Md_judge_46 rfl)) (
  kc_case (P := P) (kc_se c_Md_judge_45 (sm_aload_n d_Md_judge_45 rfl)) (
  kc_case (P := P) (kc_se rfl sm_no) (
  kc_case (P := P) (kc_se rfl sm_no) (
  kc_case (P := P) (kc_se c_Md_judge_42 (sm_goto d_Md_judge_42 (by decide))) (
  kc_case (P := P) (kc_se c_Md_judge_41 (sm_iconst d_Md_judge_41 (by decide))) (
  kc_case (P := P) (kc_se rfl sm_no) (
  kc_case (P := P) (kc_se rfl sm_no) (
  kc_case (P := P) (kc_se c_Md_judge_38 (sm_if_le d_Md_judge_38 (by decide))) (
  kc_case (P := P) (kc_se rfl sm_no) (
  kc_case (P := P) (kc_se rfl sm_no) (
  kc_case (P := P) (kc_se c_Md_judge_35 (sm_cv (j := 134) rfl rfl kw_o kw_g wc_Md_having (Nat.le_of_ble_eq_true rfl) hd_Md_having (ci := 10) (F := kF_Md) (N := 52) rfl (kw4 236 rfl rfl) wi_Md_having ws_Md_having wn_Md_having d_Md_judge_35)) (
  kc_case (P := P) (kc_se c_Md_judge_34 (sm_iconst d_Md_judge_34 (by decide))) (
  kc_case (P := P) (kc_se c_Md_judge_33 (sm_iload_n d_Md_judge_33 rfl)) (
  kc_case (P := P) (kc_se c_Md_judge_32 (sm_aload_n d_Md_judge_32 rfl)) (
  kc_case (P := P) (kc_se rfl sm_no) (
  kc_case (P := P) (kc_se rfl sm_no) (
  kc_case (P := P) (kc_se rfl sm_no) (
  kc_case (P := P) (kc_se rfl sm_no) (
  kc_case (P := P) (kc_se rfl sm_no) (
  kc_case (P := P) (kc_se rfl sm_no) (
  kc_case (P := P) (kc_se rfl sm_no) (
  kc_case (P := P) (kc_se rfl sm_no) (
  kc_case (P := P) (kc_se rfl sm_no) (
  kc_case (P := P) (kc_se rfl sm_no) (
  kc_case (P := P) (kc_se rfl sm_no) (
  kc_case (P := P) (kc_se rfl sm_no) (
  kc_case (P := P) (kc_se rfl sm_no) (
  kc_case (P := P) (kc_se rfl sm_no) (
  kc_case (P := P) (kc_se rfl sm_no) (
  kc_case (P := P) (kc_se rfl sm_no) (
  kc_case (P := P) (kc_se rfl sm_no) (
  kc_case (P := P) (kc_se rfl sm_no) (
  kc_case (P := P) (kc_se rfl sm_no) (
  kc_case (P := P) (kc_se rfl sm_no) (
  kc_case (P := P) (kc_se rfl sm_no) (
  kc_case (P := P) (kc_se rfl sm_no) (
  kc_case (P := P) (kc_se rfl sm_no) (
  kc_case (P := P) (kc_se rfl sm_no) (
  kc_case (P := P) (kc_se rfl sm_no) (
  kc_case (P := P) (kc_se c_Md_judge_6 (sm_tsw d_Md_judge_6 (by
    intro x
    by_cases h160 : x = nI 160
    · subst h160; exact Or.inr ⟨by decide +kernel, by decide +kernel, 26, by decide +kernel, by decide +kernel⟩
    by_cases h161 : x = nI 161
    · subst h161; exact Or.inr ⟨by decide +kernel, by decide +kernel, 54, by decide +kernel, by decide +kernel⟩
    by_cases h162 : x = nI 162
    · subst h162; exact Or.inr ⟨by decide +kernel, by decide +kernel, 82, by decide +kernel, by decide +kernel⟩
    have g160 := lv_neT (a := 160) h160 (by decide +kernel)
    have g161 := lv_neT (a := 161) h161 (by decide +kernel)
    have g162 := lv_neT (a := 162) h162 (by decide +kernel)
    refine Or.inl ⟨by omega, ?_⟩
    show _ = ((if x = nI 160 then 32 else if x = nI 161 then 60 else if x = nI 162 then 88 else 116 : Nat) : Int)
    rw [if_neg h160, if_neg h161, if_neg h162]
    decide))) (
  kc_case (P := P) (kc_se c_Md_judge_5 (sm_iald d_Md_judge_5)) (
  kc_case (P := P) (kc_se c_Md_judge_4 (sm_iload_n d_Md_judge_4 rfl)) (
  kc_case (P := P) (kc_se rfl sm_no) (
  kc_case (P := P) (kc_se rfl sm_no) (
  kc_case (P := P) (kc_se c_Md_judge_1 (sm_get (ci := 10) (C := "DirectoryDeskModel") (F := kF_Md) rfl kin_Md (Nat.le_of_ble_eq_true rfl) d_Md_judge_1 (kw3 224 rfl rfl))) (
  kc_case (P := P) (kc_se c_Md_judge_0 (sm_aload_n d_Md_judge_0 rfl)) (
  kc_case0))))))))))))))))))))))))))))))))))))))))))))))))))))))))))))
set_option maxRecDepth 100000 in
set_option maxHeartbeats 4000000 in
theorem s_Md_judge_120 : ∀ pc, pc < 120 → kc_Sim kt kw_A kw_N kt_cl kt_En "DirectoryDeskModel" prog_12_method_40_code 3 (some .int) "judge" none pc (ct_Md_judge pc) := by
  let P : Nat → Prop := fun pc => kc_Sim kt kw_A kw_N kt_cl kt_En "DirectoryDeskModel" prog_12_method_40_code 3 (some .int) "judge" none pc (ct_Md_judge pc)
  exact kc_case (P := P) (kc_se c_Md_judge_119 (sm_cv (j := 133) rfl rfl kw_o kw_g wc_Md_judgeLeaf (Nat.le_of_ble_eq_true rfl) hd_Md_judgeLeaf (ci := 10) (F := kF_Md) (N := 52) rfl (kw5 0 rfl rfl) wi_Md_judgeLeaf ws_Md_judgeLeaf wn_Md_judgeLeaf d_Md_judge_119)) (
  kc_case (P := P) (kc_se c_Md_judge_118 (sm_iload_n d_Md_judge_118 rfl)) (
  kc_case (P := P) (kc_se c_Md_judge_117 (sm_iload_n d_Md_judge_117 rfl)) (
  kc_case (P := P) (kc_se c_Md_judge_116 (sm_aload_n d_Md_judge_116 rfl)) (
  kc_case (P := P) (kc_se c_Md_judge_115 (sm_ri d_Md_judge_115 rfl)) (
  kc_case (P := P) (kc_se c_Md_judge_114 (sm_iconst d_Md_judge_114 (by decide))) (
  kc_case (P := P) (kc_se rfl sm_no) (
  kc_case (P := P) (kc_se rfl sm_no) (
  kc_case (P := P) (kc_se c_Md_judge_111 (sm_goto d_Md_judge_111 (by decide))) (
  kc_case (P := P) (kc_se c_Md_judge_110 (sm_iconst d_Md_judge_110 (by decide))) (
  kc_case (P := P) (kc_se rfl sm_no) (
  kc_case (P := P) (kc_se rfl sm_no) (
  kc_case (P := P) (kc_se c_Md_judge_107 (sm_if_le d_Md_judge_107 (by decide))) (
  kc_case (P := P) (kc_se rfl sm_no) (
  kc_case (P := P) (kc_se rfl sm_no) (
  kc_case (P := P) (kc_se c_Md_judge_104 (sm_cv (j := 134) rfl rfl kw_o kw_g wc_Md_having (Nat.le_of_ble_eq_true rfl) hd_Md_having (ci := 10) (F := kF_Md) (N := 52) rfl (kw4 236 rfl rfl) wi_Md_having ws_Md_having wn_Md_having d_Md_judge_104)) (
  kc_case (P := P) (kc_se c_Md_judge_103 (sm_iconst d_Md_judge_103 (by decide))) (
  kc_case (P := P) (kc_se c_Md_judge_102 (sm_iload_n d_Md_judge_102 rfl)) (
  kc_case (P := P) (kc_se c_Md_judge_101 (sm_aload_n d_Md_judge_101 rfl)) (
  kc_case (P := P) (kc_se rfl sm_no) (
  kc_case (P := P) (kc_se rfl sm_no) (
  kc_case (P := P) (kc_se c_Md_judge_98 (sm_goto d_Md_judge_98 (by decide))) (
  kc_case (P := P) (kc_se c_Md_judge_97 (sm_iconst d_Md_judge_97 (by decide))) (
  kc_case (P := P) (kc_se rfl sm_no) (
  kc_case (P := P) (kc_se rfl sm_no) (
  kc_case (P := P) (kc_se c_Md_judge_94 (sm_if_le d_Md_judge_94 (by decide))) (
  kc_case (P := P) (kc_se rfl sm_no) (
  kc_case (P := P) (kc_se rfl sm_no) (
  kc_case (P := P) (kc_se c_Md_judge_91 (sm_cv (j := 134) rfl rfl kw_o kw_g wc_Md_having (Nat.le_of_ble_eq_true rfl) hd_Md_having (ci := 10) (F := kF_Md) (N := 52) rfl (kw4 236 rfl rfl) wi_Md_having ws_Md_having wn_Md_having d_Md_judge_91)) (
  kc_case (P := P) (kc_se c_Md_judge_90 (sm_iconst d_Md_judge_90 (by decide))) (
  kc_case (P := P) (kc_se c_Md_judge_89 (sm_iload_n d_Md_judge_89 rfl)) (
  kc_case (P := P) (kc_se c_Md_judge_88 (sm_aload_n d_Md_judge_88 rfl)) (
  kc_case (P := P) (kc_se c_Md_judge_87 (sm_ri d_Md_judge_87 rfl)) (
  kc_case (P := P) (kc_se c_Md_judge_86 (sm_iconst d_Md_judge_86 (by decide))) (
  kc_case (P := P) (kc_se rfl sm_no) (
  kc_case (P := P) (kc_se rfl sm_no) (
  kc_case (P := P) (kc_se c_Md_judge_83 (sm_goto d_Md_judge_83 (by decide))) (
  kc_case (P := P) (kc_se c_Md_judge_82 (sm_iconst d_Md_judge_82 (by decide))) (
  kc_case (P := P) (kc_se rfl sm_no) (
  kc_case (P := P) (kc_se rfl sm_no) (
  kc_case (P := P) (kc_se c_Md_judge_79 (sm_if_le d_Md_judge_79 (by decide))) (
  kc_case (P := P) (kc_se rfl sm_no) (
  kc_case (P := P) (kc_se rfl sm_no) (
  kc_case (P := P) (kc_se c_Md_judge_76 (sm_cv (j := 134) rfl rfl kw_o kw_g wc_Md_having (Nat.le_of_ble_eq_true rfl) hd_Md_having (ci := 10) (F := kF_Md) (N := 52) rfl (kw4 236 rfl rfl) wi_Md_having ws_Md_having wn_Md_having d_Md_judge_76)) (
  kc_case (P := P) (kc_se c_Md_judge_75 (sm_iconst d_Md_judge_75 (by decide))) (
  kc_case (P := P) (kc_se c_Md_judge_74 (sm_iload_n d_Md_judge_74 rfl)) (
  kc_case (P := P) (kc_se c_Md_judge_73 (sm_aload_n d_Md_judge_73 rfl)) (
  kc_case (P := P) (kc_se rfl sm_no) (
  kc_case (P := P) (kc_se rfl sm_no) (
  kc_case (P := P) (kc_se c_Md_judge_70 (sm_goto d_Md_judge_70 (by decide))) (
  kc_case (P := P) (kc_se c_Md_judge_69 (sm_iconst d_Md_judge_69 (by decide))) (
  kc_case (P := P) (kc_se rfl sm_no) (
  kc_case (P := P) (kc_se rfl sm_no) (
  kc_case (P := P) (kc_se c_Md_judge_66 (sm_if_le d_Md_judge_66 (by decide))) (
  kc_case (P := P) (kc_se rfl sm_no) (
  kc_case (P := P) (kc_se rfl sm_no) (
  kc_case (P := P) (kc_se c_Md_judge_63 (sm_cv (j := 134) rfl rfl kw_o kw_g wc_Md_having (Nat.le_of_ble_eq_true rfl) hd_Md_having (ci := 10) (F := kF_Md) (N := 52) rfl (kw4 236 rfl rfl) wi_Md_having ws_Md_having wn_Md_having d_Md_judge_63)) (
  kc_case (P := P) (kc_se c_Md_judge_62 (sm_iconst d_Md_judge_62 (by decide))) (
  kc_case (P := P) (kc_se c_Md_judge_61 (sm_iload_n d_Md_judge_61 rfl)) (
  kc_case (P := P) (kc_se c_Md_judge_60 (sm_aload_n d_Md_judge_60 rfl)) (
  s_Md_judge_60))))))))))))))))))))))))))))))))))))))))))))))))))))))))))))
set_option maxRecDepth 100000 in
set_option maxHeartbeats 4000000 in
theorem s_Md_judge_123 : ∀ pc, pc < 123 → kc_Sim kt kw_A kw_N kt_cl kt_En "DirectoryDeskModel" prog_12_method_40_code 3 (some .int) "judge" none pc (ct_Md_judge pc) := by
  let P : Nat → Prop := fun pc => kc_Sim kt kw_A kw_N kt_cl kt_En "DirectoryDeskModel" prog_12_method_40_code 3 (some .int) "judge" none pc (ct_Md_judge pc)
  exact kc_case (P := P) (kc_se c_Md_judge_122 (sm_ri d_Md_judge_122 rfl)) (
  kc_case (P := P) (kc_se rfl sm_no) (
  kc_case (P := P) (kc_se rfl sm_no) (
  s_Md_judge_120)))
set_option maxRecDepth 100000 in
theorem ka_nth_no_Md_judge (pc : Nat) (h : 123 ≤ pc) : ct_Md_judge pc = ka_no := ka_nth_ge _ pc (Nat.le_trans (Nat.le_of_eq (by rfl)) h)
theorem s_Md_judge (pc : Nat) : kc_Sim kt kw_A kw_N kt_cl kt_En "DirectoryDeskModel" prog_12_method_40_code 3 (some .int) "judge" none pc (ct_Md_judge pc) := (Nat.lt_or_ge pc 123).elim (s_Md_judge_123 pc) (fun h => kc_se (ka_nth_no_Md_judge pc h) sm_no)
def cl_Md_matches_0 : List kc_A := [ka_al 0 1, ka_get 10 40, ka_no, ka_no, ka_ci (nI 1) 1, ka_ii (fun x y => x - y), ka_is 2 1, ka_il 2 1, ka_if (fun x => x < 0) 29, ka_no, ka_no, ka_al 0 1, ka_get 10 45, ka_no, ka_no, ka_il 2 1, ka_al 0 1, ka_il 2 1, ka_il 1 1, ka_cv 135 2 10 0 0, ka_no, ka_no, ka_iast, ka_inc 2 (-1), ka_no, ka_no, ka_goto 7, ka_no, ka_no, ka_al 0 1, ka_get 10 45, ka_no, ka_no, ka_ci (nI 0) 1, ka_iald, ka_ci (nI 1) 1, ka_cm (fun x y => ¬ x = y) 43, ka_no, ka_no, ka_ci (nI 1) 1, ka_goto 44, ka_no, ka_no, ka_ci (nI 0) 1, ka_rz]
def ct_Md_matches : Nat → kc_A := fun pc => ka_nth (cl_Md_matches_0) pc
set_option maxRecDepth 100000 in
theorem c_Md_matches_0 : ct_Md_matches 0 = ka_al 0 1 := rfl
theorem d_Md_matches_0 : decode prog_12_method_41_code 0 = .ok (.aload_n 0, 1) := by decide +kernel
set_option maxRecDepth 100000 in
theorem c_Md_matches_1 : ct_Md_matches 1 = ka_get 10 40 := rfl
theorem d_Md_matches_1 : decode prog_12_method_41_code 1 = .ok (.getfield 183, 3) := by decide +kernel
set_option maxRecDepth 100000 in
theorem c_Md_matches_4 : ct_Md_matches 4 = ka_ci (nI 1) 1 := rfl
theorem d_Md_matches_4 : decode prog_12_method_41_code 4 = .ok (.iconst 1, 1) := by decide +kernel
set_option maxRecDepth 100000 in
theorem c_Md_matches_5 : ct_Md_matches 5 = ka_ii (fun x y => x - y) := rfl
theorem d_Md_matches_5 : decode prog_12_method_41_code 5 = .ok (.isub, 1) := by decide +kernel
set_option maxRecDepth 100000 in
theorem c_Md_matches_6 : ct_Md_matches 6 = ka_is 2 1 := rfl
theorem d_Md_matches_6 : decode prog_12_method_41_code 6 = .ok (.istore_n 2, 1) := by decide +kernel
set_option maxRecDepth 100000 in
theorem c_Md_matches_7 : ct_Md_matches 7 = ka_il 2 1 := rfl
theorem d_Md_matches_7 : decode prog_12_method_41_code 7 = .ok (.iload_n 2, 1) := by decide +kernel
set_option maxRecDepth 100000 in
theorem c_Md_matches_8 : ct_Md_matches 8 = ka_if (fun x => x < 0) 29 := rfl
theorem d_Md_matches_8 : decode prog_12_method_41_code 8 = .ok (.ifCond .lt 21, 3) := by decide +kernel
set_option maxRecDepth 100000 in
theorem c_Md_matches_11 : ct_Md_matches 11 = ka_al 0 1 := rfl
theorem d_Md_matches_11 : decode prog_12_method_41_code 11 = .ok (.aload_n 0, 1) := by decide +kernel
set_option maxRecDepth 100000 in
theorem c_Md_matches_12 : ct_Md_matches 12 = ka_get 10 45 := rfl
theorem d_Md_matches_12 : decode prog_12_method_41_code 12 = .ok (.getfield 68, 3) := by decide +kernel
set_option maxRecDepth 100000 in
theorem c_Md_matches_15 : ct_Md_matches 15 = ka_il 2 1 := rfl
theorem d_Md_matches_15 : decode prog_12_method_41_code 15 = .ok (.iload_n 2, 1) := by decide +kernel
set_option maxRecDepth 100000 in
theorem c_Md_matches_16 : ct_Md_matches 16 = ka_al 0 1 := rfl
theorem d_Md_matches_16 : decode prog_12_method_41_code 16 = .ok (.aload_n 0, 1) := by decide +kernel
set_option maxRecDepth 100000 in
theorem c_Md_matches_17 : ct_Md_matches 17 = ka_il 2 1 := rfl
theorem d_Md_matches_17 : decode prog_12_method_41_code 17 = .ok (.iload_n 2, 1) := by decide +kernel
set_option maxRecDepth 100000 in
theorem c_Md_matches_18 : ct_Md_matches 18 = ka_il 1 1 := rfl
theorem d_Md_matches_18 : decode prog_12_method_41_code 18 = .ok (.iload_n 1, 1) := by decide +kernel
set_option maxRecDepth 100000 in
theorem c_Md_matches_19 : ct_Md_matches 19 = ka_cv 135 2 10 0 0 := rfl
theorem d_Md_matches_19 : decode prog_12_method_41_code 19 = .ok (.invokevirtual 276, 3) := by decide +kernel
set_option maxRecDepth 100000 in
theorem c_Md_matches_22 : ct_Md_matches 22 = ka_iast := rfl
theorem d_Md_matches_22 : decode prog_12_method_41_code 22 = .ok (.iastore, 1) := by decide +kernel
set_option maxRecDepth 100000 in
theorem c_Md_matches_23 : ct_Md_matches 23 = ka_inc 2 (-1) := rfl
theorem d_Md_matches_23 : decode prog_12_method_41_code 23 = .ok (.iinc 2 (-1), 3) := by decide +kernel
set_option maxRecDepth 100000 in
theorem c_Md_matches_26 : ct_Md_matches 26 = ka_goto 7 := rfl
theorem d_Md_matches_26 : decode prog_12_method_41_code 26 = .ok (.goto (-19), 3) := by decide +kernel
set_option maxRecDepth 100000 in
theorem c_Md_matches_29 : ct_Md_matches 29 = ka_al 0 1 := rfl
theorem d_Md_matches_29 : decode prog_12_method_41_code 29 = .ok (.aload_n 0, 1) := by decide +kernel
set_option maxRecDepth 100000 in
theorem c_Md_matches_30 : ct_Md_matches 30 = ka_get 10 45 := rfl
theorem d_Md_matches_30 : decode prog_12_method_41_code 30 = .ok (.getfield 68, 3) := by decide +kernel
set_option maxRecDepth 100000 in
theorem c_Md_matches_33 : ct_Md_matches 33 = ka_ci (nI 0) 1 := rfl
theorem d_Md_matches_33 : decode prog_12_method_41_code 33 = .ok (.iconst 0, 1) := by decide +kernel
set_option maxRecDepth 100000 in
theorem c_Md_matches_34 : ct_Md_matches 34 = ka_iald := rfl
theorem d_Md_matches_34 : decode prog_12_method_41_code 34 = .ok (.iaload, 1) := by decide +kernel
set_option maxRecDepth 100000 in
theorem c_Md_matches_35 : ct_Md_matches 35 = ka_ci (nI 1) 1 := rfl
theorem d_Md_matches_35 : decode prog_12_method_41_code 35 = .ok (.iconst 1, 1) := by decide +kernel
set_option maxRecDepth 100000 in
theorem c_Md_matches_36 : ct_Md_matches 36 = ka_cm (fun x y => ¬ x = y) 43 := rfl
theorem d_Md_matches_36 : decode prog_12_method_41_code 36 = .ok (.if_icmp .ne 7, 3) := by decide +kernel
set_option maxRecDepth 100000 in
theorem c_Md_matches_39 : ct_Md_matches 39 = ka_ci (nI 1) 1 := rfl
theorem d_Md_matches_39 : decode prog_12_method_41_code 39 = .ok (.iconst 1, 1) := by decide +kernel
set_option maxRecDepth 100000 in
theorem c_Md_matches_40 : ct_Md_matches 40 = ka_goto 44 := rfl
theorem d_Md_matches_40 : decode prog_12_method_41_code 40 = .ok (.goto 4, 3) := by decide +kernel
set_option maxRecDepth 100000 in
theorem c_Md_matches_43 : ct_Md_matches 43 = ka_ci (nI 0) 1 := rfl
theorem d_Md_matches_43 : decode prog_12_method_41_code 43 = .ok (.iconst 0, 1) := by decide +kernel
set_option maxRecDepth 100000 in
theorem c_Md_matches_44 : ct_Md_matches 44 = ka_rz := rfl
theorem d_Md_matches_44 : decode prog_12_method_41_code 44 = .ok (.ireturn, 1) := by decide +kernel
set_option maxRecDepth 100000 in
set_option maxHeartbeats 4000000 in
theorem s_Md_matches_45 : ∀ pc, pc < 45 → kc_Sim kt kw_A kw_N kt_cl kt_En "DirectoryDeskModel" prog_12_method_41_code 3 (some .boolean) "matches" none pc (ct_Md_matches pc) := by
  let P : Nat → Prop := fun pc => kc_Sim kt kw_A kw_N kt_cl kt_En "DirectoryDeskModel" prog_12_method_41_code 3 (some .boolean) "matches" none pc (ct_Md_matches pc)
  exact kc_case (P := P) (kc_se c_Md_matches_44 (sm_rz d_Md_matches_44 rfl)) (
  kc_case (P := P) (kc_se c_Md_matches_43 (sm_iconst d_Md_matches_43 (by decide))) (
  kc_case (P := P) (kc_se rfl sm_no) (
  kc_case (P := P) (kc_se rfl sm_no) (
  kc_case (P := P) (kc_se c_Md_matches_40 (sm_goto d_Md_matches_40 (by decide))) (
  kc_case (P := P) (kc_se c_Md_matches_39 (sm_iconst d_Md_matches_39 (by decide))) (
  kc_case (P := P) (kc_se rfl sm_no) (
  kc_case (P := P) (kc_se rfl sm_no) (
  kc_case (P := P) (kc_se c_Md_matches_36 (sm_cm_ne d_Md_matches_36 (by decide))) (
  kc_case (P := P) (kc_se c_Md_matches_35 (sm_iconst d_Md_matches_35 (by decide))) (
  kc_case (P := P) (kc_se c_Md_matches_34 (sm_iald d_Md_matches_34)) (
  kc_case (P := P) (kc_se c_Md_matches_33 (sm_iconst d_Md_matches_33 (by decide))) (
  kc_case (P := P) (kc_se rfl sm_no) (
  kc_case (P := P) (kc_se rfl sm_no) (
  kc_case (P := P) (kc_se c_Md_matches_30 (sm_get (ci := 10) (C := "DirectoryDeskModel") (F := kF_Md) rfl kin_Md (Nat.le_of_ble_eq_true rfl) d_Md_matches_30 (kw3 228 rfl rfl))) (
  kc_case (P := P) (kc_se c_Md_matches_29 (sm_aload_n d_Md_matches_29 rfl)) (
  kc_case (P := P) (kc_se rfl sm_no) (
  kc_case (P := P) (kc_se rfl sm_no) (
  kc_case (P := P) (kc_se c_Md_matches_26 (sm_goto d_Md_matches_26 (by decide))) (
  kc_case (P := P) (kc_se rfl sm_no) (
  kc_case (P := P) (kc_se rfl sm_no) (
  kc_case (P := P) (kc_se c_Md_matches_23 (sm_inc d_Md_matches_23 (by decide) (Nat.le_of_ble_eq_true rfl))) (
  kc_case (P := P) (kc_se c_Md_matches_22 (sm_iast d_Md_matches_22)) (
  kc_case (P := P) (kc_se rfl sm_no) (
  kc_case (P := P) (kc_se rfl sm_no) (
  kc_case (P := P) (kc_se c_Md_matches_19 (sm_cv (j := 135) rfl rfl kw_o kw_g wc_Md_judge (Nat.le_of_ble_eq_true rfl) hd_Md_judge (ci := 10) (F := kF_Md) (N := 52) rfl (kw4 232 rfl rfl) wi_Md_judge ws_Md_judge wn_Md_judge d_Md_matches_19)) (
  kc_case (P := P) (kc_se c_Md_matches_18 (sm_iload_n d_Md_matches_18 rfl)) (
  kc_case (P := P) (kc_se c_Md_matches_17 (sm_iload_n d_Md_matches_17 rfl)) (
  kc_case (P := P) (kc_se c_Md_matches_16 (sm_aload_n d_Md_matches_16 rfl)) (
  kc_case (P := P) (kc_se c_Md_matches_15 (sm_iload_n d_Md_matches_15 rfl)) (
  kc_case (P := P) (kc_se rfl sm_no) (
  kc_case (P := P) (kc_se rfl sm_no) (
  kc_case (P := P) (kc_se c_Md_matches_12 (sm_get (ci := 10) (C := "DirectoryDeskModel") (F := kF_Md) rfl kin_Md (Nat.le_of_ble_eq_true rfl) d_Md_matches_12 (kw3 228 rfl rfl))) (
  kc_case (P := P) (kc_se c_Md_matches_11 (sm_aload_n d_Md_matches_11 rfl)) (
  kc_case (P := P) (kc_se rfl sm_no) (
  kc_case (P := P) (kc_se rfl sm_no) (
  kc_case (P := P) (kc_se c_Md_matches_8 (sm_if_lt d_Md_matches_8 (by decide))) (
  kc_case (P := P) (kc_se c_Md_matches_7 (sm_iload_n d_Md_matches_7 rfl)) (
  kc_case (P := P) (kc_se c_Md_matches_6 (sm_istore_n d_Md_matches_6 rfl (Nat.le_of_ble_eq_true rfl))) (
  kc_case (P := P) (kc_se c_Md_matches_5 (sm_isub d_Md_matches_5)) (
  kc_case (P := P) (kc_se c_Md_matches_4 (sm_iconst d_Md_matches_4 (by decide))) (
  kc_case (P := P) (kc_se rfl sm_no) (
  kc_case (P := P) (kc_se rfl sm_no) (
  kc_case (P := P) (kc_se c_Md_matches_1 (sm_get (ci := 10) (C := "DirectoryDeskModel") (F := kF_Md) rfl kin_Md (Nat.le_of_ble_eq_true rfl) d_Md_matches_1 (kw3 223 rfl rfl))) (
  kc_case (P := P) (kc_se c_Md_matches_0 (sm_aload_n d_Md_matches_0 rfl)) (
  kc_case0)))))))))))))))))))))))))))))))))))))))))))))
set_option maxRecDepth 100000 in
theorem ka_nth_no_Md_matches (pc : Nat) (h : 45 ≤ pc) : ct_Md_matches pc = ka_no := ka_nth_ge _ pc (Nat.le_trans (Nat.le_of_eq (by rfl)) h)
theorem s_Md_matches (pc : Nat) : kc_Sim kt kw_A kw_N kt_cl kt_En "DirectoryDeskModel" prog_12_method_41_code 3 (some .boolean) "matches" none pc (ct_Md_matches pc) := (Nat.lt_or_ge pc 45).elim (s_Md_matches_45 pc) (fun h => kc_se (ka_nth_no_Md_matches pc h) sm_no)
def cl_Md_inScope_0 : List kc_A := [ka_al 0 1, ka_get 10 28, ka_no, ka_no, ka_ci (nI 1) 1, ka_cm (fun x y => ¬ x = y) 16, ka_no, ka_no, ka_al 0 1, ka_il 1 1, ka_il 2 1, ka_ci (nI 1) 1, ka_cv 110 3 10 0 0, ka_no, ka_no, ka_rz, ka_il 2 1, ka_if (fun x => x < 0) 25, ka_no, ka_no, ka_il 1 1, ka_il 2 1, ka_cm (fun x y => x = y) 43, ka_no, ka_no, ka_al 0 1, ka_get 10 28, ka_no, ka_no, ka_ci (nI 2) 1, ka_cm (fun x y => ¬ x = y) 47, ka_no, ka_no, ka_al 0 1, ka_il 1 1, ka_il 2 1, ka_ci (-1) 1, ka_cv 110 3 10 0 0, ka_no, ka_no, ka_if (fun x => x = 0) 47, ka_no, ka_no, ka_ci (nI 1) 1, ka_goto 48, ka_no, ka_no, ka_ci (nI 0) 1, ka_rz]
def ct_Md_inScope : Nat → kc_A := fun pc => ka_nth (cl_Md_inScope_0) pc
set_option maxRecDepth 100000 in
theorem c_Md_inScope_0 : ct_Md_inScope 0 = ka_al 0 1 := rfl
theorem d_Md_inScope_0 : decode prog_12_method_42_code 0 = .ok (.aload_n 0, 1) := by decide +kernel
set_option maxRecDepth 100000 in
theorem c_Md_inScope_1 : ct_Md_inScope 1 = ka_get 10 28 := rfl
theorem d_Md_inScope_1 : decode prog_12_method_42_code 1 = .ok (.getfield 208, 3) := by decide +kernel
set_option maxRecDepth 100000 in
theorem c_Md_inScope_4 : ct_Md_inScope 4 = ka_ci (nI 1) 1 := rfl
theorem d_Md_inScope_4 : decode prog_12_method_42_code 4 = .ok (.iconst 1, 1) := by decide +kernel
set_option maxRecDepth 100000 in
theorem c_Md_inScope_5 : ct_Md_inScope 5 = ka_cm (fun x y => ¬ x = y) 16 := rfl
theorem d_Md_inScope_5 : decode prog_12_method_42_code 5 = .ok (.if_icmp .ne 11, 3) := by decide +kernel
set_option maxRecDepth 100000 in
theorem c_Md_inScope_8 : ct_Md_inScope 8 = ka_al 0 1 := rfl
theorem d_Md_inScope_8 : decode prog_12_method_42_code 8 = .ok (.aload_n 0, 1) := by decide +kernel
set_option maxRecDepth 100000 in
theorem c_Md_inScope_9 : ct_Md_inScope 9 = ka_il 1 1 := rfl
theorem d_Md_inScope_9 : decode prog_12_method_42_code 9 = .ok (.iload_n 1, 1) := by decide +kernel
set_option maxRecDepth 100000 in
theorem c_Md_inScope_10 : ct_Md_inScope 10 = ka_il 2 1 := rfl
theorem d_Md_inScope_10 : decode prog_12_method_42_code 10 = .ok (.iload_n 2, 1) := by decide +kernel
set_option maxRecDepth 100000 in
theorem c_Md_inScope_11 : ct_Md_inScope 11 = ka_ci (nI 1) 1 := rfl
theorem d_Md_inScope_11 : decode prog_12_method_42_code 11 = .ok (.iconst 1, 1) := by decide +kernel
set_option maxRecDepth 100000 in
theorem c_Md_inScope_12 : ct_Md_inScope 12 = ka_cv 110 3 10 0 0 := rfl
theorem d_Md_inScope_12 : decode prog_12_method_42_code 12 = .ok (.invokevirtual 267, 3) := by decide +kernel
set_option maxRecDepth 100000 in
theorem c_Md_inScope_15 : ct_Md_inScope 15 = ka_rz := rfl
theorem d_Md_inScope_15 : decode prog_12_method_42_code 15 = .ok (.ireturn, 1) := by decide +kernel
set_option maxRecDepth 100000 in
theorem c_Md_inScope_16 : ct_Md_inScope 16 = ka_il 2 1 := rfl
theorem d_Md_inScope_16 : decode prog_12_method_42_code 16 = .ok (.iload_n 2, 1) := by decide +kernel
set_option maxRecDepth 100000 in
theorem c_Md_inScope_17 : ct_Md_inScope 17 = ka_if (fun x => x < 0) 25 := rfl
theorem d_Md_inScope_17 : decode prog_12_method_42_code 17 = .ok (.ifCond .lt 8, 3) := by decide +kernel
set_option maxRecDepth 100000 in
theorem c_Md_inScope_20 : ct_Md_inScope 20 = ka_il 1 1 := rfl
theorem d_Md_inScope_20 : decode prog_12_method_42_code 20 = .ok (.iload_n 1, 1) := by decide +kernel
set_option maxRecDepth 100000 in
theorem c_Md_inScope_21 : ct_Md_inScope 21 = ka_il 2 1 := rfl
theorem d_Md_inScope_21 : decode prog_12_method_42_code 21 = .ok (.iload_n 2, 1) := by decide +kernel
set_option maxRecDepth 100000 in
theorem c_Md_inScope_22 : ct_Md_inScope 22 = ka_cm (fun x y => x = y) 43 := rfl
theorem d_Md_inScope_22 : decode prog_12_method_42_code 22 = .ok (.if_icmp .eq 21, 3) := by decide +kernel
set_option maxRecDepth 100000 in
theorem c_Md_inScope_25 : ct_Md_inScope 25 = ka_al 0 1 := rfl
theorem d_Md_inScope_25 : decode prog_12_method_42_code 25 = .ok (.aload_n 0, 1) := by decide +kernel
set_option maxRecDepth 100000 in
theorem c_Md_inScope_26 : ct_Md_inScope 26 = ka_get 10 28 := rfl
theorem d_Md_inScope_26 : decode prog_12_method_42_code 26 = .ok (.getfield 208, 3) := by decide +kernel
set_option maxRecDepth 100000 in
theorem c_Md_inScope_29 : ct_Md_inScope 29 = ka_ci (nI 2) 1 := rfl
theorem d_Md_inScope_29 : decode prog_12_method_42_code 29 = .ok (.iconst 2, 1) := by decide +kernel
set_option maxRecDepth 100000 in
theorem c_Md_inScope_30 : ct_Md_inScope 30 = ka_cm (fun x y => ¬ x = y) 47 := rfl
theorem d_Md_inScope_30 : decode prog_12_method_42_code 30 = .ok (.if_icmp .ne 17, 3) := by decide +kernel
set_option maxRecDepth 100000 in
theorem c_Md_inScope_33 : ct_Md_inScope 33 = ka_al 0 1 := rfl
theorem d_Md_inScope_33 : decode prog_12_method_42_code 33 = .ok (.aload_n 0, 1) := by decide +kernel
set_option maxRecDepth 100000 in
theorem c_Md_inScope_34 : ct_Md_inScope 34 = ka_il 1 1 := rfl
theorem d_Md_inScope_34 : decode prog_12_method_42_code 34 = .ok (.iload_n 1, 1) := by decide +kernel
set_option maxRecDepth 100000 in
theorem c_Md_inScope_35 : ct_Md_inScope 35 = ka_il 2 1 := rfl
theorem d_Md_inScope_35 : decode prog_12_method_42_code 35 = .ok (.iload_n 2, 1) := by decide +kernel
set_option maxRecDepth 100000 in
theorem c_Md_inScope_36 : ct_Md_inScope 36 = ka_ci (-1) 1 := rfl
theorem d_Md_inScope_36 : decode prog_12_method_42_code 36 = .ok (.iconst (-1), 1) := by decide +kernel
set_option maxRecDepth 100000 in
theorem c_Md_inScope_37 : ct_Md_inScope 37 = ka_cv 110 3 10 0 0 := rfl
theorem d_Md_inScope_37 : decode prog_12_method_42_code 37 = .ok (.invokevirtual 267, 3) := by decide +kernel
set_option maxRecDepth 100000 in
theorem c_Md_inScope_40 : ct_Md_inScope 40 = ka_if (fun x => x = 0) 47 := rfl
theorem d_Md_inScope_40 : decode prog_12_method_42_code 40 = .ok (.ifCond .eq 7, 3) := by decide +kernel
set_option maxRecDepth 100000 in
theorem c_Md_inScope_43 : ct_Md_inScope 43 = ka_ci (nI 1) 1 := rfl
theorem d_Md_inScope_43 : decode prog_12_method_42_code 43 = .ok (.iconst 1, 1) := by decide +kernel
set_option maxRecDepth 100000 in
theorem c_Md_inScope_44 : ct_Md_inScope 44 = ka_goto 48 := rfl
theorem d_Md_inScope_44 : decode prog_12_method_42_code 44 = .ok (.goto 4, 3) := by decide +kernel
set_option maxRecDepth 100000 in
theorem c_Md_inScope_47 : ct_Md_inScope 47 = ka_ci (nI 0) 1 := rfl
theorem d_Md_inScope_47 : decode prog_12_method_42_code 47 = .ok (.iconst 0, 1) := by decide +kernel
set_option maxRecDepth 100000 in
theorem c_Md_inScope_48 : ct_Md_inScope 48 = ka_rz := rfl
theorem d_Md_inScope_48 : decode prog_12_method_42_code 48 = .ok (.ireturn, 1) := by decide +kernel
set_option maxRecDepth 100000 in
set_option maxHeartbeats 4000000 in
theorem s_Md_inScope_49 : ∀ pc, pc < 49 → kc_Sim kt kw_A kw_N kt_cl kt_En "DirectoryDeskModel" prog_12_method_42_code 3 (some .boolean) "inScope" none pc (ct_Md_inScope pc) := by
  let P : Nat → Prop := fun pc => kc_Sim kt kw_A kw_N kt_cl kt_En "DirectoryDeskModel" prog_12_method_42_code 3 (some .boolean) "inScope" none pc (ct_Md_inScope pc)
  exact kc_case (P := P) (kc_se c_Md_inScope_48 (sm_rz d_Md_inScope_48 rfl)) (
  kc_case (P := P) (kc_se c_Md_inScope_47 (sm_iconst d_Md_inScope_47 (by decide))) (
  kc_case (P := P) (kc_se rfl sm_no) (
  kc_case (P := P) (kc_se rfl sm_no) (
  kc_case (P := P) (kc_se c_Md_inScope_44 (sm_goto d_Md_inScope_44 (by decide))) (
  kc_case (P := P) (kc_se c_Md_inScope_43 (sm_iconst d_Md_inScope_43 (by decide))) (
  kc_case (P := P) (kc_se rfl sm_no) (
  kc_case (P := P) (kc_se rfl sm_no) (
  kc_case (P := P) (kc_se c_Md_inScope_40 (sm_if_eq d_Md_inScope_40 (by decide))) (
  kc_case (P := P) (kc_se rfl sm_no) (
  kc_case (P := P) (kc_se rfl sm_no) (
  kc_case (P := P) (kc_se c_Md_inScope_37 (sm_cv (j := 110) rfl rfl kw_o kw_g wc_Md_isUnder (Nat.le_of_ble_eq_true rfl) hd_Md_isUnder (ci := 10) (F := kF_Md) (N := 52) rfl (kw4 224 rfl rfl) wi_Md_isUnder ws_Md_isUnder wn_Md_isUnder d_Md_inScope_37)) (
  kc_case (P := P) (kc_se c_Md_inScope_36 (sm_iconst d_Md_inScope_36 (by decide))) (
  kc_case (P := P) (kc_se c_Md_inScope_35 (sm_iload_n d_Md_inScope_35 rfl)) (
  kc_case (P := P) (kc_se c_Md_inScope_34 (sm_iload_n d_Md_inScope_34 rfl)) (
  kc_case (P := P) (kc_se c_Md_inScope_33 (sm_aload_n d_Md_inScope_33 rfl)) (
  kc_case (P := P) (kc_se rfl sm_no) (
  kc_case (P := P) (kc_se rfl sm_no) (
  kc_case (P := P) (kc_se c_Md_inScope_30 (sm_cm_ne d_Md_inScope_30 (by decide))) (
  kc_case (P := P) (kc_se c_Md_inScope_29 (sm_iconst d_Md_inScope_29 (by decide))) (
  kc_case (P := P) (kc_se rfl sm_no) (
  kc_case (P := P) (kc_se rfl sm_no) (
  kc_case (P := P) (kc_se c_Md_inScope_26 (sm_get (ci := 10) (C := "DirectoryDeskModel") (F := kF_Md) rfl kin_Md (Nat.le_of_ble_eq_true rfl) d_Md_inScope_26 (kw3 211 rfl rfl))) (
  kc_case (P := P) (kc_se c_Md_inScope_25 (sm_aload_n d_Md_inScope_25 rfl)) (
  kc_case (P := P) (kc_se rfl sm_no) (
  kc_case (P := P) (kc_se rfl sm_no) (
  kc_case (P := P) (kc_se c_Md_inScope_22 (sm_cm_eq d_Md_inScope_22 (by decide))) (
  kc_case (P := P) (kc_se c_Md_inScope_21 (sm_iload_n d_Md_inScope_21 rfl)) (
  kc_case (P := P) (kc_se c_Md_inScope_20 (sm_iload_n d_Md_inScope_20 rfl)) (
  kc_case (P := P) (kc_se rfl sm_no) (
  kc_case (P := P) (kc_se rfl sm_no) (
  kc_case (P := P) (kc_se c_Md_inScope_17 (sm_if_lt d_Md_inScope_17 (by decide))) (
  kc_case (P := P) (kc_se c_Md_inScope_16 (sm_iload_n d_Md_inScope_16 rfl)) (
  kc_case (P := P) (kc_se c_Md_inScope_15 (sm_rz d_Md_inScope_15 rfl)) (
  kc_case (P := P) (kc_se rfl sm_no) (
  kc_case (P := P) (kc_se rfl sm_no) (
  kc_case (P := P) (kc_se c_Md_inScope_12 (sm_cv (j := 110) rfl rfl kw_o kw_g wc_Md_isUnder (Nat.le_of_ble_eq_true rfl) hd_Md_isUnder (ci := 10) (F := kF_Md) (N := 52) rfl (kw4 224 rfl rfl) wi_Md_isUnder ws_Md_isUnder wn_Md_isUnder d_Md_inScope_12)) (
  kc_case (P := P) (kc_se c_Md_inScope_11 (sm_iconst d_Md_inScope_11 (by decide))) (
  kc_case (P := P) (kc_se c_Md_inScope_10 (sm_iload_n d_Md_inScope_10 rfl)) (
  kc_case (P := P) (kc_se c_Md_inScope_9 (sm_iload_n d_Md_inScope_9 rfl)) (
  kc_case (P := P) (kc_se c_Md_inScope_8 (sm_aload_n d_Md_inScope_8 rfl)) (
  kc_case (P := P) (kc_se rfl sm_no) (
  kc_case (P := P) (kc_se rfl sm_no) (
  kc_case (P := P) (kc_se c_Md_inScope_5 (sm_cm_ne d_Md_inScope_5 (by decide))) (
  kc_case (P := P) (kc_se c_Md_inScope_4 (sm_iconst d_Md_inScope_4 (by decide))) (
  kc_case (P := P) (kc_se rfl sm_no) (
  kc_case (P := P) (kc_se rfl sm_no) (
  kc_case (P := P) (kc_se c_Md_inScope_1 (sm_get (ci := 10) (C := "DirectoryDeskModel") (F := kF_Md) rfl kin_Md (Nat.le_of_ble_eq_true rfl) d_Md_inScope_1 (kw3 211 rfl rfl))) (
  kc_case (P := P) (kc_se c_Md_inScope_0 (sm_aload_n d_Md_inScope_0 rfl)) (
  kc_case0)))))))))))))))))))))))))))))))))))))))))))))))))
set_option maxRecDepth 100000 in
theorem ka_nth_no_Md_inScope (pc : Nat) (h : 49 ≤ pc) : ct_Md_inScope pc = ka_no := ka_nth_ge _ pc (Nat.le_trans (Nat.le_of_eq (by rfl)) h)
theorem s_Md_inScope (pc : Nat) : kc_Sim kt kw_A kw_N kt_cl kt_En "DirectoryDeskModel" prog_12_method_42_code 3 (some .boolean) "inScope" none pc (ct_Md_inScope pc) := (Nat.lt_or_ge pc 49).elim (s_Md_inScope_49 pc) (fun h => kc_se (ka_nth_no_Md_inScope pc h) sm_no)
