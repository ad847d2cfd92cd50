/-! code of methods, decode rows, and that the JVM follows (by program) -/
def cl_Md_element_0 : List kc_A := [ka_il 1 1, ka_ci (nI 2) 1, ka_ii (fun x y => x + y), ka_il 2 1, ka_cm (fun x y => x ≤ y) 9, ka_no, ka_no, ka_ci (nI 0) 1, ka_rz, ka_al 0 1, ka_al 0 1, ka_get 10 2, ka_no, ka_no, ka_il 1 1, ka_iald, ka_put 10 13 .int, ka_no, ka_no, ka_al 0 1, ka_get 10 2, ka_no, ka_no, ka_il 1 1, ka_ci (nI 1) 1, ka_ii (fun x y => x + y), ka_iald, ka_is 3 1, ka_al 0 1, ka_il 1 1, ka_ci (nI 2) 1, ka_ii (fun x y => x + y), ka_put 10 14 .int, ka_no, ka_no, ka_il 3 1, ka_ci (nI 129) 3, ka_no, ka_no, ka_cm (fun x y => ¬ x = y) 70, ka_no, ka_no, ka_il 1 1, ka_ci (nI 3) 1, ka_ii (fun x y => x + y), ka_il 2 1, ka_cm (fun x y => x ≤ y) 51, ka_no, ka_no, ka_ci (nI 0) 1, ka_rz, ka_al 0 1, ka_get 10 2, ka_no, ka_no, ka_il 1 1, ka_ci (nI 2) 1, ka_ii (fun x y => x + y), ka_iald, ka_is 3 1]
def cl_Md_element_1 : List kc_A := [ka_al 0 1, ka_il 1 1, ka_ci (nI 3) 1, ka_ii (fun x y => x + y), ka_put 10 14 .int, ka_no, ka_no, ka_goto 78, ka_no, ka_no, ka_il 3 1, ka_ci (nI 127) 2, ka_no, ka_cm (fun x y => x ≤ y) 78, ka_no, ka_no, ka_ci (nI 0) 1, ka_rz, ka_al 0 1, ka_al 0 1, ka_get 10 14, ka_no, ka_no, ka_il 3 1, ka_ii (fun x y => x + y), ka_put 10 15 .int, ka_no, ka_no, ka_al 0 1, ka_get 10 15, ka_no, ka_no, ka_il 2 1, ka_cm (fun x y => y < x) 100, ka_no, ka_no, ka_ci (nI 1) 1, ka_goto 101, ka_no, ka_no, ka_ci (nI 0) 1, ka_rz]
def ct_Md_element : Nat → kc_A := fun pc => ka_nth (cl_Md_element_0 ++ (cl_Md_element_1)) pc
set_option maxRecDepth 100000 in
theorem c_Md_element_0 : ct_Md_element 0 = ka_il 1 1 := rfl
theorem d_Md_element_0 : decode prog_12_method_4_code 0 = .ok (.iload_n 1, 1) := by decide +kernel
set_option maxRecDepth 100000 in
theorem c_Md_element_1 : ct_Md_element 1 = ka_ci (nI 2) 1 := rfl
theorem d_Md_element_1 : decode prog_12_method_4_code 1 = .ok (.iconst 2, 1) := by decide +kernel
set_option maxRecDepth 100000 in
theorem c_Md_element_2 : ct_Md_element 2 = ka_ii (fun x y => x + y) := rfl
theorem d_Md_element_2 : decode prog_12_method_4_code 2 = .ok (.iadd, 1) := by decide +kernel
set_option maxRecDepth 100000 in
theorem c_Md_element_3 : ct_Md_element 3 = ka_il 2 1 := rfl
theorem d_Md_element_3 : decode prog_12_method_4_code 3 = .ok (.iload_n 2, 1) := by decide +kernel
set_option maxRecDepth 100000 in
theorem c_Md_element_4 : ct_Md_element 4 = ka_cm (fun x y => x ≤ y) 9 := rfl
theorem d_Md_element_4 : decode prog_12_method_4_code 4 = .ok (.if_icmp .le 5, 3) := by decide +kernel
set_option maxRecDepth 100000 in
theorem c_Md_element_7 : ct_Md_element 7 = ka_ci (nI 0) 1 := rfl
theorem d_Md_element_7 : decode prog_12_method_4_code 7 = .ok (.iconst 0, 1) := by decide +kernel
set_option maxRecDepth 100000 in
theorem c_Md_element_8 : ct_Md_element 8 = ka_rz := rfl
theorem d_Md_element_8 : decode prog_12_method_4_code 8 = .ok (.ireturn, 1) := by decide +kernel
set_option maxRecDepth 100000 in
theorem c_Md_element_9 : ct_Md_element 9 = ka_al 0 1 := rfl
theorem d_Md_element_9 : decode prog_12_method_4_code 9 = .ok (.aload_n 0, 1) := by decide +kernel
set_option maxRecDepth 100000 in
theorem c_Md_element_10 : ct_Md_element 10 = ka_al 0 1 := rfl
theorem d_Md_element_10 : decode prog_12_method_4_code 10 = .ok (.aload_n 0, 1) := by decide +kernel
set_option maxRecDepth 100000 in
theorem c_Md_element_11 : ct_Md_element 11 = ka_get 10 2 := rfl
theorem d_Md_element_11 : decode prog_12_method_4_code 11 = .ok (.getfield 7, 3) := by decide +kernel
set_option maxRecDepth 100000 in
theorem c_Md_element_14 : ct_Md_element 14 = ka_il 1 1 := rfl
theorem d_Md_element_14 : decode prog_12_method_4_code 14 = .ok (.iload_n 1, 1) := by decide +kernel
set_option maxRecDepth 100000 in
theorem c_Md_element_15 : ct_Md_element 15 = ka_iald := rfl
theorem d_Md_element_15 : decode prog_12_method_4_code 15 = .ok (.iaload, 1) := by decide +kernel
set_option maxRecDepth 100000 in
theorem c_Md_element_16 : ct_Md_element 16 = ka_put 10 13 .int := rfl
theorem d_Md_element_16 : decode prog_12_method_4_code 16 = .ok (.putfield 103, 3) := by decide +kernel
set_option maxRecDepth 100000 in
theorem c_Md_element_19 : ct_Md_element 19 = ka_al 0 1 := rfl
theorem d_Md_element_19 : decode prog_12_method_4_code 19 = .ok (.aload_n 0, 1) := by decide +kernel
set_option maxRecDepth 100000 in
theorem c_Md_element_20 : ct_Md_element 20 = ka_get 10 2 := rfl
theorem d_Md_element_20 : decode prog_12_method_4_code 20 = .ok (.getfield 7, 3) := by decide +kernel
set_option maxRecDepth 100000 in
theorem c_Md_element_23 : ct_Md_element 23 = ka_il 1 1 := rfl
theorem d_Md_element_23 : decode prog_12_method_4_code 23 = .ok (.iload_n 1, 1) := by decide +kernel
set_option maxRecDepth 100000 in
theorem c_Md_element_24 : ct_Md_element 24 = ka_ci (nI 1) 1 := rfl
theorem d_Md_element_24 : decode prog_12_method_4_code 24 = .ok (.iconst 1, 1) := by decide +kernel
set_option maxRecDepth 100000 in
theorem c_Md_element_25 : ct_Md_element 25 = ka_ii (fun x y => x + y) := rfl
theorem d_Md_element_25 : decode prog_12_method_4_code 25 = .ok (.iadd, 1) := by decide +kernel
set_option maxRecDepth 100000 in
theorem c_Md_element_26 : ct_Md_element 26 = ka_iald := rfl
theorem d_Md_element_26 : decode prog_12_method_4_code 26 = .ok (.iaload, 1) := by decide +kernel
set_option maxRecDepth 100000 in
theorem c_Md_element_27 : ct_Md_element 27 = ka_is 3 1 := rfl
theorem d_Md_element_27 : decode prog_12_method_4_code 27 = .ok (.istore_n 3, 1) := by decide +kernel
set_option maxRecDepth 100000 in
theorem c_Md_element_28 : ct_Md_element 28 = ka_al 0 1 := rfl
theorem d_Md_element_28 : decode prog_12_method_4_code 28 = .ok (.aload_n 0, 1) := by decide +kernel
set_option maxRecDepth 100000 in
theorem c_Md_element_29 : ct_Md_element 29 = ka_il 1 1 := rfl
theorem d_Md_element_29 : decode prog_12_method_4_code 29 = .ok (.iload_n 1, 1) := by decide +kernel
set_option maxRecDepth 100000 in
theorem c_Md_element_30 : ct_Md_element 30 = ka_ci (nI 2) 1 := rfl
theorem d_Md_element_30 : decode prog_12_method_4_code 30 = .ok (.iconst 2, 1) := by decide +kernel
set_option maxRecDepth 100000 in
theorem c_Md_element_31 : ct_Md_element 31 = ka_ii (fun x y => x + y) := rfl
theorem d_Md_element_31 : decode prog_12_method_4_code 31 = .ok (.iadd, 1) := by decide +kernel
set_option maxRecDepth 100000 in
theorem c_Md_element_32 : ct_Md_element 32 = ka_put 10 14 .int := rfl
theorem d_Md_element_32 : decode prog_12_method_4_code 32 = .ok (.putfield 106, 3) := by decide +kernel
set_option maxRecDepth 100000 in
theorem c_Md_element_35 : ct_Md_element 35 = ka_il 3 1 := rfl
theorem d_Md_element_35 : decode prog_12_method_4_code 35 = .ok (.iload_n 3, 1) := by decide +kernel
set_option maxRecDepth 100000 in
theorem c_Md_element_36 : ct_Md_element 36 = ka_ci (nI 129) 3 := rfl
theorem d_Md_element_36 : decode prog_12_method_4_code 36 = .ok (.sipush 129, 3) := by decide +kernel
set_option maxRecDepth 100000 in
theorem c_Md_element_39 : ct_Md_element 39 = ka_cm (fun x y => ¬ x = y) 70 := rfl
theorem d_Md_element_39 : decode prog_12_method_4_code 39 = .ok (.if_icmp .ne 31, 3) := by decide +kernel
set_option maxRecDepth 100000 in
theorem c_Md_element_42 : ct_Md_element 42 = ka_il 1 1 := rfl
theorem d_Md_element_42 : decode prog_12_method_4_code 42 = .ok (.iload_n 1, 1) := by decide +kernel
set_option maxRecDepth 100000 in
theorem c_Md_element_43 : ct_Md_element 43 = ka_ci (nI 3) 1 := rfl
theorem d_Md_element_43 : decode prog_12_method_4_code 43 = .ok (.iconst 3, 1) := by decide +kernel
set_option maxRecDepth 100000 in
theorem c_Md_element_44 : ct_Md_element 44 = ka_ii (fun x y => x + y) := rfl
theorem d_Md_element_44 : decode prog_12_method_4_code 44 = .ok (.iadd, 1) := by decide +kernel
set_option maxRecDepth 100000 in
theorem c_Md_element_45 : ct_Md_element 45 = ka_il 2 1 := rfl
theorem d_Md_element_45 : decode prog_12_method_4_code 45 = .ok (.iload_n 2, 1) := by decide +kernel
set_option maxRecDepth 100000 in
theorem c_Md_element_46 : ct_Md_element 46 = ka_cm (fun x y => x ≤ y) 51 := rfl
theorem d_Md_element_46 : decode prog_12_method_4_code 46 = .ok (.if_icmp .le 5, 3) := by decide +kernel
set_option maxRecDepth 100000 in
theorem c_Md_element_49 : ct_Md_element 49 = ka_ci (nI 0) 1 := rfl
theorem d_Md_element_49 : decode prog_12_method_4_code 49 = .ok (.iconst 0, 1) := by decide +kernel
set_option maxRecDepth 100000 in
theorem c_Md_element_50 : ct_Md_element 50 = ka_rz := rfl
theorem d_Md_element_50 : decode prog_12_method_4_code 50 = .ok (.ireturn, 1) := by decide +kernel
set_option maxRecDepth 100000 in
theorem c_Md_element_51 : ct_Md_element 51 = ka_al 0 1 := rfl
theorem d_Md_element_51 : decode prog_12_method_4_code 51 = .ok (.aload_n 0, 1) := by decide +kernel
set_option maxRecDepth 100000 in
theorem c_Md_element_52 : ct_Md_element 52 = ka_get 10 2 := rfl
theorem d_Md_element_52 : decode prog_12_method_4_code 52 = .ok (.getfield 7, 3) := by decide +kernel
set_option maxRecDepth 100000 in
theorem c_Md_element_55 : ct_Md_element 55 = ka_il 1 1 := rfl
theorem d_Md_element_55 : decode prog_12_method_4_code 55 = .ok (.iload_n 1, 1) := by decide +kernel
set_option maxRecDepth 100000 in
theorem c_Md_element_56 : ct_Md_element 56 = ka_ci (nI 2) 1 := rfl
theorem d_Md_element_56 : decode prog_12_method_4_code 56 = .ok (.iconst 2, 1) := by decide +kernel
set_option maxRecDepth 100000 in
theorem c_Md_element_57 : ct_Md_element 57 = ka_ii (fun x y => x + y) := rfl
theorem d_Md_element_57 : decode prog_12_method_4_code 57 = .ok (.iadd, 1) := by decide +kernel
set_option maxRecDepth 100000 in
theorem c_Md_element_58 : ct_Md_element 58 = ka_iald := rfl
theorem d_Md_element_58 : decode prog_12_method_4_code 58 = .ok (.iaload, 1) := by decide +kernel
set_option maxRecDepth 100000 in
theorem c_Md_element_59 : ct_Md_element 59 = ka_is 3 1 := rfl
theorem d_Md_element_59 : decode prog_12_method_4_code 59 = .ok (.istore_n 3, 1) := by decide +kernel
set_option maxRecDepth 100000 in
theorem c_Md_element_60 : ct_Md_element 60 = ka_al 0 1 := rfl
theorem d_Md_element_60 : decode prog_12_method_4_code 60 = .ok (.aload_n 0, 1) := by decide +kernel
set_option maxRecDepth 100000 in
theorem c_Md_element_61 : ct_Md_element 61 = ka_il 1 1 := rfl
theorem d_Md_element_61 : decode prog_12_method_4_code 61 = .ok (.iload_n 1, 1) := by decide +kernel
set_option maxRecDepth 100000 in
theorem c_Md_element_62 : ct_Md_element 62 = ka_ci (nI 3) 1 := rfl
theorem d_Md_element_62 : decode prog_12_method_4_code 62 = .ok (.iconst 3, 1) := by decide +kernel
set_option maxRecDepth 100000 in
theorem c_Md_element_63 : ct_Md_element 63 = ka_ii (fun x y => x + y) := rfl
theorem d_Md_element_63 : decode prog_12_method_4_code 63 = .ok (.iadd, 1) := by decide +kernel
set_option maxRecDepth 100000 in
theorem c_Md_element_64 : ct_Md_element 64 = ka_put 10 14 .int := rfl
theorem d_Md_element_64 : decode prog_12_method_4_code 64 = .ok (.putfield 106, 3) := by decide +kernel
set_option maxRecDepth 100000 in
theorem c_Md_element_67 : ct_Md_element 67 = ka_goto 78 := rfl
theorem d_Md_element_67 : decode prog_12_method_4_code 67 = .ok (.goto 11, 3) := by decide +kernel
set_option maxRecDepth 100000 in
theorem c_Md_element_70 : ct_Md_element 70 = ka_il 3 1 := rfl
theorem d_Md_element_70 : decode prog_12_method_4_code 70 = .ok (.iload_n 3, 1) := by decide +kernel
set_option maxRecDepth 100000 in
theorem c_Md_element_71 : ct_Md_element 71 = ka_ci (nI 127) 2 := rfl
theorem d_Md_element_71 : decode prog_12_method_4_code 71 = .ok (.bipush 127, 2) := by decide +kernel
set_option maxRecDepth 100000 in
theorem c_Md_element_73 : ct_Md_element 73 = ka_cm (fun x y => x ≤ y) 78 := rfl
theorem d_Md_element_73 : decode prog_12_method_4_code 73 = .ok (.if_icmp .le 5, 3) := by decide +kernel
set_option maxRecDepth 100000 in
theorem c_Md_element_76 : ct_Md_element 76 = ka_ci (nI 0) 1 := rfl
theorem d_Md_element_76 : decode prog_12_method_4_code 76 = .ok (.iconst 0, 1) := by decide +kernel
set_option maxRecDepth 100000 in
theorem c_Md_element_77 : ct_Md_element 77 = ka_rz := rfl
theorem d_Md_element_77 : decode prog_12_method_4_code 77 = .ok (.ireturn, 1) := by decide +kernel
set_option maxRecDepth 100000 in
theorem c_Md_element_78 : ct_Md_element 78 = ka_al 0 1 := rfl
theorem d_Md_element_78 : decode prog_12_method_4_code 78 = .ok (.aload_n 0, 1) := by decide +kernel
set_option maxRecDepth 100000 in
theorem c_Md_element_79 : ct_Md_element 79 = ka_al 0 1 := rfl
theorem d_Md_element_79 : decode prog_12_method_4_code 79 = .ok (.aload_n 0, 1) := by decide +kernel
set_option maxRecDepth 100000 in
theorem c_Md_element_80 : ct_Md_element 80 = ka_get 10 14 := rfl
theorem d_Md_element_80 : decode prog_12_method_4_code 80 = .ok (.getfield 106, 3) := by decide +kernel
set_option maxRecDepth 100000 in
theorem c_Md_element_83 : ct_Md_element 83 = ka_il 3 1 := rfl
theorem d_Md_element_83 : decode prog_12_method_4_code 83 = .ok (.iload_n 3, 1) := by decide +kernel
set_option maxRecDepth 100000 in
theorem c_Md_element_84 : ct_Md_element 84 = ka_ii (fun x y => x + y) := rfl
theorem d_Md_element_84 : decode prog_12_method_4_code 84 = .ok (.iadd, 1) := by decide +kernel
set_option maxRecDepth 100000 in
theorem c_Md_element_85 : ct_Md_element 85 = ka_put 10 15 .int := rfl
theorem d_Md_element_85 : decode prog_12_method_4_code 85 = .ok (.putfield 109, 3) := by decide +kernel
set_option maxRecDepth 100000 in
theorem c_Md_element_88 : ct_Md_element 88 = ka_al 0 1 := rfl
theorem d_Md_element_88 : decode prog_12_method_4_code 88 = .ok (.aload_n 0, 1) := by decide +kernel
set_option maxRecDepth 100000 in
theorem c_Md_element_89 : ct_Md_element 89 = ka_get 10 15 := rfl
theorem d_Md_element_89 : decode prog_12_method_4_code 89 = .ok (.getfield 109, 3) := by decide +kernel
set_option maxRecDepth 100000 in
theorem c_Md_element_92 : ct_Md_element 92 = ka_il 2 1 := rfl
theorem d_Md_element_92 : decode prog_12_method_4_code 92 = .ok (.iload_n 2, 1) := by decide +kernel
set_option maxRecDepth 100000 in
theorem c_Md_element_93 : ct_Md_element 93 = ka_cm (fun x y => y < x) 100 := rfl
theorem d_Md_element_93 : decode prog_12_method_4_code 93 = .ok (.if_icmp .gt 7, 3) := by decide +kernel
set_option maxRecDepth 100000 in
theorem c_Md_element_96 : ct_Md_element 96 = ka_ci (nI 1) 1 := rfl
theorem d_Md_element_96 : decode prog_12_method_4_code 96 = .ok (.iconst 1, 1) := by decide +kernel
set_option maxRecDepth 100000 in
theorem c_Md_element_97 : ct_Md_element 97 = ka_goto 101 := rfl
theorem d_Md_element_97 : decode prog_12_method_4_code 97 = .ok (.goto 4, 3) := by decide +kernel
set_option maxRecDepth 100000 in
theorem c_Md_element_100 : ct_Md_element 100 = ka_ci (nI 0) 1 := rfl
theorem d_Md_element_100 : decode prog_12_method_4_code 100 = .ok (.iconst 0, 1) := by decide +kernel
set_option maxRecDepth 100000 in
theorem c_Md_element_101 : ct_Md_element 101 = ka_rz := rfl
theorem d_Md_element_101 : decode prog_12_method_4_code 101 = .ok (.ireturn, 1) := by decide +kernel
set_option maxRecDepth 100000 in
set_option maxHeartbeats 4000000 in
theorem s_Md_element_60 : ∀ pc, pc < 60 → kc_Sim kt kw_A kw_N kt_cl kt_En "DirectoryDeskModel" prog_12_method_4_code 4 (some .boolean) "element" none pc (ct_Md_element pc) := by
  let P : Nat → Prop := fun pc => kc_Sim kt kw_A kw_N kt_cl kt_En "DirectoryDeskModel" prog_12_method_4_code 4 (some .boolean) "element" none pc (ct_Md_element pc)
  exact kc_case (P := P) (kc_se c_Md_element_59 (sm_istore_n d_Md_element_59 rfl (Nat.le_of_ble_eq_true rfl))) (
  kc_case (P := P) (kc_se c_Md_element_58 (sm_iald d_Md_element_58)) (
  kc_case (P := P) (kc_se c_Md_element_57 (sm_iadd d_Md_element_57)) (
  kc_case (P := P) (kc_se c_Md_element_56 (sm_iconst d_Md_element_56 (by decide))) (
  kc_case (P := P) (kc_se c_Md_element_55 (sm_iload_n d_Md_element_55 rfl)) (
  kc_case (P := P) (kc_se rfl sm_no) (
  kc_case (P := P) (kc_se rfl sm_no) (
  kc_case (P := P) (kc_se c_Md_element_52 (sm_get (ci := 10) (C := "DirectoryDeskModel") (F := kF_Md) rfl kin_Md (Nat.le_of_ble_eq_true rfl) d_Md_element_52 (kw3 185 rfl rfl))) (
  kc_case (P := P) (kc_se c_Md_element_51 (sm_aload_n d_Md_element_51 rfl)) (
  kc_case (P := P) (kc_se c_Md_element_50 (sm_rz d_Md_element_50 rfl)) (
  kc_case (P := P) (kc_se c_Md_element_49 (sm_iconst d_Md_element_49 (by decide))) (
  kc_case (P := P) (kc_se rfl sm_no) (
  kc_case (P := P) (kc_se rfl sm_no) (
  kc_case (P := P) (kc_se c_Md_element_46 (sm_cm_le d_Md_element_46 (by decide))) (
  kc_case (P := P) (kc_se c_Md_element_45 (sm_iload_n d_Md_element_45 rfl)) (
  kc_case (P := P) (kc_se c_Md_element_44 (sm_iadd d_Md_element_44)) (
  kc_case (P := P) (kc_se c_Md_element_43 (sm_iconst d_Md_element_43 (by decide))) (
  kc_case (P := P) (kc_se c_Md_element_42 (sm_iload_n d_Md_element_42 rfl)) (
  kc_case (P := P) (kc_se rfl sm_no) (
  kc_case (P := P) (kc_se rfl sm_no) (
  kc_case (P := P) (kc_se c_Md_element_39 (sm_cm_ne d_Md_element_39 (by decide))) (
  kc_case (P := P) (kc_se rfl sm_no) (
  kc_case (P := P) (kc_se rfl sm_no) (
  kc_case (P := P) (kc_se c_Md_element_36 (sm_sipush d_Md_element_36 (by decide))) (
  kc_case (P := P) (kc_se c_Md_element_35 (sm_iload_n d_Md_element_35 rfl)) (
  kc_case (P := P) (kc_se rfl sm_no) (
  kc_case (P := P) (kc_se rfl sm_no) (
  kc_case (P := P) (kc_se c_Md_element_32 (sm_put (ci := 10) (C := "DirectoryDeskModel") (F := kF_Md) rfl kin_Md kty_Md ktk_Md knm_Md (Nat.le_of_ble_eq_true rfl) (by decide +kernel) d_Md_element_32 (kw3 197 rfl rfl) rfl)) (
  kc_case (P := P) (kc_se c_Md_element_31 (sm_iadd d_Md_element_31)) (
  kc_case (P := P) (kc_se c_Md_element_30 (sm_iconst d_Md_element_30 (by decide))) (
  kc_case (P := P) (kc_se c_Md_element_29 (sm_iload_n d_Md_element_29 rfl)) (
  kc_case (P := P) (kc_se c_Md_element_28 (sm_aload_n d_Md_element_28 rfl)) (
  kc_case (P := P) (kc_se c_Md_element_27 (sm_istore_n d_Md_element_27 rfl (Nat.le_of_ble_eq_true rfl))) (
  kc_case (P := P) (kc_se c_Md_element_26 (sm_iald d_Md_element_26)) (
  kc_case (P := P) (kc_se c_Md_element_25 (sm_iadd d_Md_element_25)) (
  kc_case (P := P) (kc_se c_Md_element_24 (sm_iconst d_Md_element_24 (by decide))) (
  kc_case (P := P) (kc_se c_Md_element_23 (sm_iload_n d_Md_element_23 rfl)) (
  kc_case (P := P) (kc_se rfl sm_no) (
  kc_case (P := P) (kc_se rfl sm_no) (
  kc_case (P := P) (kc_se c_Md_element_20 (sm_get (ci := 10) (C := "DirectoryDeskModel") (F := kF_Md) rfl kin_Md (Nat.le_of_ble_eq_true rfl) d_Md_element_20 (kw3 185 rfl rfl))) (
  kc_case (P := P) (kc_se c_Md_element_19 (sm_aload_n d_Md_element_19 rfl)) (
  kc_case (P := P) (kc_se rfl sm_no) (
  kc_case (P := P) (kc_se rfl sm_no) (
  kc_case (P := P) (kc_se c_Md_element_16 (sm_put (ci := 10) (C := "DirectoryDeskModel") (F := kF_Md) rfl kin_Md kty_Md ktk_Md knm_Md (Nat.le_of_ble_eq_true rfl) (by decide +kernel) d_Md_element_16 (kw3 196 rfl rfl) rfl)) (
  kc_case (P := P) (kc_se c_Md_element_15 (sm_iald d_Md_element_15)) (
  kc_case (P := P) (kc_se c_Md_element_14 (sm_iload_n d_Md_element_14 rfl)) (
  kc_case (P := P) (kc_se rfl sm_no) (
  kc_case (P := P) (kc_se rfl sm_no) (
  kc_case (P := P) (kc_se c_Md_element_11 (sm_get (ci := 10) (C := "DirectoryDeskModel") (F := kF_Md) rfl kin_Md (Nat.le_of_ble_eq_true rfl) d_Md_element_11 (kw3 185 rfl rfl))) (
  kc_case (P := P) (kc_se c_Md_element_10 (sm_aload_n d_Md_element_10 rfl)) (
  kc_case (P := P) (kc_se c_Md_element_9 (sm_aload_n d_Md_element_9 rfl)) (
  kc_case (P := P) (kc_se c_Md_element_8 (sm_rz d_Md_element_8 rfl)) (
  kc_case (P := P) (kc_se c_Md_element_7 (sm_iconst d_Md_element_7 (by decide))) (
  kc_case (P := P) (kc_se rfl sm_no) (
  kc_case (P := P) (kc_se rfl sm_no) (
  kc_case (P := P) (kc_se c_Md_element_4 (sm_cm_le d_Md_element_4 (by decide))) (
  kc_case (P := P) (kc_se c_Md_element_3 (sm_iload_n d_Md_element_3 rfl)) (
  kc_case (P := P) (kc_se c_Md_element_2 (sm_iadd d_Md_element_2)) (
  kc_case (P := P) (kc_se c_Md_element_1 (sm_iconst d_Md_element_1 (by decide))) (
  kc_case (P := P) (kc_se c_Md_element_0 (sm_iload_n d_Md_element_0 rfl)) (
  kc_case0))))))))))))))))))))))))))))))))))))))))))))))))))))))))))))
set_option maxRecDepth 100000 in
set_option maxHeartbeats 4000000 in
theorem s_Md_element_102 : ∀ pc, pc < 102 → kc_Sim kt kw_A kw_N kt_cl kt_En "DirectoryDeskModel" prog_12_method_4_code 4 (some .boolean) "element" none pc (ct_Md_element pc) := by
  let P : Nat → Prop := fun pc => kc_Sim kt kw_A kw_N kt_cl kt_En "DirectoryDeskModel" prog_12_method_4_code 4 (some .boolean) "element" none pc (ct_Md_element pc)
  exact kc_case (P := P) (kc_se c_Md_element_101 (sm_rz d_Md_element_101 rfl)) (
  kc_case (P := P) (kc_se c_Md_element_100 (sm_iconst d_Md_element_100 (by decide))) (
  kc_case (P := P) (kc_se rfl sm_no) (
  kc_case (P := P) (kc_se rfl sm_no) (
  kc_case (P := P) (kc_se c_Md_element_97 (sm_goto d_Md_element_97 (by decide))) (
  kc_case (P := P) (kc_se c_Md_element_96 (sm_iconst d_Md_element_96 (by decide))) (
  kc_case (P := P) (kc_se rfl sm_no) (
  kc_case (P := P) (kc_se rfl sm_no) (
  kc_case (P := P) (kc_se c_Md_element_93 (sm_cm_gt d_Md_element_93 (by decide))) (
  kc_case (P := P) (kc_se c_Md_element_92 (sm_iload_n d_Md_element_92 rfl)) (
  kc_case (P := P) (kc_se rfl sm_no) (
  kc_case (P := P) (kc_se rfl sm_no) (
  kc_case (P := P) (kc_se c_Md_element_89 (sm_get (ci := 10) (C := "DirectoryDeskModel") (F := kF_Md) rfl kin_Md (Nat.le_of_ble_eq_true rfl) d_Md_element_89 (kw3 198 rfl rfl))) (
  kc_case (P := P) (kc_se c_Md_element_88 (sm_aload_n d_Md_element_88 rfl)) (
  kc_case (P := P) (kc_se rfl sm_no) (
  kc_case (P := P) (kc_se rfl sm_no) (
  kc_case (P := P) (kc_se c_Md_element_85 (sm_put (ci := 10) (C := "DirectoryDeskModel") (F := kF_Md) rfl kin_Md kty_Md ktk_Md knm_Md (Nat.le_of_ble_eq_true rfl) (by decide +kernel) d_Md_element_85 (kw3 198 rfl rfl) rfl)) (
  kc_case (P := P) (kc_se c_Md_element_84 (sm_iadd d_Md_element_84)) (
  kc_case (P := P) (kc_se c_Md_element_83 (sm_iload_n d_Md_element_83 rfl)) (
  kc_case (P := P) (kc_se rfl sm_no) (
  kc_case (P := P) (kc_se rfl sm_no) (
  kc_case (P := P) (kc_se c_Md_element_80 (sm_get (ci := 10) (C := "DirectoryDeskModel") (F := kF_Md) rfl kin_Md (Nat.le_of_ble_eq_true rfl) d_Md_element_80 (kw3 197 rfl rfl))) (
  kc_case (P := P) (kc_se c_Md_element_79 (sm_aload_n d_Md_element_79 rfl)) (
  kc_case (P := P) (kc_se c_Md_element_78 (sm_aload_n d_Md_element_78 rfl)) (
  kc_case (P := P) (kc_se c_Md_element_77 (sm_rz d_Md_element_77 rfl)) (
  kc_case (P := P) (kc_se c_Md_element_76 (sm_iconst d_Md_element_76 (by decide))) (
  kc_case (P := P) (kc_se rfl sm_no) (
  kc_case (P := P) (kc_se rfl sm_no) (
  kc_case (P := P) (kc_se c_Md_element_73 (sm_cm_le d_Md_element_73 (by decide))) (
  kc_case (P := P) (kc_se rfl sm_no) (
  kc_case (P := P) (kc_se c_Md_element_71 (sm_bipush d_Md_element_71 (by decide))) (
  kc_case (P := P) (kc_se c_Md_element_70 (sm_iload_n d_Md_element_70 rfl)) (
  kc_case (P := P) (kc_se rfl sm_no) (
  kc_case (P := P) (kc_se rfl sm_no) (
  kc_case (P := P) (kc_se c_Md_element_67 (sm_goto d_Md_element_67 (by decide))) (
  kc_case (P := P) (kc_se rfl sm_no) (
  kc_case (P := P) (kc_se rfl sm_no) (
  kc_case (P := P) (kc_se c_Md_element_64 (sm_put (ci := 10) (C := "DirectoryDeskModel") (F := kF_Md) rfl kin_Md kty_Md ktk_Md knm_Md (Nat.le_of_ble_eq_true rfl) (by decide +kernel) d_Md_element_64 (kw3 197 rfl rfl) rfl)) (
  kc_case (P := P) (kc_se c_Md_element_63 (sm_iadd d_Md_element_63)) (
  kc_case (P := P) (kc_se c_Md_element_62 (sm_iconst d_Md_element_62 (by decide))) (
  kc_case (P := P) (kc_se c_Md_element_61 (sm_iload_n d_Md_element_61 rfl)) (
  kc_case (P := P) (kc_se c_Md_element_60 (sm_aload_n d_Md_element_60 rfl)) (
  s_Md_element_60))))))))))))))))))))))))))))))))))))))))))
set_option maxRecDepth 100000 in
theorem ka_nth_no_Md_element (pc : Nat) (h : 102 ≤ pc) : ct_Md_element pc = ka_no := ka_nth_ge _ pc (Nat.le_trans (Nat.le_of_eq (by rfl)) h)
theorem s_Md_element (pc : Nat) : kc_Sim kt kw_A kw_N kt_cl kt_En "DirectoryDeskModel" prog_12_method_4_code 4 (some .boolean) "element" none pc (ct_Md_element pc) := (Nat.lt_or_ge pc 102).elim (s_Md_element_102 pc) (fun h => kc_se (ka_nth_no_Md_element pc h) sm_no)
def cl_Md_tagged_0 : List kc_A := [ka_al 0 1, ka_il 1 1, ka_il 2 1, ka_cv 99 2 10 0 0, ka_no, ka_no, ka_if (fun x => x = 0) 21, ka_no, ka_no, ka_al 0 1, ka_get 10 13, ka_no, ka_no, ka_il 3 1, ka_cm (fun x y => ¬ x = y) 21, ka_no, ka_no, ka_ci (nI 1) 1, ka_goto 22, ka_no, ka_no, ka_ci (nI 0) 1, ka_rz]
def ct_Md_tagged : Nat → kc_A := fun pc => ka_nth (cl_Md_tagged_0) pc
set_option maxRecDepth 100000 in
theorem c_Md_tagged_0 : ct_Md_tagged 0 = ka_al 0 1 := rfl
theorem d_Md_tagged_0 : decode prog_12_method_5_code 0 = .ok (.aload_n 0, 1) := by decide +kernel
set_option maxRecDepth 100000 in
theorem c_Md_tagged_1 : ct_Md_tagged 1 = ka_il 1 1 := rfl
theorem d_Md_tagged_1 : decode prog_12_method_5_code 1 = .ok (.iload_n 1, 1) := by decide +kernel
set_option maxRecDepth 100000 in
theorem c_Md_tagged_2 : ct_Md_tagged 2 = ka_il 2 1 := rfl
theorem d_Md_tagged_2 : decode prog_12_method_5_code 2 = .ok (.iload_n 2, 1) := by decide +kernel
set_option maxRecDepth 100000 in
theorem c_Md_tagged_3 : ct_Md_tagged 3 = ka_cv 99 2 10 0 0 := rfl
theorem d_Md_tagged_3 : decode prog_12_method_5_code 3 = .ok (.invokevirtual 112, 3) := by decide +kernel
set_option maxRecDepth 100000 in
theorem c_Md_tagged_6 : ct_Md_tagged 6 = ka_if (fun x => x = 0) 21 := rfl
theorem d_Md_tagged_6 : decode prog_12_method_5_code 6 = .ok (.ifCond .eq 15, 3) := by decide +kernel
set_option maxRecDepth 100000 in
theorem c_Md_tagged_9 : ct_Md_tagged 9 = ka_al 0 1 := rfl
theorem d_Md_tagged_9 : decode prog_12_method_5_code 9 = .ok (.aload_n 0, 1) := by decide +kernel
set_option maxRecDepth 100000 in
theorem c_Md_tagged_10 : ct_Md_tagged 10 = ka_get 10 13 := rfl
theorem d_Md_tagged_10 : decode prog_12_method_5_code 10 = .ok (.getfield 103, 3) := by decide +kernel
set_option maxRecDepth 100000 in
theorem c_Md_tagged_13 : ct_Md_tagged 13 = ka_il 3 1 := rfl
theorem d_Md_tagged_13 : decode prog_12_method_5_code 13 = .ok (.iload_n 3, 1) := by decide +kernel
set_option maxRecDepth 100000 in
theorem c_Md_tagged_14 : ct_Md_tagged 14 = ka_cm (fun x y => ¬ x = y) 21 := rfl
theorem d_Md_tagged_14 : decode prog_12_method_5_code 14 = .ok (.if_icmp .ne 7, 3) := by decide +kernel
set_option maxRecDepth 100000 in
theorem c_Md_tagged_17 : ct_Md_tagged 17 = ka_ci (nI 1) 1 := rfl
theorem d_Md_tagged_17 : decode prog_12_method_5_code 17 = .ok (.iconst 1, 1) := by decide +kernel
set_option maxRecDepth 100000 in
theorem c_Md_tagged_18 : ct_Md_tagged 18 = ka_goto 22 := rfl
theorem d_Md_tagged_18 : decode prog_12_method_5_code 18 = .ok (.goto 4, 3) := by decide +kernel
set_option maxRecDepth 100000 in
theorem c_Md_tagged_21 : ct_Md_tagged 21 = ka_ci (nI 0) 1 := rfl
theorem d_Md_tagged_21 : decode prog_12_method_5_code 21 = .ok (.iconst 0, 1) := by decide +kernel
set_option maxRecDepth 100000 in
theorem c_Md_tagged_22 : ct_Md_tagged 22 = ka_rz := rfl
theorem d_Md_tagged_22 : decode prog_12_method_5_code 22 = .ok (.ireturn, 1) := by decide +kernel
set_option maxRecDepth 100000 in
set_option maxHeartbeats 4000000 in
theorem s_Md_tagged_23 : ∀ pc, pc < 23 → kc_Sim kt kw_A kw_N kt_cl kt_En "DirectoryDeskModel" prog_12_method_5_code 4 (some .boolean) "tagged" none pc (ct_Md_tagged pc) := by
  let P : Nat → Prop := fun pc => kc_Sim kt kw_A kw_N kt_cl kt_En "DirectoryDeskModel" prog_12_method_5_code 4 (some .boolean) "tagged" none pc (ct_Md_tagged pc)
  exact kc_case (P := P) (kc_se c_Md_tagged_22 (sm_rz d_Md_tagged_22 rfl)) (
  kc_case (P := P) (kc_se c_Md_tagged_21 (sm_iconst d_Md_tagged_21 (by decide))) (
  kc_case (P := P) (kc_se rfl sm_no) (
  kc_case (P := P) (kc_se rfl sm_no) (
  kc_case (P := P) (kc_se c_Md_tagged_18 (sm_goto d_Md_tagged_18 (by decide))) (
  kc_case (P := P) (kc_se c_Md_tagged_17 (sm_iconst d_Md_tagged_17 (by decide))) (
  kc_case (P := P) (kc_se rfl sm_no) (
  kc_case (P := P) (kc_se rfl sm_no) (
  kc_case (P := P) (kc_se c_Md_tagged_14 (sm_cm_ne d_Md_tagged_14 (by decide))) (
  kc_case (P := P) (kc_se c_Md_tagged_13 (sm_iload_n d_Md_tagged_13 rfl)) (
  kc_case (P := P) (kc_se rfl sm_no) (
  kc_case (P := P) (kc_se rfl sm_no) (
  kc_case (P := P) (kc_se c_Md_tagged_10 (sm_get (ci := 10) (C := "DirectoryDeskModel") (F := kF_Md) rfl kin_Md (Nat.le_of_ble_eq_true rfl) d_Md_tagged_10 (kw3 196 rfl rfl))) (
  kc_case (P := P) (kc_se c_Md_tagged_9 (sm_aload_n d_Md_tagged_9 rfl)) (
  kc_case (P := P) (kc_se rfl sm_no) (
  kc_case (P := P) (kc_se rfl sm_no) (
  kc_case (P := P) (kc_se c_Md_tagged_6 (sm_if_eq d_Md_tagged_6 (by decide))) (
  kc_case (P := P) (kc_se rfl sm_no) (
  kc_case (P := P) (kc_se rfl sm_no) (
  kc_case (P := P) (kc_se c_Md_tagged_3 (sm_cv (j := 99) rfl rfl kw_o kw_g wc_Md_element (Nat.le_of_ble_eq_true rfl) hd_Md_element (ci := 10) (F := kF_Md) (N := 52) rfl (kw4 121 rfl rfl) wi_Md_element ws_Md_element wn_Md_element d_Md_tagged_3)) (
  kc_case (P := P) (kc_se c_Md_tagged_2 (sm_iload_n d_Md_tagged_2 rfl)) (
  kc_case (P := P) (kc_se c_Md_tagged_1 (sm_iload_n d_Md_tagged_1 rfl)) (
  kc_case (P := P) (kc_se c_Md_tagged_0 (sm_aload_n d_Md_tagged_0 rfl)) (
  kc_case0)))))))))))))))))))))))
set_option maxRecDepth 100000 in
theorem ka_nth_no_Md_tagged (pc : Nat) (h : 23 ≤ pc) : ct_Md_tagged pc = ka_no := ka_nth_ge _ pc (Nat.le_trans (Nat.le_of_eq (by rfl)) h)
theorem s_Md_tagged (pc : Nat) : kc_Sim kt kw_A kw_N kt_cl kt_En "DirectoryDeskModel" prog_12_method_5_code 4 (some .boolean) "tagged" none pc (ct_Md_tagged pc) := (Nat.lt_or_ge pc 23).elim (s_Md_tagged_23 pc) (fun h => kc_se (ka_nth_no_Md_tagged pc h) sm_no)
def cl_Md_numbered_0 : List kc_A := [ka_al 0 1, ka_il 1 1, ka_il 2 1, ka_ci (nI 2) 1, ka_cv 100 3 10 0 0, ka_no, ka_no, ka_if (fun x => x = 0) 40, ka_no, ka_no, ka_al 0 1, ka_get 10 15, ka_no, ka_no, ka_al 0 1, ka_get 10 14, ka_no, ka_no, ka_ii (fun x y => x - y), ka_ci (nI 1) 1, ka_cm (fun x y => x = y) 36, ka_no, ka_no, ka_al 0 1, ka_get 10 15, ka_no, ka_no, ka_al 0 1, ka_get 10 14, ka_no, ka_no, ka_ii (fun x y => x - y), ka_ci (nI 2) 1, ka_cm (fun x y => ¬ x = y) 40, ka_no, ka_no, ka_ci (nI 1) 1, ka_goto 41, ka_no, ka_no, ka_ci (nI 0) 1, ka_rz]
def ct_Md_numbered : Nat → kc_A := fun pc => ka_nth (cl_Md_numbered_0) pc
set_option maxRecDepth 100000 in
theorem c_Md_numbered_0 : ct_Md_numbered 0 = ka_al 0 1 := rfl
theorem d_Md_numbered_0 : decode prog_12_method_6_code 0 = .ok (.aload_n 0, 1) := by decide +kernel
set_option maxRecDepth 100000 in
theorem c_Md_numbered_1 : ct_Md_numbered 1 = ka_il 1 1 := rfl
theorem d_Md_numbered_1 : decode prog_12_method_6_code 1 = .ok (.iload_n 1, 1) := by decide +kernel
set_option maxRecDepth 100000 in
theorem c_Md_numbered_2 : ct_Md_numbered 2 = ka_il 2 1 := rfl
theorem d_Md_numbered_2 : decode prog_12_method_6_code 2 = .ok (.iload_n 2, 1) := by decide +kernel
set_option maxRecDepth 100000 in
theorem c_Md_numbered_3 : ct_Md_numbered 3 = ka_ci (nI 2) 1 := rfl
theorem d_Md_numbered_3 : decode prog_12_method_6_code 3 = .ok (.iconst 2, 1) := by decide +kernel
set_option maxRecDepth 100000 in
theorem c_Md_numbered_4 : ct_Md_numbered 4 = ka_cv 100 3 10 0 0 := rfl
theorem d_Md_numbered_4 : decode prog_12_method_6_code 4 = .ok (.invokevirtual 116, 3) := by decide +kernel
set_option maxRecDepth 100000 in
theorem c_Md_numbered_7 : ct_Md_numbered 7 = ka_if (fun x => x = 0) 40 := rfl
theorem d_Md_numbered_7 : decode prog_12_method_6_code 7 = .ok (.ifCond .eq 33, 3) := by decide +kernel
set_option maxRecDepth 100000 in
theorem c_Md_numbered_10 : ct_Md_numbered 10 = ka_al 0 1 := rfl
theorem d_Md_numbered_10 : decode prog_12_method_6_code 10 = .ok (.aload_n 0, 1) := by decide +kernel
set_option maxRecDepth 100000 in
theorem c_Md_numbered_11 : ct_Md_numbered 11 = ka_get 10 15 := rfl
theorem d_Md_numbered_11 : decode prog_12_method_6_code 11 = .ok (.getfield 109, 3) := by decide +kernel
set_option maxRecDepth 100000 in
theorem c_Md_numbered_14 : ct_Md_numbered 14 = ka_al 0 1 := rfl
theorem d_Md_numbered_14 : decode prog_12_method_6_code 14 = .ok (.aload_n 0, 1) := by decide +kernel
set_option maxRecDepth 100000 in
theorem c_Md_numbered_15 : ct_Md_numbered 15 = ka_get 10 14 := rfl
theorem d_Md_numbered_15 : decode prog_12_method_6_code 15 = .ok (.getfield 106, 3) := by decide +kernel
set_option maxRecDepth 100000 in
theorem c_Md_numbered_18 : ct_Md_numbered 18 = ka_ii (fun x y => x - y) := rfl
theorem d_Md_numbered_18 : decode prog_12_method_6_code 18 = .ok (.isub, 1) := by decide +kernel
set_option maxRecDepth 100000 in
theorem c_Md_numbered_19 : ct_Md_numbered 19 = ka_ci (nI 1) 1 := rfl
theorem d_Md_numbered_19 : decode prog_12_method_6_code 19 = .ok (.iconst 1, 1) := by decide +kernel
set_option maxRecDepth 100000 in
theorem c_Md_numbered_20 : ct_Md_numbered 20 = ka_cm (fun x y => x = y) 36 := rfl
theorem d_Md_numbered_20 : decode prog_12_method_6_code 20 = .ok (.if_icmp .eq 16, 3) := by decide +kernel
set_option maxRecDepth 100000 in
theorem c_Md_numbered_23 : ct_Md_numbered 23 = ka_al 0 1 := rfl
theorem d_Md_numbered_23 : decode prog_12_method_6_code 23 = .ok (.aload_n 0, 1) := by decide +kernel
set_option maxRecDepth 100000 in
theorem c_Md_numbered_24 : ct_Md_numbered 24 = ka_get 10 15 := rfl
theorem d_Md_numbered_24 : decode prog_12_method_6_code 24 = .ok (.getfield 109, 3) := by decide +kernel
set_option maxRecDepth 100000 in
theorem c_Md_numbered_27 : ct_Md_numbered 27 = ka_al 0 1 := rfl
theorem d_Md_numbered_27 : decode prog_12_method_6_code 27 = .ok (.aload_n 0, 1) := by decide +kernel
set_option maxRecDepth 100000 in
theorem c_Md_numbered_28 : ct_Md_numbered 28 = ka_get 10 14 := rfl
theorem d_Md_numbered_28 : decode prog_12_method_6_code 28 = .ok (.getfield 106, 3) := by decide +kernel
set_option maxRecDepth 100000 in
theorem c_Md_numbered_31 : ct_Md_numbered 31 = ka_ii (fun x y => x - y) := rfl
theorem d_Md_numbered_31 : decode prog_12_method_6_code 31 = .ok (.isub, 1) := by decide +kernel
set_option maxRecDepth 100000 in
theorem c_Md_numbered_32 : ct_Md_numbered 32 = ka_ci (nI 2) 1 := rfl
theorem d_Md_numbered_32 : decode prog_12_method_6_code 32 = .ok (.iconst 2, 1) := by decide +kernel
set_option maxRecDepth 100000 in
theorem c_Md_numbered_33 : ct_Md_numbered 33 = ka_cm (fun x y => ¬ x = y) 40 := rfl
theorem d_Md_numbered_33 : decode prog_12_method_6_code 33 = .ok (.if_icmp .ne 7, 3) := by decide +kernel
set_option maxRecDepth 100000 in
theorem c_Md_numbered_36 : ct_Md_numbered 36 = ka_ci (nI 1) 1 := rfl
theorem d_Md_numbered_36 : decode prog_12_method_6_code 36 = .ok (.iconst 1, 1) := by decide +kernel
set_option maxRecDepth 100000 in
theorem c_Md_numbered_37 : ct_Md_numbered 37 = ka_goto 41 := rfl
theorem d_Md_numbered_37 : decode prog_12_method_6_code 37 = .ok (.goto 4, 3) := by decide +kernel
set_option maxRecDepth 100000 in
theorem c_Md_numbered_40 : ct_Md_numbered 40 = ka_ci (nI 0) 1 := rfl
theorem d_Md_numbered_40 : decode prog_12_method_6_code 40 = .ok (.iconst 0, 1) := by decide +kernel
set_option maxRecDepth 100000 in
theorem c_Md_numbered_41 : ct_Md_numbered 41 = ka_rz := rfl
theorem d_Md_numbered_41 : decode prog_12_method_6_code 41 = .ok (.ireturn, 1) := by decide +kernel
set_option maxRecDepth 100000 in
set_option maxHeartbeats 4000000 in
theorem s_Md_numbered_42 : ∀ pc, pc < 42 → kc_Sim kt kw_A kw_N kt_cl kt_En "DirectoryDeskModel" prog_12_method_6_code 3 (some .boolean) "numbered" none pc (ct_Md_numbered pc) := by
  let P : Nat → Prop := fun pc => kc_Sim kt kw_A kw_N kt_cl kt_En "DirectoryDeskModel" prog_12_method_6_code 3 (some .boolean) "numbered" none pc (ct_Md_numbered pc)
  exact kc_case (P := P) (kc_se c_Md_numbered_41 (sm_rz d_Md_numbered_41 rfl)) (
  kc_case (P := P) (kc_se c_Md_numbered_40 (sm_iconst d_Md_numbered_40 (by decide))) (
  kc_case (P := P) (kc_se rfl sm_no) (
  kc_case (P := P) (kc_se rfl sm_no) (
  kc_case (P := P) (kc_se c_Md_numbered_37 (sm_goto d_Md_numbered_37 (by decide))) (
  kc_case (P := P) (kc_se c_Md_numbered_36 (sm_iconst d_Md_numbered_36 (by decide))) (
  kc_case (P := P) (kc_se rfl sm_no) (
  kc_case (P := P) (kc_se rfl sm_no) (
  kc_case (P := P) (kc_se c_Md_numbered_33 (sm_cm_ne d_Md_numbered_33 (by decide))) (
  kc_case (P := P) (kc_se c_Md_numbered_32 (sm_iconst d_Md_numbered_32 (by decide))) (
  kc_case (P := P) (kc_se c_Md_numbered_31 (sm_isub d_Md_numbered_31)) (
  kc_case (P := P) (kc_se rfl sm_no) (
  kc_case (P := P) (kc_se rfl sm_no) (
  kc_case (P := P) (kc_se c_Md_numbered_28 (sm_get (ci := 10) (C := "DirectoryDeskModel") (F := kF_Md) rfl kin_Md (Nat.le_of_ble_eq_true rfl) d_Md_numbered_28 (kw3 197 rfl rfl))) (
  kc_case (P := P) (kc_se c_Md_numbered_27 (sm_aload_n d_Md_numbered_27 rfl)) (
  kc_case (P := P) (kc_se rfl sm_no) (
  kc_case (P := P) (kc_se rfl sm_no) (
  kc_case (P := P) (kc_se c_Md_numbered_24 (sm_get (ci := 10) (C := "DirectoryDeskModel") (F := kF_Md) rfl kin_Md (Nat.le_of_ble_eq_true rfl) d_Md_numbered_24 (kw3 198 rfl rfl))) (
  kc_case (P := P) (kc_se c_Md_numbered_23 (sm_aload_n d_Md_numbered_23 rfl)) (
  kc_case (P := P) (kc_se rfl sm_no) (
  kc_case (P := P) (kc_se rfl sm_no) (
  kc_case (P := P) (kc_se c_Md_numbered_20 (sm_cm_eq d_Md_numbered_20 (by decide))) (
  kc_case (P := P) (kc_se c_Md_numbered_19 (sm_iconst d_Md_numbered_19 (by decide))) (
  kc_case (P := P) (kc_se c_Md_numbered_18 (sm_isub d_Md_numbered_18)) (
  kc_case (P := P) (kc_se rfl sm_no) (
  kc_case (P := P) (kc_se rfl sm_no) (
  kc_case (P := P) (kc_se c_Md_numbered_15 (sm_get (ci := 10) (C := "DirectoryDeskModel") (F := kF_Md) rfl kin_Md (Nat.le_of_ble_eq_true rfl) d_Md_numbered_15 (kw3 197 rfl rfl))) (
  kc_case (P := P) (kc_se c_Md_numbered_14 (sm_aload_n d_Md_numbered_14 rfl)) (
  kc_case (P := P) (kc_se rfl sm_no) (
  kc_case (P := P) (kc_se rfl sm_no) (
  kc_case (P := P) (kc_se c_Md_numbered_11 (sm_get (ci := 10) (C := "DirectoryDeskModel") (F := kF_Md) rfl kin_Md (Nat.le_of_ble_eq_true rfl) d_Md_numbered_11 (kw3 198 rfl rfl))) (
  kc_case (P := P) (kc_se c_Md_numbered_10 (sm_aload_n d_Md_numbered_10 rfl)) (
  kc_case (P := P) (kc_se rfl sm_no) (
  kc_case (P := P) (kc_se rfl sm_no) (
  kc_case (P := P) (kc_se c_Md_numbered_7 (sm_if_eq d_Md_numbered_7 (by decide))) (
  kc_case (P := P) (kc_se rfl sm_no) (
  kc_case (P := P) (kc_se rfl sm_no) (
  kc_case (P := P) (kc_se c_Md_numbered_4 (sm_cv (j := 100) rfl rfl kw_o kw_g wc_Md_tagged (Nat.le_of_ble_eq_true rfl) hd_Md_tagged (ci := 10) (F := kF_Md) (N := 52) rfl (kw4 117 rfl rfl) wi_Md_tagged ws_Md_tagged wn_Md_tagged d_Md_numbered_4)) (
  kc_case (P := P) (kc_se c_Md_numbered_3 (sm_iconst d_Md_numbered_3 (by decide))) (
  kc_case (P := P) (kc_se c_Md_numbered_2 (sm_iload_n d_Md_numbered_2 rfl)) (
  kc_case (P := P) (kc_se c_Md_numbered_1 (sm_iload_n d_Md_numbered_1 rfl)) (
  kc_case (P := P) (kc_se c_Md_numbered_0 (sm_aload_n d_Md_numbered_0 rfl)) (
  kc_case0))))))))))))))))))))))))))))))))))))))))))
set_option maxRecDepth 100000 in
theorem ka_nth_no_Md_numbered (pc : Nat) (h : 42 ≤ pc) : ct_Md_numbered pc = ka_no := ka_nth_ge _ pc (Nat.le_trans (Nat.le_of_eq (by rfl)) h)
theorem s_Md_numbered (pc : Nat) : kc_Sim kt kw_A kw_N kt_cl kt_En "DirectoryDeskModel" prog_12_method_6_code 3 (some .boolean) "numbered" none pc (ct_Md_numbered pc) := (Nat.lt_or_ge pc 42).elim (s_Md_numbered_42 pc) (fun h => kc_se (ka_nth_no_Md_numbered pc h) sm_no)
def cl_Md_number_0 : List kc_A := [ka_al 0 1, ka_get 10 2, ka_no, ka_no, ka_al 0 1, ka_get 10 14, ka_no, ka_no, ka_iald, ka_ci (nI 127) 2, ka_no, ka_cm (fun x y => x ≤ y) 30, ka_no, ka_no, ka_al 0 1, ka_get 10 2, ka_no, ka_no, ka_al 0 1, ka_get 10 14, ka_no, ka_no, ka_iald, ka_ci (nI 256) 3, ka_no, ka_no, ka_ii (fun x y => x - y), ka_goto 39, ka_no, ka_no, ka_al 0 1, ka_get 10 2, ka_no, ka_no, ka_al 0 1, ka_get 10 14, ka_no, ka_no, ka_iald, ka_is 1 1, ka_al 0 1, ka_get 10 15, ka_no, ka_no, ka_al 0 1, ka_get 10 14, ka_no, ka_no, ka_ii (fun x y => x - y), ka_ci (nI 1) 1, ka_cm (fun x y => ¬ x = y) 57, ka_no, ka_no, ka_il 1 1, ka_goto 74, ka_no, ka_no, ka_ci (nI 256) 3, ka_no, ka_no]
def cl_Md_number_1 : List kc_A := [ka_il 1 1, ka_ii (fun x y => x * y), ka_al 0 1, ka_get 10 2, ka_no, ka_no, ka_al 0 1, ka_get 10 14, ka_no, ka_no, ka_ci (nI 1) 1, ka_ii (fun x y => x + y), ka_iald, ka_ii (fun x y => x + y), ka_ri]
def ct_Md_number : Nat → kc_A := fun pc => ka_nth (cl_Md_number_0 ++ (cl_Md_number_1)) pc
set_option maxRecDepth 100000 in
theorem c_Md_number_0 : ct_Md_number 0 = ka_al 0 1 := rfl
theorem d_Md_number_0 : decode prog_12_method_7_code 0 = .ok (.aload_n 0, 1) := by decide +kernel
set_option maxRecDepth 100000 in
theorem c_Md_number_1 : ct_Md_number 1 = ka_get 10 2 := rfl
theorem d_Md_number_1 : decode prog_12_method_7_code 1 = .ok (.getfield 7, 3) := by decide +kernel
set_option maxRecDepth 100000 in
theorem c_Md_number_4 : ct_Md_number 4 = ka_al 0 1 := rfl
theorem d_Md_number_4 : decode prog_12_method_7_code 4 = .ok (.aload_n 0, 1) := by decide +kernel
set_option maxRecDepth 100000 in
theorem c_Md_number_5 : ct_Md_number 5 = ka_get 10 14 := rfl
theorem d_Md_number_5 : decode prog_12_method_7_code 5 = .ok (.getfield 106, 3) := by decide +kernel
set_option maxRecDepth 100000 in
theorem c_Md_number_8 : ct_Md_number 8 = ka_iald := rfl
theorem d_Md_number_8 : decode prog_12_method_7_code 8 = .ok (.iaload, 1) := by decide +kernel
set_option maxRecDepth 100000 in
theorem c_Md_number_9 : ct_Md_number 9 = ka_ci (nI 127) 2 := rfl
theorem d_Md_number_9 : decode prog_12_method_7_code 9 = .ok (.bipush 127, 2) := by decide +kernel
set_option maxRecDepth 100000 in
theorem c_Md_number_11 : ct_Md_number 11 = ka_cm (fun x y => x ≤ y) 30 := rfl
theorem d_Md_number_11 : decode prog_12_method_7_code 11 = .ok (.if_icmp .le 19, 3) := by decide +kernel
set_option maxRecDepth 100000 in
theorem c_Md_number_14 : ct_Md_number 14 = ka_al 0 1 := rfl
theorem d_Md_number_14 : decode prog_12_method_7_code 14 = .ok (.aload_n 0, 1) := by decide +kernel
set_option maxRecDepth 100000 in
theorem c_Md_number_15 : ct_Md_number 15 = ka_get 10 2 := rfl
theorem d_Md_number_15 : decode prog_12_method_7_code 15 = .ok (.getfield 7, 3) := by decide +kernel
set_option maxRecDepth 100000 in
theorem c_Md_number_18 : ct_Md_number 18 = ka_al 0 1 := rfl
theorem d_Md_number_18 : decode prog_12_method_7_code 18 = .ok (.aload_n 0, 1) := by decide +kernel
set_option maxRecDepth 100000 in
theorem c_Md_number_19 : ct_Md_number 19 = ka_get 10 14 := rfl
theorem d_Md_number_19 : decode prog_12_method_7_code 19 = .ok (.getfield 106, 3) := by decide +kernel
set_option maxRecDepth 100000 in
theorem c_Md_number_22 : ct_Md_number 22 = ka_iald := rfl
theorem d_Md_number_22 : decode prog_12_method_7_code 22 = .ok (.iaload, 1) := by decide +kernel
set_option maxRecDepth 100000 in
theorem c_Md_number_23 : ct_Md_number 23 = ka_ci (nI 256) 3 := rfl
theorem d_Md_number_23 : decode prog_12_method_7_code 23 = .ok (.sipush 256, 3) := by decide +kernel
set_option maxRecDepth 100000 in
theorem c_Md_number_26 : ct_Md_number 26 = ka_ii (fun x y => x - y) := rfl
theorem d_Md_number_26 : decode prog_12_method_7_code 26 = .ok (.isub, 1) := by decide +kernel
set_option maxRecDepth 100000 in
theorem c_Md_number_27 : ct_Md_number 27 = ka_goto 39 := rfl
theorem d_Md_number_27 : decode prog_12_method_7_code 27 = .ok (.goto 12, 3) := by decide +kernel
set_option maxRecDepth 100000 in
theorem c_Md_number_30 : ct_Md_number 30 = ka_al 0 1 := rfl
theorem d_Md_number_30 : decode prog_12_method_7_code 30 = .ok (.aload_n 0, 1) := by decide +kernel
set_option maxRecDepth 100000 in
theorem c_Md_number_31 : ct_Md_number 31 = ka_get 10 2 := rfl
theorem d_Md_number_31 : decode prog_12_method_7_code 31 = .ok (.getfield 7, 3) := by decide +kernel
set_option maxRecDepth 100000 in
theorem c_Md_number_34 : ct_Md_number 34 = ka_al 0 1 := rfl
theorem d_Md_number_34 : decode prog_12_method_7_code 34 = .ok (.aload_n 0, 1) := by decide +kernel
set_option maxRecDepth 100000 in
theorem c_Md_number_35 : ct_Md_number 35 = ka_get 10 14 := rfl
theorem d_Md_number_35 : decode prog_12_method_7_code 35 = .ok (.getfield 106, 3) := by decide +kernel
set_option maxRecDepth 100000 in
theorem c_Md_number_38 : ct_Md_number 38 = ka_iald := rfl
theorem d_Md_number_38 : decode prog_12_method_7_code 38 = .ok (.iaload, 1) := by decide +kernel
set_option maxRecDepth 100000 in
theorem c_Md_number_39 : ct_Md_number 39 = ka_is 1 1 := rfl
theorem d_Md_number_39 : decode prog_12_method_7_code 39 = .ok (.istore_n 1, 1) := by decide +kernel
set_option maxRecDepth 100000 in
theorem c_Md_number_40 : ct_Md_number 40 = ka_al 0 1 := rfl
theorem d_Md_number_40 : decode prog_12_method_7_code 40 = .ok (.aload_n 0, 1) := by decide +kernel
set_option maxRecDepth 100000 in
theorem c_Md_number_41 : ct_Md_number 41 = ka_get 10 15 := rfl
theorem d_Md_number_41 : decode prog_12_method_7_code 41 = .ok (.getfield 109, 3) := by decide +kernel
set_option maxRecDepth 100000 in
theorem c_Md_number_44 : ct_Md_number 44 = ka_al 0 1 := rfl
theorem d_Md_number_44 : decode prog_12_method_7_code 44 = .ok (.aload_n 0, 1) := by decide +kernel
set_option maxRecDepth 100000 in
theorem c_Md_number_45 : ct_Md_number 45 = ka_get 10 14 := rfl
theorem d_Md_number_45 : decode prog_12_method_7_code 45 = .ok (.getfield 106, 3) := by decide +kernel
set_option maxRecDepth 100000 in
theorem c_Md_number_48 : ct_Md_number 48 = ka_ii (fun x y => x - y) := rfl
theorem d_Md_number_48 : decode prog_12_method_7_code 48 = .ok (.isub, 1) := by decide +kernel
set_option maxRecDepth 100000 in
theorem c_Md_number_49 : ct_Md_number 49 = ka_ci (nI 1) 1 := rfl
theorem d_Md_number_49 : decode prog_12_method_7_code 49 = .ok (.iconst 1, 1) := by decide +kernel
set_option maxRecDepth 100000 in
theorem c_Md_number_50 : ct_Md_number 50 = ka_cm (fun x y => ¬ x = y) 57 := rfl
theorem d_Md_number_50 : decode prog_12_method_7_code 50 = .ok (.if_icmp .ne 7, 3) := by decide +kernel
set_option maxRecDepth 100000 in
theorem c_Md_number_53 : ct_Md_number 53 = ka_il 1 1 := rfl
theorem d_Md_number_53 : decode prog_12_method_7_code 53 = .ok (.iload_n 1, 1) := by decide +kernel
set_option maxRecDepth 100000 in
theorem c_Md_number_54 : ct_Md_number 54 = ka_goto 74 := rfl
theorem d_Md_number_54 : decode prog_12_method_7_code 54 = .ok (.goto 20, 3) := by decide +kernel
set_option maxRecDepth 100000 in
theorem c_Md_number_57 : ct_Md_number 57 = ka_ci (nI 256) 3 := rfl
theorem d_Md_number_57 : decode prog_12_method_7_code 57 = .ok (.sipush 256, 3) := by decide +kernel
set_option maxRecDepth 100000 in
theorem c_Md_number_60 : ct_Md_number 60 = ka_il 1 1 := rfl
theorem d_Md_number_60 : decode prog_12_method_7_code 60 = .ok (.iload_n 1, 1) := by decide +kernel
set_option maxRecDepth 100000 in
theorem c_Md_number_61 : ct_Md_number 61 = ka_ii (fun x y => x * y) := rfl
theorem d_Md_number_61 : decode prog_12_method_7_code 61 = .ok (.imul, 1) := by decide +kernel
set_option maxRecDepth 100000 in
theorem c_Md_number_62 : ct_Md_number 62 = ka_al 0 1 := rfl
theorem d_Md_number_62 : decode prog_12_method_7_code 62 = .ok (.aload_n 0, 1) := by decide +kernel
set_option maxRecDepth 100000 in
theorem c_Md_number_63 : ct_Md_number 63 = ka_get 10 2 := rfl
theorem d_Md_number_63 : decode prog_12_method_7_code 63 = .ok (.getfield 7, 3) := by decide +kernel
set_option maxRecDepth 100000 in
theorem c_Md_number_66 : ct_Md_number 66 = ka_al 0 1 := rfl
theorem d_Md_number_66 : decode prog_12_method_7_code 66 = .ok (.aload_n 0, 1) := by decide +kernel
set_option maxRecDepth 100000 in
theorem c_Md_number_67 : ct_Md_number 67 = ka_get 10 14 := rfl
theorem d_Md_number_67 : decode prog_12_method_7_code 67 = .ok (.getfield 106, 3) := by decide +kernel
set_option maxRecDepth 100000 in
theorem c_Md_number_70 : ct_Md_number 70 = ka_ci (nI 1) 1 := rfl
theorem d_Md_number_70 : decode prog_12_method_7_code 70 = .ok (.iconst 1, 1) := by decide +kernel
set_option maxRecDepth 100000 in
theorem c_Md_number_71 : ct_Md_number 71 = ka_ii (fun x y => x + y) := rfl
theorem d_Md_number_71 : decode prog_12_method_7_code 71 = .ok (.iadd, 1) := by decide +kernel
set_option maxRecDepth 100000 in
theorem c_Md_number_72 : ct_Md_number 72 = ka_iald := rfl
theorem d_Md_number_72 : decode prog_12_method_7_code 72 = .ok (.iaload, 1) := by decide +kernel
set_option maxRecDepth 100000 in
theorem c_Md_number_73 : ct_Md_number 73 = ka_ii (fun x y => x + y) := rfl
theorem d_Md_number_73 : decode prog_12_method_7_code 73 = .ok (.iadd, 1) := by decide +kernel
set_option maxRecDepth 100000 in
theorem c_Md_number_74 : ct_Md_number 74 = ka_ri := rfl
theorem d_Md_number_74 : decode prog_12_method_7_code 74 = .ok (.ireturn, 1) := by decide +kernel
set_option maxRecDepth 100000 in
set_option maxHeartbeats 4000000 in
theorem s_Md_number_60 : ∀ pc, pc < 60 → kc_Sim kt kw_A kw_N kt_cl kt_En "DirectoryDeskModel" prog_12_method_7_code 2 (some .int) "number" none pc (ct_Md_number pc) := by
  let P : Nat → Prop := fun pc => kc_Sim kt kw_A kw_N kt_cl kt_En "DirectoryDeskModel" prog_12_method_7_code 2 (some .int) "number" none pc (ct_Md_number pc)
  exact kc_case (P := P) (kc_se rfl sm_no) (
  kc_case (P := P) (kc_se rfl sm_no) (
  kc_case (P := P) (kc_se c_Md_number_57 (sm_sipush d_Md_number_57 (by decide))) (
  kc_case (P := P) (kc_se rfl sm_no) (
  kc_case (P := P) (kc_se rfl sm_no) (
  kc_case (P := P) (kc_se c_Md_number_54 (sm_goto d_Md_number_54 (by decide))) (
  kc_case (P := P) (kc_se c_Md_number_53 (sm_iload_n d_Md_number_53 rfl)) (
  kc_case (P := P) (kc_se rfl sm_no) (
  kc_case (P := P) (kc_se rfl sm_no) (
  kc_case (P := P) (kc_se c_Md_number_50 (sm_cm_ne d_Md_number_50 (by decide))) (
  kc_case (P := P) (kc_se c_Md_number_49 (sm_iconst d_Md_number_49 (by decide))) (
  kc_case (P := P) (kc_se c_Md_number_48 (sm_isub d_Md_number_48)) (
  kc_case (P := P) (kc_se rfl sm_no) (
  kc_case (P := P) (kc_se rfl sm_no) (
  kc_case (P := P) (kc_se c_Md_number_45 (sm_get (ci := 10) (C := "DirectoryDeskModel") (F := kF_Md) rfl kin_Md (Nat.le_of_ble_eq_true rfl) d_Md_number_45 (kw3 197 rfl rfl))) (
  kc_case (P := P) (kc_se c_Md_number_44 (sm_aload_n d_Md_number_44 rfl)) (
  kc_case (P := P) (kc_se rfl sm_no) (
  kc_case (P := P) (kc_se rfl sm_no) (
  kc_case (P := P) (kc_se c_Md_number_41 (sm_get (ci := 10) (C := "DirectoryDeskModel") (F := kF_Md) rfl kin_Md (Nat.le_of_ble_eq_true rfl) d_Md_number_41 (kw3 198 rfl rfl))) (
  kc_case (P := P) (kc_se c_Md_number_40 (sm_aload_n d_Md_number_40 rfl)) (
  kc_case (P := P) (kc_se c_Md_number_39 (sm_istore_n d_Md_number_39 rfl (Nat.le_of_ble_eq_true rfl))) (
  kc_case (P := P) (kc_se c_Md_number_38 (sm_iald d_Md_number_38)) (
  kc_case (P := P) (kc_se rfl sm_no) (
  kc_case (P := P) (kc_se rfl sm_no) (
  kc_case (P := P) (kc_se c_Md_number_35 (sm_get (ci := 10) (C := "DirectoryDeskModel") (F := kF_Md) rfl kin_Md (Nat.le_of_ble_eq_true rfl) d_Md_number_35 (kw3 197 rfl rfl))) (
  kc_case (P := P) (kc_se c_Md_number_34 (sm_aload_n d_Md_number_34 rfl)) (
  kc_case (P := P) (kc_se rfl sm_no) (
  kc_case (P := P) (kc_se rfl sm_no) (
  kc_case (P := P) (kc_se c_Md_number_31 (sm_get (ci := 10) (C := "DirectoryDeskModel") (F := kF_Md) rfl kin_Md (Nat.le_of_ble_eq_true rfl) d_Md_number_31 (kw3 185 rfl rfl))) (
  kc_case (P := P) (kc_se c_Md_number_30 (sm_aload_n d_Md_number_30 rfl)) (
  kc_case (P := P) (kc_se rfl sm_no) (
  kc_case (P := P) (kc_se rfl sm_no) (
  kc_case (P := P) (kc_se c_Md_number_27 (sm_goto d_Md_number_27 (by decide))) (
  kc_case (P := P) (kc_se c_Md_number_26 (sm_isub d_Md_number_26)) (
  kc_case (P := P) (kc_se rfl sm_no) (
  kc_case (P := P) (kc_se rfl sm_no) (
  kc_case (P := P) (kc_se c_Md_number_23 (sm_sipush d_Md_number_23 (by decide))) (
  kc_case (P := P) (kc_se c_Md_number_22 (sm_iald d_Md_number_22)) (
  kc_case (P := P) (kc_se rfl sm_no) (
  kc_case (P := P) (kc_se rfl sm_no) (
  kc_case (P := P) (kc_se c_Md_number_19 (sm_get (ci := 10) (C := "DirectoryDeskModel") (F := kF_Md) rfl kin_Md (Nat.le_of_ble_eq_true rfl) d_Md_number_19 (kw3 197 rfl rfl))) (
  kc_case (P := P) (kc_se c_Md_number_18 (sm_aload_n d_Md_number_18 rfl)) (
  kc_case (P := P) (kc_se rfl sm_no) (
  kc_case (P := P) (kc_se rfl sm_no) (
  kc_case (P := P) (kc_se c_Md_number_15 (sm_get (ci := 10) (C := "DirectoryDeskModel") (F := kF_Md) rfl kin_Md (Nat.le_of_ble_eq_true rfl) d_Md_number_15 (kw3 185 rfl rfl))) (
  kc_case (P := P) (kc_se c_Md_number_14 (sm_aload_n d_Md_number_14 rfl)) (
  kc_case (P := P) (kc_se rfl sm_no) (
  kc_case (P := P) (kc_se rfl sm_no) (
  kc_case (P := P) (kc_se c_Md_number_11 (sm_cm_le d_Md_number_11 (by decide))) (
  kc_case (P := P) (kc_se rfl sm_no) (
  kc_case (P := P) (kc_se c_Md_number_9 (sm_bipush d_Md_number_9 (by decide))) (
  kc_case (P := P) (kc_se c_Md_number_8 (sm_iald d_Md_number_8)) (
  kc_case (P := P) (kc_se rfl sm_no) (
  kc_case (P := P) (kc_se rfl sm_no) (
  kc_case (P := P) (kc_se c_Md_number_5 (sm_get (ci := 10) (C := "DirectoryDeskModel") (F := kF_Md) rfl kin_Md (Nat.le_of_ble_eq_true rfl) d_Md_number_5 (kw3 197 rfl rfl))) (
  kc_case (P := P) (kc_se c_Md_number_4 (sm_aload_n d_Md_number_4 rfl)) (
  kc_case (P := P) (kc_se rfl sm_no) (
  kc_case (P := P) (kc_se rfl sm_no) (
  kc_case (P := P) (kc_se c_Md_number_1 (sm_get (ci := 10) (C := "DirectoryDeskModel") (F := kF_Md) rfl kin_Md (Nat.le_of_ble_eq_true rfl) d_Md_number_1 (kw3 185 rfl rfl))) (
  kc_case (P := P) (kc_se c_Md_number_0 (sm_aload_n d_Md_number_0 rfl)) (
  kc_case0))))))))))))))))))))))))))))))))))))))))))))))))))))))))))))
set_option maxRecDepth 100000 in
set_option maxHeartbeats 4000000 in
theorem s_Md_number_75 : ∀ pc, pc < 75 → kc_Sim kt kw_A kw_N kt_cl kt_En "DirectoryDeskModel" prog_12_method_7_code 2 (some .int) "number" none pc (ct_Md_number pc) := by
  let P : Nat → Prop := fun pc => kc_Sim kt kw_A kw_N kt_cl kt_En "DirectoryDeskModel" prog_12_method_7_code 2 (some .int) "number" none pc (ct_Md_number pc)
  exact kc_case (P := P) (kc_se c_Md_number_74 (sm_ri d_Md_number_74 rfl)) (
  kc_case (P := P) (kc_se c_Md_number_73 (sm_iadd d_Md_number_73)) (
  kc_case (P := P) (kc_se c_Md_number_72 (sm_iald d_Md_number_72)) (
  kc_case (P := P) (kc_se c_Md_number_71 (sm_iadd d_Md_number_71)) (
  kc_case (P := P) (kc_se c_Md_number_70 (sm_iconst d_Md_number_70 (by decide))) (
  kc_case (P := P) (kc_se rfl sm_no) (
  kc_case (P := P) (kc_se rfl sm_no) (
  kc_case (P := P) (kc_se c_Md_number_67 (sm_get (ci := 10) (C := "DirectoryDeskModel") (F := kF_Md) rfl kin_Md (Nat.le_of_ble_eq_true rfl) d_Md_number_67 (kw3 197 rfl rfl))) (
  kc_case (P := P) (kc_se c_Md_number_66 (sm_aload_n d_Md_number_66 rfl)) (
  kc_case (P := P) (kc_se rfl sm_no) (
  kc_case (P := P) (kc_se rfl sm_no) (
  kc_case (P := P) (kc_se c_Md_number_63 (sm_get (ci := 10) (C := "DirectoryDeskModel") (F := kF_Md) rfl kin_Md (Nat.le_of_ble_eq_true rfl) d_Md_number_63 (kw3 185 rfl rfl))) (
  kc_case (P := P) (kc_se c_Md_number_62 (sm_aload_n d_Md_number_62 rfl)) (
  kc_case (P := P) (kc_se c_Md_number_61 (sm_imul d_Md_number_61)) (
  kc_case (P := P) (kc_se c_Md_number_60 (sm_iload_n d_Md_number_60 rfl)) (
  s_Md_number_60)))))))))))))))
set_option maxRecDepth 100000 in
theorem ka_nth_no_Md_number (pc : Nat) (h : 75 ≤ pc) : ct_Md_number pc = ka_no := ka_nth_ge _ pc (Nat.le_trans (Nat.le_of_eq (by rfl)) h)
theorem s_Md_number (pc : Nat) : kc_Sim kt kw_A kw_N kt_cl kt_En "DirectoryDeskModel" prog_12_method_7_code 2 (some .int) "number" none pc (ct_Md_number pc) := (Nat.lt_or_ge pc 75).elim (s_Md_number_75 pc) (fun h => kc_se (ka_nth_no_Md_number pc h) sm_no)
def cl_Md_chosen_0 : List kc_A := [ka_al 0 1, ka_il 1 1, ka_il 2 1, ka_ci (nI 10) 2, ka_no, ka_cv 100 3 10 0 0, ka_no, ka_no, ka_if (fun x => x = 0) 41, ka_no, ka_no, ka_al 0 1, ka_get 10 15, ka_no, ka_no, ka_al 0 1, ka_get 10 14, ka_no, ka_no, ka_ii (fun x y => x - y), ka_ci (nI 1) 1, ka_cm (fun x y => ¬ x = y) 41, ka_no, ka_no, ka_al 0 1, ka_get 10 2, ka_no, ka_no, ka_al 0 1, ka_get 10 14, ka_no, ka_no, ka_iald, ka_il 3 1, ka_cm (fun x y => y < x) 41, ka_no, ka_no, ka_ci (nI 1) 1, ka_goto 42, ka_no, ka_no, ka_ci (nI 0) 1, ka_rz]
def ct_Md_chosen : Nat → kc_A := fun pc => ka_nth (cl_Md_chosen_0) pc
set_option maxRecDepth 100000 in
theorem c_Md_chosen_0 : ct_Md_chosen 0 = ka_al 0 1 := rfl
theorem d_Md_chosen_0 : decode prog_12_method_8_code 0 = .ok (.aload_n 0, 1) := by decide +kernel
set_option maxRecDepth 100000 in
theorem c_Md_chosen_1 : ct_Md_chosen 1 = ka_il 1 1 := rfl
theorem d_Md_chosen_1 : decode prog_12_method_8_code 1 = .ok (.iload_n 1, 1) := by decide +kernel
set_option maxRecDepth 100000 in
theorem c_Md_chosen_2 : ct_Md_chosen 2 = ka_il 2 1 := rfl
theorem d_Md_chosen_2 : decode prog_12_method_8_code 2 = .ok (.iload_n 2, 1) := by decide +kernel
set_option maxRecDepth 100000 in
theorem c_Md_chosen_3 : ct_Md_chosen 3 = ka_ci (nI 10) 2 := rfl
theorem d_Md_chosen_3 : decode prog_12_method_8_code 3 = .ok (.bipush 10, 2) := by decide +kernel
set_option maxRecDepth 100000 in
theorem c_Md_chosen_5 : ct_Md_chosen 5 = ka_cv 100 3 10 0 0 := rfl
theorem d_Md_chosen_5 : decode prog_12_method_8_code 5 = .ok (.invokevirtual 116, 3) := by decide +kernel
set_option maxRecDepth 100000 in
theorem c_Md_chosen_8 : ct_Md_chosen 8 = ka_if (fun x => x = 0) 41 := rfl
theorem d_Md_chosen_8 : decode prog_12_method_8_code 8 = .ok (.ifCond .eq 33, 3) := by decide +kernel
set_option maxRecDepth 100000 in
theorem c_Md_chosen_11 : ct_Md_chosen 11 = ka_al 0 1 := rfl
theorem d_Md_chosen_11 : decode prog_12_method_8_code 11 = .ok (.aload_n 0, 1) := by decide +kernel
set_option maxRecDepth 100000 in
theorem c_Md_chosen_12 : ct_Md_chosen 12 = ka_get 10 15 := rfl
theorem d_Md_chosen_12 : decode prog_12_method_8_code 12 = .ok (.getfield 109, 3) := by decide +kernel
set_option maxRecDepth 100000 in
theorem c_Md_chosen_15 : ct_Md_chosen 15 = ka_al 0 1 := rfl
theorem d_Md_chosen_15 : decode prog_12_method_8_code 15 = .ok (.aload_n 0, 1) := by decide +kernel
set_option maxRecDepth 100000 in
theorem c_Md_chosen_16 : ct_Md_chosen 16 = ka_get 10 14 := rfl
theorem d_Md_chosen_16 : decode prog_12_method_8_code 16 = .ok (.getfield 106, 3) := by decide +kernel
set_option maxRecDepth 100000 in
theorem c_Md_chosen_19 : ct_Md_chosen 19 = ka_ii (fun x y => x - y) := rfl
theorem d_Md_chosen_19 : decode prog_12_method_8_code 19 = .ok (.isub, 1) := by decide +kernel
set_option maxRecDepth 100000 in
theorem c_Md_chosen_20 : ct_Md_chosen 20 = ka_ci (nI 1) 1 := rfl
theorem d_Md_chosen_20 : decode prog_12_method_8_code 20 = .ok (.iconst 1, 1) := by decide +kernel
set_option maxRecDepth 100000 in
theorem c_Md_chosen_21 : ct_Md_chosen 21 = ka_cm (fun x y => ¬ x = y) 41 := rfl
theorem d_Md_chosen_21 : decode prog_12_method_8_code 21 = .ok (.if_icmp .ne 20, 3) := by decide +kernel
set_option maxRecDepth 100000 in
theorem c_Md_chosen_24 : ct_Md_chosen 24 = ka_al 0 1 := rfl
theorem d_Md_chosen_24 : decode prog_12_method_8_code 24 = .ok (.aload_n 0, 1) := by decide +kernel
set_option maxRecDepth 100000 in
theorem c_Md_chosen_25 : ct_Md_chosen 25 = ka_get 10 2 := rfl
theorem d_Md_chosen_25 : decode prog_12_method_8_code 25 = .ok (.getfield 7, 3) := by decide +kernel
set_option maxRecDepth 100000 in
theorem c_Md_chosen_28 : ct_Md_chosen 28 = ka_al 0 1 := rfl
theorem d_Md_chosen_28 : decode prog_12_method_8_code 28 = .ok (.aload_n 0, 1) := by decide +kernel
set_option maxRecDepth 100000 in
theorem c_Md_chosen_29 : ct_Md_chosen 29 = ka_get 10 14 := rfl
theorem d_Md_chosen_29 : decode prog_12_method_8_code 29 = .ok (.getfield 106, 3) := by decide +kernel
set_option maxRecDepth 100000 in
theorem c_Md_chosen_32 : ct_Md_chosen 32 = ka_iald := rfl
theorem d_Md_chosen_32 : decode prog_12_method_8_code 32 = .ok (.iaload, 1) := by decide +kernel
set_option maxRecDepth 100000 in
theorem c_Md_chosen_33 : ct_Md_chosen 33 = ka_il 3 1 := rfl
theorem d_Md_chosen_33 : decode prog_12_method_8_code 33 = .ok (.iload_n 3, 1) := by decide +kernel
set_option maxRecDepth 100000 in
theorem c_Md_chosen_34 : ct_Md_chosen 34 = ka_cm (fun x y => y < x) 41 := rfl
theorem d_Md_chosen_34 : decode prog_12_method_8_code 34 = .ok (.if_icmp .gt 7, 3) := by decide +kernel
set_option maxRecDepth 100000 in
theorem c_Md_chosen_37 : ct_Md_chosen 37 = ka_ci (nI 1) 1 := rfl
theorem d_Md_chosen_37 : decode prog_12_method_8_code 37 = .ok (.iconst 1, 1) := by decide +kernel
set_option maxRecDepth 100000 in
theorem c_Md_chosen_38 : ct_Md_chosen 38 = ka_goto 42 := rfl
theorem d_Md_chosen_38 : decode prog_12_method_8_code 38 = .ok (.goto 4, 3) := by decide +kernel
set_option maxRecDepth 100000 in
theorem c_Md_chosen_41 : ct_Md_chosen 41 = ka_ci (nI 0) 1 := rfl
theorem d_Md_chosen_41 : decode prog_12_method_8_code 41 = .ok (.iconst 0, 1) := by decide +kernel
set_option maxRecDepth 100000 in
theorem c_Md_chosen_42 : ct_Md_chosen 42 = ka_rz := rfl
theorem d_Md_chosen_42 : decode prog_12_method_8_code 42 = .ok (.ireturn, 1) := by decide +kernel
set_option maxRecDepth 100000 in
set_option maxHeartbeats 4000000 in
theorem s_Md_chosen_43 : ∀ pc, pc < 43 → kc_Sim kt kw_A kw_N kt_cl kt_En "DirectoryDeskModel" prog_12_method_8_code 4 (some .boolean) "chosen" none pc (ct_Md_chosen pc) := by
  let P : Nat → Prop := fun pc => kc_Sim kt kw_A kw_N kt_cl kt_En "DirectoryDeskModel" prog_12_method_8_code 4 (some .boolean) "chosen" none pc (ct_Md_chosen pc)
  exact kc_case (P := P) (kc_se c_Md_chosen_42 (sm_rz d_Md_chosen_42 rfl)) (
  kc_case (P := P) (kc_se c_Md_chosen_41 (sm_iconst d_Md_chosen_41 (by decide))) (
  kc_case (P := P) (kc_se rfl sm_no) (
  kc_case (P := P) (kc_se rfl sm_no) (
  kc_case (P := P) (kc_se c_Md_chosen_38 (sm_goto d_Md_chosen_38 (by decide))) (
  kc_case (P := P) (kc_se c_Md_chosen_37 (sm_iconst d_Md_chosen_37 (by decide))) (
  kc_case (P := P) (kc_se rfl sm_no) (
  kc_case (P := P) (kc_se rfl sm_no) (
  kc_case (P := P) (kc_se c_Md_chosen_34 (sm_cm_gt d_Md_chosen_34 (by decide))) (
  kc_case (P := P) (kc_se c_Md_chosen_33 (sm_iload_n d_Md_chosen_33 rfl)) (
  kc_case (P := P) (kc_se c_Md_chosen_32 (sm_iald d_Md_chosen_32)) (
  kc_case (P := P) (kc_se rfl sm_no) (
  kc_case (P := P) (kc_se rfl sm_no) (
  kc_case (P := P) (kc_se c_Md_chosen_29 (sm_get (ci := 10) (C := "DirectoryDeskModel") (F := kF_Md) rfl kin_Md (Nat.le_of_ble_eq_true rfl) d_Md_chosen_29 (kw3 197 rfl rfl))) (
  kc_case (P := P) (kc_se c_Md_chosen_28 (sm_aload_n d_Md_chosen_28 rfl)) (
  kc_case (P := P) (kc_se rfl sm_no) (
  kc_case (P := P) (kc_se rfl sm_no) (
  kc_case (P := P) (kc_se c_Md_chosen_25 (sm_get (ci := 10) (C := "DirectoryDeskModel") (F := kF_Md) rfl kin_Md (Nat.le_of_ble_eq_true rfl) d_Md_chosen_25 (kw3 185 rfl rfl))) (
  kc_case (P := P) (kc_se c_Md_chosen_24 (sm_aload_n d_Md_chosen_24 rfl)) (
  kc_case (P := P) (kc_se rfl sm_no) (
  kc_case (P := P) (kc_se rfl sm_no) (
  kc_case (P := P) (kc_se c_Md_chosen_21 (sm_cm_ne d_Md_chosen_21 (by decide))) (
  kc_case (P := P) (kc_se c_Md_chosen_20 (sm_iconst d_Md_chosen_20 (by decide))) (
  kc_case (P := P) (kc_se c_Md_chosen_19 (sm_isub d_Md_chosen_19)) (
  kc_case (P := P) (kc_se rfl sm_no) (
  kc_case (P := P) (kc_se rfl sm_no) (
  kc_case (P := P) (kc_se c_Md_chosen_16 (sm_get (ci := 10) (C := "DirectoryDeskModel") (F := kF_Md) rfl kin_Md (Nat.le_of_ble_eq_true rfl) d_Md_chosen_16 (kw3 197 rfl rfl))) (
  kc_case (P := P) (kc_se c_Md_chosen_15 (sm_aload_n d_Md_chosen_15 rfl)) (
  kc_case (P := P) (kc_se rfl sm_no) (
  kc_case (P := P) (kc_se rfl sm_no) (
  kc_case (P := P) (kc_se c_Md_chosen_12 (sm_get (ci := 10) (C := "DirectoryDeskModel") (F := kF_Md) rfl kin_Md (Nat.le_of_ble_eq_true rfl) d_Md_chosen_12 (kw3 198 rfl rfl))) (
  kc_case (P := P) (kc_se c_Md_chosen_11 (sm_aload_n d_Md_chosen_11 rfl)) (
  kc_case (P := P) (kc_se rfl sm_no) (
  kc_case (P := P) (kc_se rfl sm_no) (
  kc_case (P := P) (kc_se c_Md_chosen_8 (sm_if_eq d_Md_chosen_8 (by decide))) (
  kc_case (P := P) (kc_se rfl sm_no) (
  kc_case (P := P) (kc_se rfl sm_no) (
  kc_case (P := P) (kc_se c_Md_chosen_5 (sm_cv (j := 100) rfl rfl kw_o kw_g wc_Md_tagged (Nat.le_of_ble_eq_true rfl) hd_Md_tagged (ci := 10) (F := kF_Md) (N := 52) rfl (kw4 117 rfl rfl) wi_Md_tagged ws_Md_tagged wn_Md_tagged d_Md_chosen_5)) (
  kc_case (P := P) (kc_se rfl sm_no) (
  kc_case (P := P) (kc_se c_Md_chosen_3 (sm_bipush d_Md_chosen_3 (by decide))) (
  kc_case (P := P) (kc_se c_Md_chosen_2 (sm_iload_n d_Md_chosen_2 rfl)) (
  kc_case (P := P) (kc_se c_Md_chosen_1 (sm_iload_n d_Md_chosen_1 rfl)) (
  kc_case (P := P) (kc_se c_Md_chosen_0 (sm_aload_n d_Md_chosen_0 rfl)) (
  kc_case0)))))))))))))))))))))))))))))))))))))))))))
set_option maxRecDepth 100000 in
theorem ka_nth_no_Md_chosen (pc : Nat) (h : 43 ≤ pc) : ct_Md_chosen pc = ka_no := ka_nth_ge _ pc (Nat.le_trans (Nat.le_of_eq (by rfl)) h)
theorem s_Md_chosen (pc : Nat) : kc_Sim kt kw_A kw_N kt_cl kt_En "DirectoryDeskModel" prog_12_method_8_code 4 (some .boolean) "chosen" none pc (ct_Md_chosen pc) := (Nat.lt_or_ge pc 43).elim (s_Md_chosen_43 pc) (fun h => kc_se (ka_nth_no_Md_chosen pc h) sm_no)
def cl_Md_isLetter_0 : List kc_A := [ka_il 0 1, ka_ci (nI 97) 2, ka_no, ka_cm (fun x y => x < y) 12, ka_no, ka_no, ka_il 0 1, ka_ci (nI 122) 2, ka_no, ka_cm (fun x y => x ≤ y) 24, ka_no, ka_no, ka_il 0 1, ka_ci (nI 48) 2, ka_no, ka_cm (fun x y => x < y) 28, ka_no, ka_no, ka_il 0 1, ka_ci (nI 57) 2, ka_no, ka_cm (fun x y => y < x) 28, ka_no, ka_no, ka_ci (nI 1) 1, ka_goto 29, ka_no, ka_no, ka_ci (nI 0) 1, ka_rz]
def ct_Md_isLetter : Nat → kc_A := fun pc => ka_nth (cl_Md_isLetter_0) pc
set_option maxRecDepth 100000 in
theorem c_Md_isLetter_0 : ct_Md_isLetter 0 = ka_il 0 1 := rfl
theorem d_Md_isLetter_0 : decode prog_12_method_9_code 0 = .ok (.iload_n 0, 1) := by decide +kernel
set_option maxRecDepth 100000 in
theorem c_Md_isLetter_1 : ct_Md_isLetter 1 = ka_ci (nI 97) 2 := rfl
theorem d_Md_isLetter_1 : decode prog_12_method_9_code 1 = .ok (.bipush 97, 2) := by decide +kernel
set_option maxRecDepth 100000 in
theorem c_Md_isLetter_3 : ct_Md_isLetter 3 = ka_cm (fun x y => x < y) 12 := rfl
theorem d_Md_isLetter_3 : decode prog_12_method_9_code 3 = .ok (.if_icmp .lt 9, 3) := by decide +kernel
set_option maxRecDepth 100000 in
theorem c_Md_isLetter_6 : ct_Md_isLetter 6 = ka_il 0 1 := rfl
theorem d_Md_isLetter_6 : decode prog_12_method_9_code 6 = .ok (.iload_n 0, 1) := by decide +kernel
set_option maxRecDepth 100000 in
theorem c_Md_isLetter_7 : ct_Md_isLetter 7 = ka_ci (nI 122) 2 := rfl
theorem d_Md_isLetter_7 : decode prog_12_method_9_code 7 = .ok (.bipush 122, 2) := by decide +kernel
set_option maxRecDepth 100000 in
theorem c_Md_isLetter_9 : ct_Md_isLetter 9 = ka_cm (fun x y => x ≤ y) 24 := rfl
theorem d_Md_isLetter_9 : decode prog_12_method_9_code 9 = .ok (.if_icmp .le 15, 3) := by decide +kernel
set_option maxRecDepth 100000 in
theorem c_Md_isLetter_12 : ct_Md_isLetter 12 = ka_il 0 1 := rfl
theorem d_Md_isLetter_12 : decode prog_12_method_9_code 12 = .ok (.iload_n 0, 1) := by decide +kernel
set_option maxRecDepth 100000 in
theorem c_Md_isLetter_13 : ct_Md_isLetter 13 = ka_ci (nI 48) 2 := rfl
theorem d_Md_isLetter_13 : decode prog_12_method_9_code 13 = .ok (.bipush 48, 2) := by decide +kernel
set_option maxRecDepth 100000 in
theorem c_Md_isLetter_15 : ct_Md_isLetter 15 = ka_cm (fun x y => x < y) 28 := rfl
theorem d_Md_isLetter_15 : decode prog_12_method_9_code 15 = .ok (.if_icmp .lt 13, 3) := by decide +kernel
set_option maxRecDepth 100000 in
theorem c_Md_isLetter_18 : ct_Md_isLetter 18 = ka_il 0 1 := rfl
theorem d_Md_isLetter_18 : decode prog_12_method_9_code 18 = .ok (.iload_n 0, 1) := by decide +kernel
set_option maxRecDepth 100000 in
theorem c_Md_isLetter_19 : ct_Md_isLetter 19 = ka_ci (nI 57) 2 := rfl
theorem d_Md_isLetter_19 : decode prog_12_method_9_code 19 = .ok (.bipush 57, 2) := by decide +kernel
set_option maxRecDepth 100000 in
theorem c_Md_isLetter_21 : ct_Md_isLetter 21 = ka_cm (fun x y => y < x) 28 := rfl
theorem d_Md_isLetter_21 : decode prog_12_method_9_code 21 = .ok (.if_icmp .gt 7, 3) := by decide +kernel
set_option maxRecDepth 100000 in
theorem c_Md_isLetter_24 : ct_Md_isLetter 24 = ka_ci (nI 1) 1 := rfl
theorem d_Md_isLetter_24 : decode prog_12_method_9_code 24 = .ok (.iconst 1, 1) := by decide +kernel
set_option maxRecDepth 100000 in
theorem c_Md_isLetter_25 : ct_Md_isLetter 25 = ka_goto 29 := rfl
theorem d_Md_isLetter_25 : decode prog_12_method_9_code 25 = .ok (.goto 4, 3) := by decide +kernel
set_option maxRecDepth 100000 in
theorem c_Md_isLetter_28 : ct_Md_isLetter 28 = ka_ci (nI 0) 1 := rfl
theorem d_Md_isLetter_28 : decode prog_12_method_9_code 28 = .ok (.iconst 0, 1) := by decide +kernel
set_option maxRecDepth 100000 in
theorem c_Md_isLetter_29 : ct_Md_isLetter 29 = ka_rz := rfl
theorem d_Md_isLetter_29 : decode prog_12_method_9_code 29 = .ok (.ireturn, 1) := by decide +kernel
set_option maxRecDepth 100000 in
set_option maxHeartbeats 4000000 in
theorem s_Md_isLetter_30 : ∀ pc, pc < 30 → kc_Sim kt kw_A kw_N kt_cl kt_En "DirectoryDeskModel" prog_12_method_9_code 1 (some .boolean) "isLetter" none pc (ct_Md_isLetter pc) := by
  let P : Nat → Prop := fun pc => kc_Sim kt kw_A kw_N kt_cl kt_En "DirectoryDeskModel" prog_12_method_9_code 1 (some .boolean) "isLetter" none pc (ct_Md_isLetter pc)
  exact kc_case (P := P) (kc_se c_Md_isLetter_29 (sm_rz d_Md_isLetter_29 rfl)) (
  kc_case (P := P) (kc_se c_Md_isLetter_28 (sm_iconst d_Md_isLetter_28 (by decide))) (
  kc_case (P := P) (kc_se rfl sm_no) (
  kc_case (P := P) (kc_se rfl sm_no) (
  kc_case (P := P) (kc_se c_Md_isLetter_25 (sm_goto d_Md_isLetter_25 (by decide))) (
  kc_case (P := P) (kc_se c_Md_isLetter_24 (sm_iconst d_Md_isLetter_24 (by decide))) (
  kc_case (P := P) (kc_se rfl sm_no) (
  kc_case (P := P) (kc_se rfl sm_no) (
  kc_case (P := P) (kc_se c_Md_isLetter_21 (sm_cm_gt d_Md_isLetter_21 (by decide))) (
  kc_case (P := P) (kc_se rfl sm_no) (
  kc_case (P := P) (kc_se c_Md_isLetter_19 (sm_bipush d_Md_isLetter_19 (by decide))) (
  kc_case (P := P) (kc_se c_Md_isLetter_18 (sm_iload_n d_Md_isLetter_18 rfl)) (
  kc_case (P := P) (kc_se rfl sm_no) (
  kc_case (P := P) (kc_se rfl sm_no) (
  kc_case (P := P) (kc_se c_Md_isLetter_15 (sm_cm_lt d_Md_isLetter_15 (by decide))) (
  kc_case (P := P) (kc_se rfl sm_no) (
  kc_case (P := P) (kc_se c_Md_isLetter_13 (sm_bipush d_Md_isLetter_13 (by decide))) (
  kc_case (P := P) (kc_se c_Md_isLetter_12 (sm_iload_n d_Md_isLetter_12 rfl)) (
  kc_case (P := P) (kc_se rfl sm_no) (
  kc_case (P := P) (kc_se rfl sm_no) (
  kc_case (P := P) (kc_se c_Md_isLetter_9 (sm_cm_le d_Md_isLetter_9 (by decide))) (
  kc_case (P := P) (kc_se rfl sm_no) (
  kc_case (P := P) (kc_se c_Md_isLetter_7 (sm_bipush d_Md_isLetter_7 (by decide))) (
  kc_case (P := P) (kc_se c_Md_isLetter_6 (sm_iload_n d_Md_isLetter_6 rfl)) (
  kc_case (P := P) (kc_se rfl sm_no) (
  kc_case (P := P) (kc_se rfl sm_no) (
  kc_case (P := P) (kc_se c_Md_isLetter_3 (sm_cm_lt d_Md_isLetter_3 (by decide))) (
  kc_case (P := P) (kc_se rfl sm_no) (
  kc_case (P := P) (kc_se c_Md_isLetter_1 (sm_bipush d_Md_isLetter_1 (by decide))) (
  kc_case (P := P) (kc_se c_Md_isLetter_0 (sm_iload_n d_Md_isLetter_0 rfl)) (
  kc_case0))))))))))))))))))))))))))))))
set_option maxRecDepth 100000 in
theorem ka_nth_no_Md_isLetter (pc : Nat) (h : 30 ≤ pc) : ct_Md_isLetter pc = ka_no := ka_nth_ge _ pc (Nat.le_trans (Nat.le_of_eq (by rfl)) h)
theorem s_Md_isLetter (pc : Nat) : kc_Sim kt kw_A kw_N kt_cl kt_En "DirectoryDeskModel" prog_12_method_9_code 1 (some .boolean) "isLetter" none pc (ct_Md_isLetter pc) := (Nat.lt_or_ge pc 30).elim (s_Md_isLetter_30 pc) (fun h => kc_se (ka_nth_no_Md_isLetter pc h) sm_no)
def cl_Md_typeIn_0 : List kc_A := [ka_il 2 1, ka_il 1 1, ka_ii (fun x y => x - y), ka_ci (nI 1) 1, ka_cm (fun x y => ¬ x = y) 38, ka_no, ka_no, ka_al 0 1, ka_get 10 2, ka_no, ka_no, ka_il 1 1, ka_iald, ka_ci (nI 97) 2, ka_no, ka_cm (fun x y => x < y) 38, ka_no, ka_no, ka_al 0 1, ka_get 10 2, ka_no, ka_no, ka_il 1 1, ka_iald, ka_ci (nI 102) 2, ka_no, ka_cm (fun x y => y < x) 38, ka_no, ka_no, ka_al 0 1, ka_get 10 2, ka_no, ka_no, ka_il 1 1, ka_iald, ka_goto 39, ka_no, ka_no, ka_ci (-1) 1, ka_ri]
def ct_Md_typeIn : Nat → kc_A := fun pc => ka_nth (cl_Md_typeIn_0) pc
set_option maxRecDepth 100000 in
theorem c_Md_typeIn_0 : ct_Md_typeIn 0 = ka_il 2 1 := rfl
theorem d_Md_typeIn_0 : decode prog_12_method_10_code 0 = .ok (.iload_n 2, 1) := by decide +kernel
set_option maxRecDepth 100000 in
theorem c_Md_typeIn_1 : ct_Md_typeIn 1 = ka_il 1 1 := rfl
theorem d_Md_typeIn_1 : decode prog_12_method_10_code 1 = .ok (.iload_n 1, 1) := by decide +kernel
set_option maxRecDepth 100000 in
theorem c_Md_typeIn_2 : ct_Md_typeIn 2 = ka_ii (fun x y => x - y) := rfl
theorem d_Md_typeIn_2 : decode prog_12_method_10_code 2 = .ok (.isub, 1) := by decide +kernel
set_option maxRecDepth 100000 in
theorem c_Md_typeIn_3 : ct_Md_typeIn 3 = ka_ci (nI 1) 1 := rfl
theorem d_Md_typeIn_3 : decode prog_12_method_10_code 3 = .ok (.iconst 1, 1) := by decide +kernel
set_option maxRecDepth 100000 in
theorem c_Md_typeIn_4 : ct_Md_typeIn 4 = ka_cm (fun x y => ¬ x = y) 38 := rfl
theorem d_Md_typeIn_4 : decode prog_12_method_10_code 4 = .ok (.if_icmp .ne 34, 3) := by decide +kernel
set_option maxRecDepth 100000 in
theorem c_Md_typeIn_7 : ct_Md_typeIn 7 = ka_al 0 1 := rfl
theorem d_Md_typeIn_7 : decode prog_12_method_10_code 7 = .ok (.aload_n 0, 1) := by decide +kernel
set_option maxRecDepth 100000 in
theorem c_Md_typeIn_8 : ct_Md_typeIn 8 = ka_get 10 2 := rfl
theorem d_Md_typeIn_8 : decode prog_12_method_10_code 8 = .ok (.getfield 7, 3) := by decide +kernel
set_option maxRecDepth 100000 in
theorem c_Md_typeIn_11 : ct_Md_typeIn 11 = ka_il 1 1 := rfl
theorem d_Md_typeIn_11 : decode prog_12_method_10_code 11 = .ok (.iload_n 1, 1) := by decide +kernel
set_option maxRecDepth 100000 in
theorem c_Md_typeIn_12 : ct_Md_typeIn 12 = ka_iald := rfl
theorem d_Md_typeIn_12 : decode prog_12_method_10_code 12 = .ok (.iaload, 1) := by decide +kernel
set_option maxRecDepth 100000 in
theorem c_Md_typeIn_13 : ct_Md_typeIn 13 = ka_ci (nI 97) 2 := rfl
theorem d_Md_typeIn_13 : decode prog_12_method_10_code 13 = .ok (.bipush 97, 2) := by decide +kernel
set_option maxRecDepth 100000 in
theorem c_Md_typeIn_15 : ct_Md_typeIn 15 = ka_cm (fun x y => x < y) 38 := rfl
theorem d_Md_typeIn_15 : decode prog_12_method_10_code 15 = .ok (.if_icmp .lt 23, 3) := by decide +kernel
set_option maxRecDepth 100000 in
theorem c_Md_typeIn_18 : ct_Md_typeIn 18 = ka_al 0 1 := rfl
theorem d_Md_typeIn_18 : decode prog_12_method_10_code 18 = .ok (.aload_n 0, 1) := by decide +kernel
set_option maxRecDepth 100000 in
theorem c_Md_typeIn_19 : ct_Md_typeIn 19 = ka_get 10 2 := rfl
theorem d_Md_typeIn_19 : decode prog_12_method_10_code 19 = .ok (.getfield 7, 3) := by decide +kernel
set_option maxRecDepth 100000 in
theorem c_Md_typeIn_22 : ct_Md_typeIn 22 = ka_il 1 1 := rfl
theorem d_Md_typeIn_22 : decode prog_12_method_10_code 22 = .ok (.iload_n 1, 1) := by decide +kernel
set_option maxRecDepth 100000 in
theorem c_Md_typeIn_23 : ct_Md_typeIn 23 = ka_iald := rfl
theorem d_Md_typeIn_23 : decode prog_12_method_10_code 23 = .ok (.iaload, 1) := by decide +kernel
set_option maxRecDepth 100000 in
theorem c_Md_typeIn_24 : ct_Md_typeIn 24 = ka_ci (nI 102) 2 := rfl
theorem d_Md_typeIn_24 : decode prog_12_method_10_code 24 = .ok (.bipush 102, 2) := by decide +kernel
set_option maxRecDepth 100000 in
theorem c_Md_typeIn_26 : ct_Md_typeIn 26 = ka_cm (fun x y => y < x) 38 := rfl
theorem d_Md_typeIn_26 : decode prog_12_method_10_code 26 = .ok (.if_icmp .gt 12, 3) := by decide +kernel
set_option maxRecDepth 100000 in
theorem c_Md_typeIn_29 : ct_Md_typeIn 29 = ka_al 0 1 := rfl
theorem d_Md_typeIn_29 : decode prog_12_method_10_code 29 = .ok (.aload_n 0, 1) := by decide +kernel
set_option maxRecDepth 100000 in
theorem c_Md_typeIn_30 : ct_Md_typeIn 30 = ka_get 10 2 := rfl
theorem d_Md_typeIn_30 : decode prog_12_method_10_code 30 = .ok (.getfield 7, 3) := by decide +kernel
set_option maxRecDepth 100000 in
theorem c_Md_typeIn_33 : ct_Md_typeIn 33 = ka_il 1 1 := rfl
theorem d_Md_typeIn_33 : decode prog_12_method_10_code 33 = .ok (.iload_n 1, 1) := by decide +kernel
set_option maxRecDepth 100000 in
theorem c_Md_typeIn_34 : ct_Md_typeIn 34 = ka_iald := rfl
theorem d_Md_typeIn_34 : decode prog_12_method_10_code 34 = .ok (.iaload, 1) := by decide +kernel
set_option maxRecDepth 100000 in
theorem c_Md_typeIn_35 : ct_Md_typeIn 35 = ka_goto 39 := rfl
theorem d_Md_typeIn_35 : decode prog_12_method_10_code 35 = .ok (.goto 4, 3) := by decide +kernel
set_option maxRecDepth 100000 in
theorem c_Md_typeIn_38 : ct_Md_typeIn 38 = ka_ci (-1) 1 := rfl
theorem d_Md_typeIn_38 : decode prog_12_method_10_code 38 = .ok (.iconst (-1), 1) := by decide +kernel
set_option maxRecDepth 100000 in
theorem c_Md_typeIn_39 : ct_Md_typeIn 39 = ka_ri := rfl
theorem d_Md_typeIn_39 : decode prog_12_method_10_code 39 = .ok (.ireturn, 1) := by decide +kernel
set_option maxRecDepth 100000 in
set_option maxHeartbeats 4000000 in
theorem s_Md_typeIn_40 : ∀ pc, pc < 40 → kc_Sim kt kw_A kw_N kt_cl kt_En "DirectoryDeskModel" prog_12_method_10_code 3 (some .int) "typeIn" none pc (ct_Md_typeIn pc) := by
  let P : Nat → Prop := fun pc => kc_Sim kt kw_A kw_N kt_cl kt_En "DirectoryDeskModel" prog_12_method_10_code 3 (some .int) "typeIn" none pc (ct_Md_typeIn pc)
  exact kc_case (P := P) (kc_se c_Md_typeIn_39 (sm_ri d_Md_typeIn_39 rfl)) (
  kc_case (P := P) (kc_se c_Md_typeIn_38 (sm_iconst d_Md_typeIn_38 (by decide))) (
  kc_case (P := P) (kc_se rfl sm_no) (
  kc_case (P := P) (kc_se rfl sm_no) (
  kc_case (P := P) (kc_se c_Md_typeIn_35 (sm_goto d_Md_typeIn_35 (by decide))) (
  kc_case (P := P) (kc_se c_Md_typeIn_34 (sm_iald d_Md_typeIn_34)) (
  kc_case (P := P) (kc_se c_Md_typeIn_33 (sm_iload_n d_Md_typeIn_33 rfl)) (
  kc_case (P := P) (kc_se rfl sm_no) (
  kc_case (P := P) (kc_se rfl sm_no) (
  kc_case (P := P) (kc_se c_Md_typeIn_30 (sm_get (ci := 10) (C := "DirectoryDeskModel") (F := kF_Md) rfl kin_Md (Nat.le_of_ble_eq_true rfl) d_Md_typeIn_30 (kw3 185 rfl rfl))) (
  kc_case (P := P) (kc_se c_Md_typeIn_29 (sm_aload_n d_Md_typeIn_29 rfl)) (
  kc_case (P := P) (kc_se rfl sm_no) (
  kc_case (P := P) (kc_se rfl sm_no) (
  kc_case (P := P) (kc_se c_Md_typeIn_26 (sm_cm_gt d_Md_typeIn_26 (by decide))) (
  kc_case (P := P) (kc_se rfl sm_no) (
  kc_case (P := P) (kc_se c_Md_typeIn_24 (sm_bipush d_Md_typeIn_24 (by decide))) (
  kc_case (P := P) (kc_se c_Md_typeIn_23 (sm_iald d_Md_typeIn_23)) (
  kc_case (P := P) (kc_se c_Md_typeIn_22 (sm_iload_n d_Md_typeIn_22 rfl)) (
  kc_case (P := P) (kc_se rfl sm_no) (
  kc_case (P := P) (kc_se rfl sm_no) (
  kc_case (P := P) (kc_se c_Md_typeIn_19 (sm_get (ci := 10) (C := "DirectoryDeskModel") (F := kF_Md) rfl kin_Md (Nat.le_of_ble_eq_true rfl) d_Md_typeIn_19 (kw3 185 rfl rfl))) (
  kc_case (P := P) (kc_se c_Md_typeIn_18 (sm_aload_n d_Md_typeIn_18 rfl)) (
  kc_case (P := P) (kc_se rfl sm_no) (
  kc_case (P := P) (kc_se rfl sm_no) (
  kc_case (P := P) (kc_se c_Md_typeIn_15 (sm_cm_lt d_Md_typeIn_15 (by decide))) (
  kc_case (P := P) (kc_se rfl sm_no) (
  kc_case (P := P) (kc_se c_Md_typeIn_13 (sm_bipush d_Md_typeIn_13 (by decide))) (
  kc_case (P := P) (kc_se c_Md_typeIn_12 (sm_iald d_Md_typeIn_12)) (
  kc_case (P := P) (kc_se c_Md_typeIn_11 (sm_iload_n d_Md_typeIn_11 rfl)) (
  kc_case (P := P) (kc_se rfl sm_no) (
  kc_case (P := P) (kc_se rfl sm_no) (
  kc_case (P := P) (kc_se c_Md_typeIn_8 (sm_get (ci := 10) (C := "DirectoryDeskModel") (F := kF_Md) rfl kin_Md (Nat.le_of_ble_eq_true rfl) d_Md_typeIn_8 (kw3 185 rfl rfl))) (
  kc_case (P := P) (kc_se c_Md_typeIn_7 (sm_aload_n d_Md_typeIn_7 rfl)) (
  kc_case (P := P) (kc_se rfl sm_no) (
  kc_case (P := P) (kc_se rfl sm_no) (
  kc_case (P := P) (kc_se c_Md_typeIn_4 (sm_cm_ne d_Md_typeIn_4 (by decide))) (
  kc_case (P := P) (kc_se c_Md_typeIn_3 (sm_iconst d_Md_typeIn_3 (by decide))) (
  kc_case (P := P) (kc_se c_Md_typeIn_2 (sm_isub d_Md_typeIn_2)) (
  kc_case (P := P) (kc_se c_Md_typeIn_1 (sm_iload_n d_Md_typeIn_1 rfl)) (
  kc_case (P := P) (kc_se c_Md_typeIn_0 (sm_iload_n d_Md_typeIn_0 rfl)) (
  kc_case0))))))))))))))))))))))))))))))))))))))))
set_option maxRecDepth 100000 in
theorem ka_nth_no_Md_typeIn (pc : Nat) (h : 40 ≤ pc) : ct_Md_typeIn pc = ka_no := ka_nth_ge _ pc (Nat.le_trans (Nat.le_of_eq (by rfl)) h)
theorem s_Md_typeIn (pc : Nat) : kc_Sim kt kw_A kw_N kt_cl kt_En "DirectoryDeskModel" prog_12_method_10_code 3 (some .int) "typeIn" none pc (ct_Md_typeIn pc) := (Nat.lt_or_ge pc 40).elim (s_Md_typeIn_40 pc) (fun h => kc_se (ka_nth_no_Md_typeIn pc h) sm_no)
def cl_Md_valueIn_0 : List kc_A := [ka_il 2 1, ka_il 1 1, ka_ii (fun x y => x - y), ka_ci (nI 1) 1, ka_cm (fun x y => x < y) 15, ka_no, ka_no, ka_il 2 1, ka_il 1 1, ka_ii (fun x y => x - y), ka_ci (nI 8) 2, ka_no, ka_cm (fun x y => x ≤ y) 19, ka_no, ka_no, ka_cl (-1) 3, ka_no, ka_no, ka_rl, ka_cl 0 1, ka_ls 3 1, ka_ci (nI 0) 1, ka_is 5 2, ka_no, ka_il 5 2, ka_no, ka_ci (nI 8) 2, ka_no, ka_cm (fun x y => y ≤ x) 89, ka_no, ka_no, ka_il 1 1, ka_il 5 2, ka_no, ka_ii (fun x y => x + y), ka_il 2 1, ka_cm (fun x y => y ≤ x) 51, ka_no, ka_no, ka_al 0 1, ka_get 10 2, ka_no, ka_no, ka_il 1 1, ka_il 5 2, ka_no, ka_ii (fun x y => x + y), ka_iald, ka_goto 52, ka_no, ka_no, ka_ci (nI 0) 1, ka_is 6 2, ka_no, ka_il 1 1, ka_il 5 2, ka_no, ka_ii (fun x y => x + y), ka_il 2 1, ka_cm (fun x y => y ≤ x) 74]
def cl_Md_valueIn_1 : List kc_A := [ka_no, ka_no, ka_il 6 2, ka_no, ka_cs 104 1 0 0, ka_no, ka_no, ka_if (fun x => ¬ x = 0) 74, ka_no, ka_no, ka_cl (-1) 3, ka_no, ka_no, ka_rl, ka_ll 3 1, ka_ci (nI 8) 2, ka_no, ka_lsh (fun x y => x <<< (y.toInt64 &&& 63)), ka_il 6 2, ka_no, ka_i2l, ka_ll2 (fun x y => x ||| y), ka_ls 3 1, ka_inc 5 (nI 1), ka_no, ka_no, ka_goto 24, ka_no, ka_no, ka_ll 3 1, ka_rl]
def ct_Md_valueIn : Nat → kc_A := fun pc => ka_nth (cl_Md_valueIn_0 ++ (cl_Md_valueIn_1)) pc
set_option maxRecDepth 100000 in
theorem c_Md_valueIn_0 : ct_Md_valueIn 0 = ka_il 2 1 := rfl
theorem d_Md_valueIn_0 : decode prog_12_method_11_code 0 = .ok (.iload_n 2, 1) := by decide +kernel
set_option maxRecDepth 100000 in
theorem c_Md_valueIn_1 : ct_Md_valueIn 1 = ka_il 1 1 := rfl
theorem d_Md_valueIn_1 : decode prog_12_method_11_code 1 = .ok (.iload_n 1, 1) := by decide +kernel
set_option maxRecDepth 100000 in
theorem c_Md_valueIn_2 : ct_Md_valueIn 2 = ka_ii (fun x y => x - y) := rfl
theorem d_Md_valueIn_2 : decode prog_12_method_11_code 2 = .ok (.isub, 1) := by decide +kernel
set_option maxRecDepth 100000 in
theorem c_Md_valueIn_3 : ct_Md_valueIn 3 = ka_ci (nI 1) 1 := rfl
theorem d_Md_valueIn_3 : decode prog_12_method_11_code 3 = .ok (.iconst 1, 1) := by decide +kernel
set_option maxRecDepth 100000 in
theorem c_Md_valueIn_4 : ct_Md_valueIn 4 = ka_cm (fun x y => x < y) 15 := rfl
theorem d_Md_valueIn_4 : decode prog_12_method_11_code 4 = .ok (.if_icmp .lt 11, 3) := by decide +kernel
set_option maxRecDepth 100000 in
theorem c_Md_valueIn_7 : ct_Md_valueIn 7 = ka_il 2 1 := rfl
theorem d_Md_valueIn_7 : decode prog_12_method_11_code 7 = .ok (.iload_n 2, 1) := by decide +kernel
set_option maxRecDepth 100000 in
theorem c_Md_valueIn_8 : ct_Md_valueIn 8 = ka_il 1 1 := rfl
theorem d_Md_valueIn_8 : decode prog_12_method_11_code 8 = .ok (.iload_n 1, 1) := by decide +kernel
set_option maxRecDepth 100000 in
theorem c_Md_valueIn_9 : ct_Md_valueIn 9 = ka_ii (fun x y => x - y) := rfl
theorem d_Md_valueIn_9 : decode prog_12_method_11_code 9 = .ok (.isub, 1) := by decide +kernel
set_option maxRecDepth 100000 in
theorem c_Md_valueIn_10 : ct_Md_valueIn 10 = ka_ci (nI 8) 2 := rfl
theorem d_Md_valueIn_10 : decode prog_12_method_11_code 10 = .ok (.bipush 8, 2) := by decide +kernel
set_option maxRecDepth 100000 in
theorem c_Md_valueIn_12 : ct_Md_valueIn 12 = ka_cm (fun x y => x ≤ y) 19 := rfl
theorem d_Md_valueIn_12 : decode prog_12_method_11_code 12 = .ok (.if_icmp .le 7, 3) := by decide +kernel
set_option maxRecDepth 100000 in
theorem c_Md_valueIn_15 : ct_Md_valueIn 15 = ka_cl (-1) 3 := rfl
theorem d_Md_valueIn_15 : decode prog_12_method_11_code 15 = .ok (.ldc2_w 120, 3) := by decide +kernel
set_option maxRecDepth 100000 in
theorem c_Md_valueIn_18 : ct_Md_valueIn 18 = ka_rl := rfl
theorem d_Md_valueIn_18 : decode prog_12_method_11_code 18 = .ok (.lreturn, 1) := by decide +kernel
set_option maxRecDepth 100000 in
theorem c_Md_valueIn_19 : ct_Md_valueIn 19 = ka_cl 0 1 := rfl
theorem d_Md_valueIn_19 : decode prog_12_method_11_code 19 = .ok (.lconst 0, 1) := by decide +kernel
set_option maxRecDepth 100000 in
theorem c_Md_valueIn_20 : ct_Md_valueIn 20 = ka_ls 3 1 := rfl
theorem d_Md_valueIn_20 : decode prog_12_method_11_code 20 = .ok (.lstore_n 3, 1) := by decide +kernel
set_option maxRecDepth 100000 in
theorem c_Md_valueIn_21 : ct_Md_valueIn 21 = ka_ci (nI 0) 1 := rfl
theorem d_Md_valueIn_21 : decode prog_12_method_11_code 21 = .ok (.iconst 0, 1) := by decide +kernel
set_option maxRecDepth 100000 in
theorem c_Md_valueIn_22 : ct_Md_valueIn 22 = ka_is 5 2 := rfl
theorem d_Md_valueIn_22 : decode prog_12_method_11_code 22 = .ok (.istore 5, 2) := by decide +kernel
set_option maxRecDepth 100000 in
theorem c_Md_valueIn_24 : ct_Md_valueIn 24 = ka_il 5 2 := rfl
theorem d_Md_valueIn_24 : decode prog_12_method_11_code 24 = .ok (.iload 5, 2) := by decide +kernel
set_option maxRecDepth 100000 in
theorem c_Md_valueIn_26 : ct_Md_valueIn 26 = ka_ci (nI 8) 2 := rfl
theorem d_Md_valueIn_26 : decode prog_12_method_11_code 26 = .ok (.bipush 8, 2) := by decide +kernel
set_option maxRecDepth 100000 in
theorem c_Md_valueIn_28 : ct_Md_valueIn 28 = ka_cm (fun x y => y ≤ x) 89 := rfl
theorem d_Md_valueIn_28 : decode prog_12_method_11_code 28 = .ok (.if_icmp .ge 61, 3) := by decide +kernel
set_option maxRecDepth 100000 in
theorem c_Md_valueIn_31 : ct_Md_valueIn 31 = ka_il 1 1 := rfl
theorem d_Md_valueIn_31 : decode prog_12_method_11_code 31 = .ok (.iload_n 1, 1) := by decide +kernel
set_option maxRecDepth 100000 in
theorem c_Md_valueIn_32 : ct_Md_valueIn 32 = ka_il 5 2 := rfl
theorem d_Md_valueIn_32 : decode prog_12_method_11_code 32 = .ok (.iload 5, 2) := by decide +kernel
set_option maxRecDepth 100000 in
theorem c_Md_valueIn_34 : ct_Md_valueIn 34 = ka_ii (fun x y => x + y) := rfl
theorem d_Md_valueIn_34 : decode prog_12_method_11_code 34 = .ok (.iadd, 1) := by decide +kernel
set_option maxRecDepth 100000 in
theorem c_Md_valueIn_35 : ct_Md_valueIn 35 = ka_il 2 1 := rfl
theorem d_Md_valueIn_35 : decode prog_12_method_11_code 35 = .ok (.iload_n 2, 1) := by decide +kernel
set_option maxRecDepth 100000 in
theorem c_Md_valueIn_36 : ct_Md_valueIn 36 = ka_cm (fun x y => y ≤ x) 51 := rfl
theorem d_Md_valueIn_36 : decode prog_12_method_11_code 36 = .ok (.if_icmp .ge 15, 3) := by decide +kernel
set_option maxRecDepth 100000 in
theorem c_Md_valueIn_39 : ct_Md_valueIn 39 = ka_al 0 1 := rfl
theorem d_Md_valueIn_39 : decode prog_12_method_11_code 39 = .ok (.aload_n 0, 1) := by decide +kernel
set_option maxRecDepth 100000 in
theorem c_Md_valueIn_40 : ct_Md_valueIn 40 = ka_get 10 2 := rfl
theorem d_Md_valueIn_40 : decode prog_12_method_11_code 40 = .ok (.getfield 7, 3) := by decide +kernel
set_option maxRecDepth 100000 in
theorem c_Md_valueIn_43 : ct_Md_valueIn 43 = ka_il 1 1 := rfl
theorem d_Md_valueIn_43 : decode prog_12_method_11_code 43 = .ok (.iload_n 1, 1) := by decide +kernel
set_option maxRecDepth 100000 in
theorem c_Md_valueIn_44 : ct_Md_valueIn 44 = ka_il 5 2 := rfl
theorem d_Md_valueIn_44 : decode prog_12_method_11_code 44 = .ok (.iload 5, 2) := by decide +kernel
set_option maxRecDepth 100000 in
theorem c_Md_valueIn_46 : ct_Md_valueIn 46 = ka_ii (fun x y => x + y) := rfl
theorem d_Md_valueIn_46 : decode prog_12_method_11_code 46 = .ok (.iadd, 1) := by decide +kernel
set_option maxRecDepth 100000 in
theorem c_Md_valueIn_47 : ct_Md_valueIn 47 = ka_iald := rfl
theorem d_Md_valueIn_47 : decode prog_12_method_11_code 47 = .ok (.iaload, 1) := by decide +kernel
set_option maxRecDepth 100000 in
theorem c_Md_valueIn_48 : ct_Md_valueIn 48 = ka_goto 52 := rfl
theorem d_Md_valueIn_48 : decode prog_12_method_11_code 48 = .ok (.goto 4, 3) := by decide +kernel
set_option maxRecDepth 100000 in
theorem c_Md_valueIn_51 : ct_Md_valueIn 51 = ka_ci (nI 0) 1 := rfl
theorem d_Md_valueIn_51 : decode prog_12_method_11_code 51 = .ok (.iconst 0, 1) := by decide +kernel
set_option maxRecDepth 100000 in
theorem c_Md_valueIn_52 : ct_Md_valueIn 52 = ka_is 6 2 := rfl
theorem d_Md_valueIn_52 : decode prog_12_method_11_code 52 = .ok (.istore 6, 2) := by decide +kernel
set_option maxRecDepth 100000 in
theorem c_Md_valueIn_54 : ct_Md_valueIn 54 = ka_il 1 1 := rfl
theorem d_Md_valueIn_54 : decode prog_12_method_11_code 54 = .ok (.iload_n 1, 1) := by decide +kernel
set_option maxRecDepth 100000 in
theorem c_Md_valueIn_55 : ct_Md_valueIn 55 = ka_il 5 2 := rfl
theorem d_Md_valueIn_55 : decode prog_12_method_11_code 55 = .ok (.iload 5, 2) := by decide +kernel
set_option maxRecDepth 100000 in
theorem c_Md_valueIn_57 : ct_Md_valueIn 57 = ka_ii (fun x y => x + y) := rfl
theorem d_Md_valueIn_57 : decode prog_12_method_11_code 57 = .ok (.iadd, 1) := by decide +kernel
set_option maxRecDepth 100000 in
theorem c_Md_valueIn_58 : ct_Md_valueIn 58 = ka_il 2 1 := rfl
theorem d_Md_valueIn_58 : decode prog_12_method_11_code 58 = .ok (.iload_n 2, 1) := by decide +kernel
set_option maxRecDepth 100000 in
theorem c_Md_valueIn_59 : ct_Md_valueIn 59 = ka_cm (fun x y => y ≤ x) 74 := rfl
theorem d_Md_valueIn_59 : decode prog_12_method_11_code 59 = .ok (.if_icmp .ge 15, 3) := by decide +kernel
set_option maxRecDepth 100000 in
theorem c_Md_valueIn_62 : ct_Md_valueIn 62 = ka_il 6 2 := rfl
theorem d_Md_valueIn_62 : decode prog_12_method_11_code 62 = .ok (.iload 6, 2) := by decide +kernel
set_option maxRecDepth 100000 in
theorem c_Md_valueIn_64 : ct_Md_valueIn 64 = ka_cs 104 1 0 0 := rfl
theorem d_Md_valueIn_64 : decode prog_12_method_11_code 64 = .ok (.invokestatic 122, 3) := by decide +kernel
set_option maxRecDepth 100000 in
theorem c_Md_valueIn_67 : ct_Md_valueIn 67 = ka_if (fun x => ¬ x = 0) 74 := rfl
theorem d_Md_valueIn_67 : decode prog_12_method_11_code 67 = .ok (.ifCond .ne 7, 3) := by decide +kernel
set_option maxRecDepth 100000 in
theorem c_Md_valueIn_70 : ct_Md_valueIn 70 = ka_cl (-1) 3 := rfl
theorem d_Md_valueIn_70 : decode prog_12_method_11_code 70 = .ok (.ldc2_w 120, 3) := by decide +kernel
set_option maxRecDepth 100000 in
theorem c_Md_valueIn_73 : ct_Md_valueIn 73 = ka_rl := rfl
theorem d_Md_valueIn_73 : decode prog_12_method_11_code 73 = .ok (.lreturn, 1) := by decide +kernel
set_option maxRecDepth 100000 in
theorem c_Md_valueIn_74 : ct_Md_valueIn 74 = ka_ll 3 1 := rfl
theorem d_Md_valueIn_74 : decode prog_12_method_11_code 74 = .ok (.lload_n 3, 1) := by decide +kernel
set_option maxRecDepth 100000 in
theorem c_Md_valueIn_75 : ct_Md_valueIn 75 = ka_ci (nI 8) 2 := rfl
theorem d_Md_valueIn_75 : decode prog_12_method_11_code 75 = .ok (.bipush 8, 2) := by decide +kernel
set_option maxRecDepth 100000 in
theorem c_Md_valueIn_77 : ct_Md_valueIn 77 = ka_lsh (fun x y => x <<< (y.toInt64 &&& 63)) := rfl
theorem d_Md_valueIn_77 : decode prog_12_method_11_code 77 = .ok (.lshl, 1) := by decide +kernel
set_option maxRecDepth 100000 in
theorem c_Md_valueIn_78 : ct_Md_valueIn 78 = ka_il 6 2 := rfl
theorem d_Md_valueIn_78 : decode prog_12_method_11_code 78 = .ok (.iload 6, 2) := by decide +kernel
set_option maxRecDepth 100000 in
theorem c_Md_valueIn_80 : ct_Md_valueIn 80 = ka_i2l := rfl
theorem d_Md_valueIn_80 : decode prog_12_method_11_code 80 = .ok (.i2l, 1) := by decide +kernel
set_option maxRecDepth 100000 in
theorem c_Md_valueIn_81 : ct_Md_valueIn 81 = ka_ll2 (fun x y => x ||| y) := rfl
theorem d_Md_valueIn_81 : decode prog_12_method_11_code 81 = .ok (.lor, 1) := by decide +kernel
set_option maxRecDepth 100000 in
theorem c_Md_valueIn_82 : ct_Md_valueIn 82 = ka_ls 3 1 := rfl
theorem d_Md_valueIn_82 : decode prog_12_method_11_code 82 = .ok (.lstore_n 3, 1) := by decide +kernel
set_option maxRecDepth 100000 in
theorem c_Md_valueIn_83 : ct_Md_valueIn 83 = ka_inc 5 (nI 1) := rfl
theorem d_Md_valueIn_83 : decode prog_12_method_11_code 83 = .ok (.iinc 5 1, 3) := by decide +kernel
set_option maxRecDepth 100000 in
theorem c_Md_valueIn_86 : ct_Md_valueIn 86 = ka_goto 24 := rfl
theorem d_Md_valueIn_86 : decode prog_12_method_11_code 86 = .ok (.goto (-62), 3) := by decide +kernel
set_option maxRecDepth 100000 in
theorem c_Md_valueIn_89 : ct_Md_valueIn 89 = ka_ll 3 1 := rfl
theorem d_Md_valueIn_89 : decode prog_12_method_11_code 89 = .ok (.lload_n 3, 1) := by decide +kernel
set_option maxRecDepth 100000 in
theorem c_Md_valueIn_90 : ct_Md_valueIn 90 = ka_rl := rfl
theorem d_Md_valueIn_90 : decode prog_12_method_11_code 90 = .ok (.lreturn, 1) := by decide +kernel
set_option maxRecDepth 100000 in
set_option maxHeartbeats 4000000 in
theorem s_Md_valueIn_60 : ∀ pc, pc < 60 → kc_Sim kt kw_A kw_N kt_cl kt_En "DirectoryDeskModel" prog_12_method_11_code 7 (some .long) "valueIn" none pc (ct_Md_valueIn pc) := by
  let P : Nat → Prop := fun pc => kc_Sim kt kw_A kw_N kt_cl kt_En "DirectoryDeskModel" prog_12_method_11_code 7 (some .long) "valueIn" none pc (ct_Md_valueIn pc)
  exact kc_case (P := P) (kc_se c_Md_valueIn_59 (sm_cm_ge d_Md_valueIn_59 (by decide))) (
  kc_case (P := P) (kc_se c_Md_valueIn_58 (sm_iload_n d_Md_valueIn_58 rfl)) (
  kc_case (P := P) (kc_se c_Md_valueIn_57 (sm_iadd d_Md_valueIn_57)) (
  kc_case (P := P) (kc_se rfl sm_no) (
  kc_case (P := P) (kc_se c_Md_valueIn_55 (sm_iload d_Md_valueIn_55)) (
  kc_case (P := P) (kc_se c_Md_valueIn_54 (sm_iload_n d_Md_valueIn_54 rfl)) (
  kc_case (P := P) (kc_se rfl sm_no) (
  kc_case (P := P) (kc_se c_Md_valueIn_52 (sm_istore d_Md_valueIn_52 (Nat.le_of_ble_eq_true rfl))) (
  kc_case (P := P) (kc_se c_Md_valueIn_51 (sm_iconst d_Md_valueIn_51 (by decide))) (
  kc_case (P := P) (kc_se rfl sm_no) (
  kc_case (P := P) (kc_se rfl sm_no) (
  kc_case (P := P) (kc_se c_Md_valueIn_48 (sm_goto d_Md_valueIn_48 (by decide))) (
  kc_case (P := P) (kc_se c_Md_valueIn_47 (sm_iald d_Md_valueIn_47)) (
  kc_case (P := P) (kc_se c_Md_valueIn_46 (sm_iadd d_Md_valueIn_46)) (
  kc_case (P := P) (kc_se rfl sm_no) (
  kc_case (P := P) (kc_se c_Md_valueIn_44 (sm_iload d_Md_valueIn_44)) (
  kc_case (P := P) (kc_se c_Md_valueIn_43 (sm_iload_n d_Md_valueIn_43 rfl)) (
  kc_case (P := P) (kc_se rfl sm_no) (
  kc_case (P := P) (kc_se rfl sm_no) (
  kc_case (P := P) (kc_se c_Md_valueIn_40 (sm_get (ci := 10) (C := "DirectoryDeskModel") (F := kF_Md) rfl kin_Md (Nat.le_of_ble_eq_true rfl) d_Md_valueIn_40 (kw3 185 rfl rfl))) (
  kc_case (P := P) (kc_se c_Md_valueIn_39 (sm_aload_n d_Md_valueIn_39 rfl)) (
  kc_case (P := P) (kc_se rfl sm_no) (
  kc_case (P := P) (kc_se rfl sm_no) (
  kc_case (P := P) (kc_se c_Md_valueIn_36 (sm_cm_ge d_Md_valueIn_36 (by decide))) (
  kc_case (P := P) (kc_se c_Md_valueIn_35 (sm_iload_n d_Md_valueIn_35 rfl)) (
  kc_case (P := P) (kc_se c_Md_valueIn_34 (sm_iadd d_Md_valueIn_34)) (
  kc_case (P := P) (kc_se rfl sm_no) (
  kc_case (P := P) (kc_se c_Md_valueIn_32 (sm_iload d_Md_valueIn_32)) (
  kc_case (P := P) (kc_se c_Md_valueIn_31 (sm_iload_n d_Md_valueIn_31 rfl)) (
  kc_case (P := P) (kc_se rfl sm_no) (
  kc_case (P := P) (kc_se rfl sm_no) (
  kc_case (P := P) (kc_se c_Md_valueIn_28 (sm_cm_ge d_Md_valueIn_28 (by decide))) (
  kc_case (P := P) (kc_se rfl sm_no) (
  kc_case (P := P) (kc_se c_Md_valueIn_26 (sm_bipush d_Md_valueIn_26 (by decide))) (
  kc_case (P := P) (kc_se rfl sm_no) (
  kc_case (P := P) (kc_se c_Md_valueIn_24 (sm_iload d_Md_valueIn_24)) (
  kc_case (P := P) (kc_se rfl sm_no) (
  kc_case (P := P) (kc_se c_Md_valueIn_22 (sm_istore d_Md_valueIn_22 (Nat.le_of_ble_eq_true rfl))) (
  kc_case (P := P) (kc_se c_Md_valueIn_21 (sm_iconst d_Md_valueIn_21 (by decide))) (
  kc_case (P := P) (kc_se c_Md_valueIn_20 (sm_lstore_n d_Md_valueIn_20 rfl (Nat.le_of_ble_eq_true rfl))) (
  kc_case (P := P) (kc_se c_Md_valueIn_19 (sm_lconst d_Md_valueIn_19 (by decide))) (
  kc_case (P := P) (kc_se c_Md_valueIn_18 (sm_rl d_Md_valueIn_18 rfl)) (
  kc_case (P := P) (kc_se rfl sm_no) (
  kc_case (P := P) (kc_se rfl sm_no) (
  kc_case (P := P) (kc_se c_Md_valueIn_15 (sm_ldc2 d_Md_valueIn_15 (kw4 168 rfl rfl))) (
  kc_case (P := P) (kc_se rfl sm_no) (
  kc_case (P := P) (kc_se rfl sm_no) (
  kc_case (P := P) (kc_se c_Md_valueIn_12 (sm_cm_le d_Md_valueIn_12 (by decide))) (
  kc_case (P := P) (kc_se rfl sm_no) (
  kc_case (P := P) (kc_se c_Md_valueIn_10 (sm_bipush d_Md_valueIn_10 (by decide))) (
  kc_case (P := P) (kc_se c_Md_valueIn_9 (sm_isub d_Md_valueIn_9)) (
  kc_case (P := P) (kc_se c_Md_valueIn_8 (sm_iload_n d_Md_valueIn_8 rfl)) (
  kc_case (P := P) (kc_se c_Md_valueIn_7 (sm_iload_n d_Md_valueIn_7 rfl)) (
  kc_case (P := P) (kc_se rfl sm_no) (
  kc_case (P := P) (kc_se rfl sm_no) (
  kc_case (P := P) (kc_se c_Md_valueIn_4 (sm_cm_lt d_Md_valueIn_4 (by decide))) (
  kc_case (P := P) (kc_se c_Md_valueIn_3 (sm_iconst d_Md_valueIn_3 (by decide))) (
  kc_case (P := P) (kc_se c_Md_valueIn_2 (sm_isub d_Md_valueIn_2)) (
  kc_case (P := P) (kc_se c_Md_valueIn_1 (sm_iload_n d_Md_valueIn_1 rfl)) (
  kc_case (P := P) (kc_se c_Md_valueIn_0 (sm_iload_n d_Md_valueIn_0 rfl)) (
  kc_case0))))))))))))))))))))))))))))))))))))))))))))))))))))))))))))
set_option maxRecDepth 100000 in
set_option maxHeartbeats 4000000 in
theorem s_Md_valueIn_91 : ∀ pc, pc < 91 → kc_Sim kt kw_A kw_N kt_cl kt_En "DirectoryDeskModel" prog_12_method_11_code 7 (some .long) "valueIn" none pc (ct_Md_valueIn pc) := by
  let P : Nat → Prop := fun pc => kc_Sim kt kw_A kw_N kt_cl kt_En "DirectoryDeskModel" prog_12_method_11_code 7 (some .long) "valueIn" none pc (ct_Md_valueIn pc)
  exact kc_case (P := P) (kc_se c_Md_valueIn_90 (sm_rl d_Md_valueIn_90 rfl)) (
  kc_case (P := P) (kc_se c_Md_valueIn_89 (sm_lload_n d_Md_valueIn_89 rfl)) (
  kc_case (P := P) (kc_se rfl sm_no) (
  kc_case (P := P) (kc_se rfl sm_no) (
  kc_case (P := P) (kc_se c_Md_valueIn_86 (sm_goto d_Md_valueIn_86 (by decide))) (
  kc_case (P := P) (kc_se rfl sm_no) (
  kc_case (P := P) (kc_se rfl sm_no) (
  kc_case (P := P) (kc_se c_Md_valueIn_83 (sm_inc d_Md_valueIn_83 (by decide) (Nat.le_of_ble_eq_true rfl))) (
  kc_case (P := P) (kc_se c_Md_valueIn_82 (sm_lstore_n d_Md_valueIn_82 rfl (Nat.le_of_ble_eq_true rfl))) (
  kc_case (P := P) (kc_se c_Md_valueIn_81 (sm_lor d_Md_valueIn_81)) (
  kc_case (P := P) (kc_se c_Md_valueIn_80 (sm_i2l d_Md_valueIn_80)) (
  kc_case (P := P) (kc_se rfl sm_no) (
  kc_case (P := P) (kc_se c_Md_valueIn_78 (sm_iload d_Md_valueIn_78)) (
  kc_case (P := P) (kc_se c_Md_valueIn_77 (sm_lshl d_Md_valueIn_77)) (
  kc_case (P := P) (kc_se rfl sm_no) (
  kc_case (P := P) (kc_se c_Md_valueIn_75 (sm_bipush d_Md_valueIn_75 (by decide))) (
  kc_case (P := P) (kc_se c_Md_valueIn_74 (sm_lload_n d_Md_valueIn_74 rfl)) (
  kc_case (P := P) (kc_se c_Md_valueIn_73 (sm_rl d_Md_valueIn_73 rfl)) (
  kc_case (P := P) (kc_se rfl sm_no) (
  kc_case (P := P) (kc_se rfl sm_no) (
  kc_case (P := P) (kc_se c_Md_valueIn_70 (sm_ldc2 d_Md_valueIn_70 (kw4 168 rfl rfl))) (
  kc_case (P := P) (kc_se rfl sm_no) (
  kc_case (P := P) (kc_se rfl sm_no) (
  kc_case (P := P) (kc_se c_Md_valueIn_67 (sm_if_ne d_Md_valueIn_67 (by decide))) (
  kc_case (P := P) (kc_se rfl sm_no) (
  kc_case (P := P) (kc_se rfl sm_no) (
  kc_case (P := P) (kc_se c_Md_valueIn_64 (sm_cs (j := 104) rfl rfl kw_o kw_g wc_Md_isLetter (Nat.le_of_ble_eq_true rfl) hd_Md_isLetter (kw4 169 rfl rfl) wi_Md_isLetter wn_Md_isLetter d_Md_valueIn_64)) (
  kc_case (P := P) (kc_se rfl sm_no) (
  kc_case (P := P) (kc_se c_Md_valueIn_62 (sm_iload d_Md_valueIn_62)) (
  kc_case (P := P) (kc_se rfl sm_no) (
  kc_case (P := P) (kc_se rfl sm_no) (
  s_Md_valueIn_60)))))))))))))))))))))))))))))))
set_option maxRecDepth 100000 in
theorem ka_nth_no_Md_valueIn (pc : Nat) (h : 91 ≤ pc) : ct_Md_valueIn pc = ka_no := ka_nth_ge _ pc (Nat.le_trans (Nat.le_of_eq (by rfl)) h)
theorem s_Md_valueIn (pc : Nat) : kc_Sim kt kw_A kw_N kt_cl kt_En "DirectoryDeskModel" prog_12_method_11_code 7 (some .long) "valueIn" none pc (ct_Md_valueIn pc) := (Nat.lt_or_ge pc 91).elim (s_Md_valueIn_91 pc) (fun h => kc_se (ka_nth_no_Md_valueIn pc h) sm_no)
def cl_Md_takeName_0 : List kc_A := [ka_al 0 1, ka_ci (nI 0) 1, ka_put 10 20 .int, ka_no, ka_no, ka_il 1 1, ka_il 2 1, ka_cm (fun x y => ¬ x = y) 12, ka_no, ka_no, ka_ci (nI 0) 1, ka_ri, ka_il 1 1, ka_is 3 1, ka_il 3 1, ka_il 2 1, ka_cm (fun x y => y < x) 156, ka_no, ka_no, ka_il 3 1, ka_is 4 2, ka_no, ka_il 4 2, ka_no, ka_il 2 1, ka_cm (fun x y => y ≤ x) 46, ka_no, ka_no, ka_al 0 1, ka_get 10 2, ka_no, ka_no, ka_il 4 2, ka_no, ka_iald, ka_ci (nI 44) 2, ka_no, ka_cm (fun x y => x = y) 46, ka_no, ka_no, ka_inc 4 (nI 1), ka_no, ka_no, ka_goto 22, ka_no, ka_no, ka_al 0 1, ka_get 10 20, ka_no, ka_no, ka_ci (nI 4) 1, ka_cm (fun x y => x = y) 103, ka_no, ka_no, ka_il 4 2, ka_no, ka_il 3 1, ka_ii (fun x y => x - y), ka_ci (nI 3) 1, ka_cm (fun x y => x < y) 103]
def cl_Md_takeName_1 : List kc_A := [ka_no, ka_no, ka_al 0 1, ka_il 3 1, ka_il 3 1, ka_ci (nI 1) 1, ka_ii (fun x y => x + y), ka_cv 105 2 10 0 0, ka_no, ka_no, ka_ci (-1) 1, ka_cm (fun x y => x = y) 103, ka_no, ka_no, ka_al 0 1, ka_get 10 2, ka_no, ka_no, ka_il 3 1, ka_ci (nI 1) 1, ka_ii (fun x y => x + y), ka_iald, ka_ci (nI 61) 2, ka_no, ka_cm (fun x y => ¬ x = y) 103, ka_no, ka_no, ka_al 0 1, ka_il 3 1, ka_ci (nI 2) 1, ka_ii (fun x y => x + y), ka_il 4 2, ka_no, ka_cv 106 2 10 0 0, ka_no, ka_no, ka_cl (-1) 3, ka_no, ka_no, ka_lcmp, ka_if (fun x => ¬ x = 0) 105, ka_no, ka_no, ka_ci (-1) 1, ka_ri, ka_al 0 1, ka_get 10 21, ka_no, ka_no, ka_al 0 1, ka_get 10 20, ka_no, ka_no, ka_al 0 1, ka_get 10 2, ka_no, ka_no, ka_il 3 1, ka_iald, ka_iast]
def cl_Md_takeName_2 : List kc_A := [ka_al 0 1, ka_get 10 22, ka_no, ka_no, ka_al 0 1, ka_get 10 20, ka_no, ka_no, ka_al 0 1, ka_il 3 1, ka_ci (nI 2) 1, ka_ii (fun x y => x + y), ka_il 4 2, ka_no, ka_cv 106 2 10 0 0, ka_no, ka_no, ka_last, ka_al 0 1, ka_dup, ka_get 10 20, ka_no, ka_no, ka_ci (nI 1) 1, ka_ii (fun x y => x + y), ka_put 10 20 .int, ka_no, ka_no, ka_il 4 2, ka_no, ka_ci (nI 1) 1, ka_ii (fun x y => x + y), ka_is 3 1, ka_goto 14, ka_no, ka_no, ka_ci (nI 1) 1, ka_ri]
def ct_Md_takeName : Nat → kc_A := fun pc => ka_nth (cl_Md_takeName_0 ++ (cl_Md_takeName_1 ++ (cl_Md_takeName_2))) pc
set_option maxRecDepth 100000 in
theorem c_Md_takeName_0 : ct_Md_takeName 0 = ka_al 0 1 := rfl
theorem d_Md_takeName_0 : decode prog_12_method_12_code 0 = .ok (.aload_n 0, 1) := by decide +kernel
set_option maxRecDepth 100000 in
theorem c_Md_takeName_1 : ct_Md_takeName 1 = ka_ci (nI 0) 1 := rfl
theorem d_Md_takeName_1 : decode prog_12_method_12_code 1 = .ok (.iconst 0, 1) := by decide +kernel
set_option maxRecDepth 100000 in
theorem c_Md_takeName_2 : ct_Md_takeName 2 = ka_put 10 20 .int := rfl
theorem d_Md_takeName_2 : decode prog_12_method_12_code 2 = .ok (.putfield 126, 3) := by decide +kernel
set_option maxRecDepth 100000 in
theorem c_Md_takeName_5 : ct_Md_takeName 5 = ka_il 1 1 := rfl
theorem d_Md_takeName_5 : decode prog_12_method_12_code 5 = .ok (.iload_n 1, 1) := by decide +kernel
set_option maxRecDepth 100000 in
theorem c_Md_takeName_6 : ct_Md_takeName 6 = ka_il 2 1 := rfl
theorem d_Md_takeName_6 : decode prog_12_method_12_code 6 = .ok (.iload_n 2, 1) := by decide +kernel
set_option maxRecDepth 100000 in
theorem c_Md_takeName_7 : ct_Md_takeName 7 = ka_cm (fun x y => ¬ x = y) 12 := rfl
theorem d_Md_takeName_7 : decode prog_12_method_12_code 7 = .ok (.if_icmp .ne 5, 3) := by decide +kernel
set_option maxRecDepth 100000 in
theorem c_Md_takeName_10 : ct_Md_takeName 10 = ka_ci (nI 0) 1 := rfl
theorem d_Md_takeName_10 : decode prog_12_method_12_code 10 = .ok (.iconst 0, 1) := by decide +kernel
set_option maxRecDepth 100000 in
theorem c_Md_takeName_11 : ct_Md_takeName 11 = ka_ri := rfl
theorem d_Md_takeName_11 : decode prog_12_method_12_code 11 = .ok (.ireturn, 1) := by decide +kernel
set_option maxRecDepth 100000 in
theorem c_Md_takeName_12 : ct_Md_takeName 12 = ka_il 1 1 := rfl
theorem d_Md_takeName_12 : decode prog_12_method_12_code 12 = .ok (.iload_n 1, 1) := by decide +kernel
set_option maxRecDepth 100000 in
theorem c_Md_takeName_13 : ct_Md_takeName 13 = ka_is 3 1 := rfl
theorem d_Md_takeName_13 : decode prog_12_method_12_code 13 = .ok (.istore_n 3, 1) := by decide +kernel
set_option maxRecDepth 100000 in
theorem c_Md_takeName_14 : ct_Md_takeName 14 = ka_il 3 1 := rfl
theorem d_Md_takeName_14 : decode prog_12_method_12_code 14 = .ok (.iload_n 3, 1) := by decide +kernel
set_option maxRecDepth 100000 in
theorem c_Md_takeName_15 : ct_Md_takeName 15 = ka_il 2 1 := rfl
theorem d_Md_takeName_15 : decode prog_12_method_12_code 15 = .ok (.iload_n 2, 1) := by decide +kernel
set_option maxRecDepth 100000 in
theorem c_Md_takeName_16 : ct_Md_takeName 16 = ka_cm (fun x y => y < x) 156 := rfl
theorem d_Md_takeName_16 : decode prog_12_method_12_code 16 = .ok (.if_icmp .gt 140, 3) := by decide +kernel
set_option maxRecDepth 100000 in
theorem c_Md_takeName_19 : ct_Md_takeName 19 = ka_il 3 1 := rfl
theorem d_Md_takeName_19 : decode prog_12_method_12_code 19 = .ok (.iload_n 3, 1) := by decide +kernel
set_option maxRecDepth 100000 in
theorem c_Md_takeName_20 : ct_Md_takeName 20 = ka_is 4 2 := rfl
theorem d_Md_takeName_20 : decode prog_12_method_12_code 20 = .ok (.istore 4, 2) := by decide +kernel
set_option maxRecDepth 100000 in
theorem c_Md_takeName_22 : ct_Md_takeName 22 = ka_il 4 2 := rfl
theorem d_Md_takeName_22 : decode prog_12_method_12_code 22 = .ok (.iload 4, 2) := by decide +kernel
set_option maxRecDepth 100000 in
theorem c_Md_takeName_24 : ct_Md_takeName 24 = ka_il 2 1 := rfl
theorem d_Md_takeName_24 : decode prog_12_method_12_code 24 = .ok (.iload_n 2, 1) := by decide +kernel
set_option maxRecDepth 100000 in
theorem c_Md_takeName_25 : ct_Md_takeName 25 = ka_cm (fun x y => y ≤ x) 46 := rfl
theorem d_Md_takeName_25 : decode prog_12_method_12_code 25 = .ok (.if_icmp .ge 21, 3) := by decide +kernel
set_option maxRecDepth 100000 in
theorem c_Md_takeName_28 : ct_Md_takeName 28 = ka_al 0 1 := rfl
theorem d_Md_takeName_28 : decode prog_12_method_12_code 28 = .ok (.aload_n 0, 1) := by decide +kernel
set_option maxRecDepth 100000 in
theorem c_Md_takeName_29 : ct_Md_takeName 29 = ka_get 10 2 := rfl
theorem d_Md_takeName_29 : decode prog_12_method_12_code 29 = .ok (.getfield 7, 3) := by decide +kernel
set_option maxRecDepth 100000 in
theorem c_Md_takeName_32 : ct_Md_takeName 32 = ka_il 4 2 := rfl
theorem d_Md_takeName_32 : decode prog_12_method_12_code 32 = .ok (.iload 4, 2) := by decide +kernel
set_option maxRecDepth 100000 in
theorem c_Md_takeName_34 : ct_Md_takeName 34 = ka_iald := rfl
theorem d_Md_takeName_34 : decode prog_12_method_12_code 34 = .ok (.iaload, 1) := by decide +kernel
set_option maxRecDepth 100000 in
theorem c_Md_takeName_35 : ct_Md_takeName 35 = ka_ci (nI 44) 2 := rfl
theorem d_Md_takeName_35 : decode prog_12_method_12_code 35 = .ok (.bipush 44, 2) := by decide +kernel
set_option maxRecDepth 100000 in
theorem c_Md_takeName_37 : ct_Md_takeName 37 = ka_cm (fun x y => x = y) 46 := rfl
theorem d_Md_takeName_37 : decode prog_12_method_12_code 37 = .ok (.if_icmp .eq 9, 3) := by decide +kernel
set_option maxRecDepth 100000 in
theorem c_Md_takeName_40 : ct_Md_takeName 40 = ka_inc 4 (nI 1) := rfl
theorem d_Md_takeName_40 : decode prog_12_method_12_code 40 = .ok (.iinc 4 1, 3) := by decide +kernel
set_option maxRecDepth 100000 in
theorem c_Md_takeName_43 : ct_Md_takeName 43 = ka_goto 22 := rfl
theorem d_Md_takeName_43 : decode prog_12_method_12_code 43 = .ok (.goto (-21), 3) := by decide +kernel
set_option maxRecDepth 100000 in
theorem c_Md_takeName_46 : ct_Md_takeName 46 = ka_al 0 1 := rfl
theorem d_Md_takeName_46 : decode prog_12_method_12_code 46 = .ok (.aload_n 0, 1) := by decide +kernel
set_option maxRecDepth 100000 in
theorem c_Md_takeName_47 : ct_Md_takeName 47 = ka_get 10 20 := rfl
theorem d_Md_takeName_47 : decode prog_12_method_12_code 47 = .ok (.getfield 126, 3) := by decide +kernel
set_option maxRecDepth 100000 in
theorem c_Md_takeName_50 : ct_Md_takeName 50 = ka_ci (nI 4) 1 := rfl
theorem d_Md_takeName_50 : decode prog_12_method_12_code 50 = .ok (.iconst 4, 1) := by decide +kernel
set_option maxRecDepth 100000 in
theorem c_Md_takeName_51 : ct_Md_takeName 51 = ka_cm (fun x y => x = y) 103 := rfl
theorem d_Md_takeName_51 : decode prog_12_method_12_code 51 = .ok (.if_icmp .eq 52, 3) := by decide +kernel
set_option maxRecDepth 100000 in
theorem c_Md_takeName_54 : ct_Md_takeName 54 = ka_il 4 2 := rfl
theorem d_Md_takeName_54 : decode prog_12_method_12_code 54 = .ok (.iload 4, 2) := by decide +kernel
set_option maxRecDepth 100000 in
theorem c_Md_takeName_56 : ct_Md_takeName 56 = ka_il 3 1 := rfl
theorem d_Md_takeName_56 : decode prog_12_method_12_code 56 = .ok (.iload_n 3, 1) := by decide +kernel
set_option maxRecDepth 100000 in
theorem c_Md_takeName_57 : ct_Md_takeName 57 = ka_ii (fun x y => x - y) := rfl
theorem d_Md_takeName_57 : decode prog_12_method_12_code 57 = .ok (.isub, 1) := by decide +kernel
set_option maxRecDepth 100000 in
theorem c_Md_takeName_58 : ct_Md_takeName 58 = ka_ci (nI 3) 1 := rfl
theorem d_Md_takeName_58 : decode prog_12_method_12_code 58 = .ok (.iconst 3, 1) := by decide +kernel
set_option maxRecDepth 100000 in
theorem c_Md_takeName_59 : ct_Md_takeName 59 = ka_cm (fun x y => x < y) 103 := rfl
theorem d_Md_takeName_59 : decode prog_12_method_12_code 59 = .ok (.if_icmp .lt 44, 3) := by decide +kernel
set_option maxRecDepth 100000 in
theorem c_Md_takeName_62 : ct_Md_takeName 62 = ka_al 0 1 := rfl
theorem d_Md_takeName_62 : decode prog_12_method_12_code 62 = .ok (.aload_n 0, 1) := by decide +kernel
set_option maxRecDepth 100000 in
theorem c_Md_takeName_63 : ct_Md_takeName 63 = ka_il 3 1 := rfl
theorem d_Md_takeName_63 : decode prog_12_method_12_code 63 = .ok (.iload_n 3, 1) := by decide +kernel
set_option maxRecDepth 100000 in
theorem c_Md_takeName_64 : ct_Md_takeName 64 = ka_il 3 1 := rfl
theorem d_Md_takeName_64 : decode prog_12_method_12_code 64 = .ok (.iload_n 3, 1) := by decide +kernel
set_option maxRecDepth 100000 in
theorem c_Md_takeName_65 : ct_Md_takeName 65 = ka_ci (nI 1) 1 := rfl
theorem d_Md_takeName_65 : decode prog_12_method_12_code 65 = .ok (.iconst 1, 1) := by decide +kernel
set_option maxRecDepth 100000 in
theorem c_Md_takeName_66 : ct_Md_takeName 66 = ka_ii (fun x y => x + y) := rfl
theorem d_Md_takeName_66 : decode prog_12_method_12_code 66 = .ok (.iadd, 1) := by decide +kernel
set_option maxRecDepth 100000 in
theorem c_Md_takeName_67 : ct_Md_takeName 67 = ka_cv 105 2 10 0 0 := rfl
theorem d_Md_takeName_67 : decode prog_12_method_12_code 67 = .ok (.invokevirtual 129, 3) := by decide +kernel
set_option maxRecDepth 100000 in
theorem c_Md_takeName_70 : ct_Md_takeName 70 = ka_ci (-1) 1 := rfl
theorem d_Md_takeName_70 : decode prog_12_method_12_code 70 = .ok (.iconst (-1), 1) := by decide +kernel
set_option maxRecDepth 100000 in
theorem c_Md_takeName_71 : ct_Md_takeName 71 = ka_cm (fun x y => x = y) 103 := rfl
theorem d_Md_takeName_71 : decode prog_12_method_12_code 71 = .ok (.if_icmp .eq 32, 3) := by decide +kernel
set_option maxRecDepth 100000 in
theorem c_Md_takeName_74 : ct_Md_takeName 74 = ka_al 0 1 := rfl
theorem d_Md_takeName_74 : decode prog_12_method_12_code 74 = .ok (.aload_n 0, 1) := by decide +kernel
set_option maxRecDepth 100000 in
theorem c_Md_takeName_75 : ct_Md_takeName 75 = ka_get 10 2 := rfl
theorem d_Md_takeName_75 : decode prog_12_method_12_code 75 = .ok (.getfield 7, 3) := by decide +kernel
set_option maxRecDepth 100000 in
theorem c_Md_takeName_78 : ct_Md_takeName 78 = ka_il 3 1 := rfl
theorem d_Md_takeName_78 : decode prog_12_method_12_code 78 = .ok (.iload_n 3, 1) := by decide +kernel
set_option maxRecDepth 100000 in
theorem c_Md_takeName_79 : ct_Md_takeName 79 = ka_ci (nI 1) 1 := rfl
theorem d_Md_takeName_79 : decode prog_12_method_12_code 79 = .ok (.iconst 1, 1) := by decide +kernel
set_option maxRecDepth 100000 in
theorem c_Md_takeName_80 : ct_Md_takeName 80 = ka_ii (fun x y => x + y) := rfl
theorem d_Md_takeName_80 : decode prog_12_method_12_code 80 = .ok (.iadd, 1) := by decide +kernel
set_option maxRecDepth 100000 in
theorem c_Md_takeName_81 : ct_Md_takeName 81 = ka_iald := rfl
theorem d_Md_takeName_81 : decode prog_12_method_12_code 81 = .ok (.iaload, 1) := by decide +kernel
set_option maxRecDepth 100000 in
theorem c_Md_takeName_82 : ct_Md_takeName 82 = ka_ci (nI 61) 2 := rfl
theorem d_Md_takeName_82 : decode prog_12_method_12_code 82 = .ok (.bipush 61, 2) := by decide +kernel
set_option maxRecDepth 100000 in
theorem c_Md_takeName_84 : ct_Md_takeName 84 = ka_cm (fun x y => ¬ x = y) 103 := rfl
theorem d_Md_takeName_84 : decode prog_12_method_12_code 84 = .ok (.if_icmp .ne 19, 3) := by decide +kernel
set_option maxRecDepth 100000 in
theorem c_Md_takeName_87 : ct_Md_takeName 87 = ka_al 0 1 := rfl
theorem d_Md_takeName_87 : decode prog_12_method_12_code 87 = .ok (.aload_n 0, 1) := by decide +kernel
set_option maxRecDepth 100000 in
theorem c_Md_takeName_88 : ct_Md_takeName 88 = ka_il 3 1 := rfl
theorem d_Md_takeName_88 : decode prog_12_method_12_code 88 = .ok (.iload_n 3, 1) := by decide +kernel
set_option maxRecDepth 100000 in
theorem c_Md_takeName_89 : ct_Md_takeName 89 = ka_ci (nI 2) 1 := rfl
theorem d_Md_takeName_89 : decode prog_12_method_12_code 89 = .ok (.iconst 2, 1) := by decide +kernel
set_option maxRecDepth 100000 in
theorem c_Md_takeName_90 : ct_Md_takeName 90 = ka_ii (fun x y => x + y) := rfl
theorem d_Md_takeName_90 : decode prog_12_method_12_code 90 = .ok (.iadd, 1) := by decide +kernel
set_option maxRecDepth 100000 in
theorem c_Md_takeName_91 : ct_Md_takeName 91 = ka_il 4 2 := rfl
theorem d_Md_takeName_91 : decode prog_12_method_12_code 91 = .ok (.iload 4, 2) := by decide +kernel
set_option maxRecDepth 100000 in
theorem c_Md_takeName_93 : ct_Md_takeName 93 = ka_cv 106 2 10 0 0 := rfl
theorem d_Md_takeName_93 : decode prog_12_method_12_code 93 = .ok (.invokevirtual 133, 3) := by decide +kernel
set_option maxRecDepth 100000 in
theorem c_Md_takeName_96 : ct_Md_takeName 96 = ka_cl (-1) 3 := rfl
theorem d_Md_takeName_96 : decode prog_12_method_12_code 96 = .ok (.ldc2_w 120, 3) := by decide +kernel
set_option maxRecDepth 100000 in
theorem c_Md_takeName_99 : ct_Md_takeName 99 = ka_lcmp := rfl
theorem d_Md_takeName_99 : decode prog_12_method_12_code 99 = .ok (.lcmp, 1) := by decide +kernel
set_option maxRecDepth 100000 in
theorem c_Md_takeName_100 : ct_Md_takeName 100 = ka_if (fun x => ¬ x = 0) 105 := rfl
theorem d_Md_takeName_100 : decode prog_12_method_12_code 100 = .ok (.ifCond .ne 5, 3) := by decide +kernel
set_option maxRecDepth 100000 in
theorem c_Md_takeName_103 : ct_Md_takeName 103 = ka_ci (-1) 1 := rfl
theorem d_Md_takeName_103 : decode prog_12_method_12_code 103 = .ok (.iconst (-1), 1) := by decide +kernel
set_option maxRecDepth 100000 in
theorem c_Md_takeName_104 : ct_Md_takeName 104 = ka_ri := rfl
theorem d_Md_takeName_104 : decode prog_12_method_12_code 104 = .ok (.ireturn, 1) := by decide +kernel
set_option maxRecDepth 100000 in
theorem c_Md_takeName_105 : ct_Md_takeName 105 = ka_al 0 1 := rfl
theorem d_Md_takeName_105 : decode prog_12_method_12_code 105 = .ok (.aload_n 0, 1) := by decide +kernel
set_option maxRecDepth 100000 in
theorem c_Md_takeName_106 : ct_Md_takeName 106 = ka_get 10 21 := rfl
theorem d_Md_takeName_106 : decode prog_12_method_12_code 106 = .ok (.getfield 35, 3) := by decide +kernel
set_option maxRecDepth 100000 in
theorem c_Md_takeName_109 : ct_Md_takeName 109 = ka_al 0 1 := rfl
theorem d_Md_takeName_109 : decode prog_12_method_12_code 109 = .ok (.aload_n 0, 1) := by decide +kernel
set_option maxRecDepth 100000 in
theorem c_Md_takeName_110 : ct_Md_takeName 110 = ka_get 10 20 := rfl
theorem d_Md_takeName_110 : decode prog_12_method_12_code 110 = .ok (.getfield 126, 3) := by decide +kernel
set_option maxRecDepth 100000 in
theorem c_Md_takeName_113 : ct_Md_takeName 113 = ka_al 0 1 := rfl
theorem d_Md_takeName_113 : decode prog_12_method_12_code 113 = .ok (.aload_n 0, 1) := by decide +kernel
set_option maxRecDepth 100000 in
theorem c_Md_takeName_114 : ct_Md_takeName 114 = ka_get 10 2 := rfl
theorem d_Md_takeName_114 : decode prog_12_method_12_code 114 = .ok (.getfield 7, 3) := by decide +kernel
set_option maxRecDepth 100000 in
theorem c_Md_takeName_117 : ct_Md_takeName 117 = ka_il 3 1 := rfl
theorem d_Md_takeName_117 : decode prog_12_method_12_code 117 = .ok (.iload_n 3, 1) := by decide +kernel
set_option maxRecDepth 100000 in
theorem c_Md_takeName_118 : ct_Md_takeName 118 = ka_iald := rfl
theorem d_Md_takeName_118 : decode prog_12_method_12_code 118 = .ok (.iaload, 1) := by decide +kernel
set_option maxRecDepth 100000 in
theorem c_Md_takeName_119 : ct_Md_takeName 119 = ka_iast := rfl
theorem d_Md_takeName_119 : decode prog_12_method_12_code 119 = .ok (.iastore, 1) := by decide +kernel
set_option maxRecDepth 100000 in
theorem c_Md_takeName_120 : ct_Md_takeName 120 = ka_al 0 1 := rfl
theorem d_Md_takeName_120 : decode prog_12_method_12_code 120 = .ok (.aload_n 0, 1) := by decide +kernel
set_option maxRecDepth 100000 in
theorem c_Md_takeName_121 : ct_Md_takeName 121 = ka_get 10 22 := rfl
theorem d_Md_takeName_121 : decode prog_12_method_12_code 121 = .ok (.getfield 38, 3) := by decide +kernel
set_option maxRecDepth 100000 in
theorem c_Md_takeName_124 : ct_Md_takeName 124 = ka_al 0 1 := rfl
theorem d_Md_takeName_124 : decode prog_12_method_12_code 124 = .ok (.aload_n 0, 1) := by decide +kernel
set_option maxRecDepth 100000 in
theorem c_Md_takeName_125 : ct_Md_takeName 125 = ka_get 10 20 := rfl
theorem d_Md_takeName_125 : decode prog_12_method_12_code 125 = .ok (.getfield 126, 3) := by decide +kernel
set_option maxRecDepth 100000 in
theorem c_Md_takeName_128 : ct_Md_takeName 128 = ka_al 0 1 := rfl
theorem d_Md_takeName_128 : decode prog_12_method_12_code 128 = .ok (.aload_n 0, 1) := by decide +kernel
set_option maxRecDepth 100000 in
theorem c_Md_takeName_129 : ct_Md_takeName 129 = ka_il 3 1 := rfl
theorem d_Md_takeName_129 : decode prog_12_method_12_code 129 = .ok (.iload_n 3, 1) := by decide +kernel
set_option maxRecDepth 100000 in
theorem c_Md_takeName_130 : ct_Md_takeName 130 = ka_ci (nI 2) 1 := rfl
theorem d_Md_takeName_130 : decode prog_12_method_12_code 130 = .ok (.iconst 2, 1) := by decide +kernel
set_option maxRecDepth 100000 in
theorem c_Md_takeName_131 : ct_Md_takeName 131 = ka_ii (fun x y => x + y) := rfl
theorem d_Md_takeName_131 : decode prog_12_method_12_code 131 = .ok (.iadd, 1) := by decide +kernel
set_option maxRecDepth 100000 in
theorem c_Md_takeName_132 : ct_Md_takeName 132 = ka_il 4 2 := rfl
theorem d_Md_takeName_132 : decode prog_12_method_12_code 132 = .ok (.iload 4, 2) := by decide +kernel
set_option maxRecDepth 100000 in
theorem c_Md_takeName_134 : ct_Md_takeName 134 = ka_cv 106 2 10 0 0 := rfl
theorem d_Md_takeName_134 : decode prog_12_method_12_code 134 = .ok (.invokevirtual 133, 3) := by decide +kernel
set_option maxRecDepth 100000 in
theorem c_Md_takeName_137 : ct_Md_takeName 137 = ka_last := rfl
theorem d_Md_takeName_137 : decode prog_12_method_12_code 137 = .ok (.lastore, 1) := by decide +kernel
set_option maxRecDepth 100000 in
theorem c_Md_takeName_138 : ct_Md_takeName 138 = ka_al 0 1 := rfl
theorem d_Md_takeName_138 : decode prog_12_method_12_code 138 = .ok (.aload_n 0, 1) := by decide +kernel
set_option maxRecDepth 100000 in
theorem c_Md_takeName_139 : ct_Md_takeName 139 = ka_dup := rfl
theorem d_Md_takeName_139 : decode prog_12_method_12_code 139 = .ok (.dup, 1) := by decide +kernel
set_option maxRecDepth 100000 in
theorem c_Md_takeName_140 : ct_Md_takeName 140 = ka_get 10 20 := rfl
theorem d_Md_takeName_140 : decode prog_12_method_12_code 140 = .ok (.getfield 126, 3) := by decide +kernel
set_option maxRecDepth 100000 in
theorem c_Md_takeName_143 : ct_Md_takeName 143 = ka_ci (nI 1) 1 := rfl
theorem d_Md_takeName_143 : decode prog_12_method_12_code 143 = .ok (.iconst 1, 1) := by decide +kernel
set_option maxRecDepth 100000 in
theorem c_Md_takeName_144 : ct_Md_takeName 144 = ka_ii (fun x y => x + y) := rfl
theorem d_Md_takeName_144 : decode prog_12_method_12_code 144 = .ok (.iadd, 1) := by decide +kernel
set_option maxRecDepth 100000 in
theorem c_Md_takeName_145 : ct_Md_takeName 145 = ka_put 10 20 .int := rfl
theorem d_Md_takeName_145 : decode prog_12_method_12_code 145 = .ok (.putfield 126, 3) := by decide +kernel
set_option maxRecDepth 100000 in
theorem c_Md_takeName_148 : ct_Md_takeName 148 = ka_il 4 2 := rfl
theorem d_Md_takeName_148 : decode prog_12_method_12_code 148 = .ok (.iload 4, 2) := by decide +kernel
set_option maxRecDepth 100000 in
theorem c_Md_takeName_150 : ct_Md_takeName 150 = ka_ci (nI 1) 1 := rfl
theorem d_Md_takeName_150 : decode prog_12_method_12_code 150 = .ok (.iconst 1, 1) := by decide +kernel
set_option maxRecDepth 100000 in
theorem c_Md_takeName_151 : ct_Md_takeName 151 = ka_ii (fun x y => x + y) := rfl
theorem d_Md_takeName_151 : decode prog_12_method_12_code 151 = .ok (.iadd, 1) := by decide +kernel
set_option maxRecDepth 100000 in
theorem c_Md_takeName_152 : ct_Md_takeName 152 = ka_is 3 1 := rfl
theorem d_Md_takeName_152 : decode prog_12_method_12_code 152 = .ok (.istore_n 3, 1) := by decide +kernel
set_option maxRecDepth 100000 in
theorem c_Md_takeName_153 : ct_Md_takeName 153 = ka_goto 14 := rfl
theorem d_Md_takeName_153 : decode prog_12_method_12_code 153 = .ok (.goto (-139), 3) := by decide +kernel
set_option maxRecDepth 100000 in
theorem c_Md_takeName_156 : ct_Md_takeName 156 = ka_ci (nI 1) 1 := rfl
theorem d_Md_takeName_156 : decode prog_12_method_12_code 156 = .ok (.iconst 1, 1) := by decide +kernel
set_option maxRecDepth 100000 in
theorem c_Md_takeName_157 : ct_Md_takeName 157 = ka_ri := rfl
theorem d_Md_takeName_157 : decode prog_12_method_12_code 157 = .ok (.ireturn, 1) := by decide +kernel
set_option maxRecDepth 100000 in
set_option maxHeartbeats 4000000 in
theorem s_Md_takeName_60 : ∀ pc, pc < 60 → kc_Sim kt kw_A kw_N kt_cl kt_En "DirectoryDeskModel" prog_12_method_12_code 5 (some .int) "takeName" none pc (ct_Md_takeName pc) := by
  let P : Nat → Prop := fun pc => kc_Sim kt kw_A kw_N kt_cl kt_En "DirectoryDeskModel" prog_12_method_12_code 5 (some .int) "takeName" none pc (ct_Md_takeName pc)
  exact kc_case (P := P) (kc_se c_Md_takeName_59 (sm_cm_lt d_Md_takeName_59 (by decide))) (
  kc_case (P := P) (kc_se c_Md_takeName_58 (sm_iconst d_Md_takeName_58 (by decide))) (
  kc_case (P := P) (kc_se c_Md_takeName_57 (sm_isub d_Md_takeName_57)) (
  kc_case (P := P) (kc_se c_Md_takeName_56 (sm_iload_n d_Md_takeName_56 rfl)) (
  kc_case (P := P) (kc_se rfl sm_no) (
  kc_case (P := P) (kc_se c_Md_takeName_54 (sm_iload d_Md_takeName_54)) (
  kc_case (P := P) (kc_se rfl sm_no) (
  kc_case (P := P) (kc_se rfl sm_no) (
  kc_case (P := P) (kc_se c_Md_takeName_51 (sm_cm_eq d_Md_takeName_51 (by decide))) (
  kc_case (P := P) (kc_se c_Md_takeName_50 (sm_iconst d_Md_takeName_50 (by decide))) (
  kc_case (P := P) (kc_se rfl sm_no) (
  kc_case (P := P) (kc_se rfl sm_no) (
  kc_case (P := P) (kc_se c_Md_takeName_47 (sm_get (ci := 10) (C := "DirectoryDeskModel") (F := kF_Md) rfl kin_Md (Nat.le_of_ble_eq_true rfl) d_Md_takeName_47 (kw3 203 rfl rfl))) (
  kc_case (P := P) (kc_se c_Md_takeName_46 (sm_aload_n d_Md_takeName_46 rfl)) (
  kc_case (P := P) (kc_se rfl sm_no) (
  kc_case (P := P) (kc_se rfl sm_no) (
  kc_case (P := P) (kc_se c_Md_takeName_43 (sm_goto d_Md_takeName_43 (by decide))) (
  kc_case (P := P) (kc_se rfl sm_no) (
  kc_case (P := P) (kc_se rfl sm_no) (
  kc_case (P := P) (kc_se c_Md_takeName_40 (sm_inc d_Md_takeName_40 (by decide) (Nat.le_of_ble_eq_true rfl))) (
  kc_case (P := P) (kc_se rfl sm_no) (
  kc_case (P := P) (kc_se rfl sm_no) (
  kc_case (P := P) (kc_se c_Md_takeName_37 (sm_cm_eq d_Md_takeName_37 (by decide))) (
  kc_case (P := P) (kc_se rfl sm_no) (
  kc_case (P := P) (kc_se c_Md_takeName_35 (sm_bipush d_Md_takeName_35 (by decide))) (
  kc_case (P := P) (kc_se c_Md_takeName_34 (sm_iald d_Md_takeName_34)) (
  kc_case (P := P) (kc_se rfl sm_no) (
  kc_case (P := P) (kc_se c_Md_takeName_32 (sm_iload d_Md_takeName_32)) (
  kc_case (P := P) (kc_se rfl sm_no) (
  kc_case (P := P) (kc_se rfl sm_no) (
  kc_case (P := P) (kc_se c_Md_takeName_29 (sm_get (ci := 10) (C := "DirectoryDeskModel") (F := kF_Md) rfl kin_Md (Nat.le_of_ble_eq_true rfl) d_Md_takeName_29 (kw3 185 rfl rfl))) (
  kc_case (P := P) (kc_se c_Md_takeName_28 (sm_aload_n d_Md_takeName_28 rfl)) (
  kc_case (P := P) (kc_se rfl sm_no) (
  kc_case (P := P) (kc_se rfl sm_no) (
  kc_case (P := P) (kc_se c_Md_takeName_25 (sm_cm_ge d_Md_takeName_25 (by decide))) (
  kc_case (P := P) (kc_se c_Md_takeName_24 (sm_iload_n d_Md_takeName_24 rfl)) (
  kc_case (P := P) (kc_se rfl sm_no) (
  kc_case (P := P) (kc_se c_Md_takeName_22 (sm_iload d_Md_takeName_22)) (
  kc_case (P := P) (kc_se rfl sm_no) (
  kc_case (P := P) (kc_se c_Md_takeName_20 (sm_istore d_Md_takeName_20 (Nat.le_of_ble_eq_true rfl))) (
  kc_case (P := P) (kc_se c_Md_takeName_19 (sm_iload_n d_Md_takeName_19 rfl)) (
  kc_case (P := P) (kc_se rfl sm_no) (
  kc_case (P := P) (kc_se rfl sm_no) (
  kc_case (P := P) (kc_se c_Md_takeName_16 (sm_cm_gt d_Md_takeName_16 (by decide))) (
  kc_case (P := P) (kc_se c_Md_takeName_15 (sm_iload_n d_Md_takeName_15 rfl)) (
  kc_case (P := P) (kc_se c_Md_takeName_14 (sm_iload_n d_Md_takeName_14 rfl)) (
  kc_case (P := P) (kc_se c_Md_takeName_13 (sm_istore_n d_Md_takeName_13 rfl (Nat.le_of_ble_eq_true rfl))) (
  kc_case (P := P) (kc_se c_Md_takeName_12 (sm_iload_n d_Md_takeName_12 rfl)) (
  kc_case (P := P) (kc_se c_Md_takeName_11 (sm_ri d_Md_takeName_11 rfl)) (
  kc_case (P := P) (kc_se c_Md_takeName_10 (sm_iconst d_Md_takeName_10 (by decide))) (
  kc_case (P := P) (kc_se rfl sm_no) (
  kc_case (P := P) (kc_se rfl sm_no) (
  kc_case (P := P) (kc_se c_Md_takeName_7 (sm_cm_ne d_Md_takeName_7 (by decide))) (
  kc_case (P := P) (kc_se c_Md_takeName_6 (sm_iload_n d_Md_takeName_6 rfl)) (
  kc_case (P := P) (kc_se c_Md_takeName_5 (sm_iload_n d_Md_takeName_5 rfl)) (
  kc_case (P := P) (kc_se rfl sm_no) (
  kc_case (P := P) (kc_se rfl sm_no) (
  kc_case (P := P) (kc_se c_Md_takeName_2 (sm_put (ci := 10) (C := "DirectoryDeskModel") (F := kF_Md) rfl kin_Md kty_Md ktk_Md knm_Md (Nat.le_of_ble_eq_true rfl) (by decide +kernel) d_Md_takeName_2 (kw3 203 rfl rfl) rfl)) (
  kc_case (P := P) (kc_se c_Md_takeName_1 (sm_iconst d_Md_takeName_1 (by decide))) (
  kc_case (P := P) (kc_se c_Md_takeName_0 (sm_aload_n d_Md_takeName_0 rfl)) (
  kc_case0))))))))))))))))))))))))))))))))))))))))))))))))))))))))))))
set_option maxRecDepth 100000 in
set_option maxHeartbeats 4000000 in
theorem s_Md_takeName_120 : ∀ pc, pc < 120 → kc_Sim kt kw_A kw_N kt_cl kt_En "DirectoryDeskModel" prog_12_method_12_code 5 (some .int) "takeName" none pc (ct_Md_takeName pc) := by
  let P : Nat → Prop := fun pc => kc_Sim kt kw_A kw_N kt_cl kt_En "DirectoryDeskModel" prog_12_method_12_code 5 (some .int) "takeName" none pc (ct_Md_takeName pc)
  exact kc_case (P := P) (kc_se c_Md_takeName_119 (sm_iast d_Md_takeName_119)) (
  kc_case (P := P) (kc_se c_Md_takeName_118 (sm_iald d_Md_takeName_118)) (
  kc_case (P := P) (kc_se c_Md_takeName_117 (sm_iload_n d_Md_takeName_117 rfl)) (
  kc_case (P := P) (kc_se rfl sm_no) (
  kc_case (P := P) (kc_se rfl sm_no) (
  kc_case (P := P) (kc_se c_Md_takeName_114 (sm_get (ci := 10) (C := "DirectoryDeskModel") (F := kF_Md) rfl kin_Md (Nat.le_of_ble_eq_true rfl) d_Md_takeName_114 (kw3 185 rfl rfl))) (
  kc_case (P := P) (kc_se c_Md_takeName_113 (sm_aload_n d_Md_takeName_113 rfl)) (
  kc_case (P := P) (kc_se rfl sm_no) (
  kc_case (P := P) (kc_se rfl sm_no) (
  kc_case (P := P) (kc_se c_Md_takeName_110 (sm_get (ci := 10) (C := "DirectoryDeskModel") (F := kF_Md) rfl kin_Md (Nat.le_of_ble_eq_true rfl) d_Md_takeName_110 (kw3 203 rfl rfl))) (
  kc_case (P := P) (kc_se c_Md_takeName_109 (sm_aload_n d_Md_takeName_109 rfl)) (
  kc_case (P := P) (kc_se rfl sm_no) (
  kc_case (P := P) (kc_se rfl sm_no) (
  kc_case (P := P) (kc_se c_Md_takeName_106 (sm_get (ci := 10) (C := "DirectoryDeskModel") (F := kF_Md) rfl kin_Md (Nat.le_of_ble_eq_true rfl) d_Md_takeName_106 (kw3 204 rfl rfl))) (
  kc_case (P := P) (kc_se c_Md_takeName_105 (sm_aload_n d_Md_takeName_105 rfl)) (
  kc_case (P := P) (kc_se c_Md_takeName_104 (sm_ri d_Md_takeName_104 rfl)) (
  kc_case (P := P) (kc_se c_Md_takeName_103 (sm_iconst d_Md_takeName_103 (by decide))) (
  kc_case (P := P) (kc_se rfl sm_no) (
  kc_case (P := P) (kc_se rfl sm_no) (
  kc_case (P := P) (kc_se c_Md_takeName_100 (sm_if_ne d_Md_takeName_100 (by decide))) (
  kc_case (P := P) (kc_se c_Md_takeName_99 (sm_lcmp d_Md_takeName_99)) (
  kc_case (P := P) (kc_se rfl sm_no) (
  kc_case (P := P) (kc_se rfl sm_no) (
  kc_case (P := P) (kc_se c_Md_takeName_96 (sm_ldc2 d_Md_takeName_96 (kw4 168 rfl rfl))) (
  kc_case (P := P) (kc_se rfl sm_no) (
  kc_case (P := P) (kc_se rfl sm_no) (
  kc_case (P := P) (kc_se c_Md_takeName_93 (sm_cv (j := 106) rfl rfl kw_o kw_g wc_Md_valueIn (Nat.le_of_ble_eq_true rfl) hd_Md_valueIn (ci := 10) (F := kF_Md) (N := 52) rfl (kw4 164 rfl rfl) wi_Md_valueIn ws_Md_valueIn wn_Md_valueIn d_Md_takeName_93)) (
  kc_case (P := P) (kc_se rfl sm_no) (
  kc_case (P := P) (kc_se c_Md_takeName_91 (sm_iload d_Md_takeName_91)) (
  kc_case (P := P) (kc_se c_Md_takeName_90 (sm_iadd d_Md_takeName_90)) (
  kc_case (P := P) (kc_se c_Md_takeName_89 (sm_iconst d_Md_takeName_89 (by decide))) (
  kc_case (P := P) (kc_se c_Md_takeName_88 (sm_iload_n d_Md_takeName_88 rfl)) (
  kc_case (P := P) (kc_se c_Md_takeName_87 (sm_aload_n d_Md_takeName_87 rfl)) (
  kc_case (P := P) (kc_se rfl sm_no) (
  kc_case (P := P) (kc_se rfl sm_no) (
  kc_case (P := P) (kc_se c_Md_takeName_84 (sm_cm_ne d_Md_takeName_84 (by decide))) (
  kc_case (P := P) (kc_se rfl sm_no) (
  kc_case (P := P) (kc_se c_Md_takeName_82 (sm_bipush d_Md_takeName_82 (by decide))) (
  kc_case (P := P) (kc_se c_Md_takeName_81 (sm_iald d_Md_takeName_81)) (
  kc_case (P := P) (kc_se c_Md_takeName_80 (sm_iadd d_Md_takeName_80)) (
  kc_case (P := P) (kc_se c_Md_takeName_79 (sm_iconst d_Md_takeName_79 (by decide))) (
  kc_case (P := P) (kc_se c_Md_takeName_78 (sm_iload_n d_Md_takeName_78 rfl)) (
  kc_case (P := P) (kc_se rfl sm_no) (
  kc_case (P := P) (kc_se rfl sm_no) (
  kc_case (P := P) (kc_se c_Md_takeName_75 (sm_get (ci := 10) (C := "DirectoryDeskModel") (F := kF_Md) rfl kin_Md (Nat.le_of_ble_eq_true rfl) d_Md_takeName_75 (kw3 185 rfl rfl))) (
  kc_case (P := P) (kc_se c_Md_takeName_74 (sm_aload_n d_Md_takeName_74 rfl)) (
  kc_case (P := P) (kc_se rfl sm_no) (
  kc_case (P := P) (kc_se rfl sm_no) (
  kc_case (P := P) (kc_se c_Md_takeName_71 (sm_cm_eq d_Md_takeName_71 (by decide))) (
  kc_case (P := P) (kc_se c_Md_takeName_70 (sm_iconst d_Md_takeName_70 (by decide))) (
  kc_case (P := P) (kc_se rfl sm_no) (
  kc_case (P := P) (kc_se rfl sm_no) (
  kc_case (P := P) (kc_se c_Md_takeName_67 (sm_cv (j := 105) rfl rfl kw_o kw_g wc_Md_typeIn (Nat.le_of_ble_eq_true rfl) hd_Md_typeIn (ci := 10) (F := kF_Md) (N := 52) rfl (kw4 160 rfl rfl) wi_Md_typeIn ws_Md_typeIn wn_Md_typeIn d_Md_takeName_67)) (
  kc_case (P := P) (kc_se c_Md_takeName_66 (sm_iadd d_Md_takeName_66)) (
  kc_case (P := P) (kc_se c_Md_takeName_65 (sm_iconst d_Md_takeName_65 (by decide))) (
  kc_case (P := P) (kc_se c_Md_takeName_64 (sm_iload_n d_Md_takeName_64 rfl)) (
  kc_case (P := P) (kc_se c_Md_takeName_63 (sm_iload_n d_Md_takeName_63 rfl)) (
  kc_case (P := P) (kc_se c_Md_takeName_62 (sm_aload_n d_Md_takeName_62 rfl)) (
  kc_case (P := P) (kc_se rfl sm_no) (
  kc_case (P := P) (kc_se rfl sm_no) (
  s_Md_takeName_60))))))))))))))))))))))))))))))))))))))))))))))))))))))))))))
set_option maxRecDepth 100000 in
set_option maxHeartbeats 4000000 in
theorem s_Md_takeName_158 : ∀ pc, pc < 158 → kc_Sim kt kw_A kw_N kt_cl kt_En "DirectoryDeskModel" prog_12_method_12_code 5 (some .int) "takeName" none pc (ct_Md_takeName pc) := by
  let P : Nat → Prop := fun pc => kc_Sim kt kw_A kw_N kt_cl kt_En "DirectoryDeskModel" prog_12_method_12_code 5 (some .int) "takeName" none pc (ct_Md_takeName pc)
  exact kc_case (P := P) (kc_se c_Md_takeName_157 (sm_ri d_Md_takeName_157 rfl)) (
  kc_case (P := P) (kc_se c_Md_takeName_156 (sm_iconst d_Md_takeName_156 (by decide))) (
  kc_case (P := P) (kc_se rfl sm_no) (
  kc_case (P := P) (kc_se rfl sm_no) (
  kc_case (P := P) (kc_se c_Md_takeName_153 (sm_goto d_Md_takeName_153 (by decide))) (
  kc_case (P := P) (kc_se c_Md_takeName_152 (sm_istore_n d_Md_takeName_152 rfl (Nat.le_of_ble_eq_true rfl))) (
  kc_case (P := P) (kc_se c_Md_takeName_151 (sm_iadd d_Md_takeName_151)) (
  kc_case (P := P) (kc_se c_Md_takeName_150 (sm_iconst d_Md_takeName_150 (by decide))) (
  kc_case (P := P) (kc_se rfl sm_no) (
  kc_case (P := P) (kc_se c_Md_takeName_148 (sm_iload d_Md_takeName_148)) (
  kc_case (P := P) (kc_se rfl sm_no) (
  kc_case (P := P) (kc_se rfl sm_no) (
  kc_case (P := P) (kc_se c_Md_takeName_145 (sm_put (ci := 10) (C := "DirectoryDeskModel") (F := kF_Md) rfl kin_Md kty_Md ktk_Md knm_Md (Nat.le_of_ble_eq_true rfl) (by decide +kernel) d_Md_takeName_145 (kw3 203 rfl rfl) rfl)) (
  kc_case (P := P) (kc_se c_Md_takeName_144 (sm_iadd d_Md_takeName_144)) (
  kc_case (P := P) (kc_se c_Md_takeName_143 (sm_iconst d_Md_takeName_143 (by decide))) (
  kc_case (P := P) (kc_se rfl sm_no) (
  kc_case (P := P) (kc_se rfl sm_no) (
  kc_case (P := P) (kc_se c_Md_takeName_140 (sm_get (ci := 10) (C := "DirectoryDeskModel") (F := kF_Md) rfl kin_Md (Nat.le_of_ble_eq_true rfl) d_Md_takeName_140 (kw3 203 rfl rfl))) (
  kc_case (P := P) (kc_se c_Md_takeName_139 (sm_dup d_Md_takeName_139)) (
  kc_case (P := P) (kc_se c_Md_takeName_138 (sm_aload_n d_Md_takeName_138 rfl)) (
  kc_case (P := P) (kc_se c_Md_takeName_137 (sm_last d_Md_takeName_137)) (
  kc_case (P := P) (kc_se rfl sm_no) (
  kc_case (P := P) (kc_se rfl sm_no) (
  kc_case (P := P) (kc_se c_Md_takeName_134 (sm_cv (j := 106) rfl rfl kw_o kw_g wc_Md_valueIn (Nat.le_of_ble_eq_true rfl) hd_Md_valueIn (ci := 10) (F := kF_Md) (N := 52) rfl (kw4 164 rfl rfl) wi_Md_valueIn ws_Md_valueIn wn_Md_valueIn d_Md_takeName_134)) (
  kc_case (P := P) (kc_se rfl sm_no) (
  kc_case (P := P) (kc_se c_Md_takeName_132 (sm_iload d_Md_takeName_132)) (
  kc_case (P := P) (kc_se c_Md_takeName_131 (sm_iadd d_Md_takeName_131)) (
  kc_case (P := P) (kc_se c_Md_takeName_130 (sm_iconst d_Md_takeName_130 (by decide))) (
  kc_case (P := P) (kc_se c_Md_takeName_129 (sm_iload_n d_Md_takeName_129 rfl)) (
  kc_case (P := P) (kc_se c_Md_takeName_128 (sm_aload_n d_Md_takeName_128 rfl)) (
  kc_case (P := P) (kc_se rfl sm_no) (
  kc_case (P := P) (kc_se rfl sm_no) (
  kc_case (P := P) (kc_se c_Md_takeName_125 (sm_get (ci := 10) (C := "DirectoryDeskModel") (F := kF_Md) rfl kin_Md (Nat.le_of_ble_eq_true rfl) d_Md_takeName_125 (kw3 203 rfl rfl))) (
  kc_case (P := P) (kc_se c_Md_takeName_124 (sm_aload_n d_Md_takeName_124 rfl)) (
  kc_case (P := P) (kc_se rfl sm_no) (
  kc_case (P := P) (kc_se rfl sm_no) (
  kc_case (P := P) (kc_se c_Md_takeName_121 (sm_get (ci := 10) (C := "DirectoryDeskModel") (F := kF_Md) rfl kin_Md (Nat.le_of_ble_eq_true rfl) d_Md_takeName_121 (kw3 205 rfl rfl))) (
  kc_case (P := P) (kc_se c_Md_takeName_120 (sm_aload_n d_Md_takeName_120 rfl)) (
  s_Md_takeName_120))))))))))))))))))))))))))))))))))))))
set_option maxRecDepth 100000 in
theorem ka_nth_no_Md_takeName (pc : Nat) (h : 158 ≤ pc) : ct_Md_takeName pc = ka_no := ka_nth_ge _ pc (Nat.le_trans (Nat.le_of_eq (by rfl)) h)
theorem s_Md_takeName (pc : Nat) : kc_Sim kt kw_A kw_N kt_cl kt_En "DirectoryDeskModel" prog_12_method_12_code 5 (some .int) "takeName" none pc (ct_Md_takeName pc) := (Nat.lt_or_ge pc 158).elim (s_Md_takeName_158 pc) (fun h => kc_se (ka_nth_no_Md_takeName pc h) sm_no)
def cl_Md_isNamed_0 : List kc_A := [ka_al 0 1, ka_get 10 7, ka_no, ka_no, ka_il 1 1, ka_iald, ka_al 0 1, ka_get 10 20, ka_no, ka_no, ka_il 2 1, ka_ii (fun x y => x - y), ka_cm (fun x y => ¬ x = y) 19, ka_no, ka_no, ka_ci (nI 1) 1, ka_goto 20, ka_no, ka_no, ka_ci (nI 0) 1, ka_is 3 1, ka_il 2 1, ka_is 4 2, ka_no, ka_il 4 2, ka_no, ka_al 0 1, ka_get 10 20, ka_no, ka_no, ka_cm (fun x y => y ≤ x) 96, ka_no, ka_no, ka_il 3 1, ka_if (fun x => x = 0) 96, ka_no, ka_no, ka_al 0 1, ka_get 10 8, ka_no, ka_no, ka_ci (nI 4) 1, ka_il 1 1, ka_ii (fun x y => x * y), ka_il 4 2, ka_no, ka_ii (fun x y => x + y), ka_il 2 1, ka_ii (fun x y => x - y), ka_iald, ka_al 0 1, ka_get 10 21, ka_no, ka_no, ka_il 4 2, ka_no, ka_iald, ka_cm (fun x y => ¬ x = y) 88, ka_no, ka_no]
def cl_Md_isNamed_1 : List kc_A := [ka_al 0 1, ka_get 10 9, ka_no, ka_no, ka_ci (nI 4) 1, ka_il 1 1, ka_ii (fun x y => x * y), ka_il 4 2, ka_no, ka_ii (fun x y => x + y), ka_il 2 1, ka_ii (fun x y => x - y), ka_lald, ka_al 0 1, ka_get 10 22, ka_no, ka_no, ka_il 4 2, ka_no, ka_lald, ka_lcmp, ka_if (fun x => ¬ x = 0) 88, ka_no, ka_no, ka_ci (nI 1) 1, ka_goto 89, ka_no, ka_no, ka_ci (nI 0) 1, ka_is 3 1, ka_inc 4 (nI 1), ka_no, ka_no, ka_goto 24, ka_no, ka_no, ka_il 3 1, ka_rz]
def ct_Md_isNamed : Nat → kc_A := fun pc => ka_nth (cl_Md_isNamed_0 ++ (cl_Md_isNamed_1)) pc
set_option maxRecDepth 100000 in
theorem c_Md_isNamed_0 : ct_Md_isNamed 0 = ka_al 0 1 := rfl
theorem d_Md_isNamed_0 : decode prog_12_method_13_code 0 = .ok (.aload_n 0, 1) := by decide +kernel
set_option maxRecDepth 100000 in
theorem c_Md_isNamed_1 : ct_Md_isNamed 1 = ka_get 10 7 := rfl
theorem d_Md_isNamed_1 : decode prog_12_method_13_code 1 = .ok (.getfield 16, 3) := by decide +kernel
set_option maxRecDepth 100000 in
theorem c_Md_isNamed_4 : ct_Md_isNamed 4 = ka_il 1 1 := rfl
theorem d_Md_isNamed_4 : decode prog_12_method_13_code 4 = .ok (.iload_n 1, 1) := by decide +kernel
set_option maxRecDepth 100000 in
theorem c_Md_isNamed_5 : ct_Md_isNamed 5 = ka_iald := rfl
theorem d_Md_isNamed_5 : decode prog_12_method_13_code 5 = .ok (.iaload, 1) := by decide +kernel
set_option maxRecDepth 100000 in
theorem c_Md_isNamed_6 : ct_Md_isNamed 6 = ka_al 0 1 := rfl
theorem d_Md_isNamed_6 : decode prog_12_method_13_code 6 = .ok (.aload_n 0, 1) := by decide +kernel
set_option maxRecDepth 100000 in
theorem c_Md_isNamed_7 : ct_Md_isNamed 7 = ka_get 10 20 := rfl
theorem d_Md_isNamed_7 : decode prog_12_method_13_code 7 = .ok (.getfield 126, 3) := by decide +kernel
set_option maxRecDepth 100000 in
theorem c_Md_isNamed_10 : ct_Md_isNamed 10 = ka_il 2 1 := rfl
theorem d_Md_isNamed_10 : decode prog_12_method_13_code 10 = .ok (.iload_n 2, 1) := by decide +kernel
set_option maxRecDepth 100000 in
theorem c_Md_isNamed_11 : ct_Md_isNamed 11 = ka_ii (fun x y => x - y) := rfl
theorem d_Md_isNamed_11 : decode prog_12_method_13_code 11 = .ok (.isub, 1) := by decide +kernel
set_option maxRecDepth 100000 in
theorem c_Md_isNamed_12 : ct_Md_isNamed 12 = ka_cm (fun x y => ¬ x = y) 19 := rfl
theorem d_Md_isNamed_12 : decode prog_12_method_13_code 12 = .ok (.if_icmp .ne 7, 3) := by decide +kernel
set_option maxRecDepth 100000 in
theorem c_Md_isNamed_15 : ct_Md_isNamed 15 = ka_ci (nI 1) 1 := rfl
theorem d_Md_isNamed_15 : decode prog_12_method_13_code 15 = .ok (.iconst 1, 1) := by decide +kernel
set_option maxRecDepth 100000 in
theorem c_Md_isNamed_16 : ct_Md_isNamed 16 = ka_goto 20 := rfl
theorem d_Md_isNamed_16 : decode prog_12_method_13_code 16 = .ok (.goto 4, 3) := by decide +kernel
set_option maxRecDepth 100000 in
theorem c_Md_isNamed_19 : ct_Md_isNamed 19 = ka_ci (nI 0) 1 := rfl
theorem d_Md_isNamed_19 : decode prog_12_method_13_code 19 = .ok (.iconst 0, 1) := by decide +kernel
set_option maxRecDepth 100000 in
theorem c_Md_isNamed_20 : ct_Md_isNamed 20 = ka_is 3 1 := rfl
theorem d_Md_isNamed_20 : decode prog_12_method_13_code 20 = .ok (.istore_n 3, 1) := by decide +kernel
set_option maxRecDepth 100000 in
theorem c_Md_isNamed_21 : ct_Md_isNamed 21 = ka_il 2 1 := rfl
theorem d_Md_isNamed_21 : decode prog_12_method_13_code 21 = .ok (.iload_n 2, 1) := by decide +kernel
set_option maxRecDepth 100000 in
theorem c_Md_isNamed_22 : ct_Md_isNamed 22 = ka_is 4 2 := rfl
theorem d_Md_isNamed_22 : decode prog_12_method_13_code 22 = .ok (.istore 4, 2) := by decide +kernel
set_option maxRecDepth 100000 in
theorem c_Md_isNamed_24 : ct_Md_isNamed 24 = ka_il 4 2 := rfl
theorem d_Md_isNamed_24 : decode prog_12_method_13_code 24 = .ok (.iload 4, 2) := by decide +kernel
set_option maxRecDepth 100000 in
theorem c_Md_isNamed_26 : ct_Md_isNamed 26 = ka_al 0 1 := rfl
theorem d_Md_isNamed_26 : decode prog_12_method_13_code 26 = .ok (.aload_n 0, 1) := by decide +kernel
set_option maxRecDepth 100000 in
theorem c_Md_isNamed_27 : ct_Md_isNamed 27 = ka_get 10 20 := rfl
theorem d_Md_isNamed_27 : decode prog_12_method_13_code 27 = .ok (.getfield 126, 3) := by decide +kernel
set_option maxRecDepth 100000 in
theorem c_Md_isNamed_30 : ct_Md_isNamed 30 = ka_cm (fun x y => y ≤ x) 96 := rfl
theorem d_Md_isNamed_30 : decode prog_12_method_13_code 30 = .ok (.if_icmp .ge 66, 3) := by decide +kernel
set_option maxRecDepth 100000 in
theorem c_Md_isNamed_33 : ct_Md_isNamed 33 = ka_il 3 1 := rfl
theorem d_Md_isNamed_33 : decode prog_12_method_13_code 33 = .ok (.iload_n 3, 1) := by decide +kernel
set_option maxRecDepth 100000 in
theorem c_Md_isNamed_34 : ct_Md_isNamed 34 = ka_if (fun x => x = 0) 96 := rfl
theorem d_Md_isNamed_34 : decode prog_12_method_13_code 34 = .ok (.ifCond .eq 62, 3) := by decide +kernel
set_option maxRecDepth 100000 in
theorem c_Md_isNamed_37 : ct_Md_isNamed 37 = ka_al 0 1 := rfl
theorem d_Md_isNamed_37 : decode prog_12_method_13_code 37 = .ok (.aload_n 0, 1) := by decide +kernel
set_option maxRecDepth 100000 in
theorem c_Md_isNamed_38 : ct_Md_isNamed 38 = ka_get 10 8 := rfl
theorem d_Md_isNamed_38 : decode prog_12_method_13_code 38 = .ok (.getfield 19, 3) := by decide +kernel
set_option maxRecDepth 100000 in
theorem c_Md_isNamed_41 : ct_Md_isNamed 41 = ka_ci (nI 4) 1 := rfl
theorem d_Md_isNamed_41 : decode prog_12_method_13_code 41 = .ok (.iconst 4, 1) := by decide +kernel
set_option maxRecDepth 100000 in
theorem c_Md_isNamed_42 : ct_Md_isNamed 42 = ka_il 1 1 := rfl
theorem d_Md_isNamed_42 : decode prog_12_method_13_code 42 = .ok (.iload_n 1, 1) := by decide +kernel
set_option maxRecDepth 100000 in
theorem c_Md_isNamed_43 : ct_Md_isNamed 43 = ka_ii (fun x y => x * y) := rfl
theorem d_Md_isNamed_43 : decode prog_12_method_13_code 43 = .ok (.imul, 1) := by decide +kernel
set_option maxRecDepth 100000 in
theorem c_Md_isNamed_44 : ct_Md_isNamed 44 = ka_il 4 2 := rfl
theorem d_Md_isNamed_44 : decode prog_12_method_13_code 44 = .ok (.iload 4, 2) := by decide +kernel
set_option maxRecDepth 100000 in
theorem c_Md_isNamed_46 : ct_Md_isNamed 46 = ka_ii (fun x y => x + y) := rfl
theorem d_Md_isNamed_46 : decode prog_12_method_13_code 46 = .ok (.iadd, 1) := by decide +kernel
set_option maxRecDepth 100000 in
theorem c_Md_isNamed_47 : ct_Md_isNamed 47 = ka_il 2 1 := rfl
theorem d_Md_isNamed_47 : decode prog_12_method_13_code 47 = .ok (.iload_n 2, 1) := by decide +kernel
set_option maxRecDepth 100000 in
theorem c_Md_isNamed_48 : ct_Md_isNamed 48 = ka_ii (fun x y => x - y) := rfl
theorem d_Md_isNamed_48 : decode prog_12_method_13_code 48 = .ok (.isub, 1) := by decide +kernel
set_option maxRecDepth 100000 in
theorem c_Md_isNamed_49 : ct_Md_isNamed 49 = ka_iald := rfl
theorem d_Md_isNamed_49 : decode prog_12_method_13_code 49 = .ok (.iaload, 1) := by decide +kernel
set_option maxRecDepth 100000 in
theorem c_Md_isNamed_50 : ct_Md_isNamed 50 = ka_al 0 1 := rfl
theorem d_Md_isNamed_50 : decode prog_12_method_13_code 50 = .ok (.aload_n 0, 1) := by decide +kernel
set_option maxRecDepth 100000 in
theorem c_Md_isNamed_51 : ct_Md_isNamed 51 = ka_get 10 21 := rfl
theorem d_Md_isNamed_51 : decode prog_12_method_13_code 51 = .ok (.getfield 35, 3) := by decide +kernel
set_option maxRecDepth 100000 in
theorem c_Md_isNamed_54 : ct_Md_isNamed 54 = ka_il 4 2 := rfl
theorem d_Md_isNamed_54 : decode prog_12_method_13_code 54 = .ok (.iload 4, 2) := by decide +kernel
set_option maxRecDepth 100000 in
theorem c_Md_isNamed_56 : ct_Md_isNamed 56 = ka_iald := rfl
theorem d_Md_isNamed_56 : decode prog_12_method_13_code 56 = .ok (.iaload, 1) := by decide +kernel
set_option maxRecDepth 100000 in
theorem c_Md_isNamed_57 : ct_Md_isNamed 57 = ka_cm (fun x y => ¬ x = y) 88 := rfl
theorem d_Md_isNamed_57 : decode prog_12_method_13_code 57 = .ok (.if_icmp .ne 31, 3) := by decide +kernel
set_option maxRecDepth 100000 in
theorem c_Md_isNamed_60 : ct_Md_isNamed 60 = ka_al 0 1 := rfl
theorem d_Md_isNamed_60 : decode prog_12_method_13_code 60 = .ok (.aload_n 0, 1) := by decide +kernel
set_option maxRecDepth 100000 in
theorem c_Md_isNamed_61 : ct_Md_isNamed 61 = ka_get 10 9 := rfl
theorem d_Md_isNamed_61 : decode prog_12_method_13_code 61 = .ok (.getfield 22, 3) := by decide +kernel
set_option maxRecDepth 100000 in
theorem c_Md_isNamed_64 : ct_Md_isNamed 64 = ka_ci (nI 4) 1 := rfl
theorem d_Md_isNamed_64 : decode prog_12_method_13_code 64 = .ok (.iconst 4, 1) := by decide +kernel
set_option maxRecDepth 100000 in
theorem c_Md_isNamed_65 : ct_Md_isNamed 65 = ka_il 1 1 := rfl
theorem d_Md_isNamed_65 : decode prog_12_method_13_code 65 = .ok (.iload_n 1, 1) := by decide +kernel
set_option maxRecDepth 100000 in
theorem c_Md_isNamed_66 : ct_Md_isNamed 66 = ka_ii (fun x y => x * y) := rfl
theorem d_Md_isNamed_66 : decode prog_12_method_13_code 66 = .ok (.imul, 1) := by decide +kernel
set_option maxRecDepth 100000 in
theorem c_Md_isNamed_67 : ct_Md_isNamed 67 = ka_il 4 2 := rfl
theorem d_Md_isNamed_67 : decode prog_12_method_13_code 67 = .ok (.iload 4, 2) := by decide +kernel
set_option maxRecDepth 100000 in
theorem c_Md_isNamed_69 : ct_Md_isNamed 69 = ka_ii (fun x y => x + y) := rfl
theorem d_Md_isNamed_69 : decode prog_12_method_13_code 69 = .ok (.iadd, 1) := by decide +kernel
set_option maxRecDepth 100000 in
theorem c_Md_isNamed_70 : ct_Md_isNamed 70 = ka_il 2 1 := rfl
theorem d_Md_isNamed_70 : decode prog_12_method_13_code 70 = .ok (.iload_n 2, 1) := by decide +kernel
set_option maxRecDepth 100000 in
theorem c_Md_isNamed_71 : ct_Md_isNamed 71 = ka_ii (fun x y => x - y) := rfl
theorem d_Md_isNamed_71 : decode prog_12_method_13_code 71 = .ok (.isub, 1) := by decide +kernel
set_option maxRecDepth 100000 in
theorem c_Md_isNamed_72 : ct_Md_isNamed 72 = ka_lald := rfl
theorem d_Md_isNamed_72 : decode prog_12_method_13_code 72 = .ok (.laload, 1) := by decide +kernel
set_option maxRecDepth 100000 in
theorem c_Md_isNamed_73 : ct_Md_isNamed 73 = ka_al 0 1 := rfl
theorem d_Md_isNamed_73 : decode prog_12_method_13_code 73 = .ok (.aload_n 0, 1) := by decide +kernel
set_option maxRecDepth 100000 in
theorem c_Md_isNamed_74 : ct_Md_isNamed 74 = ka_get 10 22 := rfl
theorem d_Md_isNamed_74 : decode prog_12_method_13_code 74 = .ok (.getfield 38, 3) := by decide +kernel
set_option maxRecDepth 100000 in
theorem c_Md_isNamed_77 : ct_Md_isNamed 77 = ka_il 4 2 := rfl
theorem d_Md_isNamed_77 : decode prog_12_method_13_code 77 = .ok (.iload 4, 2) := by decide +kernel
set_option maxRecDepth 100000 in
theorem c_Md_isNamed_79 : ct_Md_isNamed 79 = ka_lald := rfl
theorem d_Md_isNamed_79 : decode prog_12_method_13_code 79 = .ok (.laload, 1) := by decide +kernel
set_option maxRecDepth 100000 in
theorem c_Md_isNamed_80 : ct_Md_isNamed 80 = ka_lcmp := rfl
theorem d_Md_isNamed_80 : decode prog_12_method_13_code 80 = .ok (.lcmp, 1) := by decide +kernel
set_option maxRecDepth 100000 in
theorem c_Md_isNamed_81 : ct_Md_isNamed 81 = ka_if (fun x => ¬ x = 0) 88 := rfl
theorem d_Md_isNamed_81 : decode prog_12_method_13_code 81 = .ok (.ifCond .ne 7, 3) := by decide +kernel
set_option maxRecDepth 100000 in
theorem c_Md_isNamed_84 : ct_Md_isNamed 84 = ka_ci (nI 1) 1 := rfl
theorem d_Md_isNamed_84 : decode prog_12_method_13_code 84 = .ok (.iconst 1, 1) := by decide +kernel
set_option maxRecDepth 100000 in
theorem c_Md_isNamed_85 : ct_Md_isNamed 85 = ka_goto 89 := rfl
theorem d_Md_isNamed_85 : decode prog_12_method_13_code 85 = .ok (.goto 4, 3) := by decide +kernel
set_option maxRecDepth 100000 in
theorem c_Md_isNamed_88 : ct_Md_isNamed 88 = ka_ci (nI 0) 1 := rfl
theorem d_Md_isNamed_88 : decode prog_12_method_13_code 88 = .ok (.iconst 0, 1) := by decide +kernel
set_option maxRecDepth 100000 in
theorem c_Md_isNamed_89 : ct_Md_isNamed 89 = ka_is 3 1 := rfl
theorem d_Md_isNamed_89 : decode prog_12_method_13_code 89 = .ok (.istore_n 3, 1) := by decide +kernel
set_option maxRecDepth 100000 in
theorem c_Md_isNamed_90 : ct_Md_isNamed 90 = ka_inc 4 (nI 1) := rfl
theorem d_Md_isNamed_90 : decode prog_12_method_13_code 90 = .ok (.iinc 4 1, 3) := by decide +kernel
set_option maxRecDepth 100000 in
theorem c_Md_isNamed_93 : ct_Md_isNamed 93 = ka_goto 24 := rfl
theorem d_Md_isNamed_93 : decode prog_12_method_13_code 93 = .ok (.goto (-69), 3) := by decide +kernel
set_option maxRecDepth 100000 in
theorem c_Md_isNamed_96 : ct_Md_isNamed 96 = ka_il 3 1 := rfl
theorem d_Md_isNamed_96 : decode prog_12_method_13_code 96 = .ok (.iload_n 3, 1) := by decide +kernel
set_option maxRecDepth 100000 in
theorem c_Md_isNamed_97 : ct_Md_isNamed 97 = ka_rz := rfl
theorem d_Md_isNamed_97 : decode prog_12_method_13_code 97 = .ok (.ireturn, 1) := by decide +kernel
set_option maxRecDepth 100000 in
set_option maxHeartbeats 4000000 in
theorem s_Md_isNamed_60 : ∀ pc, pc < 60 → kc_Sim kt kw_A kw_N kt_cl kt_En "DirectoryDeskModel" prog_12_method_13_code 5 (some .boolean) "isNamed" none pc (ct_Md_isNamed pc) := by
  let P : Nat → Prop := fun pc => kc_Sim kt kw_A kw_N kt_cl kt_En "DirectoryDeskModel" prog_12_method_13_code 5 (some .boolean) "isNamed" none pc (ct_Md_isNamed pc)
  exact kc_case (P := P) (kc_se rfl sm_no) (
  kc_case (P := P) (kc_se rfl sm_no) (
  kc_case (P := P) (kc_se c_Md_isNamed_57 (sm_cm_ne d_Md_isNamed_57 (by decide))) (
  kc_case (P := P) (kc_se c_Md_isNamed_56 (sm_iald d_Md_isNamed_56)) (
  kc_case (P := P) (kc_se rfl sm_no) (
  kc_case (P := P) (kc_se c_Md_isNamed_54 (sm_iload d_Md_isNamed_54)) (
  kc_case (P := P) (kc_se rfl sm_no) (
  kc_case (P := P) (kc_se rfl sm_no) (
  kc_case (P := P) (kc_se c_Md_isNamed_51 (sm_get (ci := 10) (C := "DirectoryDeskModel") (F := kF_Md) rfl kin_Md (Nat.le_of_ble_eq_true rfl) d_Md_isNamed_51 (kw3 204 rfl rfl))) (
  kc_case (P := P) (kc_se c_Md_isNamed_50 (sm_aload_n d_Md_isNamed_50 rfl)) (
  kc_case (P := P) (kc_se c_Md_isNamed_49 (sm_iald d_Md_isNamed_49)) (
  kc_case (P := P) (kc_se c_Md_isNamed_48 (sm_isub d_Md_isNamed_48)) (
  kc_case (P := P) (kc_se c_Md_isNamed_47 (sm_iload_n d_Md_isNamed_47 rfl)) (
  kc_case (P := P) (kc_se c_Md_isNamed_46 (sm_iadd d_Md_isNamed_46)) (
  kc_case (P := P) (kc_se rfl sm_no) (
  kc_case (P := P) (kc_se c_Md_isNamed_44 (sm_iload d_Md_isNamed_44)) (
  kc_case (P := P) (kc_se c_Md_isNamed_43 (sm_imul d_Md_isNamed_43)) (
  kc_case (P := P) (kc_se c_Md_isNamed_42 (sm_iload_n d_Md_isNamed_42 rfl)) (
  kc_case (P := P) (kc_se c_Md_isNamed_41 (sm_iconst d_Md_isNamed_41 (by decide))) (
  kc_case (P := P) (kc_se rfl sm_no) (
  kc_case (P := P) (kc_se rfl sm_no) (
  kc_case (P := P) (kc_se c_Md_isNamed_38 (sm_get (ci := 10) (C := "DirectoryDeskModel") (F := kF_Md) rfl kin_Md (Nat.le_of_ble_eq_true rfl) d_Md_isNamed_38 (kw3 191 rfl rfl))) (
  kc_case (P := P) (kc_se c_Md_isNamed_37 (sm_aload_n d_Md_isNamed_37 rfl)) (
  kc_case (P := P) (kc_se rfl sm_no) (
  kc_case (P := P) (kc_se rfl sm_no) (
  kc_case (P := P) (kc_se c_Md_isNamed_34 (sm_if_eq d_Md_isNamed_34 (by decide))) (
  kc_case (P := P) (kc_se c_Md_isNamed_33 (sm_iload_n d_Md_isNamed_33 rfl)) (
  kc_case (P := P) (kc_se rfl sm_no) (
  kc_case (P := P) (kc_se rfl sm_no) (
  kc_case (P := P) (kc_se c_Md_isNamed_30 (sm_cm_ge d_Md_isNamed_30 (by decide))) (
  kc_case (P := P) (kc_se rfl sm_no) (
  kc_case (P := P) (kc_se rfl sm_no) (
  kc_case (P := P) (kc_se c_Md_isNamed_27 (sm_get (ci := 10) (C := "DirectoryDeskModel") (F := kF_Md) rfl kin_Md (Nat.le_of_ble_eq_true rfl) d_Md_isNamed_27 (kw3 203 rfl rfl))) (
  kc_case (P := P) (kc_se c_Md_isNamed_26 (sm_aload_n d_Md_isNamed_26 rfl)) (
  kc_case (P := P) (kc_se rfl sm_no) (
  kc_case (P := P) (kc_se c_Md_isNamed_24 (sm_iload d_Md_isNamed_24)) (
  kc_case (P := P) (kc_se rfl sm_no) (
  kc_case (P := P) (kc_se c_Md_isNamed_22 (sm_istore d_Md_isNamed_22 (Nat.le_of_ble_eq_true rfl))) (
  kc_case (P := P) (kc_se c_Md_isNamed_21 (sm_iload_n d_Md_isNamed_21 rfl)) (
  kc_case (P := P) (kc_se c_Md_isNamed_20 (sm_istore_n d_Md_isNamed_20 rfl (Nat.le_of_ble_eq_true rfl))) (
  kc_case (P := P) (kc_se c_Md_isNamed_19 (sm_iconst d_Md_isNamed_19 (by decide))) (
  kc_case (P := P) (kc_se rfl sm_no) (
  kc_case (P := P) (kc_se rfl sm_no) (
  kc_case (P := P) (kc_se c_Md_isNamed_16 (sm_goto d_Md_isNamed_16 (by decide))) (
  kc_case (P := P) (kc_se c_Md_isNamed_15 (sm_iconst d_Md_isNamed_15 (by decide))) (
  kc_case (P := P) (kc_se rfl sm_no) (
  kc_case (P := P) (kc_se rfl sm_no) (
  kc_case (P := P) (kc_se c_Md_isNamed_12 (sm_cm_ne d_Md_isNamed_12 (by decide))) (
  kc_case (P := P) (kc_se c_Md_isNamed_11 (sm_isub d_Md_isNamed_11)) (
  kc_case (P := P) (kc_se c_Md_isNamed_10 (sm_iload_n d_Md_isNamed_10 rfl)) (
  kc_case (P := P) (kc_se rfl sm_no) (
  kc_case (P := P) (kc_se rfl sm_no) (
  kc_case (P := P) (kc_se c_Md_isNamed_7 (sm_get (ci := 10) (C := "DirectoryDeskModel") (F := kF_Md) rfl kin_Md (Nat.le_of_ble_eq_true rfl) d_Md_isNamed_7 (kw3 203 rfl rfl))) (
  kc_case (P := P) (kc_se c_Md_isNamed_6 (sm_aload_n d_Md_isNamed_6 rfl)) (
  kc_case (P := P) (kc_se c_Md_isNamed_5 (sm_iald d_Md_isNamed_5)) (
  kc_case (P := P) (kc_se c_Md_isNamed_4 (sm_iload_n d_Md_isNamed_4 rfl)) (
  kc_case (P := P) (kc_se rfl sm_no) (
  kc_case (P := P) (kc_se rfl sm_no) (
  kc_case (P := P) (kc_se c_Md_isNamed_1 (sm_get (ci := 10) (C := "DirectoryDeskModel") (F := kF_Md) rfl kin_Md (Nat.le_of_ble_eq_true rfl) d_Md_isNamed_1 (kw3 190 rfl rfl))) (
  kc_case (P := P) (kc_se c_Md_isNamed_0 (sm_aload_n d_Md_isNamed_0 rfl)) (
  kc_case0))))))))))))))))))))))))))))))))))))))))))))))))))))))))))))
set_option maxRecDepth 100000 in
set_option maxHeartbeats 4000000 in
theorem s_Md_isNamed_98 : ∀ pc, pc < 98 → kc_Sim kt kw_A kw_N kt_cl kt_En "DirectoryDeskModel" prog_12_method_13_code 5 (some .boolean) "isNamed" none pc (ct_Md_isNamed pc) := by
  let P : Nat → Prop := fun pc => kc_Sim kt kw_A kw_N kt_cl kt_En "DirectoryDeskModel" prog_12_method_13_code 5 (some .boolean) "isNamed" none pc (ct_Md_isNamed pc)
  exact kc_case (P := P) (kc_se c_Md_isNamed_97 (sm_rz d_Md_isNamed_97 rfl)) (
  kc_case (P := P) (kc_se c_Md_isNamed_96 (sm_iload_n d_Md_isNamed_96 rfl)) (
  kc_case (P := P) (kc_se rfl sm_no) (
  kc_case (P := P) (kc_se rfl sm_no) (
  kc_case (P := P) (kc_se c_Md_isNamed_93 (sm_goto d_Md_isNamed_93 (by decide))) (
  kc_case (P := P) (kc_se rfl sm_no) (
  kc_case (P := P) (kc_se rfl sm_no) (
  kc_case (P := P) (kc_se c_Md_isNamed_90 (sm_inc d_Md_isNamed_90 (by decide) (Nat.le_of_ble_eq_true rfl))) (
  kc_case (P := P) (kc_se c_Md_isNamed_89 (sm_istore_n d_Md_isNamed_89 rfl (Nat.le_of_ble_eq_true rfl))) (
  kc_case (P := P) (kc_se c_Md_isNamed_88 (sm_iconst d_Md_isNamed_88 (by decide))) (
  kc_case (P := P) (kc_se rfl sm_no) (
  kc_case (P := P) (kc_se rfl sm_no) (
  kc_case (P := P) (kc_se c_Md_isNamed_85 (sm_goto d_Md_isNamed_85 (by decide))) (
  kc_case (P := P) (kc_se c_Md_isNamed_84 (sm_iconst d_Md_isNamed_84 (by decide))) (
  kc_case (P := P) (kc_se rfl sm_no) (
  kc_case (P := P) (kc_se rfl sm_no) (
  kc_case (P := P) (kc_se c_Md_isNamed_81 (sm_if_ne d_Md_isNamed_81 (by decide))) (
  kc_case (P := P) (kc_se c_Md_isNamed_80 (sm_lcmp d_Md_isNamed_80)) (
  kc_case (P := P) (kc_se c_Md_isNamed_79 (sm_lald d_Md_isNamed_79)) (
  kc_case (P := P) (kc_se rfl sm_no) (
  kc_case (P := P) (kc_se c_Md_isNamed_77 (sm_iload d_Md_isNamed_77)) (
  kc_case (P := P) (kc_se rfl sm_no) (
  kc_case (P := P) (kc_se rfl sm_no) (
  kc_case (P := P) (kc_se c_Md_isNamed_74 (sm_get (ci := 10) (C := "DirectoryDeskModel") (F := kF_Md) rfl kin_Md (Nat.le_of_ble_eq_true rfl) d_Md_isNamed_74 (kw3 205 rfl rfl))) (
  kc_case (P := P) (kc_se c_Md_isNamed_73 (sm_aload_n d_Md_isNamed_73 rfl)) (
  kc_case (P := P) (kc_se c_Md_isNamed_72 (sm_lald d_Md_isNamed_72)) (
  kc_case (P := P) (kc_se c_Md_isNamed_71 (sm_isub d_Md_isNamed_71)) (
  kc_case (P := P) (kc_se c_Md_isNamed_70 (sm_iload_n d_Md_isNamed_70 rfl)) (
  kc_case (P := P) (kc_se c_Md_isNamed_69 (sm_iadd d_Md_isNamed_69)) (
  kc_case (P := P) (kc_se rfl sm_no) (
  kc_case (P := P) (kc_se c_Md_isNamed_67 (sm_iload d_Md_isNamed_67)) (
  kc_case (P := P) (kc_se c_Md_isNamed_66 (sm_imul d_Md_isNamed_66)) (
  kc_case (P := P) (kc_se c_Md_isNamed_65 (sm_iload_n d_Md_isNamed_65 rfl)) (
  kc_case (P := P) (kc_se c_Md_isNamed_64 (sm_iconst d_Md_isNamed_64 (by decide))) (
  kc_case (P := P) (kc_se rfl sm_no) (
  kc_case (P := P) (kc_se rfl sm_no) (
  kc_case (P := P) (kc_se c_Md_isNamed_61 (sm_get (ci := 10) (C := "DirectoryDeskModel") (F := kF_Md) rfl kin_Md (Nat.le_of_ble_eq_true rfl) d_Md_isNamed_61 (kw3 192 rfl rfl))) (
  kc_case (P := P) (kc_se c_Md_isNamed_60 (sm_aload_n d_Md_isNamed_60 rfl)) (
  s_Md_isNamed_60))))))))))))))))))))))))))))))))))))))
set_option maxRecDepth 100000 in
theorem ka_nth_no_Md_isNamed (pc : Nat) (h : 98 ≤ pc) : ct_Md_isNamed pc = ka_no := ka_nth_ge _ pc (Nat.le_trans (Nat.le_of_eq (by rfl)) h)
theorem s_Md_isNamed (pc : Nat) : kc_Sim kt kw_A kw_N kt_cl kt_En "DirectoryDeskModel" prog_12_method_13_code 5 (some .boolean) "isNamed" none pc (ct_Md_isNamed pc) := (Nat.lt_or_ge pc 98).elim (s_Md_isNamed_98 pc) (fun h => kc_se (ka_nth_no_Md_isNamed pc h) sm_no)
