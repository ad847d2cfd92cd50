/-! code of methods, decode rows, and that the JVM follows (by program) -/
def cl_Md_readLeaf_0 : List kc_A := [ka_al 0 1, ka_get 10 15, ka_no, ka_no, ka_is 2 1, ka_al 0 1, ka_get 10 41, ka_no, ka_no, ka_il 1 1, ka_iald, ka_ci (nI 135) 3, ka_no, ka_no, ka_cm (fun x y => ¬ x = y) 34, ka_no, ka_no, ka_al 0 1, ka_get 10 43, ka_no, ka_no, ka_il 1 1, ka_al 0 1, ka_al 0 1, ka_get 10 14, ka_no, ka_no, ka_il 2 1, ka_cv 105 2 10 0 0, ka_no, ka_no, ka_iast, ka_ci (nI 1) 1, ka_rz, ka_al 0 1, ka_al 0 1, ka_get 10 14, ka_no, ka_no, ka_il 2 1, ka_ci (nI 4) 1, ka_cv 100 3 10 0 0, ka_no, ka_no, ka_if (fun x => ¬ x = 0) 49, ka_no, ka_no, ka_ci (nI 0) 1, ka_rz, ka_al 0 1, ka_get 10 43, ka_no, ka_no, ka_il 1 1, ka_al 0 1, ka_al 0 1, ka_get 10 14, ka_no, ka_no, ka_al 0 1]
def cl_Md_readLeaf_1 : List kc_A := [ka_get 10 15, ka_no, ka_no, ka_cv 105 2 10 0 0, ka_no, ka_no, ka_iast, ka_al 0 1, ka_al 0 1, ka_get 10 15, ka_no, ka_no, ka_il 2 1, ka_ci (nI 4) 1, ka_cv 100 3 10 0 0, ka_no, ka_no, ka_if (fun x => x = 0) 88, ka_no, ka_no, ka_al 0 1, ka_get 10 15, ka_no, ka_no, ka_il 2 1, ka_cm (fun x y => x = y) 90, ka_no, ka_no, ka_ci (nI 0) 1, ka_rz, ka_al 0 1, ka_get 10 44, ka_no, ka_no, ka_il 1 1, ka_al 0 1, ka_al 0 1, ka_get 10 14, ka_no, ka_no, ka_al 0 1, ka_get 10 15, ka_no, ka_no, ka_cv 106 2 10 0 0, ka_no, ka_no, ka_last, ka_ci (nI 1) 1, ka_rz]
def ct_Md_readLeaf : Nat → kc_A := fun pc => ka_nth (cl_Md_readLeaf_0 ++ (cl_Md_readLeaf_1)) pc
set_option maxRecDepth 100000 in
theorem c_Md_readLeaf_0 : ct_Md_readLeaf 0 = ka_al 0 1 := rfl
theorem d_Md_readLeaf_0 : decode prog_12_method_20_code 0 = .ok (.aload_n 0, 1) := by decide +kernel
set_option maxRecDepth 100000 in
theorem c_Md_readLeaf_1 : ct_Md_readLeaf 1 = ka_get 10 15 := rfl
theorem d_Md_readLeaf_1 : decode prog_12_method_20_code 1 = .ok (.getfield 109, 3) := by decide +kernel
set_option maxRecDepth 100000 in
theorem c_Md_readLeaf_4 : ct_Md_readLeaf 4 = ka_is 2 1 := rfl
theorem d_Md_readLeaf_4 : decode prog_12_method_20_code 4 = .ok (.istore_n 2, 1) := by decide +kernel
set_option maxRecDepth 100000 in
theorem c_Md_readLeaf_5 : ct_Md_readLeaf 5 = ka_al 0 1 := rfl
theorem d_Md_readLeaf_5 : decode prog_12_method_20_code 5 = .ok (.aload_n 0, 1) := by decide +kernel
set_option maxRecDepth 100000 in
theorem c_Md_readLeaf_6 : ct_Md_readLeaf 6 = ka_get 10 41 := rfl
theorem d_Md_readLeaf_6 : decode prog_12_method_20_code 6 = .ok (.getfield 56, 3) := by decide +kernel
set_option maxRecDepth 100000 in
theorem c_Md_readLeaf_9 : ct_Md_readLeaf 9 = ka_il 1 1 := rfl
theorem d_Md_readLeaf_9 : decode prog_12_method_20_code 9 = .ok (.iload_n 1, 1) := by decide +kernel
set_option maxRecDepth 100000 in
theorem c_Md_readLeaf_10 : ct_Md_readLeaf 10 = ka_iald := rfl
theorem d_Md_readLeaf_10 : decode prog_12_method_20_code 10 = .ok (.iaload, 1) := by decide +kernel
set_option maxRecDepth 100000 in
theorem c_Md_readLeaf_11 : ct_Md_readLeaf 11 = ka_ci (nI 135) 3 := rfl
theorem d_Md_readLeaf_11 : decode prog_12_method_20_code 11 = .ok (.sipush 135, 3) := by decide +kernel
set_option maxRecDepth 100000 in
theorem c_Md_readLeaf_14 : ct_Md_readLeaf 14 = ka_cm (fun x y => ¬ x = y) 34 := rfl
theorem d_Md_readLeaf_14 : decode prog_12_method_20_code 14 = .ok (.if_icmp .ne 20, 3) := by decide +kernel
set_option maxRecDepth 100000 in
theorem c_Md_readLeaf_17 : ct_Md_readLeaf 17 = ka_al 0 1 := rfl
theorem d_Md_readLeaf_17 : decode prog_12_method_20_code 17 = .ok (.aload_n 0, 1) := by decide +kernel
set_option maxRecDepth 100000 in
theorem c_Md_readLeaf_18 : ct_Md_readLeaf 18 = ka_get 10 43 := rfl
theorem d_Md_readLeaf_18 : decode prog_12_method_20_code 18 = .ok (.getfield 62, 3) := by decide +kernel
set_option maxRecDepth 100000 in
theorem c_Md_readLeaf_21 : ct_Md_readLeaf 21 = ka_il 1 1 := rfl
theorem d_Md_readLeaf_21 : decode prog_12_method_20_code 21 = .ok (.iload_n 1, 1) := by decide +kernel
set_option maxRecDepth 100000 in
theorem c_Md_readLeaf_22 : ct_Md_readLeaf 22 = ka_al 0 1 := rfl
theorem d_Md_readLeaf_22 : decode prog_12_method_20_code 22 = .ok (.aload_n 0, 1) := by decide +kernel
set_option maxRecDepth 100000 in
theorem c_Md_readLeaf_23 : ct_Md_readLeaf 23 = ka_al 0 1 := rfl
theorem d_Md_readLeaf_23 : decode prog_12_method_20_code 23 = .ok (.aload_n 0, 1) := by decide +kernel
set_option maxRecDepth 100000 in
theorem c_Md_readLeaf_24 : ct_Md_readLeaf 24 = ka_get 10 14 := rfl
theorem d_Md_readLeaf_24 : decode prog_12_method_20_code 24 = .ok (.getfield 106, 3) := by decide +kernel
set_option maxRecDepth 100000 in
theorem c_Md_readLeaf_27 : ct_Md_readLeaf 27 = ka_il 2 1 := rfl
theorem d_Md_readLeaf_27 : decode prog_12_method_20_code 27 = .ok (.iload_n 2, 1) := by decide +kernel
set_option maxRecDepth 100000 in
theorem c_Md_readLeaf_28 : ct_Md_readLeaf 28 = ka_cv 105 2 10 0 0 := rfl
theorem d_Md_readLeaf_28 : decode prog_12_method_20_code 28 = .ok (.invokevirtual 129, 3) := by decide +kernel
set_option maxRecDepth 100000 in
theorem c_Md_readLeaf_31 : ct_Md_readLeaf 31 = ka_iast := rfl
theorem d_Md_readLeaf_31 : decode prog_12_method_20_code 31 = .ok (.iastore, 1) := by decide +kernel
set_option maxRecDepth 100000 in
theorem c_Md_readLeaf_32 : ct_Md_readLeaf 32 = ka_ci (nI 1) 1 := rfl
theorem d_Md_readLeaf_32 : decode prog_12_method_20_code 32 = .ok (.iconst 1, 1) := by decide +kernel
set_option maxRecDepth 100000 in
theorem c_Md_readLeaf_33 : ct_Md_readLeaf 33 = ka_rz := rfl
theorem d_Md_readLeaf_33 : decode prog_12_method_20_code 33 = .ok (.ireturn, 1) := by decide +kernel
set_option maxRecDepth 100000 in
theorem c_Md_readLeaf_34 : ct_Md_readLeaf 34 = ka_al 0 1 := rfl
theorem d_Md_readLeaf_34 : decode prog_12_method_20_code 34 = .ok (.aload_n 0, 1) := by decide +kernel
set_option maxRecDepth 100000 in
theorem c_Md_readLeaf_35 : ct_Md_readLeaf 35 = ka_al 0 1 := rfl
theorem d_Md_readLeaf_35 : decode prog_12_method_20_code 35 = .ok (.aload_n 0, 1) := by decide +kernel
set_option maxRecDepth 100000 in
theorem c_Md_readLeaf_36 : ct_Md_readLeaf 36 = ka_get 10 14 := rfl
theorem d_Md_readLeaf_36 : decode prog_12_method_20_code 36 = .ok (.getfield 106, 3) := by decide +kernel
set_option maxRecDepth 100000 in
theorem c_Md_readLeaf_39 : ct_Md_readLeaf 39 = ka_il 2 1 := rfl
theorem d_Md_readLeaf_39 : decode prog_12_method_20_code 39 = .ok (.iload_n 2, 1) := by decide +kernel
set_option maxRecDepth 100000 in
theorem c_Md_readLeaf_40 : ct_Md_readLeaf 40 = ka_ci (nI 4) 1 := rfl
theorem d_Md_readLeaf_40 : decode prog_12_method_20_code 40 = .ok (.iconst 4, 1) := by decide +kernel
set_option maxRecDepth 100000 in
theorem c_Md_readLeaf_41 : ct_Md_readLeaf 41 = ka_cv 100 3 10 0 0 := rfl
theorem d_Md_readLeaf_41 : decode prog_12_method_20_code 41 = .ok (.invokevirtual 116, 3) := by decide +kernel
set_option maxRecDepth 100000 in
theorem c_Md_readLeaf_44 : ct_Md_readLeaf 44 = ka_if (fun x => ¬ x = 0) 49 := rfl
theorem d_Md_readLeaf_44 : decode prog_12_method_20_code 44 = .ok (.ifCond .ne 5, 3) := by decide +kernel
set_option maxRecDepth 100000 in
theorem c_Md_readLeaf_47 : ct_Md_readLeaf 47 = ka_ci (nI 0) 1 := rfl
theorem d_Md_readLeaf_47 : decode prog_12_method_20_code 47 = .ok (.iconst 0, 1) := by decide +kernel
set_option maxRecDepth 100000 in
theorem c_Md_readLeaf_48 : ct_Md_readLeaf 48 = ka_rz := rfl
theorem d_Md_readLeaf_48 : decode prog_12_method_20_code 48 = .ok (.ireturn, 1) := by decide +kernel
set_option maxRecDepth 100000 in
theorem c_Md_readLeaf_49 : ct_Md_readLeaf 49 = ka_al 0 1 := rfl
theorem d_Md_readLeaf_49 : decode prog_12_method_20_code 49 = .ok (.aload_n 0, 1) := by decide +kernel
set_option maxRecDepth 100000 in
theorem c_Md_readLeaf_50 : ct_Md_readLeaf 50 = ka_get 10 43 := rfl
theorem d_Md_readLeaf_50 : decode prog_12_method_20_code 50 = .ok (.getfield 62, 3) := by decide +kernel
set_option maxRecDepth 100000 in
theorem c_Md_readLeaf_53 : ct_Md_readLeaf 53 = ka_il 1 1 := rfl
theorem d_Md_readLeaf_53 : decode prog_12_method_20_code 53 = .ok (.iload_n 1, 1) := by decide +kernel
set_option maxRecDepth 100000 in
theorem c_Md_readLeaf_54 : ct_Md_readLeaf 54 = ka_al 0 1 := rfl
theorem d_Md_readLeaf_54 : decode prog_12_method_20_code 54 = .ok (.aload_n 0, 1) := by decide +kernel
set_option maxRecDepth 100000 in
theorem c_Md_readLeaf_55 : ct_Md_readLeaf 55 = ka_al 0 1 := rfl
theorem d_Md_readLeaf_55 : decode prog_12_method_20_code 55 = .ok (.aload_n 0, 1) := by decide +kernel
set_option maxRecDepth 100000 in
theorem c_Md_readLeaf_56 : ct_Md_readLeaf 56 = ka_get 10 14 := rfl
theorem d_Md_readLeaf_56 : decode prog_12_method_20_code 56 = .ok (.getfield 106, 3) := by decide +kernel
set_option maxRecDepth 100000 in
theorem c_Md_readLeaf_59 : ct_Md_readLeaf 59 = ka_al 0 1 := rfl
theorem d_Md_readLeaf_59 : decode prog_12_method_20_code 59 = .ok (.aload_n 0, 1) := by decide +kernel
set_option maxRecDepth 100000 in
theorem c_Md_readLeaf_60 : ct_Md_readLeaf 60 = ka_get 10 15 := rfl
theorem d_Md_readLeaf_60 : decode prog_12_method_20_code 60 = .ok (.getfield 109, 3) := by decide +kernel
set_option maxRecDepth 100000 in
theorem c_Md_readLeaf_63 : ct_Md_readLeaf 63 = ka_cv 105 2 10 0 0 := rfl
theorem d_Md_readLeaf_63 : decode prog_12_method_20_code 63 = .ok (.invokevirtual 129, 3) := by decide +kernel
set_option maxRecDepth 100000 in
theorem c_Md_readLeaf_66 : ct_Md_readLeaf 66 = ka_iast := rfl
theorem d_Md_readLeaf_66 : decode prog_12_method_20_code 66 = .ok (.iastore, 1) := by decide +kernel
set_option maxRecDepth 100000 in
theorem c_Md_readLeaf_67 : ct_Md_readLeaf 67 = ka_al 0 1 := rfl
theorem d_Md_readLeaf_67 : decode prog_12_method_20_code 67 = .ok (.aload_n 0, 1) := by decide +kernel
set_option maxRecDepth 100000 in
theorem c_Md_readLeaf_68 : ct_Md_readLeaf 68 = ka_al 0 1 := rfl
theorem d_Md_readLeaf_68 : decode prog_12_method_20_code 68 = .ok (.aload_n 0, 1) := by decide +kernel
set_option maxRecDepth 100000 in
theorem c_Md_readLeaf_69 : ct_Md_readLeaf 69 = ka_get 10 15 := rfl
theorem d_Md_readLeaf_69 : decode prog_12_method_20_code 69 = .ok (.getfield 109, 3) := by decide +kernel
set_option maxRecDepth 100000 in
theorem c_Md_readLeaf_72 : ct_Md_readLeaf 72 = ka_il 2 1 := rfl
theorem d_Md_readLeaf_72 : decode prog_12_method_20_code 72 = .ok (.iload_n 2, 1) := by decide +kernel
set_option maxRecDepth 100000 in
theorem c_Md_readLeaf_73 : ct_Md_readLeaf 73 = ka_ci (nI 4) 1 := rfl
theorem d_Md_readLeaf_73 : decode prog_12_method_20_code 73 = .ok (.iconst 4, 1) := by decide +kernel
set_option maxRecDepth 100000 in
theorem c_Md_readLeaf_74 : ct_Md_readLeaf 74 = ka_cv 100 3 10 0 0 := rfl
theorem d_Md_readLeaf_74 : decode prog_12_method_20_code 74 = .ok (.invokevirtual 116, 3) := by decide +kernel
set_option maxRecDepth 100000 in
theorem c_Md_readLeaf_77 : ct_Md_readLeaf 77 = ka_if (fun x => x = 0) 88 := rfl
theorem d_Md_readLeaf_77 : decode prog_12_method_20_code 77 = .ok (.ifCond .eq 11, 3) := by decide +kernel
set_option maxRecDepth 100000 in
theorem c_Md_readLeaf_80 : ct_Md_readLeaf 80 = ka_al 0 1 := rfl
theorem d_Md_readLeaf_80 : decode prog_12_method_20_code 80 = .ok (.aload_n 0, 1) := by decide +kernel
set_option maxRecDepth 100000 in
theorem c_Md_readLeaf_81 : ct_Md_readLeaf 81 = ka_get 10 15 := rfl
theorem d_Md_readLeaf_81 : decode prog_12_method_20_code 81 = .ok (.getfield 109, 3) := by decide +kernel
set_option maxRecDepth 100000 in
theorem c_Md_readLeaf_84 : ct_Md_readLeaf 84 = ka_il 2 1 := rfl
theorem d_Md_readLeaf_84 : decode prog_12_method_20_code 84 = .ok (.iload_n 2, 1) := by decide +kernel
set_option maxRecDepth 100000 in
theorem c_Md_readLeaf_85 : ct_Md_readLeaf 85 = ka_cm (fun x y => x = y) 90 := rfl
theorem d_Md_readLeaf_85 : decode prog_12_method_20_code 85 = .ok (.if_icmp .eq 5, 3) := by decide +kernel
set_option maxRecDepth 100000 in
theorem c_Md_readLeaf_88 : ct_Md_readLeaf 88 = ka_ci (nI 0) 1 := rfl
theorem d_Md_readLeaf_88 : decode prog_12_method_20_code 88 = .ok (.iconst 0, 1) := by decide +kernel
set_option maxRecDepth 100000 in
theorem c_Md_readLeaf_89 : ct_Md_readLeaf 89 = ka_rz := rfl
theorem d_Md_readLeaf_89 : decode prog_12_method_20_code 89 = .ok (.ireturn, 1) := by decide +kernel
set_option maxRecDepth 100000 in
theorem c_Md_readLeaf_90 : ct_Md_readLeaf 90 = ka_al 0 1 := rfl
theorem d_Md_readLeaf_90 : decode prog_12_method_20_code 90 = .ok (.aload_n 0, 1) := by decide +kernel
set_option maxRecDepth 100000 in
theorem c_Md_readLeaf_91 : ct_Md_readLeaf 91 = ka_get 10 44 := rfl
theorem d_Md_readLeaf_91 : decode prog_12_method_20_code 91 = .ok (.getfield 65, 3) := by decide +kernel
set_option maxRecDepth 100000 in
theorem c_Md_readLeaf_94 : ct_Md_readLeaf 94 = ka_il 1 1 := rfl
theorem d_Md_readLeaf_94 : decode prog_12_method_20_code 94 = .ok (.iload_n 1, 1) := by decide +kernel
set_option maxRecDepth 100000 in
theorem c_Md_readLeaf_95 : ct_Md_readLeaf 95 = ka_al 0 1 := rfl
theorem d_Md_readLeaf_95 : decode prog_12_method_20_code 95 = .ok (.aload_n 0, 1) := by decide +kernel
set_option maxRecDepth 100000 in
theorem c_Md_readLeaf_96 : ct_Md_readLeaf 96 = ka_al 0 1 := rfl
theorem d_Md_readLeaf_96 : decode prog_12_method_20_code 96 = .ok (.aload_n 0, 1) := by decide +kernel
set_option maxRecDepth 100000 in
theorem c_Md_readLeaf_97 : ct_Md_readLeaf 97 = ka_get 10 14 := rfl
theorem d_Md_readLeaf_97 : decode prog_12_method_20_code 97 = .ok (.getfield 106, 3) := by decide +kernel
set_option maxRecDepth 100000 in
theorem c_Md_readLeaf_100 : ct_Md_readLeaf 100 = ka_al 0 1 := rfl
theorem d_Md_readLeaf_100 : decode prog_12_method_20_code 100 = .ok (.aload_n 0, 1) := by decide +kernel
set_option maxRecDepth 100000 in
theorem c_Md_readLeaf_101 : ct_Md_readLeaf 101 = ka_get 10 15 := rfl
theorem d_Md_readLeaf_101 : decode prog_12_method_20_code 101 = .ok (.getfield 109, 3) := by decide +kernel
set_option maxRecDepth 100000 in
theorem c_Md_readLeaf_104 : ct_Md_readLeaf 104 = ka_cv 106 2 10 0 0 := rfl
theorem d_Md_readLeaf_104 : decode prog_12_method_20_code 104 = .ok (.invokevirtual 133, 3) := by decide +kernel
set_option maxRecDepth 100000 in
theorem c_Md_readLeaf_107 : ct_Md_readLeaf 107 = ka_last := rfl
theorem d_Md_readLeaf_107 : decode prog_12_method_20_code 107 = .ok (.lastore, 1) := by decide +kernel
set_option maxRecDepth 100000 in
theorem c_Md_readLeaf_108 : ct_Md_readLeaf 108 = ka_ci (nI 1) 1 := rfl
theorem d_Md_readLeaf_108 : decode prog_12_method_20_code 108 = .ok (.iconst 1, 1) := by decide +kernel
set_option maxRecDepth 100000 in
theorem c_Md_readLeaf_109 : ct_Md_readLeaf 109 = ka_rz := rfl
theorem d_Md_readLeaf_109 : decode prog_12_method_20_code 109 = .ok (.ireturn, 1) := by decide +kernel
set_option maxRecDepth 100000 in
set_option maxHeartbeats 4000000 in
theorem s_Md_readLeaf_60 : ∀ pc, pc < 60 → kc_Sim kt kw_A kw_N kt_cl kt_En "DirectoryDeskModel" prog_12_method_20_code 3 (some .boolean) "readLeaf" none pc (ct_Md_readLeaf pc) := by
  let P : Nat → Prop := fun pc => kc_Sim kt kw_A kw_N kt_cl kt_En "DirectoryDeskModel" prog_12_method_20_code 3 (some .boolean) "readLeaf" none pc (ct_Md_readLeaf pc)
  exact kc_case (P := P) (kc_se c_Md_readLeaf_59 (sm_aload_n d_Md_readLeaf_59 rfl)) (
  kc_case (P := P) (kc_se rfl sm_no) (
  kc_case (P := P) (kc_se rfl sm_no) (
  kc_case (P := P) (kc_se c_Md_readLeaf_56 (sm_get (ci := 10) (C := "DirectoryDeskModel") (F := kF_Md) rfl kin_Md (Nat.le_of_ble_eq_true rfl) d_Md_readLeaf_56 (kw3 197 rfl rfl))) (
  kc_case (P := P) (kc_se c_Md_readLeaf_55 (sm_aload_n d_Md_readLeaf_55 rfl)) (
  kc_case (P := P) (kc_se c_Md_readLeaf_54 (sm_aload_n d_Md_readLeaf_54 rfl)) (
  kc_case (P := P) (kc_se c_Md_readLeaf_53 (sm_iload_n d_Md_readLeaf_53 rfl)) (
  kc_case (P := P) (kc_se rfl sm_no) (
  kc_case (P := P) (kc_se rfl sm_no) (
  kc_case (P := P) (kc_se c_Md_readLeaf_50 (sm_get (ci := 10) (C := "DirectoryDeskModel") (F := kF_Md) rfl kin_Md (Nat.le_of_ble_eq_true rfl) d_Md_readLeaf_50 (kw3 226 rfl rfl))) (
  kc_case (P := P) (kc_se c_Md_readLeaf_49 (sm_aload_n d_Md_readLeaf_49 rfl)) (
  kc_case (P := P) (kc_se c_Md_readLeaf_48 (sm_rz d_Md_readLeaf_48 rfl)) (
  kc_case (P := P) (kc_se c_Md_readLeaf_47 (sm_iconst d_Md_readLeaf_47 (by decide))) (
  kc_case (P := P) (kc_se rfl sm_no) (
  kc_case (P := P) (kc_se rfl sm_no) (
  kc_case (P := P) (kc_se c_Md_readLeaf_44 (sm_if_ne d_Md_readLeaf_44 (by decide))) (
  kc_case (P := P) (kc_se rfl sm_no) (
  kc_case (P := P) (kc_se rfl sm_no) (
  kc_case (P := P) (kc_se c_Md_readLeaf_41 (sm_cv (j := 100) rfl rfl kw_o kw_g wc_Md_tagged (Nat.le_of_ble_eq_true rfl) hd_Md_tagged (ci := 10) (F := kF_Md) (N := 52) rfl (kw4 117 rfl rfl) wi_Md_tagged ws_Md_tagged wn_Md_tagged d_Md_readLeaf_41)) (
  kc_case (P := P) (kc_se c_Md_readLeaf_40 (sm_iconst d_Md_readLeaf_40 (by decide))) (
  kc_case (P := P) (kc_se c_Md_readLeaf_39 (sm_iload_n d_Md_readLeaf_39 rfl)) (
  kc_case (P := P) (kc_se rfl sm_no) (
  kc_case (P := P) (kc_se rfl sm_no) (
  kc_case (P := P) (kc_se c_Md_readLeaf_36 (sm_get (ci := 10) (C := "DirectoryDeskModel") (F := kF_Md) rfl kin_Md (Nat.le_of_ble_eq_true rfl) d_Md_readLeaf_36 (kw3 197 rfl rfl))) (
  kc_case (P := P) (kc_se c_Md_readLeaf_35 (sm_aload_n d_Md_readLeaf_35 rfl)) (
  kc_case (P := P) (kc_se c_Md_readLeaf_34 (sm_aload_n d_Md_readLeaf_34 rfl)) (
  kc_case (P := P) (kc_se c_Md_readLeaf_33 (sm_rz d_Md_readLeaf_33 rfl)) (
  kc_case (P := P) (kc_se c_Md_readLeaf_32 (sm_iconst d_Md_readLeaf_32 (by decide))) (
  kc_case (P := P) (kc_se c_Md_readLeaf_31 (sm_iast d_Md_readLeaf_31)) (
  kc_case (P := P) (kc_se rfl sm_no) (
  kc_case (P := P) (kc_se rfl sm_no) (
  kc_case (P := P) (kc_se c_Md_readLeaf_28 (sm_cv (j := 105) rfl rfl kw_o kw_g wc_Md_typeIn (Nat.le_of_ble_eq_true rfl) hd_Md_typeIn (ci := 10) (F := kF_Md) (N := 52) rfl (kw4 160 rfl rfl) wi_Md_typeIn ws_Md_typeIn wn_Md_typeIn d_Md_readLeaf_28)) (
  kc_case (P := P) (kc_se c_Md_readLeaf_27 (sm_iload_n d_Md_readLeaf_27 rfl)) (
  kc_case (P := P) (kc_se rfl sm_no) (
  kc_case (P := P) (kc_se rfl sm_no) (
  kc_case (P := P) (kc_se c_Md_readLeaf_24 (sm_get (ci := 10) (C := "DirectoryDeskModel") (F := kF_Md) rfl kin_Md (Nat.le_of_ble_eq_true rfl) d_Md_readLeaf_24 (kw3 197 rfl rfl))) (
  kc_case (P := P) (kc_se c_Md_readLeaf_23 (sm_aload_n d_Md_readLeaf_23 rfl)) (
  kc_case (P := P) (kc_se c_Md_readLeaf_22 (sm_aload_n d_Md_readLeaf_22 rfl)) (
  kc_case (P := P) (kc_se c_Md_readLeaf_21 (sm_iload_n d_Md_readLeaf_21 rfl)) (
  kc_case (P := P) (kc_se rfl sm_no) (
  kc_case (P := P) (kc_se rfl sm_no) (
  kc_case (P := P) (kc_se c_Md_readLeaf_18 (sm_get (ci := 10) (C := "DirectoryDeskModel") (F := kF_Md) rfl kin_Md (Nat.le_of_ble_eq_true rfl) d_Md_readLeaf_18 (kw3 226 rfl rfl))) (
  kc_case (P := P) (kc_se c_Md_readLeaf_17 (sm_aload_n d_Md_readLeaf_17 rfl)) (
  kc_case (P := P) (kc_se rfl sm_no) (
  kc_case (P := P) (kc_se rfl sm_no) (
  kc_case (P := P) (kc_se c_Md_readLeaf_14 (sm_cm_ne d_Md_readLeaf_14 (by decide))) (
  kc_case (P := P) (kc_se rfl sm_no) (
  kc_case (P := P) (kc_se rfl sm_no) (
  kc_case (P := P) (kc_se c_Md_readLeaf_11 (sm_sipush d_Md_readLeaf_11 (by decide))) (
  kc_case (P := P) (kc_se c_Md_readLeaf_10 (sm_iald d_Md_readLeaf_10)) (
  kc_case (P := P) (kc_se c_Md_readLeaf_9 (sm_iload_n d_Md_readLeaf_9 rfl)) (
  kc_case (P := P) (kc_se rfl sm_no) (
  kc_case (P := P) (kc_se rfl sm_no) (
  kc_case (P := P) (kc_se c_Md_readLeaf_6 (sm_get (ci := 10) (C := "DirectoryDeskModel") (F := kF_Md) rfl kin_Md (Nat.le_of_ble_eq_true rfl) d_Md_readLeaf_6 (kw3 224 rfl rfl))) (
  kc_case (P := P) (kc_se c_Md_readLeaf_5 (sm_aload_n d_Md_readLeaf_5 rfl)) (
  kc_case (P := P) (kc_se c_Md_readLeaf_4 (sm_istore_n d_Md_readLeaf_4 rfl (Nat.le_of_ble_eq_true rfl))) (
  kc_case (P := P) (kc_se rfl sm_no) (
  kc_case (P := P) (kc_se rfl sm_no) (
  kc_case (P := P) (kc_se c_Md_readLeaf_1 (sm_get (ci := 10) (C := "DirectoryDeskModel") (F := kF_Md) rfl kin_Md (Nat.le_of_ble_eq_true rfl) d_Md_readLeaf_1 (kw3 198 rfl rfl))) (
  kc_case (P := P) (kc_se c_Md_readLeaf_0 (sm_aload_n d_Md_readLeaf_0 rfl)) (
  kc_case0))))))))))))))))))))))))))))))))))))))))))))))))))))))))))))
set_option maxRecDepth 100000 in
set_option maxHeartbeats 4000000 in
theorem s_Md_readLeaf_110 : ∀ pc, pc < 110 → kc_Sim kt kw_A kw_N kt_cl kt_En "DirectoryDeskModel" prog_12_method_20_code 3 (some .boolean) "readLeaf" none pc (ct_Md_readLeaf pc) := by
  let P : Nat → Prop := fun pc => kc_Sim kt kw_A kw_N kt_cl kt_En "DirectoryDeskModel" prog_12_method_20_code 3 (some .boolean) "readLeaf" none pc (ct_Md_readLeaf pc)
  exact kc_case (P := P) (kc_se c_Md_readLeaf_109 (sm_rz d_Md_readLeaf_109 rfl)) (
  kc_case (P := P) (kc_se c_Md_readLeaf_108 (sm_iconst d_Md_readLeaf_108 (by decide))) (
  kc_case (P := P) (kc_se c_Md_readLeaf_107 (sm_last d_Md_readLeaf_107)) (
  kc_case (P := P) (kc_se rfl sm_no) (
  kc_case (P := P) (kc_se rfl sm_no) (
  kc_case (P := P) (kc_se c_Md_readLeaf_104 (sm_cv (j := 106) rfl rfl kw_o kw_g wc_Md_valueIn (Nat.le_of_ble_eq_true rfl) hd_Md_valueIn (ci := 10) (F := kF_Md) (N := 52) rfl (kw4 164 rfl rfl) wi_Md_valueIn ws_Md_valueIn wn_Md_valueIn d_Md_readLeaf_104)) (
  kc_case (P := P) (kc_se rfl sm_no) (
  kc_case (P := P) (kc_se rfl sm_no) (
  kc_case (P := P) (kc_se c_Md_readLeaf_101 (sm_get (ci := 10) (C := "DirectoryDeskModel") (F := kF_Md) rfl kin_Md (Nat.le_of_ble_eq_true rfl) d_Md_readLeaf_101 (kw3 198 rfl rfl))) (
  kc_case (P := P) (kc_se c_Md_readLeaf_100 (sm_aload_n d_Md_readLeaf_100 rfl)) (
  kc_case (P := P) (kc_se rfl sm_no) (
  kc_case (P := P) (kc_se rfl sm_no) (
  kc_case (P := P) (kc_se c_Md_readLeaf_97 (sm_get (ci := 10) (C := "DirectoryDeskModel") (F := kF_Md) rfl kin_Md (Nat.le_of_ble_eq_true rfl) d_Md_readLeaf_97 (kw3 197 rfl rfl))) (
  kc_case (P := P) (kc_se c_Md_readLeaf_96 (sm_aload_n d_Md_readLeaf_96 rfl)) (
  kc_case (P := P) (kc_se c_Md_readLeaf_95 (sm_aload_n d_Md_readLeaf_95 rfl)) (
  kc_case (P := P) (kc_se c_Md_readLeaf_94 (sm_iload_n d_Md_readLeaf_94 rfl)) (
  kc_case (P := P) (kc_se rfl sm_no) (
  kc_case (P := P) (kc_se rfl sm_no) (
  kc_case (P := P) (kc_se c_Md_readLeaf_91 (sm_get (ci := 10) (C := "DirectoryDeskModel") (F := kF_Md) rfl kin_Md (Nat.le_of_ble_eq_true rfl) d_Md_readLeaf_91 (kw3 227 rfl rfl))) (
  kc_case (P := P) (kc_se c_Md_readLeaf_90 (sm_aload_n d_Md_readLeaf_90 rfl)) (
  kc_case (P := P) (kc_se c_Md_readLeaf_89 (sm_rz d_Md_readLeaf_89 rfl)) (
  kc_case (P := P) (kc_se c_Md_readLeaf_88 (sm_iconst d_Md_readLeaf_88 (by decide))) (
  kc_case (P := P) (kc_se rfl sm_no) (
  kc_case (P := P) (kc_se rfl sm_no) (
  kc_case (P := P) (kc_se c_Md_readLeaf_85 (sm_cm_eq d_Md_readLeaf_85 (by decide))) (
  kc_case (P := P) (kc_se c_Md_readLeaf_84 (sm_iload_n d_Md_readLeaf_84 rfl)) (
  kc_case (P := P) (kc_se rfl sm_no) (
  kc_case (P := P) (kc_se rfl sm_no) (
  kc_case (P := P) (kc_se c_Md_readLeaf_81 (sm_get (ci := 10) (C := "DirectoryDeskModel") (F := kF_Md) rfl kin_Md (Nat.le_of_ble_eq_true rfl) d_Md_readLeaf_81 (kw3 198 rfl rfl))) (
  kc_case (P := P) (kc_se c_Md_readLeaf_80 (sm_aload_n d_Md_readLeaf_80 rfl)) (
  kc_case (P := P) (kc_se rfl sm_no) (
  kc_case (P := P) (kc_se rfl sm_no) (
  kc_case (P := P) (kc_se c_Md_readLeaf_77 (sm_if_eq d_Md_readLeaf_77 (by decide))) (
  kc_case (P := P) (kc_se rfl sm_no) (
  kc_case (P := P) (kc_se rfl sm_no) (
  kc_case (P := P) (kc_se c_Md_readLeaf_74 (sm_cv (j := 100) rfl rfl kw_o kw_g wc_Md_tagged (Nat.le_of_ble_eq_true rfl) hd_Md_tagged (ci := 10) (F := kF_Md) (N := 52) rfl (kw4 117 rfl rfl) wi_Md_tagged ws_Md_tagged wn_Md_tagged d_Md_readLeaf_74)) (
  kc_case (P := P) (kc_se c_Md_readLeaf_73 (sm_iconst d_Md_readLeaf_73 (by decide))) (
  kc_case (P := P) (kc_se c_Md_readLeaf_72 (sm_iload_n d_Md_readLeaf_72 rfl)) (
  kc_case (P := P) (kc_se rfl sm_no) (
  kc_case (P := P) (kc_se rfl sm_no) (
  kc_case (P := P) (kc_se c_Md_readLeaf_69 (sm_get (ci := 10) (C := "DirectoryDeskModel") (F := kF_Md) rfl kin_Md (Nat.le_of_ble_eq_true rfl) d_Md_readLeaf_69 (kw3 198 rfl rfl))) (
  kc_case (P := P) (kc_se c_Md_readLeaf_68 (sm_aload_n d_Md_readLeaf_68 rfl)) (
  kc_case (P := P) (kc_se c_Md_readLeaf_67 (sm_aload_n d_Md_readLeaf_67 rfl)) (
  kc_case (P := P) (kc_se c_Md_readLeaf_66 (sm_iast d_Md_readLeaf_66)) (
  kc_case (P := P) (kc_se rfl sm_no) (
  kc_case (P := P) (kc_se rfl sm_no) (
  kc_case (P := P) (kc_se c_Md_readLeaf_63 (sm_cv (j := 105) rfl rfl kw_o kw_g wc_Md_typeIn (Nat.le_of_ble_eq_true rfl) hd_Md_typeIn (ci := 10) (F := kF_Md) (N := 52) rfl (kw4 160 rfl rfl) wi_Md_typeIn ws_Md_typeIn wn_Md_typeIn d_Md_readLeaf_63)) (
  kc_case (P := P) (kc_se rfl sm_no) (
  kc_case (P := P) (kc_se rfl sm_no) (
  kc_case (P := P) (kc_se c_Md_readLeaf_60 (sm_get (ci := 10) (C := "DirectoryDeskModel") (F := kF_Md) rfl kin_Md (Nat.le_of_ble_eq_true rfl) d_Md_readLeaf_60 (kw3 198 rfl rfl))) (
  s_Md_readLeaf_60))))))))))))))))))))))))))))))))))))))))))))))))))
set_option maxRecDepth 100000 in
theorem ka_nth_no_Md_readLeaf (pc : Nat) (h : 110 ≤ pc) : ct_Md_readLeaf pc = ka_no := ka_nth_ge _ pc (Nat.le_trans (Nat.le_of_eq (by rfl)) h)
theorem s_Md_readLeaf (pc : Nat) : kc_Sim kt kw_A kw_N kt_cl kt_En "DirectoryDeskModel" prog_12_method_20_code 3 (some .boolean) "readLeaf" none pc (ct_Md_readLeaf pc) := (Nat.lt_or_ge pc 110).elim (s_Md_readLeaf_110 pc) (fun h => kc_se (ka_nth_no_Md_readLeaf pc h) sm_no)
def cl_Md_isLeaf_0 : List kc_A := [ka_il 0 1, ka_ci (nI 163) 3, ka_no, ka_no, ka_cm (fun x y => x = y) 28, ka_no, ka_no, ka_il 0 1, ka_ci (nI 165) 3, ka_no, ka_no, ka_cm (fun x y => x = y) 28, ka_no, ka_no, ka_il 0 1, ka_ci (nI 166) 3, ka_no, ka_no, ka_cm (fun x y => x = y) 28, ka_no, ka_no, ka_il 0 1, ka_ci (nI 135) 3, ka_no, ka_no, ka_cm (fun x y => ¬ x = y) 32, ka_no, ka_no, ka_ci (nI 1) 1, ka_goto 33, ka_no, ka_no, ka_ci (nI 0) 1, ka_rz]
def ct_Md_isLeaf : Nat → kc_A := fun pc => ka_nth (cl_Md_isLeaf_0) pc
set_option maxRecDepth 100000 in
theorem c_Md_isLeaf_0 : ct_Md_isLeaf 0 = ka_il 0 1 := rfl
theorem d_Md_isLeaf_0 : decode prog_12_method_21_code 0 = .ok (.iload_n 0, 1) := by decide +kernel
set_option maxRecDepth 100000 in
theorem c_Md_isLeaf_1 : ct_Md_isLeaf 1 = ka_ci (nI 163) 3 := rfl
theorem d_Md_isLeaf_1 : decode prog_12_method_21_code 1 = .ok (.sipush 163, 3) := by decide +kernel
set_option maxRecDepth 100000 in
theorem c_Md_isLeaf_4 : ct_Md_isLeaf 4 = ka_cm (fun x y => x = y) 28 := rfl
theorem d_Md_isLeaf_4 : decode prog_12_method_21_code 4 = .ok (.if_icmp .eq 24, 3) := by decide +kernel
set_option maxRecDepth 100000 in
theorem c_Md_isLeaf_7 : ct_Md_isLeaf 7 = ka_il 0 1 := rfl
theorem d_Md_isLeaf_7 : decode prog_12_method_21_code 7 = .ok (.iload_n 0, 1) := by decide +kernel
set_option maxRecDepth 100000 in
theorem c_Md_isLeaf_8 : ct_Md_isLeaf 8 = ka_ci (nI 165) 3 := rfl
theorem d_Md_isLeaf_8 : decode prog_12_method_21_code 8 = .ok (.sipush 165, 3) := by decide +kernel
set_option maxRecDepth 100000 in
theorem c_Md_isLeaf_11 : ct_Md_isLeaf 11 = ka_cm (fun x y => x = y) 28 := rfl
theorem d_Md_isLeaf_11 : decode prog_12_method_21_code 11 = .ok (.if_icmp .eq 17, 3) := by decide +kernel
set_option maxRecDepth 100000 in
theorem c_Md_isLeaf_14 : ct_Md_isLeaf 14 = ka_il 0 1 := rfl
theorem d_Md_isLeaf_14 : decode prog_12_method_21_code 14 = .ok (.iload_n 0, 1) := by decide +kernel
set_option maxRecDepth 100000 in
theorem c_Md_isLeaf_15 : ct_Md_isLeaf 15 = ka_ci (nI 166) 3 := rfl
theorem d_Md_isLeaf_15 : decode prog_12_method_21_code 15 = .ok (.sipush 166, 3) := by decide +kernel
set_option maxRecDepth 100000 in
theorem c_Md_isLeaf_18 : ct_Md_isLeaf 18 = ka_cm (fun x y => x = y) 28 := rfl
theorem d_Md_isLeaf_18 : decode prog_12_method_21_code 18 = .ok (.if_icmp .eq 10, 3) := by decide +kernel
set_option maxRecDepth 100000 in
theorem c_Md_isLeaf_21 : ct_Md_isLeaf 21 = ka_il 0 1 := rfl
theorem d_Md_isLeaf_21 : decode prog_12_method_21_code 21 = .ok (.iload_n 0, 1) := by decide +kernel
set_option maxRecDepth 100000 in
theorem c_Md_isLeaf_22 : ct_Md_isLeaf 22 = ka_ci (nI 135) 3 := rfl
theorem d_Md_isLeaf_22 : decode prog_12_method_21_code 22 = .ok (.sipush 135, 3) := by decide +kernel
set_option maxRecDepth 100000 in
theorem c_Md_isLeaf_25 : ct_Md_isLeaf 25 = ka_cm (fun x y => ¬ x = y) 32 := rfl
theorem d_Md_isLeaf_25 : decode prog_12_method_21_code 25 = .ok (.if_icmp .ne 7, 3) := by decide +kernel
set_option maxRecDepth 100000 in
theorem c_Md_isLeaf_28 : ct_Md_isLeaf 28 = ka_ci (nI 1) 1 := rfl
theorem d_Md_isLeaf_28 : decode prog_12_method_21_code 28 = .ok (.iconst 1, 1) := by decide +kernel
set_option maxRecDepth 100000 in
theorem c_Md_isLeaf_29 : ct_Md_isLeaf 29 = ka_goto 33 := rfl
theorem d_Md_isLeaf_29 : decode prog_12_method_21_code 29 = .ok (.goto 4, 3) := by decide +kernel
set_option maxRecDepth 100000 in
theorem c_Md_isLeaf_32 : ct_Md_isLeaf 32 = ka_ci (nI 0) 1 := rfl
theorem d_Md_isLeaf_32 : decode prog_12_method_21_code 32 = .ok (.iconst 0, 1) := by decide +kernel
set_option maxRecDepth 100000 in
theorem c_Md_isLeaf_33 : ct_Md_isLeaf 33 = ka_rz := rfl
theorem d_Md_isLeaf_33 : decode prog_12_method_21_code 33 = .ok (.ireturn, 1) := by decide +kernel
set_option maxRecDepth 100000 in
set_option maxHeartbeats 4000000 in
theorem s_Md_isLeaf_34 : ∀ pc, pc < 34 → kc_Sim kt kw_A kw_N kt_cl kt_En "DirectoryDeskModel" prog_12_method_21_code 1 (some .boolean) "isLeaf" none pc (ct_Md_isLeaf pc) := by
  let P : Nat → Prop := fun pc => kc_Sim kt kw_A kw_N kt_cl kt_En "DirectoryDeskModel" prog_12_method_21_code 1 (some .boolean) "isLeaf" none pc (ct_Md_isLeaf pc)
  exact kc_case (P := P) (kc_se c_Md_isLeaf_33 (sm_rz d_Md_isLeaf_33 rfl)) (
  kc_case (P := P) (kc_se c_Md_isLeaf_32 (sm_iconst d_Md_isLeaf_32 (by decide))) (
  kc_case (P := P) (kc_se rfl sm_no) (
  kc_case (P := P) (kc_se rfl sm_no) (
  kc_case (P := P) (kc_se c_Md_isLeaf_29 (sm_goto d_Md_isLeaf_29 (by decide))) (
  kc_case (P := P) (kc_se c_Md_isLeaf_28 (sm_iconst d_Md_isLeaf_28 (by decide))) (
  kc_case (P := P) (kc_se rfl sm_no) (
  kc_case (P := P) (kc_se rfl sm_no) (
  kc_case (P := P) (kc_se c_Md_isLeaf_25 (sm_cm_ne d_Md_isLeaf_25 (by decide))) (
  kc_case (P := P) (kc_se rfl sm_no) (
  kc_case (P := P) (kc_se rfl sm_no) (
  kc_case (P := P) (kc_se c_Md_isLeaf_22 (sm_sipush d_Md_isLeaf_22 (by decide))) (
  kc_case (P := P) (kc_se c_Md_isLeaf_21 (sm_iload_n d_Md_isLeaf_21 rfl)) (
  kc_case (P := P) (kc_se rfl sm_no) (
  kc_case (P := P) (kc_se rfl sm_no) (
  kc_case (P := P) (kc_se c_Md_isLeaf_18 (sm_cm_eq d_Md_isLeaf_18 (by decide))) (
  kc_case (P := P) (kc_se rfl sm_no) (
  kc_case (P := P) (kc_se rfl sm_no) (
  kc_case (P := P) (kc_se c_Md_isLeaf_15 (sm_sipush d_Md_isLeaf_15 (by decide))) (
  kc_case (P := P) (kc_se c_Md_isLeaf_14 (sm_iload_n d_Md_isLeaf_14 rfl)) (
  kc_case (P := P) (kc_se rfl sm_no) (
  kc_case (P := P) (kc_se rfl sm_no) (
  kc_case (P := P) (kc_se c_Md_isLeaf_11 (sm_cm_eq d_Md_isLeaf_11 (by decide))) (
  kc_case (P := P) (kc_se rfl sm_no) (
  kc_case (P := P) (kc_se rfl sm_no) (
  kc_case (P := P) (kc_se c_Md_isLeaf_8 (sm_sipush d_Md_isLeaf_8 (by decide))) (
  kc_case (P := P) (kc_se c_Md_isLeaf_7 (sm_iload_n d_Md_isLeaf_7 rfl)) (
  kc_case (P := P) (kc_se rfl sm_no) (
  kc_case (P := P) (kc_se rfl sm_no) (
  kc_case (P := P) (kc_se c_Md_isLeaf_4 (sm_cm_eq d_Md_isLeaf_4 (by decide))) (
  kc_case (P := P) (kc_se rfl sm_no) (
  kc_case (P := P) (kc_se rfl sm_no) (
  kc_case (P := P) (kc_se c_Md_isLeaf_1 (sm_sipush d_Md_isLeaf_1 (by decide))) (
  kc_case (P := P) (kc_se c_Md_isLeaf_0 (sm_iload_n d_Md_isLeaf_0 rfl)) (
  kc_case0))))))))))))))))))))))))))))))))))
set_option maxRecDepth 100000 in
theorem ka_nth_no_Md_isLeaf (pc : Nat) (h : 34 ≤ pc) : ct_Md_isLeaf pc = ka_no := ka_nth_ge _ pc (Nat.le_trans (Nat.le_of_eq (by rfl)) h)
theorem s_Md_isLeaf (pc : Nat) : kc_Sim kt kw_A kw_N kt_cl kt_En "DirectoryDeskModel" prog_12_method_21_code 1 (some .boolean) "isLeaf" none pc (ct_Md_isLeaf pc) := (Nat.lt_or_ge pc 34).elim (s_Md_isLeaf_34 pc) (fun h => kc_se (ka_nth_no_Md_isLeaf pc h) sm_no)
def cl_Md_inside_0 : List kc_A := [ka_ci (nI 0) 1, ka_is 2 1, ka_il 1 1, ka_ci (nI 1) 1, ka_ii (fun x y => x + y), ka_is 3 1, ka_il 3 1, ka_al 0 1, ka_get 10 40, ka_no, ka_no, ka_cm (fun x y => y ≤ x) 38, ka_no, ka_no, ka_al 0 1, ka_get 10 42, ka_no, ka_no, ka_il 3 1, ka_iald, ka_il 1 1, ka_cm (fun x y => ¬ x = y) 30, ka_no, ka_no, ka_il 2 1, ka_ci (nI 1) 1, ka_ii (fun x y => x + y), ka_goto 31, ka_no, ka_no, ka_il 2 1, ka_is 2 1, ka_inc 3 (nI 1), ka_no, ka_no, ka_goto 6, ka_no, ka_no, ka_il 2 1, ka_ri]
def ct_Md_inside : Nat → kc_A := fun pc => ka_nth (cl_Md_inside_0) pc
set_option maxRecDepth 100000 in
theorem c_Md_inside_0 : ct_Md_inside 0 = ka_ci (nI 0) 1 := rfl
theorem d_Md_inside_0 : decode prog_12_method_22_code 0 = .ok (.iconst 0, 1) := by decide +kernel
set_option maxRecDepth 100000 in
theorem c_Md_inside_1 : ct_Md_inside 1 = ka_is 2 1 := rfl
theorem d_Md_inside_1 : decode prog_12_method_22_code 1 = .ok (.istore_n 2, 1) := by decide +kernel
set_option maxRecDepth 100000 in
theorem c_Md_inside_2 : ct_Md_inside 2 = ka_il 1 1 := rfl
theorem d_Md_inside_2 : decode prog_12_method_22_code 2 = .ok (.iload_n 1, 1) := by decide +kernel
set_option maxRecDepth 100000 in
theorem c_Md_inside_3 : ct_Md_inside 3 = ka_ci (nI 1) 1 := rfl
theorem d_Md_inside_3 : decode prog_12_method_22_code 3 = .ok (.iconst 1, 1) := by decide +kernel
set_option maxRecDepth 100000 in
theorem c_Md_inside_4 : ct_Md_inside 4 = ka_ii (fun x y => x + y) := rfl
theorem d_Md_inside_4 : decode prog_12_method_22_code 4 = .ok (.iadd, 1) := by decide +kernel
set_option maxRecDepth 100000 in
theorem c_Md_inside_5 : ct_Md_inside 5 = ka_is 3 1 := rfl
theorem d_Md_inside_5 : decode prog_12_method_22_code 5 = .ok (.istore_n 3, 1) := by decide +kernel
set_option maxRecDepth 100000 in
theorem c_Md_inside_6 : ct_Md_inside 6 = ka_il 3 1 := rfl
theorem d_Md_inside_6 : decode prog_12_method_22_code 6 = .ok (.iload_n 3, 1) := by decide +kernel
set_option maxRecDepth 100000 in
theorem c_Md_inside_7 : ct_Md_inside 7 = ka_al 0 1 := rfl
theorem d_Md_inside_7 : decode prog_12_method_22_code 7 = .ok (.aload_n 0, 1) := by decide +kernel
set_option maxRecDepth 100000 in
theorem c_Md_inside_8 : ct_Md_inside 8 = ka_get 10 40 := rfl
theorem d_Md_inside_8 : decode prog_12_method_22_code 8 = .ok (.getfield 183, 3) := by decide +kernel
set_option maxRecDepth 100000 in
theorem c_Md_inside_11 : ct_Md_inside 11 = ka_cm (fun x y => y ≤ x) 38 := rfl
theorem d_Md_inside_11 : decode prog_12_method_22_code 11 = .ok (.if_icmp .ge 27, 3) := by decide +kernel
set_option maxRecDepth 100000 in
theorem c_Md_inside_14 : ct_Md_inside 14 = ka_al 0 1 := rfl
theorem d_Md_inside_14 : decode prog_12_method_22_code 14 = .ok (.aload_n 0, 1) := by decide +kernel
set_option maxRecDepth 100000 in
theorem c_Md_inside_15 : ct_Md_inside 15 = ka_get 10 42 := rfl
theorem d_Md_inside_15 : decode prog_12_method_22_code 15 = .ok (.getfield 59, 3) := by decide +kernel
set_option maxRecDepth 100000 in
theorem c_Md_inside_18 : ct_Md_inside 18 = ka_il 3 1 := rfl
theorem d_Md_inside_18 : decode prog_12_method_22_code 18 = .ok (.iload_n 3, 1) := by decide +kernel
set_option maxRecDepth 100000 in
theorem c_Md_inside_19 : ct_Md_inside 19 = ka_iald := rfl
theorem d_Md_inside_19 : decode prog_12_method_22_code 19 = .ok (.iaload, 1) := by decide +kernel
set_option maxRecDepth 100000 in
theorem c_Md_inside_20 : ct_Md_inside 20 = ka_il 1 1 := rfl
theorem d_Md_inside_20 : decode prog_12_method_22_code 20 = .ok (.iload_n 1, 1) := by decide +kernel
set_option maxRecDepth 100000 in
theorem c_Md_inside_21 : ct_Md_inside 21 = ka_cm (fun x y => ¬ x = y) 30 := rfl
theorem d_Md_inside_21 : decode prog_12_method_22_code 21 = .ok (.if_icmp .ne 9, 3) := by decide +kernel
set_option maxRecDepth 100000 in
theorem c_Md_inside_24 : ct_Md_inside 24 = ka_il 2 1 := rfl
theorem d_Md_inside_24 : decode prog_12_method_22_code 24 = .ok (.iload_n 2, 1) := by decide +kernel
set_option maxRecDepth 100000 in
theorem c_Md_inside_25 : ct_Md_inside 25 = ka_ci (nI 1) 1 := rfl
theorem d_Md_inside_25 : decode prog_12_method_22_code 25 = .ok (.iconst 1, 1) := by decide +kernel
set_option maxRecDepth 100000 in
theorem c_Md_inside_26 : ct_Md_inside 26 = ka_ii (fun x y => x + y) := rfl
theorem d_Md_inside_26 : decode prog_12_method_22_code 26 = .ok (.iadd, 1) := by decide +kernel
set_option maxRecDepth 100000 in
theorem c_Md_inside_27 : ct_Md_inside 27 = ka_goto 31 := rfl
theorem d_Md_inside_27 : decode prog_12_method_22_code 27 = .ok (.goto 4, 3) := by decide +kernel
set_option maxRecDepth 100000 in
theorem c_Md_inside_30 : ct_Md_inside 30 = ka_il 2 1 := rfl
theorem d_Md_inside_30 : decode prog_12_method_22_code 30 = .ok (.iload_n 2, 1) := by decide +kernel
set_option maxRecDepth 100000 in
theorem c_Md_inside_31 : ct_Md_inside 31 = ka_is 2 1 := rfl
theorem d_Md_inside_31 : decode prog_12_method_22_code 31 = .ok (.istore_n 2, 1) := by decide +kernel
set_option maxRecDepth 100000 in
theorem c_Md_inside_32 : ct_Md_inside 32 = ka_inc 3 (nI 1) := rfl
theorem d_Md_inside_32 : decode prog_12_method_22_code 32 = .ok (.iinc 3 1, 3) := by decide +kernel
set_option maxRecDepth 100000 in
theorem c_Md_inside_35 : ct_Md_inside 35 = ka_goto 6 := rfl
theorem d_Md_inside_35 : decode prog_12_method_22_code 35 = .ok (.goto (-29), 3) := by decide +kernel
set_option maxRecDepth 100000 in
theorem c_Md_inside_38 : ct_Md_inside 38 = ka_il 2 1 := rfl
theorem d_Md_inside_38 : decode prog_12_method_22_code 38 = .ok (.iload_n 2, 1) := by decide +kernel
set_option maxRecDepth 100000 in
theorem c_Md_inside_39 : ct_Md_inside 39 = ka_ri := rfl
theorem d_Md_inside_39 : decode prog_12_method_22_code 39 = .ok (.ireturn, 1) := by decide +kernel
set_option maxRecDepth 100000 in
set_option maxHeartbeats 4000000 in
theorem s_Md_inside_40 : ∀ pc, pc < 40 → kc_Sim kt kw_A kw_N kt_cl kt_En "DirectoryDeskModel" prog_12_method_22_code 4 (some .int) "inside" none pc (ct_Md_inside pc) := by
  let P : Nat → Prop := fun pc => kc_Sim kt kw_A kw_N kt_cl kt_En "DirectoryDeskModel" prog_12_method_22_code 4 (some .int) "inside" none pc (ct_Md_inside pc)
  exact kc_case (P := P) (kc_se c_Md_inside_39 (sm_ri d_Md_inside_39 rfl)) (
  kc_case (P := P) (kc_se c_Md_inside_38 (sm_iload_n d_Md_inside_38 rfl)) (
  kc_case (P := P) (kc_se rfl sm_no) (
  kc_case (P := P) (kc_se rfl sm_no) (
  kc_case (P := P) (kc_se c_Md_inside_35 (sm_goto d_Md_inside_35 (by decide))) (
  kc_case (P := P) (kc_se rfl sm_no) (
  kc_case (P := P) (kc_se rfl sm_no) (
  kc_case (P := P) (kc_se c_Md_inside_32 (sm_inc d_Md_inside_32 (by decide) (Nat.le_of_ble_eq_true rfl))) (
  kc_case (P := P) (kc_se c_Md_inside_31 (sm_istore_n d_Md_inside_31 rfl (Nat.le_of_ble_eq_true rfl))) (
  kc_case (P := P) (kc_se c_Md_inside_30 (sm_iload_n d_Md_inside_30 rfl)) (
  kc_case (P := P) (kc_se rfl sm_no) (
  kc_case (P := P) (kc_se rfl sm_no) (
  kc_case (P := P) (kc_se c_Md_inside_27 (sm_goto d_Md_inside_27 (by decide))) (
  kc_case (P := P) (kc_se c_Md_inside_26 (sm_iadd d_Md_inside_26)) (
  kc_case (P := P) (kc_se c_Md_inside_25 (sm_iconst d_Md_inside_25 (by decide))) (
  kc_case (P := P) (kc_se c_Md_inside_24 (sm_iload_n d_Md_inside_24 rfl)) (
  kc_case (P := P) (kc_se rfl sm_no) (
  kc_case (P := P) (kc_se rfl sm_no) (
  kc_case (P := P) (kc_se c_Md_inside_21 (sm_cm_ne d_Md_inside_21 (by decide))) (
  kc_case (P := P) (kc_se c_Md_inside_20 (sm_iload_n d_Md_inside_20 rfl)) (
  kc_case (P := P) (kc_se c_Md_inside_19 (sm_iald d_Md_inside_19)) (
  kc_case (P := P) (kc_se c_Md_inside_18 (sm_iload_n d_Md_inside_18 rfl)) (
  kc_case (P := P) (kc_se rfl sm_no) (
  kc_case (P := P) (kc_se rfl sm_no) (
  kc_case (P := P) (kc_se c_Md_inside_15 (sm_get (ci := 10) (C := "DirectoryDeskModel") (F := kF_Md) rfl kin_Md (Nat.le_of_ble_eq_true rfl) d_Md_inside_15 (kw3 225 rfl rfl))) (
  kc_case (P := P) (kc_se c_Md_inside_14 (sm_aload_n d_Md_inside_14 rfl)) (
  kc_case (P := P) (kc_se rfl sm_no) (
  kc_case (P := P) (kc_se rfl sm_no) (
  kc_case (P := P) (kc_se c_Md_inside_11 (sm_cm_ge d_Md_inside_11 (by decide))) (
  kc_case (P := P) (kc_se rfl sm_no) (
  kc_case (P := P) (kc_se rfl sm_no) (
  kc_case (P := P) (kc_se c_Md_inside_8 (sm_get (ci := 10) (C := "DirectoryDeskModel") (F := kF_Md) rfl kin_Md (Nat.le_of_ble_eq_true rfl) d_Md_inside_8 (kw3 223 rfl rfl))) (
  kc_case (P := P) (kc_se c_Md_inside_7 (sm_aload_n d_Md_inside_7 rfl)) (
  kc_case (P := P) (kc_se c_Md_inside_6 (sm_iload_n d_Md_inside_6 rfl)) (
  kc_case (P := P) (kc_se c_Md_inside_5 (sm_istore_n d_Md_inside_5 rfl (Nat.le_of_ble_eq_true rfl))) (
  kc_case (P := P) (kc_se c_Md_inside_4 (sm_iadd d_Md_inside_4)) (
  kc_case (P := P) (kc_se c_Md_inside_3 (sm_iconst d_Md_inside_3 (by decide))) (
  kc_case (P := P) (kc_se c_Md_inside_2 (sm_iload_n d_Md_inside_2 rfl)) (
  kc_case (P := P) (kc_se c_Md_inside_1 (sm_istore_n d_Md_inside_1 rfl (Nat.le_of_ble_eq_true rfl))) (
  kc_case (P := P) (kc_se c_Md_inside_0 (sm_iconst d_Md_inside_0 (by decide))) (
  kc_case0))))))))))))))))))))))))))))))))))))))))
set_option maxRecDepth 100000 in
theorem ka_nth_no_Md_inside (pc : Nat) (h : 40 ≤ pc) : ct_Md_inside pc = ka_no := ka_nth_ge _ pc (Nat.le_trans (Nat.le_of_eq (by rfl)) h)
theorem s_Md_inside (pc : Nat) : kc_Sim kt kw_A kw_N kt_cl kt_En "DirectoryDeskModel" prog_12_method_22_code 4 (some .int) "inside" none pc (ct_Md_inside pc) := (Nat.lt_or_ge pc 40).elim (s_Md_inside_40 pc) (fun h => kc_se (ka_nth_no_Md_inside pc h) sm_no)
def cl_Md_closeAt_0 : List kc_A := [ka_al 0 1, ka_get 10 46, ka_no, ka_no, ka_if (fun x => x ≤ 0) 71, ka_no, ka_no, ka_al 0 1, ka_get 10 47, ka_no, ka_no, ka_al 0 1, ka_get 10 46, ka_no, ka_no, ka_ci (nI 1) 1, ka_ii (fun x y => x - y), ka_iald, ka_il 1 1, ka_cm (fun x y => ¬ x = y) 71, ka_no, ka_no, ka_al 0 1, ka_dup, ka_get 10 46, ka_no, ka_no, ka_ci (nI 1) 1, ka_ii (fun x y => x - y), ka_put 10 46 .int, ka_no, ka_no, ka_al 0 1, ka_get 10 41, ka_no, ka_no, ka_al 0 1, ka_get 10 48, ka_no, ka_no, ka_al 0 1, ka_get 10 46, ka_no, ka_no, ka_iald, ka_iald, ka_ci (nI 162) 3, ka_no, ka_no, ka_cm (fun x y => ¬ x = y) 0, ka_no, ka_no, ka_al 0 1, ka_al 0 1, ka_get 10 48, ka_no, ka_no, ka_al 0 1, ka_get 10 46, ka_no]
def cl_Md_closeAt_1 : List kc_A := [ka_no, ka_iald, ka_cv 117 1 10 0 0, ka_no, ka_no, ka_ci (nI 1) 1, ka_cm (fun x y => x = y) 0, ka_no, ka_no, ka_ci (nI 0) 1, ka_rz, ka_ci (nI 1) 1, ka_rz]
def ct_Md_closeAt : Nat → kc_A := fun pc => ka_nth (cl_Md_closeAt_0 ++ (cl_Md_closeAt_1)) pc
set_option maxRecDepth 100000 in
theorem c_Md_closeAt_0 : ct_Md_closeAt 0 = ka_al 0 1 := rfl
theorem d_Md_closeAt_0 : decode prog_12_method_23_code 0 = .ok (.aload_n 0, 1) := by decide +kernel
set_option maxRecDepth 100000 in
theorem c_Md_closeAt_1 : ct_Md_closeAt 1 = ka_get 10 46 := rfl
theorem d_Md_closeAt_1 : decode prog_12_method_23_code 1 = .ok (.getfield 186, 3) := by decide +kernel
set_option maxRecDepth 100000 in
theorem c_Md_closeAt_4 : ct_Md_closeAt 4 = ka_if (fun x => x ≤ 0) 71 := rfl
theorem d_Md_closeAt_4 : decode prog_12_method_23_code 4 = .ok (.ifCond .le 67, 3) := by decide +kernel
set_option maxRecDepth 100000 in
theorem c_Md_closeAt_7 : ct_Md_closeAt 7 = ka_al 0 1 := rfl
theorem d_Md_closeAt_7 : decode prog_12_method_23_code 7 = .ok (.aload_n 0, 1) := by decide +kernel
set_option maxRecDepth 100000 in
theorem c_Md_closeAt_8 : ct_Md_closeAt 8 = ka_get 10 47 := rfl
theorem d_Md_closeAt_8 : decode prog_12_method_23_code 8 = .ok (.getfield 71, 3) := by decide +kernel
set_option maxRecDepth 100000 in
theorem c_Md_closeAt_11 : ct_Md_closeAt 11 = ka_al 0 1 := rfl
theorem d_Md_closeAt_11 : decode prog_12_method_23_code 11 = .ok (.aload_n 0, 1) := by decide +kernel
set_option maxRecDepth 100000 in
theorem c_Md_closeAt_12 : ct_Md_closeAt 12 = ka_get 10 46 := rfl
theorem d_Md_closeAt_12 : decode prog_12_method_23_code 12 = .ok (.getfield 186, 3) := by decide +kernel
set_option maxRecDepth 100000 in
theorem c_Md_closeAt_15 : ct_Md_closeAt 15 = ka_ci (nI 1) 1 := rfl
theorem d_Md_closeAt_15 : decode prog_12_method_23_code 15 = .ok (.iconst 1, 1) := by decide +kernel
set_option maxRecDepth 100000 in
theorem c_Md_closeAt_16 : ct_Md_closeAt 16 = ka_ii (fun x y => x - y) := rfl
theorem d_Md_closeAt_16 : decode prog_12_method_23_code 16 = .ok (.isub, 1) := by decide +kernel
set_option maxRecDepth 100000 in
theorem c_Md_closeAt_17 : ct_Md_closeAt 17 = ka_iald := rfl
theorem d_Md_closeAt_17 : decode prog_12_method_23_code 17 = .ok (.iaload, 1) := by decide +kernel
set_option maxRecDepth 100000 in
theorem c_Md_closeAt_18 : ct_Md_closeAt 18 = ka_il 1 1 := rfl
theorem d_Md_closeAt_18 : decode prog_12_method_23_code 18 = .ok (.iload_n 1, 1) := by decide +kernel
set_option maxRecDepth 100000 in
theorem c_Md_closeAt_19 : ct_Md_closeAt 19 = ka_cm (fun x y => ¬ x = y) 71 := rfl
theorem d_Md_closeAt_19 : decode prog_12_method_23_code 19 = .ok (.if_icmp .ne 52, 3) := by decide +kernel
set_option maxRecDepth 100000 in
theorem c_Md_closeAt_22 : ct_Md_closeAt 22 = ka_al 0 1 := rfl
theorem d_Md_closeAt_22 : decode prog_12_method_23_code 22 = .ok (.aload_n 0, 1) := by decide +kernel
set_option maxRecDepth 100000 in
theorem c_Md_closeAt_23 : ct_Md_closeAt 23 = ka_dup := rfl
theorem d_Md_closeAt_23 : decode prog_12_method_23_code 23 = .ok (.dup, 1) := by decide +kernel
set_option maxRecDepth 100000 in
theorem c_Md_closeAt_24 : ct_Md_closeAt 24 = ka_get 10 46 := rfl
theorem d_Md_closeAt_24 : decode prog_12_method_23_code 24 = .ok (.getfield 186, 3) := by decide +kernel
set_option maxRecDepth 100000 in
theorem c_Md_closeAt_27 : ct_Md_closeAt 27 = ka_ci (nI 1) 1 := rfl
theorem d_Md_closeAt_27 : decode prog_12_method_23_code 27 = .ok (.iconst 1, 1) := by decide +kernel
set_option maxRecDepth 100000 in
theorem c_Md_closeAt_28 : ct_Md_closeAt 28 = ka_ii (fun x y => x - y) := rfl
theorem d_Md_closeAt_28 : decode prog_12_method_23_code 28 = .ok (.isub, 1) := by decide +kernel
set_option maxRecDepth 100000 in
theorem c_Md_closeAt_29 : ct_Md_closeAt 29 = ka_put 10 46 .int := rfl
theorem d_Md_closeAt_29 : decode prog_12_method_23_code 29 = .ok (.putfield 186, 3) := by decide +kernel
set_option maxRecDepth 100000 in
theorem c_Md_closeAt_32 : ct_Md_closeAt 32 = ka_al 0 1 := rfl
theorem d_Md_closeAt_32 : decode prog_12_method_23_code 32 = .ok (.aload_n 0, 1) := by decide +kernel
set_option maxRecDepth 100000 in
theorem c_Md_closeAt_33 : ct_Md_closeAt 33 = ka_get 10 41 := rfl
theorem d_Md_closeAt_33 : decode prog_12_method_23_code 33 = .ok (.getfield 56, 3) := by decide +kernel
set_option maxRecDepth 100000 in
theorem c_Md_closeAt_36 : ct_Md_closeAt 36 = ka_al 0 1 := rfl
theorem d_Md_closeAt_36 : decode prog_12_method_23_code 36 = .ok (.aload_n 0, 1) := by decide +kernel
set_option maxRecDepth 100000 in
theorem c_Md_closeAt_37 : ct_Md_closeAt 37 = ka_get 10 48 := rfl
theorem d_Md_closeAt_37 : decode prog_12_method_23_code 37 = .ok (.getfield 74, 3) := by decide +kernel
set_option maxRecDepth 100000 in
theorem c_Md_closeAt_40 : ct_Md_closeAt 40 = ka_al 0 1 := rfl
theorem d_Md_closeAt_40 : decode prog_12_method_23_code 40 = .ok (.aload_n 0, 1) := by decide +kernel
set_option maxRecDepth 100000 in
theorem c_Md_closeAt_41 : ct_Md_closeAt 41 = ka_get 10 46 := rfl
theorem d_Md_closeAt_41 : decode prog_12_method_23_code 41 = .ok (.getfield 186, 3) := by decide +kernel
set_option maxRecDepth 100000 in
theorem c_Md_closeAt_44 : ct_Md_closeAt 44 = ka_iald := rfl
theorem d_Md_closeAt_44 : decode prog_12_method_23_code 44 = .ok (.iaload, 1) := by decide +kernel
set_option maxRecDepth 100000 in
theorem c_Md_closeAt_45 : ct_Md_closeAt 45 = ka_iald := rfl
theorem d_Md_closeAt_45 : decode prog_12_method_23_code 45 = .ok (.iaload, 1) := by decide +kernel
set_option maxRecDepth 100000 in
theorem c_Md_closeAt_46 : ct_Md_closeAt 46 = ka_ci (nI 162) 3 := rfl
theorem d_Md_closeAt_46 : decode prog_12_method_23_code 46 = .ok (.sipush 162, 3) := by decide +kernel
set_option maxRecDepth 100000 in
theorem c_Md_closeAt_49 : ct_Md_closeAt 49 = ka_cm (fun x y => ¬ x = y) 0 := rfl
theorem d_Md_closeAt_49 : decode prog_12_method_23_code 49 = .ok (.if_icmp .ne (-49), 3) := by decide +kernel
set_option maxRecDepth 100000 in
theorem c_Md_closeAt_52 : ct_Md_closeAt 52 = ka_al 0 1 := rfl
theorem d_Md_closeAt_52 : decode prog_12_method_23_code 52 = .ok (.aload_n 0, 1) := by decide +kernel
set_option maxRecDepth 100000 in
theorem c_Md_closeAt_53 : ct_Md_closeAt 53 = ka_al 0 1 := rfl
theorem d_Md_closeAt_53 : decode prog_12_method_23_code 53 = .ok (.aload_n 0, 1) := by decide +kernel
set_option maxRecDepth 100000 in
theorem c_Md_closeAt_54 : ct_Md_closeAt 54 = ka_get 10 48 := rfl
theorem d_Md_closeAt_54 : decode prog_12_method_23_code 54 = .ok (.getfield 74, 3) := by decide +kernel
set_option maxRecDepth 100000 in
theorem c_Md_closeAt_57 : ct_Md_closeAt 57 = ka_al 0 1 := rfl
theorem d_Md_closeAt_57 : decode prog_12_method_23_code 57 = .ok (.aload_n 0, 1) := by decide +kernel
set_option maxRecDepth 100000 in
theorem c_Md_closeAt_58 : ct_Md_closeAt 58 = ka_get 10 46 := rfl
theorem d_Md_closeAt_58 : decode prog_12_method_23_code 58 = .ok (.getfield 186, 3) := by decide +kernel
set_option maxRecDepth 100000 in
theorem c_Md_closeAt_61 : ct_Md_closeAt 61 = ka_iald := rfl
theorem d_Md_closeAt_61 : decode prog_12_method_23_code 61 = .ok (.iaload, 1) := by decide +kernel
set_option maxRecDepth 100000 in
theorem c_Md_closeAt_62 : ct_Md_closeAt 62 = ka_cv 117 1 10 0 0 := rfl
theorem d_Md_closeAt_62 : decode prog_12_method_23_code 62 = .ok (.invokevirtual 189, 3) := by decide +kernel
set_option maxRecDepth 100000 in
theorem c_Md_closeAt_65 : ct_Md_closeAt 65 = ka_ci (nI 1) 1 := rfl
theorem d_Md_closeAt_65 : decode prog_12_method_23_code 65 = .ok (.iconst 1, 1) := by decide +kernel
set_option maxRecDepth 100000 in
theorem c_Md_closeAt_66 : ct_Md_closeAt 66 = ka_cm (fun x y => x = y) 0 := rfl
theorem d_Md_closeAt_66 : decode prog_12_method_23_code 66 = .ok (.if_icmp .eq (-66), 3) := by decide +kernel
set_option maxRecDepth 100000 in
theorem c_Md_closeAt_69 : ct_Md_closeAt 69 = ka_ci (nI 0) 1 := rfl
theorem d_Md_closeAt_69 : decode prog_12_method_23_code 69 = .ok (.iconst 0, 1) := by decide +kernel
set_option maxRecDepth 100000 in
theorem c_Md_closeAt_70 : ct_Md_closeAt 70 = ka_rz := rfl
theorem d_Md_closeAt_70 : decode prog_12_method_23_code 70 = .ok (.ireturn, 1) := by decide +kernel
set_option maxRecDepth 100000 in
theorem c_Md_closeAt_71 : ct_Md_closeAt 71 = ka_ci (nI 1) 1 := rfl
theorem d_Md_closeAt_71 : decode prog_12_method_23_code 71 = .ok (.iconst 1, 1) := by decide +kernel
set_option maxRecDepth 100000 in
theorem c_Md_closeAt_72 : ct_Md_closeAt 72 = ka_rz := rfl
theorem d_Md_closeAt_72 : decode prog_12_method_23_code 72 = .ok (.ireturn, 1) := by decide +kernel
set_option maxRecDepth 100000 in
set_option maxHeartbeats 4000000 in
theorem s_Md_closeAt_60 : ∀ pc, pc < 60 → kc_Sim kt kw_A kw_N kt_cl kt_En "DirectoryDeskModel" prog_12_method_23_code 2 (some .boolean) "closeAt" none pc (ct_Md_closeAt pc) := by
  let P : Nat → Prop := fun pc => kc_Sim kt kw_A kw_N kt_cl kt_En "DirectoryDeskModel" prog_12_method_23_code 2 (some .boolean) "closeAt" none pc (ct_Md_closeAt pc)
  exact kc_case (P := P) (kc_se rfl sm_no) (
  kc_case (P := P) (kc_se c_Md_closeAt_58 (sm_get (ci := 10) (C := "DirectoryDeskModel") (F := kF_Md) rfl kin_Md (Nat.le_of_ble_eq_true rfl) d_Md_closeAt_58 (kw3 229 rfl rfl))) (
  kc_case (P := P) (kc_se c_Md_closeAt_57 (sm_aload_n d_Md_closeAt_57 rfl)) (
  kc_case (P := P) (kc_se rfl sm_no) (
  kc_case (P := P) (kc_se rfl sm_no) (
  kc_case (P := P) (kc_se c_Md_closeAt_54 (sm_get (ci := 10) (C := "DirectoryDeskModel") (F := kF_Md) rfl kin_Md (Nat.le_of_ble_eq_true rfl) d_Md_closeAt_54 (kw3 231 rfl rfl))) (
  kc_case (P := P) (kc_se c_Md_closeAt_53 (sm_aload_n d_Md_closeAt_53 rfl)) (
  kc_case (P := P) (kc_se c_Md_closeAt_52 (sm_aload_n d_Md_closeAt_52 rfl)) (
  kc_case (P := P) (kc_se rfl sm_no) (
  kc_case (P := P) (kc_se rfl sm_no) (
  kc_case (P := P) (kc_se c_Md_closeAt_49 (sm_cm_ne d_Md_closeAt_49 (by decide))) (
  kc_case (P := P) (kc_se rfl sm_no) (
  kc_case (P := P) (kc_se rfl sm_no) (
  kc_case (P := P) (kc_se c_Md_closeAt_46 (sm_sipush d_Md_closeAt_46 (by decide))) (
  kc_case (P := P) (kc_se c_Md_closeAt_45 (sm_iald d_Md_closeAt_45)) (
  kc_case (P := P) (kc_se c_Md_closeAt_44 (sm_iald d_Md_closeAt_44)) (
  kc_case (P := P) (kc_se rfl sm_no) (
  kc_case (P := P) (kc_se rfl sm_no) (
  kc_case (P := P) (kc_se c_Md_closeAt_41 (sm_get (ci := 10) (C := "DirectoryDeskModel") (F := kF_Md) rfl kin_Md (Nat.le_of_ble_eq_true rfl) d_Md_closeAt_41 (kw3 229 rfl rfl))) (
  kc_case (P := P) (kc_se c_Md_closeAt_40 (sm_aload_n d_Md_closeAt_40 rfl)) (
  kc_case (P := P) (kc_se rfl sm_no) (
  kc_case (P := P) (kc_se rfl sm_no) (
  kc_case (P := P) (kc_se c_Md_closeAt_37 (sm_get (ci := 10) (C := "DirectoryDeskModel") (F := kF_Md) rfl kin_Md (Nat.le_of_ble_eq_true rfl) d_Md_closeAt_37 (kw3 231 rfl rfl))) (
  kc_case (P := P) (kc_se c_Md_closeAt_36 (sm_aload_n d_Md_closeAt_36 rfl)) (
  kc_case (P := P) (kc_se rfl sm_no) (
  kc_case (P := P) (kc_se rfl sm_no) (
  kc_case (P := P) (kc_se c_Md_closeAt_33 (sm_get (ci := 10) (C := "DirectoryDeskModel") (F := kF_Md) rfl kin_Md (Nat.le_of_ble_eq_true rfl) d_Md_closeAt_33 (kw3 224 rfl rfl))) (
  kc_case (P := P) (kc_se c_Md_closeAt_32 (sm_aload_n d_Md_closeAt_32 rfl)) (
  kc_case (P := P) (kc_se rfl sm_no) (
  kc_case (P := P) (kc_se rfl sm_no) (
  kc_case (P := P) (kc_se c_Md_closeAt_29 (sm_put (ci := 10) (C := "DirectoryDeskModel") (F := kF_Md) rfl kin_Md kty_Md ktk_Md knm_Md (Nat.le_of_ble_eq_true rfl) (by decide +kernel) d_Md_closeAt_29 (kw3 229 rfl rfl) rfl)) (
  kc_case (P := P) (kc_se c_Md_closeAt_28 (sm_isub d_Md_closeAt_28)) (
  kc_case (P := P) (kc_se c_Md_closeAt_27 (sm_iconst d_Md_closeAt_27 (by decide))) (
  kc_case (P := P) (kc_se rfl sm_no) (
  kc_case (P := P) (kc_se rfl sm_no) (
  kc_case (P := P) (kc_se c_Md_closeAt_24 (sm_get (ci := 10) (C := "DirectoryDeskModel") (F := kF_Md) rfl kin_Md (Nat.le_of_ble_eq_true rfl) d_Md_closeAt_24 (kw3 229 rfl rfl))) (
  kc_case (P := P) (kc_se c_Md_closeAt_23 (sm_dup d_Md_closeAt_23)) (
  kc_case (P := P) (kc_se c_Md_closeAt_22 (sm_aload_n d_Md_closeAt_22 rfl)) (
  kc_case (P := P) (kc_se rfl sm_no) (
  kc_case (P := P) (kc_se rfl sm_no) (
  kc_case (P := P) (kc_se c_Md_closeAt_19 (sm_cm_ne d_Md_closeAt_19 (by decide))) (
  kc_case (P := P) (kc_se c_Md_closeAt_18 (sm_iload_n d_Md_closeAt_18 rfl)) (
  kc_case (P := P) (kc_se c_Md_closeAt_17 (sm_iald d_Md_closeAt_17)) (
  kc_case (P := P) (kc_se c_Md_closeAt_16 (sm_isub d_Md_closeAt_16)) (
  kc_case (P := P) (kc_se c_Md_closeAt_15 (sm_iconst d_Md_closeAt_15 (by decide))) (
  kc_case (P := P) (kc_se rfl sm_no) (
  kc_case (P := P) (kc_se rfl sm_no) (
  kc_case (P := P) (kc_se c_Md_closeAt_12 (sm_get (ci := 10) (C := "DirectoryDeskModel") (F := kF_Md) rfl kin_Md (Nat.le_of_ble_eq_true rfl) d_Md_closeAt_12 (kw3 229 rfl rfl))) (
  kc_case (P := P) (kc_se c_Md_closeAt_11 (sm_aload_n d_Md_closeAt_11 rfl)) (
  kc_case (P := P) (kc_se rfl sm_no) (
  kc_case (P := P) (kc_se rfl sm_no) (
  kc_case (P := P) (kc_se c_Md_closeAt_8 (sm_get (ci := 10) (C := "DirectoryDeskModel") (F := kF_Md) rfl kin_Md (Nat.le_of_ble_eq_true rfl) d_Md_closeAt_8 (kw3 230 rfl rfl))) (
  kc_case (P := P) (kc_se c_Md_closeAt_7 (sm_aload_n d_Md_closeAt_7 rfl)) (
  kc_case (P := P) (kc_se rfl sm_no) (
  kc_case (P := P) (kc_se rfl sm_no) (
  kc_case (P := P) (kc_se c_Md_closeAt_4 (sm_if_le d_Md_closeAt_4 (by decide))) (
  kc_case (P := P) (kc_se rfl sm_no) (
  kc_case (P := P) (kc_se rfl sm_no) (
  kc_case (P := P) (kc_se c_Md_closeAt_1 (sm_get (ci := 10) (C := "DirectoryDeskModel") (F := kF_Md) rfl kin_Md (Nat.le_of_ble_eq_true rfl) d_Md_closeAt_1 (kw3 229 rfl rfl))) (
  kc_case (P := P) (kc_se c_Md_closeAt_0 (sm_aload_n d_Md_closeAt_0 rfl)) (
  kc_case0))))))))))))))))))))))))))))))))))))))))))))))))))))))))))))
set_option maxRecDepth 100000 in
set_option maxHeartbeats 4000000 in
theorem s_Md_closeAt_73 : ∀ pc, pc < 73 → kc_Sim kt kw_A kw_N kt_cl kt_En "DirectoryDeskModel" prog_12_method_23_code 2 (some .boolean) "closeAt" none pc (ct_Md_closeAt pc) := by
  let P : Nat → Prop := fun pc => kc_Sim kt kw_A kw_N kt_cl kt_En "DirectoryDeskModel" prog_12_method_23_code 2 (some .boolean) "closeAt" none pc (ct_Md_closeAt pc)
  exact kc_case (P := P) (kc_se c_Md_closeAt_72 (sm_rz d_Md_closeAt_72 rfl)) (
  kc_case (P := P) (kc_se c_Md_closeAt_71 (sm_iconst d_Md_closeAt_71 (by decide))) (
  kc_case (P := P) (kc_se c_Md_closeAt_70 (sm_rz d_Md_closeAt_70 rfl)) (
  kc_case (P := P) (kc_se c_Md_closeAt_69 (sm_iconst d_Md_closeAt_69 (by decide))) (
  kc_case (P := P) (kc_se rfl sm_no) (
  kc_case (P := P) (kc_se rfl sm_no) (
  kc_case (P := P) (kc_se c_Md_closeAt_66 (sm_cm_eq d_Md_closeAt_66 (by decide))) (
  kc_case (P := P) (kc_se c_Md_closeAt_65 (sm_iconst d_Md_closeAt_65 (by decide))) (
  kc_case (P := P) (kc_se rfl sm_no) (
  kc_case (P := P) (kc_se rfl sm_no) (
  kc_case (P := P) (kc_se c_Md_closeAt_62 (sm_cv (j := 117) rfl rfl kw_o kw_g wc_Md_inside (Nat.le_of_ble_eq_true rfl) hd_Md_inside (ci := 10) (F := kF_Md) (N := 52) rfl (kw4 176 rfl rfl) wi_Md_inside ws_Md_inside wn_Md_inside d_Md_closeAt_62)) (
  kc_case (P := P) (kc_se c_Md_closeAt_61 (sm_iald d_Md_closeAt_61)) (
  kc_case (P := P) (kc_se rfl sm_no) (
  s_Md_closeAt_60)))))))))))))
set_option maxRecDepth 100000 in
theorem ka_nth_no_Md_closeAt (pc : Nat) (h : 73 ≤ pc) : ct_Md_closeAt pc = ka_no := ka_nth_ge _ pc (Nat.le_trans (Nat.le_of_eq (by rfl)) h)
theorem s_Md_closeAt (pc : Nat) : kc_Sim kt kw_A kw_N kt_cl kt_En "DirectoryDeskModel" prog_12_method_23_code 2 (some .boolean) "closeAt" none pc (ct_Md_closeAt pc) := (Nat.lt_or_ge pc 73).elim (s_Md_closeAt_73 pc) (fun h => kc_se (ka_nth_no_Md_closeAt pc h) sm_no)
def cl_Md_readFilter_0 : List kc_A := [ka_il 1 1, ka_is 2 1, ka_al 0 1, ka_get 10 46, ka_no, ka_no, ka_if (fun x => ¬ x = 0) 16, ka_no, ka_no, ka_al 0 1, ka_get 10 19, ka_no, ka_no, ka_goto 27, ka_no, ka_no, ka_al 0 1, ka_get 10 47, ka_no, ka_no, ka_al 0 1, ka_get 10 46, ka_no, ka_no, ka_ci (nI 1) 1, ka_ii (fun x y => x - y), ka_iald, ka_is 3 1, ka_al 0 1, ka_get 10 40, ka_no, ka_no, ka_ci (nI 20) 2, ka_no, ka_cm (fun x y => x = y) 55, ka_no, ka_no, ka_al 0 1, ka_get 10 46, ka_no, ka_no, ka_ci (nI 6) 2, ka_no, ka_cm (fun x y => x = y) 55, ka_no, ka_no, ka_al 0 1, ka_il 2 1, ka_il 3 1, ka_cv 99 2 10 0 0, ka_no, ka_no, ka_if (fun x => ¬ x = 0) 57, ka_no, ka_no, ka_ci (-1) 1, ka_ri, ka_al 0 1, ka_get 10 40, ka_no]
def cl_Md_readFilter_1 : List kc_A := [ka_no, ka_is 4 2, ka_no, ka_al 0 1, ka_get 10 41, ka_no, ka_no, ka_il 4 2, ka_no, ka_al 0 1, ka_get 10 13, ka_no, ka_no, ka_iast, ka_al 0 1, ka_get 10 42, ka_no, ka_no, ka_il 4 2, ka_no, ka_al 0 1, ka_get 10 46, ka_no, ka_no, ka_if (fun x => ¬ x = 0) 91, ka_no, ka_no, ka_ci (-1) 1, ka_goto 102, ka_no, ka_no, ka_al 0 1, ka_get 10 48, ka_no, ka_no, ka_al 0 1, ka_get 10 46, ka_no, ka_no, ka_ci (nI 1) 1, ka_ii (fun x y => x - y), ka_iald, ka_iast, ka_al 0 1, ka_dup, ka_get 10 40, ka_no, ka_no, ka_ci (nI 1) 1, ka_ii (fun x y => x + y), ka_put 10 40 .int, ka_no, ka_no, ka_al 0 1, ka_get 10 15, ka_no, ka_no, ka_is 2 1, ka_al 0 1, ka_get 10 13]
def cl_Md_readFilter_2 : List kc_A := [ka_no, ka_no, ka_cs 116 1 0 0, ka_no, ka_no, ka_if (fun x => x = 0) 139, ka_no, ka_no, ka_al 0 1, ka_il 4 2, ka_no, ka_cv 115 1 10 0 0, ka_no, ka_no, ka_if (fun x => ¬ x = 0) 200, ka_no, ka_no, ka_ci (-1) 1, ka_ri, ka_al 0 1, ka_get 10 13, ka_no, ka_no, ka_ci (nI 160) 3, ka_no, ka_no, ka_cm (fun x y => x < y) 159, ka_no, ka_no, ka_al 0 1, ka_get 10 13, ka_no, ka_no, ka_ci (nI 162) 3, ka_no, ka_no, ka_cm (fun x y => x ≤ y) 161, ka_no, ka_no, ka_ci (-1) 1, ka_ri, ka_al 0 1, ka_get 10 47, ka_no, ka_no, ka_al 0 1, ka_get 10 46, ka_no, ka_no, ka_al 0 1, ka_get 10 15, ka_no, ka_no, ka_iast, ka_al 0 1, ka_get 10 48, ka_no, ka_no, ka_al 0 1, ka_get 10 46]
def cl_Md_readFilter_3 : List kc_A := [ka_no, ka_no, ka_il 4 2, ka_no, ka_iast, ka_al 0 1, ka_dup, ka_get 10 46, ka_no, ka_no, ka_ci (nI 1) 1, ka_ii (fun x y => x + y), ka_put 10 46 .int, ka_no, ka_no, ka_al 0 1, ka_get 10 14, ka_no, ka_no, ka_is 2 1, ka_al 0 1, ka_il 2 1, ka_cv 118 1 10 0 0, ka_no, ka_no, ka_if (fun x => ¬ x = 0) 210, ka_no, ka_no, ka_ci (-1) 1, ka_ri, ka_al 0 1, ka_get 10 46, ka_no, ka_no, ka_if (fun x => 0 < x) 2, ka_no, ka_no, ka_il 2 1, ka_ri]
def ct_Md_readFilter : Nat → kc_A := fun pc => ka_nth (cl_Md_readFilter_0 ++ (cl_Md_readFilter_1 ++ (cl_Md_readFilter_2 ++ (cl_Md_readFilter_3)))) pc
set_option maxRecDepth 100000 in
theorem c_Md_readFilter_0 : ct_Md_readFilter 0 = ka_il 1 1 := rfl
theorem d_Md_readFilter_0 : decode prog_12_method_24_code 0 = .ok (.iload_n 1, 1) := by decide +kernel
set_option maxRecDepth 100000 in
theorem c_Md_readFilter_1 : ct_Md_readFilter 1 = ka_is 2 1 := rfl
theorem d_Md_readFilter_1 : decode prog_12_method_24_code 1 = .ok (.istore_n 2, 1) := by decide +kernel
set_option maxRecDepth 100000 in
theorem c_Md_readFilter_2 : ct_Md_readFilter 2 = ka_al 0 1 := rfl
theorem d_Md_readFilter_2 : decode prog_12_method_24_code 2 = .ok (.aload_n 0, 1) := by decide +kernel
set_option maxRecDepth 100000 in
theorem c_Md_readFilter_3 : ct_Md_readFilter 3 = ka_get 10 46 := rfl
theorem d_Md_readFilter_3 : decode prog_12_method_24_code 3 = .ok (.getfield 186, 3) := by decide +kernel
set_option maxRecDepth 100000 in
theorem c_Md_readFilter_6 : ct_Md_readFilter 6 = ka_if (fun x => ¬ x = 0) 16 := rfl
theorem d_Md_readFilter_6 : decode prog_12_method_24_code 6 = .ok (.ifCond .ne 10, 3) := by decide +kernel
set_option maxRecDepth 100000 in
theorem c_Md_readFilter_9 : ct_Md_readFilter 9 = ka_al 0 1 := rfl
theorem d_Md_readFilter_9 : decode prog_12_method_24_code 9 = .ok (.aload_n 0, 1) := by decide +kernel
set_option maxRecDepth 100000 in
theorem c_Md_readFilter_10 : ct_Md_readFilter 10 = ka_get 10 19 := rfl
theorem d_Md_readFilter_10 : decode prog_12_method_24_code 10 = .ok (.getfield 143, 3) := by decide +kernel
set_option maxRecDepth 100000 in
theorem c_Md_readFilter_13 : ct_Md_readFilter 13 = ka_goto 27 := rfl
theorem d_Md_readFilter_13 : decode prog_12_method_24_code 13 = .ok (.goto 14, 3) := by decide +kernel
set_option maxRecDepth 100000 in
theorem c_Md_readFilter_16 : ct_Md_readFilter 16 = ka_al 0 1 := rfl
theorem d_Md_readFilter_16 : decode prog_12_method_24_code 16 = .ok (.aload_n 0, 1) := by decide +kernel
set_option maxRecDepth 100000 in
theorem c_Md_readFilter_17 : ct_Md_readFilter 17 = ka_get 10 47 := rfl
theorem d_Md_readFilter_17 : decode prog_12_method_24_code 17 = .ok (.getfield 71, 3) := by decide +kernel
set_option maxRecDepth 100000 in
theorem c_Md_readFilter_20 : ct_Md_readFilter 20 = ka_al 0 1 := rfl
theorem d_Md_readFilter_20 : decode prog_12_method_24_code 20 = .ok (.aload_n 0, 1) := by decide +kernel
set_option maxRecDepth 100000 in
theorem c_Md_readFilter_21 : ct_Md_readFilter 21 = ka_get 10 46 := rfl
theorem d_Md_readFilter_21 : decode prog_12_method_24_code 21 = .ok (.getfield 186, 3) := by decide +kernel
set_option maxRecDepth 100000 in
theorem c_Md_readFilter_24 : ct_Md_readFilter 24 = ka_ci (nI 1) 1 := rfl
theorem d_Md_readFilter_24 : decode prog_12_method_24_code 24 = .ok (.iconst 1, 1) := by decide +kernel
set_option maxRecDepth 100000 in
theorem c_Md_readFilter_25 : ct_Md_readFilter 25 = ka_ii (fun x y => x - y) := rfl
theorem d_Md_readFilter_25 : decode prog_12_method_24_code 25 = .ok (.isub, 1) := by decide +kernel
set_option maxRecDepth 100000 in
theorem c_Md_readFilter_26 : ct_Md_readFilter 26 = ka_iald := rfl
theorem d_Md_readFilter_26 : decode prog_12_method_24_code 26 = .ok (.iaload, 1) := by decide +kernel
set_option maxRecDepth 100000 in
theorem c_Md_readFilter_27 : ct_Md_readFilter 27 = ka_is 3 1 := rfl
theorem d_Md_readFilter_27 : decode prog_12_method_24_code 27 = .ok (.istore_n 3, 1) := by decide +kernel
set_option maxRecDepth 100000 in
theorem c_Md_readFilter_28 : ct_Md_readFilter 28 = ka_al 0 1 := rfl
theorem d_Md_readFilter_28 : decode prog_12_method_24_code 28 = .ok (.aload_n 0, 1) := by decide +kernel
set_option maxRecDepth 100000 in
theorem c_Md_readFilter_29 : ct_Md_readFilter 29 = ka_get 10 40 := rfl
theorem d_Md_readFilter_29 : decode prog_12_method_24_code 29 = .ok (.getfield 183, 3) := by decide +kernel
set_option maxRecDepth 100000 in
theorem c_Md_readFilter_32 : ct_Md_readFilter 32 = ka_ci (nI 20) 2 := rfl
theorem d_Md_readFilter_32 : decode prog_12_method_24_code 32 = .ok (.bipush 20, 2) := by decide +kernel
set_option maxRecDepth 100000 in
theorem c_Md_readFilter_34 : ct_Md_readFilter 34 = ka_cm (fun x y => x = y) 55 := rfl
theorem d_Md_readFilter_34 : decode prog_12_method_24_code 34 = .ok (.if_icmp .eq 21, 3) := by decide +kernel
set_option maxRecDepth 100000 in
theorem c_Md_readFilter_37 : ct_Md_readFilter 37 = ka_al 0 1 := rfl
theorem d_Md_readFilter_37 : decode prog_12_method_24_code 37 = .ok (.aload_n 0, 1) := by decide +kernel
set_option maxRecDepth 100000 in
theorem c_Md_readFilter_38 : ct_Md_readFilter 38 = ka_get 10 46 := rfl
theorem d_Md_readFilter_38 : decode prog_12_method_24_code 38 = .ok (.getfield 186, 3) := by decide +kernel
set_option maxRecDepth 100000 in
theorem c_Md_readFilter_41 : ct_Md_readFilter 41 = ka_ci (nI 6) 2 := rfl
theorem d_Md_readFilter_41 : decode prog_12_method_24_code 41 = .ok (.bipush 6, 2) := by decide +kernel
set_option maxRecDepth 100000 in
theorem c_Md_readFilter_43 : ct_Md_readFilter 43 = ka_cm (fun x y => x = y) 55 := rfl
theorem d_Md_readFilter_43 : decode prog_12_method_24_code 43 = .ok (.if_icmp .eq 12, 3) := by decide +kernel
set_option maxRecDepth 100000 in
theorem c_Md_readFilter_46 : ct_Md_readFilter 46 = ka_al 0 1 := rfl
theorem d_Md_readFilter_46 : decode prog_12_method_24_code 46 = .ok (.aload_n 0, 1) := by decide +kernel
set_option maxRecDepth 100000 in
theorem c_Md_readFilter_47 : ct_Md_readFilter 47 = ka_il 2 1 := rfl
theorem d_Md_readFilter_47 : decode prog_12_method_24_code 47 = .ok (.iload_n 2, 1) := by decide +kernel
set_option maxRecDepth 100000 in
theorem c_Md_readFilter_48 : ct_Md_readFilter 48 = ka_il 3 1 := rfl
theorem d_Md_readFilter_48 : decode prog_12_method_24_code 48 = .ok (.iload_n 3, 1) := by decide +kernel
set_option maxRecDepth 100000 in
theorem c_Md_readFilter_49 : ct_Md_readFilter 49 = ka_cv 99 2 10 0 0 := rfl
theorem d_Md_readFilter_49 : decode prog_12_method_24_code 49 = .ok (.invokevirtual 112, 3) := by decide +kernel
set_option maxRecDepth 100000 in
theorem c_Md_readFilter_52 : ct_Md_readFilter 52 = ka_if (fun x => ¬ x = 0) 57 := rfl
theorem d_Md_readFilter_52 : decode prog_12_method_24_code 52 = .ok (.ifCond .ne 5, 3) := by decide +kernel
set_option maxRecDepth 100000 in
theorem c_Md_readFilter_55 : ct_Md_readFilter 55 = ka_ci (-1) 1 := rfl
theorem d_Md_readFilter_55 : decode prog_12_method_24_code 55 = .ok (.iconst (-1), 1) := by decide +kernel
set_option maxRecDepth 100000 in
theorem c_Md_readFilter_56 : ct_Md_readFilter 56 = ka_ri := rfl
theorem d_Md_readFilter_56 : decode prog_12_method_24_code 56 = .ok (.ireturn, 1) := by decide +kernel
set_option maxRecDepth 100000 in
theorem c_Md_readFilter_57 : ct_Md_readFilter 57 = ka_al 0 1 := rfl
theorem d_Md_readFilter_57 : decode prog_12_method_24_code 57 = .ok (.aload_n 0, 1) := by decide +kernel
set_option maxRecDepth 100000 in
theorem c_Md_readFilter_58 : ct_Md_readFilter 58 = ka_get 10 40 := rfl
theorem d_Md_readFilter_58 : decode prog_12_method_24_code 58 = .ok (.getfield 183, 3) := by decide +kernel
set_option maxRecDepth 100000 in
theorem c_Md_readFilter_61 : ct_Md_readFilter 61 = ka_is 4 2 := rfl
theorem d_Md_readFilter_61 : decode prog_12_method_24_code 61 = .ok (.istore 4, 2) := by decide +kernel
set_option maxRecDepth 100000 in
theorem c_Md_readFilter_63 : ct_Md_readFilter 63 = ka_al 0 1 := rfl
theorem d_Md_readFilter_63 : decode prog_12_method_24_code 63 = .ok (.aload_n 0, 1) := by decide +kernel
set_option maxRecDepth 100000 in
theorem c_Md_readFilter_64 : ct_Md_readFilter 64 = ka_get 10 41 := rfl
theorem d_Md_readFilter_64 : decode prog_12_method_24_code 64 = .ok (.getfield 56, 3) := by decide +kernel
set_option maxRecDepth 100000 in
theorem c_Md_readFilter_67 : ct_Md_readFilter 67 = ka_il 4 2 := rfl
theorem d_Md_readFilter_67 : decode prog_12_method_24_code 67 = .ok (.iload 4, 2) := by decide +kernel
set_option maxRecDepth 100000 in
theorem c_Md_readFilter_69 : ct_Md_readFilter 69 = ka_al 0 1 := rfl
theorem d_Md_readFilter_69 : decode prog_12_method_24_code 69 = .ok (.aload_n 0, 1) := by decide +kernel
set_option maxRecDepth 100000 in
theorem c_Md_readFilter_70 : ct_Md_readFilter 70 = ka_get 10 13 := rfl
theorem d_Md_readFilter_70 : decode prog_12_method_24_code 70 = .ok (.getfield 103, 3) := by decide +kernel
set_option maxRecDepth 100000 in
theorem c_Md_readFilter_73 : ct_Md_readFilter 73 = ka_iast := rfl
theorem d_Md_readFilter_73 : decode prog_12_method_24_code 73 = .ok (.iastore, 1) := by decide +kernel
set_option maxRecDepth 100000 in
theorem c_Md_readFilter_74 : ct_Md_readFilter 74 = ka_al 0 1 := rfl
theorem d_Md_readFilter_74 : decode prog_12_method_24_code 74 = .ok (.aload_n 0, 1) := by decide +kernel
set_option maxRecDepth 100000 in
theorem c_Md_readFilter_75 : ct_Md_readFilter 75 = ka_get 10 42 := rfl
theorem d_Md_readFilter_75 : decode prog_12_method_24_code 75 = .ok (.getfield 59, 3) := by decide +kernel
set_option maxRecDepth 100000 in
theorem c_Md_readFilter_78 : ct_Md_readFilter 78 = ka_il 4 2 := rfl
theorem d_Md_readFilter_78 : decode prog_12_method_24_code 78 = .ok (.iload 4, 2) := by decide +kernel
set_option maxRecDepth 100000 in
theorem c_Md_readFilter_80 : ct_Md_readFilter 80 = ka_al 0 1 := rfl
theorem d_Md_readFilter_80 : decode prog_12_method_24_code 80 = .ok (.aload_n 0, 1) := by decide +kernel
set_option maxRecDepth 100000 in
theorem c_Md_readFilter_81 : ct_Md_readFilter 81 = ka_get 10 46 := rfl
theorem d_Md_readFilter_81 : decode prog_12_method_24_code 81 = .ok (.getfield 186, 3) := by decide +kernel
set_option maxRecDepth 100000 in
theorem c_Md_readFilter_84 : ct_Md_readFilter 84 = ka_if (fun x => ¬ x = 0) 91 := rfl
theorem d_Md_readFilter_84 : decode prog_12_method_24_code 84 = .ok (.ifCond .ne 7, 3) := by decide +kernel
set_option maxRecDepth 100000 in
theorem c_Md_readFilter_87 : ct_Md_readFilter 87 = ka_ci (-1) 1 := rfl
theorem d_Md_readFilter_87 : decode prog_12_method_24_code 87 = .ok (.iconst (-1), 1) := by decide +kernel
set_option maxRecDepth 100000 in
theorem c_Md_readFilter_88 : ct_Md_readFilter 88 = ka_goto 102 := rfl
theorem d_Md_readFilter_88 : decode prog_12_method_24_code 88 = .ok (.goto 14, 3) := by decide +kernel
set_option maxRecDepth 100000 in
theorem c_Md_readFilter_91 : ct_Md_readFilter 91 = ka_al 0 1 := rfl
theorem d_Md_readFilter_91 : decode prog_12_method_24_code 91 = .ok (.aload_n 0, 1) := by decide +kernel
set_option maxRecDepth 100000 in
theorem c_Md_readFilter_92 : ct_Md_readFilter 92 = ka_get 10 48 := rfl
theorem d_Md_readFilter_92 : decode prog_12_method_24_code 92 = .ok (.getfield 74, 3) := by decide +kernel
set_option maxRecDepth 100000 in
theorem c_Md_readFilter_95 : ct_Md_readFilter 95 = ka_al 0 1 := rfl
theorem d_Md_readFilter_95 : decode prog_12_method_24_code 95 = .ok (.aload_n 0, 1) := by decide +kernel
set_option maxRecDepth 100000 in
theorem c_Md_readFilter_96 : ct_Md_readFilter 96 = ka_get 10 46 := rfl
theorem d_Md_readFilter_96 : decode prog_12_method_24_code 96 = .ok (.getfield 186, 3) := by decide +kernel
set_option maxRecDepth 100000 in
theorem c_Md_readFilter_99 : ct_Md_readFilter 99 = ka_ci (nI 1) 1 := rfl
theorem d_Md_readFilter_99 : decode prog_12_method_24_code 99 = .ok (.iconst 1, 1) := by decide +kernel
set_option maxRecDepth 100000 in
theorem c_Md_readFilter_100 : ct_Md_readFilter 100 = ka_ii (fun x y => x - y) := rfl
theorem d_Md_readFilter_100 : decode prog_12_method_24_code 100 = .ok (.isub, 1) := by decide +kernel
set_option maxRecDepth 100000 in
theorem c_Md_readFilter_101 : ct_Md_readFilter 101 = ka_iald := rfl
theorem d_Md_readFilter_101 : decode prog_12_method_24_code 101 = .ok (.iaload, 1) := by decide +kernel
set_option maxRecDepth 100000 in
theorem c_Md_readFilter_102 : ct_Md_readFilter 102 = ka_iast := rfl
theorem d_Md_readFilter_102 : decode prog_12_method_24_code 102 = .ok (.iastore, 1) := by decide +kernel
set_option maxRecDepth 100000 in
theorem c_Md_readFilter_103 : ct_Md_readFilter 103 = ka_al 0 1 := rfl
theorem d_Md_readFilter_103 : decode prog_12_method_24_code 103 = .ok (.aload_n 0, 1) := by decide +kernel
set_option maxRecDepth 100000 in
theorem c_Md_readFilter_104 : ct_Md_readFilter 104 = ka_dup := rfl
theorem d_Md_readFilter_104 : decode prog_12_method_24_code 104 = .ok (.dup, 1) := by decide +kernel
set_option maxRecDepth 100000 in
theorem c_Md_readFilter_105 : ct_Md_readFilter 105 = ka_get 10 40 := rfl
theorem d_Md_readFilter_105 : decode prog_12_method_24_code 105 = .ok (.getfield 183, 3) := by decide +kernel
set_option maxRecDepth 100000 in
theorem c_Md_readFilter_108 : ct_Md_readFilter 108 = ka_ci (nI 1) 1 := rfl
theorem d_Md_readFilter_108 : decode prog_12_method_24_code 108 = .ok (.iconst 1, 1) := by decide +kernel
set_option maxRecDepth 100000 in
theorem c_Md_readFilter_109 : ct_Md_readFilter 109 = ka_ii (fun x y => x + y) := rfl
theorem d_Md_readFilter_109 : decode prog_12_method_24_code 109 = .ok (.iadd, 1) := by decide +kernel
set_option maxRecDepth 100000 in
theorem c_Md_readFilter_110 : ct_Md_readFilter 110 = ka_put 10 40 .int := rfl
theorem d_Md_readFilter_110 : decode prog_12_method_24_code 110 = .ok (.putfield 183, 3) := by decide +kernel
set_option maxRecDepth 100000 in
theorem c_Md_readFilter_113 : ct_Md_readFilter 113 = ka_al 0 1 := rfl
theorem d_Md_readFilter_113 : decode prog_12_method_24_code 113 = .ok (.aload_n 0, 1) := by decide +kernel
set_option maxRecDepth 100000 in
theorem c_Md_readFilter_114 : ct_Md_readFilter 114 = ka_get 10 15 := rfl
theorem d_Md_readFilter_114 : decode prog_12_method_24_code 114 = .ok (.getfield 109, 3) := by decide +kernel
set_option maxRecDepth 100000 in
theorem c_Md_readFilter_117 : ct_Md_readFilter 117 = ka_is 2 1 := rfl
theorem d_Md_readFilter_117 : decode prog_12_method_24_code 117 = .ok (.istore_n 2, 1) := by decide +kernel
set_option maxRecDepth 100000 in
theorem c_Md_readFilter_118 : ct_Md_readFilter 118 = ka_al 0 1 := rfl
theorem d_Md_readFilter_118 : decode prog_12_method_24_code 118 = .ok (.aload_n 0, 1) := by decide +kernel
set_option maxRecDepth 100000 in
theorem c_Md_readFilter_119 : ct_Md_readFilter 119 = ka_get 10 13 := rfl
theorem d_Md_readFilter_119 : decode prog_12_method_24_code 119 = .ok (.getfield 103, 3) := by decide +kernel
set_option maxRecDepth 100000 in
theorem c_Md_readFilter_122 : ct_Md_readFilter 122 = ka_cs 116 1 0 0 := rfl
theorem d_Md_readFilter_122 : decode prog_12_method_24_code 122 = .ok (.invokestatic 193, 3) := by decide +kernel
set_option maxRecDepth 100000 in
theorem c_Md_readFilter_125 : ct_Md_readFilter 125 = ka_if (fun x => x = 0) 139 := rfl
theorem d_Md_readFilter_125 : decode prog_12_method_24_code 125 = .ok (.ifCond .eq 14, 3) := by decide +kernel
set_option maxRecDepth 100000 in
theorem c_Md_readFilter_128 : ct_Md_readFilter 128 = ka_al 0 1 := rfl
theorem d_Md_readFilter_128 : decode prog_12_method_24_code 128 = .ok (.aload_n 0, 1) := by decide +kernel
set_option maxRecDepth 100000 in
theorem c_Md_readFilter_129 : ct_Md_readFilter 129 = ka_il 4 2 := rfl
theorem d_Md_readFilter_129 : decode prog_12_method_24_code 129 = .ok (.iload 4, 2) := by decide +kernel
set_option maxRecDepth 100000 in
theorem c_Md_readFilter_131 : ct_Md_readFilter 131 = ka_cv 115 1 10 0 0 := rfl
theorem d_Md_readFilter_131 : decode prog_12_method_24_code 131 = .ok (.invokevirtual 196, 3) := by decide +kernel
set_option maxRecDepth 100000 in
theorem c_Md_readFilter_134 : ct_Md_readFilter 134 = ka_if (fun x => ¬ x = 0) 200 := rfl
theorem d_Md_readFilter_134 : decode prog_12_method_24_code 134 = .ok (.ifCond .ne 66, 3) := by decide +kernel
set_option maxRecDepth 100000 in
theorem c_Md_readFilter_137 : ct_Md_readFilter 137 = ka_ci (-1) 1 := rfl
theorem d_Md_readFilter_137 : decode prog_12_method_24_code 137 = .ok (.iconst (-1), 1) := by decide +kernel
set_option maxRecDepth 100000 in
theorem c_Md_readFilter_138 : ct_Md_readFilter 138 = ka_ri := rfl
theorem d_Md_readFilter_138 : decode prog_12_method_24_code 138 = .ok (.ireturn, 1) := by decide +kernel
set_option maxRecDepth 100000 in
theorem c_Md_readFilter_139 : ct_Md_readFilter 139 = ka_al 0 1 := rfl
theorem d_Md_readFilter_139 : decode prog_12_method_24_code 139 = .ok (.aload_n 0, 1) := by decide +kernel
set_option maxRecDepth 100000 in
theorem c_Md_readFilter_140 : ct_Md_readFilter 140 = ka_get 10 13 := rfl
theorem d_Md_readFilter_140 : decode prog_12_method_24_code 140 = .ok (.getfield 103, 3) := by decide +kernel
set_option maxRecDepth 100000 in
theorem c_Md_readFilter_143 : ct_Md_readFilter 143 = ka_ci (nI 160) 3 := rfl
theorem d_Md_readFilter_143 : decode prog_12_method_24_code 143 = .ok (.sipush 160, 3) := by decide +kernel
set_option maxRecDepth 100000 in
theorem c_Md_readFilter_146 : ct_Md_readFilter 146 = ka_cm (fun x y => x < y) 159 := rfl
theorem d_Md_readFilter_146 : decode prog_12_method_24_code 146 = .ok (.if_icmp .lt 13, 3) := by decide +kernel
set_option maxRecDepth 100000 in
theorem c_Md_readFilter_149 : ct_Md_readFilter 149 = ka_al 0 1 := rfl
theorem d_Md_readFilter_149 : decode prog_12_method_24_code 149 = .ok (.aload_n 0, 1) := by decide +kernel
set_option maxRecDepth 100000 in
theorem c_Md_readFilter_150 : ct_Md_readFilter 150 = ka_get 10 13 := rfl
theorem d_Md_readFilter_150 : decode prog_12_method_24_code 150 = .ok (.getfield 103, 3) := by decide +kernel
set_option maxRecDepth 100000 in
theorem c_Md_readFilter_153 : ct_Md_readFilter 153 = ka_ci (nI 162) 3 := rfl
theorem d_Md_readFilter_153 : decode prog_12_method_24_code 153 = .ok (.sipush 162, 3) := by decide +kernel
set_option maxRecDepth 100000 in
theorem c_Md_readFilter_156 : ct_Md_readFilter 156 = ka_cm (fun x y => x ≤ y) 161 := rfl
theorem d_Md_readFilter_156 : decode prog_12_method_24_code 156 = .ok (.if_icmp .le 5, 3) := by decide +kernel
set_option maxRecDepth 100000 in
theorem c_Md_readFilter_159 : ct_Md_readFilter 159 = ka_ci (-1) 1 := rfl
theorem d_Md_readFilter_159 : decode prog_12_method_24_code 159 = .ok (.iconst (-1), 1) := by decide +kernel
set_option maxRecDepth 100000 in
theorem c_Md_readFilter_160 : ct_Md_readFilter 160 = ka_ri := rfl
theorem d_Md_readFilter_160 : decode prog_12_method_24_code 160 = .ok (.ireturn, 1) := by decide +kernel
set_option maxRecDepth 100000 in
theorem c_Md_readFilter_161 : ct_Md_readFilter 161 = ka_al 0 1 := rfl
theorem d_Md_readFilter_161 : decode prog_12_method_24_code 161 = .ok (.aload_n 0, 1) := by decide +kernel
set_option maxRecDepth 100000 in
theorem c_Md_readFilter_162 : ct_Md_readFilter 162 = ka_get 10 47 := rfl
theorem d_Md_readFilter_162 : decode prog_12_method_24_code 162 = .ok (.getfield 71, 3) := by decide +kernel
set_option maxRecDepth 100000 in
theorem c_Md_readFilter_165 : ct_Md_readFilter 165 = ka_al 0 1 := rfl
theorem d_Md_readFilter_165 : decode prog_12_method_24_code 165 = .ok (.aload_n 0, 1) := by decide +kernel
set_option maxRecDepth 100000 in
theorem c_Md_readFilter_166 : ct_Md_readFilter 166 = ka_get 10 46 := rfl
theorem d_Md_readFilter_166 : decode prog_12_method_24_code 166 = .ok (.getfield 186, 3) := by decide +kernel
set_option maxRecDepth 100000 in
theorem c_Md_readFilter_169 : ct_Md_readFilter 169 = ka_al 0 1 := rfl
theorem d_Md_readFilter_169 : decode prog_12_method_24_code 169 = .ok (.aload_n 0, 1) := by decide +kernel
set_option maxRecDepth 100000 in
theorem c_Md_readFilter_170 : ct_Md_readFilter 170 = ka_get 10 15 := rfl
theorem d_Md_readFilter_170 : decode prog_12_method_24_code 170 = .ok (.getfield 109, 3) := by decide +kernel
set_option maxRecDepth 100000 in
theorem c_Md_readFilter_173 : ct_Md_readFilter 173 = ka_iast := rfl
theorem d_Md_readFilter_173 : decode prog_12_method_24_code 173 = .ok (.iastore, 1) := by decide +kernel
set_option maxRecDepth 100000 in
theorem c_Md_readFilter_174 : ct_Md_readFilter 174 = ka_al 0 1 := rfl
theorem d_Md_readFilter_174 : decode prog_12_method_24_code 174 = .ok (.aload_n 0, 1) := by decide +kernel
set_option maxRecDepth 100000 in
theorem c_Md_readFilter_175 : ct_Md_readFilter 175 = ka_get 10 48 := rfl
theorem d_Md_readFilter_175 : decode prog_12_method_24_code 175 = .ok (.getfield 74, 3) := by decide +kernel
set_option maxRecDepth 100000 in
theorem c_Md_readFilter_178 : ct_Md_readFilter 178 = ka_al 0 1 := rfl
theorem d_Md_readFilter_178 : decode prog_12_method_24_code 178 = .ok (.aload_n 0, 1) := by decide +kernel
set_option maxRecDepth 100000 in
theorem c_Md_readFilter_179 : ct_Md_readFilter 179 = ka_get 10 46 := rfl
theorem d_Md_readFilter_179 : decode prog_12_method_24_code 179 = .ok (.getfield 186, 3) := by decide +kernel
set_option maxRecDepth 100000 in
theorem c_Md_readFilter_182 : ct_Md_readFilter 182 = ka_il 4 2 := rfl
theorem d_Md_readFilter_182 : decode prog_12_method_24_code 182 = .ok (.iload 4, 2) := by decide +kernel
set_option maxRecDepth 100000 in
theorem c_Md_readFilter_184 : ct_Md_readFilter 184 = ka_iast := rfl
theorem d_Md_readFilter_184 : decode prog_12_method_24_code 184 = .ok (.iastore, 1) := by decide +kernel
set_option maxRecDepth 100000 in
theorem c_Md_readFilter_185 : ct_Md_readFilter 185 = ka_al 0 1 := rfl
theorem d_Md_readFilter_185 : decode prog_12_method_24_code 185 = .ok (.aload_n 0, 1) := by decide +kernel
set_option maxRecDepth 100000 in
theorem c_Md_readFilter_186 : ct_Md_readFilter 186 = ka_dup := rfl
theorem d_Md_readFilter_186 : decode prog_12_method_24_code 186 = .ok (.dup, 1) := by decide +kernel
set_option maxRecDepth 100000 in
theorem c_Md_readFilter_187 : ct_Md_readFilter 187 = ka_get 10 46 := rfl
theorem d_Md_readFilter_187 : decode prog_12_method_24_code 187 = .ok (.getfield 186, 3) := by decide +kernel
set_option maxRecDepth 100000 in
theorem c_Md_readFilter_190 : ct_Md_readFilter 190 = ka_ci (nI 1) 1 := rfl
theorem d_Md_readFilter_190 : decode prog_12_method_24_code 190 = .ok (.iconst 1, 1) := by decide +kernel
set_option maxRecDepth 100000 in
theorem c_Md_readFilter_191 : ct_Md_readFilter 191 = ka_ii (fun x y => x + y) := rfl
theorem d_Md_readFilter_191 : decode prog_12_method_24_code 191 = .ok (.iadd, 1) := by decide +kernel
set_option maxRecDepth 100000 in
theorem c_Md_readFilter_192 : ct_Md_readFilter 192 = ka_put 10 46 .int := rfl
theorem d_Md_readFilter_192 : decode prog_12_method_24_code 192 = .ok (.putfield 186, 3) := by decide +kernel
set_option maxRecDepth 100000 in
theorem c_Md_readFilter_195 : ct_Md_readFilter 195 = ka_al 0 1 := rfl
theorem d_Md_readFilter_195 : decode prog_12_method_24_code 195 = .ok (.aload_n 0, 1) := by decide +kernel
set_option maxRecDepth 100000 in
theorem c_Md_readFilter_196 : ct_Md_readFilter 196 = ka_get 10 14 := rfl
theorem d_Md_readFilter_196 : decode prog_12_method_24_code 196 = .ok (.getfield 106, 3) := by decide +kernel
set_option maxRecDepth 100000 in
theorem c_Md_readFilter_199 : ct_Md_readFilter 199 = ka_is 2 1 := rfl
theorem d_Md_readFilter_199 : decode prog_12_method_24_code 199 = .ok (.istore_n 2, 1) := by decide +kernel
set_option maxRecDepth 100000 in
theorem c_Md_readFilter_200 : ct_Md_readFilter 200 = ka_al 0 1 := rfl
theorem d_Md_readFilter_200 : decode prog_12_method_24_code 200 = .ok (.aload_n 0, 1) := by decide +kernel
set_option maxRecDepth 100000 in
theorem c_Md_readFilter_201 : ct_Md_readFilter 201 = ka_il 2 1 := rfl
theorem d_Md_readFilter_201 : decode prog_12_method_24_code 201 = .ok (.iload_n 2, 1) := by decide +kernel
set_option maxRecDepth 100000 in
theorem c_Md_readFilter_202 : ct_Md_readFilter 202 = ka_cv 118 1 10 0 0 := rfl
theorem d_Md_readFilter_202 : decode prog_12_method_24_code 202 = .ok (.invokevirtual 199, 3) := by decide +kernel
set_option maxRecDepth 100000 in
theorem c_Md_readFilter_205 : ct_Md_readFilter 205 = ka_if (fun x => ¬ x = 0) 210 := rfl
theorem d_Md_readFilter_205 : decode prog_12_method_24_code 205 = .ok (.ifCond .ne 5, 3) := by decide +kernel
set_option maxRecDepth 100000 in
theorem c_Md_readFilter_208 : ct_Md_readFilter 208 = ka_ci (-1) 1 := rfl
theorem d_Md_readFilter_208 : decode prog_12_method_24_code 208 = .ok (.iconst (-1), 1) := by decide +kernel
set_option maxRecDepth 100000 in
theorem c_Md_readFilter_209 : ct_Md_readFilter 209 = ka_ri := rfl
theorem d_Md_readFilter_209 : decode prog_12_method_24_code 209 = .ok (.ireturn, 1) := by decide +kernel
set_option maxRecDepth 100000 in
theorem c_Md_readFilter_210 : ct_Md_readFilter 210 = ka_al 0 1 := rfl
theorem d_Md_readFilter_210 : decode prog_12_method_24_code 210 = .ok (.aload_n 0, 1) := by decide +kernel
set_option maxRecDepth 100000 in
theorem c_Md_readFilter_211 : ct_Md_readFilter 211 = ka_get 10 46 := rfl
theorem d_Md_readFilter_211 : decode prog_12_method_24_code 211 = .ok (.getfield 186, 3) := by decide +kernel
set_option maxRecDepth 100000 in
theorem c_Md_readFilter_214 : ct_Md_readFilter 214 = ka_if (fun x => 0 < x) 2 := rfl
theorem d_Md_readFilter_214 : decode prog_12_method_24_code 214 = .ok (.ifCond .gt (-212), 3) := by decide +kernel
set_option maxRecDepth 100000 in
theorem c_Md_readFilter_217 : ct_Md_readFilter 217 = ka_il 2 1 := rfl
theorem d_Md_readFilter_217 : decode prog_12_method_24_code 217 = .ok (.iload_n 2, 1) := by decide +kernel
set_option maxRecDepth 100000 in
theorem c_Md_readFilter_218 : ct_Md_readFilter 218 = ka_ri := rfl
theorem d_Md_readFilter_218 : decode prog_12_method_24_code 218 = .ok (.ireturn, 1) := by decide +kernel
set_option maxRecDepth 100000 in
set_option maxHeartbeats 4000000 in
theorem s_Md_readFilter_60 : ∀ pc, pc < 60 → kc_Sim kt kw_A kw_N kt_cl kt_En "DirectoryDeskModel" prog_12_method_24_code 5 (some .int) "readFilter" none pc (ct_Md_readFilter pc) := by
  let P : Nat → Prop := fun pc => kc_Sim kt kw_A kw_N kt_cl kt_En "DirectoryDeskModel" prog_12_method_24_code 5 (some .int) "readFilter" none pc (ct_Md_readFilter pc)
  exact kc_case (P := P) (kc_se rfl sm_no) (
  kc_case (P := P) (kc_se c_Md_readFilter_58 (sm_get (ci := 10) (C := "DirectoryDeskModel") (F := kF_Md) rfl kin_Md (Nat.le_of_ble_eq_true rfl) d_Md_readFilter_58 (kw3 223 rfl rfl))) (
  kc_case (P := P) (kc_se c_Md_readFilter_57 (sm_aload_n d_Md_readFilter_57 rfl)) (
  kc_case (P := P) (kc_se c_Md_readFilter_56 (sm_ri d_Md_readFilter_56 rfl)) (
  kc_case (P := P) (kc_se c_Md_readFilter_55 (sm_iconst d_Md_readFilter_55 (by decide))) (
  kc_case (P := P) (kc_se rfl sm_no) (
  kc_case (P := P) (kc_se rfl sm_no) (
  kc_case (P := P) (kc_se c_Md_readFilter_52 (sm_if_ne d_Md_readFilter_52 (by decide))) (
  kc_case (P := P) (kc_se rfl sm_no) (
  kc_case (P := P) (kc_se rfl sm_no) (
  kc_case (P := P) (kc_se c_Md_readFilter_49 (sm_cv (j := 99) rfl rfl kw_o kw_g wc_Md_element (Nat.le_of_ble_eq_true rfl) hd_Md_element (ci := 10) (F := kF_Md) (N := 52) rfl (kw4 121 rfl rfl) wi_Md_element ws_Md_element wn_Md_element d_Md_readFilter_49)) (
  kc_case (P := P) (kc_se c_Md_readFilter_48 (sm_iload_n d_Md_readFilter_48 rfl)) (
  kc_case (P := P) (kc_se c_Md_readFilter_47 (sm_iload_n d_Md_readFilter_47 rfl)) (
  kc_case (P := P) (kc_se c_Md_readFilter_46 (sm_aload_n d_Md_readFilter_46 rfl)) (
  kc_case (P := P) (kc_se rfl sm_no) (
  kc_case (P := P) (kc_se rfl sm_no) (
  kc_case (P := P) (kc_se c_Md_readFilter_43 (sm_cm_eq d_Md_readFilter_43 (by decide))) (
  kc_case (P := P) (kc_se rfl sm_no) (
  kc_case (P := P) (kc_se c_Md_readFilter_41 (sm_bipush d_Md_readFilter_41 (by decide))) (
  kc_case (P := P) (kc_se rfl sm_no) (
  kc_case (P := P) (kc_se rfl sm_no) (
  kc_case (P := P) (kc_se c_Md_readFilter_38 (sm_get (ci := 10) (C := "DirectoryDeskModel") (F := kF_Md) rfl kin_Md (Nat.le_of_ble_eq_true rfl) d_Md_readFilter_38 (kw3 229 rfl rfl))) (
  kc_case (P := P) (kc_se c_Md_readFilter_37 (sm_aload_n d_Md_readFilter_37 rfl)) (
  kc_case (P := P) (kc_se rfl sm_no) (
  kc_case (P := P) (kc_se rfl sm_no) (
  kc_case (P := P) (kc_se c_Md_readFilter_34 (sm_cm_eq d_Md_readFilter_34 (by decide))) (
  kc_case (P := P) (kc_se rfl sm_no) (
  kc_case (P := P) (kc_se c_Md_readFilter_32 (sm_bipush d_Md_readFilter_32 (by decide))) (
  kc_case (P := P) (kc_se rfl sm_no) (
  kc_case (P := P) (kc_se rfl sm_no) (
  kc_case (P := P) (kc_se c_Md_readFilter_29 (sm_get (ci := 10) (C := "DirectoryDeskModel") (F := kF_Md) rfl kin_Md (Nat.le_of_ble_eq_true rfl) d_Md_readFilter_29 (kw3 223 rfl rfl))) (
  kc_case (P := P) (kc_se c_Md_readFilter_28 (sm_aload_n d_Md_readFilter_28 rfl)) (
  kc_case (P := P) (kc_se c_Md_readFilter_27 (sm_istore_n d_Md_readFilter_27 rfl (Nat.le_of_ble_eq_true rfl))) (
  kc_case (P := P) (kc_se c_Md_readFilter_26 (sm_iald d_Md_readFilter_26)) (
  kc_case (P := P) (kc_se c_Md_readFilter_25 (sm_isub d_Md_readFilter_25)) (
  kc_case (P := P) (kc_se c_Md_readFilter_24 (sm_iconst d_Md_readFilter_24 (by decide))) (
  kc_case (P := P) (kc_se rfl sm_no) (
  kc_case (P := P) (kc_se rfl sm_no) (
  kc_case (P := P) (kc_se c_Md_readFilter_21 (sm_get (ci := 10) (C := "DirectoryDeskModel") (F := kF_Md) rfl kin_Md (Nat.le_of_ble_eq_true rfl) d_Md_readFilter_21 (kw3 229 rfl rfl))) (
  kc_case (P := P) (kc_se c_Md_readFilter_20 (sm_aload_n d_Md_readFilter_20 rfl)) (
  kc_case (P := P) (kc_se rfl sm_no) (
  kc_case (P := P) (kc_se rfl sm_no) (
  kc_case (P := P) (kc_se c_Md_readFilter_17 (sm_get (ci := 10) (C := "DirectoryDeskModel") (F := kF_Md) rfl kin_Md (Nat.le_of_ble_eq_true rfl) d_Md_readFilter_17 (kw3 230 rfl rfl))) (
  kc_case (P := P) (kc_se c_Md_readFilter_16 (sm_aload_n d_Md_readFilter_16 rfl)) (
  kc_case (P := P) (kc_se rfl sm_no) (
  kc_case (P := P) (kc_se rfl sm_no) (
  kc_case (P := P) (kc_se c_Md_readFilter_13 (sm_goto d_Md_readFilter_13 (by decide))) (
  kc_case (P := P) (kc_se rfl sm_no) (
  kc_case (P := P) (kc_se rfl sm_no) (
  kc_case (P := P) (kc_se c_Md_readFilter_10 (sm_get (ci := 10) (C := "DirectoryDeskModel") (F := kF_Md) rfl kin_Md (Nat.le_of_ble_eq_true rfl) d_Md_readFilter_10 (kw3 202 rfl rfl))) (
  kc_case (P := P) (kc_se c_Md_readFilter_9 (sm_aload_n d_Md_readFilter_9 rfl)) (
  kc_case (P := P) (kc_se rfl sm_no) (
  kc_case (P := P) (kc_se rfl sm_no) (
  kc_case (P := P) (kc_se c_Md_readFilter_6 (sm_if_ne d_Md_readFilter_6 (by decide))) (
  kc_case (P := P) (kc_se rfl sm_no) (
  kc_case (P := P) (kc_se rfl sm_no) (
  kc_case (P := P) (kc_se c_Md_readFilter_3 (sm_get (ci := 10) (C := "DirectoryDeskModel") (F := kF_Md) rfl kin_Md (Nat.le_of_ble_eq_true rfl) d_Md_readFilter_3 (kw3 229 rfl rfl))) (
  kc_case (P := P) (kc_se c_Md_readFilter_2 (sm_aload_n d_Md_readFilter_2 rfl)) (
  kc_case (P := P) (kc_se c_Md_readFilter_1 (sm_istore_n d_Md_readFilter_1 rfl (Nat.le_of_ble_eq_true rfl))) (
  kc_case (P := P) (kc_se c_Md_readFilter_0 (sm_iload_n d_Md_readFilter_0 rfl)) (
  kc_case0))))))))))))))))))))))))))))))))))))))))))))))))))))))))))))
set_option maxRecDepth 100000 in
set_option maxHeartbeats 4000000 in
theorem s_Md_readFilter_120 : ∀ pc, pc < 120 → kc_Sim kt kw_A kw_N kt_cl kt_En "DirectoryDeskModel" prog_12_method_24_code 5 (some .int) "readFilter" none pc (ct_Md_readFilter pc) := by
  let P : Nat → Prop := fun pc => kc_Sim kt kw_A kw_N kt_cl kt_En "DirectoryDeskModel" prog_12_method_24_code 5 (some .int) "readFilter" none pc (ct_Md_readFilter pc)
  exact kc_case (P := P) (kc_se c_Md_readFilter_119 (sm_get (ci := 10) (C := "DirectoryDeskModel") (F := kF_Md) rfl kin_Md (Nat.le_of_ble_eq_true rfl) d_Md_readFilter_119 (kw3 196 rfl rfl))) (
  kc_case (P := P) (kc_se c_Md_readFilter_118 (sm_aload_n d_Md_readFilter_118 rfl)) (
  kc_case (P := P) (kc_se c_Md_readFilter_117 (sm_istore_n d_Md_readFilter_117 rfl (Nat.le_of_ble_eq_true rfl))) (
  kc_case (P := P) (kc_se rfl sm_no) (
  kc_case (P := P) (kc_se rfl sm_no) (
  kc_case (P := P) (kc_se c_Md_readFilter_114 (sm_get (ci := 10) (C := "DirectoryDeskModel") (F := kF_Md) rfl kin_Md (Nat.le_of_ble_eq_true rfl) d_Md_readFilter_114 (kw3 198 rfl rfl))) (
  kc_case (P := P) (kc_se c_Md_readFilter_113 (sm_aload_n d_Md_readFilter_113 rfl)) (
  kc_case (P := P) (kc_se rfl sm_no) (
  kc_case (P := P) (kc_se rfl sm_no) (
  kc_case (P := P) (kc_se c_Md_readFilter_110 (sm_put (ci := 10) (C := "DirectoryDeskModel") (F := kF_Md) rfl kin_Md kty_Md ktk_Md knm_Md (Nat.le_of_ble_eq_true rfl) (by decide +kernel) d_Md_readFilter_110 (kw3 223 rfl rfl) rfl)) (
  kc_case (P := P) (kc_se c_Md_readFilter_109 (sm_iadd d_Md_readFilter_109)) (
  kc_case (P := P) (kc_se c_Md_readFilter_108 (sm_iconst d_Md_readFilter_108 (by decide))) (
  kc_case (P := P) (kc_se rfl sm_no) (
  kc_case (P := P) (kc_se rfl sm_no) (
  kc_case (P := P) (kc_se c_Md_readFilter_105 (sm_get (ci := 10) (C := "DirectoryDeskModel") (F := kF_Md) rfl kin_Md (Nat.le_of_ble_eq_true rfl) d_Md_readFilter_105 (kw3 223 rfl rfl))) (
  kc_case (P := P) (kc_se c_Md_readFilter_104 (sm_dup d_Md_readFilter_104)) (
  kc_case (P := P) (kc_se c_Md_readFilter_103 (sm_aload_n d_Md_readFilter_103 rfl)) (
  kc_case (P := P) (kc_se c_Md_readFilter_102 (sm_iast d_Md_readFilter_102)) (
  kc_case (P := P) (kc_se c_Md_readFilter_101 (sm_iald d_Md_readFilter_101)) (
  kc_case (P := P) (kc_se c_Md_readFilter_100 (sm_isub d_Md_readFilter_100)) (
  kc_case (P := P) (kc_se c_Md_readFilter_99 (sm_iconst d_Md_readFilter_99 (by decide))) (
  kc_case (P := P) (kc_se rfl sm_no) (
  kc_case (P := P) (kc_se rfl sm_no) (
  kc_case (P := P) (kc_se c_Md_readFilter_96 (sm_get (ci := 10) (C := "DirectoryDeskModel") (F := kF_Md) rfl kin_Md (Nat.le_of_ble_eq_true rfl) d_Md_readFilter_96 (kw3 229 rfl rfl))) (
  kc_case (P := P) (kc_se c_Md_readFilter_95 (sm_aload_n d_Md_readFilter_95 rfl)) (
  kc_case (P := P) (kc_se rfl sm_no) (
  kc_case (P := P) (kc_se rfl sm_no) (
  kc_case (P := P) (kc_se c_Md_readFilter_92 (sm_get (ci := 10) (C := "DirectoryDeskModel") (F := kF_Md) rfl kin_Md (Nat.le_of_ble_eq_true rfl) d_Md_readFilter_92 (kw3 231 rfl rfl))) (
  kc_case (P := P) (kc_se c_Md_readFilter_91 (sm_aload_n d_Md_readFilter_91 rfl)) (
  kc_case (P := P) (kc_se rfl sm_no) (
  kc_case (P := P) (kc_se rfl sm_no) (
  kc_case (P := P) (kc_se c_Md_readFilter_88 (sm_goto d_Md_readFilter_88 (by decide))) (
  kc_case (P := P) (kc_se c_Md_readFilter_87 (sm_iconst d_Md_readFilter_87 (by decide))) (
  kc_case (P := P) (kc_se rfl sm_no) (
  kc_case (P := P) (kc_se rfl sm_no) (
  kc_case (P := P) (kc_se c_Md_readFilter_84 (sm_if_ne d_Md_readFilter_84 (by decide))) (
  kc_case (P := P) (kc_se rfl sm_no) (
  kc_case (P := P) (kc_se rfl sm_no) (
  kc_case (P := P) (kc_se c_Md_readFilter_81 (sm_get (ci := 10) (C := "DirectoryDeskModel") (F := kF_Md) rfl kin_Md (Nat.le_of_ble_eq_true rfl) d_Md_readFilter_81 (kw3 229 rfl rfl))) (
  kc_case (P := P) (kc_se c_Md_readFilter_80 (sm_aload_n d_Md_readFilter_80 rfl)) (
  kc_case (P := P) (kc_se rfl sm_no) (
  kc_case (P := P) (kc_se c_Md_readFilter_78 (sm_iload d_Md_readFilter_78)) (
  kc_case (P := P) (kc_se rfl sm_no) (
  kc_case (P := P) (kc_se rfl sm_no) (
  kc_case (P := P) (kc_se c_Md_readFilter_75 (sm_get (ci := 10) (C := "DirectoryDeskModel") (F := kF_Md) rfl kin_Md (Nat.le_of_ble_eq_true rfl) d_Md_readFilter_75 (kw3 225 rfl rfl))) (
  kc_case (P := P) (kc_se c_Md_readFilter_74 (sm_aload_n d_Md_readFilter_74 rfl)) (
  kc_case (P := P) (kc_se c_Md_readFilter_73 (sm_iast d_Md_readFilter_73)) (
  kc_case (P := P) (kc_se rfl sm_no) (
  kc_case (P := P) (kc_se rfl sm_no) (
  kc_case (P := P) (kc_se c_Md_readFilter_70 (sm_get (ci := 10) (C := "DirectoryDeskModel") (F := kF_Md) rfl kin_Md (Nat.le_of_ble_eq_true rfl) d_Md_readFilter_70 (kw3 196 rfl rfl))) (
  kc_case (P := P) (kc_se c_Md_readFilter_69 (sm_aload_n d_Md_readFilter_69 rfl)) (
  kc_case (P := P) (kc_se rfl sm_no) (
  kc_case (P := P) (kc_se c_Md_readFilter_67 (sm_iload d_Md_readFilter_67)) (
  kc_case (P := P) (kc_se rfl sm_no) (
  kc_case (P := P) (kc_se rfl sm_no) (
  kc_case (P := P) (kc_se c_Md_readFilter_64 (sm_get (ci := 10) (C := "DirectoryDeskModel") (F := kF_Md) rfl kin_Md (Nat.le_of_ble_eq_true rfl) d_Md_readFilter_64 (kw3 224 rfl rfl))) (
  kc_case (P := P) (kc_se c_Md_readFilter_63 (sm_aload_n d_Md_readFilter_63 rfl)) (
  kc_case (P := P) (kc_se rfl sm_no) (
  kc_case (P := P) (kc_se c_Md_readFilter_61 (sm_istore d_Md_readFilter_61 (Nat.le_of_ble_eq_true rfl))) (
  kc_case (P := P) (kc_se rfl sm_no) (
  s_Md_readFilter_60))))))))))))))))))))))))))))))))))))))))))))))))))))))))))))
set_option maxRecDepth 100000 in
set_option maxHeartbeats 4000000 in
theorem s_Md_readFilter_180 : ∀ pc, pc < 180 → kc_Sim kt kw_A kw_N kt_cl kt_En "DirectoryDeskModel" prog_12_method_24_code 5 (some .int) "readFilter" none pc (ct_Md_readFilter pc) := by
  let P : Nat → Prop := fun pc => kc_Sim kt kw_A kw_N kt_cl kt_En "DirectoryDeskModel" prog_12_method_24_code 5 (some .int) "readFilter" none pc (ct_Md_readFilter pc)
  exact kc_case (P := P) (kc_se c_Md_readFilter_179 (sm_get (ci := 10) (C := "DirectoryDeskModel") (F := kF_Md) rfl kin_Md (Nat.le_of_ble_eq_true rfl) d_Md_readFilter_179 (kw3 229 rfl rfl))) (
  kc_case (P := P) (kc_se c_Md_readFilter_178 (sm_aload_n d_Md_readFilter_178 rfl)) (
  kc_case (P := P) (kc_se rfl sm_no) (
  kc_case (P := P) (kc_se rfl sm_no) (
  kc_case (P := P) (kc_se c_Md_readFilter_175 (sm_get (ci := 10) (C := "DirectoryDeskModel") (F := kF_Md) rfl kin_Md (Nat.le_of_ble_eq_true rfl) d_Md_readFilter_175 (kw3 231 rfl rfl))) (
  kc_case (P := P) (kc_se c_Md_readFilter_174 (sm_aload_n d_Md_readFilter_174 rfl)) (
  kc_case (P := P) (kc_se c_Md_readFilter_173 (sm_iast d_Md_readFilter_173)) (
  kc_case (P := P) (kc_se rfl sm_no) (
  kc_case (P := P) (kc_se rfl sm_no) (
  kc_case (P := P) (kc_se c_Md_readFilter_170 (sm_get (ci := 10) (C := "DirectoryDeskModel") (F := kF_Md) rfl kin_Md (Nat.le_of_ble_eq_true rfl) d_Md_readFilter_170 (kw3 198 rfl rfl))) (
  kc_case (P := P) (kc_se c_Md_readFilter_169 (sm_aload_n d_Md_readFilter_169 rfl)) (
  kc_case (P := P) (kc_se rfl sm_no) (
  kc_case (P := P) (kc_se rfl sm_no) (
  kc_case (P := P) (kc_se c_Md_readFilter_166 (sm_get (ci := 10) (C := "DirectoryDeskModel") (F := kF_Md) rfl kin_Md (Nat.le_of_ble_eq_true rfl) d_Md_readFilter_166 (kw3 229 rfl rfl))) (
  kc_case (P := P) (kc_se c_Md_readFilter_165 (sm_aload_n d_Md_readFilter_165 rfl)) (
  kc_case (P := P) (kc_se rfl sm_no) (
  kc_case (P := P) (kc_se rfl sm_no) (
  kc_case (P := P) (kc_se c_Md_readFilter_162 (sm_get (ci := 10) (C := "DirectoryDeskModel") (F := kF_Md) rfl kin_Md (Nat.le_of_ble_eq_true rfl) d_Md_readFilter_162 (kw3 230 rfl rfl))) (
  kc_case (P := P) (kc_se c_Md_readFilter_161 (sm_aload_n d_Md_readFilter_161 rfl)) (
  kc_case (P := P) (kc_se c_Md_readFilter_160 (sm_ri d_Md_readFilter_160 rfl)) (
  kc_case (P := P) (kc_se c_Md_readFilter_159 (sm_iconst d_Md_readFilter_159 (by decide))) (
  kc_case (P := P) (kc_se rfl sm_no) (
  kc_case (P := P) (kc_se rfl sm_no) (
  kc_case (P := P) (kc_se c_Md_readFilter_156 (sm_cm_le d_Md_readFilter_156 (by decide))) (
  kc_case (P := P) (kc_se rfl sm_no) (
  kc_case (P := P) (kc_se rfl sm_no) (
  kc_case (P := P) (kc_se c_Md_readFilter_153 (sm_sipush d_Md_readFilter_153 (by decide))) (
  kc_case (P := P) (kc_se rfl sm_no) (
  kc_case (P := P) (kc_se rfl sm_no) (
  kc_case (P := P) (kc_se c_Md_readFilter_150 (sm_get (ci := 10) (C := "DirectoryDeskModel") (F := kF_Md) rfl kin_Md (Nat.le_of_ble_eq_true rfl) d_Md_readFilter_150 (kw3 196 rfl rfl))) (
  kc_case (P := P) (kc_se c_Md_readFilter_149 (sm_aload_n d_Md_readFilter_149 rfl)) (
  kc_case (P := P) (kc_se rfl sm_no) (
  kc_case (P := P) (kc_se rfl sm_no) (
  kc_case (P := P) (kc_se c_Md_readFilter_146 (sm_cm_lt d_Md_readFilter_146 (by decide))) (
  kc_case (P := P) (kc_se rfl sm_no) (
  kc_case (P := P) (kc_se rfl sm_no) (
  kc_case (P := P) (kc_se c_Md_readFilter_143 (sm_sipush d_Md_readFilter_143 (by decide))) (
  kc_case (P := P) (kc_se rfl sm_no) (
  kc_case (P := P) (kc_se rfl sm_no) (
  kc_case (P := P) (kc_se c_Md_readFilter_140 (sm_get (ci := 10) (C := "DirectoryDeskModel") (F := kF_Md) rfl kin_Md (Nat.le_of_ble_eq_true rfl) d_Md_readFilter_140 (kw3 196 rfl rfl))) (
  kc_case (P := P) (kc_se c_Md_readFilter_139 (sm_aload_n d_Md_readFilter_139 rfl)) (
  kc_case (P := P) (kc_se c_Md_readFilter_138 (sm_ri d_Md_readFilter_138 rfl)) (
  kc_case (P := P) (kc_se c_Md_readFilter_137 (sm_iconst d_Md_readFilter_137 (by decide))) (
  kc_case (P := P) (kc_se rfl sm_no) (
  kc_case (P := P) (kc_se rfl sm_no) (
  kc_case (P := P) (kc_se c_Md_readFilter_134 (sm_if_ne d_Md_readFilter_134 (by decide))) (
  kc_case (P := P) (kc_se rfl sm_no) (
  kc_case (P := P) (kc_se rfl sm_no) (
  kc_case (P := P) (kc_se c_Md_readFilter_131 (sm_cv (j := 115) rfl rfl kw_o kw_g wc_Md_readLeaf (Nat.le_of_ble_eq_true rfl) hd_Md_readLeaf (ci := 10) (F := kF_Md) (N := 52) rfl (kw4 156 rfl rfl) wi_Md_readLeaf ws_Md_readLeaf wn_Md_readLeaf d_Md_readFilter_131)) (
  kc_case (P := P) (kc_se rfl sm_no) (
  kc_case (P := P) (kc_se c_Md_readFilter_129 (sm_iload d_Md_readFilter_129)) (
  kc_case (P := P) (kc_se c_Md_readFilter_128 (sm_aload_n d_Md_readFilter_128 rfl)) (
  kc_case (P := P) (kc_se rfl sm_no) (
  kc_case (P := P) (kc_se rfl sm_no) (
  kc_case (P := P) (kc_se c_Md_readFilter_125 (sm_if_eq d_Md_readFilter_125 (by decide))) (
  kc_case (P := P) (kc_se rfl sm_no) (
  kc_case (P := P) (kc_se rfl sm_no) (
  kc_case (P := P) (kc_se c_Md_readFilter_122 (sm_cs (j := 116) rfl rfl kw_o kw_g wc_Md_isLeaf (Nat.le_of_ble_eq_true rfl) hd_Md_isLeaf (kw4 153 rfl rfl) wi_Md_isLeaf wn_Md_isLeaf d_Md_readFilter_122)) (
  kc_case (P := P) (kc_se rfl sm_no) (
  kc_case (P := P) (kc_se rfl sm_no) (
  s_Md_readFilter_120))))))))))))))))))))))))))))))))))))))))))))))))))))))))))))
set_option maxRecDepth 100000 in
set_option maxHeartbeats 4000000 in
theorem s_Md_readFilter_219 : ∀ pc, pc < 219 → kc_Sim kt kw_A kw_N kt_cl kt_En "DirectoryDeskModel" prog_12_method_24_code 5 (some .int) "readFilter" none pc (ct_Md_readFilter pc) := by
  let P : Nat → Prop := fun pc => kc_Sim kt kw_A kw_N kt_cl kt_En "DirectoryDeskModel" prog_12_method_24_code 5 (some .int) "readFilter" none pc (ct_Md_readFilter pc)
  exact kc_case (P := P) (kc_se c_Md_readFilter_218 (sm_ri d_Md_readFilter_218 rfl)) (
  kc_case (P := P) (kc_se c_Md_readFilter_217 (sm_iload_n d_Md_readFilter_217 rfl)) (
  kc_case (P := P) (kc_se rfl sm_no) (
  kc_case (P := P) (kc_se rfl sm_no) (
  kc_case (P := P) (kc_se c_Md_readFilter_214 (sm_if_gt d_Md_readFilter_214 (by decide))) (
  kc_case (P := P) (kc_se rfl sm_no) (
  kc_case (P := P) (kc_se rfl sm_no) (
  kc_case (P := P) (kc_se c_Md_readFilter_211 (sm_get (ci := 10) (C := "DirectoryDeskModel") (F := kF_Md) rfl kin_Md (Nat.le_of_ble_eq_true rfl) d_Md_readFilter_211 (kw3 229 rfl rfl))) (
  kc_case (P := P) (kc_se c_Md_readFilter_210 (sm_aload_n d_Md_readFilter_210 rfl)) (
  kc_case (P := P) (kc_se c_Md_readFilter_209 (sm_ri d_Md_readFilter_209 rfl)) (
  kc_case (P := P) (kc_se c_Md_readFilter_208 (sm_iconst d_Md_readFilter_208 (by decide))) (
  kc_case (P := P) (kc_se rfl sm_no) (
  kc_case (P := P) (kc_se rfl sm_no) (
  kc_case (P := P) (kc_se c_Md_readFilter_205 (sm_if_ne d_Md_readFilter_205 (by decide))) (
  kc_case (P := P) (kc_se rfl sm_no) (
  kc_case (P := P) (kc_se rfl sm_no) (
  kc_case (P := P) (kc_se c_Md_readFilter_202 (sm_cv (j := 118) rfl rfl kw_o kw_g wc_Md_closeAt (Nat.le_of_ble_eq_true rfl) hd_Md_closeAt (ci := 10) (F := kF_Md) (N := 52) rfl (kw4 172 rfl rfl) wi_Md_closeAt ws_Md_closeAt wn_Md_closeAt d_Md_readFilter_202)) (
  kc_case (P := P) (kc_se c_Md_readFilter_201 (sm_iload_n d_Md_readFilter_201 rfl)) (
  kc_case (P := P) (kc_se c_Md_readFilter_200 (sm_aload_n d_Md_readFilter_200 rfl)) (
  kc_case (P := P) (kc_se c_Md_readFilter_199 (sm_istore_n d_Md_readFilter_199 rfl (Nat.le_of_ble_eq_true rfl))) (
  kc_case (P := P) (kc_se rfl sm_no) (
  kc_case (P := P) (kc_se rfl sm_no) (
  kc_case (P := P) (kc_se c_Md_readFilter_196 (sm_get (ci := 10) (C := "DirectoryDeskModel") (F := kF_Md) rfl kin_Md (Nat.le_of_ble_eq_true rfl) d_Md_readFilter_196 (kw3 197 rfl rfl))) (
  kc_case (P := P) (kc_se c_Md_readFilter_195 (sm_aload_n d_Md_readFilter_195 rfl)) (
  kc_case (P := P) (kc_se rfl sm_no) (
  kc_case (P := P) (kc_se rfl sm_no) (
  kc_case (P := P) (kc_se c_Md_readFilter_192 (sm_put (ci := 10) (C := "DirectoryDeskModel") (F := kF_Md) rfl kin_Md kty_Md ktk_Md knm_Md (Nat.le_of_ble_eq_true rfl) (by decide +kernel) d_Md_readFilter_192 (kw3 229 rfl rfl) rfl)) (
  kc_case (P := P) (kc_se c_Md_readFilter_191 (sm_iadd d_Md_readFilter_191)) (
  kc_case (P := P) (kc_se c_Md_readFilter_190 (sm_iconst d_Md_readFilter_190 (by decide))) (
  kc_case (P := P) (kc_se rfl sm_no) (
  kc_case (P := P) (kc_se rfl sm_no) (
  kc_case (P := P) (kc_se c_Md_readFilter_187 (sm_get (ci := 10) (C := "DirectoryDeskModel") (F := kF_Md) rfl kin_Md (Nat.le_of_ble_eq_true rfl) d_Md_readFilter_187 (kw3 229 rfl rfl))) (
  kc_case (P := P) (kc_se c_Md_readFilter_186 (sm_dup d_Md_readFilter_186)) (
  kc_case (P := P) (kc_se c_Md_readFilter_185 (sm_aload_n d_Md_readFilter_185 rfl)) (
  kc_case (P := P) (kc_se c_Md_readFilter_184 (sm_iast d_Md_readFilter_184)) (
  kc_case (P := P) (kc_se rfl sm_no) (
  kc_case (P := P) (kc_se c_Md_readFilter_182 (sm_iload d_Md_readFilter_182)) (
  kc_case (P := P) (kc_se rfl sm_no) (
  kc_case (P := P) (kc_se rfl sm_no) (
  s_Md_readFilter_180)))))))))))))))))))))))))))))))))))))))
set_option maxRecDepth 100000 in
theorem ka_nth_no_Md_readFilter (pc : Nat) (h : 219 ≤ pc) : ct_Md_readFilter pc = ka_no := ka_nth_ge _ pc (Nat.le_trans (Nat.le_of_eq (by rfl)) h)
theorem s_Md_readFilter (pc : Nat) : kc_Sim kt kw_A kw_N kt_cl kt_En "DirectoryDeskModel" prog_12_method_24_code 5 (some .int) "readFilter" none pc (ct_Md_readFilter pc) := (Nat.lt_or_ge pc 219).elim (s_Md_readFilter_219 pc) (fun h => kc_se (ka_nth_no_Md_readFilter pc h) sm_no)
def cl_Md_readWanted_0 : List kc_A := [ka_al 0 1, ka_il 1 1, ka_al 0 1, ka_get 10 19, ka_no, ka_no, ka_ci (nI 48) 2, ka_no, ka_cv 100 3 10 0 0, ka_no, ka_no, ka_if (fun x => x = 0) 25, ka_no, ka_no, ka_al 0 1, ka_get 10 15, ka_no, ka_no, ka_al 0 1, ka_get 10 19, ka_no, ka_no, ka_cm (fun x y => x = y) 27, ka_no, ka_no, ka_ci (nI 0) 1, ka_rz, ka_al 0 1, ka_get 10 14, ka_no, ka_no, ka_is 2 1, ka_il 2 1, ka_al 0 1, ka_get 10 19, ka_no, ka_no, ka_cm (fun x y => y ≤ x) 122, ka_no, ka_no, ka_al 0 1, ka_get 10 32, ka_no, ka_no, ka_ci (nI 12) 2, ka_no, ka_cm (fun x y => x = y) 62, ka_no, ka_no, ka_al 0 1, ka_il 2 1, ka_al 0 1, ka_get 10 19, ka_no, ka_no, ka_ci (nI 4) 1, ka_cv 100 3 10 0 0, ka_no, ka_no, ka_if (fun x => ¬ x = 0) 64]
def cl_Md_readWanted_1 : List kc_A := [ka_no, ka_no, ka_ci (nI 0) 1, ka_rz, ka_al 0 1, ka_al 0 1, ka_get 10 14, ka_no, ka_no, ka_al 0 1, ka_get 10 15, ka_no, ka_no, ka_cv 105 2 10 0 0, ka_no, ka_no, ka_is 3 1, ka_al 0 1, ka_il 3 1, ka_ci (-1) 1, ka_cm (fun x y => ¬ x = y) 90, ka_no, ka_no, ka_al 0 1, ka_get 10 31, ka_no, ka_no, ka_goto 101, ka_no, ka_no, ka_al 0 1, ka_get 10 31, ka_no, ka_no, ka_ci (nI 1) 1, ka_il 3 1, ka_ci (nI 97) 2, ka_no, ka_ii (fun x y => x - y), ka_ii (fun x y => x <<< (y &&& 31)), ka_ii (fun x y => x ||| y), ka_put 10 31 .int, ka_no, ka_no, ka_al 0 1, ka_dup, ka_get 10 32, ka_no, ka_no, ka_ci (nI 1) 1, ka_ii (fun x y => x + y), ka_put 10 32 .int, ka_no, ka_no, ka_al 0 1, ka_get 10 15, ka_no, ka_no, ka_is 2 1, ka_goto 32]
def cl_Md_readWanted_2 : List kc_A := [ka_no, ka_no, ka_ci (nI 1) 1, ka_rz]
def ct_Md_readWanted : Nat → kc_A := fun pc => ka_nth (cl_Md_readWanted_0 ++ (cl_Md_readWanted_1 ++ (cl_Md_readWanted_2))) pc
set_option maxRecDepth 100000 in
theorem c_Md_readWanted_0 : ct_Md_readWanted 0 = ka_al 0 1 := rfl
theorem d_Md_readWanted_0 : decode prog_12_method_25_code 0 = .ok (.aload_n 0, 1) := by decide +kernel
set_option maxRecDepth 100000 in
theorem c_Md_readWanted_1 : ct_Md_readWanted 1 = ka_il 1 1 := rfl
theorem d_Md_readWanted_1 : decode prog_12_method_25_code 1 = .ok (.iload_n 1, 1) := by decide +kernel
set_option maxRecDepth 100000 in
theorem c_Md_readWanted_2 : ct_Md_readWanted 2 = ka_al 0 1 := rfl
theorem d_Md_readWanted_2 : decode prog_12_method_25_code 2 = .ok (.aload_n 0, 1) := by decide +kernel
set_option maxRecDepth 100000 in
theorem c_Md_readWanted_3 : ct_Md_readWanted 3 = ka_get 10 19 := rfl
theorem d_Md_readWanted_3 : decode prog_12_method_25_code 3 = .ok (.getfield 143, 3) := by decide +kernel
set_option maxRecDepth 100000 in
theorem c_Md_readWanted_6 : ct_Md_readWanted 6 = ka_ci (nI 48) 2 := rfl
theorem d_Md_readWanted_6 : decode prog_12_method_25_code 6 = .ok (.bipush 48, 2) := by decide +kernel
set_option maxRecDepth 100000 in
theorem c_Md_readWanted_8 : ct_Md_readWanted 8 = ka_cv 100 3 10 0 0 := rfl
theorem d_Md_readWanted_8 : decode prog_12_method_25_code 8 = .ok (.invokevirtual 116, 3) := by decide +kernel
set_option maxRecDepth 100000 in
theorem c_Md_readWanted_11 : ct_Md_readWanted 11 = ka_if (fun x => x = 0) 25 := rfl
theorem d_Md_readWanted_11 : decode prog_12_method_25_code 11 = .ok (.ifCond .eq 14, 3) := by decide +kernel
set_option maxRecDepth 100000 in
theorem c_Md_readWanted_14 : ct_Md_readWanted 14 = ka_al 0 1 := rfl
theorem d_Md_readWanted_14 : decode prog_12_method_25_code 14 = .ok (.aload_n 0, 1) := by decide +kernel
set_option maxRecDepth 100000 in
theorem c_Md_readWanted_15 : ct_Md_readWanted 15 = ka_get 10 15 := rfl
theorem d_Md_readWanted_15 : decode prog_12_method_25_code 15 = .ok (.getfield 109, 3) := by decide +kernel
set_option maxRecDepth 100000 in
theorem c_Md_readWanted_18 : ct_Md_readWanted 18 = ka_al 0 1 := rfl
theorem d_Md_readWanted_18 : decode prog_12_method_25_code 18 = .ok (.aload_n 0, 1) := by decide +kernel
set_option maxRecDepth 100000 in
theorem c_Md_readWanted_19 : ct_Md_readWanted 19 = ka_get 10 19 := rfl
theorem d_Md_readWanted_19 : decode prog_12_method_25_code 19 = .ok (.getfield 143, 3) := by decide +kernel
set_option maxRecDepth 100000 in
theorem c_Md_readWanted_22 : ct_Md_readWanted 22 = ka_cm (fun x y => x = y) 27 := rfl
theorem d_Md_readWanted_22 : decode prog_12_method_25_code 22 = .ok (.if_icmp .eq 5, 3) := by decide +kernel
set_option maxRecDepth 100000 in
theorem c_Md_readWanted_25 : ct_Md_readWanted 25 = ka_ci (nI 0) 1 := rfl
theorem d_Md_readWanted_25 : decode prog_12_method_25_code 25 = .ok (.iconst 0, 1) := by decide +kernel
set_option maxRecDepth 100000 in
theorem c_Md_readWanted_26 : ct_Md_readWanted 26 = ka_rz := rfl
theorem d_Md_readWanted_26 : decode prog_12_method_25_code 26 = .ok (.ireturn, 1) := by decide +kernel
set_option maxRecDepth 100000 in
theorem c_Md_readWanted_27 : ct_Md_readWanted 27 = ka_al 0 1 := rfl
theorem d_Md_readWanted_27 : decode prog_12_method_25_code 27 = .ok (.aload_n 0, 1) := by decide +kernel
set_option maxRecDepth 100000 in
theorem c_Md_readWanted_28 : ct_Md_readWanted 28 = ka_get 10 14 := rfl
theorem d_Md_readWanted_28 : decode prog_12_method_25_code 28 = .ok (.getfield 106, 3) := by decide +kernel
set_option maxRecDepth 100000 in
theorem c_Md_readWanted_31 : ct_Md_readWanted 31 = ka_is 2 1 := rfl
theorem d_Md_readWanted_31 : decode prog_12_method_25_code 31 = .ok (.istore_n 2, 1) := by decide +kernel
set_option maxRecDepth 100000 in
theorem c_Md_readWanted_32 : ct_Md_readWanted 32 = ka_il 2 1 := rfl
theorem d_Md_readWanted_32 : decode prog_12_method_25_code 32 = .ok (.iload_n 2, 1) := by decide +kernel
set_option maxRecDepth 100000 in
theorem c_Md_readWanted_33 : ct_Md_readWanted 33 = ka_al 0 1 := rfl
theorem d_Md_readWanted_33 : decode prog_12_method_25_code 33 = .ok (.aload_n 0, 1) := by decide +kernel
set_option maxRecDepth 100000 in
theorem c_Md_readWanted_34 : ct_Md_readWanted 34 = ka_get 10 19 := rfl
theorem d_Md_readWanted_34 : decode prog_12_method_25_code 34 = .ok (.getfield 143, 3) := by decide +kernel
set_option maxRecDepth 100000 in
theorem c_Md_readWanted_37 : ct_Md_readWanted 37 = ka_cm (fun x y => y ≤ x) 122 := rfl
theorem d_Md_readWanted_37 : decode prog_12_method_25_code 37 = .ok (.if_icmp .ge 85, 3) := by decide +kernel
set_option maxRecDepth 100000 in
theorem c_Md_readWanted_40 : ct_Md_readWanted 40 = ka_al 0 1 := rfl
theorem d_Md_readWanted_40 : decode prog_12_method_25_code 40 = .ok (.aload_n 0, 1) := by decide +kernel
set_option maxRecDepth 100000 in
theorem c_Md_readWanted_41 : ct_Md_readWanted 41 = ka_get 10 32 := rfl
theorem d_Md_readWanted_41 : decode prog_12_method_25_code 41 = .ok (.getfield 202, 3) := by decide +kernel
set_option maxRecDepth 100000 in
theorem c_Md_readWanted_44 : ct_Md_readWanted 44 = ka_ci (nI 12) 2 := rfl
theorem d_Md_readWanted_44 : decode prog_12_method_25_code 44 = .ok (.bipush 12, 2) := by decide +kernel
set_option maxRecDepth 100000 in
theorem c_Md_readWanted_46 : ct_Md_readWanted 46 = ka_cm (fun x y => x = y) 62 := rfl
theorem d_Md_readWanted_46 : decode prog_12_method_25_code 46 = .ok (.if_icmp .eq 16, 3) := by decide +kernel
set_option maxRecDepth 100000 in
theorem c_Md_readWanted_49 : ct_Md_readWanted 49 = ka_al 0 1 := rfl
theorem d_Md_readWanted_49 : decode prog_12_method_25_code 49 = .ok (.aload_n 0, 1) := by decide +kernel
set_option maxRecDepth 100000 in
theorem c_Md_readWanted_50 : ct_Md_readWanted 50 = ka_il 2 1 := rfl
theorem d_Md_readWanted_50 : decode prog_12_method_25_code 50 = .ok (.iload_n 2, 1) := by decide +kernel
set_option maxRecDepth 100000 in
theorem c_Md_readWanted_51 : ct_Md_readWanted 51 = ka_al 0 1 := rfl
theorem d_Md_readWanted_51 : decode prog_12_method_25_code 51 = .ok (.aload_n 0, 1) := by decide +kernel
set_option maxRecDepth 100000 in
theorem c_Md_readWanted_52 : ct_Md_readWanted 52 = ka_get 10 19 := rfl
theorem d_Md_readWanted_52 : decode prog_12_method_25_code 52 = .ok (.getfield 143, 3) := by decide +kernel
set_option maxRecDepth 100000 in
theorem c_Md_readWanted_55 : ct_Md_readWanted 55 = ka_ci (nI 4) 1 := rfl
theorem d_Md_readWanted_55 : decode prog_12_method_25_code 55 = .ok (.iconst 4, 1) := by decide +kernel
set_option maxRecDepth 100000 in
theorem c_Md_readWanted_56 : ct_Md_readWanted 56 = ka_cv 100 3 10 0 0 := rfl
theorem d_Md_readWanted_56 : decode prog_12_method_25_code 56 = .ok (.invokevirtual 116, 3) := by decide +kernel
set_option maxRecDepth 100000 in
theorem c_Md_readWanted_59 : ct_Md_readWanted 59 = ka_if (fun x => ¬ x = 0) 64 := rfl
theorem d_Md_readWanted_59 : decode prog_12_method_25_code 59 = .ok (.ifCond .ne 5, 3) := by decide +kernel
set_option maxRecDepth 100000 in
theorem c_Md_readWanted_62 : ct_Md_readWanted 62 = ka_ci (nI 0) 1 := rfl
theorem d_Md_readWanted_62 : decode prog_12_method_25_code 62 = .ok (.iconst 0, 1) := by decide +kernel
set_option maxRecDepth 100000 in
theorem c_Md_readWanted_63 : ct_Md_readWanted 63 = ka_rz := rfl
theorem d_Md_readWanted_63 : decode prog_12_method_25_code 63 = .ok (.ireturn, 1) := by decide +kernel
set_option maxRecDepth 100000 in
theorem c_Md_readWanted_64 : ct_Md_readWanted 64 = ka_al 0 1 := rfl
theorem d_Md_readWanted_64 : decode prog_12_method_25_code 64 = .ok (.aload_n 0, 1) := by decide +kernel
set_option maxRecDepth 100000 in
theorem c_Md_readWanted_65 : ct_Md_readWanted 65 = ka_al 0 1 := rfl
theorem d_Md_readWanted_65 : decode prog_12_method_25_code 65 = .ok (.aload_n 0, 1) := by decide +kernel
set_option maxRecDepth 100000 in
theorem c_Md_readWanted_66 : ct_Md_readWanted 66 = ka_get 10 14 := rfl
theorem d_Md_readWanted_66 : decode prog_12_method_25_code 66 = .ok (.getfield 106, 3) := by decide +kernel
set_option maxRecDepth 100000 in
theorem c_Md_readWanted_69 : ct_Md_readWanted 69 = ka_al 0 1 := rfl
theorem d_Md_readWanted_69 : decode prog_12_method_25_code 69 = .ok (.aload_n 0, 1) := by decide +kernel
set_option maxRecDepth 100000 in
theorem c_Md_readWanted_70 : ct_Md_readWanted 70 = ka_get 10 15 := rfl
theorem d_Md_readWanted_70 : decode prog_12_method_25_code 70 = .ok (.getfield 109, 3) := by decide +kernel
set_option maxRecDepth 100000 in
theorem c_Md_readWanted_73 : ct_Md_readWanted 73 = ka_cv 105 2 10 0 0 := rfl
theorem d_Md_readWanted_73 : decode prog_12_method_25_code 73 = .ok (.invokevirtual 129, 3) := by decide +kernel
set_option maxRecDepth 100000 in
theorem c_Md_readWanted_76 : ct_Md_readWanted 76 = ka_is 3 1 := rfl
theorem d_Md_readWanted_76 : decode prog_12_method_25_code 76 = .ok (.istore_n 3, 1) := by decide +kernel
set_option maxRecDepth 100000 in
theorem c_Md_readWanted_77 : ct_Md_readWanted 77 = ka_al 0 1 := rfl
theorem d_Md_readWanted_77 : decode prog_12_method_25_code 77 = .ok (.aload_n 0, 1) := by decide +kernel
set_option maxRecDepth 100000 in
theorem c_Md_readWanted_78 : ct_Md_readWanted 78 = ka_il 3 1 := rfl
theorem d_Md_readWanted_78 : decode prog_12_method_25_code 78 = .ok (.iload_n 3, 1) := by decide +kernel
set_option maxRecDepth 100000 in
theorem c_Md_readWanted_79 : ct_Md_readWanted 79 = ka_ci (-1) 1 := rfl
theorem d_Md_readWanted_79 : decode prog_12_method_25_code 79 = .ok (.iconst (-1), 1) := by decide +kernel
set_option maxRecDepth 100000 in
theorem c_Md_readWanted_80 : ct_Md_readWanted 80 = ka_cm (fun x y => ¬ x = y) 90 := rfl
theorem d_Md_readWanted_80 : decode prog_12_method_25_code 80 = .ok (.if_icmp .ne 10, 3) := by decide +kernel
set_option maxRecDepth 100000 in
theorem c_Md_readWanted_83 : ct_Md_readWanted 83 = ka_al 0 1 := rfl
theorem d_Md_readWanted_83 : decode prog_12_method_25_code 83 = .ok (.aload_n 0, 1) := by decide +kernel
set_option maxRecDepth 100000 in
theorem c_Md_readWanted_84 : ct_Md_readWanted 84 = ka_get 10 31 := rfl
theorem d_Md_readWanted_84 : decode prog_12_method_25_code 84 = .ok (.getfield 205, 3) := by decide +kernel
set_option maxRecDepth 100000 in
theorem c_Md_readWanted_87 : ct_Md_readWanted 87 = ka_goto 101 := rfl
theorem d_Md_readWanted_87 : decode prog_12_method_25_code 87 = .ok (.goto 14, 3) := by decide +kernel
set_option maxRecDepth 100000 in
theorem c_Md_readWanted_90 : ct_Md_readWanted 90 = ka_al 0 1 := rfl
theorem d_Md_readWanted_90 : decode prog_12_method_25_code 90 = .ok (.aload_n 0, 1) := by decide +kernel
set_option maxRecDepth 100000 in
theorem c_Md_readWanted_91 : ct_Md_readWanted 91 = ka_get 10 31 := rfl
theorem d_Md_readWanted_91 : decode prog_12_method_25_code 91 = .ok (.getfield 205, 3) := by decide +kernel
set_option maxRecDepth 100000 in
theorem c_Md_readWanted_94 : ct_Md_readWanted 94 = ka_ci (nI 1) 1 := rfl
theorem d_Md_readWanted_94 : decode prog_12_method_25_code 94 = .ok (.iconst 1, 1) := by decide +kernel
set_option maxRecDepth 100000 in
theorem c_Md_readWanted_95 : ct_Md_readWanted 95 = ka_il 3 1 := rfl
theorem d_Md_readWanted_95 : decode prog_12_method_25_code 95 = .ok (.iload_n 3, 1) := by decide +kernel
set_option maxRecDepth 100000 in
theorem c_Md_readWanted_96 : ct_Md_readWanted 96 = ka_ci (nI 97) 2 := rfl
theorem d_Md_readWanted_96 : decode prog_12_method_25_code 96 = .ok (.bipush 97, 2) := by decide +kernel
set_option maxRecDepth 100000 in
theorem c_Md_readWanted_98 : ct_Md_readWanted 98 = ka_ii (fun x y => x - y) := rfl
theorem d_Md_readWanted_98 : decode prog_12_method_25_code 98 = .ok (.isub, 1) := by decide +kernel
set_option maxRecDepth 100000 in
theorem c_Md_readWanted_99 : ct_Md_readWanted 99 = ka_ii (fun x y => x <<< (y &&& 31)) := rfl
theorem d_Md_readWanted_99 : decode prog_12_method_25_code 99 = .ok (.ishl, 1) := by decide +kernel
set_option maxRecDepth 100000 in
theorem c_Md_readWanted_100 : ct_Md_readWanted 100 = ka_ii (fun x y => x ||| y) := rfl
theorem d_Md_readWanted_100 : decode prog_12_method_25_code 100 = .ok (.ior, 1) := by decide +kernel
set_option maxRecDepth 100000 in
theorem c_Md_readWanted_101 : ct_Md_readWanted 101 = ka_put 10 31 .int := rfl
theorem d_Md_readWanted_101 : decode prog_12_method_25_code 101 = .ok (.putfield 205, 3) := by decide +kernel
set_option maxRecDepth 100000 in
theorem c_Md_readWanted_104 : ct_Md_readWanted 104 = ka_al 0 1 := rfl
theorem d_Md_readWanted_104 : decode prog_12_method_25_code 104 = .ok (.aload_n 0, 1) := by decide +kernel
set_option maxRecDepth 100000 in
theorem c_Md_readWanted_105 : ct_Md_readWanted 105 = ka_dup := rfl
theorem d_Md_readWanted_105 : decode prog_12_method_25_code 105 = .ok (.dup, 1) := by decide +kernel
set_option maxRecDepth 100000 in
theorem c_Md_readWanted_106 : ct_Md_readWanted 106 = ka_get 10 32 := rfl
theorem d_Md_readWanted_106 : decode prog_12_method_25_code 106 = .ok (.getfield 202, 3) := by decide +kernel
set_option maxRecDepth 100000 in
theorem c_Md_readWanted_109 : ct_Md_readWanted 109 = ka_ci (nI 1) 1 := rfl
theorem d_Md_readWanted_109 : decode prog_12_method_25_code 109 = .ok (.iconst 1, 1) := by decide +kernel
set_option maxRecDepth 100000 in
theorem c_Md_readWanted_110 : ct_Md_readWanted 110 = ka_ii (fun x y => x + y) := rfl
theorem d_Md_readWanted_110 : decode prog_12_method_25_code 110 = .ok (.iadd, 1) := by decide +kernel
set_option maxRecDepth 100000 in
theorem c_Md_readWanted_111 : ct_Md_readWanted 111 = ka_put 10 32 .int := rfl
theorem d_Md_readWanted_111 : decode prog_12_method_25_code 111 = .ok (.putfield 202, 3) := by decide +kernel
set_option maxRecDepth 100000 in
theorem c_Md_readWanted_114 : ct_Md_readWanted 114 = ka_al 0 1 := rfl
theorem d_Md_readWanted_114 : decode prog_12_method_25_code 114 = .ok (.aload_n 0, 1) := by decide +kernel
set_option maxRecDepth 100000 in
theorem c_Md_readWanted_115 : ct_Md_readWanted 115 = ka_get 10 15 := rfl
theorem d_Md_readWanted_115 : decode prog_12_method_25_code 115 = .ok (.getfield 109, 3) := by decide +kernel
set_option maxRecDepth 100000 in
theorem c_Md_readWanted_118 : ct_Md_readWanted 118 = ka_is 2 1 := rfl
theorem d_Md_readWanted_118 : decode prog_12_method_25_code 118 = .ok (.istore_n 2, 1) := by decide +kernel
set_option maxRecDepth 100000 in
theorem c_Md_readWanted_119 : ct_Md_readWanted 119 = ka_goto 32 := rfl
theorem d_Md_readWanted_119 : decode prog_12_method_25_code 119 = .ok (.goto (-87), 3) := by decide +kernel
set_option maxRecDepth 100000 in
theorem c_Md_readWanted_122 : ct_Md_readWanted 122 = ka_ci (nI 1) 1 := rfl
theorem d_Md_readWanted_122 : decode prog_12_method_25_code 122 = .ok (.iconst 1, 1) := by decide +kernel
set_option maxRecDepth 100000 in
theorem c_Md_readWanted_123 : ct_Md_readWanted 123 = ka_rz := rfl
theorem d_Md_readWanted_123 : decode prog_12_method_25_code 123 = .ok (.ireturn, 1) := by decide +kernel
set_option maxRecDepth 100000 in
set_option maxHeartbeats 4000000 in
theorem s_Md_readWanted_60 : ∀ pc, pc < 60 → kc_Sim kt kw_A kw_N kt_cl kt_En "DirectoryDeskModel" prog_12_method_25_code 4 (some .boolean) "readWanted" none pc (ct_Md_readWanted pc) := by
  let P : Nat → Prop := fun pc => kc_Sim kt kw_A kw_N kt_cl kt_En "DirectoryDeskModel" prog_12_method_25_code 4 (some .boolean) "readWanted" none pc (ct_Md_readWanted pc)
  exact kc_case (P := P) (kc_se c_Md_readWanted_59 (sm_if_ne d_Md_readWanted_59 (by decide))) (
  kc_case (P := P) (kc_se rfl sm_no) (
  kc_case (P := P) (kc_se rfl sm_no) (
  kc_case (P := P) (kc_se c_Md_readWanted_56 (sm_cv (j := 100) rfl rfl kw_o kw_g wc_Md_tagged (Nat.le_of_ble_eq_true rfl) hd_Md_tagged (ci := 10) (F := kF_Md) (N := 52) rfl (kw4 117 rfl rfl) wi_Md_tagged ws_Md_tagged wn_Md_tagged d_Md_readWanted_56)) (
  kc_case (P := P) (kc_se c_Md_readWanted_55 (sm_iconst d_Md_readWanted_55 (by decide))) (
  kc_case (P := P) (kc_se rfl sm_no) (
  kc_case (P := P) (kc_se rfl sm_no) (
  kc_case (P := P) (kc_se c_Md_readWanted_52 (sm_get (ci := 10) (C := "DirectoryDeskModel") (F := kF_Md) rfl kin_Md (Nat.le_of_ble_eq_true rfl) d_Md_readWanted_52 (kw3 202 rfl rfl))) (
  kc_case (P := P) (kc_se c_Md_readWanted_51 (sm_aload_n d_Md_readWanted_51 rfl)) (
  kc_case (P := P) (kc_se c_Md_readWanted_50 (sm_iload_n d_Md_readWanted_50 rfl)) (
  kc_case (P := P) (kc_se c_Md_readWanted_49 (sm_aload_n d_Md_readWanted_49 rfl)) (
  kc_case (P := P) (kc_se rfl sm_no) (
  kc_case (P := P) (kc_se rfl sm_no) (
  kc_case (P := P) (kc_se c_Md_readWanted_46 (sm_cm_eq d_Md_readWanted_46 (by decide))) (
  kc_case (P := P) (kc_se rfl sm_no) (
  kc_case (P := P) (kc_se c_Md_readWanted_44 (sm_bipush d_Md_readWanted_44 (by decide))) (
  kc_case (P := P) (kc_se rfl sm_no) (
  kc_case (P := P) (kc_se rfl sm_no) (
  kc_case (P := P) (kc_se c_Md_readWanted_41 (sm_get (ci := 10) (C := "DirectoryDeskModel") (F := kF_Md) rfl kin_Md (Nat.le_of_ble_eq_true rfl) d_Md_readWanted_41 (kw3 215 rfl rfl))) (
  kc_case (P := P) (kc_se c_Md_readWanted_40 (sm_aload_n d_Md_readWanted_40 rfl)) (
  kc_case (P := P) (kc_se rfl sm_no) (
  kc_case (P := P) (kc_se rfl sm_no) (
  kc_case (P := P) (kc_se c_Md_readWanted_37 (sm_cm_ge d_Md_readWanted_37 (by decide))) (
  kc_case (P := P) (kc_se rfl sm_no) (
  kc_case (P := P) (kc_se rfl sm_no) (
  kc_case (P := P) (kc_se c_Md_readWanted_34 (sm_get (ci := 10) (C := "DirectoryDeskModel") (F := kF_Md) rfl kin_Md (Nat.le_of_ble_eq_true rfl) d_Md_readWanted_34 (kw3 202 rfl rfl))) (
  kc_case (P := P) (kc_se c_Md_readWanted_33 (sm_aload_n d_Md_readWanted_33 rfl)) (
  kc_case (P := P) (kc_se c_Md_readWanted_32 (sm_iload_n d_Md_readWanted_32 rfl)) (
  kc_case (P := P) (kc_se c_Md_readWanted_31 (sm_istore_n d_Md_readWanted_31 rfl (Nat.le_of_ble_eq_true rfl))) (
  kc_case (P := P) (kc_se rfl sm_no) (
  kc_case (P := P) (kc_se rfl sm_no) (
  kc_case (P := P) (kc_se c_Md_readWanted_28 (sm_get (ci := 10) (C := "DirectoryDeskModel") (F := kF_Md) rfl kin_Md (Nat.le_of_ble_eq_true rfl) d_Md_readWanted_28 (kw3 197 rfl rfl))) (
  kc_case (P := P) (kc_se c_Md_readWanted_27 (sm_aload_n d_Md_readWanted_27 rfl)) (
  kc_case (P := P) (kc_se c_Md_readWanted_26 (sm_rz d_Md_readWanted_26 rfl)) (
  kc_case (P := P) (kc_se c_Md_readWanted_25 (sm_iconst d_Md_readWanted_25 (by decide))) (
  kc_case (P := P) (kc_se rfl sm_no) (
  kc_case (P := P) (kc_se rfl sm_no) (
  kc_case (P := P) (kc_se c_Md_readWanted_22 (sm_cm_eq d_Md_readWanted_22 (by decide))) (
  kc_case (P := P) (kc_se rfl sm_no) (
  kc_case (P := P) (kc_se rfl sm_no) (
  kc_case (P := P) (kc_se c_Md_readWanted_19 (sm_get (ci := 10) (C := "DirectoryDeskModel") (F := kF_Md) rfl kin_Md (Nat.le_of_ble_eq_true rfl) d_Md_readWanted_19 (kw3 202 rfl rfl))) (
  kc_case (P := P) (kc_se c_Md_readWanted_18 (sm_aload_n d_Md_readWanted_18 rfl)) (
  kc_case (P := P) (kc_se rfl sm_no) (
  kc_case (P := P) (kc_se rfl sm_no) (
  kc_case (P := P) (kc_se c_Md_readWanted_15 (sm_get (ci := 10) (C := "DirectoryDeskModel") (F := kF_Md) rfl kin_Md (Nat.le_of_ble_eq_true rfl) d_Md_readWanted_15 (kw3 198 rfl rfl))) (
  kc_case (P := P) (kc_se c_Md_readWanted_14 (sm_aload_n d_Md_readWanted_14 rfl)) (
  kc_case (P := P) (kc_se rfl sm_no) (
  kc_case (P := P) (kc_se rfl sm_no) (
  kc_case (P := P) (kc_se c_Md_readWanted_11 (sm_if_eq d_Md_readWanted_11 (by decide))) (
  kc_case (P := P) (kc_se rfl sm_no) (
  kc_case (P := P) (kc_se rfl sm_no) (
  kc_case (P := P) (kc_se c_Md_readWanted_8 (sm_cv (j := 100) rfl rfl kw_o kw_g wc_Md_tagged (Nat.le_of_ble_eq_true rfl) hd_Md_tagged (ci := 10) (F := kF_Md) (N := 52) rfl (kw4 117 rfl rfl) wi_Md_tagged ws_Md_tagged wn_Md_tagged d_Md_readWanted_8)) (
  kc_case (P := P) (kc_se rfl sm_no) (
  kc_case (P := P) (kc_se c_Md_readWanted_6 (sm_bipush d_Md_readWanted_6 (by decide))) (
  kc_case (P := P) (kc_se rfl sm_no) (
  kc_case (P := P) (kc_se rfl sm_no) (
  kc_case (P := P) (kc_se c_Md_readWanted_3 (sm_get (ci := 10) (C := "DirectoryDeskModel") (F := kF_Md) rfl kin_Md (Nat.le_of_ble_eq_true rfl) d_Md_readWanted_3 (kw3 202 rfl rfl))) (
  kc_case (P := P) (kc_se c_Md_readWanted_2 (sm_aload_n d_Md_readWanted_2 rfl)) (
  kc_case (P := P) (kc_se c_Md_readWanted_1 (sm_iload_n d_Md_readWanted_1 rfl)) (
  kc_case (P := P) (kc_se c_Md_readWanted_0 (sm_aload_n d_Md_readWanted_0 rfl)) (
  kc_case0))))))))))))))))))))))))))))))))))))))))))))))))))))))))))))
set_option maxRecDepth 100000 in
set_option maxHeartbeats 4000000 in
theorem s_Md_readWanted_120 : ∀ pc, pc < 120 → kc_Sim kt kw_A kw_N kt_cl kt_En "DirectoryDeskModel" prog_12_method_25_code 4 (some .boolean) "readWanted" none pc (ct_Md_readWanted pc) := by
  let P : Nat → Prop := fun pc => kc_Sim kt kw_A kw_N kt_cl kt_En "DirectoryDeskModel" prog_12_method_25_code 4 (some .boolean) "readWanted" none pc (ct_Md_readWanted pc)
  exact kc_case (P := P) (kc_se c_Md_readWanted_119 (sm_goto d_Md_readWanted_119 (by decide))) (
  kc_case (P := P) (kc_se c_Md_readWanted_118 (sm_istore_n d_Md_readWanted_118 rfl (Nat.le_of_ble_eq_true rfl))) (
  kc_case (P := P) (kc_se rfl sm_no) (
  kc_case (P := P) (kc_se rfl sm_no) (
  kc_case (P := P) (kc_se c_Md_readWanted_115 (sm_get (ci := 10) (C := "DirectoryDeskModel") (F := kF_Md) rfl kin_Md (Nat.le_of_ble_eq_true rfl) d_Md_readWanted_115 (kw3 198 rfl rfl))) (
  kc_case (P := P) (kc_se c_Md_readWanted_114 (sm_aload_n d_Md_readWanted_114 rfl)) (
  kc_case (P := P) (kc_se rfl sm_no) (
  kc_case (P := P) (kc_se rfl sm_no) (
  kc_case (P := P) (kc_se c_Md_readWanted_111 (sm_put (ci := 10) (C := "DirectoryDeskModel") (F := kF_Md) rfl kin_Md kty_Md ktk_Md knm_Md (Nat.le_of_ble_eq_true rfl) (by decide +kernel) d_Md_readWanted_111 (kw3 215 rfl rfl) rfl)) (
  kc_case (P := P) (kc_se c_Md_readWanted_110 (sm_iadd d_Md_readWanted_110)) (
  kc_case (P := P) (kc_se c_Md_readWanted_109 (sm_iconst d_Md_readWanted_109 (by decide))) (
  kc_case (P := P) (kc_se rfl sm_no) (
  kc_case (P := P) (kc_se rfl sm_no) (
  kc_case (P := P) (kc_se c_Md_readWanted_106 (sm_get (ci := 10) (C := "DirectoryDeskModel") (F := kF_Md) rfl kin_Md (Nat.le_of_ble_eq_true rfl) d_Md_readWanted_106 (kw3 215 rfl rfl))) (
  kc_case (P := P) (kc_se c_Md_readWanted_105 (sm_dup d_Md_readWanted_105)) (
  kc_case (P := P) (kc_se c_Md_readWanted_104 (sm_aload_n d_Md_readWanted_104 rfl)) (
  kc_case (P := P) (kc_se rfl sm_no) (
  kc_case (P := P) (kc_se rfl sm_no) (
  kc_case (P := P) (kc_se c_Md_readWanted_101 (sm_put (ci := 10) (C := "DirectoryDeskModel") (F := kF_Md) rfl kin_Md kty_Md ktk_Md knm_Md (Nat.le_of_ble_eq_true rfl) (by decide +kernel) d_Md_readWanted_101 (kw3 214 rfl rfl) rfl)) (
  kc_case (P := P) (kc_se c_Md_readWanted_100 (sm_ior d_Md_readWanted_100)) (
  kc_case (P := P) (kc_se c_Md_readWanted_99 (sm_ishl d_Md_readWanted_99)) (
  kc_case (P := P) (kc_se c_Md_readWanted_98 (sm_isub d_Md_readWanted_98)) (
  kc_case (P := P) (kc_se rfl sm_no) (
  kc_case (P := P) (kc_se c_Md_readWanted_96 (sm_bipush d_Md_readWanted_96 (by decide))) (
  kc_case (P := P) (kc_se c_Md_readWanted_95 (sm_iload_n d_Md_readWanted_95 rfl)) (
  kc_case (P := P) (kc_se c_Md_readWanted_94 (sm_iconst d_Md_readWanted_94 (by decide))) (
  kc_case (P := P) (kc_se rfl sm_no) (
  kc_case (P := P) (kc_se rfl sm_no) (
  kc_case (P := P) (kc_se c_Md_readWanted_91 (sm_get (ci := 10) (C := "DirectoryDeskModel") (F := kF_Md) rfl kin_Md (Nat.le_of_ble_eq_true rfl) d_Md_readWanted_91 (kw3 214 rfl rfl))) (
  kc_case (P := P) (kc_se c_Md_readWanted_90 (sm_aload_n d_Md_readWanted_90 rfl)) (
  kc_case (P := P) (kc_se rfl sm_no) (
  kc_case (P := P) (kc_se rfl sm_no) (
  kc_case (P := P) (kc_se c_Md_readWanted_87 (sm_goto d_Md_readWanted_87 (by decide))) (
  kc_case (P := P) (kc_se rfl sm_no) (
  kc_case (P := P) (kc_se rfl sm_no) (
  kc_case (P := P) (kc_se c_Md_readWanted_84 (sm_get (ci := 10) (C := "DirectoryDeskModel") (F := kF_Md) rfl kin_Md (Nat.le_of_ble_eq_true rfl) d_Md_readWanted_84 (kw3 214 rfl rfl))) (
  kc_case (P := P) (kc_se c_Md_readWanted_83 (sm_aload_n d_Md_readWanted_83 rfl)) (
  kc_case (P := P) (kc_se rfl sm_no) (
  kc_case (P := P) (kc_se rfl sm_no) (
  kc_case (P := P) (kc_se c_Md_readWanted_80 (sm_cm_ne d_Md_readWanted_80 (by decide))) (
  kc_case (P := P) (kc_se c_Md_readWanted_79 (sm_iconst d_Md_readWanted_79 (by decide))) (
  kc_case (P := P) (kc_se c_Md_readWanted_78 (sm_iload_n d_Md_readWanted_78 rfl)) (
  kc_case (P := P) (kc_se c_Md_readWanted_77 (sm_aload_n d_Md_readWanted_77 rfl)) (
  kc_case (P := P) (kc_se c_Md_readWanted_76 (sm_istore_n d_Md_readWanted_76 rfl (Nat.le_of_ble_eq_true rfl))) (
  kc_case (P := P) (kc_se rfl sm_no) (
  kc_case (P := P) (kc_se rfl sm_no) (
  kc_case (P := P) (kc_se c_Md_readWanted_73 (sm_cv (j := 105) rfl rfl kw_o kw_g wc_Md_typeIn (Nat.le_of_ble_eq_true rfl) hd_Md_typeIn (ci := 10) (F := kF_Md) (N := 52) rfl (kw4 160 rfl rfl) wi_Md_typeIn ws_Md_typeIn wn_Md_typeIn d_Md_readWanted_73)) (
  kc_case (P := P) (kc_se rfl sm_no) (
  kc_case (P := P) (kc_se rfl sm_no) (
  kc_case (P := P) (kc_se c_Md_readWanted_70 (sm_get (ci := 10) (C := "DirectoryDeskModel") (F := kF_Md) rfl kin_Md (Nat.le_of_ble_eq_true rfl) d_Md_readWanted_70 (kw3 198 rfl rfl))) (
  kc_case (P := P) (kc_se c_Md_readWanted_69 (sm_aload_n d_Md_readWanted_69 rfl)) (
  kc_case (P := P) (kc_se rfl sm_no) (
  kc_case (P := P) (kc_se rfl sm_no) (
  kc_case (P := P) (kc_se c_Md_readWanted_66 (sm_get (ci := 10) (C := "DirectoryDeskModel") (F := kF_Md) rfl kin_Md (Nat.le_of_ble_eq_true rfl) d_Md_readWanted_66 (kw3 197 rfl rfl))) (
  kc_case (P := P) (kc_se c_Md_readWanted_65 (sm_aload_n d_Md_readWanted_65 rfl)) (
  kc_case (P := P) (kc_se c_Md_readWanted_64 (sm_aload_n d_Md_readWanted_64 rfl)) (
  kc_case (P := P) (kc_se c_Md_readWanted_63 (sm_rz d_Md_readWanted_63 rfl)) (
  kc_case (P := P) (kc_se c_Md_readWanted_62 (sm_iconst d_Md_readWanted_62 (by decide))) (
  kc_case (P := P) (kc_se rfl sm_no) (
  kc_case (P := P) (kc_se rfl sm_no) (
  s_Md_readWanted_60))))))))))))))))))))))))))))))))))))))))))))))))))))))))))))
set_option maxRecDepth 100000 in
set_option maxHeartbeats 4000000 in
theorem s_Md_readWanted_124 : ∀ pc, pc < 124 → kc_Sim kt kw_A kw_N kt_cl kt_En "DirectoryDeskModel" prog_12_method_25_code 4 (some .boolean) "readWanted" none pc (ct_Md_readWanted pc) := by
  let P : Nat → Prop := fun pc => kc_Sim kt kw_A kw_N kt_cl kt_En "DirectoryDeskModel" prog_12_method_25_code 4 (some .boolean) "readWanted" none pc (ct_Md_readWanted pc)
  exact kc_case (P := P) (kc_se c_Md_readWanted_123 (sm_rz d_Md_readWanted_123 rfl)) (
  kc_case (P := P) (kc_se c_Md_readWanted_122 (sm_iconst d_Md_readWanted_122 (by decide))) (
  kc_case (P := P) (kc_se rfl sm_no) (
  kc_case (P := P) (kc_se rfl sm_no) (
  s_Md_readWanted_120))))
set_option maxRecDepth 100000 in
theorem ka_nth_no_Md_readWanted (pc : Nat) (h : 124 ≤ pc) : ct_Md_readWanted pc = ka_no := ka_nth_ge _ pc (Nat.le_trans (Nat.le_of_eq (by rfl)) h)
theorem s_Md_readWanted (pc : Nat) : kc_Sim kt kw_A kw_N kt_cl kt_En "DirectoryDeskModel" prog_12_method_25_code 4 (some .boolean) "readWanted" none pc (ct_Md_readWanted pc) := (Nat.lt_or_ge pc 124).elim (s_Md_readWanted_124 pc) (fun h => kc_se (ka_nth_no_Md_readWanted pc h) sm_no)
