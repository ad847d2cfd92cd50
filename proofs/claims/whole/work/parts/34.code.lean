/-! code of methods, decode rows, and that the JVM follows (by program) -/
def cl_Tr_init_0 : List kc_A := [ka_al 0 1, ka_obj, ka_no, ka_no, ka_al 0 1, ka_ci (nI 16) 2, ka_no, ka_newq, ka_no, ka_no, ka_put 3 0 (.array (.object "DirectoryDesk$Entry")), ka_no, ka_no, ka_ci (nI 0) 1, ka_is 1 1, ka_il 1 1, ka_ci (nI 16) 2, ka_no, ka_cm (fun x y => y ≤ x) 40, ka_no, ka_no, ka_al 0 1, ka_get 3 0, ka_no, ka_no, ka_il 1 1, ka_new 4 2 [.null, .null], ka_no, ka_no, ka_dup, ka_cx 61 0 6 74, ka_no, ka_no, ka_aast 4, ka_inc 1 (nI 1), ka_no, ka_no, ka_goto 15, ka_no, ka_no, ka_cl (8214565720323784704) 3, ka_no, ka_no, ka_ls 1 1, ka_al 0 1, ka_get 3 0, ka_no, ka_no, ka_ci (nI 0) 1, ka_aald, ka_get 4 0, ka_no, ka_no, ka_ci (nI 97) 2, ka_no, ka_ll 1 1, ka_cv 65 2 5 0 0, ka_no, ka_no, ka_al 0 1]
def cl_Tr_init_1 : List kc_A := [ka_get 3 0, ka_no, ka_no, ka_ci (nI 0) 1, ka_aald, ka_get 4 1, ka_no, ka_no, ka_ci (nI 97) 2, ka_no, ka_ll 1 1, ka_cv 72 2 6 0 0, ka_no, ka_no, ka_pop, ka_al 0 1, ka_get 3 0, ka_no, ka_no, ka_ci (nI 0) 1, ka_aald, ka_get 4 1, ka_no, ka_no, ka_ci (nI 102) 2, ka_no, ka_cl (8646911284551352320) 3, ka_no, ka_no, ka_cv 72 2 6 0 0, ka_no, ka_no, ka_pop, ka_al 0 1, ka_ci (nI 1) 1, ka_put 3 1 .int, ka_no, ka_no, ka_ret]
def ct_Tr_init : Nat → kc_A := fun pc => ka_nth (cl_Tr_init_0 ++ (cl_Tr_init_1)) pc
set_option maxRecDepth 100000 in
theorem c_Tr_init_0 : ct_Tr_init 0 = ka_al 0 1 := rfl
theorem d_Tr_init_0 : decode prog_9_method_1_code 0 = .ok (.aload_n 0, 1) := by decide +kernel
set_option maxRecDepth 100000 in
theorem c_Tr_init_1 : ct_Tr_init 1 = ka_obj := rfl
theorem d_Tr_init_1 : decode prog_9_method_1_code 1 = .ok (.invokespecial 3, 3) := by decide +kernel
set_option maxRecDepth 100000 in
theorem c_Tr_init_4 : ct_Tr_init 4 = ka_al 0 1 := rfl
theorem d_Tr_init_4 : decode prog_9_method_1_code 4 = .ok (.aload_n 0, 1) := by decide +kernel
set_option maxRecDepth 100000 in
theorem c_Tr_init_5 : ct_Tr_init 5 = ka_ci (nI 16) 2 := rfl
theorem d_Tr_init_5 : decode prog_9_method_1_code 5 = .ok (.bipush 16, 2) := by decide +kernel
set_option maxRecDepth 100000 in
theorem c_Tr_init_7 : ct_Tr_init 7 = ka_newq := rfl
theorem d_Tr_init_7 : decode prog_9_method_1_code 7 = .ok (.anewarray 9, 3) := by decide +kernel
set_option maxRecDepth 100000 in
theorem c_Tr_init_10 : ct_Tr_init 10 = ka_put 3 0 (.array (.object "DirectoryDesk$Entry")) := rfl
theorem d_Tr_init_10 : decode prog_9_method_1_code 10 = .ok (.putfield 11, 3) := by decide +kernel
set_option maxRecDepth 100000 in
theorem c_Tr_init_13 : ct_Tr_init 13 = ka_ci (nI 0) 1 := rfl
theorem d_Tr_init_13 : decode prog_9_method_1_code 13 = .ok (.iconst 0, 1) := by decide +kernel
set_option maxRecDepth 100000 in
theorem c_Tr_init_14 : ct_Tr_init 14 = ka_is 1 1 := rfl
theorem d_Tr_init_14 : decode prog_9_method_1_code 14 = .ok (.istore_n 1, 1) := by decide +kernel
set_option maxRecDepth 100000 in
theorem c_Tr_init_15 : ct_Tr_init 15 = ka_il 1 1 := rfl
theorem d_Tr_init_15 : decode prog_9_method_1_code 15 = .ok (.iload_n 1, 1) := by decide +kernel
set_option maxRecDepth 100000 in
theorem c_Tr_init_16 : ct_Tr_init 16 = ka_ci (nI 16) 2 := rfl
theorem d_Tr_init_16 : decode prog_9_method_1_code 16 = .ok (.bipush 16, 2) := by decide +kernel
set_option maxRecDepth 100000 in
theorem c_Tr_init_18 : ct_Tr_init 18 = ka_cm (fun x y => y ≤ x) 40 := rfl
theorem d_Tr_init_18 : decode prog_9_method_1_code 18 = .ok (.if_icmp .ge 22, 3) := by decide +kernel
set_option maxRecDepth 100000 in
theorem c_Tr_init_21 : ct_Tr_init 21 = ka_al 0 1 := rfl
theorem d_Tr_init_21 : decode prog_9_method_1_code 21 = .ok (.aload_n 0, 1) := by decide +kernel
set_option maxRecDepth 100000 in
theorem c_Tr_init_22 : ct_Tr_init 22 = ka_get 3 0 := rfl
theorem d_Tr_init_22 : decode prog_9_method_1_code 22 = .ok (.getfield 11, 3) := by decide +kernel
set_option maxRecDepth 100000 in
theorem c_Tr_init_25 : ct_Tr_init 25 = ka_il 1 1 := rfl
theorem d_Tr_init_25 : decode prog_9_method_1_code 25 = .ok (.iload_n 1, 1) := by decide +kernel
set_option maxRecDepth 100000 in
theorem c_Tr_init_26 : ct_Tr_init 26 = ka_new 4 2 [.null, .null] := rfl
theorem d_Tr_init_26 : decode prog_9_method_1_code 26 = .ok (.new 9, 3) := by decide +kernel
set_option maxRecDepth 100000 in
theorem c_Tr_init_29 : ct_Tr_init 29 = ka_dup := rfl
theorem d_Tr_init_29 : decode prog_9_method_1_code 29 = .ok (.dup, 1) := by decide +kernel
set_option maxRecDepth 100000 in
theorem c_Tr_init_30 : ct_Tr_init 30 = ka_cx 61 0 6 74 := rfl
theorem d_Tr_init_30 : decode prog_9_method_1_code 30 = .ok (.invokespecial 17, 3) := by decide +kernel
set_option maxRecDepth 100000 in
theorem c_Tr_init_33 : ct_Tr_init 33 = ka_aast 4 := rfl
theorem d_Tr_init_33 : decode prog_9_method_1_code 33 = .ok (.aastore, 1) := by decide +kernel
set_option maxRecDepth 100000 in
theorem c_Tr_init_34 : ct_Tr_init 34 = ka_inc 1 (nI 1) := rfl
theorem d_Tr_init_34 : decode prog_9_method_1_code 34 = .ok (.iinc 1 1, 3) := by decide +kernel
set_option maxRecDepth 100000 in
theorem c_Tr_init_37 : ct_Tr_init 37 = ka_goto 15 := rfl
theorem d_Tr_init_37 : decode prog_9_method_1_code 37 = .ok (.goto (-22), 3) := by decide +kernel
set_option maxRecDepth 100000 in
theorem c_Tr_init_40 : ct_Tr_init 40 = ka_cl (8214565720323784704) 3 := rfl
theorem d_Tr_init_40 : decode prog_9_method_1_code 40 = .ok (.ldc2_w 18, 3) := by decide +kernel
set_option maxRecDepth 100000 in
theorem c_Tr_init_43 : ct_Tr_init 43 = ka_ls 1 1 := rfl
theorem d_Tr_init_43 : decode prog_9_method_1_code 43 = .ok (.lstore_n 1, 1) := by decide +kernel
set_option maxRecDepth 100000 in
theorem c_Tr_init_44 : ct_Tr_init 44 = ka_al 0 1 := rfl
theorem d_Tr_init_44 : decode prog_9_method_1_code 44 = .ok (.aload_n 0, 1) := by decide +kernel
set_option maxRecDepth 100000 in
theorem c_Tr_init_45 : ct_Tr_init 45 = ka_get 3 0 := rfl
theorem d_Tr_init_45 : decode prog_9_method_1_code 45 = .ok (.getfield 11, 3) := by decide +kernel
set_option maxRecDepth 100000 in
theorem c_Tr_init_48 : ct_Tr_init 48 = ka_ci (nI 0) 1 := rfl
theorem d_Tr_init_48 : decode prog_9_method_1_code 48 = .ok (.iconst 0, 1) := by decide +kernel
set_option maxRecDepth 100000 in
theorem c_Tr_init_49 : ct_Tr_init 49 = ka_aald := rfl
theorem d_Tr_init_49 : decode prog_9_method_1_code 49 = .ok (.aaload, 1) := by decide +kernel
set_option maxRecDepth 100000 in
theorem c_Tr_init_50 : ct_Tr_init 50 = ka_get 4 0 := rfl
theorem d_Tr_init_50 : decode prog_9_method_1_code 50 = .ok (.getfield 20, 3) := by decide +kernel
set_option maxRecDepth 100000 in
theorem c_Tr_init_53 : ct_Tr_init 53 = ka_ci (nI 97) 2 := rfl
theorem d_Tr_init_53 : decode prog_9_method_1_code 53 = .ok (.bipush 97, 2) := by decide +kernel
set_option maxRecDepth 100000 in
theorem c_Tr_init_55 : ct_Tr_init 55 = ka_ll 1 1 := rfl
theorem d_Tr_init_55 : decode prog_9_method_1_code 55 = .ok (.lload_n 1, 1) := by decide +kernel
set_option maxRecDepth 100000 in
theorem c_Tr_init_56 : ct_Tr_init 56 = ka_cv 65 2 5 0 0 := rfl
theorem d_Tr_init_56 : decode prog_9_method_1_code 56 = .ok (.invokevirtual 24, 3) := by decide +kernel
set_option maxRecDepth 100000 in
theorem c_Tr_init_59 : ct_Tr_init 59 = ka_al 0 1 := rfl
theorem d_Tr_init_59 : decode prog_9_method_1_code 59 = .ok (.aload_n 0, 1) := by decide +kernel
set_option maxRecDepth 100000 in
theorem c_Tr_init_60 : ct_Tr_init 60 = ka_get 3 0 := rfl
theorem d_Tr_init_60 : decode prog_9_method_1_code 60 = .ok (.getfield 11, 3) := by decide +kernel
set_option maxRecDepth 100000 in
theorem c_Tr_init_63 : ct_Tr_init 63 = ka_ci (nI 0) 1 := rfl
theorem d_Tr_init_63 : decode prog_9_method_1_code 63 = .ok (.iconst 0, 1) := by decide +kernel
set_option maxRecDepth 100000 in
theorem c_Tr_init_64 : ct_Tr_init 64 = ka_aald := rfl
theorem d_Tr_init_64 : decode prog_9_method_1_code 64 = .ok (.aaload, 1) := by decide +kernel
set_option maxRecDepth 100000 in
theorem c_Tr_init_65 : ct_Tr_init 65 = ka_get 4 1 := rfl
theorem d_Tr_init_65 : decode prog_9_method_1_code 65 = .ok (.getfield 30, 3) := by decide +kernel
set_option maxRecDepth 100000 in
theorem c_Tr_init_68 : ct_Tr_init 68 = ka_ci (nI 97) 2 := rfl
theorem d_Tr_init_68 : decode prog_9_method_1_code 68 = .ok (.bipush 97, 2) := by decide +kernel
set_option maxRecDepth 100000 in
theorem c_Tr_init_70 : ct_Tr_init 70 = ka_ll 1 1 := rfl
theorem d_Tr_init_70 : decode prog_9_method_1_code 70 = .ok (.lload_n 1, 1) := by decide +kernel
set_option maxRecDepth 100000 in
theorem c_Tr_init_71 : ct_Tr_init 71 = ka_cv 72 2 6 0 0 := rfl
theorem d_Tr_init_71 : decode prog_9_method_1_code 71 = .ok (.invokevirtual 34, 3) := by decide +kernel
set_option maxRecDepth 100000 in
theorem c_Tr_init_74 : ct_Tr_init 74 = ka_pop := rfl
theorem d_Tr_init_74 : decode prog_9_method_1_code 74 = .ok (.pop, 1) := by decide +kernel
set_option maxRecDepth 100000 in
theorem c_Tr_init_75 : ct_Tr_init 75 = ka_al 0 1 := rfl
theorem d_Tr_init_75 : decode prog_9_method_1_code 75 = .ok (.aload_n 0, 1) := by decide +kernel
set_option maxRecDepth 100000 in
theorem c_Tr_init_76 : ct_Tr_init 76 = ka_get 3 0 := rfl
theorem d_Tr_init_76 : decode prog_9_method_1_code 76 = .ok (.getfield 11, 3) := by decide +kernel
set_option maxRecDepth 100000 in
theorem c_Tr_init_79 : ct_Tr_init 79 = ka_ci (nI 0) 1 := rfl
theorem d_Tr_init_79 : decode prog_9_method_1_code 79 = .ok (.iconst 0, 1) := by decide +kernel
set_option maxRecDepth 100000 in
theorem c_Tr_init_80 : ct_Tr_init 80 = ka_aald := rfl
theorem d_Tr_init_80 : decode prog_9_method_1_code 80 = .ok (.aaload, 1) := by decide +kernel
set_option maxRecDepth 100000 in
theorem c_Tr_init_81 : ct_Tr_init 81 = ka_get 4 1 := rfl
theorem d_Tr_init_81 : decode prog_9_method_1_code 81 = .ok (.getfield 30, 3) := by decide +kernel
set_option maxRecDepth 100000 in
theorem c_Tr_init_84 : ct_Tr_init 84 = ka_ci (nI 102) 2 := rfl
theorem d_Tr_init_84 : decode prog_9_method_1_code 84 = .ok (.bipush 102, 2) := by decide +kernel
set_option maxRecDepth 100000 in
theorem c_Tr_init_86 : ct_Tr_init 86 = ka_cl (8646911284551352320) 3 := rfl
theorem d_Tr_init_86 : decode prog_9_method_1_code 86 = .ok (.ldc2_w 39, 3) := by decide +kernel
set_option maxRecDepth 100000 in
theorem c_Tr_init_89 : ct_Tr_init 89 = ka_cv 72 2 6 0 0 := rfl
theorem d_Tr_init_89 : decode prog_9_method_1_code 89 = .ok (.invokevirtual 34, 3) := by decide +kernel
set_option maxRecDepth 100000 in
theorem c_Tr_init_92 : ct_Tr_init 92 = ka_pop := rfl
theorem d_Tr_init_92 : decode prog_9_method_1_code 92 = .ok (.pop, 1) := by decide +kernel
set_option maxRecDepth 100000 in
theorem c_Tr_init_93 : ct_Tr_init 93 = ka_al 0 1 := rfl
theorem d_Tr_init_93 : decode prog_9_method_1_code 93 = .ok (.aload_n 0, 1) := by decide +kernel
set_option maxRecDepth 100000 in
theorem c_Tr_init_94 : ct_Tr_init 94 = ka_ci (nI 1) 1 := rfl
theorem d_Tr_init_94 : decode prog_9_method_1_code 94 = .ok (.iconst 1, 1) := by decide +kernel
set_option maxRecDepth 100000 in
theorem c_Tr_init_95 : ct_Tr_init 95 = ka_put 3 1 .int := rfl
theorem d_Tr_init_95 : decode prog_9_method_1_code 95 = .ok (.putfield 41, 3) := by decide +kernel
set_option maxRecDepth 100000 in
theorem c_Tr_init_98 : ct_Tr_init 98 = ka_ret := rfl
theorem d_Tr_init_98 : decode prog_9_method_1_code 98 = .ok (.return_, 1) := by decide +kernel
set_option maxRecDepth 100000 in
set_option maxHeartbeats 4000000 in
theorem s_Tr_init_60 : ∀ pc, pc < 60 → kc_Sim kt kw_A kw_N kt_cl kt_En "DirectoryDesk$Tree" prog_9_method_1_code 3 (none) "<init>" none pc (ct_Tr_init pc) := by
  let P : Nat → Prop := fun pc => kc_Sim kt kw_A kw_N kt_cl kt_En "DirectoryDesk$Tree" prog_9_method_1_code 3 (none) "<init>" none pc (ct_Tr_init pc)
  exact kc_case (P := P) (kc_se c_Tr_init_59 (sm_aload_n d_Tr_init_59 rfl)) (
  kc_case (P := P) (kc_se rfl sm_no) (
  kc_case (P := P) (kc_se rfl sm_no) (
  kc_case (P := P) (kc_se c_Tr_init_56 (sm_cv (j := 65) rfl rfl kw_o kw_g wc_Nm_append (Nat.le_of_ble_eq_true rfl) hd_Nm_append (ci := 5) (F := kF_Nm) (N := 3) rfl (kw1 147 rfl rfl) wi_Nm_append ws_Nm_append wn_Nm_append d_Tr_init_56)) (
  kc_case (P := P) (kc_se c_Tr_init_55 (sm_lload_n d_Tr_init_55 rfl)) (
  kc_case (P := P) (kc_se rfl sm_no) (
  kc_case (P := P) (kc_se c_Tr_init_53 (sm_bipush d_Tr_init_53 (by decide))) (
  kc_case (P := P) (kc_se rfl sm_no) (
  kc_case (P := P) (kc_se rfl sm_no) (
  kc_case (P := P) (kc_se c_Tr_init_50 (sm_get (ci := 4) (C := "DirectoryDesk$Entry") (F := kF_En) rfl kin_En (Nat.le_of_ble_eq_true rfl) d_Tr_init_50 (kw1 136 rfl rfl))) (
  kc_case (P := P) (kc_se c_Tr_init_49 (sm_aald d_Tr_init_49)) (
  kc_case (P := P) (kc_se c_Tr_init_48 (sm_iconst d_Tr_init_48 (by decide))) (
  kc_case (P := P) (kc_se rfl sm_no) (
  kc_case (P := P) (kc_se rfl sm_no) (
  kc_case (P := P) (kc_se c_Tr_init_45 (sm_get (ci := 3) (C := "DirectoryDesk$Tree") (F := kF_Tr) rfl kin_Tr (Nat.le_of_ble_eq_true rfl) d_Tr_init_45 (kw1 160 rfl rfl))) (
  kc_case (P := P) (kc_se c_Tr_init_44 (sm_aload_n d_Tr_init_44 rfl)) (
  kc_case (P := P) (kc_se c_Tr_init_43 (sm_lstore_n d_Tr_init_43 rfl (Nat.le_of_ble_eq_true rfl))) (
  kc_case (P := P) (kc_se rfl sm_no) (
  kc_case (P := P) (kc_se rfl sm_no) (
  kc_case (P := P) (kc_se c_Tr_init_40 (sm_ldc2 d_Tr_init_40 (kw1 146 rfl rfl))) (
  kc_case (P := P) (kc_se rfl sm_no) (
  kc_case (P := P) (kc_se rfl sm_no) (
  kc_case (P := P) (kc_se c_Tr_init_37 (sm_goto d_Tr_init_37 (by decide))) (
  kc_case (P := P) (kc_se rfl sm_no) (
  kc_case (P := P) (kc_se rfl sm_no) (
  kc_case (P := P) (kc_se c_Tr_init_34 (sm_inc d_Tr_init_34 (by decide) (Nat.le_of_ble_eq_true rfl))) (
  kc_case (P := P) (kc_se c_Tr_init_33 (sm_aast (ci := 4) (F := kF_En) (N := 2) rfl d_Tr_init_33)) (
  kc_case (P := P) (kc_se rfl sm_no) (
  kc_case (P := P) (kc_se rfl sm_no) (
  kc_case (P := P) (kc_se c_Tr_init_30 (sm_cxN (j := 61) rfl rfl kw_o kw_g wc_En_init (Nat.le_of_ble_eq_true rfl) hd_En_init rfl rfl (List.mem_of_getElem? (i := 3) rfl) wi_En_init wn_En_init d_Tr_init_30)) (
  kc_case (P := P) (kc_se c_Tr_init_29 (sm_dup d_Tr_init_29)) (
  kc_case (P := P) (kc_se rfl sm_no) (
  kc_case (P := P) (kc_se rfl sm_no) (
  kc_case (P := P) (kc_se c_Tr_init_26 (sm_new (ci := 4) (C := "DirectoryDesk$Entry") (F := kF_En) rfl kin_En kty_En ktk_En (fun b0 j hj => kdf_En b0 j hj) d_Tr_init_26 (kw1 84 rfl rfl) (kw1 86 rfl rfl) (kw1 5 rfl rfl))) (
  kc_case (P := P) (kc_se c_Tr_init_25 (sm_iload_n d_Tr_init_25 rfl)) (
  kc_case (P := P) (kc_se rfl sm_no) (
  kc_case (P := P) (kc_se rfl sm_no) (
  kc_case (P := P) (kc_se c_Tr_init_22 (sm_get (ci := 3) (C := "DirectoryDesk$Tree") (F := kF_Tr) rfl kin_Tr (Nat.le_of_ble_eq_true rfl) d_Tr_init_22 (kw1 160 rfl rfl))) (
  kc_case (P := P) (kc_se c_Tr_init_21 (sm_aload_n d_Tr_init_21 rfl)) (
  kc_case (P := P) (kc_se rfl sm_no) (
  kc_case (P := P) (kc_se rfl sm_no) (
  kc_case (P := P) (kc_se c_Tr_init_18 (sm_cm_ge d_Tr_init_18 (by decide))) (
  kc_case (P := P) (kc_se rfl sm_no) (
  kc_case (P := P) (kc_se c_Tr_init_16 (sm_bipush d_Tr_init_16 (by decide))) (
  kc_case (P := P) (kc_se c_Tr_init_15 (sm_iload_n d_Tr_init_15 rfl)) (
  kc_case (P := P) (kc_se c_Tr_init_14 (sm_istore_n d_Tr_init_14 rfl (Nat.le_of_ble_eq_true rfl))) (
  kc_case (P := P) (kc_se c_Tr_init_13 (sm_iconst d_Tr_init_13 (by decide))) (
  kc_case (P := P) (kc_se rfl sm_no) (
  kc_case (P := P) (kc_se rfl sm_no) (
  kc_case (P := P) (kc_se c_Tr_init_10 (sm_putF (ci := 3) (C := "DirectoryDesk$Tree") (F := kF_Tr) rfl kin_Tr kty_Tr ktk_Tr knm_Tr (Nat.le_of_ble_eq_true rfl) (by decide +kernel) d_Tr_init_10 (kw1 160 rfl rfl) rfl rfl rfl)) (
  kc_case (P := P) (kc_se rfl sm_no) (
  kc_case (P := P) (kc_se rfl sm_no) (
  kc_case (P := P) (kc_se c_Tr_init_7 (sm_newq d_Tr_init_7 (kw1 84 rfl rfl) (List.mem_of_getElem? (i := 2) rfl))) (
  kc_case (P := P) (kc_se rfl sm_no) (
  kc_case (P := P) (kc_se c_Tr_init_5 (sm_bipush d_Tr_init_5 (by decide))) (
  kc_case (P := P) (kc_se c_Tr_init_4 (sm_aload_n d_Tr_init_4 rfl)) (
  kc_case (P := P) (kc_se rfl sm_no) (
  kc_case (P := P) (kc_se rfl sm_no) (
  kc_case (P := P) (kc_se c_Tr_init_1 (sm_obj d_Tr_init_1 (kw1 83 rfl rfl) (kw1 20 rfl rfl) (kw1 21 rfl rfl))) (
  kc_case (P := P) (kc_se c_Tr_init_0 (sm_aload_n d_Tr_init_0 rfl)) (
  kc_case0))))))))))))))))))))))))))))))))))))))))))))))))))))))))))))
set_option maxRecDepth 100000 in
set_option maxHeartbeats 4000000 in
theorem s_Tr_init_99 : ∀ pc, pc < 99 → kc_Sim kt kw_A kw_N kt_cl kt_En "DirectoryDesk$Tree" prog_9_method_1_code 3 (none) "<init>" none pc (ct_Tr_init pc) := by
  let P : Nat → Prop := fun pc => kc_Sim kt kw_A kw_N kt_cl kt_En "DirectoryDesk$Tree" prog_9_method_1_code 3 (none) "<init>" none pc (ct_Tr_init pc)
  exact kc_case (P := P) (kc_se c_Tr_init_98 (sm_ret d_Tr_init_98 rfl)) (
  kc_case (P := P) (kc_se rfl sm_no) (
  kc_case (P := P) (kc_se rfl sm_no) (
  kc_case (P := P) (kc_se c_Tr_init_95 (sm_put (ci := 3) (C := "DirectoryDesk$Tree") (F := kF_Tr) rfl kin_Tr kty_Tr ktk_Tr knm_Tr (Nat.le_of_ble_eq_true rfl) (by decide +kernel) d_Tr_init_95 (kw1 162 rfl rfl) rfl)) (
  kc_case (P := P) (kc_se c_Tr_init_94 (sm_iconst d_Tr_init_94 (by decide))) (
  kc_case (P := P) (kc_se c_Tr_init_93 (sm_aload_n d_Tr_init_93 rfl)) (
  kc_case (P := P) (kc_se c_Tr_init_92 (sm_pop d_Tr_init_92)) (
  kc_case (P := P) (kc_se rfl sm_no) (
  kc_case (P := P) (kc_se rfl sm_no) (
  kc_case (P := P) (kc_se c_Tr_init_89 (sm_cv (j := 72) rfl rfl kw_o kw_g wc_Pa_append (Nat.le_of_ble_eq_true rfl) hd_Pa_append (ci := 6) (F := kF_Pa) (N := 3) rfl (kw1 151 rfl rfl) wi_Pa_append ws_Pa_append wn_Pa_append d_Tr_init_89)) (
  kc_case (P := P) (kc_se rfl sm_no) (
  kc_case (P := P) (kc_se rfl sm_no) (
  kc_case (P := P) (kc_se c_Tr_init_86 (sm_ldc2 d_Tr_init_86 (kw1 159 rfl rfl))) (
  kc_case (P := P) (kc_se rfl sm_no) (
  kc_case (P := P) (kc_se c_Tr_init_84 (sm_bipush d_Tr_init_84 (by decide))) (
  kc_case (P := P) (kc_se rfl sm_no) (
  kc_case (P := P) (kc_se rfl sm_no) (
  kc_case (P := P) (kc_se c_Tr_init_81 (sm_get (ci := 4) (C := "DirectoryDesk$Entry") (F := kF_En) rfl kin_En (Nat.le_of_ble_eq_true rfl) d_Tr_init_81 (kw1 139 rfl rfl))) (
  kc_case (P := P) (kc_se c_Tr_init_80 (sm_aald d_Tr_init_80)) (
  kc_case (P := P) (kc_se c_Tr_init_79 (sm_iconst d_Tr_init_79 (by decide))) (
  kc_case (P := P) (kc_se rfl sm_no) (
  kc_case (P := P) (kc_se rfl sm_no) (
  kc_case (P := P) (kc_se c_Tr_init_76 (sm_get (ci := 3) (C := "DirectoryDesk$Tree") (F := kF_Tr) rfl kin_Tr (Nat.le_of_ble_eq_true rfl) d_Tr_init_76 (kw1 160 rfl rfl))) (
  kc_case (P := P) (kc_se c_Tr_init_75 (sm_aload_n d_Tr_init_75 rfl)) (
  kc_case (P := P) (kc_se c_Tr_init_74 (sm_pop d_Tr_init_74)) (
  kc_case (P := P) (kc_se rfl sm_no) (
  kc_case (P := P) (kc_se rfl sm_no) (
  kc_case (P := P) (kc_se c_Tr_init_71 (sm_cv (j := 72) rfl rfl kw_o kw_g wc_Pa_append (Nat.le_of_ble_eq_true rfl) hd_Pa_append (ci := 6) (F := kF_Pa) (N := 3) rfl (kw1 151 rfl rfl) wi_Pa_append ws_Pa_append wn_Pa_append d_Tr_init_71)) (
  kc_case (P := P) (kc_se c_Tr_init_70 (sm_lload_n d_Tr_init_70 rfl)) (
  kc_case (P := P) (kc_se rfl sm_no) (
  kc_case (P := P) (kc_se c_Tr_init_68 (sm_bipush d_Tr_init_68 (by decide))) (
  kc_case (P := P) (kc_se rfl sm_no) (
  kc_case (P := P) (kc_se rfl sm_no) (
  kc_case (P := P) (kc_se c_Tr_init_65 (sm_get (ci := 4) (C := "DirectoryDesk$Entry") (F := kF_En) rfl kin_En (Nat.le_of_ble_eq_true rfl) d_Tr_init_65 (kw1 139 rfl rfl))) (
  kc_case (P := P) (kc_se c_Tr_init_64 (sm_aald d_Tr_init_64)) (
  kc_case (P := P) (kc_se c_Tr_init_63 (sm_iconst d_Tr_init_63 (by decide))) (
  kc_case (P := P) (kc_se rfl sm_no) (
  kc_case (P := P) (kc_se rfl sm_no) (
  kc_case (P := P) (kc_se c_Tr_init_60 (sm_get (ci := 3) (C := "DirectoryDesk$Tree") (F := kF_Tr) rfl kin_Tr (Nat.le_of_ble_eq_true rfl) d_Tr_init_60 (kw1 160 rfl rfl))) (
  s_Tr_init_60)))))))))))))))))))))))))))))))))))))))
theorem ka_nth_no_Tr_init (pc : Nat) (h : 99 ≤ pc) : ct_Tr_init pc = ka_no := ka_nth_ge _ pc (Nat.le_trans (Nat.le_of_eq (by rfl)) h)
theorem s_Tr_init (pc : Nat) : kc_Sim kt kw_A kw_N kt_cl kt_En "DirectoryDesk$Tree" prog_9_method_1_code 3 (none) "<init>" none pc (ct_Tr_init pc) := (Nat.lt_or_ge pc 99).elim (s_Tr_init_99 pc) (fun h => kc_se (ka_nth_no_Tr_init pc h) sm_no)
def cl_Tr_find_0 : List kc_A := [ka_ci (nI 0) 1, ka_is 3 1, ka_il 3 1, ka_al 0 1, ka_get 3 1, ka_no, ka_no, ka_cm (fun x y => y ≤ x) 35, ka_no, ka_no, ka_al 1 1, ka_al 0 1, ka_get 3 0, ka_no, ka_no, ka_il 3 1, ka_aald, ka_get 4 0, ka_no, ka_no, ka_cv 67 1 5 0 0, ka_no, ka_no, ka_il 2 1, ka_cm (fun x y => ¬ x = y) 29, ka_no, ka_no, ka_il 3 1, ka_ri, ka_inc 3 (nI 1), ka_no, ka_no, ka_goto 2, ka_no, ka_no, ka_ci (-1) 1, ka_ri]
def ct_Tr_find : Nat → kc_A := fun pc => ka_nth (cl_Tr_find_0) pc
set_option maxRecDepth 100000 in
theorem c_Tr_find_0 : ct_Tr_find 0 = ka_ci (nI 0) 1 := rfl
theorem d_Tr_find_0 : decode prog_9_method_2_code 0 = .ok (.iconst 0, 1) := by decide +kernel
set_option maxRecDepth 100000 in
theorem c_Tr_find_1 : ct_Tr_find 1 = ka_is 3 1 := rfl
theorem d_Tr_find_1 : decode prog_9_method_2_code 1 = .ok (.istore_n 3, 1) := by decide +kernel
set_option maxRecDepth 100000 in
theorem c_Tr_find_2 : ct_Tr_find 2 = ka_il 3 1 := rfl
theorem d_Tr_find_2 : decode prog_9_method_2_code 2 = .ok (.iload_n 3, 1) := by decide +kernel
set_option maxRecDepth 100000 in
theorem c_Tr_find_3 : ct_Tr_find 3 = ka_al 0 1 := rfl
theorem d_Tr_find_3 : decode prog_9_method_2_code 3 = .ok (.aload_n 0, 1) := by decide +kernel
set_option maxRecDepth 100000 in
theorem c_Tr_find_4 : ct_Tr_find 4 = ka_get 3 1 := rfl
theorem d_Tr_find_4 : decode prog_9_method_2_code 4 = .ok (.getfield 41, 3) := by decide +kernel
set_option maxRecDepth 100000 in
theorem c_Tr_find_7 : ct_Tr_find 7 = ka_cm (fun x y => y ≤ x) 35 := rfl
theorem d_Tr_find_7 : decode prog_9_method_2_code 7 = .ok (.if_icmp .ge 28, 3) := by decide +kernel
set_option maxRecDepth 100000 in
theorem c_Tr_find_10 : ct_Tr_find 10 = ka_al 1 1 := rfl
theorem d_Tr_find_10 : decode prog_9_method_2_code 10 = .ok (.aload_n 1, 1) := by decide +kernel
set_option maxRecDepth 100000 in
theorem c_Tr_find_11 : ct_Tr_find 11 = ka_al 0 1 := rfl
theorem d_Tr_find_11 : decode prog_9_method_2_code 11 = .ok (.aload_n 0, 1) := by decide +kernel
set_option maxRecDepth 100000 in
theorem c_Tr_find_12 : ct_Tr_find 12 = ka_get 3 0 := rfl
theorem d_Tr_find_12 : decode prog_9_method_2_code 12 = .ok (.getfield 11, 3) := by decide +kernel
set_option maxRecDepth 100000 in
theorem c_Tr_find_15 : ct_Tr_find 15 = ka_il 3 1 := rfl
theorem d_Tr_find_15 : decode prog_9_method_2_code 15 = .ok (.iload_n 3, 1) := by decide +kernel
set_option maxRecDepth 100000 in
theorem c_Tr_find_16 : ct_Tr_find 16 = ka_aald := rfl
theorem d_Tr_find_16 : decode prog_9_method_2_code 16 = .ok (.aaload, 1) := by decide +kernel
set_option maxRecDepth 100000 in
theorem c_Tr_find_17 : ct_Tr_find 17 = ka_get 4 0 := rfl
theorem d_Tr_find_17 : decode prog_9_method_2_code 17 = .ok (.getfield 20, 3) := by decide +kernel
set_option maxRecDepth 100000 in
theorem c_Tr_find_20 : ct_Tr_find 20 = ka_cv 67 1 5 0 0 := rfl
theorem d_Tr_find_20 : decode prog_9_method_2_code 20 = .ok (.invokevirtual 45, 3) := by decide +kernel
set_option maxRecDepth 100000 in
theorem c_Tr_find_23 : ct_Tr_find 23 = ka_il 2 1 := rfl
theorem d_Tr_find_23 : decode prog_9_method_2_code 23 = .ok (.iload_n 2, 1) := by decide +kernel
set_option maxRecDepth 100000 in
theorem c_Tr_find_24 : ct_Tr_find 24 = ka_cm (fun x y => ¬ x = y) 29 := rfl
theorem d_Tr_find_24 : decode prog_9_method_2_code 24 = .ok (.if_icmp .ne 5, 3) := by decide +kernel
set_option maxRecDepth 100000 in
theorem c_Tr_find_27 : ct_Tr_find 27 = ka_il 3 1 := rfl
theorem d_Tr_find_27 : decode prog_9_method_2_code 27 = .ok (.iload_n 3, 1) := by decide +kernel
set_option maxRecDepth 100000 in
theorem c_Tr_find_28 : ct_Tr_find 28 = ka_ri := rfl
theorem d_Tr_find_28 : decode prog_9_method_2_code 28 = .ok (.ireturn, 1) := by decide +kernel
set_option maxRecDepth 100000 in
theorem c_Tr_find_29 : ct_Tr_find 29 = ka_inc 3 (nI 1) := rfl
theorem d_Tr_find_29 : decode prog_9_method_2_code 29 = .ok (.iinc 3 1, 3) := by decide +kernel
set_option maxRecDepth 100000 in
theorem c_Tr_find_32 : ct_Tr_find 32 = ka_goto 2 := rfl
theorem d_Tr_find_32 : decode prog_9_method_2_code 32 = .ok (.goto (-30), 3) := by decide +kernel
set_option maxRecDepth 100000 in
theorem c_Tr_find_35 : ct_Tr_find 35 = ka_ci (-1) 1 := rfl
theorem d_Tr_find_35 : decode prog_9_method_2_code 35 = .ok (.iconst (-1), 1) := by decide +kernel
set_option maxRecDepth 100000 in
theorem c_Tr_find_36 : ct_Tr_find 36 = ka_ri := rfl
theorem d_Tr_find_36 : decode prog_9_method_2_code 36 = .ok (.ireturn, 1) := by decide +kernel
set_option maxRecDepth 100000 in
set_option maxHeartbeats 4000000 in
theorem s_Tr_find_37 : ∀ pc, pc < 37 → kc_Sim kt kw_A kw_N kt_cl kt_En "DirectoryDesk$Tree" prog_9_method_2_code 4 (some .int) "find" none pc (ct_Tr_find pc) := by
  let P : Nat → Prop := fun pc => kc_Sim kt kw_A kw_N kt_cl kt_En "DirectoryDesk$Tree" prog_9_method_2_code 4 (some .int) "find" none pc (ct_Tr_find pc)
  exact kc_case (P := P) (kc_se c_Tr_find_36 (sm_ri d_Tr_find_36 rfl)) (
  kc_case (P := P) (kc_se c_Tr_find_35 (sm_iconst d_Tr_find_35 (by decide))) (
  kc_case (P := P) (kc_se rfl sm_no) (
  kc_case (P := P) (kc_se rfl sm_no) (
  kc_case (P := P) (kc_se c_Tr_find_32 (sm_goto d_Tr_find_32 (by decide))) (
  kc_case (P := P) (kc_se rfl sm_no) (
  kc_case (P := P) (kc_se rfl sm_no) (
  kc_case (P := P) (kc_se c_Tr_find_29 (sm_inc d_Tr_find_29 (by decide) (Nat.le_of_ble_eq_true rfl))) (
  kc_case (P := P) (kc_se c_Tr_find_28 (sm_ri d_Tr_find_28 rfl)) (
  kc_case (P := P) (kc_se c_Tr_find_27 (sm_iload_n d_Tr_find_27 rfl)) (
  kc_case (P := P) (kc_se rfl sm_no) (
  kc_case (P := P) (kc_se rfl sm_no) (
  kc_case (P := P) (kc_se c_Tr_find_24 (sm_cm_ne d_Tr_find_24 (by decide))) (
  kc_case (P := P) (kc_se c_Tr_find_23 (sm_iload_n d_Tr_find_23 rfl)) (
  kc_case (P := P) (kc_se rfl sm_no) (
  kc_case (P := P) (kc_se rfl sm_no) (
  kc_case (P := P) (kc_se c_Tr_find_20 (sm_cv (j := 67) rfl rfl kw_o kw_g wc_Nm_levelsUnder (Nat.le_of_ble_eq_true rfl) hd_Nm_levelsUnder (ci := 5) (F := kF_Nm) (N := 3) rfl (kw2 130 rfl rfl) wi_Nm_levelsUnder ws_Nm_levelsUnder wn_Nm_levelsUnder d_Tr_find_20)) (
  kc_case (P := P) (kc_se rfl sm_no) (
  kc_case (P := P) (kc_se rfl sm_no) (
  kc_case (P := P) (kc_se c_Tr_find_17 (sm_get (ci := 4) (C := "DirectoryDesk$Entry") (F := kF_En) rfl kin_En (Nat.le_of_ble_eq_true rfl) d_Tr_find_17 (kw1 136 rfl rfl))) (
  kc_case (P := P) (kc_se c_Tr_find_16 (sm_aald d_Tr_find_16)) (
  kc_case (P := P) (kc_se c_Tr_find_15 (sm_iload_n d_Tr_find_15 rfl)) (
  kc_case (P := P) (kc_se rfl sm_no) (
  kc_case (P := P) (kc_se rfl sm_no) (
  kc_case (P := P) (kc_se c_Tr_find_12 (sm_get (ci := 3) (C := "DirectoryDesk$Tree") (F := kF_Tr) rfl kin_Tr (Nat.le_of_ble_eq_true rfl) d_Tr_find_12 (kw1 160 rfl rfl))) (
  kc_case (P := P) (kc_se c_Tr_find_11 (sm_aload_n d_Tr_find_11 rfl)) (
  kc_case (P := P) (kc_se c_Tr_find_10 (sm_aload_n d_Tr_find_10 rfl)) (
  kc_case (P := P) (kc_se rfl sm_no) (
  kc_case (P := P) (kc_se rfl sm_no) (
  kc_case (P := P) (kc_se c_Tr_find_7 (sm_cm_ge d_Tr_find_7 (by decide))) (
  kc_case (P := P) (kc_se rfl sm_no) (
  kc_case (P := P) (kc_se rfl sm_no) (
  kc_case (P := P) (kc_se c_Tr_find_4 (sm_get (ci := 3) (C := "DirectoryDesk$Tree") (F := kF_Tr) rfl kin_Tr (Nat.le_of_ble_eq_true rfl) d_Tr_find_4 (kw1 162 rfl rfl))) (
  kc_case (P := P) (kc_se c_Tr_find_3 (sm_aload_n d_Tr_find_3 rfl)) (
  kc_case (P := P) (kc_se c_Tr_find_2 (sm_iload_n d_Tr_find_2 rfl)) (
  kc_case (P := P) (kc_se c_Tr_find_1 (sm_istore_n d_Tr_find_1 rfl (Nat.le_of_ble_eq_true rfl))) (
  kc_case (P := P) (kc_se c_Tr_find_0 (sm_iconst d_Tr_find_0 (by decide))) (
  kc_case0)))))))))))))))))))))))))))))))))))))
theorem ka_nth_no_Tr_find (pc : Nat) (h : 37 ≤ pc) : ct_Tr_find pc = ka_no := ka_nth_ge _ pc (Nat.le_trans (Nat.le_of_eq (by rfl)) h)
theorem s_Tr_find (pc : Nat) : kc_Sim kt kw_A kw_N kt_cl kt_En "DirectoryDesk$Tree" prog_9_method_2_code 4 (some .int) "find" none pc (ct_Tr_find pc) := (Nat.lt_or_ge pc 37).elim (s_Tr_find_37 pc) (fun h => kc_se (ka_nth_no_Tr_find pc h) sm_no)
def cl_Tr_findNearestAbove_0 : List kc_A := [ka_ci (nI 1) 1, ka_is 2 1, ka_il 2 1, ka_al 1 1, ka_get 5 2, ka_no, ka_no, ka_cm (fun x y => y ≤ x) 30, ka_no, ka_no, ka_al 0 1, ka_al 1 1, ka_il 2 1, ka_cv 56 2 3 0 0, ka_no, ka_no, ka_is 3 1, ka_il 3 1, ka_ci (-1) 1, ka_cm (fun x y => x = y) 24, ka_no, ka_no, ka_il 3 1, ka_ri, ka_inc 2 (nI 1), ka_no, ka_no, ka_goto 2, ka_no, ka_no, ka_ci (-1) 1, ka_ri]
def ct_Tr_findNearestAbove : Nat → kc_A := fun pc => ka_nth (cl_Tr_findNearestAbove_0) pc
set_option maxRecDepth 100000 in
theorem c_Tr_findNearestAbove_0 : ct_Tr_findNearestAbove 0 = ka_ci (nI 1) 1 := rfl
theorem d_Tr_findNearestAbove_0 : decode prog_9_method_3_code 0 = .ok (.iconst 1, 1) := by decide +kernel
set_option maxRecDepth 100000 in
theorem c_Tr_findNearestAbove_1 : ct_Tr_findNearestAbove 1 = ka_is 2 1 := rfl
theorem d_Tr_findNearestAbove_1 : decode prog_9_method_3_code 1 = .ok (.istore_n 2, 1) := by decide +kernel
set_option maxRecDepth 100000 in
theorem c_Tr_findNearestAbove_2 : ct_Tr_findNearestAbove 2 = ka_il 2 1 := rfl
theorem d_Tr_findNearestAbove_2 : decode prog_9_method_3_code 2 = .ok (.iload_n 2, 1) := by decide +kernel
set_option maxRecDepth 100000 in
theorem c_Tr_findNearestAbove_3 : ct_Tr_findNearestAbove 3 = ka_al 1 1 := rfl
theorem d_Tr_findNearestAbove_3 : decode prog_9_method_3_code 3 = .ok (.aload_n 1, 1) := by decide +kernel
set_option maxRecDepth 100000 in
theorem c_Tr_findNearestAbove_4 : ct_Tr_findNearestAbove 4 = ka_get 5 2 := rfl
theorem d_Tr_findNearestAbove_4 : decode prog_9_method_3_code 4 = .ok (.getfield 49, 3) := by decide +kernel
set_option maxRecDepth 100000 in
theorem c_Tr_findNearestAbove_7 : ct_Tr_findNearestAbove 7 = ka_cm (fun x y => y ≤ x) 30 := rfl
theorem d_Tr_findNearestAbove_7 : decode prog_9_method_3_code 7 = .ok (.if_icmp .ge 23, 3) := by decide +kernel
set_option maxRecDepth 100000 in
theorem c_Tr_findNearestAbove_10 : ct_Tr_findNearestAbove 10 = ka_al 0 1 := rfl
theorem d_Tr_findNearestAbove_10 : decode prog_9_method_3_code 10 = .ok (.aload_n 0, 1) := by decide +kernel
set_option maxRecDepth 100000 in
theorem c_Tr_findNearestAbove_11 : ct_Tr_findNearestAbove 11 = ka_al 1 1 := rfl
theorem d_Tr_findNearestAbove_11 : decode prog_9_method_3_code 11 = .ok (.aload_n 1, 1) := by decide +kernel
set_option maxRecDepth 100000 in
theorem c_Tr_findNearestAbove_12 : ct_Tr_findNearestAbove 12 = ka_il 2 1 := rfl
theorem d_Tr_findNearestAbove_12 : decode prog_9_method_3_code 12 = .ok (.iload_n 2, 1) := by decide +kernel
set_option maxRecDepth 100000 in
theorem c_Tr_findNearestAbove_13 : ct_Tr_findNearestAbove 13 = ka_cv 56 2 3 0 0 := rfl
theorem d_Tr_findNearestAbove_13 : decode prog_9_method_3_code 13 = .ok (.invokevirtual 52, 3) := by decide +kernel
set_option maxRecDepth 100000 in
theorem c_Tr_findNearestAbove_16 : ct_Tr_findNearestAbove 16 = ka_is 3 1 := rfl
theorem d_Tr_findNearestAbove_16 : decode prog_9_method_3_code 16 = .ok (.istore_n 3, 1) := by decide +kernel
set_option maxRecDepth 100000 in
theorem c_Tr_findNearestAbove_17 : ct_Tr_findNearestAbove 17 = ka_il 3 1 := rfl
theorem d_Tr_findNearestAbove_17 : decode prog_9_method_3_code 17 = .ok (.iload_n 3, 1) := by decide +kernel
set_option maxRecDepth 100000 in
theorem c_Tr_findNearestAbove_18 : ct_Tr_findNearestAbove 18 = ka_ci (-1) 1 := rfl
theorem d_Tr_findNearestAbove_18 : decode prog_9_method_3_code 18 = .ok (.iconst (-1), 1) := by decide +kernel
set_option maxRecDepth 100000 in
theorem c_Tr_findNearestAbove_19 : ct_Tr_findNearestAbove 19 = ka_cm (fun x y => x = y) 24 := rfl
theorem d_Tr_findNearestAbove_19 : decode prog_9_method_3_code 19 = .ok (.if_icmp .eq 5, 3) := by decide +kernel
set_option maxRecDepth 100000 in
theorem c_Tr_findNearestAbove_22 : ct_Tr_findNearestAbove 22 = ka_il 3 1 := rfl
theorem d_Tr_findNearestAbove_22 : decode prog_9_method_3_code 22 = .ok (.iload_n 3, 1) := by decide +kernel
set_option maxRecDepth 100000 in
theorem c_Tr_findNearestAbove_23 : ct_Tr_findNearestAbove 23 = ka_ri := rfl
theorem d_Tr_findNearestAbove_23 : decode prog_9_method_3_code 23 = .ok (.ireturn, 1) := by decide +kernel
set_option maxRecDepth 100000 in
theorem c_Tr_findNearestAbove_24 : ct_Tr_findNearestAbove 24 = ka_inc 2 (nI 1) := rfl
theorem d_Tr_findNearestAbove_24 : decode prog_9_method_3_code 24 = .ok (.iinc 2 1, 3) := by decide +kernel
set_option maxRecDepth 100000 in
theorem c_Tr_findNearestAbove_27 : ct_Tr_findNearestAbove 27 = ka_goto 2 := rfl
theorem d_Tr_findNearestAbove_27 : decode prog_9_method_3_code 27 = .ok (.goto (-25), 3) := by decide +kernel
set_option maxRecDepth 100000 in
theorem c_Tr_findNearestAbove_30 : ct_Tr_findNearestAbove 30 = ka_ci (-1) 1 := rfl
theorem d_Tr_findNearestAbove_30 : decode prog_9_method_3_code 30 = .ok (.iconst (-1), 1) := by decide +kernel
set_option maxRecDepth 100000 in
theorem c_Tr_findNearestAbove_31 : ct_Tr_findNearestAbove 31 = ka_ri := rfl
theorem d_Tr_findNearestAbove_31 : decode prog_9_method_3_code 31 = .ok (.ireturn, 1) := by decide +kernel
set_option maxRecDepth 100000 in
set_option maxHeartbeats 4000000 in
theorem s_Tr_findNearestAbove_32 : ∀ pc, pc < 32 → kc_Sim kt kw_A kw_N kt_cl kt_En "DirectoryDesk$Tree" prog_9_method_3_code 4 (some .int) "findNearestAbove" none pc (ct_Tr_findNearestAbove pc) := by
  let P : Nat → Prop := fun pc => kc_Sim kt kw_A kw_N kt_cl kt_En "DirectoryDesk$Tree" prog_9_method_3_code 4 (some .int) "findNearestAbove" none pc (ct_Tr_findNearestAbove pc)
  exact kc_case (P := P) (kc_se c_Tr_findNearestAbove_31 (sm_ri d_Tr_findNearestAbove_31 rfl)) (
  kc_case (P := P) (kc_se c_Tr_findNearestAbove_30 (sm_iconst d_Tr_findNearestAbove_30 (by decide))) (
  kc_case (P := P) (kc_se rfl sm_no) (
  kc_case (P := P) (kc_se rfl sm_no) (
  kc_case (P := P) (kc_se c_Tr_findNearestAbove_27 (sm_goto d_Tr_findNearestAbove_27 (by decide))) (
  kc_case (P := P) (kc_se rfl sm_no) (
  kc_case (P := P) (kc_se rfl sm_no) (
  kc_case (P := P) (kc_se c_Tr_findNearestAbove_24 (sm_inc d_Tr_findNearestAbove_24 (by decide) (Nat.le_of_ble_eq_true rfl))) (
  kc_case (P := P) (kc_se c_Tr_findNearestAbove_23 (sm_ri d_Tr_findNearestAbove_23 rfl)) (
  kc_case (P := P) (kc_se c_Tr_findNearestAbove_22 (sm_iload_n d_Tr_findNearestAbove_22 rfl)) (
  kc_case (P := P) (kc_se rfl sm_no) (
  kc_case (P := P) (kc_se rfl sm_no) (
  kc_case (P := P) (kc_se c_Tr_findNearestAbove_19 (sm_cm_eq d_Tr_findNearestAbove_19 (by decide))) (
  kc_case (P := P) (kc_se c_Tr_findNearestAbove_18 (sm_iconst d_Tr_findNearestAbove_18 (by decide))) (
  kc_case (P := P) (kc_se c_Tr_findNearestAbove_17 (sm_iload_n d_Tr_findNearestAbove_17 rfl)) (
  kc_case (P := P) (kc_se c_Tr_findNearestAbove_16 (sm_istore_n d_Tr_findNearestAbove_16 rfl (Nat.le_of_ble_eq_true rfl))) (
  kc_case (P := P) (kc_se rfl sm_no) (
  kc_case (P := P) (kc_se rfl sm_no) (
  kc_case (P := P) (kc_se c_Tr_findNearestAbove_13 (sm_cv (j := 56) rfl rfl kw_o kw_g wc_Tr_find (Nat.le_of_ble_eq_true rfl) hd_Tr_find (ci := 3) (F := kF_Tr) (N := 2) rfl (kw3 137 rfl rfl) wi_Tr_find ws_Tr_find wn_Tr_find d_Tr_findNearestAbove_13)) (
  kc_case (P := P) (kc_se c_Tr_findNearestAbove_12 (sm_iload_n d_Tr_findNearestAbove_12 rfl)) (
  kc_case (P := P) (kc_se c_Tr_findNearestAbove_11 (sm_aload_n d_Tr_findNearestAbove_11 rfl)) (
  kc_case (P := P) (kc_se c_Tr_findNearestAbove_10 (sm_aload_n d_Tr_findNearestAbove_10 rfl)) (
  kc_case (P := P) (kc_se rfl sm_no) (
  kc_case (P := P) (kc_se rfl sm_no) (
  kc_case (P := P) (kc_se c_Tr_findNearestAbove_7 (sm_cm_ge d_Tr_findNearestAbove_7 (by decide))) (
  kc_case (P := P) (kc_se rfl sm_no) (
  kc_case (P := P) (kc_se rfl sm_no) (
  kc_case (P := P) (kc_se c_Tr_findNearestAbove_4 (sm_get (ci := 5) (C := "DirectoryDesk$Name") (F := kF_Nm) rfl kin_Nm (Nat.le_of_ble_eq_true rfl) d_Tr_findNearestAbove_4 (kw1 104 rfl rfl))) (
  kc_case (P := P) (kc_se c_Tr_findNearestAbove_3 (sm_aload_n d_Tr_findNearestAbove_3 rfl)) (
  kc_case (P := P) (kc_se c_Tr_findNearestAbove_2 (sm_iload_n d_Tr_findNearestAbove_2 rfl)) (
  kc_case (P := P) (kc_se c_Tr_findNearestAbove_1 (sm_istore_n d_Tr_findNearestAbove_1 rfl (Nat.le_of_ble_eq_true rfl))) (
  kc_case (P := P) (kc_se c_Tr_findNearestAbove_0 (sm_iconst d_Tr_findNearestAbove_0 (by decide))) (
  kc_case0))))))))))))))))))))))))))))))))
theorem ka_nth_no_Tr_findNearestAbove (pc : Nat) (h : 32 ≤ pc) : ct_Tr_findNearestAbove pc = ka_no := ka_nth_ge _ pc (Nat.le_trans (Nat.le_of_eq (by rfl)) h)
theorem s_Tr_findNearestAbove (pc : Nat) : kc_Sim kt kw_A kw_N kt_cl kt_En "DirectoryDesk$Tree" prog_9_method_3_code 4 (some .int) "findNearestAbove" none pc (ct_Tr_findNearestAbove pc) := (Nat.lt_or_ge pc 32).elim (s_Tr_findNearestAbove_32 pc) (fun h => kc_se (ka_nth_no_Tr_findNearestAbove pc h) sm_no)
def cl_Tr_hasChildOf_0 : List kc_A := [ka_ci (nI 0) 1, ka_is 2 1, ka_il 2 1, ka_al 0 1, ka_get 3 1, ka_no, ka_no, ka_cm (fun x y => y ≤ x) 35, ka_no, ka_no, ka_al 0 1, ka_get 3 0, ka_no, ka_no, ka_il 2 1, ka_aald, ka_get 4 0, ka_no, ka_no, ka_al 1 1, ka_cv 67 1 5 0 0, ka_no, ka_no, ka_ci (nI 1) 1, ka_cm (fun x y => ¬ x = y) 29, ka_no, ka_no, ka_ci (nI 1) 1, ka_rz, ka_inc 2 (nI 1), ka_no, ka_no, ka_goto 2, ka_no, ka_no, ka_ci (nI 0) 1, ka_rz]
def ct_Tr_hasChildOf : Nat → kc_A := fun pc => ka_nth (cl_Tr_hasChildOf_0) pc
set_option maxRecDepth 100000 in
theorem c_Tr_hasChildOf_0 : ct_Tr_hasChildOf 0 = ka_ci (nI 0) 1 := rfl
theorem d_Tr_hasChildOf_0 : decode prog_9_method_4_code 0 = .ok (.iconst 0, 1) := by decide +kernel
set_option maxRecDepth 100000 in
theorem c_Tr_hasChildOf_1 : ct_Tr_hasChildOf 1 = ka_is 2 1 := rfl
theorem d_Tr_hasChildOf_1 : decode prog_9_method_4_code 1 = .ok (.istore_n 2, 1) := by decide +kernel
set_option maxRecDepth 100000 in
theorem c_Tr_hasChildOf_2 : ct_Tr_hasChildOf 2 = ka_il 2 1 := rfl
theorem d_Tr_hasChildOf_2 : decode prog_9_method_4_code 2 = .ok (.iload_n 2, 1) := by decide +kernel
set_option maxRecDepth 100000 in
theorem c_Tr_hasChildOf_3 : ct_Tr_hasChildOf 3 = ka_al 0 1 := rfl
theorem d_Tr_hasChildOf_3 : decode prog_9_method_4_code 3 = .ok (.aload_n 0, 1) := by decide +kernel
set_option maxRecDepth 100000 in
theorem c_Tr_hasChildOf_4 : ct_Tr_hasChildOf 4 = ka_get 3 1 := rfl
theorem d_Tr_hasChildOf_4 : decode prog_9_method_4_code 4 = .ok (.getfield 41, 3) := by decide +kernel
set_option maxRecDepth 100000 in
theorem c_Tr_hasChildOf_7 : ct_Tr_hasChildOf 7 = ka_cm (fun x y => y ≤ x) 35 := rfl
theorem d_Tr_hasChildOf_7 : decode prog_9_method_4_code 7 = .ok (.if_icmp .ge 28, 3) := by decide +kernel
set_option maxRecDepth 100000 in
theorem c_Tr_hasChildOf_10 : ct_Tr_hasChildOf 10 = ka_al 0 1 := rfl
theorem d_Tr_hasChildOf_10 : decode prog_9_method_4_code 10 = .ok (.aload_n 0, 1) := by decide +kernel
set_option maxRecDepth 100000 in
theorem c_Tr_hasChildOf_11 : ct_Tr_hasChildOf 11 = ka_get 3 0 := rfl
theorem d_Tr_hasChildOf_11 : decode prog_9_method_4_code 11 = .ok (.getfield 11, 3) := by decide +kernel
set_option maxRecDepth 100000 in
theorem c_Tr_hasChildOf_14 : ct_Tr_hasChildOf 14 = ka_il 2 1 := rfl
theorem d_Tr_hasChildOf_14 : decode prog_9_method_4_code 14 = .ok (.iload_n 2, 1) := by decide +kernel
set_option maxRecDepth 100000 in
theorem c_Tr_hasChildOf_15 : ct_Tr_hasChildOf 15 = ka_aald := rfl
theorem d_Tr_hasChildOf_15 : decode prog_9_method_4_code 15 = .ok (.aaload, 1) := by decide +kernel
set_option maxRecDepth 100000 in
theorem c_Tr_hasChildOf_16 : ct_Tr_hasChildOf 16 = ka_get 4 0 := rfl
theorem d_Tr_hasChildOf_16 : decode prog_9_method_4_code 16 = .ok (.getfield 20, 3) := by decide +kernel
set_option maxRecDepth 100000 in
theorem c_Tr_hasChildOf_19 : ct_Tr_hasChildOf 19 = ka_al 1 1 := rfl
theorem d_Tr_hasChildOf_19 : decode prog_9_method_4_code 19 = .ok (.aload_n 1, 1) := by decide +kernel
set_option maxRecDepth 100000 in
theorem c_Tr_hasChildOf_20 : ct_Tr_hasChildOf 20 = ka_cv 67 1 5 0 0 := rfl
theorem d_Tr_hasChildOf_20 : decode prog_9_method_4_code 20 = .ok (.invokevirtual 45, 3) := by decide +kernel
set_option maxRecDepth 100000 in
theorem c_Tr_hasChildOf_23 : ct_Tr_hasChildOf 23 = ka_ci (nI 1) 1 := rfl
theorem d_Tr_hasChildOf_23 : decode prog_9_method_4_code 23 = .ok (.iconst 1, 1) := by decide +kernel
set_option maxRecDepth 100000 in
theorem c_Tr_hasChildOf_24 : ct_Tr_hasChildOf 24 = ka_cm (fun x y => ¬ x = y) 29 := rfl
theorem d_Tr_hasChildOf_24 : decode prog_9_method_4_code 24 = .ok (.if_icmp .ne 5, 3) := by decide +kernel
set_option maxRecDepth 100000 in
theorem c_Tr_hasChildOf_27 : ct_Tr_hasChildOf 27 = ka_ci (nI 1) 1 := rfl
theorem d_Tr_hasChildOf_27 : decode prog_9_method_4_code 27 = .ok (.iconst 1, 1) := by decide +kernel
set_option maxRecDepth 100000 in
theorem c_Tr_hasChildOf_28 : ct_Tr_hasChildOf 28 = ka_rz := rfl
theorem d_Tr_hasChildOf_28 : decode prog_9_method_4_code 28 = .ok (.ireturn, 1) := by decide +kernel
set_option maxRecDepth 100000 in
theorem c_Tr_hasChildOf_29 : ct_Tr_hasChildOf 29 = ka_inc 2 (nI 1) := rfl
theorem d_Tr_hasChildOf_29 : decode prog_9_method_4_code 29 = .ok (.iinc 2 1, 3) := by decide +kernel
set_option maxRecDepth 100000 in
theorem c_Tr_hasChildOf_32 : ct_Tr_hasChildOf 32 = ka_goto 2 := rfl
theorem d_Tr_hasChildOf_32 : decode prog_9_method_4_code 32 = .ok (.goto (-30), 3) := by decide +kernel
set_option maxRecDepth 100000 in
theorem c_Tr_hasChildOf_35 : ct_Tr_hasChildOf 35 = ka_ci (nI 0) 1 := rfl
theorem d_Tr_hasChildOf_35 : decode prog_9_method_4_code 35 = .ok (.iconst 0, 1) := by decide +kernel
set_option maxRecDepth 100000 in
theorem c_Tr_hasChildOf_36 : ct_Tr_hasChildOf 36 = ka_rz := rfl
theorem d_Tr_hasChildOf_36 : decode prog_9_method_4_code 36 = .ok (.ireturn, 1) := by decide +kernel
set_option maxRecDepth 100000 in
set_option maxHeartbeats 4000000 in
theorem s_Tr_hasChildOf_37 : ∀ pc, pc < 37 → kc_Sim kt kw_A kw_N kt_cl kt_En "DirectoryDesk$Tree" prog_9_method_4_code 3 (some .boolean) "hasChildOf" none pc (ct_Tr_hasChildOf pc) := by
  let P : Nat → Prop := fun pc => kc_Sim kt kw_A kw_N kt_cl kt_En "DirectoryDesk$Tree" prog_9_method_4_code 3 (some .boolean) "hasChildOf" none pc (ct_Tr_hasChildOf pc)
  exact kc_case (P := P) (kc_se c_Tr_hasChildOf_36 (sm_rz d_Tr_hasChildOf_36 rfl)) (
  kc_case (P := P) (kc_se c_Tr_hasChildOf_35 (sm_iconst d_Tr_hasChildOf_35 (by decide))) (
  kc_case (P := P) (kc_se rfl sm_no) (
  kc_case (P := P) (kc_se rfl sm_no) (
  kc_case (P := P) (kc_se c_Tr_hasChildOf_32 (sm_goto d_Tr_hasChildOf_32 (by decide))) (
  kc_case (P := P) (kc_se rfl sm_no) (
  kc_case (P := P) (kc_se rfl sm_no) (
  kc_case (P := P) (kc_se c_Tr_hasChildOf_29 (sm_inc d_Tr_hasChildOf_29 (by decide) (Nat.le_of_ble_eq_true rfl))) (
  kc_case (P := P) (kc_se c_Tr_hasChildOf_28 (sm_rz d_Tr_hasChildOf_28 rfl)) (
  kc_case (P := P) (kc_se c_Tr_hasChildOf_27 (sm_iconst d_Tr_hasChildOf_27 (by decide))) (
  kc_case (P := P) (kc_se rfl sm_no) (
  kc_case (P := P) (kc_se rfl sm_no) (
  kc_case (P := P) (kc_se c_Tr_hasChildOf_24 (sm_cm_ne d_Tr_hasChildOf_24 (by decide))) (
  kc_case (P := P) (kc_se c_Tr_hasChildOf_23 (sm_iconst d_Tr_hasChildOf_23 (by decide))) (
  kc_case (P := P) (kc_se rfl sm_no) (
  kc_case (P := P) (kc_se rfl sm_no) (
  kc_case (P := P) (kc_se c_Tr_hasChildOf_20 (sm_cv (j := 67) rfl rfl kw_o kw_g wc_Nm_levelsUnder (Nat.le_of_ble_eq_true rfl) hd_Nm_levelsUnder (ci := 5) (F := kF_Nm) (N := 3) rfl (kw2 130 rfl rfl) wi_Nm_levelsUnder ws_Nm_levelsUnder wn_Nm_levelsUnder d_Tr_hasChildOf_20)) (
  kc_case (P := P) (kc_se c_Tr_hasChildOf_19 (sm_aload_n d_Tr_hasChildOf_19 rfl)) (
  kc_case (P := P) (kc_se rfl sm_no) (
  kc_case (P := P) (kc_se rfl sm_no) (
  kc_case (P := P) (kc_se c_Tr_hasChildOf_16 (sm_get (ci := 4) (C := "DirectoryDesk$Entry") (F := kF_En) rfl kin_En (Nat.le_of_ble_eq_true rfl) d_Tr_hasChildOf_16 (kw1 136 rfl rfl))) (
  kc_case (P := P) (kc_se c_Tr_hasChildOf_15 (sm_aald d_Tr_hasChildOf_15)) (
  kc_case (P := P) (kc_se c_Tr_hasChildOf_14 (sm_iload_n d_Tr_hasChildOf_14 rfl)) (
  kc_case (P := P) (kc_se rfl sm_no) (
  kc_case (P := P) (kc_se rfl sm_no) (
  kc_case (P := P) (kc_se c_Tr_hasChildOf_11 (sm_get (ci := 3) (C := "DirectoryDesk$Tree") (F := kF_Tr) rfl kin_Tr (Nat.le_of_ble_eq_true rfl) d_Tr_hasChildOf_11 (kw1 160 rfl rfl))) (
  kc_case (P := P) (kc_se c_Tr_hasChildOf_10 (sm_aload_n d_Tr_hasChildOf_10 rfl)) (
  kc_case (P := P) (kc_se rfl sm_no) (
  kc_case (P := P) (kc_se rfl sm_no) (
  kc_case (P := P) (kc_se c_Tr_hasChildOf_7 (sm_cm_ge d_Tr_hasChildOf_7 (by decide))) (
  kc_case (P := P) (kc_se rfl sm_no) (
  kc_case (P := P) (kc_se rfl sm_no) (
  kc_case (P := P) (kc_se c_Tr_hasChildOf_4 (sm_get (ci := 3) (C := "DirectoryDesk$Tree") (F := kF_Tr) rfl kin_Tr (Nat.le_of_ble_eq_true rfl) d_Tr_hasChildOf_4 (kw1 162 rfl rfl))) (
  kc_case (P := P) (kc_se c_Tr_hasChildOf_3 (sm_aload_n d_Tr_hasChildOf_3 rfl)) (
  kc_case (P := P) (kc_se c_Tr_hasChildOf_2 (sm_iload_n d_Tr_hasChildOf_2 rfl)) (
  kc_case (P := P) (kc_se c_Tr_hasChildOf_1 (sm_istore_n d_Tr_hasChildOf_1 rfl (Nat.le_of_ble_eq_true rfl))) (
  kc_case (P := P) (kc_se c_Tr_hasChildOf_0 (sm_iconst d_Tr_hasChildOf_0 (by decide))) (
  kc_case0)))))))))))))))))))))))))))))))))))))
theorem ka_nth_no_Tr_hasChildOf (pc : Nat) (h : 37 ≤ pc) : ct_Tr_hasChildOf pc = ka_no := ka_nth_ge _ pc (Nat.le_trans (Nat.le_of_eq (by rfl)) h)
theorem s_Tr_hasChildOf (pc : Nat) : kc_Sim kt kw_A kw_N kt_cl kt_En "DirectoryDesk$Tree" prog_9_method_4_code 3 (some .boolean) "hasChildOf" none pc (ct_Tr_hasChildOf pc) := (Nat.lt_or_ge pc 37).elim (s_Tr_hasChildOf_37 pc) (fun h => kc_se (ka_nth_no_Tr_hasChildOf pc h) sm_no)
def cl_Tr_append_0 : List kc_A := [ka_al 0 1, ka_get 3 1, ka_no, ka_no, ka_ci (nI 16) 2, ka_no, ka_cm (fun x y => y ≤ x) 51, ka_no, ka_no, ka_al 0 1, ka_get 3 0, ka_no, ka_no, ka_al 0 1, ka_get 3 1, ka_no, ka_no, ka_aald, ka_get 4 0, ka_no, ka_no, ka_al 1 1, ka_cv 66 1 5 0 0, ka_no, ka_no, ka_al 0 1, ka_get 3 0, ka_no, ka_no, ka_al 0 1, ka_get 3 1, ka_no, ka_no, ka_aald, ka_get 4 1, ka_no, ka_no, ka_al 2 1, ka_cv 75 1 6 0 0, ka_no, ka_no, ka_al 0 1, ka_dup, ka_get 3 1, ka_no, ka_no, ka_ci (nI 1) 1, ka_ii (fun x y => x + y), ka_put 3 1 .int, ka_no, ka_no, ka_ret]
def ct_Tr_append : Nat → kc_A := fun pc => ka_nth (cl_Tr_append_0) pc
set_option maxRecDepth 100000 in
theorem c_Tr_append_0 : ct_Tr_append 0 = ka_al 0 1 := rfl
theorem d_Tr_append_0 : decode prog_9_method_5_code 0 = .ok (.aload_n 0, 1) := by decide +kernel
set_option maxRecDepth 100000 in
theorem c_Tr_append_1 : ct_Tr_append 1 = ka_get 3 1 := rfl
theorem d_Tr_append_1 : decode prog_9_method_5_code 1 = .ok (.getfield 41, 3) := by decide +kernel
set_option maxRecDepth 100000 in
theorem c_Tr_append_4 : ct_Tr_append 4 = ka_ci (nI 16) 2 := rfl
theorem d_Tr_append_4 : decode prog_9_method_5_code 4 = .ok (.bipush 16, 2) := by decide +kernel
set_option maxRecDepth 100000 in
theorem c_Tr_append_6 : ct_Tr_append 6 = ka_cm (fun x y => y ≤ x) 51 := rfl
theorem d_Tr_append_6 : decode prog_9_method_5_code 6 = .ok (.if_icmp .ge 45, 3) := by decide +kernel
set_option maxRecDepth 100000 in
theorem c_Tr_append_9 : ct_Tr_append 9 = ka_al 0 1 := rfl
theorem d_Tr_append_9 : decode prog_9_method_5_code 9 = .ok (.aload_n 0, 1) := by decide +kernel
set_option maxRecDepth 100000 in
theorem c_Tr_append_10 : ct_Tr_append 10 = ka_get 3 0 := rfl
theorem d_Tr_append_10 : decode prog_9_method_5_code 10 = .ok (.getfield 11, 3) := by decide +kernel
set_option maxRecDepth 100000 in
theorem c_Tr_append_13 : ct_Tr_append 13 = ka_al 0 1 := rfl
theorem d_Tr_append_13 : decode prog_9_method_5_code 13 = .ok (.aload_n 0, 1) := by decide +kernel
set_option maxRecDepth 100000 in
theorem c_Tr_append_14 : ct_Tr_append 14 = ka_get 3 1 := rfl
theorem d_Tr_append_14 : decode prog_9_method_5_code 14 = .ok (.getfield 41, 3) := by decide +kernel
set_option maxRecDepth 100000 in
theorem c_Tr_append_17 : ct_Tr_append 17 = ka_aald := rfl
theorem d_Tr_append_17 : decode prog_9_method_5_code 17 = .ok (.aaload, 1) := by decide +kernel
set_option maxRecDepth 100000 in
theorem c_Tr_append_18 : ct_Tr_append 18 = ka_get 4 0 := rfl
theorem d_Tr_append_18 : decode prog_9_method_5_code 18 = .ok (.getfield 20, 3) := by decide +kernel
set_option maxRecDepth 100000 in
theorem c_Tr_append_21 : ct_Tr_append 21 = ka_al 1 1 := rfl
theorem d_Tr_append_21 : decode prog_9_method_5_code 21 = .ok (.aload_n 1, 1) := by decide +kernel
set_option maxRecDepth 100000 in
theorem c_Tr_append_22 : ct_Tr_append 22 = ka_cv 66 1 5 0 0 := rfl
theorem d_Tr_append_22 : decode prog_9_method_5_code 22 = .ok (.invokevirtual 56, 3) := by decide +kernel
set_option maxRecDepth 100000 in
theorem c_Tr_append_25 : ct_Tr_append 25 = ka_al 0 1 := rfl
theorem d_Tr_append_25 : decode prog_9_method_5_code 25 = .ok (.aload_n 0, 1) := by decide +kernel
set_option maxRecDepth 100000 in
theorem c_Tr_append_26 : ct_Tr_append 26 = ka_get 3 0 := rfl
theorem d_Tr_append_26 : decode prog_9_method_5_code 26 = .ok (.getfield 11, 3) := by decide +kernel
set_option maxRecDepth 100000 in
theorem c_Tr_append_29 : ct_Tr_append 29 = ka_al 0 1 := rfl
theorem d_Tr_append_29 : decode prog_9_method_5_code 29 = .ok (.aload_n 0, 1) := by decide +kernel
set_option maxRecDepth 100000 in
theorem c_Tr_append_30 : ct_Tr_append 30 = ka_get 3 1 := rfl
theorem d_Tr_append_30 : decode prog_9_method_5_code 30 = .ok (.getfield 41, 3) := by decide +kernel
set_option maxRecDepth 100000 in
theorem c_Tr_append_33 : ct_Tr_append 33 = ka_aald := rfl
theorem d_Tr_append_33 : decode prog_9_method_5_code 33 = .ok (.aaload, 1) := by decide +kernel
set_option maxRecDepth 100000 in
theorem c_Tr_append_34 : ct_Tr_append 34 = ka_get 4 1 := rfl
theorem d_Tr_append_34 : decode prog_9_method_5_code 34 = .ok (.getfield 30, 3) := by decide +kernel
set_option maxRecDepth 100000 in
theorem c_Tr_append_37 : ct_Tr_append 37 = ka_al 2 1 := rfl
theorem d_Tr_append_37 : decode prog_9_method_5_code 37 = .ok (.aload_n 2, 1) := by decide +kernel
set_option maxRecDepth 100000 in
theorem c_Tr_append_38 : ct_Tr_append 38 = ka_cv 75 1 6 0 0 := rfl
theorem d_Tr_append_38 : decode prog_9_method_5_code 38 = .ok (.invokevirtual 60, 3) := by decide +kernel
set_option maxRecDepth 100000 in
theorem c_Tr_append_41 : ct_Tr_append 41 = ka_al 0 1 := rfl
theorem d_Tr_append_41 : decode prog_9_method_5_code 41 = .ok (.aload_n 0, 1) := by decide +kernel
set_option maxRecDepth 100000 in
theorem c_Tr_append_42 : ct_Tr_append 42 = ka_dup := rfl
theorem d_Tr_append_42 : decode prog_9_method_5_code 42 = .ok (.dup, 1) := by decide +kernel
set_option maxRecDepth 100000 in
theorem c_Tr_append_43 : ct_Tr_append 43 = ka_get 3 1 := rfl
theorem d_Tr_append_43 : decode prog_9_method_5_code 43 = .ok (.getfield 41, 3) := by decide +kernel
set_option maxRecDepth 100000 in
theorem c_Tr_append_46 : ct_Tr_append 46 = ka_ci (nI 1) 1 := rfl
theorem d_Tr_append_46 : decode prog_9_method_5_code 46 = .ok (.iconst 1, 1) := by decide +kernel
set_option maxRecDepth 100000 in
theorem c_Tr_append_47 : ct_Tr_append 47 = ka_ii (fun x y => x + y) := rfl
theorem d_Tr_append_47 : decode prog_9_method_5_code 47 = .ok (.iadd, 1) := by decide +kernel
set_option maxRecDepth 100000 in
theorem c_Tr_append_48 : ct_Tr_append 48 = ka_put 3 1 .int := rfl
theorem d_Tr_append_48 : decode prog_9_method_5_code 48 = .ok (.putfield 41, 3) := by decide +kernel
set_option maxRecDepth 100000 in
theorem c_Tr_append_51 : ct_Tr_append 51 = ka_ret := rfl
theorem d_Tr_append_51 : decode prog_9_method_5_code 51 = .ok (.return_, 1) := by decide +kernel
set_option maxRecDepth 100000 in
set_option maxHeartbeats 4000000 in
theorem s_Tr_append_52 : ∀ pc, pc < 52 → kc_Sim kt kw_A kw_N kt_cl kt_En "DirectoryDesk$Tree" prog_9_method_5_code 3 (none) "append" none pc (ct_Tr_append pc) := by
  let P : Nat → Prop := fun pc => kc_Sim kt kw_A kw_N kt_cl kt_En "DirectoryDesk$Tree" prog_9_method_5_code 3 (none) "append" none pc (ct_Tr_append pc)
  exact kc_case (P := P) (kc_se c_Tr_append_51 (sm_ret d_Tr_append_51 rfl)) (
  kc_case (P := P) (kc_se rfl sm_no) (
  kc_case (P := P) (kc_se rfl sm_no) (
  kc_case (P := P) (kc_se c_Tr_append_48 (sm_put (ci := 3) (C := "DirectoryDesk$Tree") (F := kF_Tr) rfl kin_Tr kty_Tr ktk_Tr knm_Tr (Nat.le_of_ble_eq_true rfl) (by decide +kernel) d_Tr_append_48 (kw1 162 rfl rfl) rfl)) (
  kc_case (P := P) (kc_se c_Tr_append_47 (sm_iadd d_Tr_append_47)) (
  kc_case (P := P) (kc_se c_Tr_append_46 (sm_iconst d_Tr_append_46 (by decide))) (
  kc_case (P := P) (kc_se rfl sm_no) (
  kc_case (P := P) (kc_se rfl sm_no) (
  kc_case (P := P) (kc_se c_Tr_append_43 (sm_get (ci := 3) (C := "DirectoryDesk$Tree") (F := kF_Tr) rfl kin_Tr (Nat.le_of_ble_eq_true rfl) d_Tr_append_43 (kw1 162 rfl rfl))) (
  kc_case (P := P) (kc_se c_Tr_append_42 (sm_dup d_Tr_append_42)) (
  kc_case (P := P) (kc_se c_Tr_append_41 (sm_aload_n d_Tr_append_41 rfl)) (
  kc_case (P := P) (kc_se rfl sm_no) (
  kc_case (P := P) (kc_se rfl sm_no) (
  kc_case (P := P) (kc_se c_Tr_append_38 (sm_cv (j := 75) rfl rfl kw_o kw_g wc_Pa_copyFrom (Nat.le_of_ble_eq_true rfl) hd_Pa_copyFrom (ci := 6) (F := kF_Pa) (N := 3) rfl (kw3 114 rfl rfl) wi_Pa_copyFrom ws_Pa_copyFrom wn_Pa_copyFrom d_Tr_append_38)) (
  kc_case (P := P) (kc_se c_Tr_append_37 (sm_aload_n d_Tr_append_37 rfl)) (
  kc_case (P := P) (kc_se rfl sm_no) (
  kc_case (P := P) (kc_se rfl sm_no) (
  kc_case (P := P) (kc_se c_Tr_append_34 (sm_get (ci := 4) (C := "DirectoryDesk$Entry") (F := kF_En) rfl kin_En (Nat.le_of_ble_eq_true rfl) d_Tr_append_34 (kw1 139 rfl rfl))) (
  kc_case (P := P) (kc_se c_Tr_append_33 (sm_aald d_Tr_append_33)) (
  kc_case (P := P) (kc_se rfl sm_no) (
  kc_case (P := P) (kc_se rfl sm_no) (
  kc_case (P := P) (kc_se c_Tr_append_30 (sm_get (ci := 3) (C := "DirectoryDesk$Tree") (F := kF_Tr) rfl kin_Tr (Nat.le_of_ble_eq_true rfl) d_Tr_append_30 (kw1 162 rfl rfl))) (
  kc_case (P := P) (kc_se c_Tr_append_29 (sm_aload_n d_Tr_append_29 rfl)) (
  kc_case (P := P) (kc_se rfl sm_no) (
  kc_case (P := P) (kc_se rfl sm_no) (
  kc_case (P := P) (kc_se c_Tr_append_26 (sm_get (ci := 3) (C := "DirectoryDesk$Tree") (F := kF_Tr) rfl kin_Tr (Nat.le_of_ble_eq_true rfl) d_Tr_append_26 (kw1 160 rfl rfl))) (
  kc_case (P := P) (kc_se c_Tr_append_25 (sm_aload_n d_Tr_append_25 rfl)) (
  kc_case (P := P) (kc_se rfl sm_no) (
  kc_case (P := P) (kc_se rfl sm_no) (
  kc_case (P := P) (kc_se c_Tr_append_22 (sm_cv (j := 66) rfl rfl kw_o kw_g wc_Nm_copyFrom (Nat.le_of_ble_eq_true rfl) hd_Nm_copyFrom (ci := 5) (F := kF_Nm) (N := 3) rfl (kw3 109 rfl rfl) wi_Nm_copyFrom ws_Nm_copyFrom wn_Nm_copyFrom d_Tr_append_22)) (
  kc_case (P := P) (kc_se c_Tr_append_21 (sm_aload_n d_Tr_append_21 rfl)) (
  kc_case (P := P) (kc_se rfl sm_no) (
  kc_case (P := P) (kc_se rfl sm_no) (
  kc_case (P := P) (kc_se c_Tr_append_18 (sm_get (ci := 4) (C := "DirectoryDesk$Entry") (F := kF_En) rfl kin_En (Nat.le_of_ble_eq_true rfl) d_Tr_append_18 (kw1 136 rfl rfl))) (
  kc_case (P := P) (kc_se c_Tr_append_17 (sm_aald d_Tr_append_17)) (
  kc_case (P := P) (kc_se rfl sm_no) (
  kc_case (P := P) (kc_se rfl sm_no) (
  kc_case (P := P) (kc_se c_Tr_append_14 (sm_get (ci := 3) (C := "DirectoryDesk$Tree") (F := kF_Tr) rfl kin_Tr (Nat.le_of_ble_eq_true rfl) d_Tr_append_14 (kw1 162 rfl rfl))) (
  kc_case (P := P) (kc_se c_Tr_append_13 (sm_aload_n d_Tr_append_13 rfl)) (
  kc_case (P := P) (kc_se rfl sm_no) (
  kc_case (P := P) (kc_se rfl sm_no) (
  kc_case (P := P) (kc_se c_Tr_append_10 (sm_get (ci := 3) (C := "DirectoryDesk$Tree") (F := kF_Tr) rfl kin_Tr (Nat.le_of_ble_eq_true rfl) d_Tr_append_10 (kw1 160 rfl rfl))) (
  kc_case (P := P) (kc_se c_Tr_append_9 (sm_aload_n d_Tr_append_9 rfl)) (
  kc_case (P := P) (kc_se rfl sm_no) (
  kc_case (P := P) (kc_se rfl sm_no) (
  kc_case (P := P) (kc_se c_Tr_append_6 (sm_cm_ge d_Tr_append_6 (by decide))) (
  kc_case (P := P) (kc_se rfl sm_no) (
  kc_case (P := P) (kc_se c_Tr_append_4 (sm_bipush d_Tr_append_4 (by decide))) (
  kc_case (P := P) (kc_se rfl sm_no) (
  kc_case (P := P) (kc_se rfl sm_no) (
  kc_case (P := P) (kc_se c_Tr_append_1 (sm_get (ci := 3) (C := "DirectoryDesk$Tree") (F := kF_Tr) rfl kin_Tr (Nat.le_of_ble_eq_true rfl) d_Tr_append_1 (kw1 162 rfl rfl))) (
  kc_case (P := P) (kc_se c_Tr_append_0 (sm_aload_n d_Tr_append_0 rfl)) (
  kc_case0))))))))))))))))))))))))))))))))))))))))))))))))))))
theorem ka_nth_no_Tr_append (pc : Nat) (h : 52 ≤ pc) : ct_Tr_append pc = ka_no := ka_nth_ge _ pc (Nat.le_trans (Nat.le_of_eq (by rfl)) h)
theorem s_Tr_append (pc : Nat) : kc_Sim kt kw_A kw_N kt_cl kt_En "DirectoryDesk$Tree" prog_9_method_5_code 3 (none) "append" none pc (ct_Tr_append pc) := (Nat.lt_or_ge pc 52).elim (s_Tr_append_52 pc) (fun h => kc_se (ka_nth_no_Tr_append pc h) sm_no)
def cl_Tr_removeAt_0 : List kc_A := [ka_il 1 1, ka_if (fun x => x < 0) 12, ka_no, ka_no, ka_il 1 1, ka_al 0 1, ka_get 3 1, ka_no, ka_no, ka_cm (fun x y => x < y) 13, ka_no, ka_no, ka_ret, ka_al 0 1, ka_get 3 0, ka_no, ka_no, ka_il 1 1, ka_aald, ka_as 2 1, ka_il 1 1, ka_is 3 1, ka_il 3 1, ka_al 0 1, ka_get 3 1, ka_no, ka_no, ka_ci (nI 1) 1, ka_ii (fun x y => x - y), ka_cm (fun x y => y ≤ x) 52, ka_no, ka_no, ka_al 0 1, ka_get 3 0, ka_no, ka_no, ka_il 3 1, ka_al 0 1, ka_get 3 0, ka_no, ka_no, ka_il 3 1, ka_ci (nI 1) 1, ka_ii (fun x y => x + y), ka_aald, ka_aast 4, ka_inc 3 (nI 1), ka_no, ka_no, ka_goto 22, ka_no, ka_no, ka_al 0 1, ka_get 3 0, ka_no, ka_no, ka_al 0 1, ka_get 3 1, ka_no, ka_no]
def cl_Tr_removeAt_1 : List kc_A := [ka_ci (nI 1) 1, ka_ii (fun x y => x - y), ka_al 2 1, ka_aast 4, ka_al 0 1, ka_dup, ka_get 3 1, ka_no, ka_no, ka_ci (nI 1) 1, ka_ii (fun x y => x - y), ka_put 3 1 .int, ka_no, ka_no, ka_ret]
def ct_Tr_removeAt : Nat → kc_A := fun pc => ka_nth (cl_Tr_removeAt_0 ++ (cl_Tr_removeAt_1)) pc
set_option maxRecDepth 100000 in
theorem c_Tr_removeAt_0 : ct_Tr_removeAt 0 = ka_il 1 1 := rfl
theorem d_Tr_removeAt_0 : decode prog_9_method_6_code 0 = .ok (.iload_n 1, 1) := by decide +kernel
set_option maxRecDepth 100000 in
theorem c_Tr_removeAt_1 : ct_Tr_removeAt 1 = ka_if (fun x => x < 0) 12 := rfl
theorem d_Tr_removeAt_1 : decode prog_9_method_6_code 1 = .ok (.ifCond .lt 11, 3) := by decide +kernel
set_option maxRecDepth 100000 in
theorem c_Tr_removeAt_4 : ct_Tr_removeAt 4 = ka_il 1 1 := rfl
theorem d_Tr_removeAt_4 : decode prog_9_method_6_code 4 = .ok (.iload_n 1, 1) := by decide +kernel
set_option maxRecDepth 100000 in
theorem c_Tr_removeAt_5 : ct_Tr_removeAt 5 = ka_al 0 1 := rfl
theorem d_Tr_removeAt_5 : decode prog_9_method_6_code 5 = .ok (.aload_n 0, 1) := by decide +kernel
set_option maxRecDepth 100000 in
theorem c_Tr_removeAt_6 : ct_Tr_removeAt 6 = ka_get 3 1 := rfl
theorem d_Tr_removeAt_6 : decode prog_9_method_6_code 6 = .ok (.getfield 41, 3) := by decide +kernel
set_option maxRecDepth 100000 in
theorem c_Tr_removeAt_9 : ct_Tr_removeAt 9 = ka_cm (fun x y => x < y) 13 := rfl
theorem d_Tr_removeAt_9 : decode prog_9_method_6_code 9 = .ok (.if_icmp .lt 4, 3) := by decide +kernel
set_option maxRecDepth 100000 in
theorem c_Tr_removeAt_12 : ct_Tr_removeAt 12 = ka_ret := rfl
theorem d_Tr_removeAt_12 : decode prog_9_method_6_code 12 = .ok (.return_, 1) := by decide +kernel
set_option maxRecDepth 100000 in
theorem c_Tr_removeAt_13 : ct_Tr_removeAt 13 = ka_al 0 1 := rfl
theorem d_Tr_removeAt_13 : decode prog_9_method_6_code 13 = .ok (.aload_n 0, 1) := by decide +kernel
set_option maxRecDepth 100000 in
theorem c_Tr_removeAt_14 : ct_Tr_removeAt 14 = ka_get 3 0 := rfl
theorem d_Tr_removeAt_14 : decode prog_9_method_6_code 14 = .ok (.getfield 11, 3) := by decide +kernel
set_option maxRecDepth 100000 in
theorem c_Tr_removeAt_17 : ct_Tr_removeAt 17 = ka_il 1 1 := rfl
theorem d_Tr_removeAt_17 : decode prog_9_method_6_code 17 = .ok (.iload_n 1, 1) := by decide +kernel
set_option maxRecDepth 100000 in
theorem c_Tr_removeAt_18 : ct_Tr_removeAt 18 = ka_aald := rfl
theorem d_Tr_removeAt_18 : decode prog_9_method_6_code 18 = .ok (.aaload, 1) := by decide +kernel
set_option maxRecDepth 100000 in
theorem c_Tr_removeAt_19 : ct_Tr_removeAt 19 = ka_as 2 1 := rfl
theorem d_Tr_removeAt_19 : decode prog_9_method_6_code 19 = .ok (.astore_n 2, 1) := by decide +kernel
set_option maxRecDepth 100000 in
theorem c_Tr_removeAt_20 : ct_Tr_removeAt 20 = ka_il 1 1 := rfl
theorem d_Tr_removeAt_20 : decode prog_9_method_6_code 20 = .ok (.iload_n 1, 1) := by decide +kernel
set_option maxRecDepth 100000 in
theorem c_Tr_removeAt_21 : ct_Tr_removeAt 21 = ka_is 3 1 := rfl
theorem d_Tr_removeAt_21 : decode prog_9_method_6_code 21 = .ok (.istore_n 3, 1) := by decide +kernel
set_option maxRecDepth 100000 in
theorem c_Tr_removeAt_22 : ct_Tr_removeAt 22 = ka_il 3 1 := rfl
theorem d_Tr_removeAt_22 : decode prog_9_method_6_code 22 = .ok (.iload_n 3, 1) := by decide +kernel
set_option maxRecDepth 100000 in
theorem c_Tr_removeAt_23 : ct_Tr_removeAt 23 = ka_al 0 1 := rfl
theorem d_Tr_removeAt_23 : decode prog_9_method_6_code 23 = .ok (.aload_n 0, 1) := by decide +kernel
set_option maxRecDepth 100000 in
theorem c_Tr_removeAt_24 : ct_Tr_removeAt 24 = ka_get 3 1 := rfl
theorem d_Tr_removeAt_24 : decode prog_9_method_6_code 24 = .ok (.getfield 41, 3) := by decide +kernel
set_option maxRecDepth 100000 in
theorem c_Tr_removeAt_27 : ct_Tr_removeAt 27 = ka_ci (nI 1) 1 := rfl
theorem d_Tr_removeAt_27 : decode prog_9_method_6_code 27 = .ok (.iconst 1, 1) := by decide +kernel
set_option maxRecDepth 100000 in
theorem c_Tr_removeAt_28 : ct_Tr_removeAt 28 = ka_ii (fun x y => x - y) := rfl
theorem d_Tr_removeAt_28 : decode prog_9_method_6_code 28 = .ok (.isub, 1) := by decide +kernel
set_option maxRecDepth 100000 in
theorem c_Tr_removeAt_29 : ct_Tr_removeAt 29 = ka_cm (fun x y => y ≤ x) 52 := rfl
theorem d_Tr_removeAt_29 : decode prog_9_method_6_code 29 = .ok (.if_icmp .ge 23, 3) := by decide +kernel
set_option maxRecDepth 100000 in
theorem c_Tr_removeAt_32 : ct_Tr_removeAt 32 = ka_al 0 1 := rfl
theorem d_Tr_removeAt_32 : decode prog_9_method_6_code 32 = .ok (.aload_n 0, 1) := by decide +kernel
set_option maxRecDepth 100000 in
theorem c_Tr_removeAt_33 : ct_Tr_removeAt 33 = ka_get 3 0 := rfl
theorem d_Tr_removeAt_33 : decode prog_9_method_6_code 33 = .ok (.getfield 11, 3) := by decide +kernel
set_option maxRecDepth 100000 in
theorem c_Tr_removeAt_36 : ct_Tr_removeAt 36 = ka_il 3 1 := rfl
theorem d_Tr_removeAt_36 : decode prog_9_method_6_code 36 = .ok (.iload_n 3, 1) := by decide +kernel
set_option maxRecDepth 100000 in
theorem c_Tr_removeAt_37 : ct_Tr_removeAt 37 = ka_al 0 1 := rfl
theorem d_Tr_removeAt_37 : decode prog_9_method_6_code 37 = .ok (.aload_n 0, 1) := by decide +kernel
set_option maxRecDepth 100000 in
theorem c_Tr_removeAt_38 : ct_Tr_removeAt 38 = ka_get 3 0 := rfl
theorem d_Tr_removeAt_38 : decode prog_9_method_6_code 38 = .ok (.getfield 11, 3) := by decide +kernel
set_option maxRecDepth 100000 in
theorem c_Tr_removeAt_41 : ct_Tr_removeAt 41 = ka_il 3 1 := rfl
theorem d_Tr_removeAt_41 : decode prog_9_method_6_code 41 = .ok (.iload_n 3, 1) := by decide +kernel
set_option maxRecDepth 100000 in
theorem c_Tr_removeAt_42 : ct_Tr_removeAt 42 = ka_ci (nI 1) 1 := rfl
theorem d_Tr_removeAt_42 : decode prog_9_method_6_code 42 = .ok (.iconst 1, 1) := by decide +kernel
set_option maxRecDepth 100000 in
theorem c_Tr_removeAt_43 : ct_Tr_removeAt 43 = ka_ii (fun x y => x + y) := rfl
theorem d_Tr_removeAt_43 : decode prog_9_method_6_code 43 = .ok (.iadd, 1) := by decide +kernel
set_option maxRecDepth 100000 in
theorem c_Tr_removeAt_44 : ct_Tr_removeAt 44 = ka_aald := rfl
theorem d_Tr_removeAt_44 : decode prog_9_method_6_code 44 = .ok (.aaload, 1) := by decide +kernel
set_option maxRecDepth 100000 in
theorem c_Tr_removeAt_45 : ct_Tr_removeAt 45 = ka_aast 4 := rfl
theorem d_Tr_removeAt_45 : decode prog_9_method_6_code 45 = .ok (.aastore, 1) := by decide +kernel
set_option maxRecDepth 100000 in
theorem c_Tr_removeAt_46 : ct_Tr_removeAt 46 = ka_inc 3 (nI 1) := rfl
theorem d_Tr_removeAt_46 : decode prog_9_method_6_code 46 = .ok (.iinc 3 1, 3) := by decide +kernel
set_option maxRecDepth 100000 in
theorem c_Tr_removeAt_49 : ct_Tr_removeAt 49 = ka_goto 22 := rfl
theorem d_Tr_removeAt_49 : decode prog_9_method_6_code 49 = .ok (.goto (-27), 3) := by decide +kernel
set_option maxRecDepth 100000 in
theorem c_Tr_removeAt_52 : ct_Tr_removeAt 52 = ka_al 0 1 := rfl
theorem d_Tr_removeAt_52 : decode prog_9_method_6_code 52 = .ok (.aload_n 0, 1) := by decide +kernel
set_option maxRecDepth 100000 in
theorem c_Tr_removeAt_53 : ct_Tr_removeAt 53 = ka_get 3 0 := rfl
theorem d_Tr_removeAt_53 : decode prog_9_method_6_code 53 = .ok (.getfield 11, 3) := by decide +kernel
set_option maxRecDepth 100000 in
theorem c_Tr_removeAt_56 : ct_Tr_removeAt 56 = ka_al 0 1 := rfl
theorem d_Tr_removeAt_56 : decode prog_9_method_6_code 56 = .ok (.aload_n 0, 1) := by decide +kernel
set_option maxRecDepth 100000 in
theorem c_Tr_removeAt_57 : ct_Tr_removeAt 57 = ka_get 3 1 := rfl
theorem d_Tr_removeAt_57 : decode prog_9_method_6_code 57 = .ok (.getfield 41, 3) := by decide +kernel
set_option maxRecDepth 100000 in
theorem c_Tr_removeAt_60 : ct_Tr_removeAt 60 = ka_ci (nI 1) 1 := rfl
theorem d_Tr_removeAt_60 : decode prog_9_method_6_code 60 = .ok (.iconst 1, 1) := by decide +kernel
set_option maxRecDepth 100000 in
theorem c_Tr_removeAt_61 : ct_Tr_removeAt 61 = ka_ii (fun x y => x - y) := rfl
theorem d_Tr_removeAt_61 : decode prog_9_method_6_code 61 = .ok (.isub, 1) := by decide +kernel
set_option maxRecDepth 100000 in
theorem c_Tr_removeAt_62 : ct_Tr_removeAt 62 = ka_al 2 1 := rfl
theorem d_Tr_removeAt_62 : decode prog_9_method_6_code 62 = .ok (.aload_n 2, 1) := by decide +kernel
set_option maxRecDepth 100000 in
theorem c_Tr_removeAt_63 : ct_Tr_removeAt 63 = ka_aast 4 := rfl
theorem d_Tr_removeAt_63 : decode prog_9_method_6_code 63 = .ok (.aastore, 1) := by decide +kernel
set_option maxRecDepth 100000 in
theorem c_Tr_removeAt_64 : ct_Tr_removeAt 64 = ka_al 0 1 := rfl
theorem d_Tr_removeAt_64 : decode prog_9_method_6_code 64 = .ok (.aload_n 0, 1) := by decide +kernel
set_option maxRecDepth 100000 in
theorem c_Tr_removeAt_65 : ct_Tr_removeAt 65 = ka_dup := rfl
theorem d_Tr_removeAt_65 : decode prog_9_method_6_code 65 = .ok (.dup, 1) := by decide +kernel
set_option maxRecDepth 100000 in
theorem c_Tr_removeAt_66 : ct_Tr_removeAt 66 = ka_get 3 1 := rfl
theorem d_Tr_removeAt_66 : decode prog_9_method_6_code 66 = .ok (.getfield 41, 3) := by decide +kernel
set_option maxRecDepth 100000 in
theorem c_Tr_removeAt_69 : ct_Tr_removeAt 69 = ka_ci (nI 1) 1 := rfl
theorem d_Tr_removeAt_69 : decode prog_9_method_6_code 69 = .ok (.iconst 1, 1) := by decide +kernel
set_option maxRecDepth 100000 in
theorem c_Tr_removeAt_70 : ct_Tr_removeAt 70 = ka_ii (fun x y => x - y) := rfl
theorem d_Tr_removeAt_70 : decode prog_9_method_6_code 70 = .ok (.isub, 1) := by decide +kernel
set_option maxRecDepth 100000 in
theorem c_Tr_removeAt_71 : ct_Tr_removeAt 71 = ka_put 3 1 .int := rfl
theorem d_Tr_removeAt_71 : decode prog_9_method_6_code 71 = .ok (.putfield 41, 3) := by decide +kernel
set_option maxRecDepth 100000 in
theorem c_Tr_removeAt_74 : ct_Tr_removeAt 74 = ka_ret := rfl
theorem d_Tr_removeAt_74 : decode prog_9_method_6_code 74 = .ok (.return_, 1) := by decide +kernel
set_option maxRecDepth 100000 in
set_option maxHeartbeats 4000000 in
theorem s_Tr_removeAt_60 : ∀ pc, pc < 60 → kc_Sim kt kw_A kw_N kt_cl kt_En "DirectoryDesk$Tree" prog_9_method_6_code 4 (none) "removeAt" none pc (ct_Tr_removeAt pc) := by
  let P : Nat → Prop := fun pc => kc_Sim kt kw_A kw_N kt_cl kt_En "DirectoryDesk$Tree" prog_9_method_6_code 4 (none) "removeAt" none pc (ct_Tr_removeAt pc)
  exact kc_case (P := P) (kc_se rfl sm_no) (
  kc_case (P := P) (kc_se rfl sm_no) (
  kc_case (P := P) (kc_se c_Tr_removeAt_57 (sm_get (ci := 3) (C := "DirectoryDesk$Tree") (F := kF_Tr) rfl kin_Tr (Nat.le_of_ble_eq_true rfl) d_Tr_removeAt_57 (kw1 162 rfl rfl))) (
  kc_case (P := P) (kc_se c_Tr_removeAt_56 (sm_aload_n d_Tr_removeAt_56 rfl)) (
  kc_case (P := P) (kc_se rfl sm_no) (
  kc_case (P := P) (kc_se rfl sm_no) (
  kc_case (P := P) (kc_se c_Tr_removeAt_53 (sm_get (ci := 3) (C := "DirectoryDesk$Tree") (F := kF_Tr) rfl kin_Tr (Nat.le_of_ble_eq_true rfl) d_Tr_removeAt_53 (kw1 160 rfl rfl))) (
  kc_case (P := P) (kc_se c_Tr_removeAt_52 (sm_aload_n d_Tr_removeAt_52 rfl)) (
  kc_case (P := P) (kc_se rfl sm_no) (
  kc_case (P := P) (kc_se rfl sm_no) (
  kc_case (P := P) (kc_se c_Tr_removeAt_49 (sm_goto d_Tr_removeAt_49 (by decide))) (
  kc_case (P := P) (kc_se rfl sm_no) (
  kc_case (P := P) (kc_se rfl sm_no) (
  kc_case (P := P) (kc_se c_Tr_removeAt_46 (sm_inc d_Tr_removeAt_46 (by decide) (Nat.le_of_ble_eq_true rfl))) (
  kc_case (P := P) (kc_se c_Tr_removeAt_45 (sm_aast (ci := 4) (F := kF_En) (N := 2) rfl d_Tr_removeAt_45)) (
  kc_case (P := P) (kc_se c_Tr_removeAt_44 (sm_aald d_Tr_removeAt_44)) (
  kc_case (P := P) (kc_se c_Tr_removeAt_43 (sm_iadd d_Tr_removeAt_43)) (
  kc_case (P := P) (kc_se c_Tr_removeAt_42 (sm_iconst d_Tr_removeAt_42 (by decide))) (
  kc_case (P := P) (kc_se c_Tr_removeAt_41 (sm_iload_n d_Tr_removeAt_41 rfl)) (
  kc_case (P := P) (kc_se rfl sm_no) (
  kc_case (P := P) (kc_se rfl sm_no) (
  kc_case (P := P) (kc_se c_Tr_removeAt_38 (sm_get (ci := 3) (C := "DirectoryDesk$Tree") (F := kF_Tr) rfl kin_Tr (Nat.le_of_ble_eq_true rfl) d_Tr_removeAt_38 (kw1 160 rfl rfl))) (
  kc_case (P := P) (kc_se c_Tr_removeAt_37 (sm_aload_n d_Tr_removeAt_37 rfl)) (
  kc_case (P := P) (kc_se c_Tr_removeAt_36 (sm_iload_n d_Tr_removeAt_36 rfl)) (
  kc_case (P := P) (kc_se rfl sm_no) (
  kc_case (P := P) (kc_se rfl sm_no) (
  kc_case (P := P) (kc_se c_Tr_removeAt_33 (sm_get (ci := 3) (C := "DirectoryDesk$Tree") (F := kF_Tr) rfl kin_Tr (Nat.le_of_ble_eq_true rfl) d_Tr_removeAt_33 (kw1 160 rfl rfl))) (
  kc_case (P := P) (kc_se c_Tr_removeAt_32 (sm_aload_n d_Tr_removeAt_32 rfl)) (
  kc_case (P := P) (kc_se rfl sm_no) (
  kc_case (P := P) (kc_se rfl sm_no) (
  kc_case (P := P) (kc_se c_Tr_removeAt_29 (sm_cm_ge d_Tr_removeAt_29 (by decide))) (
  kc_case (P := P) (kc_se c_Tr_removeAt_28 (sm_isub d_Tr_removeAt_28)) (
  kc_case (P := P) (kc_se c_Tr_removeAt_27 (sm_iconst d_Tr_removeAt_27 (by decide))) (
  kc_case (P := P) (kc_se rfl sm_no) (
  kc_case (P := P) (kc_se rfl sm_no) (
  kc_case (P := P) (kc_se c_Tr_removeAt_24 (sm_get (ci := 3) (C := "DirectoryDesk$Tree") (F := kF_Tr) rfl kin_Tr (Nat.le_of_ble_eq_true rfl) d_Tr_removeAt_24 (kw1 162 rfl rfl))) (
  kc_case (P := P) (kc_se c_Tr_removeAt_23 (sm_aload_n d_Tr_removeAt_23 rfl)) (
  kc_case (P := P) (kc_se c_Tr_removeAt_22 (sm_iload_n d_Tr_removeAt_22 rfl)) (
  kc_case (P := P) (kc_se c_Tr_removeAt_21 (sm_istore_n d_Tr_removeAt_21 rfl (Nat.le_of_ble_eq_true rfl))) (
  kc_case (P := P) (kc_se c_Tr_removeAt_20 (sm_iload_n d_Tr_removeAt_20 rfl)) (
  kc_case (P := P) (kc_se c_Tr_removeAt_19 (sm_astore_n d_Tr_removeAt_19 rfl (Nat.le_of_ble_eq_true rfl))) (
  kc_case (P := P) (kc_se c_Tr_removeAt_18 (sm_aald d_Tr_removeAt_18)) (
  kc_case (P := P) (kc_se c_Tr_removeAt_17 (sm_iload_n d_Tr_removeAt_17 rfl)) (
  kc_case (P := P) (kc_se rfl sm_no) (
  kc_case (P := P) (kc_se rfl sm_no) (
  kc_case (P := P) (kc_se c_Tr_removeAt_14 (sm_get (ci := 3) (C := "DirectoryDesk$Tree") (F := kF_Tr) rfl kin_Tr (Nat.le_of_ble_eq_true rfl) d_Tr_removeAt_14 (kw1 160 rfl rfl))) (
  kc_case (P := P) (kc_se c_Tr_removeAt_13 (sm_aload_n d_Tr_removeAt_13 rfl)) (
  kc_case (P := P) (kc_se c_Tr_removeAt_12 (sm_ret d_Tr_removeAt_12 rfl)) (
  kc_case (P := P) (kc_se rfl sm_no) (
  kc_case (P := P) (kc_se rfl sm_no) (
  kc_case (P := P) (kc_se c_Tr_removeAt_9 (sm_cm_lt d_Tr_removeAt_9 (by decide))) (
  kc_case (P := P) (kc_se rfl sm_no) (
  kc_case (P := P) (kc_se rfl sm_no) (
  kc_case (P := P) (kc_se c_Tr_removeAt_6 (sm_get (ci := 3) (C := "DirectoryDesk$Tree") (F := kF_Tr) rfl kin_Tr (Nat.le_of_ble_eq_true rfl) d_Tr_removeAt_6 (kw1 162 rfl rfl))) (
  kc_case (P := P) (kc_se c_Tr_removeAt_5 (sm_aload_n d_Tr_removeAt_5 rfl)) (
  kc_case (P := P) (kc_se c_Tr_removeAt_4 (sm_iload_n d_Tr_removeAt_4 rfl)) (
  kc_case (P := P) (kc_se rfl sm_no) (
  kc_case (P := P) (kc_se rfl sm_no) (
  kc_case (P := P) (kc_se c_Tr_removeAt_1 (sm_if_lt d_Tr_removeAt_1 (by decide))) (
  kc_case (P := P) (kc_se c_Tr_removeAt_0 (sm_iload_n d_Tr_removeAt_0 rfl)) (
  kc_case0))))))))))))))))))))))))))))))))))))))))))))))))))))))))))))
set_option maxRecDepth 100000 in
set_option maxHeartbeats 4000000 in
theorem s_Tr_removeAt_75 : ∀ pc, pc < 75 → kc_Sim kt kw_A kw_N kt_cl kt_En "DirectoryDesk$Tree" prog_9_method_6_code 4 (none) "removeAt" none pc (ct_Tr_removeAt pc) := by
  let P : Nat → Prop := fun pc => kc_Sim kt kw_A kw_N kt_cl kt_En "DirectoryDesk$Tree" prog_9_method_6_code 4 (none) "removeAt" none pc (ct_Tr_removeAt pc)
  exact kc_case (P := P) (kc_se c_Tr_removeAt_74 (sm_ret d_Tr_removeAt_74 rfl)) (
  kc_case (P := P) (kc_se rfl sm_no) (
  kc_case (P := P) (kc_se rfl sm_no) (
  kc_case (P := P) (kc_se c_Tr_removeAt_71 (sm_put (ci := 3) (C := "DirectoryDesk$Tree") (F := kF_Tr) rfl kin_Tr kty_Tr ktk_Tr knm_Tr (Nat.le_of_ble_eq_true rfl) (by decide +kernel) d_Tr_removeAt_71 (kw1 162 rfl rfl) rfl)) (
  kc_case (P := P) (kc_se c_Tr_removeAt_70 (sm_isub d_Tr_removeAt_70)) (
  kc_case (P := P) (kc_se c_Tr_removeAt_69 (sm_iconst d_Tr_removeAt_69 (by decide))) (
  kc_case (P := P) (kc_se rfl sm_no) (
  kc_case (P := P) (kc_se rfl sm_no) (
  kc_case (P := P) (kc_se c_Tr_removeAt_66 (sm_get (ci := 3) (C := "DirectoryDesk$Tree") (F := kF_Tr) rfl kin_Tr (Nat.le_of_ble_eq_true rfl) d_Tr_removeAt_66 (kw1 162 rfl rfl))) (
  kc_case (P := P) (kc_se c_Tr_removeAt_65 (sm_dup d_Tr_removeAt_65)) (
  kc_case (P := P) (kc_se c_Tr_removeAt_64 (sm_aload_n d_Tr_removeAt_64 rfl)) (
  kc_case (P := P) (kc_se c_Tr_removeAt_63 (sm_aast (ci := 4) (F := kF_En) (N := 2) rfl d_Tr_removeAt_63)) (
  kc_case (P := P) (kc_se c_Tr_removeAt_62 (sm_aload_n d_Tr_removeAt_62 rfl)) (
  kc_case (P := P) (kc_se c_Tr_removeAt_61 (sm_isub d_Tr_removeAt_61)) (
  kc_case (P := P) (kc_se c_Tr_removeAt_60 (sm_iconst d_Tr_removeAt_60 (by decide))) (
  s_Tr_removeAt_60)))))))))))))))
theorem ka_nth_no_Tr_removeAt (pc : Nat) (h : 75 ≤ pc) : ct_Tr_removeAt pc = ka_no := ka_nth_ge _ pc (Nat.le_trans (Nat.le_of_eq (by rfl)) h)
theorem s_Tr_removeAt (pc : Nat) : kc_Sim kt kw_A kw_N kt_cl kt_En "DirectoryDesk$Tree" prog_9_method_6_code 4 (none) "removeAt" none pc (ct_Tr_removeAt pc) := (Nat.lt_or_ge pc 75).elim (s_Tr_removeAt_75 pc) (fun h => kc_se (ka_nth_no_Tr_removeAt pc h) sm_no)
def cl_En_init_0 : List kc_A := [ka_al 0 1, ka_obj, ka_no, ka_no, ka_al 0 1, ka_new 5 3 [.null, .null, .int 0], ka_no, ka_no, ka_dup, ka_cx 62 0 2 8, ka_no, ka_no, ka_put 4 0 (.object "DirectoryDesk$Name"), ka_no, ka_no, ka_al 0 1, ka_new 6 3 [.null, .null, .int 0], ka_no, ka_no, ka_dup, ka_ci (nI 6) 2, ka_no, ka_cx 68 1 2 60, ka_no, ka_no, ka_put 4 1 (.object "DirectoryDesk$Pairs"), ka_no, ka_no, ka_ret]
def ct_En_init : Nat → kc_A := fun pc => ka_nth (cl_En_init_0) pc
set_option maxRecDepth 100000 in
theorem c_En_init_0 : ct_En_init 0 = ka_al 0 1 := rfl
theorem d_En_init_0 : decode prog_3_method_1_code 0 = .ok (.aload_n 0, 1) := by decide +kernel
set_option maxRecDepth 100000 in
theorem c_En_init_1 : ct_En_init 1 = ka_obj := rfl
theorem d_En_init_1 : decode prog_3_method_1_code 1 = .ok (.invokespecial 3, 3) := by decide +kernel
set_option maxRecDepth 100000 in
theorem c_En_init_4 : ct_En_init 4 = ka_al 0 1 := rfl
theorem d_En_init_4 : decode prog_3_method_1_code 4 = .ok (.aload_n 0, 1) := by decide +kernel
set_option maxRecDepth 100000 in
theorem c_En_init_5 : ct_En_init 5 = ka_new 5 3 [.null, .null, .int 0] := rfl
theorem d_En_init_5 : decode prog_3_method_1_code 5 = .ok (.new 9, 3) := by decide +kernel
set_option maxRecDepth 100000 in
theorem c_En_init_8 : ct_En_init 8 = ka_dup := rfl
theorem d_En_init_8 : decode prog_3_method_1_code 8 = .ok (.dup, 1) := by decide +kernel
set_option maxRecDepth 100000 in
theorem c_En_init_9 : ct_En_init 9 = ka_cx 62 0 2 8 := rfl
theorem d_En_init_9 : decode prog_3_method_1_code 9 = .ok (.invokespecial 11, 3) := by decide +kernel
set_option maxRecDepth 100000 in
theorem c_En_init_12 : ct_En_init 12 = ka_put 4 0 (.object "DirectoryDesk$Name") := rfl
theorem d_En_init_12 : decode prog_3_method_1_code 12 = .ok (.putfield 12, 3) := by decide +kernel
set_option maxRecDepth 100000 in
theorem c_En_init_15 : ct_En_init 15 = ka_al 0 1 := rfl
theorem d_En_init_15 : decode prog_3_method_1_code 15 = .ok (.aload_n 0, 1) := by decide +kernel
set_option maxRecDepth 100000 in
theorem c_En_init_16 : ct_En_init 16 = ka_new 6 3 [.null, .null, .int 0] := rfl
theorem d_En_init_16 : decode prog_3_method_1_code 16 = .ok (.new 18, 3) := by decide +kernel
set_option maxRecDepth 100000 in
theorem c_En_init_19 : ct_En_init 19 = ka_dup := rfl
theorem d_En_init_19 : decode prog_3_method_1_code 19 = .ok (.dup, 1) := by decide +kernel
set_option maxRecDepth 100000 in
theorem c_En_init_20 : ct_En_init 20 = ka_ci (nI 6) 2 := rfl
theorem d_En_init_20 : decode prog_3_method_1_code 20 = .ok (.bipush 6, 2) := by decide +kernel
set_option maxRecDepth 100000 in
theorem c_En_init_22 : ct_En_init 22 = ka_cx 68 1 2 60 := rfl
theorem d_En_init_22 : decode prog_3_method_1_code 22 = .ok (.invokespecial 20, 3) := by decide +kernel
set_option maxRecDepth 100000 in
theorem c_En_init_25 : ct_En_init 25 = ka_put 4 1 (.object "DirectoryDesk$Pairs") := rfl
theorem d_En_init_25 : decode prog_3_method_1_code 25 = .ok (.putfield 23, 3) := by decide +kernel
set_option maxRecDepth 100000 in
theorem c_En_init_28 : ct_En_init 28 = ka_ret := rfl
theorem d_En_init_28 : decode prog_3_method_1_code 28 = .ok (.return_, 1) := by decide +kernel
set_option maxRecDepth 100000 in
set_option maxHeartbeats 4000000 in
theorem s_En_init_29 : ∀ pc, pc < 29 → kc_Sim kt kw_A kw_N kt_cl kt_En "DirectoryDesk$Entry" prog_3_method_1_code 1 (none) "<init>" none pc (ct_En_init pc) := by
  let P : Nat → Prop := fun pc => kc_Sim kt kw_A kw_N kt_cl kt_En "DirectoryDesk$Entry" prog_3_method_1_code 1 (none) "<init>" none pc (ct_En_init pc)
  exact kc_case (P := P) (kc_se c_En_init_28 (sm_ret d_En_init_28 rfl)) (
  kc_case (P := P) (kc_se rfl sm_no) (
  kc_case (P := P) (kc_se rfl sm_no) (
  kc_case (P := P) (kc_se c_En_init_25 (sm_putF (ci := 4) (C := "DirectoryDesk$Entry") (F := kF_En) rfl kin_En kty_En ktk_En knm_En (Nat.le_of_ble_eq_true rfl) (by decide +kernel) d_En_init_25 (kw1 138 rfl rfl) rfl rfl rfl)) (
  kc_case (P := P) (kc_se rfl sm_no) (
  kc_case (P := P) (kc_se rfl sm_no) (
  kc_case (P := P) (kc_se c_En_init_22 (sm_cx (j := 68) rfl rfl kw_o kw_g wc_Pa_init (Nat.le_of_ble_eq_true rfl) hd_Pa_init rfl rfl (kw1 118 rfl rfl) wi_Pa_init wn_Pa_init d_En_init_22)) (
  kc_case (P := P) (kc_se rfl sm_no) (
  kc_case (P := P) (kc_se c_En_init_20 (sm_bipush d_En_init_20 (by decide))) (
  kc_case (P := P) (kc_se c_En_init_19 (sm_dup d_En_init_19)) (
  kc_case (P := P) (kc_se rfl sm_no) (
  kc_case (P := P) (kc_se rfl sm_no) (
  kc_case (P := P) (kc_se c_En_init_16 (sm_new (ci := 6) (C := "DirectoryDesk$Pairs") (F := kF_Pa) rfl kin_Pa kty_Pa ktk_Pa (fun b0 j hj => kdf_Pa b0 j hj) d_En_init_16 (kw1 116 rfl rfl) (kw1 117 rfl rfl) (kw1 7 rfl rfl))) (
  kc_case (P := P) (kc_se c_En_init_15 (sm_aload_n d_En_init_15 rfl)) (
  kc_case (P := P) (kc_se rfl sm_no) (
  kc_case (P := P) (kc_se rfl sm_no) (
  kc_case (P := P) (kc_se c_En_init_12 (sm_putF (ci := 4) (C := "DirectoryDesk$Entry") (F := kF_En) rfl kin_En kty_En ktk_En knm_En (Nat.le_of_ble_eq_true rfl) (by decide +kernel) d_En_init_12 (kw1 135 rfl rfl) rfl rfl rfl)) (
  kc_case (P := P) (kc_se rfl sm_no) (
  kc_case (P := P) (kc_se rfl sm_no) (
  kc_case (P := P) (kc_se c_En_init_9 (sm_cxN (j := 62) rfl rfl kw_o kw_g wc_Nm_init (Nat.le_of_ble_eq_true rfl) hd_Nm_init rfl rfl (List.mem_of_getElem? (i := 4) rfl) wi_Nm_init wn_Nm_init d_En_init_9)) (
  kc_case (P := P) (kc_se c_En_init_8 (sm_dup d_En_init_8)) (
  kc_case (P := P) (kc_se rfl sm_no) (
  kc_case (P := P) (kc_se rfl sm_no) (
  kc_case (P := P) (kc_se c_En_init_5 (sm_new (ci := 5) (C := "DirectoryDesk$Name") (F := kF_Nm) rfl kin_Nm kty_Nm ktk_Nm (fun b0 j hj => kdf_Nm b0 j hj) d_En_init_5 (kw1 91 rfl rfl) (kw1 92 rfl rfl) (kw1 6 rfl rfl))) (
  kc_case (P := P) (kc_se c_En_init_4 (sm_aload_n d_En_init_4 rfl)) (
  kc_case (P := P) (kc_se rfl sm_no) (
  kc_case (P := P) (kc_se rfl sm_no) (
  kc_case (P := P) (kc_se c_En_init_1 (sm_obj d_En_init_1 (kw1 90 rfl rfl) (kw1 20 rfl rfl) (kw1 21 rfl rfl))) (
  kc_case (P := P) (kc_se c_En_init_0 (sm_aload_n d_En_init_0 rfl)) (
  kc_case0)))))))))))))))))))))))))))))
theorem ka_nth_no_En_init (pc : Nat) (h : 29 ≤ pc) : ct_En_init pc = ka_no := ka_nth_ge _ pc (Nat.le_trans (Nat.le_of_eq (by rfl)) h)
theorem s_En_init (pc : Nat) : kc_Sim kt kw_A kw_N kt_cl kt_En "DirectoryDesk$Entry" prog_3_method_1_code 1 (none) "<init>" none pc (ct_En_init pc) := (Nat.lt_or_ge pc 29).elim (s_En_init_29 pc) (fun h => kc_se (ka_nth_no_En_init pc h) sm_no)
def cl_Nm_init_0 : List kc_A := [ka_al 0 1, ka_obj, ka_no, ka_no, ka_al 0 1, ka_ci (nI 4) 1, ka_newi, ka_no, ka_put 5 0 (.array .int), ka_no, ka_no, ka_al 0 1, ka_ci (nI 4) 1, ka_newl, ka_no, ka_put 5 1 (.array .long), ka_no, ka_no, ka_ret]
def ct_Nm_init : Nat → kc_A := fun pc => ka_nth (cl_Nm_init_0) pc
set_option maxRecDepth 100000 in
theorem c_Nm_init_0 : ct_Nm_init 0 = ka_al 0 1 := rfl
theorem d_Nm_init_0 : decode prog_5_method_1_code 0 = .ok (.aload_n 0, 1) := by decide +kernel
set_option maxRecDepth 100000 in
theorem c_Nm_init_1 : ct_Nm_init 1 = ka_obj := rfl
theorem d_Nm_init_1 : decode prog_5_method_1_code 1 = .ok (.invokespecial 3, 3) := by decide +kernel
set_option maxRecDepth 100000 in
theorem c_Nm_init_4 : ct_Nm_init 4 = ka_al 0 1 := rfl
theorem d_Nm_init_4 : decode prog_5_method_1_code 4 = .ok (.aload_n 0, 1) := by decide +kernel
set_option maxRecDepth 100000 in
theorem c_Nm_init_5 : ct_Nm_init 5 = ka_ci (nI 4) 1 := rfl
theorem d_Nm_init_5 : decode prog_5_method_1_code 5 = .ok (.iconst 4, 1) := by decide +kernel
set_option maxRecDepth 100000 in
theorem c_Nm_init_6 : ct_Nm_init 6 = ka_newi := rfl
theorem d_Nm_init_6 : decode prog_5_method_1_code 6 = .ok (.newarray .int, 2) := by decide +kernel
set_option maxRecDepth 100000 in
theorem c_Nm_init_8 : ct_Nm_init 8 = ka_put 5 0 (.array .int) := rfl
theorem d_Nm_init_8 : decode prog_5_method_1_code 8 = .ok (.putfield 9, 3) := by decide +kernel
set_option maxRecDepth 100000 in
theorem c_Nm_init_11 : ct_Nm_init 11 = ka_al 0 1 := rfl
theorem d_Nm_init_11 : decode prog_5_method_1_code 11 = .ok (.aload_n 0, 1) := by decide +kernel
set_option maxRecDepth 100000 in
theorem c_Nm_init_12 : ct_Nm_init 12 = ka_ci (nI 4) 1 := rfl
theorem d_Nm_init_12 : decode prog_5_method_1_code 12 = .ok (.iconst 4, 1) := by decide +kernel
set_option maxRecDepth 100000 in
theorem c_Nm_init_13 : ct_Nm_init 13 = ka_newl := rfl
theorem d_Nm_init_13 : decode prog_5_method_1_code 13 = .ok (.newarray .long, 2) := by decide +kernel
set_option maxRecDepth 100000 in
theorem c_Nm_init_15 : ct_Nm_init 15 = ka_put 5 1 (.array .long) := rfl
theorem d_Nm_init_15 : decode prog_5_method_1_code 15 = .ok (.putfield 15, 3) := by decide +kernel
set_option maxRecDepth 100000 in
theorem c_Nm_init_18 : ct_Nm_init 18 = ka_ret := rfl
theorem d_Nm_init_18 : decode prog_5_method_1_code 18 = .ok (.return_, 1) := by decide +kernel
set_option maxRecDepth 100000 in
set_option maxHeartbeats 4000000 in
theorem s_Nm_init_19 : ∀ pc, pc < 19 → kc_Sim kt kw_A kw_N kt_cl kt_En "DirectoryDesk$Name" prog_5_method_1_code 1 (none) "<init>" none pc (ct_Nm_init pc) := by
  let P : Nat → Prop := fun pc => kc_Sim kt kw_A kw_N kt_cl kt_En "DirectoryDesk$Name" prog_5_method_1_code 1 (none) "<init>" none pc (ct_Nm_init pc)
  exact kc_case (P := P) (kc_se c_Nm_init_18 (sm_ret d_Nm_init_18 rfl)) (
  kc_case (P := P) (kc_se rfl sm_no) (
  kc_case (P := P) (kc_se rfl sm_no) (
  kc_case (P := P) (kc_se c_Nm_init_15 (sm_putF (ci := 5) (C := "DirectoryDesk$Name") (F := kF_Nm) rfl kin_Nm kty_Nm ktk_Nm knm_Nm (Nat.le_of_ble_eq_true rfl) (by decide +kernel) d_Nm_init_15 (kw1 100 rfl rfl) rfl rfl rfl)) (
  kc_case (P := P) (kc_se rfl sm_no) (
  kc_case (P := P) (kc_se c_Nm_init_13 (sm_newl rfl d_Nm_init_13 (kw1 115 rfl rfl))) (
  kc_case (P := P) (kc_se c_Nm_init_12 (sm_iconst d_Nm_init_12 (by decide))) (
  kc_case (P := P) (kc_se c_Nm_init_11 (sm_aload_n d_Nm_init_11 rfl)) (
  kc_case (P := P) (kc_se rfl sm_no) (
  kc_case (P := P) (kc_se rfl sm_no) (
  kc_case (P := P) (kc_se c_Nm_init_8 (sm_putF (ci := 5) (C := "DirectoryDesk$Name") (F := kF_Nm) rfl kin_Nm kty_Nm ktk_Nm knm_Nm (Nat.le_of_ble_eq_true rfl) (by decide +kernel) d_Nm_init_8 (kw1 97 rfl rfl) rfl rfl rfl)) (
  kc_case (P := P) (kc_se rfl sm_no) (
  kc_case (P := P) (kc_se c_Nm_init_6 (sm_newi rfl d_Nm_init_6 (kw1 62 rfl rfl))) (
  kc_case (P := P) (kc_se c_Nm_init_5 (sm_iconst d_Nm_init_5 (by decide))) (
  kc_case (P := P) (kc_se c_Nm_init_4 (sm_aload_n d_Nm_init_4 rfl)) (
  kc_case (P := P) (kc_se rfl sm_no) (
  kc_case (P := P) (kc_se rfl sm_no) (
  kc_case (P := P) (kc_se c_Nm_init_1 (sm_obj d_Nm_init_1 (kw1 96 rfl rfl) (kw1 20 rfl rfl) (kw1 21 rfl rfl))) (
  kc_case (P := P) (kc_se c_Nm_init_0 (sm_aload_n d_Nm_init_0 rfl)) (
  kc_case0)))))))))))))))))))
theorem ka_nth_no_Nm_init (pc : Nat) (h : 19 ≤ pc) : ct_Nm_init pc = ka_no := ka_nth_ge _ pc (Nat.le_trans (Nat.le_of_eq (by rfl)) h)
theorem s_Nm_init (pc : Nat) : kc_Sim kt kw_A kw_N kt_cl kt_En "DirectoryDesk$Name" prog_5_method_1_code 1 (none) "<init>" none pc (ct_Nm_init pc) := (Nat.lt_or_ge pc 19).elim (s_Nm_init_19 pc) (fun h => kc_se (ka_nth_no_Nm_init pc h) sm_no)
def cl_Nm_readFrom_0 : List kc_A := [ka_al 0 1, ka_ci (nI 0) 1, ka_put 5 2 .int, ka_no, ka_no, ka_al 1 1, ka_get 1 6, ka_no, ka_no, ka_al 1 1, ka_get 1 7, ka_no, ka_no, ka_cm (fun x y => ¬ x = y) 17, ka_no, ka_no, ka_ret, ka_al 1 1, ka_get 1 6, ka_no, ka_no, ka_is 2 1, ka_ci (nI 0) 1, ka_is 3 1, ka_il 3 1, ka_ci (nI 4) 1, ka_cm (fun x y => y ≤ x) 72, ka_no, ka_no, ka_il 2 1, ka_al 1 1, ka_get 1 7, ka_no, ka_no, ka_cm (fun x y => y ≤ x) 72, ka_no, ka_no, ka_al 1 1, ka_il 2 1, ka_cv 42 1 1 0 0, ka_no, ka_no, ka_is 4 2, ka_no, ka_al 0 1, ka_al 1 1, ka_il 2 1, ka_il 4 2, ka_no, ka_cv 64 3 5 0 0, ka_no, ka_no, ka_if (fun x => ¬ x = 0) 61, ka_no, ka_no, ka_al 0 1, ka_ci (-1) 1, ka_put 5 2 .int, ka_no, ka_no]
def cl_Nm_readFrom_1 : List kc_A := [ka_ret, ka_il 4 2, ka_no, ka_ci (nI 1) 1, ka_ii (fun x y => x + y), ka_is 2 1, ka_inc 3 (nI 1), ka_no, ka_no, ka_goto 24, ka_no, ka_no, ka_il 2 1, ka_al 1 1, ka_get 1 7, ka_no, ka_no, ka_ci (nI 1) 1, ka_ii (fun x y => x + y), ka_cm (fun x y => x = y) 87, ka_no, ka_no, ka_al 0 1, ka_ci (-1) 1, ka_put 5 2 .int, ka_no, ka_no, ka_ret]
def ct_Nm_readFrom : Nat → kc_A := fun pc => ka_nth (cl_Nm_readFrom_0 ++ (cl_Nm_readFrom_1)) pc
set_option maxRecDepth 100000 in
theorem c_Nm_readFrom_0 : ct_Nm_readFrom 0 = ka_al 0 1 := rfl
theorem d_Nm_readFrom_0 : decode prog_5_method_2_code 0 = .ok (.aload_n 0, 1) := by decide +kernel
set_option maxRecDepth 100000 in
theorem c_Nm_readFrom_1 : ct_Nm_readFrom 1 = ka_ci (nI 0) 1 := rfl
theorem d_Nm_readFrom_1 : decode prog_5_method_2_code 1 = .ok (.iconst 0, 1) := by decide +kernel
set_option maxRecDepth 100000 in
theorem c_Nm_readFrom_2 : ct_Nm_readFrom 2 = ka_put 5 2 .int := rfl
theorem d_Nm_readFrom_2 : decode prog_5_method_2_code 2 = .ok (.putfield 19, 3) := by decide +kernel
set_option maxRecDepth 100000 in
theorem c_Nm_readFrom_5 : ct_Nm_readFrom 5 = ka_al 1 1 := rfl
theorem d_Nm_readFrom_5 : decode prog_5_method_2_code 5 = .ok (.aload_n 1, 1) := by decide +kernel
set_option maxRecDepth 100000 in
theorem c_Nm_readFrom_6 : ct_Nm_readFrom 6 = ka_get 1 6 := rfl
theorem d_Nm_readFrom_6 : decode prog_5_method_2_code 6 = .ok (.getfield 23, 3) := by decide +kernel
set_option maxRecDepth 100000 in
theorem c_Nm_readFrom_9 : ct_Nm_readFrom 9 = ka_al 1 1 := rfl
theorem d_Nm_readFrom_9 : decode prog_5_method_2_code 9 = .ok (.aload_n 1, 1) := by decide +kernel
set_option maxRecDepth 100000 in
theorem c_Nm_readFrom_10 : ct_Nm_readFrom 10 = ka_get 1 7 := rfl
theorem d_Nm_readFrom_10 : decode prog_5_method_2_code 10 = .ok (.getfield 28, 3) := by decide +kernel
set_option maxRecDepth 100000 in
theorem c_Nm_readFrom_13 : ct_Nm_readFrom 13 = ka_cm (fun x y => ¬ x = y) 17 := rfl
theorem d_Nm_readFrom_13 : decode prog_5_method_2_code 13 = .ok (.if_icmp .ne 4, 3) := by decide +kernel
set_option maxRecDepth 100000 in
theorem c_Nm_readFrom_16 : ct_Nm_readFrom 16 = ka_ret := rfl
theorem d_Nm_readFrom_16 : decode prog_5_method_2_code 16 = .ok (.return_, 1) := by decide +kernel
set_option maxRecDepth 100000 in
theorem c_Nm_readFrom_17 : ct_Nm_readFrom 17 = ka_al 1 1 := rfl
theorem d_Nm_readFrom_17 : decode prog_5_method_2_code 17 = .ok (.aload_n 1, 1) := by decide +kernel
set_option maxRecDepth 100000 in
theorem c_Nm_readFrom_18 : ct_Nm_readFrom 18 = ka_get 1 6 := rfl
theorem d_Nm_readFrom_18 : decode prog_5_method_2_code 18 = .ok (.getfield 23, 3) := by decide +kernel
set_option maxRecDepth 100000 in
theorem c_Nm_readFrom_21 : ct_Nm_readFrom 21 = ka_is 2 1 := rfl
theorem d_Nm_readFrom_21 : decode prog_5_method_2_code 21 = .ok (.istore_n 2, 1) := by decide +kernel
set_option maxRecDepth 100000 in
theorem c_Nm_readFrom_22 : ct_Nm_readFrom 22 = ka_ci (nI 0) 1 := rfl
theorem d_Nm_readFrom_22 : decode prog_5_method_2_code 22 = .ok (.iconst 0, 1) := by decide +kernel
set_option maxRecDepth 100000 in
theorem c_Nm_readFrom_23 : ct_Nm_readFrom 23 = ka_is 3 1 := rfl
theorem d_Nm_readFrom_23 : decode prog_5_method_2_code 23 = .ok (.istore_n 3, 1) := by decide +kernel
set_option maxRecDepth 100000 in
theorem c_Nm_readFrom_24 : ct_Nm_readFrom 24 = ka_il 3 1 := rfl
theorem d_Nm_readFrom_24 : decode prog_5_method_2_code 24 = .ok (.iload_n 3, 1) := by decide +kernel
set_option maxRecDepth 100000 in
theorem c_Nm_readFrom_25 : ct_Nm_readFrom 25 = ka_ci (nI 4) 1 := rfl
theorem d_Nm_readFrom_25 : decode prog_5_method_2_code 25 = .ok (.iconst 4, 1) := by decide +kernel
set_option maxRecDepth 100000 in
theorem c_Nm_readFrom_26 : ct_Nm_readFrom 26 = ka_cm (fun x y => y ≤ x) 72 := rfl
theorem d_Nm_readFrom_26 : decode prog_5_method_2_code 26 = .ok (.if_icmp .ge 46, 3) := by decide +kernel
set_option maxRecDepth 100000 in
theorem c_Nm_readFrom_29 : ct_Nm_readFrom 29 = ka_il 2 1 := rfl
theorem d_Nm_readFrom_29 : decode prog_5_method_2_code 29 = .ok (.iload_n 2, 1) := by decide +kernel
set_option maxRecDepth 100000 in
theorem c_Nm_readFrom_30 : ct_Nm_readFrom 30 = ka_al 1 1 := rfl
theorem d_Nm_readFrom_30 : decode prog_5_method_2_code 30 = .ok (.aload_n 1, 1) := by decide +kernel
set_option maxRecDepth 100000 in
theorem c_Nm_readFrom_31 : ct_Nm_readFrom 31 = ka_get 1 7 := rfl
theorem d_Nm_readFrom_31 : decode prog_5_method_2_code 31 = .ok (.getfield 28, 3) := by decide +kernel
set_option maxRecDepth 100000 in
theorem c_Nm_readFrom_34 : ct_Nm_readFrom 34 = ka_cm (fun x y => y ≤ x) 72 := rfl
theorem d_Nm_readFrom_34 : decode prog_5_method_2_code 34 = .ok (.if_icmp .ge 38, 3) := by decide +kernel
set_option maxRecDepth 100000 in
theorem c_Nm_readFrom_37 : ct_Nm_readFrom 37 = ka_al 1 1 := rfl
theorem d_Nm_readFrom_37 : decode prog_5_method_2_code 37 = .ok (.aload_n 1, 1) := by decide +kernel
set_option maxRecDepth 100000 in
theorem c_Nm_readFrom_38 : ct_Nm_readFrom 38 = ka_il 2 1 := rfl
theorem d_Nm_readFrom_38 : decode prog_5_method_2_code 38 = .ok (.iload_n 2, 1) := by decide +kernel
set_option maxRecDepth 100000 in
theorem c_Nm_readFrom_39 : ct_Nm_readFrom 39 = ka_cv 42 1 1 0 0 := rfl
theorem d_Nm_readFrom_39 : decode prog_5_method_2_code 39 = .ok (.invokevirtual 31, 3) := by decide +kernel
set_option maxRecDepth 100000 in
theorem c_Nm_readFrom_42 : ct_Nm_readFrom 42 = ka_is 4 2 := rfl
theorem d_Nm_readFrom_42 : decode prog_5_method_2_code 42 = .ok (.istore 4, 2) := by decide +kernel
set_option maxRecDepth 100000 in
theorem c_Nm_readFrom_44 : ct_Nm_readFrom 44 = ka_al 0 1 := rfl
theorem d_Nm_readFrom_44 : decode prog_5_method_2_code 44 = .ok (.aload_n 0, 1) := by decide +kernel
set_option maxRecDepth 100000 in
theorem c_Nm_readFrom_45 : ct_Nm_readFrom 45 = ka_al 1 1 := rfl
theorem d_Nm_readFrom_45 : decode prog_5_method_2_code 45 = .ok (.aload_n 1, 1) := by decide +kernel
set_option maxRecDepth 100000 in
theorem c_Nm_readFrom_46 : ct_Nm_readFrom 46 = ka_il 2 1 := rfl
theorem d_Nm_readFrom_46 : decode prog_5_method_2_code 46 = .ok (.iload_n 2, 1) := by decide +kernel
set_option maxRecDepth 100000 in
theorem c_Nm_readFrom_47 : ct_Nm_readFrom 47 = ka_il 4 2 := rfl
theorem d_Nm_readFrom_47 : decode prog_5_method_2_code 47 = .ok (.iload 4, 2) := by decide +kernel
set_option maxRecDepth 100000 in
theorem c_Nm_readFrom_49 : ct_Nm_readFrom 49 = ka_cv 64 3 5 0 0 := rfl
theorem d_Nm_readFrom_49 : decode prog_5_method_2_code 49 = .ok (.invokevirtual 35, 3) := by decide +kernel
set_option maxRecDepth 100000 in
theorem c_Nm_readFrom_52 : ct_Nm_readFrom 52 = ka_if (fun x => ¬ x = 0) 61 := rfl
theorem d_Nm_readFrom_52 : decode prog_5_method_2_code 52 = .ok (.ifCond .ne 9, 3) := by decide +kernel
set_option maxRecDepth 100000 in
theorem c_Nm_readFrom_55 : ct_Nm_readFrom 55 = ka_al 0 1 := rfl
theorem d_Nm_readFrom_55 : decode prog_5_method_2_code 55 = .ok (.aload_n 0, 1) := by decide +kernel
set_option maxRecDepth 100000 in
theorem c_Nm_readFrom_56 : ct_Nm_readFrom 56 = ka_ci (-1) 1 := rfl
theorem d_Nm_readFrom_56 : decode prog_5_method_2_code 56 = .ok (.iconst (-1), 1) := by decide +kernel
set_option maxRecDepth 100000 in
theorem c_Nm_readFrom_57 : ct_Nm_readFrom 57 = ka_put 5 2 .int := rfl
theorem d_Nm_readFrom_57 : decode prog_5_method_2_code 57 = .ok (.putfield 19, 3) := by decide +kernel
set_option maxRecDepth 100000 in
theorem c_Nm_readFrom_60 : ct_Nm_readFrom 60 = ka_ret := rfl
theorem d_Nm_readFrom_60 : decode prog_5_method_2_code 60 = .ok (.return_, 1) := by decide +kernel
set_option maxRecDepth 100000 in
theorem c_Nm_readFrom_61 : ct_Nm_readFrom 61 = ka_il 4 2 := rfl
theorem d_Nm_readFrom_61 : decode prog_5_method_2_code 61 = .ok (.iload 4, 2) := by decide +kernel
set_option maxRecDepth 100000 in
theorem c_Nm_readFrom_63 : ct_Nm_readFrom 63 = ka_ci (nI 1) 1 := rfl
theorem d_Nm_readFrom_63 : decode prog_5_method_2_code 63 = .ok (.iconst 1, 1) := by decide +kernel
set_option maxRecDepth 100000 in
theorem c_Nm_readFrom_64 : ct_Nm_readFrom 64 = ka_ii (fun x y => x + y) := rfl
theorem d_Nm_readFrom_64 : decode prog_5_method_2_code 64 = .ok (.iadd, 1) := by decide +kernel
set_option maxRecDepth 100000 in
theorem c_Nm_readFrom_65 : ct_Nm_readFrom 65 = ka_is 2 1 := rfl
theorem d_Nm_readFrom_65 : decode prog_5_method_2_code 65 = .ok (.istore_n 2, 1) := by decide +kernel
set_option maxRecDepth 100000 in
theorem c_Nm_readFrom_66 : ct_Nm_readFrom 66 = ka_inc 3 (nI 1) := rfl
theorem d_Nm_readFrom_66 : decode prog_5_method_2_code 66 = .ok (.iinc 3 1, 3) := by decide +kernel
set_option maxRecDepth 100000 in
theorem c_Nm_readFrom_69 : ct_Nm_readFrom 69 = ka_goto 24 := rfl
theorem d_Nm_readFrom_69 : decode prog_5_method_2_code 69 = .ok (.goto (-45), 3) := by decide +kernel
set_option maxRecDepth 100000 in
theorem c_Nm_readFrom_72 : ct_Nm_readFrom 72 = ka_il 2 1 := rfl
theorem d_Nm_readFrom_72 : decode prog_5_method_2_code 72 = .ok (.iload_n 2, 1) := by decide +kernel
set_option maxRecDepth 100000 in
theorem c_Nm_readFrom_73 : ct_Nm_readFrom 73 = ka_al 1 1 := rfl
theorem d_Nm_readFrom_73 : decode prog_5_method_2_code 73 = .ok (.aload_n 1, 1) := by decide +kernel
set_option maxRecDepth 100000 in
theorem c_Nm_readFrom_74 : ct_Nm_readFrom 74 = ka_get 1 7 := rfl
theorem d_Nm_readFrom_74 : decode prog_5_method_2_code 74 = .ok (.getfield 28, 3) := by decide +kernel
set_option maxRecDepth 100000 in
theorem c_Nm_readFrom_77 : ct_Nm_readFrom 77 = ka_ci (nI 1) 1 := rfl
theorem d_Nm_readFrom_77 : decode prog_5_method_2_code 77 = .ok (.iconst 1, 1) := by decide +kernel
set_option maxRecDepth 100000 in
theorem c_Nm_readFrom_78 : ct_Nm_readFrom 78 = ka_ii (fun x y => x + y) := rfl
theorem d_Nm_readFrom_78 : decode prog_5_method_2_code 78 = .ok (.iadd, 1) := by decide +kernel
set_option maxRecDepth 100000 in
theorem c_Nm_readFrom_79 : ct_Nm_readFrom 79 = ka_cm (fun x y => x = y) 87 := rfl
theorem d_Nm_readFrom_79 : decode prog_5_method_2_code 79 = .ok (.if_icmp .eq 8, 3) := by decide +kernel
set_option maxRecDepth 100000 in
theorem c_Nm_readFrom_82 : ct_Nm_readFrom 82 = ka_al 0 1 := rfl
theorem d_Nm_readFrom_82 : decode prog_5_method_2_code 82 = .ok (.aload_n 0, 1) := by decide +kernel
set_option maxRecDepth 100000 in
theorem c_Nm_readFrom_83 : ct_Nm_readFrom 83 = ka_ci (-1) 1 := rfl
theorem d_Nm_readFrom_83 : decode prog_5_method_2_code 83 = .ok (.iconst (-1), 1) := by decide +kernel
set_option maxRecDepth 100000 in
theorem c_Nm_readFrom_84 : ct_Nm_readFrom 84 = ka_put 5 2 .int := rfl
theorem d_Nm_readFrom_84 : decode prog_5_method_2_code 84 = .ok (.putfield 19, 3) := by decide +kernel
set_option maxRecDepth 100000 in
theorem c_Nm_readFrom_87 : ct_Nm_readFrom 87 = ka_ret := rfl
theorem d_Nm_readFrom_87 : decode prog_5_method_2_code 87 = .ok (.return_, 1) := by decide +kernel
set_option maxRecDepth 100000 in
set_option maxHeartbeats 4000000 in
theorem s_Nm_readFrom_60 : ∀ pc, pc < 60 → kc_Sim kt kw_A kw_N kt_cl kt_En "DirectoryDesk$Name" prog_5_method_2_code 5 (none) "readFrom" none pc (ct_Nm_readFrom pc) := by
  let P : Nat → Prop := fun pc => kc_Sim kt kw_A kw_N kt_cl kt_En "DirectoryDesk$Name" prog_5_method_2_code 5 (none) "readFrom" none pc (ct_Nm_readFrom pc)
  exact kc_case (P := P) (kc_se rfl sm_no) (
  kc_case (P := P) (kc_se rfl sm_no) (
  kc_case (P := P) (kc_se c_Nm_readFrom_57 (sm_put (ci := 5) (C := "DirectoryDesk$Name") (F := kF_Nm) rfl kin_Nm kty_Nm ktk_Nm knm_Nm (Nat.le_of_ble_eq_true rfl) (by decide +kernel) d_Nm_readFrom_57 (kw1 103 rfl rfl) rfl)) (
  kc_case (P := P) (kc_se c_Nm_readFrom_56 (sm_iconst d_Nm_readFrom_56 (by decide))) (
  kc_case (P := P) (kc_se c_Nm_readFrom_55 (sm_aload_n d_Nm_readFrom_55 rfl)) (
  kc_case (P := P) (kc_se rfl sm_no) (
  kc_case (P := P) (kc_se rfl sm_no) (
  kc_case (P := P) (kc_se c_Nm_readFrom_52 (sm_if_ne d_Nm_readFrom_52 (by decide))) (
  kc_case (P := P) (kc_se rfl sm_no) (
  kc_case (P := P) (kc_se rfl sm_no) (
  kc_case (P := P) (kc_se c_Nm_readFrom_49 (sm_cv (j := 64) rfl rfl kw_o kw_g wc_Nm_readPart (Nat.le_of_ble_eq_true rfl) hd_Nm_readPart (ci := 5) (F := kF_Nm) (N := 3) rfl (kw2 101 rfl rfl) wi_Nm_readPart ws_Nm_readPart wn_Nm_readPart d_Nm_readFrom_49)) (
  kc_case (P := P) (kc_se rfl sm_no) (
  kc_case (P := P) (kc_se c_Nm_readFrom_47 (sm_iload d_Nm_readFrom_47)) (
  kc_case (P := P) (kc_se c_Nm_readFrom_46 (sm_iload_n d_Nm_readFrom_46 rfl)) (
  kc_case (P := P) (kc_se c_Nm_readFrom_45 (sm_aload_n d_Nm_readFrom_45 rfl)) (
  kc_case (P := P) (kc_se c_Nm_readFrom_44 (sm_aload_n d_Nm_readFrom_44 rfl)) (
  kc_case (P := P) (kc_se rfl sm_no) (
  kc_case (P := P) (kc_se c_Nm_readFrom_42 (sm_istore d_Nm_readFrom_42 (Nat.le_of_ble_eq_true rfl))) (
  kc_case (P := P) (kc_se rfl sm_no) (
  kc_case (P := P) (kc_se rfl sm_no) (
  kc_case (P := P) (kc_se c_Nm_readFrom_39 (sm_cv (j := 42) rfl rfl kw_o kw_g wc_Rd_partEnd (Nat.le_of_ble_eq_true rfl) hd_Rd_partEnd (ci := 1) (F := kF_Rd) (N := 8) rfl (kw2 97 rfl rfl) wi_Rd_partEnd ws_Rd_partEnd wn_Rd_partEnd d_Nm_readFrom_39)) (
  kc_case (P := P) (kc_se c_Nm_readFrom_38 (sm_iload_n d_Nm_readFrom_38 rfl)) (
  kc_case (P := P) (kc_se c_Nm_readFrom_37 (sm_aload_n d_Nm_readFrom_37 rfl)) (
  kc_case (P := P) (kc_se rfl sm_no) (
  kc_case (P := P) (kc_se rfl sm_no) (
  kc_case (P := P) (kc_se c_Nm_readFrom_34 (sm_cm_ge d_Nm_readFrom_34 (by decide))) (
  kc_case (P := P) (kc_se rfl sm_no) (
  kc_case (P := P) (kc_se rfl sm_no) (
  kc_case (P := P) (kc_se c_Nm_readFrom_31 (sm_get (ci := 1) (C := "DirectoryDesk$Reader") (F := kF_Rd) rfl kin_Rd (Nat.le_of_ble_eq_true rfl) d_Nm_readFrom_31 (kw1 42 rfl rfl))) (
  kc_case (P := P) (kc_se c_Nm_readFrom_30 (sm_aload_n d_Nm_readFrom_30 rfl)) (
  kc_case (P := P) (kc_se c_Nm_readFrom_29 (sm_iload_n d_Nm_readFrom_29 rfl)) (
  kc_case (P := P) (kc_se rfl sm_no) (
  kc_case (P := P) (kc_se rfl sm_no) (
  kc_case (P := P) (kc_se c_Nm_readFrom_26 (sm_cm_ge d_Nm_readFrom_26 (by decide))) (
  kc_case (P := P) (kc_se c_Nm_readFrom_25 (sm_iconst d_Nm_readFrom_25 (by decide))) (
  kc_case (P := P) (kc_se c_Nm_readFrom_24 (sm_iload_n d_Nm_readFrom_24 rfl)) (
  kc_case (P := P) (kc_se c_Nm_readFrom_23 (sm_istore_n d_Nm_readFrom_23 rfl (Nat.le_of_ble_eq_true rfl))) (
  kc_case (P := P) (kc_se c_Nm_readFrom_22 (sm_iconst d_Nm_readFrom_22 (by decide))) (
  kc_case (P := P) (kc_se c_Nm_readFrom_21 (sm_istore_n d_Nm_readFrom_21 rfl (Nat.le_of_ble_eq_true rfl))) (
  kc_case (P := P) (kc_se rfl sm_no) (
  kc_case (P := P) (kc_se rfl sm_no) (
  kc_case (P := P) (kc_se c_Nm_readFrom_18 (sm_get (ci := 1) (C := "DirectoryDesk$Reader") (F := kF_Rd) rfl kin_Rd (Nat.le_of_ble_eq_true rfl) d_Nm_readFrom_18 (kw1 39 rfl rfl))) (
  kc_case (P := P) (kc_se c_Nm_readFrom_17 (sm_aload_n d_Nm_readFrom_17 rfl)) (
  kc_case (P := P) (kc_se c_Nm_readFrom_16 (sm_ret d_Nm_readFrom_16 rfl)) (
  kc_case (P := P) (kc_se rfl sm_no) (
  kc_case (P := P) (kc_se rfl sm_no) (
  kc_case (P := P) (kc_se c_Nm_readFrom_13 (sm_cm_ne d_Nm_readFrom_13 (by decide))) (
  kc_case (P := P) (kc_se rfl sm_no) (
  kc_case (P := P) (kc_se rfl sm_no) (
  kc_case (P := P) (kc_se c_Nm_readFrom_10 (sm_get (ci := 1) (C := "DirectoryDesk$Reader") (F := kF_Rd) rfl kin_Rd (Nat.le_of_ble_eq_true rfl) d_Nm_readFrom_10 (kw1 42 rfl rfl))) (
  kc_case (P := P) (kc_se c_Nm_readFrom_9 (sm_aload_n d_Nm_readFrom_9 rfl)) (
  kc_case (P := P) (kc_se rfl sm_no) (
  kc_case (P := P) (kc_se rfl sm_no) (
  kc_case (P := P) (kc_se c_Nm_readFrom_6 (sm_get (ci := 1) (C := "DirectoryDesk$Reader") (F := kF_Rd) rfl kin_Rd (Nat.le_of_ble_eq_true rfl) d_Nm_readFrom_6 (kw1 39 rfl rfl))) (
  kc_case (P := P) (kc_se c_Nm_readFrom_5 (sm_aload_n d_Nm_readFrom_5 rfl)) (
  kc_case (P := P) (kc_se rfl sm_no) (
  kc_case (P := P) (kc_se rfl sm_no) (
  kc_case (P := P) (kc_se c_Nm_readFrom_2 (sm_put (ci := 5) (C := "DirectoryDesk$Name") (F := kF_Nm) rfl kin_Nm kty_Nm ktk_Nm knm_Nm (Nat.le_of_ble_eq_true rfl) (by decide +kernel) d_Nm_readFrom_2 (kw1 103 rfl rfl) rfl)) (
  kc_case (P := P) (kc_se c_Nm_readFrom_1 (sm_iconst d_Nm_readFrom_1 (by decide))) (
  kc_case (P := P) (kc_se c_Nm_readFrom_0 (sm_aload_n d_Nm_readFrom_0 rfl)) (
  kc_case0))))))))))))))))))))))))))))))))))))))))))))))))))))))))))))
set_option maxRecDepth 100000 in
set_option maxHeartbeats 4000000 in
theorem s_Nm_readFrom_88 : ∀ pc, pc < 88 → kc_Sim kt kw_A kw_N kt_cl kt_En "DirectoryDesk$Name" prog_5_method_2_code 5 (none) "readFrom" none pc (ct_Nm_readFrom pc) := by
  let P : Nat → Prop := fun pc => kc_Sim kt kw_A kw_N kt_cl kt_En "DirectoryDesk$Name" prog_5_method_2_code 5 (none) "readFrom" none pc (ct_Nm_readFrom pc)
  exact kc_case (P := P) (kc_se c_Nm_readFrom_87 (sm_ret d_Nm_readFrom_87 rfl)) (
  kc_case (P := P) (kc_se rfl sm_no) (
  kc_case (P := P) (kc_se rfl sm_no) (
  kc_case (P := P) (kc_se c_Nm_readFrom_84 (sm_put (ci := 5) (C := "DirectoryDesk$Name") (F := kF_Nm) rfl kin_Nm kty_Nm ktk_Nm knm_Nm (Nat.le_of_ble_eq_true rfl) (by decide +kernel) d_Nm_readFrom_84 (kw1 103 rfl rfl) rfl)) (
  kc_case (P := P) (kc_se c_Nm_readFrom_83 (sm_iconst d_Nm_readFrom_83 (by decide))) (
  kc_case (P := P) (kc_se c_Nm_readFrom_82 (sm_aload_n d_Nm_readFrom_82 rfl)) (
  kc_case (P := P) (kc_se rfl sm_no) (
  kc_case (P := P) (kc_se rfl sm_no) (
  kc_case (P := P) (kc_se c_Nm_readFrom_79 (sm_cm_eq d_Nm_readFrom_79 (by decide))) (
  kc_case (P := P) (kc_se c_Nm_readFrom_78 (sm_iadd d_Nm_readFrom_78)) (
  kc_case (P := P) (kc_se c_Nm_readFrom_77 (sm_iconst d_Nm_readFrom_77 (by decide))) (
  kc_case (P := P) (kc_se rfl sm_no) (
  kc_case (P := P) (kc_se rfl sm_no) (
  kc_case (P := P) (kc_se c_Nm_readFrom_74 (sm_get (ci := 1) (C := "DirectoryDesk$Reader") (F := kF_Rd) rfl kin_Rd (Nat.le_of_ble_eq_true rfl) d_Nm_readFrom_74 (kw1 42 rfl rfl))) (
  kc_case (P := P) (kc_se c_Nm_readFrom_73 (sm_aload_n d_Nm_readFrom_73 rfl)) (
  kc_case (P := P) (kc_se c_Nm_readFrom_72 (sm_iload_n d_Nm_readFrom_72 rfl)) (
  kc_case (P := P) (kc_se rfl sm_no) (
  kc_case (P := P) (kc_se rfl sm_no) (
  kc_case (P := P) (kc_se c_Nm_readFrom_69 (sm_goto d_Nm_readFrom_69 (by decide))) (
  kc_case (P := P) (kc_se rfl sm_no) (
  kc_case (P := P) (kc_se rfl sm_no) (
  kc_case (P := P) (kc_se c_Nm_readFrom_66 (sm_inc d_Nm_readFrom_66 (by decide) (Nat.le_of_ble_eq_true rfl))) (
  kc_case (P := P) (kc_se c_Nm_readFrom_65 (sm_istore_n d_Nm_readFrom_65 rfl (Nat.le_of_ble_eq_true rfl))) (
  kc_case (P := P) (kc_se c_Nm_readFrom_64 (sm_iadd d_Nm_readFrom_64)) (
  kc_case (P := P) (kc_se c_Nm_readFrom_63 (sm_iconst d_Nm_readFrom_63 (by decide))) (
  kc_case (P := P) (kc_se rfl sm_no) (
  kc_case (P := P) (kc_se c_Nm_readFrom_61 (sm_iload d_Nm_readFrom_61)) (
  kc_case (P := P) (kc_se c_Nm_readFrom_60 (sm_ret d_Nm_readFrom_60 rfl)) (
  s_Nm_readFrom_60))))))))))))))))))))))))))))
theorem ka_nth_no_Nm_readFrom (pc : Nat) (h : 88 ≤ pc) : ct_Nm_readFrom pc = ka_no := ka_nth_ge _ pc (Nat.le_trans (Nat.le_of_eq (by rfl)) h)
theorem s_Nm_readFrom (pc : Nat) : kc_Sim kt kw_A kw_N kt_cl kt_En "DirectoryDesk$Name" prog_5_method_2_code 5 (none) "readFrom" none pc (ct_Nm_readFrom pc) := (Nat.lt_or_ge pc 88).elim (s_Nm_readFrom_88 pc) (fun h => kc_se (ka_nth_no_Nm_readFrom pc h) sm_no)
def cl_Nm_readPart_0 : List kc_A := [ka_il 3 1, ka_il 2 1, ka_ii (fun x y => x - y), ka_ci (nI 3) 1, ka_cm (fun x y => x < y) 20, ka_no, ka_no, ka_al 1 1, ka_get 1 0, ka_no, ka_no, ka_il 2 1, ka_ci (nI 1) 1, ka_ii (fun x y => x + y), ka_iald, ka_ci (nI 61) 2, ka_no, ka_cm (fun x y => x = y) 22, ka_no, ka_no, ka_ci (nI 0) 1, ka_rz, ka_al 1 1, ka_get 1 0, ka_no, ka_no, ka_il 2 1, ka_iald, ka_cs 43 1 0 0, ka_no, ka_no, ka_is 4 2, ka_no, ka_al 1 1, ka_il 2 1, ka_ci (nI 2) 1, ka_ii (fun x y => x + y), ka_il 3 1, ka_cv 41 2 1 0 0, ka_no, ka_no, ka_ls 5 2, ka_no, ka_il 4 2, ka_no, ka_ci (-1) 1, ka_cm (fun x y => x = y) 58, ka_no, ka_no, ka_ll 5 2, ka_no, ka_cl (-1) 3, ka_no, ka_no, ka_lcmp, ka_if (fun x => ¬ x = 0) 60, ka_no, ka_no, ka_ci (nI 0) 1, ka_rz]
def cl_Nm_readPart_1 : List kc_A := [ka_al 0 1, ka_il 4 2, ka_no, ka_ll 5 2, ka_no, ka_cv 65 2 5 0 0, ka_no, ka_no, ka_ci (nI 1) 1, ka_rz]
def ct_Nm_readPart : Nat → kc_A := fun pc => ka_nth (cl_Nm_readPart_0 ++ (cl_Nm_readPart_1)) pc
set_option maxRecDepth 100000 in
theorem c_Nm_readPart_0 : ct_Nm_readPart 0 = ka_il 3 1 := rfl
theorem d_Nm_readPart_0 : decode prog_5_method_3_code 0 = .ok (.iload_n 3, 1) := by decide +kernel
set_option maxRecDepth 100000 in
theorem c_Nm_readPart_1 : ct_Nm_readPart 1 = ka_il 2 1 := rfl
theorem d_Nm_readPart_1 : decode prog_5_method_3_code 1 = .ok (.iload_n 2, 1) := by decide +kernel
set_option maxRecDepth 100000 in
theorem c_Nm_readPart_2 : ct_Nm_readPart 2 = ka_ii (fun x y => x - y) := rfl
theorem d_Nm_readPart_2 : decode prog_5_method_3_code 2 = .ok (.isub, 1) := by decide +kernel
set_option maxRecDepth 100000 in
theorem c_Nm_readPart_3 : ct_Nm_readPart 3 = ka_ci (nI 3) 1 := rfl
theorem d_Nm_readPart_3 : decode prog_5_method_3_code 3 = .ok (.iconst 3, 1) := by decide +kernel
set_option maxRecDepth 100000 in
theorem c_Nm_readPart_4 : ct_Nm_readPart 4 = ka_cm (fun x y => x < y) 20 := rfl
theorem d_Nm_readPart_4 : decode prog_5_method_3_code 4 = .ok (.if_icmp .lt 16, 3) := by decide +kernel
set_option maxRecDepth 100000 in
theorem c_Nm_readPart_7 : ct_Nm_readPart 7 = ka_al 1 1 := rfl
theorem d_Nm_readPart_7 : decode prog_5_method_3_code 7 = .ok (.aload_n 1, 1) := by decide +kernel
set_option maxRecDepth 100000 in
theorem c_Nm_readPart_8 : ct_Nm_readPart 8 = ka_get 1 0 := rfl
theorem d_Nm_readPart_8 : decode prog_5_method_3_code 8 = .ok (.getfield 39, 3) := by decide +kernel
set_option maxRecDepth 100000 in
theorem c_Nm_readPart_11 : ct_Nm_readPart 11 = ka_il 2 1 := rfl
theorem d_Nm_readPart_11 : decode prog_5_method_3_code 11 = .ok (.iload_n 2, 1) := by decide +kernel
set_option maxRecDepth 100000 in
theorem c_Nm_readPart_12 : ct_Nm_readPart 12 = ka_ci (nI 1) 1 := rfl
theorem d_Nm_readPart_12 : decode prog_5_method_3_code 12 = .ok (.iconst 1, 1) := by decide +kernel
set_option maxRecDepth 100000 in
theorem c_Nm_readPart_13 : ct_Nm_readPart 13 = ka_ii (fun x y => x + y) := rfl
theorem d_Nm_readPart_13 : decode prog_5_method_3_code 13 = .ok (.iadd, 1) := by decide +kernel
set_option maxRecDepth 100000 in
theorem c_Nm_readPart_14 : ct_Nm_readPart 14 = ka_iald := rfl
theorem d_Nm_readPart_14 : decode prog_5_method_3_code 14 = .ok (.iaload, 1) := by decide +kernel
set_option maxRecDepth 100000 in
theorem c_Nm_readPart_15 : ct_Nm_readPart 15 = ka_ci (nI 61) 2 := rfl
theorem d_Nm_readPart_15 : decode prog_5_method_3_code 15 = .ok (.bipush 61, 2) := by decide +kernel
set_option maxRecDepth 100000 in
theorem c_Nm_readPart_17 : ct_Nm_readPart 17 = ka_cm (fun x y => x = y) 22 := rfl
theorem d_Nm_readPart_17 : decode prog_5_method_3_code 17 = .ok (.if_icmp .eq 5, 3) := by decide +kernel
set_option maxRecDepth 100000 in
theorem c_Nm_readPart_20 : ct_Nm_readPart 20 = ka_ci (nI 0) 1 := rfl
theorem d_Nm_readPart_20 : decode prog_5_method_3_code 20 = .ok (.iconst 0, 1) := by decide +kernel
set_option maxRecDepth 100000 in
theorem c_Nm_readPart_21 : ct_Nm_readPart 21 = ka_rz := rfl
theorem d_Nm_readPart_21 : decode prog_5_method_3_code 21 = .ok (.ireturn, 1) := by decide +kernel
set_option maxRecDepth 100000 in
theorem c_Nm_readPart_22 : ct_Nm_readPart 22 = ka_al 1 1 := rfl
theorem d_Nm_readPart_22 : decode prog_5_method_3_code 22 = .ok (.aload_n 1, 1) := by decide +kernel
set_option maxRecDepth 100000 in
theorem c_Nm_readPart_23 : ct_Nm_readPart 23 = ka_get 1 0 := rfl
theorem d_Nm_readPart_23 : decode prog_5_method_3_code 23 = .ok (.getfield 39, 3) := by decide +kernel
set_option maxRecDepth 100000 in
theorem c_Nm_readPart_26 : ct_Nm_readPart 26 = ka_il 2 1 := rfl
theorem d_Nm_readPart_26 : decode prog_5_method_3_code 26 = .ok (.iload_n 2, 1) := by decide +kernel
set_option maxRecDepth 100000 in
theorem c_Nm_readPart_27 : ct_Nm_readPart 27 = ka_iald := rfl
theorem d_Nm_readPart_27 : decode prog_5_method_3_code 27 = .ok (.iaload, 1) := by decide +kernel
set_option maxRecDepth 100000 in
theorem c_Nm_readPart_28 : ct_Nm_readPart 28 = ka_cs 43 1 0 0 := rfl
theorem d_Nm_readPart_28 : decode prog_5_method_3_code 28 = .ok (.invokestatic 42, 3) := by decide +kernel
set_option maxRecDepth 100000 in
theorem c_Nm_readPart_31 : ct_Nm_readPart 31 = ka_is 4 2 := rfl
theorem d_Nm_readPart_31 : decode prog_5_method_3_code 31 = .ok (.istore 4, 2) := by decide +kernel
set_option maxRecDepth 100000 in
theorem c_Nm_readPart_33 : ct_Nm_readPart 33 = ka_al 1 1 := rfl
theorem d_Nm_readPart_33 : decode prog_5_method_3_code 33 = .ok (.aload_n 1, 1) := by decide +kernel
set_option maxRecDepth 100000 in
theorem c_Nm_readPart_34 : ct_Nm_readPart 34 = ka_il 2 1 := rfl
theorem d_Nm_readPart_34 : decode prog_5_method_3_code 34 = .ok (.iload_n 2, 1) := by decide +kernel
set_option maxRecDepth 100000 in
theorem c_Nm_readPart_35 : ct_Nm_readPart 35 = ka_ci (nI 2) 1 := rfl
theorem d_Nm_readPart_35 : decode prog_5_method_3_code 35 = .ok (.iconst 2, 1) := by decide +kernel
set_option maxRecDepth 100000 in
theorem c_Nm_readPart_36 : ct_Nm_readPart 36 = ka_ii (fun x y => x + y) := rfl
theorem d_Nm_readPart_36 : decode prog_5_method_3_code 36 = .ok (.iadd, 1) := by decide +kernel
set_option maxRecDepth 100000 in
theorem c_Nm_readPart_37 : ct_Nm_readPart 37 = ka_il 3 1 := rfl
theorem d_Nm_readPart_37 : decode prog_5_method_3_code 37 = .ok (.iload_n 3, 1) := by decide +kernel
set_option maxRecDepth 100000 in
theorem c_Nm_readPart_38 : ct_Nm_readPart 38 = ka_cv 41 2 1 0 0 := rfl
theorem d_Nm_readPart_38 : decode prog_5_method_3_code 38 = .ok (.invokevirtual 45, 3) := by decide +kernel
set_option maxRecDepth 100000 in
theorem c_Nm_readPart_41 : ct_Nm_readPart 41 = ka_ls 5 2 := rfl
theorem d_Nm_readPart_41 : decode prog_5_method_3_code 41 = .ok (.lstore 5, 2) := by decide +kernel
set_option maxRecDepth 100000 in
theorem c_Nm_readPart_43 : ct_Nm_readPart 43 = ka_il 4 2 := rfl
theorem d_Nm_readPart_43 : decode prog_5_method_3_code 43 = .ok (.iload 4, 2) := by decide +kernel
set_option maxRecDepth 100000 in
theorem c_Nm_readPart_45 : ct_Nm_readPart 45 = ka_ci (-1) 1 := rfl
theorem d_Nm_readPart_45 : decode prog_5_method_3_code 45 = .ok (.iconst (-1), 1) := by decide +kernel
set_option maxRecDepth 100000 in
theorem c_Nm_readPart_46 : ct_Nm_readPart 46 = ka_cm (fun x y => x = y) 58 := rfl
theorem d_Nm_readPart_46 : decode prog_5_method_3_code 46 = .ok (.if_icmp .eq 12, 3) := by decide +kernel
set_option maxRecDepth 100000 in
theorem c_Nm_readPart_49 : ct_Nm_readPart 49 = ka_ll 5 2 := rfl
theorem d_Nm_readPart_49 : decode prog_5_method_3_code 49 = .ok (.lload 5, 2) := by decide +kernel
set_option maxRecDepth 100000 in
theorem c_Nm_readPart_51 : ct_Nm_readPart 51 = ka_cl (-1) 3 := rfl
theorem d_Nm_readPart_51 : decode prog_5_method_3_code 51 = .ok (.ldc2_w 49, 3) := by decide +kernel
set_option maxRecDepth 100000 in
theorem c_Nm_readPart_54 : ct_Nm_readPart 54 = ka_lcmp := rfl
theorem d_Nm_readPart_54 : decode prog_5_method_3_code 54 = .ok (.lcmp, 1) := by decide +kernel
set_option maxRecDepth 100000 in
theorem c_Nm_readPart_55 : ct_Nm_readPart 55 = ka_if (fun x => ¬ x = 0) 60 := rfl
theorem d_Nm_readPart_55 : decode prog_5_method_3_code 55 = .ok (.ifCond .ne 5, 3) := by decide +kernel
set_option maxRecDepth 100000 in
theorem c_Nm_readPart_58 : ct_Nm_readPart 58 = ka_ci (nI 0) 1 := rfl
theorem d_Nm_readPart_58 : decode prog_5_method_3_code 58 = .ok (.iconst 0, 1) := by decide +kernel
set_option maxRecDepth 100000 in
theorem c_Nm_readPart_59 : ct_Nm_readPart 59 = ka_rz := rfl
theorem d_Nm_readPart_59 : decode prog_5_method_3_code 59 = .ok (.ireturn, 1) := by decide +kernel
set_option maxRecDepth 100000 in
theorem c_Nm_readPart_60 : ct_Nm_readPart 60 = ka_al 0 1 := rfl
theorem d_Nm_readPart_60 : decode prog_5_method_3_code 60 = .ok (.aload_n 0, 1) := by decide +kernel
set_option maxRecDepth 100000 in
theorem c_Nm_readPart_61 : ct_Nm_readPart 61 = ka_il 4 2 := rfl
theorem d_Nm_readPart_61 : decode prog_5_method_3_code 61 = .ok (.iload 4, 2) := by decide +kernel
set_option maxRecDepth 100000 in
theorem c_Nm_readPart_63 : ct_Nm_readPart 63 = ka_ll 5 2 := rfl
theorem d_Nm_readPart_63 : decode prog_5_method_3_code 63 = .ok (.lload 5, 2) := by decide +kernel
set_option maxRecDepth 100000 in
theorem c_Nm_readPart_65 : ct_Nm_readPart 65 = ka_cv 65 2 5 0 0 := rfl
theorem d_Nm_readPart_65 : decode prog_5_method_3_code 65 = .ok (.invokevirtual 51, 3) := by decide +kernel
set_option maxRecDepth 100000 in
theorem c_Nm_readPart_68 : ct_Nm_readPart 68 = ka_ci (nI 1) 1 := rfl
theorem d_Nm_readPart_68 : decode prog_5_method_3_code 68 = .ok (.iconst 1, 1) := by decide +kernel
set_option maxRecDepth 100000 in
theorem c_Nm_readPart_69 : ct_Nm_readPart 69 = ka_rz := rfl
theorem d_Nm_readPart_69 : decode prog_5_method_3_code 69 = .ok (.ireturn, 1) := by decide +kernel
set_option maxRecDepth 100000 in
set_option maxHeartbeats 4000000 in
theorem s_Nm_readPart_60 : ∀ pc, pc < 60 → kc_Sim kt kw_A kw_N kt_cl kt_En "DirectoryDesk$Name" prog_5_method_3_code 7 (some .boolean) "readPart" none pc (ct_Nm_readPart pc) := by
  let P : Nat → Prop := fun pc => kc_Sim kt kw_A kw_N kt_cl kt_En "DirectoryDesk$Name" prog_5_method_3_code 7 (some .boolean) "readPart" none pc (ct_Nm_readPart pc)
  exact kc_case (P := P) (kc_se c_Nm_readPart_59 (sm_rz d_Nm_readPart_59 rfl)) (
  kc_case (P := P) (kc_se c_Nm_readPart_58 (sm_iconst d_Nm_readPart_58 (by decide))) (
  kc_case (P := P) (kc_se rfl sm_no) (
  kc_case (P := P) (kc_se rfl sm_no) (
  kc_case (P := P) (kc_se c_Nm_readPart_55 (sm_if_ne d_Nm_readPart_55 (by decide))) (
  kc_case (P := P) (kc_se c_Nm_readPart_54 (sm_lcmp d_Nm_readPart_54)) (
  kc_case (P := P) (kc_se rfl sm_no) (
  kc_case (P := P) (kc_se rfl sm_no) (
  kc_case (P := P) (kc_se c_Nm_readPart_51 (sm_ldc2 d_Nm_readPart_51 (kw2 116 rfl rfl))) (
  kc_case (P := P) (kc_se rfl sm_no) (
  kc_case (P := P) (kc_se c_Nm_readPart_49 (sm_lload d_Nm_readPart_49)) (
  kc_case (P := P) (kc_se rfl sm_no) (
  kc_case (P := P) (kc_se rfl sm_no) (
  kc_case (P := P) (kc_se c_Nm_readPart_46 (sm_cm_eq d_Nm_readPart_46 (by decide))) (
  kc_case (P := P) (kc_se c_Nm_readPart_45 (sm_iconst d_Nm_readPart_45 (by decide))) (
  kc_case (P := P) (kc_se rfl sm_no) (
  kc_case (P := P) (kc_se c_Nm_readPart_43 (sm_iload d_Nm_readPart_43)) (
  kc_case (P := P) (kc_se rfl sm_no) (
  kc_case (P := P) (kc_se c_Nm_readPart_41 (sm_lstore d_Nm_readPart_41 (Nat.le_of_ble_eq_true rfl))) (
  kc_case (P := P) (kc_se rfl sm_no) (
  kc_case (P := P) (kc_se rfl sm_no) (
  kc_case (P := P) (kc_se c_Nm_readPart_38 (sm_cv (j := 41) rfl rfl kw_o kw_g wc_Rd_valueBetween (Nat.le_of_ble_eq_true rfl) hd_Rd_valueBetween (ci := 1) (F := kF_Rd) (N := 8) rfl (kw2 108 rfl rfl) wi_Rd_valueBetween ws_Rd_valueBetween wn_Rd_valueBetween d_Nm_readPart_38)) (
  kc_case (P := P) (kc_se c_Nm_readPart_37 (sm_iload_n d_Nm_readPart_37 rfl)) (
  kc_case (P := P) (kc_se c_Nm_readPart_36 (sm_iadd d_Nm_readPart_36)) (
  kc_case (P := P) (kc_se c_Nm_readPart_35 (sm_iconst d_Nm_readPart_35 (by decide))) (
  kc_case (P := P) (kc_se c_Nm_readPart_34 (sm_iload_n d_Nm_readPart_34 rfl)) (
  kc_case (P := P) (kc_se c_Nm_readPart_33 (sm_aload_n d_Nm_readPart_33 rfl)) (
  kc_case (P := P) (kc_se rfl sm_no) (
  kc_case (P := P) (kc_se c_Nm_readPart_31 (sm_istore d_Nm_readPart_31 (Nat.le_of_ble_eq_true rfl))) (
  kc_case (P := P) (kc_se rfl sm_no) (
  kc_case (P := P) (kc_se rfl sm_no) (
  kc_case (P := P) (kc_se c_Nm_readPart_28 (sm_cs (j := 43) rfl rfl kw_o kw_g wc_Rd_typeOf (Nat.le_of_ble_eq_true rfl) hd_Rd_typeOf (kw2 105 rfl rfl) wi_Rd_typeOf wn_Rd_typeOf d_Nm_readPart_28)) (
  kc_case (P := P) (kc_se c_Nm_readPart_27 (sm_iald d_Nm_readPart_27)) (
  kc_case (P := P) (kc_se c_Nm_readPart_26 (sm_iload_n d_Nm_readPart_26 rfl)) (
  kc_case (P := P) (kc_se rfl sm_no) (
  kc_case (P := P) (kc_se rfl sm_no) (
  kc_case (P := P) (kc_se c_Nm_readPart_23 (sm_get (ci := 1) (C := "DirectoryDesk$Reader") (F := kF_Rd) rfl kin_Rd (Nat.le_of_ble_eq_true rfl) d_Nm_readPart_23 (kw1 29 rfl rfl))) (
  kc_case (P := P) (kc_se c_Nm_readPart_22 (sm_aload_n d_Nm_readPart_22 rfl)) (
  kc_case (P := P) (kc_se c_Nm_readPart_21 (sm_rz d_Nm_readPart_21 rfl)) (
  kc_case (P := P) (kc_se c_Nm_readPart_20 (sm_iconst d_Nm_readPart_20 (by decide))) (
  kc_case (P := P) (kc_se rfl sm_no) (
  kc_case (P := P) (kc_se rfl sm_no) (
  kc_case (P := P) (kc_se c_Nm_readPart_17 (sm_cm_eq d_Nm_readPart_17 (by decide))) (
  kc_case (P := P) (kc_se rfl sm_no) (
  kc_case (P := P) (kc_se c_Nm_readPart_15 (sm_bipush d_Nm_readPart_15 (by decide))) (
  kc_case (P := P) (kc_se c_Nm_readPart_14 (sm_iald d_Nm_readPart_14)) (
  kc_case (P := P) (kc_se c_Nm_readPart_13 (sm_iadd d_Nm_readPart_13)) (
  kc_case (P := P) (kc_se c_Nm_readPart_12 (sm_iconst d_Nm_readPart_12 (by decide))) (
  kc_case (P := P) (kc_se c_Nm_readPart_11 (sm_iload_n d_Nm_readPart_11 rfl)) (
  kc_case (P := P) (kc_se rfl sm_no) (
  kc_case (P := P) (kc_se rfl sm_no) (
  kc_case (P := P) (kc_se c_Nm_readPart_8 (sm_get (ci := 1) (C := "DirectoryDesk$Reader") (F := kF_Rd) rfl kin_Rd (Nat.le_of_ble_eq_true rfl) d_Nm_readPart_8 (kw1 29 rfl rfl))) (
  kc_case (P := P) (kc_se c_Nm_readPart_7 (sm_aload_n d_Nm_readPart_7 rfl)) (
  kc_case (P := P) (kc_se rfl sm_no) (
  kc_case (P := P) (kc_se rfl sm_no) (
  kc_case (P := P) (kc_se c_Nm_readPart_4 (sm_cm_lt d_Nm_readPart_4 (by decide))) (
  kc_case (P := P) (kc_se c_Nm_readPart_3 (sm_iconst d_Nm_readPart_3 (by decide))) (
  kc_case (P := P) (kc_se c_Nm_readPart_2 (sm_isub d_Nm_readPart_2)) (
  kc_case (P := P) (kc_se c_Nm_readPart_1 (sm_iload_n d_Nm_readPart_1 rfl)) (
  kc_case (P := P) (kc_se c_Nm_readPart_0 (sm_iload_n d_Nm_readPart_0 rfl)) (
  kc_case0))))))))))))))))))))))))))))))))))))))))))))))))))))))))))))
set_option maxRecDepth 100000 in
set_option maxHeartbeats 4000000 in
theorem s_Nm_readPart_70 : ∀ pc, pc < 70 → kc_Sim kt kw_A kw_N kt_cl kt_En "DirectoryDesk$Name" prog_5_method_3_code 7 (some .boolean) "readPart" none pc (ct_Nm_readPart pc) := by
  let P : Nat → Prop := fun pc => kc_Sim kt kw_A kw_N kt_cl kt_En "DirectoryDesk$Name" prog_5_method_3_code 7 (some .boolean) "readPart" none pc (ct_Nm_readPart pc)
  exact kc_case (P := P) (kc_se c_Nm_readPart_69 (sm_rz d_Nm_readPart_69 rfl)) (
  kc_case (P := P) (kc_se c_Nm_readPart_68 (sm_iconst d_Nm_readPart_68 (by decide))) (
  kc_case (P := P) (kc_se rfl sm_no) (
  kc_case (P := P) (kc_se rfl sm_no) (
  kc_case (P := P) (kc_se c_Nm_readPart_65 (sm_cv (j := 65) rfl rfl kw_o kw_g wc_Nm_append (Nat.le_of_ble_eq_true rfl) hd_Nm_append (ci := 5) (F := kF_Nm) (N := 3) rfl (kw2 117 rfl rfl) wi_Nm_append ws_Nm_append wn_Nm_append d_Nm_readPart_65)) (
  kc_case (P := P) (kc_se rfl sm_no) (
  kc_case (P := P) (kc_se c_Nm_readPart_63 (sm_lload d_Nm_readPart_63)) (
  kc_case (P := P) (kc_se rfl sm_no) (
  kc_case (P := P) (kc_se c_Nm_readPart_61 (sm_iload d_Nm_readPart_61)) (
  kc_case (P := P) (kc_se c_Nm_readPart_60 (sm_aload_n d_Nm_readPart_60 rfl)) (
  s_Nm_readPart_60))))))))))
theorem ka_nth_no_Nm_readPart (pc : Nat) (h : 70 ≤ pc) : ct_Nm_readPart pc = ka_no := ka_nth_ge _ pc (Nat.le_trans (Nat.le_of_eq (by rfl)) h)
theorem s_Nm_readPart (pc : Nat) : kc_Sim kt kw_A kw_N kt_cl kt_En "DirectoryDesk$Name" prog_5_method_3_code 7 (some .boolean) "readPart" none pc (ct_Nm_readPart pc) := (Nat.lt_or_ge pc 70).elim (s_Nm_readPart_70 pc) (fun h => kc_se (ka_nth_no_Nm_readPart pc h) sm_no)
def cl_Nm_append_0 : List kc_A := [ka_al 0 1, ka_get 5 2, ka_no, ka_no, ka_if (fun x => x < 0) 45, ka_no, ka_no, ka_al 0 1, ka_get 5 2, ka_no, ka_no, ka_ci (nI 4) 1, ka_cm (fun x y => y ≤ x) 45, ka_no, ka_no, ka_al 0 1, ka_get 5 0, ka_no, ka_no, ka_al 0 1, ka_get 5 2, ka_no, ka_no, ka_il 1 1, ka_iast, ka_al 0 1, ka_get 5 1, ka_no, ka_no, ka_al 0 1, ka_get 5 2, ka_no, ka_no, ka_ll 2 1, ka_last, ka_al 0 1, ka_dup, ka_get 5 2, ka_no, ka_no, ka_ci (nI 1) 1, ka_ii (fun x y => x + y), ka_put 5 2 .int, ka_no, ka_no, ka_ret]
def ct_Nm_append : Nat → kc_A := fun pc => ka_nth (cl_Nm_append_0) pc
set_option maxRecDepth 100000 in
theorem c_Nm_append_0 : ct_Nm_append 0 = ka_al 0 1 := rfl
theorem d_Nm_append_0 : decode prog_5_method_4_code 0 = .ok (.aload_n 0, 1) := by decide +kernel
set_option maxRecDepth 100000 in
theorem c_Nm_append_1 : ct_Nm_append 1 = ka_get 5 2 := rfl
theorem d_Nm_append_1 : decode prog_5_method_4_code 1 = .ok (.getfield 19, 3) := by decide +kernel
set_option maxRecDepth 100000 in
theorem c_Nm_append_4 : ct_Nm_append 4 = ka_if (fun x => x < 0) 45 := rfl
theorem d_Nm_append_4 : decode prog_5_method_4_code 4 = .ok (.ifCond .lt 41, 3) := by decide +kernel
set_option maxRecDepth 100000 in
theorem c_Nm_append_7 : ct_Nm_append 7 = ka_al 0 1 := rfl
theorem d_Nm_append_7 : decode prog_5_method_4_code 7 = .ok (.aload_n 0, 1) := by decide +kernel
set_option maxRecDepth 100000 in
theorem c_Nm_append_8 : ct_Nm_append 8 = ka_get 5 2 := rfl
theorem d_Nm_append_8 : decode prog_5_method_4_code 8 = .ok (.getfield 19, 3) := by decide +kernel
set_option maxRecDepth 100000 in
theorem c_Nm_append_11 : ct_Nm_append 11 = ka_ci (nI 4) 1 := rfl
theorem d_Nm_append_11 : decode prog_5_method_4_code 11 = .ok (.iconst 4, 1) := by decide +kernel
set_option maxRecDepth 100000 in
theorem c_Nm_append_12 : ct_Nm_append 12 = ka_cm (fun x y => y ≤ x) 45 := rfl
theorem d_Nm_append_12 : decode prog_5_method_4_code 12 = .ok (.if_icmp .ge 33, 3) := by decide +kernel
set_option maxRecDepth 100000 in
theorem c_Nm_append_15 : ct_Nm_append 15 = ka_al 0 1 := rfl
theorem d_Nm_append_15 : decode prog_5_method_4_code 15 = .ok (.aload_n 0, 1) := by decide +kernel
set_option maxRecDepth 100000 in
theorem c_Nm_append_16 : ct_Nm_append 16 = ka_get 5 0 := rfl
theorem d_Nm_append_16 : decode prog_5_method_4_code 16 = .ok (.getfield 9, 3) := by decide +kernel
set_option maxRecDepth 100000 in
theorem c_Nm_append_19 : ct_Nm_append 19 = ka_al 0 1 := rfl
theorem d_Nm_append_19 : decode prog_5_method_4_code 19 = .ok (.aload_n 0, 1) := by decide +kernel
set_option maxRecDepth 100000 in
theorem c_Nm_append_20 : ct_Nm_append 20 = ka_get 5 2 := rfl
theorem d_Nm_append_20 : decode prog_5_method_4_code 20 = .ok (.getfield 19, 3) := by decide +kernel
set_option maxRecDepth 100000 in
theorem c_Nm_append_23 : ct_Nm_append 23 = ka_il 1 1 := rfl
theorem d_Nm_append_23 : decode prog_5_method_4_code 23 = .ok (.iload_n 1, 1) := by decide +kernel
set_option maxRecDepth 100000 in
theorem c_Nm_append_24 : ct_Nm_append 24 = ka_iast := rfl
theorem d_Nm_append_24 : decode prog_5_method_4_code 24 = .ok (.iastore, 1) := by decide +kernel
set_option maxRecDepth 100000 in
theorem c_Nm_append_25 : ct_Nm_append 25 = ka_al 0 1 := rfl
theorem d_Nm_append_25 : decode prog_5_method_4_code 25 = .ok (.aload_n 0, 1) := by decide +kernel
set_option maxRecDepth 100000 in
theorem c_Nm_append_26 : ct_Nm_append 26 = ka_get 5 1 := rfl
theorem d_Nm_append_26 : decode prog_5_method_4_code 26 = .ok (.getfield 15, 3) := by decide +kernel
set_option maxRecDepth 100000 in
theorem c_Nm_append_29 : ct_Nm_append 29 = ka_al 0 1 := rfl
theorem d_Nm_append_29 : decode prog_5_method_4_code 29 = .ok (.aload_n 0, 1) := by decide +kernel
set_option maxRecDepth 100000 in
theorem c_Nm_append_30 : ct_Nm_append 30 = ka_get 5 2 := rfl
theorem d_Nm_append_30 : decode prog_5_method_4_code 30 = .ok (.getfield 19, 3) := by decide +kernel
set_option maxRecDepth 100000 in
theorem c_Nm_append_33 : ct_Nm_append 33 = ka_ll 2 1 := rfl
theorem d_Nm_append_33 : decode prog_5_method_4_code 33 = .ok (.lload_n 2, 1) := by decide +kernel
set_option maxRecDepth 100000 in
theorem c_Nm_append_34 : ct_Nm_append 34 = ka_last := rfl
theorem d_Nm_append_34 : decode prog_5_method_4_code 34 = .ok (.lastore, 1) := by decide +kernel
set_option maxRecDepth 100000 in
theorem c_Nm_append_35 : ct_Nm_append 35 = ka_al 0 1 := rfl
theorem d_Nm_append_35 : decode prog_5_method_4_code 35 = .ok (.aload_n 0, 1) := by decide +kernel
set_option maxRecDepth 100000 in
theorem c_Nm_append_36 : ct_Nm_append 36 = ka_dup := rfl
theorem d_Nm_append_36 : decode prog_5_method_4_code 36 = .ok (.dup, 1) := by decide +kernel
set_option maxRecDepth 100000 in
theorem c_Nm_append_37 : ct_Nm_append 37 = ka_get 5 2 := rfl
theorem d_Nm_append_37 : decode prog_5_method_4_code 37 = .ok (.getfield 19, 3) := by decide +kernel
set_option maxRecDepth 100000 in
theorem c_Nm_append_40 : ct_Nm_append 40 = ka_ci (nI 1) 1 := rfl
theorem d_Nm_append_40 : decode prog_5_method_4_code 40 = .ok (.iconst 1, 1) := by decide +kernel
set_option maxRecDepth 100000 in
theorem c_Nm_append_41 : ct_Nm_append 41 = ka_ii (fun x y => x + y) := rfl
theorem d_Nm_append_41 : decode prog_5_method_4_code 41 = .ok (.iadd, 1) := by decide +kernel
set_option maxRecDepth 100000 in
theorem c_Nm_append_42 : ct_Nm_append 42 = ka_put 5 2 .int := rfl
theorem d_Nm_append_42 : decode prog_5_method_4_code 42 = .ok (.putfield 19, 3) := by decide +kernel
set_option maxRecDepth 100000 in
theorem c_Nm_append_45 : ct_Nm_append 45 = ka_ret := rfl
theorem d_Nm_append_45 : decode prog_5_method_4_code 45 = .ok (.return_, 1) := by decide +kernel
set_option maxRecDepth 100000 in
set_option maxHeartbeats 4000000 in
theorem s_Nm_append_46 : ∀ pc, pc < 46 → kc_Sim kt kw_A kw_N kt_cl kt_En "DirectoryDesk$Name" prog_5_method_4_code 4 (none) "append" none pc (ct_Nm_append pc) := by
  let P : Nat → Prop := fun pc => kc_Sim kt kw_A kw_N kt_cl kt_En "DirectoryDesk$Name" prog_5_method_4_code 4 (none) "append" none pc (ct_Nm_append pc)
  exact kc_case (P := P) (kc_se c_Nm_append_45 (sm_ret d_Nm_append_45 rfl)) (
  kc_case (P := P) (kc_se rfl sm_no) (
  kc_case (P := P) (kc_se rfl sm_no) (
  kc_case (P := P) (kc_se c_Nm_append_42 (sm_put (ci := 5) (C := "DirectoryDesk$Name") (F := kF_Nm) rfl kin_Nm kty_Nm ktk_Nm knm_Nm (Nat.le_of_ble_eq_true rfl) (by decide +kernel) d_Nm_append_42 (kw1 103 rfl rfl) rfl)) (
  kc_case (P := P) (kc_se c_Nm_append_41 (sm_iadd d_Nm_append_41)) (
  kc_case (P := P) (kc_se c_Nm_append_40 (sm_iconst d_Nm_append_40 (by decide))) (
  kc_case (P := P) (kc_se rfl sm_no) (
  kc_case (P := P) (kc_se rfl sm_no) (
  kc_case (P := P) (kc_se c_Nm_append_37 (sm_get (ci := 5) (C := "DirectoryDesk$Name") (F := kF_Nm) rfl kin_Nm (Nat.le_of_ble_eq_true rfl) d_Nm_append_37 (kw1 103 rfl rfl))) (
  kc_case (P := P) (kc_se c_Nm_append_36 (sm_dup d_Nm_append_36)) (
  kc_case (P := P) (kc_se c_Nm_append_35 (sm_aload_n d_Nm_append_35 rfl)) (
  kc_case (P := P) (kc_se c_Nm_append_34 (sm_last d_Nm_append_34)) (
  kc_case (P := P) (kc_se c_Nm_append_33 (sm_lload_n d_Nm_append_33 rfl)) (
  kc_case (P := P) (kc_se rfl sm_no) (
  kc_case (P := P) (kc_se rfl sm_no) (
  kc_case (P := P) (kc_se c_Nm_append_30 (sm_get (ci := 5) (C := "DirectoryDesk$Name") (F := kF_Nm) rfl kin_Nm (Nat.le_of_ble_eq_true rfl) d_Nm_append_30 (kw1 103 rfl rfl))) (
  kc_case (P := P) (kc_se c_Nm_append_29 (sm_aload_n d_Nm_append_29 rfl)) (
  kc_case (P := P) (kc_se rfl sm_no) (
  kc_case (P := P) (kc_se rfl sm_no) (
  kc_case (P := P) (kc_se c_Nm_append_26 (sm_get (ci := 5) (C := "DirectoryDesk$Name") (F := kF_Nm) rfl kin_Nm (Nat.le_of_ble_eq_true rfl) d_Nm_append_26 (kw1 100 rfl rfl))) (
  kc_case (P := P) (kc_se c_Nm_append_25 (sm_aload_n d_Nm_append_25 rfl)) (
  kc_case (P := P) (kc_se c_Nm_append_24 (sm_iast d_Nm_append_24)) (
  kc_case (P := P) (kc_se c_Nm_append_23 (sm_iload_n d_Nm_append_23 rfl)) (
  kc_case (P := P) (kc_se rfl sm_no) (
  kc_case (P := P) (kc_se rfl sm_no) (
  kc_case (P := P) (kc_se c_Nm_append_20 (sm_get (ci := 5) (C := "DirectoryDesk$Name") (F := kF_Nm) rfl kin_Nm (Nat.le_of_ble_eq_true rfl) d_Nm_append_20 (kw1 103 rfl rfl))) (
  kc_case (P := P) (kc_se c_Nm_append_19 (sm_aload_n d_Nm_append_19 rfl)) (
  kc_case (P := P) (kc_se rfl sm_no) (
  kc_case (P := P) (kc_se rfl sm_no) (
  kc_case (P := P) (kc_se c_Nm_append_16 (sm_get (ci := 5) (C := "DirectoryDesk$Name") (F := kF_Nm) rfl kin_Nm (Nat.le_of_ble_eq_true rfl) d_Nm_append_16 (kw1 97 rfl rfl))) (
  kc_case (P := P) (kc_se c_Nm_append_15 (sm_aload_n d_Nm_append_15 rfl)) (
  kc_case (P := P) (kc_se rfl sm_no) (
  kc_case (P := P) (kc_se rfl sm_no) (
  kc_case (P := P) (kc_se c_Nm_append_12 (sm_cm_ge d_Nm_append_12 (by decide))) (
  kc_case (P := P) (kc_se c_Nm_append_11 (sm_iconst d_Nm_append_11 (by decide))) (
  kc_case (P := P) (kc_se rfl sm_no) (
  kc_case (P := P) (kc_se rfl sm_no) (
  kc_case (P := P) (kc_se c_Nm_append_8 (sm_get (ci := 5) (C := "DirectoryDesk$Name") (F := kF_Nm) rfl kin_Nm (Nat.le_of_ble_eq_true rfl) d_Nm_append_8 (kw1 103 rfl rfl))) (
  kc_case (P := P) (kc_se c_Nm_append_7 (sm_aload_n d_Nm_append_7 rfl)) (
  kc_case (P := P) (kc_se rfl sm_no) (
  kc_case (P := P) (kc_se rfl sm_no) (
  kc_case (P := P) (kc_se c_Nm_append_4 (sm_if_lt d_Nm_append_4 (by decide))) (
  kc_case (P := P) (kc_se rfl sm_no) (
  kc_case (P := P) (kc_se rfl sm_no) (
  kc_case (P := P) (kc_se c_Nm_append_1 (sm_get (ci := 5) (C := "DirectoryDesk$Name") (F := kF_Nm) rfl kin_Nm (Nat.le_of_ble_eq_true rfl) d_Nm_append_1 (kw1 103 rfl rfl))) (
  kc_case (P := P) (kc_se c_Nm_append_0 (sm_aload_n d_Nm_append_0 rfl)) (
  kc_case0))))))))))))))))))))))))))))))))))))))))))))))
theorem ka_nth_no_Nm_append (pc : Nat) (h : 46 ≤ pc) : ct_Nm_append pc = ka_no := ka_nth_ge _ pc (Nat.le_trans (Nat.le_of_eq (by rfl)) h)
theorem s_Nm_append (pc : Nat) : kc_Sim kt kw_A kw_N kt_cl kt_En "DirectoryDesk$Name" prog_5_method_4_code 4 (none) "append" none pc (ct_Nm_append pc) := (Nat.lt_or_ge pc 46).elim (s_Nm_append_46 pc) (fun h => kc_se (ka_nth_no_Nm_append pc h) sm_no)
def cl_Nm_copyFrom_0 : List kc_A := [ka_al 1 1, ka_get 5 0, ka_no, ka_no, ka_ci (nI 0) 1, ka_al 0 1, ka_get 5 0, ka_no, ka_no, ka_ci (nI 0) 1, ka_ci (nI 4) 1, ka_cpi, ka_no, ka_no, ka_al 1 1, ka_get 5 1, ka_no, ka_no, ka_ci (nI 0) 1, ka_al 0 1, ka_get 5 1, ka_no, ka_no, ka_ci (nI 0) 1, ka_ci (nI 4) 1, ka_cpl, ka_no, ka_no, ka_al 0 1, ka_al 1 1, ka_get 5 2, ka_no, ka_no, ka_put 5 2 .int, ka_no, ka_no, ka_ret]
def ct_Nm_copyFrom : Nat → kc_A := fun pc => ka_nth (cl_Nm_copyFrom_0) pc
set_option maxRecDepth 100000 in
theorem c_Nm_copyFrom_0 : ct_Nm_copyFrom 0 = ka_al 1 1 := rfl
theorem d_Nm_copyFrom_0 : decode prog_5_method_5_code 0 = .ok (.aload_n 1, 1) := by decide +kernel
set_option maxRecDepth 100000 in
theorem c_Nm_copyFrom_1 : ct_Nm_copyFrom 1 = ka_get 5 0 := rfl
theorem d_Nm_copyFrom_1 : decode prog_5_method_5_code 1 = .ok (.getfield 9, 3) := by decide +kernel
set_option maxRecDepth 100000 in
theorem c_Nm_copyFrom_4 : ct_Nm_copyFrom 4 = ka_ci (nI 0) 1 := rfl
theorem d_Nm_copyFrom_4 : decode prog_5_method_5_code 4 = .ok (.iconst 0, 1) := by decide +kernel
set_option maxRecDepth 100000 in
theorem c_Nm_copyFrom_5 : ct_Nm_copyFrom 5 = ka_al 0 1 := rfl
theorem d_Nm_copyFrom_5 : decode prog_5_method_5_code 5 = .ok (.aload_n 0, 1) := by decide +kernel
set_option maxRecDepth 100000 in
theorem c_Nm_copyFrom_6 : ct_Nm_copyFrom 6 = ka_get 5 0 := rfl
theorem d_Nm_copyFrom_6 : decode prog_5_method_5_code 6 = .ok (.getfield 9, 3) := by decide +kernel
set_option maxRecDepth 100000 in
theorem c_Nm_copyFrom_9 : ct_Nm_copyFrom 9 = ka_ci (nI 0) 1 := rfl
theorem d_Nm_copyFrom_9 : decode prog_5_method_5_code 9 = .ok (.iconst 0, 1) := by decide +kernel
set_option maxRecDepth 100000 in
theorem c_Nm_copyFrom_10 : ct_Nm_copyFrom 10 = ka_ci (nI 4) 1 := rfl
theorem d_Nm_copyFrom_10 : decode prog_5_method_5_code 10 = .ok (.iconst 4, 1) := by decide +kernel
set_option maxRecDepth 100000 in
theorem c_Nm_copyFrom_11 : ct_Nm_copyFrom 11 = ka_cpi := rfl
theorem d_Nm_copyFrom_11 : decode prog_5_method_5_code 11 = .ok (.invokestatic 55, 3) := by decide +kernel
set_option maxRecDepth 100000 in
theorem c_Nm_copyFrom_14 : ct_Nm_copyFrom 14 = ka_al 1 1 := rfl
theorem d_Nm_copyFrom_14 : decode prog_5_method_5_code 14 = .ok (.aload_n 1, 1) := by decide +kernel
set_option maxRecDepth 100000 in
theorem c_Nm_copyFrom_15 : ct_Nm_copyFrom 15 = ka_get 5 1 := rfl
theorem d_Nm_copyFrom_15 : decode prog_5_method_5_code 15 = .ok (.getfield 15, 3) := by decide +kernel
set_option maxRecDepth 100000 in
theorem c_Nm_copyFrom_18 : ct_Nm_copyFrom 18 = ka_ci (nI 0) 1 := rfl
theorem d_Nm_copyFrom_18 : decode prog_5_method_5_code 18 = .ok (.iconst 0, 1) := by decide +kernel
set_option maxRecDepth 100000 in
theorem c_Nm_copyFrom_19 : ct_Nm_copyFrom 19 = ka_al 0 1 := rfl
theorem d_Nm_copyFrom_19 : decode prog_5_method_5_code 19 = .ok (.aload_n 0, 1) := by decide +kernel
set_option maxRecDepth 100000 in
theorem c_Nm_copyFrom_20 : ct_Nm_copyFrom 20 = ka_get 5 1 := rfl
theorem d_Nm_copyFrom_20 : decode prog_5_method_5_code 20 = .ok (.getfield 15, 3) := by decide +kernel
set_option maxRecDepth 100000 in
theorem c_Nm_copyFrom_23 : ct_Nm_copyFrom 23 = ka_ci (nI 0) 1 := rfl
theorem d_Nm_copyFrom_23 : decode prog_5_method_5_code 23 = .ok (.iconst 0, 1) := by decide +kernel
set_option maxRecDepth 100000 in
theorem c_Nm_copyFrom_24 : ct_Nm_copyFrom 24 = ka_ci (nI 4) 1 := rfl
theorem d_Nm_copyFrom_24 : decode prog_5_method_5_code 24 = .ok (.iconst 4, 1) := by decide +kernel
set_option maxRecDepth 100000 in
theorem c_Nm_copyFrom_25 : ct_Nm_copyFrom 25 = ka_cpl := rfl
theorem d_Nm_copyFrom_25 : decode prog_5_method_5_code 25 = .ok (.invokestatic 55, 3) := by decide +kernel
set_option maxRecDepth 100000 in
theorem c_Nm_copyFrom_28 : ct_Nm_copyFrom 28 = ka_al 0 1 := rfl
theorem d_Nm_copyFrom_28 : decode prog_5_method_5_code 28 = .ok (.aload_n 0, 1) := by decide +kernel
set_option maxRecDepth 100000 in
theorem c_Nm_copyFrom_29 : ct_Nm_copyFrom 29 = ka_al 1 1 := rfl
theorem d_Nm_copyFrom_29 : decode prog_5_method_5_code 29 = .ok (.aload_n 1, 1) := by decide +kernel
set_option maxRecDepth 100000 in
theorem c_Nm_copyFrom_30 : ct_Nm_copyFrom 30 = ka_get 5 2 := rfl
theorem d_Nm_copyFrom_30 : decode prog_5_method_5_code 30 = .ok (.getfield 19, 3) := by decide +kernel
set_option maxRecDepth 100000 in
theorem c_Nm_copyFrom_33 : ct_Nm_copyFrom 33 = ka_put 5 2 .int := rfl
theorem d_Nm_copyFrom_33 : decode prog_5_method_5_code 33 = .ok (.putfield 19, 3) := by decide +kernel
set_option maxRecDepth 100000 in
theorem c_Nm_copyFrom_36 : ct_Nm_copyFrom 36 = ka_ret := rfl
theorem d_Nm_copyFrom_36 : decode prog_5_method_5_code 36 = .ok (.return_, 1) := by decide +kernel
set_option maxRecDepth 100000 in
set_option maxHeartbeats 4000000 in
theorem s_Nm_copyFrom_37 : ∀ pc, pc < 37 → kc_Sim kt kw_A kw_N kt_cl kt_En "DirectoryDesk$Name" prog_5_method_5_code 2 (none) "copyFrom" none pc (ct_Nm_copyFrom pc) := by
  let P : Nat → Prop := fun pc => kc_Sim kt kw_A kw_N kt_cl kt_En "DirectoryDesk$Name" prog_5_method_5_code 2 (none) "copyFrom" none pc (ct_Nm_copyFrom pc)
  exact kc_case (P := P) (kc_se c_Nm_copyFrom_36 (sm_ret d_Nm_copyFrom_36 rfl)) (
  kc_case (P := P) (kc_se rfl sm_no) (
  kc_case (P := P) (kc_se rfl sm_no) (
  kc_case (P := P) (kc_se c_Nm_copyFrom_33 (sm_put (ci := 5) (C := "DirectoryDesk$Name") (F := kF_Nm) rfl kin_Nm kty_Nm ktk_Nm knm_Nm (Nat.le_of_ble_eq_true rfl) (by decide +kernel) d_Nm_copyFrom_33 (kw1 103 rfl rfl) rfl)) (
  kc_case (P := P) (kc_se rfl sm_no) (
  kc_case (P := P) (kc_se rfl sm_no) (
  kc_case (P := P) (kc_se c_Nm_copyFrom_30 (sm_get (ci := 5) (C := "DirectoryDesk$Name") (F := kF_Nm) rfl kin_Nm (Nat.le_of_ble_eq_true rfl) d_Nm_copyFrom_30 (kw1 103 rfl rfl))) (
  kc_case (P := P) (kc_se c_Nm_copyFrom_29 (sm_aload_n d_Nm_copyFrom_29 rfl)) (
  kc_case (P := P) (kc_se c_Nm_copyFrom_28 (sm_aload_n d_Nm_copyFrom_28 rfl)) (
  kc_case (P := P) (kc_se rfl sm_no) (
  kc_case (P := P) (kc_se rfl sm_no) (
  kc_case (P := P) (kc_se c_Nm_copyFrom_25 (sm_cpl d_Nm_copyFrom_25 (kw3 113 rfl rfl) (kw3 76 rfl rfl) (kw3 75 rfl rfl) (kw1 13 rfl rfl))) (
  kc_case (P := P) (kc_se c_Nm_copyFrom_24 (sm_iconst d_Nm_copyFrom_24 (by decide))) (
  kc_case (P := P) (kc_se c_Nm_copyFrom_23 (sm_iconst d_Nm_copyFrom_23 (by decide))) (
  kc_case (P := P) (kc_se rfl sm_no) (
  kc_case (P := P) (kc_se rfl sm_no) (
  kc_case (P := P) (kc_se c_Nm_copyFrom_20 (sm_get (ci := 5) (C := "DirectoryDesk$Name") (F := kF_Nm) rfl kin_Nm (Nat.le_of_ble_eq_true rfl) d_Nm_copyFrom_20 (kw1 100 rfl rfl))) (
  kc_case (P := P) (kc_se c_Nm_copyFrom_19 (sm_aload_n d_Nm_copyFrom_19 rfl)) (
  kc_case (P := P) (kc_se c_Nm_copyFrom_18 (sm_iconst d_Nm_copyFrom_18 (by decide))) (
  kc_case (P := P) (kc_se rfl sm_no) (
  kc_case (P := P) (kc_se rfl sm_no) (
  kc_case (P := P) (kc_se c_Nm_copyFrom_15 (sm_get (ci := 5) (C := "DirectoryDesk$Name") (F := kF_Nm) rfl kin_Nm (Nat.le_of_ble_eq_true rfl) d_Nm_copyFrom_15 (kw1 100 rfl rfl))) (
  kc_case (P := P) (kc_se c_Nm_copyFrom_14 (sm_aload_n d_Nm_copyFrom_14 rfl)) (
  kc_case (P := P) (kc_se rfl sm_no) (
  kc_case (P := P) (kc_se rfl sm_no) (
  kc_case (P := P) (kc_se c_Nm_copyFrom_11 (sm_cpi d_Nm_copyFrom_11 (kw3 113 rfl rfl) (kw3 76 rfl rfl) (kw3 75 rfl rfl) (kw1 13 rfl rfl))) (
  kc_case (P := P) (kc_se c_Nm_copyFrom_10 (sm_iconst d_Nm_copyFrom_10 (by decide))) (
  kc_case (P := P) (kc_se c_Nm_copyFrom_9 (sm_iconst d_Nm_copyFrom_9 (by decide))) (
  kc_case (P := P) (kc_se rfl sm_no) (
  kc_case (P := P) (kc_se rfl sm_no) (
  kc_case (P := P) (kc_se c_Nm_copyFrom_6 (sm_get (ci := 5) (C := "DirectoryDesk$Name") (F := kF_Nm) rfl kin_Nm (Nat.le_of_ble_eq_true rfl) d_Nm_copyFrom_6 (kw1 97 rfl rfl))) (
  kc_case (P := P) (kc_se c_Nm_copyFrom_5 (sm_aload_n d_Nm_copyFrom_5 rfl)) (
  kc_case (P := P) (kc_se c_Nm_copyFrom_4 (sm_iconst d_Nm_copyFrom_4 (by decide))) (
  kc_case (P := P) (kc_se rfl sm_no) (
  kc_case (P := P) (kc_se rfl sm_no) (
  kc_case (P := P) (kc_se c_Nm_copyFrom_1 (sm_get (ci := 5) (C := "DirectoryDesk$Name") (F := kF_Nm) rfl kin_Nm (Nat.le_of_ble_eq_true rfl) d_Nm_copyFrom_1 (kw1 97 rfl rfl))) (
  kc_case (P := P) (kc_se c_Nm_copyFrom_0 (sm_aload_n d_Nm_copyFrom_0 rfl)) (
  kc_case0)))))))))))))))))))))))))))))))))))))
theorem ka_nth_no_Nm_copyFrom (pc : Nat) (h : 37 ≤ pc) : ct_Nm_copyFrom pc = ka_no := ka_nth_ge _ pc (Nat.le_trans (Nat.le_of_eq (by rfl)) h)
theorem s_Nm_copyFrom (pc : Nat) : kc_Sim kt kw_A kw_N kt_cl kt_En "DirectoryDesk$Name" prog_5_method_5_code 2 (none) "copyFrom" none pc (ct_Nm_copyFrom pc) := (Nat.lt_or_ge pc 37).elim (s_Nm_copyFrom_37 pc) (fun h => kc_se (ka_nth_no_Nm_copyFrom pc h) sm_no)
def cl_Nm_levelsUnder_0 : List kc_A := [ka_al 0 1, ka_get 5 2, ka_no, ka_no, ka_al 1 1, ka_get 5 2, ka_no, ka_no, ka_ii (fun x y => x - y), ka_is 2 1, ka_il 2 1, ka_if (fun x => 0 ≤ x) 16, ka_no, ka_no, ka_ci (-1) 1, ka_ri, ka_ci (nI 0) 1, ka_is 3 1, ka_il 3 1, ka_al 1 1, ka_get 5 2, ka_no, ka_no, ka_cm (fun x y => y ≤ x) 69, ka_no, ka_no, ka_al 0 1, ka_get 5 0, ka_no, ka_no, ka_il 2 1, ka_il 3 1, ka_ii (fun x y => x + y), ka_iald, ka_al 1 1, ka_get 5 0, ka_no, ka_no, ka_il 3 1, ka_iald, ka_cm (fun x y => ¬ x = y) 61, ka_no, ka_no, ka_al 0 1, ka_get 5 1, ka_no, ka_no, ka_il 2 1, ka_il 3 1, ka_ii (fun x y => x + y), ka_lald, ka_al 1 1, ka_get 5 1, ka_no, ka_no, ka_il 3 1, ka_lald, ka_lcmp, ka_if (fun x => x = 0) 63, ka_no]
def cl_Nm_levelsUnder_1 : List kc_A := [ka_no, ka_ci (-1) 1, ka_ri, ka_inc 3 (nI 1), ka_no, ka_no, ka_goto 18, ka_no, ka_no, ka_il 2 1, ka_ri]
def ct_Nm_levelsUnder : Nat → kc_A := fun pc => ka_nth (cl_Nm_levelsUnder_0 ++ (cl_Nm_levelsUnder_1)) pc
set_option maxRecDepth 100000 in
theorem c_Nm_levelsUnder_0 : ct_Nm_levelsUnder 0 = ka_al 0 1 := rfl
theorem d_Nm_levelsUnder_0 : decode prog_5_method_6_code 0 = .ok (.aload_n 0, 1) := by decide +kernel
set_option maxRecDepth 100000 in
theorem c_Nm_levelsUnder_1 : ct_Nm_levelsUnder 1 = ka_get 5 2 := rfl
theorem d_Nm_levelsUnder_1 : decode prog_5_method_6_code 1 = .ok (.getfield 19, 3) := by decide +kernel
set_option maxRecDepth 100000 in
theorem c_Nm_levelsUnder_4 : ct_Nm_levelsUnder 4 = ka_al 1 1 := rfl
theorem d_Nm_levelsUnder_4 : decode prog_5_method_6_code 4 = .ok (.aload_n 1, 1) := by decide +kernel
set_option maxRecDepth 100000 in
theorem c_Nm_levelsUnder_5 : ct_Nm_levelsUnder 5 = ka_get 5 2 := rfl
theorem d_Nm_levelsUnder_5 : decode prog_5_method_6_code 5 = .ok (.getfield 19, 3) := by decide +kernel
set_option maxRecDepth 100000 in
theorem c_Nm_levelsUnder_8 : ct_Nm_levelsUnder 8 = ka_ii (fun x y => x - y) := rfl
theorem d_Nm_levelsUnder_8 : decode prog_5_method_6_code 8 = .ok (.isub, 1) := by decide +kernel
set_option maxRecDepth 100000 in
theorem c_Nm_levelsUnder_9 : ct_Nm_levelsUnder 9 = ka_is 2 1 := rfl
theorem d_Nm_levelsUnder_9 : decode prog_5_method_6_code 9 = .ok (.istore_n 2, 1) := by decide +kernel
set_option maxRecDepth 100000 in
theorem c_Nm_levelsUnder_10 : ct_Nm_levelsUnder 10 = ka_il 2 1 := rfl
theorem d_Nm_levelsUnder_10 : decode prog_5_method_6_code 10 = .ok (.iload_n 2, 1) := by decide +kernel
set_option maxRecDepth 100000 in
theorem c_Nm_levelsUnder_11 : ct_Nm_levelsUnder 11 = ka_if (fun x => 0 ≤ x) 16 := rfl
theorem d_Nm_levelsUnder_11 : decode prog_5_method_6_code 11 = .ok (.ifCond .ge 5, 3) := by decide +kernel
set_option maxRecDepth 100000 in
theorem c_Nm_levelsUnder_14 : ct_Nm_levelsUnder 14 = ka_ci (-1) 1 := rfl
theorem d_Nm_levelsUnder_14 : decode prog_5_method_6_code 14 = .ok (.iconst (-1), 1) := by decide +kernel
set_option maxRecDepth 100000 in
theorem c_Nm_levelsUnder_15 : ct_Nm_levelsUnder 15 = ka_ri := rfl
theorem d_Nm_levelsUnder_15 : decode prog_5_method_6_code 15 = .ok (.ireturn, 1) := by decide +kernel
set_option maxRecDepth 100000 in
theorem c_Nm_levelsUnder_16 : ct_Nm_levelsUnder 16 = ka_ci (nI 0) 1 := rfl
theorem d_Nm_levelsUnder_16 : decode prog_5_method_6_code 16 = .ok (.iconst 0, 1) := by decide +kernel
set_option maxRecDepth 100000 in
theorem c_Nm_levelsUnder_17 : ct_Nm_levelsUnder 17 = ka_is 3 1 := rfl
theorem d_Nm_levelsUnder_17 : decode prog_5_method_6_code 17 = .ok (.istore_n 3, 1) := by decide +kernel
set_option maxRecDepth 100000 in
theorem c_Nm_levelsUnder_18 : ct_Nm_levelsUnder 18 = ka_il 3 1 := rfl
theorem d_Nm_levelsUnder_18 : decode prog_5_method_6_code 18 = .ok (.iload_n 3, 1) := by decide +kernel
set_option maxRecDepth 100000 in
theorem c_Nm_levelsUnder_19 : ct_Nm_levelsUnder 19 = ka_al 1 1 := rfl
theorem d_Nm_levelsUnder_19 : decode prog_5_method_6_code 19 = .ok (.aload_n 1, 1) := by decide +kernel
set_option maxRecDepth 100000 in
theorem c_Nm_levelsUnder_20 : ct_Nm_levelsUnder 20 = ka_get 5 2 := rfl
theorem d_Nm_levelsUnder_20 : decode prog_5_method_6_code 20 = .ok (.getfield 19, 3) := by decide +kernel
set_option maxRecDepth 100000 in
theorem c_Nm_levelsUnder_23 : ct_Nm_levelsUnder 23 = ka_cm (fun x y => y ≤ x) 69 := rfl
theorem d_Nm_levelsUnder_23 : decode prog_5_method_6_code 23 = .ok (.if_icmp .ge 46, 3) := by decide +kernel
set_option maxRecDepth 100000 in
theorem c_Nm_levelsUnder_26 : ct_Nm_levelsUnder 26 = ka_al 0 1 := rfl
theorem d_Nm_levelsUnder_26 : decode prog_5_method_6_code 26 = .ok (.aload_n 0, 1) := by decide +kernel
set_option maxRecDepth 100000 in
theorem c_Nm_levelsUnder_27 : ct_Nm_levelsUnder 27 = ka_get 5 0 := rfl
theorem d_Nm_levelsUnder_27 : decode prog_5_method_6_code 27 = .ok (.getfield 9, 3) := by decide +kernel
set_option maxRecDepth 100000 in
theorem c_Nm_levelsUnder_30 : ct_Nm_levelsUnder 30 = ka_il 2 1 := rfl
theorem d_Nm_levelsUnder_30 : decode prog_5_method_6_code 30 = .ok (.iload_n 2, 1) := by decide +kernel
set_option maxRecDepth 100000 in
theorem c_Nm_levelsUnder_31 : ct_Nm_levelsUnder 31 = ka_il 3 1 := rfl
theorem d_Nm_levelsUnder_31 : decode prog_5_method_6_code 31 = .ok (.iload_n 3, 1) := by decide +kernel
set_option maxRecDepth 100000 in
theorem c_Nm_levelsUnder_32 : ct_Nm_levelsUnder 32 = ka_ii (fun x y => x + y) := rfl
theorem d_Nm_levelsUnder_32 : decode prog_5_method_6_code 32 = .ok (.iadd, 1) := by decide +kernel
set_option maxRecDepth 100000 in
theorem c_Nm_levelsUnder_33 : ct_Nm_levelsUnder 33 = ka_iald := rfl
theorem d_Nm_levelsUnder_33 : decode prog_5_method_6_code 33 = .ok (.iaload, 1) := by decide +kernel
set_option maxRecDepth 100000 in
theorem c_Nm_levelsUnder_34 : ct_Nm_levelsUnder 34 = ka_al 1 1 := rfl
theorem d_Nm_levelsUnder_34 : decode prog_5_method_6_code 34 = .ok (.aload_n 1, 1) := by decide +kernel
set_option maxRecDepth 100000 in
theorem c_Nm_levelsUnder_35 : ct_Nm_levelsUnder 35 = ka_get 5 0 := rfl
theorem d_Nm_levelsUnder_35 : decode prog_5_method_6_code 35 = .ok (.getfield 9, 3) := by decide +kernel
set_option maxRecDepth 100000 in
theorem c_Nm_levelsUnder_38 : ct_Nm_levelsUnder 38 = ka_il 3 1 := rfl
theorem d_Nm_levelsUnder_38 : decode prog_5_method_6_code 38 = .ok (.iload_n 3, 1) := by decide +kernel
set_option maxRecDepth 100000 in
theorem c_Nm_levelsUnder_39 : ct_Nm_levelsUnder 39 = ka_iald := rfl
theorem d_Nm_levelsUnder_39 : decode prog_5_method_6_code 39 = .ok (.iaload, 1) := by decide +kernel
set_option maxRecDepth 100000 in
theorem c_Nm_levelsUnder_40 : ct_Nm_levelsUnder 40 = ka_cm (fun x y => ¬ x = y) 61 := rfl
theorem d_Nm_levelsUnder_40 : decode prog_5_method_6_code 40 = .ok (.if_icmp .ne 21, 3) := by decide +kernel
set_option maxRecDepth 100000 in
theorem c_Nm_levelsUnder_43 : ct_Nm_levelsUnder 43 = ka_al 0 1 := rfl
theorem d_Nm_levelsUnder_43 : decode prog_5_method_6_code 43 = .ok (.aload_n 0, 1) := by decide +kernel
set_option maxRecDepth 100000 in
theorem c_Nm_levelsUnder_44 : ct_Nm_levelsUnder 44 = ka_get 5 1 := rfl
theorem d_Nm_levelsUnder_44 : decode prog_5_method_6_code 44 = .ok (.getfield 15, 3) := by decide +kernel
set_option maxRecDepth 100000 in
theorem c_Nm_levelsUnder_47 : ct_Nm_levelsUnder 47 = ka_il 2 1 := rfl
theorem d_Nm_levelsUnder_47 : decode prog_5_method_6_code 47 = .ok (.iload_n 2, 1) := by decide +kernel
set_option maxRecDepth 100000 in
theorem c_Nm_levelsUnder_48 : ct_Nm_levelsUnder 48 = ka_il 3 1 := rfl
theorem d_Nm_levelsUnder_48 : decode prog_5_method_6_code 48 = .ok (.iload_n 3, 1) := by decide +kernel
set_option maxRecDepth 100000 in
theorem c_Nm_levelsUnder_49 : ct_Nm_levelsUnder 49 = ka_ii (fun x y => x + y) := rfl
theorem d_Nm_levelsUnder_49 : decode prog_5_method_6_code 49 = .ok (.iadd, 1) := by decide +kernel
set_option maxRecDepth 100000 in
theorem c_Nm_levelsUnder_50 : ct_Nm_levelsUnder 50 = ka_lald := rfl
theorem d_Nm_levelsUnder_50 : decode prog_5_method_6_code 50 = .ok (.laload, 1) := by decide +kernel
set_option maxRecDepth 100000 in
theorem c_Nm_levelsUnder_51 : ct_Nm_levelsUnder 51 = ka_al 1 1 := rfl
theorem d_Nm_levelsUnder_51 : decode prog_5_method_6_code 51 = .ok (.aload_n 1, 1) := by decide +kernel
set_option maxRecDepth 100000 in
theorem c_Nm_levelsUnder_52 : ct_Nm_levelsUnder 52 = ka_get 5 1 := rfl
theorem d_Nm_levelsUnder_52 : decode prog_5_method_6_code 52 = .ok (.getfield 15, 3) := by decide +kernel
set_option maxRecDepth 100000 in
theorem c_Nm_levelsUnder_55 : ct_Nm_levelsUnder 55 = ka_il 3 1 := rfl
theorem d_Nm_levelsUnder_55 : decode prog_5_method_6_code 55 = .ok (.iload_n 3, 1) := by decide +kernel
set_option maxRecDepth 100000 in
theorem c_Nm_levelsUnder_56 : ct_Nm_levelsUnder 56 = ka_lald := rfl
theorem d_Nm_levelsUnder_56 : decode prog_5_method_6_code 56 = .ok (.laload, 1) := by decide +kernel
set_option maxRecDepth 100000 in
theorem c_Nm_levelsUnder_57 : ct_Nm_levelsUnder 57 = ka_lcmp := rfl
theorem d_Nm_levelsUnder_57 : decode prog_5_method_6_code 57 = .ok (.lcmp, 1) := by decide +kernel
set_option maxRecDepth 100000 in
theorem c_Nm_levelsUnder_58 : ct_Nm_levelsUnder 58 = ka_if (fun x => x = 0) 63 := rfl
theorem d_Nm_levelsUnder_58 : decode prog_5_method_6_code 58 = .ok (.ifCond .eq 5, 3) := by decide +kernel
set_option maxRecDepth 100000 in
theorem c_Nm_levelsUnder_61 : ct_Nm_levelsUnder 61 = ka_ci (-1) 1 := rfl
theorem d_Nm_levelsUnder_61 : decode prog_5_method_6_code 61 = .ok (.iconst (-1), 1) := by decide +kernel
set_option maxRecDepth 100000 in
theorem c_Nm_levelsUnder_62 : ct_Nm_levelsUnder 62 = ka_ri := rfl
theorem d_Nm_levelsUnder_62 : decode prog_5_method_6_code 62 = .ok (.ireturn, 1) := by decide +kernel
set_option maxRecDepth 100000 in
theorem c_Nm_levelsUnder_63 : ct_Nm_levelsUnder 63 = ka_inc 3 (nI 1) := rfl
theorem d_Nm_levelsUnder_63 : decode prog_5_method_6_code 63 = .ok (.iinc 3 1, 3) := by decide +kernel
set_option maxRecDepth 100000 in
theorem c_Nm_levelsUnder_66 : ct_Nm_levelsUnder 66 = ka_goto 18 := rfl
theorem d_Nm_levelsUnder_66 : decode prog_5_method_6_code 66 = .ok (.goto (-48), 3) := by decide +kernel
set_option maxRecDepth 100000 in
theorem c_Nm_levelsUnder_69 : ct_Nm_levelsUnder 69 = ka_il 2 1 := rfl
theorem d_Nm_levelsUnder_69 : decode prog_5_method_6_code 69 = .ok (.iload_n 2, 1) := by decide +kernel
set_option maxRecDepth 100000 in
theorem c_Nm_levelsUnder_70 : ct_Nm_levelsUnder 70 = ka_ri := rfl
theorem d_Nm_levelsUnder_70 : decode prog_5_method_6_code 70 = .ok (.ireturn, 1) := by decide +kernel
set_option maxRecDepth 100000 in
set_option maxHeartbeats 4000000 in
theorem s_Nm_levelsUnder_60 : ∀ pc, pc < 60 → kc_Sim kt kw_A kw_N kt_cl kt_En "DirectoryDesk$Name" prog_5_method_6_code 4 (some .int) "levelsUnder" none pc (ct_Nm_levelsUnder pc) := by
  let P : Nat → Prop := fun pc => kc_Sim kt kw_A kw_N kt_cl kt_En "DirectoryDesk$Name" prog_5_method_6_code 4 (some .int) "levelsUnder" none pc (ct_Nm_levelsUnder pc)
  exact kc_case (P := P) (kc_se rfl sm_no) (
  kc_case (P := P) (kc_se c_Nm_levelsUnder_58 (sm_if_eq d_Nm_levelsUnder_58 (by decide))) (
  kc_case (P := P) (kc_se c_Nm_levelsUnder_57 (sm_lcmp d_Nm_levelsUnder_57)) (
  kc_case (P := P) (kc_se c_Nm_levelsUnder_56 (sm_lald d_Nm_levelsUnder_56)) (
  kc_case (P := P) (kc_se c_Nm_levelsUnder_55 (sm_iload_n d_Nm_levelsUnder_55 rfl)) (
  kc_case (P := P) (kc_se rfl sm_no) (
  kc_case (P := P) (kc_se rfl sm_no) (
  kc_case (P := P) (kc_se c_Nm_levelsUnder_52 (sm_get (ci := 5) (C := "DirectoryDesk$Name") (F := kF_Nm) rfl kin_Nm (Nat.le_of_ble_eq_true rfl) d_Nm_levelsUnder_52 (kw1 100 rfl rfl))) (
  kc_case (P := P) (kc_se c_Nm_levelsUnder_51 (sm_aload_n d_Nm_levelsUnder_51 rfl)) (
  kc_case (P := P) (kc_se c_Nm_levelsUnder_50 (sm_lald d_Nm_levelsUnder_50)) (
  kc_case (P := P) (kc_se c_Nm_levelsUnder_49 (sm_iadd d_Nm_levelsUnder_49)) (
  kc_case (P := P) (kc_se c_Nm_levelsUnder_48 (sm_iload_n d_Nm_levelsUnder_48 rfl)) (
  kc_case (P := P) (kc_se c_Nm_levelsUnder_47 (sm_iload_n d_Nm_levelsUnder_47 rfl)) (
  kc_case (P := P) (kc_se rfl sm_no) (
  kc_case (P := P) (kc_se rfl sm_no) (
  kc_case (P := P) (kc_se c_Nm_levelsUnder_44 (sm_get (ci := 5) (C := "DirectoryDesk$Name") (F := kF_Nm) rfl kin_Nm (Nat.le_of_ble_eq_true rfl) d_Nm_levelsUnder_44 (kw1 100 rfl rfl))) (
  kc_case (P := P) (kc_se c_Nm_levelsUnder_43 (sm_aload_n d_Nm_levelsUnder_43 rfl)) (
  kc_case (P := P) (kc_se rfl sm_no) (
  kc_case (P := P) (kc_se rfl sm_no) (
  kc_case (P := P) (kc_se c_Nm_levelsUnder_40 (sm_cm_ne d_Nm_levelsUnder_40 (by decide))) (
  kc_case (P := P) (kc_se c_Nm_levelsUnder_39 (sm_iald d_Nm_levelsUnder_39)) (
  kc_case (P := P) (kc_se c_Nm_levelsUnder_38 (sm_iload_n d_Nm_levelsUnder_38 rfl)) (
  kc_case (P := P) (kc_se rfl sm_no) (
  kc_case (P := P) (kc_se rfl sm_no) (
  kc_case (P := P) (kc_se c_Nm_levelsUnder_35 (sm_get (ci := 5) (C := "DirectoryDesk$Name") (F := kF_Nm) rfl kin_Nm (Nat.le_of_ble_eq_true rfl) d_Nm_levelsUnder_35 (kw1 97 rfl rfl))) (
  kc_case (P := P) (kc_se c_Nm_levelsUnder_34 (sm_aload_n d_Nm_levelsUnder_34 rfl)) (
  kc_case (P := P) (kc_se c_Nm_levelsUnder_33 (sm_iald d_Nm_levelsUnder_33)) (
  kc_case (P := P) (kc_se c_Nm_levelsUnder_32 (sm_iadd d_Nm_levelsUnder_32)) (
  kc_case (P := P) (kc_se c_Nm_levelsUnder_31 (sm_iload_n d_Nm_levelsUnder_31 rfl)) (
  kc_case (P := P) (kc_se c_Nm_levelsUnder_30 (sm_iload_n d_Nm_levelsUnder_30 rfl)) (
  kc_case (P := P) (kc_se rfl sm_no) (
  kc_case (P := P) (kc_se rfl sm_no) (
  kc_case (P := P) (kc_se c_Nm_levelsUnder_27 (sm_get (ci := 5) (C := "DirectoryDesk$Name") (F := kF_Nm) rfl kin_Nm (Nat.le_of_ble_eq_true rfl) d_Nm_levelsUnder_27 (kw1 97 rfl rfl))) (
  kc_case (P := P) (kc_se c_Nm_levelsUnder_26 (sm_aload_n d_Nm_levelsUnder_26 rfl)) (
  kc_case (P := P) (kc_se rfl sm_no) (
  kc_case (P := P) (kc_se rfl sm_no) (
  kc_case (P := P) (kc_se c_Nm_levelsUnder_23 (sm_cm_ge d_Nm_levelsUnder_23 (by decide))) (
  kc_case (P := P) (kc_se rfl sm_no) (
  kc_case (P := P) (kc_se rfl sm_no) (
  kc_case (P := P) (kc_se c_Nm_levelsUnder_20 (sm_get (ci := 5) (C := "DirectoryDesk$Name") (F := kF_Nm) rfl kin_Nm (Nat.le_of_ble_eq_true rfl) d_Nm_levelsUnder_20 (kw1 103 rfl rfl))) (
  kc_case (P := P) (kc_se c_Nm_levelsUnder_19 (sm_aload_n d_Nm_levelsUnder_19 rfl)) (
  kc_case (P := P) (kc_se c_Nm_levelsUnder_18 (sm_iload_n d_Nm_levelsUnder_18 rfl)) (
  kc_case (P := P) (kc_se c_Nm_levelsUnder_17 (sm_istore_n d_Nm_levelsUnder_17 rfl (Nat.le_of_ble_eq_true rfl))) (
  kc_case (P := P) (kc_se c_Nm_levelsUnder_16 (sm_iconst d_Nm_levelsUnder_16 (by decide))) (
  kc_case (P := P) (kc_se c_Nm_levelsUnder_15 (sm_ri d_Nm_levelsUnder_15 rfl)) (
  kc_case (P := P) (kc_se c_Nm_levelsUnder_14 (sm_iconst d_Nm_levelsUnder_14 (by decide))) (
  kc_case (P := P) (kc_se rfl sm_no) (
  kc_case (P := P) (kc_se rfl sm_no) (
  kc_case (P := P) (kc_se c_Nm_levelsUnder_11 (sm_if_ge d_Nm_levelsUnder_11 (by decide))) (
  kc_case (P := P) (kc_se c_Nm_levelsUnder_10 (sm_iload_n d_Nm_levelsUnder_10 rfl)) (
  kc_case (P := P) (kc_se c_Nm_levelsUnder_9 (sm_istore_n d_Nm_levelsUnder_9 rfl (Nat.le_of_ble_eq_true rfl))) (
  kc_case (P := P) (kc_se c_Nm_levelsUnder_8 (sm_isub d_Nm_levelsUnder_8)) (
  kc_case (P := P) (kc_se rfl sm_no) (
  kc_case (P := P) (kc_se rfl sm_no) (
  kc_case (P := P) (kc_se c_Nm_levelsUnder_5 (sm_get (ci := 5) (C := "DirectoryDesk$Name") (F := kF_Nm) rfl kin_Nm (Nat.le_of_ble_eq_true rfl) d_Nm_levelsUnder_5 (kw1 103 rfl rfl))) (
  kc_case (P := P) (kc_se c_Nm_levelsUnder_4 (sm_aload_n d_Nm_levelsUnder_4 rfl)) (
  kc_case (P := P) (kc_se rfl sm_no) (
  kc_case (P := P) (kc_se rfl sm_no) (
  kc_case (P := P) (kc_se c_Nm_levelsUnder_1 (sm_get (ci := 5) (C := "DirectoryDesk$Name") (F := kF_Nm) rfl kin_Nm (Nat.le_of_ble_eq_true rfl) d_Nm_levelsUnder_1 (kw1 103 rfl rfl))) (
  kc_case (P := P) (kc_se c_Nm_levelsUnder_0 (sm_aload_n d_Nm_levelsUnder_0 rfl)) (
  kc_case0))))))))))))))))))))))))))))))))))))))))))))))))))))))))))))
set_option maxRecDepth 100000 in
set_option maxHeartbeats 4000000 in
theorem s_Nm_levelsUnder_71 : ∀ pc, pc < 71 → kc_Sim kt kw_A kw_N kt_cl kt_En "DirectoryDesk$Name" prog_5_method_6_code 4 (some .int) "levelsUnder" none pc (ct_Nm_levelsUnder pc) := by
  let P : Nat → Prop := fun pc => kc_Sim kt kw_A kw_N kt_cl kt_En "DirectoryDesk$Name" prog_5_method_6_code 4 (some .int) "levelsUnder" none pc (ct_Nm_levelsUnder pc)
  exact kc_case (P := P) (kc_se c_Nm_levelsUnder_70 (sm_ri d_Nm_levelsUnder_70 rfl)) (
  kc_case (P := P) (kc_se c_Nm_levelsUnder_69 (sm_iload_n d_Nm_levelsUnder_69 rfl)) (
  kc_case (P := P) (kc_se rfl sm_no) (
  kc_case (P := P) (kc_se rfl sm_no) (
  kc_case (P := P) (kc_se c_Nm_levelsUnder_66 (sm_goto d_Nm_levelsUnder_66 (by decide))) (
  kc_case (P := P) (kc_se rfl sm_no) (
  kc_case (P := P) (kc_se rfl sm_no) (
  kc_case (P := P) (kc_se c_Nm_levelsUnder_63 (sm_inc d_Nm_levelsUnder_63 (by decide) (Nat.le_of_ble_eq_true rfl))) (
  kc_case (P := P) (kc_se c_Nm_levelsUnder_62 (sm_ri d_Nm_levelsUnder_62 rfl)) (
  kc_case (P := P) (kc_se c_Nm_levelsUnder_61 (sm_iconst d_Nm_levelsUnder_61 (by decide))) (
  kc_case (P := P) (kc_se rfl sm_no) (
  s_Nm_levelsUnder_60)))))))))))
theorem ka_nth_no_Nm_levelsUnder (pc : Nat) (h : 71 ≤ pc) : ct_Nm_levelsUnder pc = ka_no := ka_nth_ge _ pc (Nat.le_trans (Nat.le_of_eq (by rfl)) h)
theorem s_Nm_levelsUnder (pc : Nat) : kc_Sim kt kw_A kw_N kt_cl kt_En "DirectoryDesk$Name" prog_5_method_6_code 4 (some .int) "levelsUnder" none pc (ct_Nm_levelsUnder pc) := (Nat.lt_or_ge pc 71).elim (s_Nm_levelsUnder_71 pc) (fun h => kc_se (ka_nth_no_Nm_levelsUnder pc h) sm_no)
def cl_Pa_init_0 : List kc_A := [ka_al 0 1, ka_obj, ka_no, ka_no, ka_al 0 1, ka_il 1 1, ka_newi, ka_no, ka_put 6 0 (.array .int), ka_no, ka_no, ka_al 0 1, ka_il 1 1, ka_newl, ka_no, ka_put 6 1 (.array .long), ka_no, ka_no, ka_ret]
def ct_Pa_init : Nat → kc_A := fun pc => ka_nth (cl_Pa_init_0) pc
set_option maxRecDepth 100000 in
theorem c_Pa_init_0 : ct_Pa_init 0 = ka_al 0 1 := rfl
theorem d_Pa_init_0 : decode prog_6_method_1_code 0 = .ok (.aload_n 0, 1) := by decide +kernel
set_option maxRecDepth 100000 in
theorem c_Pa_init_1 : ct_Pa_init 1 = ka_obj := rfl
theorem d_Pa_init_1 : decode prog_6_method_1_code 1 = .ok (.invokespecial 3, 3) := by decide +kernel
set_option maxRecDepth 100000 in
theorem c_Pa_init_4 : ct_Pa_init 4 = ka_al 0 1 := rfl
theorem d_Pa_init_4 : decode prog_6_method_1_code 4 = .ok (.aload_n 0, 1) := by decide +kernel
set_option maxRecDepth 100000 in
theorem c_Pa_init_5 : ct_Pa_init 5 = ka_il 1 1 := rfl
theorem d_Pa_init_5 : decode prog_6_method_1_code 5 = .ok (.iload_n 1, 1) := by decide +kernel
set_option maxRecDepth 100000 in
theorem c_Pa_init_6 : ct_Pa_init 6 = ka_newi := rfl
theorem d_Pa_init_6 : decode prog_6_method_1_code 6 = .ok (.newarray .int, 2) := by decide +kernel
set_option maxRecDepth 100000 in
theorem c_Pa_init_8 : ct_Pa_init 8 = ka_put 6 0 (.array .int) := rfl
theorem d_Pa_init_8 : decode prog_6_method_1_code 8 = .ok (.putfield 9, 3) := by decide +kernel
set_option maxRecDepth 100000 in
theorem c_Pa_init_11 : ct_Pa_init 11 = ka_al 0 1 := rfl
theorem d_Pa_init_11 : decode prog_6_method_1_code 11 = .ok (.aload_n 0, 1) := by decide +kernel
set_option maxRecDepth 100000 in
theorem c_Pa_init_12 : ct_Pa_init 12 = ka_il 1 1 := rfl
theorem d_Pa_init_12 : decode prog_6_method_1_code 12 = .ok (.iload_n 1, 1) := by decide +kernel
set_option maxRecDepth 100000 in
theorem c_Pa_init_13 : ct_Pa_init 13 = ka_newl := rfl
theorem d_Pa_init_13 : decode prog_6_method_1_code 13 = .ok (.newarray .long, 2) := by decide +kernel
set_option maxRecDepth 100000 in
theorem c_Pa_init_15 : ct_Pa_init 15 = ka_put 6 1 (.array .long) := rfl
theorem d_Pa_init_15 : decode prog_6_method_1_code 15 = .ok (.putfield 15, 3) := by decide +kernel
set_option maxRecDepth 100000 in
theorem c_Pa_init_18 : ct_Pa_init 18 = ka_ret := rfl
theorem d_Pa_init_18 : decode prog_6_method_1_code 18 = .ok (.return_, 1) := by decide +kernel
set_option maxRecDepth 100000 in
set_option maxHeartbeats 4000000 in
theorem s_Pa_init_19 : ∀ pc, pc < 19 → kc_Sim kt kw_A kw_N kt_cl kt_En "DirectoryDesk$Pairs" prog_6_method_1_code 2 (none) "<init>" none pc (ct_Pa_init pc) := by
  let P : Nat → Prop := fun pc => kc_Sim kt kw_A kw_N kt_cl kt_En "DirectoryDesk$Pairs" prog_6_method_1_code 2 (none) "<init>" none pc (ct_Pa_init pc)
  exact kc_case (P := P) (kc_se c_Pa_init_18 (sm_ret d_Pa_init_18 rfl)) (
  kc_case (P := P) (kc_se rfl sm_no) (
  kc_case (P := P) (kc_se rfl sm_no) (
  kc_case (P := P) (kc_se c_Pa_init_15 (sm_putF (ci := 6) (C := "DirectoryDesk$Pairs") (F := kF_Pa) rfl kin_Pa kty_Pa ktk_Pa knm_Pa (Nat.le_of_ble_eq_true rfl) (by decide +kernel) d_Pa_init_15 (kw1 124 rfl rfl) rfl rfl rfl)) (
  kc_case (P := P) (kc_se rfl sm_no) (
  kc_case (P := P) (kc_se c_Pa_init_13 (sm_newl rfl d_Pa_init_13 (kw1 115 rfl rfl))) (
  kc_case (P := P) (kc_se c_Pa_init_12 (sm_iload_n d_Pa_init_12 rfl)) (
  kc_case (P := P) (kc_se c_Pa_init_11 (sm_aload_n d_Pa_init_11 rfl)) (
  kc_case (P := P) (kc_se rfl sm_no) (
  kc_case (P := P) (kc_se rfl sm_no) (
  kc_case (P := P) (kc_se c_Pa_init_8 (sm_putF (ci := 6) (C := "DirectoryDesk$Pairs") (F := kF_Pa) rfl kin_Pa kty_Pa ktk_Pa knm_Pa (Nat.le_of_ble_eq_true rfl) (by decide +kernel) d_Pa_init_8 (kw1 122 rfl rfl) rfl rfl rfl)) (
  kc_case (P := P) (kc_se rfl sm_no) (
  kc_case (P := P) (kc_se c_Pa_init_6 (sm_newi rfl d_Pa_init_6 (kw1 62 rfl rfl))) (
  kc_case (P := P) (kc_se c_Pa_init_5 (sm_iload_n d_Pa_init_5 rfl)) (
  kc_case (P := P) (kc_se c_Pa_init_4 (sm_aload_n d_Pa_init_4 rfl)) (
  kc_case (P := P) (kc_se rfl sm_no) (
  kc_case (P := P) (kc_se rfl sm_no) (
  kc_case (P := P) (kc_se c_Pa_init_1 (sm_obj d_Pa_init_1 (kw1 121 rfl rfl) (kw1 20 rfl rfl) (kw1 21 rfl rfl))) (
  kc_case (P := P) (kc_se c_Pa_init_0 (sm_aload_n d_Pa_init_0 rfl)) (
  kc_case0)))))))))))))))))))
theorem ka_nth_no_Pa_init (pc : Nat) (h : 19 ≤ pc) : ct_Pa_init pc = ka_no := ka_nth_ge _ pc (Nat.le_trans (Nat.le_of_eq (by rfl)) h)
theorem s_Pa_init (pc : Nat) : kc_Sim kt kw_A kw_N kt_cl kt_En "DirectoryDesk$Pairs" prog_6_method_1_code 2 (none) "<init>" none pc (ct_Pa_init pc) := (Nat.lt_or_ge pc 19).elim (s_Pa_init_19 pc) (fun h => kc_se (ka_nth_no_Pa_init pc h) sm_no)
