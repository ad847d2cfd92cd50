/-! code of methods, decode rows, and that the JVM follows (by program) -/
def cl_Md_find_0 : List kc_A := [ka_ci (nI 0) 1, ka_is 2 1, ka_il 2 1, ka_al 0 1, ka_get 10 6, ka_no, ka_no, ka_cm (fun x y => y ≤ x) 27, ka_no, ka_no, ka_al 0 1, ka_il 2 1, ka_il 1 1, ka_cv 108 2 10 0 0, ka_no, ka_no, ka_if (fun x => x = 0) 21, ka_no, ka_no, ka_il 2 1, ka_ri, ka_inc 2 (nI 1), ka_no, ka_no, ka_goto 2, ka_no, ka_no, ka_ci (-1) 1, ka_ri]
def ct_Md_find : Nat → kc_A := fun pc => ka_nth (cl_Md_find_0) pc
set_option maxRecDepth 100000 in
theorem c_Md_find_0 : ct_Md_find 0 = ka_ci (nI 0) 1 := rfl
theorem d_Md_find_0 : decode prog_12_method_14_code 0 = .ok (.iconst 0, 1) := by decide +kernel
set_option maxRecDepth 100000 in
theorem c_Md_find_1 : ct_Md_find 1 = ka_is 2 1 := rfl
theorem d_Md_find_1 : decode prog_12_method_14_code 1 = .ok (.istore_n 2, 1) := by decide +kernel
set_option maxRecDepth 100000 in
theorem c_Md_find_2 : ct_Md_find 2 = ka_il 2 1 := rfl
theorem d_Md_find_2 : decode prog_12_method_14_code 2 = .ok (.iload_n 2, 1) := by decide +kernel
set_option maxRecDepth 100000 in
theorem c_Md_find_3 : ct_Md_find 3 = ka_al 0 1 := rfl
theorem d_Md_find_3 : decode prog_12_method_14_code 3 = .ok (.aload_n 0, 1) := by decide +kernel
set_option maxRecDepth 100000 in
theorem c_Md_find_4 : ct_Md_find 4 = ka_get 10 6 := rfl
theorem d_Md_find_4 : decode prog_12_method_14_code 4 = .ok (.getfield 83, 3) := by decide +kernel
set_option maxRecDepth 100000 in
theorem c_Md_find_7 : ct_Md_find 7 = ka_cm (fun x y => y ≤ x) 27 := rfl
theorem d_Md_find_7 : decode prog_12_method_14_code 7 = .ok (.if_icmp .ge 20, 3) := by decide +kernel
set_option maxRecDepth 100000 in
theorem c_Md_find_10 : ct_Md_find 10 = ka_al 0 1 := rfl
theorem d_Md_find_10 : decode prog_12_method_14_code 10 = .ok (.aload_n 0, 1) := by decide +kernel
set_option maxRecDepth 100000 in
theorem c_Md_find_11 : ct_Md_find 11 = ka_il 2 1 := rfl
theorem d_Md_find_11 : decode prog_12_method_14_code 11 = .ok (.iload_n 2, 1) := by decide +kernel
set_option maxRecDepth 100000 in
theorem c_Md_find_12 : ct_Md_find 12 = ka_il 1 1 := rfl
theorem d_Md_find_12 : decode prog_12_method_14_code 12 = .ok (.iload_n 1, 1) := by decide +kernel
set_option maxRecDepth 100000 in
theorem c_Md_find_13 : ct_Md_find 13 = ka_cv 108 2 10 0 0 := rfl
theorem d_Md_find_13 : decode prog_12_method_14_code 13 = .ok (.invokevirtual 137, 3) := by decide +kernel
set_option maxRecDepth 100000 in
theorem c_Md_find_16 : ct_Md_find 16 = ka_if (fun x => x = 0) 21 := rfl
theorem d_Md_find_16 : decode prog_12_method_14_code 16 = .ok (.ifCond .eq 5, 3) := by decide +kernel
set_option maxRecDepth 100000 in
theorem c_Md_find_19 : ct_Md_find 19 = ka_il 2 1 := rfl
theorem d_Md_find_19 : decode prog_12_method_14_code 19 = .ok (.iload_n 2, 1) := by decide +kernel
set_option maxRecDepth 100000 in
theorem c_Md_find_20 : ct_Md_find 20 = ka_ri := rfl
theorem d_Md_find_20 : decode prog_12_method_14_code 20 = .ok (.ireturn, 1) := by decide +kernel
set_option maxRecDepth 100000 in
theorem c_Md_find_21 : ct_Md_find 21 = ka_inc 2 (nI 1) := rfl
theorem d_Md_find_21 : decode prog_12_method_14_code 21 = .ok (.iinc 2 1, 3) := by decide +kernel
set_option maxRecDepth 100000 in
theorem c_Md_find_24 : ct_Md_find 24 = ka_goto 2 := rfl
theorem d_Md_find_24 : decode prog_12_method_14_code 24 = .ok (.goto (-22), 3) := by decide +kernel
set_option maxRecDepth 100000 in
theorem c_Md_find_27 : ct_Md_find 27 = ka_ci (-1) 1 := rfl
theorem d_Md_find_27 : decode prog_12_method_14_code 27 = .ok (.iconst (-1), 1) := by decide +kernel
set_option maxRecDepth 100000 in
theorem c_Md_find_28 : ct_Md_find 28 = ka_ri := rfl
theorem d_Md_find_28 : decode prog_12_method_14_code 28 = .ok (.ireturn, 1) := by decide +kernel
set_option maxRecDepth 100000 in
set_option maxHeartbeats 4000000 in
theorem s_Md_find_29 : ∀ pc, pc < 29 → kc_Sim kt kw_A kw_N kt_cl kt_En "DirectoryDeskModel" prog_12_method_14_code 3 (some .int) "find" none pc (ct_Md_find pc) := by
  let P : Nat → Prop := fun pc => kc_Sim kt kw_A kw_N kt_cl kt_En "DirectoryDeskModel" prog_12_method_14_code 3 (some .int) "find" none pc (ct_Md_find pc)
  exact kc_case (P := P) (kc_se c_Md_find_28 (sm_ri d_Md_find_28 rfl)) (
  kc_case (P := P) (kc_se c_Md_find_27 (sm_iconst d_Md_find_27 (by decide))) (
  kc_case (P := P) (kc_se rfl sm_no) (
  kc_case (P := P) (kc_se rfl sm_no) (
  kc_case (P := P) (kc_se c_Md_find_24 (sm_goto d_Md_find_24 (by decide))) (
  kc_case (P := P) (kc_se rfl sm_no) (
  kc_case (P := P) (kc_se rfl sm_no) (
  kc_case (P := P) (kc_se c_Md_find_21 (sm_inc d_Md_find_21 (by decide) (Nat.le_of_ble_eq_true rfl))) (
  kc_case (P := P) (kc_se c_Md_find_20 (sm_ri d_Md_find_20 rfl)) (
  kc_case (P := P) (kc_se c_Md_find_19 (sm_iload_n d_Md_find_19 rfl)) (
  kc_case (P := P) (kc_se rfl sm_no) (
  kc_case (P := P) (kc_se rfl sm_no) (
  kc_case (P := P) (kc_se c_Md_find_16 (sm_if_eq d_Md_find_16 (by decide))) (
  kc_case (P := P) (kc_se rfl sm_no) (
  kc_case (P := P) (kc_se rfl sm_no) (
  kc_case (P := P) (kc_se c_Md_find_13 (sm_cv (j := 108) rfl rfl kw_o kw_g wc_Md_isNamed (Nat.le_of_ble_eq_true rfl) hd_Md_isNamed (ci := 10) (F := kF_Md) (N := 52) rfl (kw4 212 rfl rfl) wi_Md_isNamed ws_Md_isNamed wn_Md_isNamed d_Md_find_13)) (
  kc_case (P := P) (kc_se c_Md_find_12 (sm_iload_n d_Md_find_12 rfl)) (
  kc_case (P := P) (kc_se c_Md_find_11 (sm_iload_n d_Md_find_11 rfl)) (
  kc_case (P := P) (kc_se c_Md_find_10 (sm_aload_n d_Md_find_10 rfl)) (
  kc_case (P := P) (kc_se rfl sm_no) (
  kc_case (P := P) (kc_se rfl sm_no) (
  kc_case (P := P) (kc_se c_Md_find_7 (sm_cm_ge d_Md_find_7 (by decide))) (
  kc_case (P := P) (kc_se rfl sm_no) (
  kc_case (P := P) (kc_se rfl sm_no) (
  kc_case (P := P) (kc_se c_Md_find_4 (sm_get (ci := 10) (C := "DirectoryDeskModel") (F := kF_Md) rfl kin_Md (Nat.le_of_ble_eq_true rfl) d_Md_find_4 (kw3 189 rfl rfl))) (
  kc_case (P := P) (kc_se c_Md_find_3 (sm_aload_n d_Md_find_3 rfl)) (
  kc_case (P := P) (kc_se c_Md_find_2 (sm_iload_n d_Md_find_2 rfl)) (
  kc_case (P := P) (kc_se c_Md_find_1 (sm_istore_n d_Md_find_1 rfl (Nat.le_of_ble_eq_true rfl))) (
  kc_case (P := P) (kc_se c_Md_find_0 (sm_iconst d_Md_find_0 (by decide))) (
  kc_case0)))))))))))))))))))))))))))))
set_option maxRecDepth 100000 in
theorem ka_nth_no_Md_find (pc : Nat) (h : 29 ≤ pc) : ct_Md_find pc = ka_no := ka_nth_ge _ pc (Nat.le_trans (Nat.le_of_eq (by rfl)) h)
theorem s_Md_find (pc : Nat) : kc_Sim kt kw_A kw_N kt_cl kt_En "DirectoryDeskModel" prog_12_method_14_code 3 (some .int) "find" none pc (ct_Md_find pc) := (Nat.lt_or_ge pc 29).elim (s_Md_find_29 pc) (fun h => kc_se (ka_nth_no_Md_find pc h) sm_no)
def cl_Md_isUnder_0 : List kc_A := [ka_al 0 1, ka_get 10 7, ka_no, ka_no, ka_il 1 1, ka_iald, ka_il 2 1, ka_if (fun x => 0 ≤ x) 14, ka_no, ka_no, ka_ci (nI 0) 1, ka_goto 20, ka_no, ka_no, ka_al 0 1, ka_get 10 7, ka_no, ka_no, ka_il 2 1, ka_iald, ka_ii (fun x y => x - y), ka_is 4 2, ka_no, ka_il 4 2, ka_no, ka_if (fun x => x ≤ 0) 42, ka_no, ka_no, ka_il 3 1, ka_if (fun x => x < 0) 38, ka_no, ka_no, ka_il 4 2, ka_no, ka_il 3 1, ka_cm (fun x y => ¬ x = y) 42, ka_no, ka_no, ka_ci (nI 1) 1, ka_goto 43, ka_no, ka_no, ka_ci (nI 0) 1, ka_is 5 2, ka_no, ka_ci (nI 0) 1, ka_is 6 2, ka_no, ka_il 2 1, ka_if (fun x => x < 0) 138, ka_no, ka_no, ka_il 5 2, ka_no, ka_if (fun x => x = 0) 138, ka_no, ka_no, ka_il 6 2, ka_no, ka_al 0 1]
def cl_Md_isUnder_1 : List kc_A := [ka_get 10 7, ka_no, ka_no, ka_il 2 1, ka_iald, ka_cm (fun x y => y ≤ x) 138, ka_no, ka_no, ka_al 0 1, ka_get 10 8, ka_no, ka_no, ka_ci (nI 4) 1, ka_il 1 1, ka_ii (fun x y => x * y), ka_il 4 2, ka_no, ka_ii (fun x y => x + y), ka_il 6 2, ka_no, ka_ii (fun x y => x + y), ka_iald, ka_al 0 1, ka_get 10 8, ka_no, ka_no, ka_ci (nI 4) 1, ka_il 2 1, ka_ii (fun x y => x * y), ka_il 6 2, ka_no, ka_ii (fun x y => x + y), ka_iald, ka_cm (fun x y => ¬ x = y) 129, ka_no, ka_no, ka_al 0 1, ka_get 10 9, ka_no, ka_no, ka_ci (nI 4) 1, ka_il 1 1, ka_ii (fun x y => x * y), ka_il 4 2, ka_no, ka_ii (fun x y => x + y), ka_il 6 2, ka_no, ka_ii (fun x y => x + y), ka_lald, ka_al 0 1, ka_get 10 9, ka_no, ka_no, ka_ci (nI 4) 1, ka_il 2 1, ka_ii (fun x y => x * y), ka_il 6 2, ka_no, ka_ii (fun x y => x + y)]
def cl_Md_isUnder_2 : List kc_A := [ka_lald, ka_lcmp, ka_if (fun x => ¬ x = 0) 129, ka_no, ka_no, ka_ci (nI 1) 1, ka_goto 130, ka_no, ka_no, ka_ci (nI 0) 1, ka_is 5 2, ka_no, ka_inc 6 (nI 1), ka_no, ka_no, ka_goto 48, ka_no, ka_no, ka_il 5 2, ka_no, ka_rz]
def ct_Md_isUnder : Nat → kc_A := fun pc => ka_nth (cl_Md_isUnder_0 ++ (cl_Md_isUnder_1 ++ (cl_Md_isUnder_2))) pc
set_option maxRecDepth 100000 in
theorem c_Md_isUnder_0 : ct_Md_isUnder 0 = ka_al 0 1 := rfl
theorem d_Md_isUnder_0 : decode prog_12_method_15_code 0 = .ok (.aload_n 0, 1) := by decide +kernel
set_option maxRecDepth 100000 in
theorem c_Md_isUnder_1 : ct_Md_isUnder 1 = ka_get 10 7 := rfl
theorem d_Md_isUnder_1 : decode prog_12_method_15_code 1 = .ok (.getfield 16, 3) := by decide +kernel
set_option maxRecDepth 100000 in
theorem c_Md_isUnder_4 : ct_Md_isUnder 4 = ka_il 1 1 := rfl
theorem d_Md_isUnder_4 : decode prog_12_method_15_code 4 = .ok (.iload_n 1, 1) := by decide +kernel
set_option maxRecDepth 100000 in
theorem c_Md_isUnder_5 : ct_Md_isUnder 5 = ka_iald := rfl
theorem d_Md_isUnder_5 : decode prog_12_method_15_code 5 = .ok (.iaload, 1) := by decide +kernel
set_option maxRecDepth 100000 in
theorem c_Md_isUnder_6 : ct_Md_isUnder 6 = ka_il 2 1 := rfl
theorem d_Md_isUnder_6 : decode prog_12_method_15_code 6 = .ok (.iload_n 2, 1) := by decide +kernel
set_option maxRecDepth 100000 in
theorem c_Md_isUnder_7 : ct_Md_isUnder 7 = ka_if (fun x => 0 ≤ x) 14 := rfl
theorem d_Md_isUnder_7 : decode prog_12_method_15_code 7 = .ok (.ifCond .ge 7, 3) := by decide +kernel
set_option maxRecDepth 100000 in
theorem c_Md_isUnder_10 : ct_Md_isUnder 10 = ka_ci (nI 0) 1 := rfl
theorem d_Md_isUnder_10 : decode prog_12_method_15_code 10 = .ok (.iconst 0, 1) := by decide +kernel
set_option maxRecDepth 100000 in
theorem c_Md_isUnder_11 : ct_Md_isUnder 11 = ka_goto 20 := rfl
theorem d_Md_isUnder_11 : decode prog_12_method_15_code 11 = .ok (.goto 9, 3) := by decide +kernel
set_option maxRecDepth 100000 in
theorem c_Md_isUnder_14 : ct_Md_isUnder 14 = ka_al 0 1 := rfl
theorem d_Md_isUnder_14 : decode prog_12_method_15_code 14 = .ok (.aload_n 0, 1) := by decide +kernel
set_option maxRecDepth 100000 in
theorem c_Md_isUnder_15 : ct_Md_isUnder 15 = ka_get 10 7 := rfl
theorem d_Md_isUnder_15 : decode prog_12_method_15_code 15 = .ok (.getfield 16, 3) := by decide +kernel
set_option maxRecDepth 100000 in
theorem c_Md_isUnder_18 : ct_Md_isUnder 18 = ka_il 2 1 := rfl
theorem d_Md_isUnder_18 : decode prog_12_method_15_code 18 = .ok (.iload_n 2, 1) := by decide +kernel
set_option maxRecDepth 100000 in
theorem c_Md_isUnder_19 : ct_Md_isUnder 19 = ka_iald := rfl
theorem d_Md_isUnder_19 : decode prog_12_method_15_code 19 = .ok (.iaload, 1) := by decide +kernel
set_option maxRecDepth 100000 in
theorem c_Md_isUnder_20 : ct_Md_isUnder 20 = ka_ii (fun x y => x - y) := rfl
theorem d_Md_isUnder_20 : decode prog_12_method_15_code 20 = .ok (.isub, 1) := by decide +kernel
set_option maxRecDepth 100000 in
theorem c_Md_isUnder_21 : ct_Md_isUnder 21 = ka_is 4 2 := rfl
theorem d_Md_isUnder_21 : decode prog_12_method_15_code 21 = .ok (.istore 4, 2) := by decide +kernel
set_option maxRecDepth 100000 in
theorem c_Md_isUnder_23 : ct_Md_isUnder 23 = ka_il 4 2 := rfl
theorem d_Md_isUnder_23 : decode prog_12_method_15_code 23 = .ok (.iload 4, 2) := by decide +kernel
set_option maxRecDepth 100000 in
theorem c_Md_isUnder_25 : ct_Md_isUnder 25 = ka_if (fun x => x ≤ 0) 42 := rfl
theorem d_Md_isUnder_25 : decode prog_12_method_15_code 25 = .ok (.ifCond .le 17, 3) := by decide +kernel
set_option maxRecDepth 100000 in
theorem c_Md_isUnder_28 : ct_Md_isUnder 28 = ka_il 3 1 := rfl
theorem d_Md_isUnder_28 : decode prog_12_method_15_code 28 = .ok (.iload_n 3, 1) := by decide +kernel
set_option maxRecDepth 100000 in
theorem c_Md_isUnder_29 : ct_Md_isUnder 29 = ka_if (fun x => x < 0) 38 := rfl
theorem d_Md_isUnder_29 : decode prog_12_method_15_code 29 = .ok (.ifCond .lt 9, 3) := by decide +kernel
set_option maxRecDepth 100000 in
theorem c_Md_isUnder_32 : ct_Md_isUnder 32 = ka_il 4 2 := rfl
theorem d_Md_isUnder_32 : decode prog_12_method_15_code 32 = .ok (.iload 4, 2) := by decide +kernel
set_option maxRecDepth 100000 in
theorem c_Md_isUnder_34 : ct_Md_isUnder 34 = ka_il 3 1 := rfl
theorem d_Md_isUnder_34 : decode prog_12_method_15_code 34 = .ok (.iload_n 3, 1) := by decide +kernel
set_option maxRecDepth 100000 in
theorem c_Md_isUnder_35 : ct_Md_isUnder 35 = ka_cm (fun x y => ¬ x = y) 42 := rfl
theorem d_Md_isUnder_35 : decode prog_12_method_15_code 35 = .ok (.if_icmp .ne 7, 3) := by decide +kernel
set_option maxRecDepth 100000 in
theorem c_Md_isUnder_38 : ct_Md_isUnder 38 = ka_ci (nI 1) 1 := rfl
theorem d_Md_isUnder_38 : decode prog_12_method_15_code 38 = .ok (.iconst 1, 1) := by decide +kernel
set_option maxRecDepth 100000 in
theorem c_Md_isUnder_39 : ct_Md_isUnder 39 = ka_goto 43 := rfl
theorem d_Md_isUnder_39 : decode prog_12_method_15_code 39 = .ok (.goto 4, 3) := by decide +kernel
set_option maxRecDepth 100000 in
theorem c_Md_isUnder_42 : ct_Md_isUnder 42 = ka_ci (nI 0) 1 := rfl
theorem d_Md_isUnder_42 : decode prog_12_method_15_code 42 = .ok (.iconst 0, 1) := by decide +kernel
set_option maxRecDepth 100000 in
theorem c_Md_isUnder_43 : ct_Md_isUnder 43 = ka_is 5 2 := rfl
theorem d_Md_isUnder_43 : decode prog_12_method_15_code 43 = .ok (.istore 5, 2) := by decide +kernel
set_option maxRecDepth 100000 in
theorem c_Md_isUnder_45 : ct_Md_isUnder 45 = ka_ci (nI 0) 1 := rfl
theorem d_Md_isUnder_45 : decode prog_12_method_15_code 45 = .ok (.iconst 0, 1) := by decide +kernel
set_option maxRecDepth 100000 in
theorem c_Md_isUnder_46 : ct_Md_isUnder 46 = ka_is 6 2 := rfl
theorem d_Md_isUnder_46 : decode prog_12_method_15_code 46 = .ok (.istore 6, 2) := by decide +kernel
set_option maxRecDepth 100000 in
theorem c_Md_isUnder_48 : ct_Md_isUnder 48 = ka_il 2 1 := rfl
theorem d_Md_isUnder_48 : decode prog_12_method_15_code 48 = .ok (.iload_n 2, 1) := by decide +kernel
set_option maxRecDepth 100000 in
theorem c_Md_isUnder_49 : ct_Md_isUnder 49 = ka_if (fun x => x < 0) 138 := rfl
theorem d_Md_isUnder_49 : decode prog_12_method_15_code 49 = .ok (.ifCond .lt 89, 3) := by decide +kernel
set_option maxRecDepth 100000 in
theorem c_Md_isUnder_52 : ct_Md_isUnder 52 = ka_il 5 2 := rfl
theorem d_Md_isUnder_52 : decode prog_12_method_15_code 52 = .ok (.iload 5, 2) := by decide +kernel
set_option maxRecDepth 100000 in
theorem c_Md_isUnder_54 : ct_Md_isUnder 54 = ka_if (fun x => x = 0) 138 := rfl
theorem d_Md_isUnder_54 : decode prog_12_method_15_code 54 = .ok (.ifCond .eq 84, 3) := by decide +kernel
set_option maxRecDepth 100000 in
theorem c_Md_isUnder_57 : ct_Md_isUnder 57 = ka_il 6 2 := rfl
theorem d_Md_isUnder_57 : decode prog_12_method_15_code 57 = .ok (.iload 6, 2) := by decide +kernel
set_option maxRecDepth 100000 in
theorem c_Md_isUnder_59 : ct_Md_isUnder 59 = ka_al 0 1 := rfl
theorem d_Md_isUnder_59 : decode prog_12_method_15_code 59 = .ok (.aload_n 0, 1) := by decide +kernel
set_option maxRecDepth 100000 in
theorem c_Md_isUnder_60 : ct_Md_isUnder 60 = ka_get 10 7 := rfl
theorem d_Md_isUnder_60 : decode prog_12_method_15_code 60 = .ok (.getfield 16, 3) := by decide +kernel
set_option maxRecDepth 100000 in
theorem c_Md_isUnder_63 : ct_Md_isUnder 63 = ka_il 2 1 := rfl
theorem d_Md_isUnder_63 : decode prog_12_method_15_code 63 = .ok (.iload_n 2, 1) := by decide +kernel
set_option maxRecDepth 100000 in
theorem c_Md_isUnder_64 : ct_Md_isUnder 64 = ka_iald := rfl
theorem d_Md_isUnder_64 : decode prog_12_method_15_code 64 = .ok (.iaload, 1) := by decide +kernel
set_option maxRecDepth 100000 in
theorem c_Md_isUnder_65 : ct_Md_isUnder 65 = ka_cm (fun x y => y ≤ x) 138 := rfl
theorem d_Md_isUnder_65 : decode prog_12_method_15_code 65 = .ok (.if_icmp .ge 73, 3) := by decide +kernel
set_option maxRecDepth 100000 in
theorem c_Md_isUnder_68 : ct_Md_isUnder 68 = ka_al 0 1 := rfl
theorem d_Md_isUnder_68 : decode prog_12_method_15_code 68 = .ok (.aload_n 0, 1) := by decide +kernel
set_option maxRecDepth 100000 in
theorem c_Md_isUnder_69 : ct_Md_isUnder 69 = ka_get 10 8 := rfl
theorem d_Md_isUnder_69 : decode prog_12_method_15_code 69 = .ok (.getfield 19, 3) := by decide +kernel
set_option maxRecDepth 100000 in
theorem c_Md_isUnder_72 : ct_Md_isUnder 72 = ka_ci (nI 4) 1 := rfl
theorem d_Md_isUnder_72 : decode prog_12_method_15_code 72 = .ok (.iconst 4, 1) := by decide +kernel
set_option maxRecDepth 100000 in
theorem c_Md_isUnder_73 : ct_Md_isUnder 73 = ka_il 1 1 := rfl
theorem d_Md_isUnder_73 : decode prog_12_method_15_code 73 = .ok (.iload_n 1, 1) := by decide +kernel
set_option maxRecDepth 100000 in
theorem c_Md_isUnder_74 : ct_Md_isUnder 74 = ka_ii (fun x y => x * y) := rfl
theorem d_Md_isUnder_74 : decode prog_12_method_15_code 74 = .ok (.imul, 1) := by decide +kernel
set_option maxRecDepth 100000 in
theorem c_Md_isUnder_75 : ct_Md_isUnder 75 = ka_il 4 2 := rfl
theorem d_Md_isUnder_75 : decode prog_12_method_15_code 75 = .ok (.iload 4, 2) := by decide +kernel
set_option maxRecDepth 100000 in
theorem c_Md_isUnder_77 : ct_Md_isUnder 77 = ka_ii (fun x y => x + y) := rfl
theorem d_Md_isUnder_77 : decode prog_12_method_15_code 77 = .ok (.iadd, 1) := by decide +kernel
set_option maxRecDepth 100000 in
theorem c_Md_isUnder_78 : ct_Md_isUnder 78 = ka_il 6 2 := rfl
theorem d_Md_isUnder_78 : decode prog_12_method_15_code 78 = .ok (.iload 6, 2) := by decide +kernel
set_option maxRecDepth 100000 in
theorem c_Md_isUnder_80 : ct_Md_isUnder 80 = ka_ii (fun x y => x + y) := rfl
theorem d_Md_isUnder_80 : decode prog_12_method_15_code 80 = .ok (.iadd, 1) := by decide +kernel
set_option maxRecDepth 100000 in
theorem c_Md_isUnder_81 : ct_Md_isUnder 81 = ka_iald := rfl
theorem d_Md_isUnder_81 : decode prog_12_method_15_code 81 = .ok (.iaload, 1) := by decide +kernel
set_option maxRecDepth 100000 in
theorem c_Md_isUnder_82 : ct_Md_isUnder 82 = ka_al 0 1 := rfl
theorem d_Md_isUnder_82 : decode prog_12_method_15_code 82 = .ok (.aload_n 0, 1) := by decide +kernel
set_option maxRecDepth 100000 in
theorem c_Md_isUnder_83 : ct_Md_isUnder 83 = ka_get 10 8 := rfl
theorem d_Md_isUnder_83 : decode prog_12_method_15_code 83 = .ok (.getfield 19, 3) := by decide +kernel
set_option maxRecDepth 100000 in
theorem c_Md_isUnder_86 : ct_Md_isUnder 86 = ka_ci (nI 4) 1 := rfl
theorem d_Md_isUnder_86 : decode prog_12_method_15_code 86 = .ok (.iconst 4, 1) := by decide +kernel
set_option maxRecDepth 100000 in
theorem c_Md_isUnder_87 : ct_Md_isUnder 87 = ka_il 2 1 := rfl
theorem d_Md_isUnder_87 : decode prog_12_method_15_code 87 = .ok (.iload_n 2, 1) := by decide +kernel
set_option maxRecDepth 100000 in
theorem c_Md_isUnder_88 : ct_Md_isUnder 88 = ka_ii (fun x y => x * y) := rfl
theorem d_Md_isUnder_88 : decode prog_12_method_15_code 88 = .ok (.imul, 1) := by decide +kernel
set_option maxRecDepth 100000 in
theorem c_Md_isUnder_89 : ct_Md_isUnder 89 = ka_il 6 2 := rfl
theorem d_Md_isUnder_89 : decode prog_12_method_15_code 89 = .ok (.iload 6, 2) := by decide +kernel
set_option maxRecDepth 100000 in
theorem c_Md_isUnder_91 : ct_Md_isUnder 91 = ka_ii (fun x y => x + y) := rfl
theorem d_Md_isUnder_91 : decode prog_12_method_15_code 91 = .ok (.iadd, 1) := by decide +kernel
set_option maxRecDepth 100000 in
theorem c_Md_isUnder_92 : ct_Md_isUnder 92 = ka_iald := rfl
theorem d_Md_isUnder_92 : decode prog_12_method_15_code 92 = .ok (.iaload, 1) := by decide +kernel
set_option maxRecDepth 100000 in
theorem c_Md_isUnder_93 : ct_Md_isUnder 93 = ka_cm (fun x y => ¬ x = y) 129 := rfl
theorem d_Md_isUnder_93 : decode prog_12_method_15_code 93 = .ok (.if_icmp .ne 36, 3) := by decide +kernel
set_option maxRecDepth 100000 in
theorem c_Md_isUnder_96 : ct_Md_isUnder 96 = ka_al 0 1 := rfl
theorem d_Md_isUnder_96 : decode prog_12_method_15_code 96 = .ok (.aload_n 0, 1) := by decide +kernel
set_option maxRecDepth 100000 in
theorem c_Md_isUnder_97 : ct_Md_isUnder 97 = ka_get 10 9 := rfl
theorem d_Md_isUnder_97 : decode prog_12_method_15_code 97 = .ok (.getfield 22, 3) := by decide +kernel
set_option maxRecDepth 100000 in
theorem c_Md_isUnder_100 : ct_Md_isUnder 100 = ka_ci (nI 4) 1 := rfl
theorem d_Md_isUnder_100 : decode prog_12_method_15_code 100 = .ok (.iconst 4, 1) := by decide +kernel
set_option maxRecDepth 100000 in
theorem c_Md_isUnder_101 : ct_Md_isUnder 101 = ka_il 1 1 := rfl
theorem d_Md_isUnder_101 : decode prog_12_method_15_code 101 = .ok (.iload_n 1, 1) := by decide +kernel
set_option maxRecDepth 100000 in
theorem c_Md_isUnder_102 : ct_Md_isUnder 102 = ka_ii (fun x y => x * y) := rfl
theorem d_Md_isUnder_102 : decode prog_12_method_15_code 102 = .ok (.imul, 1) := by decide +kernel
set_option maxRecDepth 100000 in
theorem c_Md_isUnder_103 : ct_Md_isUnder 103 = ka_il 4 2 := rfl
theorem d_Md_isUnder_103 : decode prog_12_method_15_code 103 = .ok (.iload 4, 2) := by decide +kernel
set_option maxRecDepth 100000 in
theorem c_Md_isUnder_105 : ct_Md_isUnder 105 = ka_ii (fun x y => x + y) := rfl
theorem d_Md_isUnder_105 : decode prog_12_method_15_code 105 = .ok (.iadd, 1) := by decide +kernel
set_option maxRecDepth 100000 in
theorem c_Md_isUnder_106 : ct_Md_isUnder 106 = ka_il 6 2 := rfl
theorem d_Md_isUnder_106 : decode prog_12_method_15_code 106 = .ok (.iload 6, 2) := by decide +kernel
set_option maxRecDepth 100000 in
theorem c_Md_isUnder_108 : ct_Md_isUnder 108 = ka_ii (fun x y => x + y) := rfl
theorem d_Md_isUnder_108 : decode prog_12_method_15_code 108 = .ok (.iadd, 1) := by decide +kernel
set_option maxRecDepth 100000 in
theorem c_Md_isUnder_109 : ct_Md_isUnder 109 = ka_lald := rfl
theorem d_Md_isUnder_109 : decode prog_12_method_15_code 109 = .ok (.laload, 1) := by decide +kernel
set_option maxRecDepth 100000 in
theorem c_Md_isUnder_110 : ct_Md_isUnder 110 = ka_al 0 1 := rfl
theorem d_Md_isUnder_110 : decode prog_12_method_15_code 110 = .ok (.aload_n 0, 1) := by decide +kernel
set_option maxRecDepth 100000 in
theorem c_Md_isUnder_111 : ct_Md_isUnder 111 = ka_get 10 9 := rfl
theorem d_Md_isUnder_111 : decode prog_12_method_15_code 111 = .ok (.getfield 22, 3) := by decide +kernel
set_option maxRecDepth 100000 in
theorem c_Md_isUnder_114 : ct_Md_isUnder 114 = ka_ci (nI 4) 1 := rfl
theorem d_Md_isUnder_114 : decode prog_12_method_15_code 114 = .ok (.iconst 4, 1) := by decide +kernel
set_option maxRecDepth 100000 in
theorem c_Md_isUnder_115 : ct_Md_isUnder 115 = ka_il 2 1 := rfl
theorem d_Md_isUnder_115 : decode prog_12_method_15_code 115 = .ok (.iload_n 2, 1) := by decide +kernel
set_option maxRecDepth 100000 in
theorem c_Md_isUnder_116 : ct_Md_isUnder 116 = ka_ii (fun x y => x * y) := rfl
theorem d_Md_isUnder_116 : decode prog_12_method_15_code 116 = .ok (.imul, 1) := by decide +kernel
set_option maxRecDepth 100000 in
theorem c_Md_isUnder_117 : ct_Md_isUnder 117 = ka_il 6 2 := rfl
theorem d_Md_isUnder_117 : decode prog_12_method_15_code 117 = .ok (.iload 6, 2) := by decide +kernel
set_option maxRecDepth 100000 in
theorem c_Md_isUnder_119 : ct_Md_isUnder 119 = ka_ii (fun x y => x + y) := rfl
theorem d_Md_isUnder_119 : decode prog_12_method_15_code 119 = .ok (.iadd, 1) := by decide +kernel
set_option maxRecDepth 100000 in
theorem c_Md_isUnder_120 : ct_Md_isUnder 120 = ka_lald := rfl
theorem d_Md_isUnder_120 : decode prog_12_method_15_code 120 = .ok (.laload, 1) := by decide +kernel
set_option maxRecDepth 100000 in
theorem c_Md_isUnder_121 : ct_Md_isUnder 121 = ka_lcmp := rfl
theorem d_Md_isUnder_121 : decode prog_12_method_15_code 121 = .ok (.lcmp, 1) := by decide +kernel
set_option maxRecDepth 100000 in
theorem c_Md_isUnder_122 : ct_Md_isUnder 122 = ka_if (fun x => ¬ x = 0) 129 := rfl
theorem d_Md_isUnder_122 : decode prog_12_method_15_code 122 = .ok (.ifCond .ne 7, 3) := by decide +kernel
set_option maxRecDepth 100000 in
theorem c_Md_isUnder_125 : ct_Md_isUnder 125 = ka_ci (nI 1) 1 := rfl
theorem d_Md_isUnder_125 : decode prog_12_method_15_code 125 = .ok (.iconst 1, 1) := by decide +kernel
set_option maxRecDepth 100000 in
theorem c_Md_isUnder_126 : ct_Md_isUnder 126 = ka_goto 130 := rfl
theorem d_Md_isUnder_126 : decode prog_12_method_15_code 126 = .ok (.goto 4, 3) := by decide +kernel
set_option maxRecDepth 100000 in
theorem c_Md_isUnder_129 : ct_Md_isUnder 129 = ka_ci (nI 0) 1 := rfl
theorem d_Md_isUnder_129 : decode prog_12_method_15_code 129 = .ok (.iconst 0, 1) := by decide +kernel
set_option maxRecDepth 100000 in
theorem c_Md_isUnder_130 : ct_Md_isUnder 130 = ka_is 5 2 := rfl
theorem d_Md_isUnder_130 : decode prog_12_method_15_code 130 = .ok (.istore 5, 2) := by decide +kernel
set_option maxRecDepth 100000 in
theorem c_Md_isUnder_132 : ct_Md_isUnder 132 = ka_inc 6 (nI 1) := rfl
theorem d_Md_isUnder_132 : decode prog_12_method_15_code 132 = .ok (.iinc 6 1, 3) := by decide +kernel
set_option maxRecDepth 100000 in
theorem c_Md_isUnder_135 : ct_Md_isUnder 135 = ka_goto 48 := rfl
theorem d_Md_isUnder_135 : decode prog_12_method_15_code 135 = .ok (.goto (-87), 3) := by decide +kernel
set_option maxRecDepth 100000 in
theorem c_Md_isUnder_138 : ct_Md_isUnder 138 = ka_il 5 2 := rfl
theorem d_Md_isUnder_138 : decode prog_12_method_15_code 138 = .ok (.iload 5, 2) := by decide +kernel
set_option maxRecDepth 100000 in
theorem c_Md_isUnder_140 : ct_Md_isUnder 140 = ka_rz := rfl
theorem d_Md_isUnder_140 : decode prog_12_method_15_code 140 = .ok (.ireturn, 1) := by decide +kernel
set_option maxRecDepth 100000 in
set_option maxHeartbeats 4000000 in
theorem s_Md_isUnder_60 : ∀ pc, pc < 60 → kc_Sim kt kw_A kw_N kt_cl kt_En "DirectoryDeskModel" prog_12_method_15_code 7 (some .boolean) "isUnder" none pc (ct_Md_isUnder pc) := by
  let P : Nat → Prop := fun pc => kc_Sim kt kw_A kw_N kt_cl kt_En "DirectoryDeskModel" prog_12_method_15_code 7 (some .boolean) "isUnder" none pc (ct_Md_isUnder pc)
  exact kc_case (P := P) (kc_se c_Md_isUnder_59 (sm_aload_n d_Md_isUnder_59 rfl)) (
  kc_case (P := P) (kc_se rfl sm_no) (
  kc_case (P := P) (kc_se c_Md_isUnder_57 (sm_iload d_Md_isUnder_57)) (
  kc_case (P := P) (kc_se rfl sm_no) (
  kc_case (P := P) (kc_se rfl sm_no) (
  kc_case (P := P) (kc_se c_Md_isUnder_54 (sm_if_eq d_Md_isUnder_54 (by decide))) (
  kc_case (P := P) (kc_se rfl sm_no) (
  kc_case (P := P) (kc_se c_Md_isUnder_52 (sm_iload d_Md_isUnder_52)) (
  kc_case (P := P) (kc_se rfl sm_no) (
  kc_case (P := P) (kc_se rfl sm_no) (
  kc_case (P := P) (kc_se c_Md_isUnder_49 (sm_if_lt d_Md_isUnder_49 (by decide))) (
  kc_case (P := P) (kc_se c_Md_isUnder_48 (sm_iload_n d_Md_isUnder_48 rfl)) (
  kc_case (P := P) (kc_se rfl sm_no) (
  kc_case (P := P) (kc_se c_Md_isUnder_46 (sm_istore d_Md_isUnder_46 (Nat.le_of_ble_eq_true rfl))) (
  kc_case (P := P) (kc_se c_Md_isUnder_45 (sm_iconst d_Md_isUnder_45 (by decide))) (
  kc_case (P := P) (kc_se rfl sm_no) (
  kc_case (P := P) (kc_se c_Md_isUnder_43 (sm_istore d_Md_isUnder_43 (Nat.le_of_ble_eq_true rfl))) (
  kc_case (P := P) (kc_se c_Md_isUnder_42 (sm_iconst d_Md_isUnder_42 (by decide))) (
  kc_case (P := P) (kc_se rfl sm_no) (
  kc_case (P := P) (kc_se rfl sm_no) (
  kc_case (P := P) (kc_se c_Md_isUnder_39 (sm_goto d_Md_isUnder_39 (by decide))) (
  kc_case (P := P) (kc_se c_Md_isUnder_38 (sm_iconst d_Md_isUnder_38 (by decide))) (
  kc_case (P := P) (kc_se rfl sm_no) (
  kc_case (P := P) (kc_se rfl sm_no) (
  kc_case (P := P) (kc_se c_Md_isUnder_35 (sm_cm_ne d_Md_isUnder_35 (by decide))) (
  kc_case (P := P) (kc_se c_Md_isUnder_34 (sm_iload_n d_Md_isUnder_34 rfl)) (
  kc_case (P := P) (kc_se rfl sm_no) (
  kc_case (P := P) (kc_se c_Md_isUnder_32 (sm_iload d_Md_isUnder_32)) (
  kc_case (P := P) (kc_se rfl sm_no) (
  kc_case (P := P) (kc_se rfl sm_no) (
  kc_case (P := P) (kc_se c_Md_isUnder_29 (sm_if_lt d_Md_isUnder_29 (by decide))) (
  kc_case (P := P) (kc_se c_Md_isUnder_28 (sm_iload_n d_Md_isUnder_28 rfl)) (
  kc_case (P := P) (kc_se rfl sm_no) (
  kc_case (P := P) (kc_se rfl sm_no) (
  kc_case (P := P) (kc_se c_Md_isUnder_25 (sm_if_le d_Md_isUnder_25 (by decide))) (
  kc_case (P := P) (kc_se rfl sm_no) (
  kc_case (P := P) (kc_se c_Md_isUnder_23 (sm_iload d_Md_isUnder_23)) (
  kc_case (P := P) (kc_se rfl sm_no) (
  kc_case (P := P) (kc_se c_Md_isUnder_21 (sm_istore d_Md_isUnder_21 (Nat.le_of_ble_eq_true rfl))) (
  kc_case (P := P) (kc_se c_Md_isUnder_20 (sm_isub d_Md_isUnder_20)) (
  kc_case (P := P) (kc_se c_Md_isUnder_19 (sm_iald d_Md_isUnder_19)) (
  kc_case (P := P) (kc_se c_Md_isUnder_18 (sm_iload_n d_Md_isUnder_18 rfl)) (
  kc_case (P := P) (kc_se rfl sm_no) (
  kc_case (P := P) (kc_se rfl sm_no) (
  kc_case (P := P) (kc_se c_Md_isUnder_15 (sm_get (ci := 10) (C := "DirectoryDeskModel") (F := kF_Md) rfl kin_Md (Nat.le_of_ble_eq_true rfl) d_Md_isUnder_15 (kw3 190 rfl rfl))) (
  kc_case (P := P) (kc_se c_Md_isUnder_14 (sm_aload_n d_Md_isUnder_14 rfl)) (
  kc_case (P := P) (kc_se rfl sm_no) (
  kc_case (P := P) (kc_se rfl sm_no) (
  kc_case (P := P) (kc_se c_Md_isUnder_11 (sm_goto d_Md_isUnder_11 (by decide))) (
  kc_case (P := P) (kc_se c_Md_isUnder_10 (sm_iconst d_Md_isUnder_10 (by decide))) (
  kc_case (P := P) (kc_se rfl sm_no) (
  kc_case (P := P) (kc_se rfl sm_no) (
  kc_case (P := P) (kc_se c_Md_isUnder_7 (sm_if_ge d_Md_isUnder_7 (by decide))) (
  kc_case (P := P) (kc_se c_Md_isUnder_6 (sm_iload_n d_Md_isUnder_6 rfl)) (
  kc_case (P := P) (kc_se c_Md_isUnder_5 (sm_iald d_Md_isUnder_5)) (
  kc_case (P := P) (kc_se c_Md_isUnder_4 (sm_iload_n d_Md_isUnder_4 rfl)) (
  kc_case (P := P) (kc_se rfl sm_no) (
  kc_case (P := P) (kc_se rfl sm_no) (
  kc_case (P := P) (kc_se c_Md_isUnder_1 (sm_get (ci := 10) (C := "DirectoryDeskModel") (F := kF_Md) rfl kin_Md (Nat.le_of_ble_eq_true rfl) d_Md_isUnder_1 (kw3 190 rfl rfl))) (
  kc_case (P := P) (kc_se c_Md_isUnder_0 (sm_aload_n d_Md_isUnder_0 rfl)) (
  kc_case0))))))))))))))))))))))))))))))))))))))))))))))))))))))))))))
set_option maxRecDepth 100000 in
set_option maxHeartbeats 4000000 in
theorem s_Md_isUnder_120 : ∀ pc, pc < 120 → kc_Sim kt kw_A kw_N kt_cl kt_En "DirectoryDeskModel" prog_12_method_15_code 7 (some .boolean) "isUnder" none pc (ct_Md_isUnder pc) := by
  let P : Nat → Prop := fun pc => kc_Sim kt kw_A kw_N kt_cl kt_En "DirectoryDeskModel" prog_12_method_15_code 7 (some .boolean) "isUnder" none pc (ct_Md_isUnder pc)
  exact kc_case (P := P) (kc_se c_Md_isUnder_119 (sm_iadd d_Md_isUnder_119)) (
  kc_case (P := P) (kc_se rfl sm_no) (
  kc_case (P := P) (kc_se c_Md_isUnder_117 (sm_iload d_Md_isUnder_117)) (
  kc_case (P := P) (kc_se c_Md_isUnder_116 (sm_imul d_Md_isUnder_116)) (
  kc_case (P := P) (kc_se c_Md_isUnder_115 (sm_iload_n d_Md_isUnder_115 rfl)) (
  kc_case (P := P) (kc_se c_Md_isUnder_114 (sm_iconst d_Md_isUnder_114 (by decide))) (
  kc_case (P := P) (kc_se rfl sm_no) (
  kc_case (P := P) (kc_se rfl sm_no) (
  kc_case (P := P) (kc_se c_Md_isUnder_111 (sm_get (ci := 10) (C := "DirectoryDeskModel") (F := kF_Md) rfl kin_Md (Nat.le_of_ble_eq_true rfl) d_Md_isUnder_111 (kw3 192 rfl rfl))) (
  kc_case (P := P) (kc_se c_Md_isUnder_110 (sm_aload_n d_Md_isUnder_110 rfl)) (
  kc_case (P := P) (kc_se c_Md_isUnder_109 (sm_lald d_Md_isUnder_109)) (
  kc_case (P := P) (kc_se c_Md_isUnder_108 (sm_iadd d_Md_isUnder_108)) (
  kc_case (P := P) (kc_se rfl sm_no) (
  kc_case (P := P) (kc_se c_Md_isUnder_106 (sm_iload d_Md_isUnder_106)) (
  kc_case (P := P) (kc_se c_Md_isUnder_105 (sm_iadd d_Md_isUnder_105)) (
  kc_case (P := P) (kc_se rfl sm_no) (
  kc_case (P := P) (kc_se c_Md_isUnder_103 (sm_iload d_Md_isUnder_103)) (
  kc_case (P := P) (kc_se c_Md_isUnder_102 (sm_imul d_Md_isUnder_102)) (
  kc_case (P := P) (kc_se c_Md_isUnder_101 (sm_iload_n d_Md_isUnder_101 rfl)) (
  kc_case (P := P) (kc_se c_Md_isUnder_100 (sm_iconst d_Md_isUnder_100 (by decide))) (
  kc_case (P := P) (kc_se rfl sm_no) (
  kc_case (P := P) (kc_se rfl sm_no) (
  kc_case (P := P) (kc_se c_Md_isUnder_97 (sm_get (ci := 10) (C := "DirectoryDeskModel") (F := kF_Md) rfl kin_Md (Nat.le_of_ble_eq_true rfl) d_Md_isUnder_97 (kw3 192 rfl rfl))) (
  kc_case (P := P) (kc_se c_Md_isUnder_96 (sm_aload_n d_Md_isUnder_96 rfl)) (
  kc_case (P := P) (kc_se rfl sm_no) (
  kc_case (P := P) (kc_se rfl sm_no) (
  kc_case (P := P) (kc_se c_Md_isUnder_93 (sm_cm_ne d_Md_isUnder_93 (by decide))) (
  kc_case (P := P) (kc_se c_Md_isUnder_92 (sm_iald d_Md_isUnder_92)) (
  kc_case (P := P) (kc_se c_Md_isUnder_91 (sm_iadd d_Md_isUnder_91)) (
  kc_case (P := P) (kc_se rfl sm_no) (
  kc_case (P := P) (kc_se c_Md_isUnder_89 (sm_iload d_Md_isUnder_89)) (
  kc_case (P := P) (kc_se c_Md_isUnder_88 (sm_imul d_Md_isUnder_88)) (
  kc_case (P := P) (kc_se c_Md_isUnder_87 (sm_iload_n d_Md_isUnder_87 rfl)) (
  kc_case (P := P) (kc_se c_Md_isUnder_86 (sm_iconst d_Md_isUnder_86 (by decide))) (
  kc_case (P := P) (kc_se rfl sm_no) (
  kc_case (P := P) (kc_se rfl sm_no) (
  kc_case (P := P) (kc_se c_Md_isUnder_83 (sm_get (ci := 10) (C := "DirectoryDeskModel") (F := kF_Md) rfl kin_Md (Nat.le_of_ble_eq_true rfl) d_Md_isUnder_83 (kw3 191 rfl rfl))) (
  kc_case (P := P) (kc_se c_Md_isUnder_82 (sm_aload_n d_Md_isUnder_82 rfl)) (
  kc_case (P := P) (kc_se c_Md_isUnder_81 (sm_iald d_Md_isUnder_81)) (
  kc_case (P := P) (kc_se c_Md_isUnder_80 (sm_iadd d_Md_isUnder_80)) (
  kc_case (P := P) (kc_se rfl sm_no) (
  kc_case (P := P) (kc_se c_Md_isUnder_78 (sm_iload d_Md_isUnder_78)) (
  kc_case (P := P) (kc_se c_Md_isUnder_77 (sm_iadd d_Md_isUnder_77)) (
  kc_case (P := P) (kc_se rfl sm_no) (
  kc_case (P := P) (kc_se c_Md_isUnder_75 (sm_iload d_Md_isUnder_75)) (
  kc_case (P := P) (kc_se c_Md_isUnder_74 (sm_imul d_Md_isUnder_74)) (
  kc_case (P := P) (kc_se c_Md_isUnder_73 (sm_iload_n d_Md_isUnder_73 rfl)) (
  kc_case (P := P) (kc_se c_Md_isUnder_72 (sm_iconst d_Md_isUnder_72 (by decide))) (
  kc_case (P := P) (kc_se rfl sm_no) (
  kc_case (P := P) (kc_se rfl sm_no) (
  kc_case (P := P) (kc_se c_Md_isUnder_69 (sm_get (ci := 10) (C := "DirectoryDeskModel") (F := kF_Md) rfl kin_Md (Nat.le_of_ble_eq_true rfl) d_Md_isUnder_69 (kw3 191 rfl rfl))) (
  kc_case (P := P) (kc_se c_Md_isUnder_68 (sm_aload_n d_Md_isUnder_68 rfl)) (
  kc_case (P := P) (kc_se rfl sm_no) (
  kc_case (P := P) (kc_se rfl sm_no) (
  kc_case (P := P) (kc_se c_Md_isUnder_65 (sm_cm_ge d_Md_isUnder_65 (by decide))) (
  kc_case (P := P) (kc_se c_Md_isUnder_64 (sm_iald d_Md_isUnder_64)) (
  kc_case (P := P) (kc_se c_Md_isUnder_63 (sm_iload_n d_Md_isUnder_63 rfl)) (
  kc_case (P := P) (kc_se rfl sm_no) (
  kc_case (P := P) (kc_se rfl sm_no) (
  kc_case (P := P) (kc_se c_Md_isUnder_60 (sm_get (ci := 10) (C := "DirectoryDeskModel") (F := kF_Md) rfl kin_Md (Nat.le_of_ble_eq_true rfl) d_Md_isUnder_60 (kw3 190 rfl rfl))) (
  s_Md_isUnder_60))))))))))))))))))))))))))))))))))))))))))))))))))))))))))))
set_option maxRecDepth 100000 in
set_option maxHeartbeats 4000000 in
theorem s_Md_isUnder_141 : ∀ pc, pc < 141 → kc_Sim kt kw_A kw_N kt_cl kt_En "DirectoryDeskModel" prog_12_method_15_code 7 (some .boolean) "isUnder" none pc (ct_Md_isUnder pc) := by
  let P : Nat → Prop := fun pc => kc_Sim kt kw_A kw_N kt_cl kt_En "DirectoryDeskModel" prog_12_method_15_code 7 (some .boolean) "isUnder" none pc (ct_Md_isUnder pc)
  exact kc_case (P := P) (kc_se c_Md_isUnder_140 (sm_rz d_Md_isUnder_140 rfl)) (
  kc_case (P := P) (kc_se rfl sm_no) (
  kc_case (P := P) (kc_se c_Md_isUnder_138 (sm_iload d_Md_isUnder_138)) (
  kc_case (P := P) (kc_se rfl sm_no) (
  kc_case (P := P) (kc_se rfl sm_no) (
  kc_case (P := P) (kc_se c_Md_isUnder_135 (sm_goto d_Md_isUnder_135 (by decide))) (
  kc_case (P := P) (kc_se rfl sm_no) (
  kc_case (P := P) (kc_se rfl sm_no) (
  kc_case (P := P) (kc_se c_Md_isUnder_132 (sm_inc d_Md_isUnder_132 (by decide) (Nat.le_of_ble_eq_true rfl))) (
  kc_case (P := P) (kc_se rfl sm_no) (
  kc_case (P := P) (kc_se c_Md_isUnder_130 (sm_istore d_Md_isUnder_130 (Nat.le_of_ble_eq_true rfl))) (
  kc_case (P := P) (kc_se c_Md_isUnder_129 (sm_iconst d_Md_isUnder_129 (by decide))) (
  kc_case (P := P) (kc_se rfl sm_no) (
  kc_case (P := P) (kc_se rfl sm_no) (
  kc_case (P := P) (kc_se c_Md_isUnder_126 (sm_goto d_Md_isUnder_126 (by decide))) (
  kc_case (P := P) (kc_se c_Md_isUnder_125 (sm_iconst d_Md_isUnder_125 (by decide))) (
  kc_case (P := P) (kc_se rfl sm_no) (
  kc_case (P := P) (kc_se rfl sm_no) (
  kc_case (P := P) (kc_se c_Md_isUnder_122 (sm_if_ne d_Md_isUnder_122 (by decide))) (
  kc_case (P := P) (kc_se c_Md_isUnder_121 (sm_lcmp d_Md_isUnder_121)) (
  kc_case (P := P) (kc_se c_Md_isUnder_120 (sm_lald d_Md_isUnder_120)) (
  s_Md_isUnder_120)))))))))))))))))))))
set_option maxRecDepth 100000 in
theorem ka_nth_no_Md_isUnder (pc : Nat) (h : 141 ≤ pc) : ct_Md_isUnder pc = ka_no := ka_nth_ge _ pc (Nat.le_trans (Nat.le_of_eq (by rfl)) h)
theorem s_Md_isUnder (pc : Nat) : kc_Sim kt kw_A kw_N kt_cl kt_En "DirectoryDeskModel" prog_12_method_15_code 7 (some .boolean) "isUnder" none pc (ct_Md_isUnder pc) := (Nat.lt_or_ge pc 141).elim (s_Md_isUnder_141 pc) (fun h => kc_se (ka_nth_no_Md_isUnder pc h) sm_no)
def cl_Md_readSign_0 : List kc_A := [ka_al 0 1, ka_al 0 1, ka_get 10 18, ka_no, ka_no, ka_al 0 1, ka_get 10 19, ka_no, ka_no, ka_cv 101 2 10 0 0, ka_no, ka_no, ka_if (fun x => ¬ x = 0) 17, ka_no, ka_no, ka_ci (nI 0) 1, ka_rz, ka_al 0 1, ka_al 0 1, ka_cv 102 0 10 0 0, ka_no, ka_no, ka_put 10 25 .int, ka_no, ka_no, ka_al 0 1, ka_al 0 1, ka_get 10 15, ka_no, ka_no, ka_al 0 1, ka_get 10 19, ka_no, ka_no, ka_ci (nI 4) 1, ka_cv 100 3 10 0 0, ka_no, ka_no, ka_if (fun x => ¬ x = 0) 43, ka_no, ka_no, ka_ci (nI 0) 1, ka_rz, ka_al 0 1, ka_al 0 1, ka_get 10 14, ka_no, ka_no, ka_put 10 23 .int, ka_no, ka_no, ka_al 0 1, ka_al 0 1, ka_get 10 15, ka_no, ka_no, ka_put 10 24 .int, ka_no, ka_no, ka_al 0 1]
def cl_Md_readSign_1 : List kc_A := [ka_al 0 1, ka_get 10 15, ka_no, ka_no, ka_al 0 1, ka_get 10 19, ka_no, ka_no, ka_ci (nI 128) 3, ka_no, ka_no, ka_cv 100 3 10 0 0, ka_no, ka_no, ka_if (fun x => ¬ x = 0) 79, ka_no, ka_no, ka_ci (nI 0) 1, ka_rz, ka_al 0 1, ka_al 0 1, ka_get 10 14, ka_no, ka_no, ka_put 10 26 .int, ka_no, ka_no, ka_al 0 1, ka_al 0 1, ka_get 10 15, ka_no, ka_no, ka_put 10 27 .int, ka_no, ka_no, ka_al 0 1, ka_get 10 15, ka_no, ka_no, ka_al 0 1, ka_get 10 19, ka_no, ka_no, ka_cm (fun x y => ¬ x = y) 110, ka_no, ka_no, ka_ci (nI 1) 1, ka_goto 111, ka_no, ka_no, ka_ci (nI 0) 1, ka_rz]
def ct_Md_readSign : Nat → kc_A := fun pc => ka_nth (cl_Md_readSign_0 ++ (cl_Md_readSign_1)) pc
set_option maxRecDepth 100000 in
theorem c_Md_readSign_0 : ct_Md_readSign 0 = ka_al 0 1 := rfl
theorem d_Md_readSign_0 : decode prog_12_method_16_code 0 = .ok (.aload_n 0, 1) := by decide +kernel
set_option maxRecDepth 100000 in
theorem c_Md_readSign_1 : ct_Md_readSign 1 = ka_al 0 1 := rfl
theorem d_Md_readSign_1 : decode prog_12_method_16_code 1 = .ok (.aload_n 0, 1) := by decide +kernel
set_option maxRecDepth 100000 in
theorem c_Md_readSign_2 : ct_Md_readSign 2 = ka_get 10 18 := rfl
theorem d_Md_readSign_2 : decode prog_12_method_16_code 2 = .ok (.getfield 140, 3) := by decide +kernel
set_option maxRecDepth 100000 in
theorem c_Md_readSign_5 : ct_Md_readSign 5 = ka_al 0 1 := rfl
theorem d_Md_readSign_5 : decode prog_12_method_16_code 5 = .ok (.aload_n 0, 1) := by decide +kernel
set_option maxRecDepth 100000 in
theorem c_Md_readSign_6 : ct_Md_readSign 6 = ka_get 10 19 := rfl
theorem d_Md_readSign_6 : decode prog_12_method_16_code 6 = .ok (.getfield 143, 3) := by decide +kernel
set_option maxRecDepth 100000 in
theorem c_Md_readSign_9 : ct_Md_readSign 9 = ka_cv 101 2 10 0 0 := rfl
theorem d_Md_readSign_9 : decode prog_12_method_16_code 9 = .ok (.invokevirtual 146, 3) := by decide +kernel
set_option maxRecDepth 100000 in
theorem c_Md_readSign_12 : ct_Md_readSign 12 = ka_if (fun x => ¬ x = 0) 17 := rfl
theorem d_Md_readSign_12 : decode prog_12_method_16_code 12 = .ok (.ifCond .ne 5, 3) := by decide +kernel
set_option maxRecDepth 100000 in
theorem c_Md_readSign_15 : ct_Md_readSign 15 = ka_ci (nI 0) 1 := rfl
theorem d_Md_readSign_15 : decode prog_12_method_16_code 15 = .ok (.iconst 0, 1) := by decide +kernel
set_option maxRecDepth 100000 in
theorem c_Md_readSign_16 : ct_Md_readSign 16 = ka_rz := rfl
theorem d_Md_readSign_16 : decode prog_12_method_16_code 16 = .ok (.ireturn, 1) := by decide +kernel
set_option maxRecDepth 100000 in
theorem c_Md_readSign_17 : ct_Md_readSign 17 = ka_al 0 1 := rfl
theorem d_Md_readSign_17 : decode prog_12_method_16_code 17 = .ok (.aload_n 0, 1) := by decide +kernel
set_option maxRecDepth 100000 in
theorem c_Md_readSign_18 : ct_Md_readSign 18 = ka_al 0 1 := rfl
theorem d_Md_readSign_18 : decode prog_12_method_16_code 18 = .ok (.aload_n 0, 1) := by decide +kernel
set_option maxRecDepth 100000 in
theorem c_Md_readSign_19 : ct_Md_readSign 19 = ka_cv 102 0 10 0 0 := rfl
theorem d_Md_readSign_19 : decode prog_12_method_16_code 19 = .ok (.invokevirtual 149, 3) := by decide +kernel
set_option maxRecDepth 100000 in
theorem c_Md_readSign_22 : ct_Md_readSign 22 = ka_put 10 25 .int := rfl
theorem d_Md_readSign_22 : decode prog_12_method_16_code 22 = .ok (.putfield 153, 3) := by decide +kernel
set_option maxRecDepth 100000 in
theorem c_Md_readSign_25 : ct_Md_readSign 25 = ka_al 0 1 := rfl
theorem d_Md_readSign_25 : decode prog_12_method_16_code 25 = .ok (.aload_n 0, 1) := by decide +kernel
set_option maxRecDepth 100000 in
theorem c_Md_readSign_26 : ct_Md_readSign 26 = ka_al 0 1 := rfl
theorem d_Md_readSign_26 : decode prog_12_method_16_code 26 = .ok (.aload_n 0, 1) := by decide +kernel
set_option maxRecDepth 100000 in
theorem c_Md_readSign_27 : ct_Md_readSign 27 = ka_get 10 15 := rfl
theorem d_Md_readSign_27 : decode prog_12_method_16_code 27 = .ok (.getfield 109, 3) := by decide +kernel
set_option maxRecDepth 100000 in
theorem c_Md_readSign_30 : ct_Md_readSign 30 = ka_al 0 1 := rfl
theorem d_Md_readSign_30 : decode prog_12_method_16_code 30 = .ok (.aload_n 0, 1) := by decide +kernel
set_option maxRecDepth 100000 in
theorem c_Md_readSign_31 : ct_Md_readSign 31 = ka_get 10 19 := rfl
theorem d_Md_readSign_31 : decode prog_12_method_16_code 31 = .ok (.getfield 143, 3) := by decide +kernel
set_option maxRecDepth 100000 in
theorem c_Md_readSign_34 : ct_Md_readSign 34 = ka_ci (nI 4) 1 := rfl
theorem d_Md_readSign_34 : decode prog_12_method_16_code 34 = .ok (.iconst 4, 1) := by decide +kernel
set_option maxRecDepth 100000 in
theorem c_Md_readSign_35 : ct_Md_readSign 35 = ka_cv 100 3 10 0 0 := rfl
theorem d_Md_readSign_35 : decode prog_12_method_16_code 35 = .ok (.invokevirtual 116, 3) := by decide +kernel
set_option maxRecDepth 100000 in
theorem c_Md_readSign_38 : ct_Md_readSign 38 = ka_if (fun x => ¬ x = 0) 43 := rfl
theorem d_Md_readSign_38 : decode prog_12_method_16_code 38 = .ok (.ifCond .ne 5, 3) := by decide +kernel
set_option maxRecDepth 100000 in
theorem c_Md_readSign_41 : ct_Md_readSign 41 = ka_ci (nI 0) 1 := rfl
theorem d_Md_readSign_41 : decode prog_12_method_16_code 41 = .ok (.iconst 0, 1) := by decide +kernel
set_option maxRecDepth 100000 in
theorem c_Md_readSign_42 : ct_Md_readSign 42 = ka_rz := rfl
theorem d_Md_readSign_42 : decode prog_12_method_16_code 42 = .ok (.ireturn, 1) := by decide +kernel
set_option maxRecDepth 100000 in
theorem c_Md_readSign_43 : ct_Md_readSign 43 = ka_al 0 1 := rfl
theorem d_Md_readSign_43 : decode prog_12_method_16_code 43 = .ok (.aload_n 0, 1) := by decide +kernel
set_option maxRecDepth 100000 in
theorem c_Md_readSign_44 : ct_Md_readSign 44 = ka_al 0 1 := rfl
theorem d_Md_readSign_44 : decode prog_12_method_16_code 44 = .ok (.aload_n 0, 1) := by decide +kernel
set_option maxRecDepth 100000 in
theorem c_Md_readSign_45 : ct_Md_readSign 45 = ka_get 10 14 := rfl
theorem d_Md_readSign_45 : decode prog_12_method_16_code 45 = .ok (.getfield 106, 3) := by decide +kernel
set_option maxRecDepth 100000 in
theorem c_Md_readSign_48 : ct_Md_readSign 48 = ka_put 10 23 .int := rfl
theorem d_Md_readSign_48 : decode prog_12_method_16_code 48 = .ok (.putfield 156, 3) := by decide +kernel
set_option maxRecDepth 100000 in
theorem c_Md_readSign_51 : ct_Md_readSign 51 = ka_al 0 1 := rfl
theorem d_Md_readSign_51 : decode prog_12_method_16_code 51 = .ok (.aload_n 0, 1) := by decide +kernel
set_option maxRecDepth 100000 in
theorem c_Md_readSign_52 : ct_Md_readSign 52 = ka_al 0 1 := rfl
theorem d_Md_readSign_52 : decode prog_12_method_16_code 52 = .ok (.aload_n 0, 1) := by decide +kernel
set_option maxRecDepth 100000 in
theorem c_Md_readSign_53 : ct_Md_readSign 53 = ka_get 10 15 := rfl
theorem d_Md_readSign_53 : decode prog_12_method_16_code 53 = .ok (.getfield 109, 3) := by decide +kernel
set_option maxRecDepth 100000 in
theorem c_Md_readSign_56 : ct_Md_readSign 56 = ka_put 10 24 .int := rfl
theorem d_Md_readSign_56 : decode prog_12_method_16_code 56 = .ok (.putfield 159, 3) := by decide +kernel
set_option maxRecDepth 100000 in
theorem c_Md_readSign_59 : ct_Md_readSign 59 = ka_al 0 1 := rfl
theorem d_Md_readSign_59 : decode prog_12_method_16_code 59 = .ok (.aload_n 0, 1) := by decide +kernel
set_option maxRecDepth 100000 in
theorem c_Md_readSign_60 : ct_Md_readSign 60 = ka_al 0 1 := rfl
theorem d_Md_readSign_60 : decode prog_12_method_16_code 60 = .ok (.aload_n 0, 1) := by decide +kernel
set_option maxRecDepth 100000 in
theorem c_Md_readSign_61 : ct_Md_readSign 61 = ka_get 10 15 := rfl
theorem d_Md_readSign_61 : decode prog_12_method_16_code 61 = .ok (.getfield 109, 3) := by decide +kernel
set_option maxRecDepth 100000 in
theorem c_Md_readSign_64 : ct_Md_readSign 64 = ka_al 0 1 := rfl
theorem d_Md_readSign_64 : decode prog_12_method_16_code 64 = .ok (.aload_n 0, 1) := by decide +kernel
set_option maxRecDepth 100000 in
theorem c_Md_readSign_65 : ct_Md_readSign 65 = ka_get 10 19 := rfl
theorem d_Md_readSign_65 : decode prog_12_method_16_code 65 = .ok (.getfield 143, 3) := by decide +kernel
set_option maxRecDepth 100000 in
theorem c_Md_readSign_68 : ct_Md_readSign 68 = ka_ci (nI 128) 3 := rfl
theorem d_Md_readSign_68 : decode prog_12_method_16_code 68 = .ok (.sipush 128, 3) := by decide +kernel
set_option maxRecDepth 100000 in
theorem c_Md_readSign_71 : ct_Md_readSign 71 = ka_cv 100 3 10 0 0 := rfl
theorem d_Md_readSign_71 : decode prog_12_method_16_code 71 = .ok (.invokevirtual 116, 3) := by decide +kernel
set_option maxRecDepth 100000 in
theorem c_Md_readSign_74 : ct_Md_readSign 74 = ka_if (fun x => ¬ x = 0) 79 := rfl
theorem d_Md_readSign_74 : decode prog_12_method_16_code 74 = .ok (.ifCond .ne 5, 3) := by decide +kernel
set_option maxRecDepth 100000 in
theorem c_Md_readSign_77 : ct_Md_readSign 77 = ka_ci (nI 0) 1 := rfl
theorem d_Md_readSign_77 : decode prog_12_method_16_code 77 = .ok (.iconst 0, 1) := by decide +kernel
set_option maxRecDepth 100000 in
theorem c_Md_readSign_78 : ct_Md_readSign 78 = ka_rz := rfl
theorem d_Md_readSign_78 : decode prog_12_method_16_code 78 = .ok (.ireturn, 1) := by decide +kernel
set_option maxRecDepth 100000 in
theorem c_Md_readSign_79 : ct_Md_readSign 79 = ka_al 0 1 := rfl
theorem d_Md_readSign_79 : decode prog_12_method_16_code 79 = .ok (.aload_n 0, 1) := by decide +kernel
set_option maxRecDepth 100000 in
theorem c_Md_readSign_80 : ct_Md_readSign 80 = ka_al 0 1 := rfl
theorem d_Md_readSign_80 : decode prog_12_method_16_code 80 = .ok (.aload_n 0, 1) := by decide +kernel
set_option maxRecDepth 100000 in
theorem c_Md_readSign_81 : ct_Md_readSign 81 = ka_get 10 14 := rfl
theorem d_Md_readSign_81 : decode prog_12_method_16_code 81 = .ok (.getfield 106, 3) := by decide +kernel
set_option maxRecDepth 100000 in
theorem c_Md_readSign_84 : ct_Md_readSign 84 = ka_put 10 26 .int := rfl
theorem d_Md_readSign_84 : decode prog_12_method_16_code 84 = .ok (.putfield 162, 3) := by decide +kernel
set_option maxRecDepth 100000 in
theorem c_Md_readSign_87 : ct_Md_readSign 87 = ka_al 0 1 := rfl
theorem d_Md_readSign_87 : decode prog_12_method_16_code 87 = .ok (.aload_n 0, 1) := by decide +kernel
set_option maxRecDepth 100000 in
theorem c_Md_readSign_88 : ct_Md_readSign 88 = ka_al 0 1 := rfl
theorem d_Md_readSign_88 : decode prog_12_method_16_code 88 = .ok (.aload_n 0, 1) := by decide +kernel
set_option maxRecDepth 100000 in
theorem c_Md_readSign_89 : ct_Md_readSign 89 = ka_get 10 15 := rfl
theorem d_Md_readSign_89 : decode prog_12_method_16_code 89 = .ok (.getfield 109, 3) := by decide +kernel
set_option maxRecDepth 100000 in
theorem c_Md_readSign_92 : ct_Md_readSign 92 = ka_put 10 27 .int := rfl
theorem d_Md_readSign_92 : decode prog_12_method_16_code 92 = .ok (.putfield 165, 3) := by decide +kernel
set_option maxRecDepth 100000 in
theorem c_Md_readSign_95 : ct_Md_readSign 95 = ka_al 0 1 := rfl
theorem d_Md_readSign_95 : decode prog_12_method_16_code 95 = .ok (.aload_n 0, 1) := by decide +kernel
set_option maxRecDepth 100000 in
theorem c_Md_readSign_96 : ct_Md_readSign 96 = ka_get 10 15 := rfl
theorem d_Md_readSign_96 : decode prog_12_method_16_code 96 = .ok (.getfield 109, 3) := by decide +kernel
set_option maxRecDepth 100000 in
theorem c_Md_readSign_99 : ct_Md_readSign 99 = ka_al 0 1 := rfl
theorem d_Md_readSign_99 : decode prog_12_method_16_code 99 = .ok (.aload_n 0, 1) := by decide +kernel
set_option maxRecDepth 100000 in
theorem c_Md_readSign_100 : ct_Md_readSign 100 = ka_get 10 19 := rfl
theorem d_Md_readSign_100 : decode prog_12_method_16_code 100 = .ok (.getfield 143, 3) := by decide +kernel
set_option maxRecDepth 100000 in
theorem c_Md_readSign_103 : ct_Md_readSign 103 = ka_cm (fun x y => ¬ x = y) 110 := rfl
theorem d_Md_readSign_103 : decode prog_12_method_16_code 103 = .ok (.if_icmp .ne 7, 3) := by decide +kernel
set_option maxRecDepth 100000 in
theorem c_Md_readSign_106 : ct_Md_readSign 106 = ka_ci (nI 1) 1 := rfl
theorem d_Md_readSign_106 : decode prog_12_method_16_code 106 = .ok (.iconst 1, 1) := by decide +kernel
set_option maxRecDepth 100000 in
theorem c_Md_readSign_107 : ct_Md_readSign 107 = ka_goto 111 := rfl
theorem d_Md_readSign_107 : decode prog_12_method_16_code 107 = .ok (.goto 4, 3) := by decide +kernel
set_option maxRecDepth 100000 in
theorem c_Md_readSign_110 : ct_Md_readSign 110 = ka_ci (nI 0) 1 := rfl
theorem d_Md_readSign_110 : decode prog_12_method_16_code 110 = .ok (.iconst 0, 1) := by decide +kernel
set_option maxRecDepth 100000 in
theorem c_Md_readSign_111 : ct_Md_readSign 111 = ka_rz := rfl
theorem d_Md_readSign_111 : decode prog_12_method_16_code 111 = .ok (.ireturn, 1) := by decide +kernel
set_option maxRecDepth 100000 in
set_option maxHeartbeats 4000000 in
theorem s_Md_readSign_60 : ∀ pc, pc < 60 → kc_Sim kt kw_A kw_N kt_cl kt_En "DirectoryDeskModel" prog_12_method_16_code 1 (some .boolean) "readSign" none pc (ct_Md_readSign pc) := by
  let P : Nat → Prop := fun pc => kc_Sim kt kw_A kw_N kt_cl kt_En "DirectoryDeskModel" prog_12_method_16_code 1 (some .boolean) "readSign" none pc (ct_Md_readSign pc)
  exact kc_case (P := P) (kc_se c_Md_readSign_59 (sm_aload_n d_Md_readSign_59 rfl)) (
  kc_case (P := P) (kc_se rfl sm_no) (
  kc_case (P := P) (kc_se rfl sm_no) (
  kc_case (P := P) (kc_se c_Md_readSign_56 (sm_put (ci := 10) (C := "DirectoryDeskModel") (F := kF_Md) rfl kin_Md kty_Md ktk_Md knm_Md (Nat.le_of_ble_eq_true rfl) (by decide +kernel) d_Md_readSign_56 (kw3 207 rfl rfl) rfl)) (
  kc_case (P := P) (kc_se rfl sm_no) (
  kc_case (P := P) (kc_se rfl sm_no) (
  kc_case (P := P) (kc_se c_Md_readSign_53 (sm_get (ci := 10) (C := "DirectoryDeskModel") (F := kF_Md) rfl kin_Md (Nat.le_of_ble_eq_true rfl) d_Md_readSign_53 (kw3 198 rfl rfl))) (
  kc_case (P := P) (kc_se c_Md_readSign_52 (sm_aload_n d_Md_readSign_52 rfl)) (
  kc_case (P := P) (kc_se c_Md_readSign_51 (sm_aload_n d_Md_readSign_51 rfl)) (
  kc_case (P := P) (kc_se rfl sm_no) (
  kc_case (P := P) (kc_se rfl sm_no) (
  kc_case (P := P) (kc_se c_Md_readSign_48 (sm_put (ci := 10) (C := "DirectoryDeskModel") (F := kF_Md) rfl kin_Md kty_Md ktk_Md knm_Md (Nat.le_of_ble_eq_true rfl) (by decide +kernel) d_Md_readSign_48 (kw3 206 rfl rfl) rfl)) (
  kc_case (P := P) (kc_se rfl sm_no) (
  kc_case (P := P) (kc_se rfl sm_no) (
  kc_case (P := P) (kc_se c_Md_readSign_45 (sm_get (ci := 10) (C := "DirectoryDeskModel") (F := kF_Md) rfl kin_Md (Nat.le_of_ble_eq_true rfl) d_Md_readSign_45 (kw3 197 rfl rfl))) (
  kc_case (P := P) (kc_se c_Md_readSign_44 (sm_aload_n d_Md_readSign_44 rfl)) (
  kc_case (P := P) (kc_se c_Md_readSign_43 (sm_aload_n d_Md_readSign_43 rfl)) (
  kc_case (P := P) (kc_se c_Md_readSign_42 (sm_rz d_Md_readSign_42 rfl)) (
  kc_case (P := P) (kc_se c_Md_readSign_41 (sm_iconst d_Md_readSign_41 (by decide))) (
  kc_case (P := P) (kc_se rfl sm_no) (
  kc_case (P := P) (kc_se rfl sm_no) (
  kc_case (P := P) (kc_se c_Md_readSign_38 (sm_if_ne d_Md_readSign_38 (by decide))) (
  kc_case (P := P) (kc_se rfl sm_no) (
  kc_case (P := P) (kc_se rfl sm_no) (
  kc_case (P := P) (kc_se c_Md_readSign_35 (sm_cv (j := 100) rfl rfl kw_o kw_g wc_Md_tagged (Nat.le_of_ble_eq_true rfl) hd_Md_tagged (ci := 10) (F := kF_Md) (N := 52) rfl (kw4 117 rfl rfl) wi_Md_tagged ws_Md_tagged wn_Md_tagged d_Md_readSign_35)) (
  kc_case (P := P) (kc_se c_Md_readSign_34 (sm_iconst d_Md_readSign_34 (by decide))) (
  kc_case (P := P) (kc_se rfl sm_no) (
  kc_case (P := P) (kc_se rfl sm_no) (
  kc_case (P := P) (kc_se c_Md_readSign_31 (sm_get (ci := 10) (C := "DirectoryDeskModel") (F := kF_Md) rfl kin_Md (Nat.le_of_ble_eq_true rfl) d_Md_readSign_31 (kw3 202 rfl rfl))) (
  kc_case (P := P) (kc_se c_Md_readSign_30 (sm_aload_n d_Md_readSign_30 rfl)) (
  kc_case (P := P) (kc_se rfl sm_no) (
  kc_case (P := P) (kc_se rfl sm_no) (
  kc_case (P := P) (kc_se c_Md_readSign_27 (sm_get (ci := 10) (C := "DirectoryDeskModel") (F := kF_Md) rfl kin_Md (Nat.le_of_ble_eq_true rfl) d_Md_readSign_27 (kw3 198 rfl rfl))) (
  kc_case (P := P) (kc_se c_Md_readSign_26 (sm_aload_n d_Md_readSign_26 rfl)) (
  kc_case (P := P) (kc_se c_Md_readSign_25 (sm_aload_n d_Md_readSign_25 rfl)) (
  kc_case (P := P) (kc_se rfl sm_no) (
  kc_case (P := P) (kc_se rfl sm_no) (
  kc_case (P := P) (kc_se c_Md_readSign_22 (sm_put (ci := 10) (C := "DirectoryDeskModel") (F := kF_Md) rfl kin_Md kty_Md ktk_Md knm_Md (Nat.le_of_ble_eq_true rfl) (by decide +kernel) d_Md_readSign_22 (kw3 208 rfl rfl) rfl)) (
  kc_case (P := P) (kc_se rfl sm_no) (
  kc_case (P := P) (kc_se rfl sm_no) (
  kc_case (P := P) (kc_se c_Md_readSign_19 (sm_cv (j := 102) rfl rfl kw_o kw_g wc_Md_number (Nat.le_of_ble_eq_true rfl) hd_Md_number (ci := 10) (F := kF_Md) (N := 52) rfl (kw4 129 rfl rfl) wi_Md_number ws_Md_number wn_Md_number d_Md_readSign_19)) (
  kc_case (P := P) (kc_se c_Md_readSign_18 (sm_aload_n d_Md_readSign_18 rfl)) (
  kc_case (P := P) (kc_se c_Md_readSign_17 (sm_aload_n d_Md_readSign_17 rfl)) (
  kc_case (P := P) (kc_se c_Md_readSign_16 (sm_rz d_Md_readSign_16 rfl)) (
  kc_case (P := P) (kc_se c_Md_readSign_15 (sm_iconst d_Md_readSign_15 (by decide))) (
  kc_case (P := P) (kc_se rfl sm_no) (
  kc_case (P := P) (kc_se rfl sm_no) (
  kc_case (P := P) (kc_se c_Md_readSign_12 (sm_if_ne d_Md_readSign_12 (by decide))) (
  kc_case (P := P) (kc_se rfl sm_no) (
  kc_case (P := P) (kc_se rfl sm_no) (
  kc_case (P := P) (kc_se c_Md_readSign_9 (sm_cv (j := 101) rfl rfl kw_o kw_g wc_Md_numbered (Nat.le_of_ble_eq_true rfl) hd_Md_numbered (ci := 10) (F := kF_Md) (N := 52) rfl (kw4 125 rfl rfl) wi_Md_numbered ws_Md_numbered wn_Md_numbered d_Md_readSign_9)) (
  kc_case (P := P) (kc_se rfl sm_no) (
  kc_case (P := P) (kc_se rfl sm_no) (
  kc_case (P := P) (kc_se c_Md_readSign_6 (sm_get (ci := 10) (C := "DirectoryDeskModel") (F := kF_Md) rfl kin_Md (Nat.le_of_ble_eq_true rfl) d_Md_readSign_6 (kw3 202 rfl rfl))) (
  kc_case (P := P) (kc_se c_Md_readSign_5 (sm_aload_n d_Md_readSign_5 rfl)) (
  kc_case (P := P) (kc_se rfl sm_no) (
  kc_case (P := P) (kc_se rfl sm_no) (
  kc_case (P := P) (kc_se c_Md_readSign_2 (sm_get (ci := 10) (C := "DirectoryDeskModel") (F := kF_Md) rfl kin_Md (Nat.le_of_ble_eq_true rfl) d_Md_readSign_2 (kw3 201 rfl rfl))) (
  kc_case (P := P) (kc_se c_Md_readSign_1 (sm_aload_n d_Md_readSign_1 rfl)) (
  kc_case (P := P) (kc_se c_Md_readSign_0 (sm_aload_n d_Md_readSign_0 rfl)) (
  kc_case0))))))))))))))))))))))))))))))))))))))))))))))))))))))))))))
set_option maxRecDepth 100000 in
set_option maxHeartbeats 4000000 in
theorem s_Md_readSign_112 : ∀ pc, pc < 112 → kc_Sim kt kw_A kw_N kt_cl kt_En "DirectoryDeskModel" prog_12_method_16_code 1 (some .boolean) "readSign" none pc (ct_Md_readSign pc) := by
  let P : Nat → Prop := fun pc => kc_Sim kt kw_A kw_N kt_cl kt_En "DirectoryDeskModel" prog_12_method_16_code 1 (some .boolean) "readSign" none pc (ct_Md_readSign pc)
  exact kc_case (P := P) (kc_se c_Md_readSign_111 (sm_rz d_Md_readSign_111 rfl)) (
  kc_case (P := P) (kc_se c_Md_readSign_110 (sm_iconst d_Md_readSign_110 (by decide))) (
  kc_case (P := P) (kc_se rfl sm_no) (
  kc_case (P := P) (kc_se rfl sm_no) (
  kc_case (P := P) (kc_se c_Md_readSign_107 (sm_goto d_Md_readSign_107 (by decide))) (
  kc_case (P := P) (kc_se c_Md_readSign_106 (sm_iconst d_Md_readSign_106 (by decide))) (
  kc_case (P := P) (kc_se rfl sm_no) (
  kc_case (P := P) (kc_se rfl sm_no) (
  kc_case (P := P) (kc_se c_Md_readSign_103 (sm_cm_ne d_Md_readSign_103 (by decide))) (
  kc_case (P := P) (kc_se rfl sm_no) (
  kc_case (P := P) (kc_se rfl sm_no) (
  kc_case (P := P) (kc_se c_Md_readSign_100 (sm_get (ci := 10) (C := "DirectoryDeskModel") (F := kF_Md) rfl kin_Md (Nat.le_of_ble_eq_true rfl) d_Md_readSign_100 (kw3 202 rfl rfl))) (
  kc_case (P := P) (kc_se c_Md_readSign_99 (sm_aload_n d_Md_readSign_99 rfl)) (
  kc_case (P := P) (kc_se rfl sm_no) (
  kc_case (P := P) (kc_se rfl sm_no) (
  kc_case (P := P) (kc_se c_Md_readSign_96 (sm_get (ci := 10) (C := "DirectoryDeskModel") (F := kF_Md) rfl kin_Md (Nat.le_of_ble_eq_true rfl) d_Md_readSign_96 (kw3 198 rfl rfl))) (
  kc_case (P := P) (kc_se c_Md_readSign_95 (sm_aload_n d_Md_readSign_95 rfl)) (
  kc_case (P := P) (kc_se rfl sm_no) (
  kc_case (P := P) (kc_se rfl sm_no) (
  kc_case (P := P) (kc_se c_Md_readSign_92 (sm_put (ci := 10) (C := "DirectoryDeskModel") (F := kF_Md) rfl kin_Md kty_Md ktk_Md knm_Md (Nat.le_of_ble_eq_true rfl) (by decide +kernel) d_Md_readSign_92 (kw3 210 rfl rfl) rfl)) (
  kc_case (P := P) (kc_se rfl sm_no) (
  kc_case (P := P) (kc_se rfl sm_no) (
  kc_case (P := P) (kc_se c_Md_readSign_89 (sm_get (ci := 10) (C := "DirectoryDeskModel") (F := kF_Md) rfl kin_Md (Nat.le_of_ble_eq_true rfl) d_Md_readSign_89 (kw3 198 rfl rfl))) (
  kc_case (P := P) (kc_se c_Md_readSign_88 (sm_aload_n d_Md_readSign_88 rfl)) (
  kc_case (P := P) (kc_se c_Md_readSign_87 (sm_aload_n d_Md_readSign_87 rfl)) (
  kc_case (P := P) (kc_se rfl sm_no) (
  kc_case (P := P) (kc_se rfl sm_no) (
  kc_case (P := P) (kc_se c_Md_readSign_84 (sm_put (ci := 10) (C := "DirectoryDeskModel") (F := kF_Md) rfl kin_Md kty_Md ktk_Md knm_Md (Nat.le_of_ble_eq_true rfl) (by decide +kernel) d_Md_readSign_84 (kw3 209 rfl rfl) rfl)) (
  kc_case (P := P) (kc_se rfl sm_no) (
  kc_case (P := P) (kc_se rfl sm_no) (
  kc_case (P := P) (kc_se c_Md_readSign_81 (sm_get (ci := 10) (C := "DirectoryDeskModel") (F := kF_Md) rfl kin_Md (Nat.le_of_ble_eq_true rfl) d_Md_readSign_81 (kw3 197 rfl rfl))) (
  kc_case (P := P) (kc_se c_Md_readSign_80 (sm_aload_n d_Md_readSign_80 rfl)) (
  kc_case (P := P) (kc_se c_Md_readSign_79 (sm_aload_n d_Md_readSign_79 rfl)) (
  kc_case (P := P) (kc_se c_Md_readSign_78 (sm_rz d_Md_readSign_78 rfl)) (
  kc_case (P := P) (kc_se c_Md_readSign_77 (sm_iconst d_Md_readSign_77 (by decide))) (
  kc_case (P := P) (kc_se rfl sm_no) (
  kc_case (P := P) (kc_se rfl sm_no) (
  kc_case (P := P) (kc_se c_Md_readSign_74 (sm_if_ne d_Md_readSign_74 (by decide))) (
  kc_case (P := P) (kc_se rfl sm_no) (
  kc_case (P := P) (kc_se rfl sm_no) (
  kc_case (P := P) (kc_se c_Md_readSign_71 (sm_cv (j := 100) rfl rfl kw_o kw_g wc_Md_tagged (Nat.le_of_ble_eq_true rfl) hd_Md_tagged (ci := 10) (F := kF_Md) (N := 52) rfl (kw4 117 rfl rfl) wi_Md_tagged ws_Md_tagged wn_Md_tagged d_Md_readSign_71)) (
  kc_case (P := P) (kc_se rfl sm_no) (
  kc_case (P := P) (kc_se rfl sm_no) (
  kc_case (P := P) (kc_se c_Md_readSign_68 (sm_sipush d_Md_readSign_68 (by decide))) (
  kc_case (P := P) (kc_se rfl sm_no) (
  kc_case (P := P) (kc_se rfl sm_no) (
  kc_case (P := P) (kc_se c_Md_readSign_65 (sm_get (ci := 10) (C := "DirectoryDeskModel") (F := kF_Md) rfl kin_Md (Nat.le_of_ble_eq_true rfl) d_Md_readSign_65 (kw3 202 rfl rfl))) (
  kc_case (P := P) (kc_se c_Md_readSign_64 (sm_aload_n d_Md_readSign_64 rfl)) (
  kc_case (P := P) (kc_se rfl sm_no) (
  kc_case (P := P) (kc_se rfl sm_no) (
  kc_case (P := P) (kc_se c_Md_readSign_61 (sm_get (ci := 10) (C := "DirectoryDeskModel") (F := kF_Md) rfl kin_Md (Nat.le_of_ble_eq_true rfl) d_Md_readSign_61 (kw3 198 rfl rfl))) (
  kc_case (P := P) (kc_se c_Md_readSign_60 (sm_aload_n d_Md_readSign_60 rfl)) (
  s_Md_readSign_60))))))))))))))))))))))))))))))))))))))))))))))))))))
set_option maxRecDepth 100000 in
theorem ka_nth_no_Md_readSign (pc : Nat) (h : 112 ≤ pc) : ct_Md_readSign pc = ka_no := ka_nth_ge _ pc (Nat.le_trans (Nat.le_of_eq (by rfl)) h)
theorem s_Md_readSign (pc : Nat) : kc_Sim kt kw_A kw_N kt_cl kt_En "DirectoryDeskModel" prog_12_method_16_code 1 (some .boolean) "readSign" none pc (ct_Md_readSign pc) := (Nat.lt_or_ge pc 112).elim (s_Md_readSign_112 pc) (fun h => kc_se (ka_nth_no_Md_readSign pc h) sm_no)
def cl_Md_readValues_0 : List kc_A := [ka_il 1 1, ka_is 3 1, ka_il 3 1, ka_il 2 1, ka_cm (fun x y => y ≤ x) 67, ka_no, ka_no, ka_al 0 1, ka_get 10 38, ka_no, ka_no, ka_ci (nI 24) 2, ka_no, ka_cm (fun x y => x = y) 26, ka_no, ka_no, ka_al 0 1, ka_il 3 1, ka_il 2 1, ka_ci (nI 4) 1, ka_cv 100 3 10 0 0, ka_no, ka_no, ka_if (fun x => ¬ x = 0) 28, ka_no, ka_no, ka_ci (nI 0) 1, ka_rz, ka_al 0 1, ka_get 10 39, ka_no, ka_no, ka_al 0 1, ka_get 10 38, ka_no, ka_no, ka_al 0 1, ka_al 0 1, ka_get 10 14, ka_no, ka_no, ka_al 0 1, ka_get 10 15, ka_no, ka_no, ka_cv 106 2 10 0 0, ka_no, ka_no, ka_last, ka_al 0 1, ka_dup, ka_get 10 38, ka_no, ka_no, ka_ci (nI 1) 1, ka_ii (fun x y => x + y), ka_put 10 38 .int, ka_no, ka_no, ka_al 0 1]
def cl_Md_readValues_1 : List kc_A := [ka_get 10 15, ka_no, ka_no, ka_is 3 1, ka_goto 2, ka_no, ka_no, ka_ci (nI 1) 1, ka_rz]
def ct_Md_readValues : Nat → kc_A := fun pc => ka_nth (cl_Md_readValues_0 ++ (cl_Md_readValues_1)) pc
set_option maxRecDepth 100000 in
theorem c_Md_readValues_0 : ct_Md_readValues 0 = ka_il 1 1 := rfl
theorem d_Md_readValues_0 : decode prog_12_method_17_code 0 = .ok (.iload_n 1, 1) := by decide +kernel
set_option maxRecDepth 100000 in
theorem c_Md_readValues_1 : ct_Md_readValues 1 = ka_is 3 1 := rfl
theorem d_Md_readValues_1 : decode prog_12_method_17_code 1 = .ok (.istore_n 3, 1) := by decide +kernel
set_option maxRecDepth 100000 in
theorem c_Md_readValues_2 : ct_Md_readValues 2 = ka_il 3 1 := rfl
theorem d_Md_readValues_2 : decode prog_12_method_17_code 2 = .ok (.iload_n 3, 1) := by decide +kernel
set_option maxRecDepth 100000 in
theorem c_Md_readValues_3 : ct_Md_readValues 3 = ka_il 2 1 := rfl
theorem d_Md_readValues_3 : decode prog_12_method_17_code 3 = .ok (.iload_n 2, 1) := by decide +kernel
set_option maxRecDepth 100000 in
theorem c_Md_readValues_4 : ct_Md_readValues 4 = ka_cm (fun x y => y ≤ x) 67 := rfl
theorem d_Md_readValues_4 : decode prog_12_method_17_code 4 = .ok (.if_icmp .ge 63, 3) := by decide +kernel
set_option maxRecDepth 100000 in
theorem c_Md_readValues_7 : ct_Md_readValues 7 = ka_al 0 1 := rfl
theorem d_Md_readValues_7 : decode prog_12_method_17_code 7 = .ok (.aload_n 0, 1) := by decide +kernel
set_option maxRecDepth 100000 in
theorem c_Md_readValues_8 : ct_Md_readValues 8 = ka_get 10 38 := rfl
theorem d_Md_readValues_8 : decode prog_12_method_17_code 8 = .ok (.getfield 168, 3) := by decide +kernel
set_option maxRecDepth 100000 in
theorem c_Md_readValues_11 : ct_Md_readValues 11 = ka_ci (nI 24) 2 := rfl
theorem d_Md_readValues_11 : decode prog_12_method_17_code 11 = .ok (.bipush 24, 2) := by decide +kernel
set_option maxRecDepth 100000 in
theorem c_Md_readValues_13 : ct_Md_readValues 13 = ka_cm (fun x y => x = y) 26 := rfl
theorem d_Md_readValues_13 : decode prog_12_method_17_code 13 = .ok (.if_icmp .eq 13, 3) := by decide +kernel
set_option maxRecDepth 100000 in
theorem c_Md_readValues_16 : ct_Md_readValues 16 = ka_al 0 1 := rfl
theorem d_Md_readValues_16 : decode prog_12_method_17_code 16 = .ok (.aload_n 0, 1) := by decide +kernel
set_option maxRecDepth 100000 in
theorem c_Md_readValues_17 : ct_Md_readValues 17 = ka_il 3 1 := rfl
theorem d_Md_readValues_17 : decode prog_12_method_17_code 17 = .ok (.iload_n 3, 1) := by decide +kernel
set_option maxRecDepth 100000 in
theorem c_Md_readValues_18 : ct_Md_readValues 18 = ka_il 2 1 := rfl
theorem d_Md_readValues_18 : decode prog_12_method_17_code 18 = .ok (.iload_n 2, 1) := by decide +kernel
set_option maxRecDepth 100000 in
theorem c_Md_readValues_19 : ct_Md_readValues 19 = ka_ci (nI 4) 1 := rfl
theorem d_Md_readValues_19 : decode prog_12_method_17_code 19 = .ok (.iconst 4, 1) := by decide +kernel
set_option maxRecDepth 100000 in
theorem c_Md_readValues_20 : ct_Md_readValues 20 = ka_cv 100 3 10 0 0 := rfl
theorem d_Md_readValues_20 : decode prog_12_method_17_code 20 = .ok (.invokevirtual 116, 3) := by decide +kernel
set_option maxRecDepth 100000 in
theorem c_Md_readValues_23 : ct_Md_readValues 23 = ka_if (fun x => ¬ x = 0) 28 := rfl
theorem d_Md_readValues_23 : decode prog_12_method_17_code 23 = .ok (.ifCond .ne 5, 3) := by decide +kernel
set_option maxRecDepth 100000 in
theorem c_Md_readValues_26 : ct_Md_readValues 26 = ka_ci (nI 0) 1 := rfl
theorem d_Md_readValues_26 : decode prog_12_method_17_code 26 = .ok (.iconst 0, 1) := by decide +kernel
set_option maxRecDepth 100000 in
theorem c_Md_readValues_27 : ct_Md_readValues 27 = ka_rz := rfl
theorem d_Md_readValues_27 : decode prog_12_method_17_code 27 = .ok (.ireturn, 1) := by decide +kernel
set_option maxRecDepth 100000 in
theorem c_Md_readValues_28 : ct_Md_readValues 28 = ka_al 0 1 := rfl
theorem d_Md_readValues_28 : decode prog_12_method_17_code 28 = .ok (.aload_n 0, 1) := by decide +kernel
set_option maxRecDepth 100000 in
theorem c_Md_readValues_29 : ct_Md_readValues 29 = ka_get 10 39 := rfl
theorem d_Md_readValues_29 : decode prog_12_method_17_code 29 = .ok (.getfield 53, 3) := by decide +kernel
set_option maxRecDepth 100000 in
theorem c_Md_readValues_32 : ct_Md_readValues 32 = ka_al 0 1 := rfl
theorem d_Md_readValues_32 : decode prog_12_method_17_code 32 = .ok (.aload_n 0, 1) := by decide +kernel
set_option maxRecDepth 100000 in
theorem c_Md_readValues_33 : ct_Md_readValues 33 = ka_get 10 38 := rfl
theorem d_Md_readValues_33 : decode prog_12_method_17_code 33 = .ok (.getfield 168, 3) := by decide +kernel
set_option maxRecDepth 100000 in
theorem c_Md_readValues_36 : ct_Md_readValues 36 = ka_al 0 1 := rfl
theorem d_Md_readValues_36 : decode prog_12_method_17_code 36 = .ok (.aload_n 0, 1) := by decide +kernel
set_option maxRecDepth 100000 in
theorem c_Md_readValues_37 : ct_Md_readValues 37 = ka_al 0 1 := rfl
theorem d_Md_readValues_37 : decode prog_12_method_17_code 37 = .ok (.aload_n 0, 1) := by decide +kernel
set_option maxRecDepth 100000 in
theorem c_Md_readValues_38 : ct_Md_readValues 38 = ka_get 10 14 := rfl
theorem d_Md_readValues_38 : decode prog_12_method_17_code 38 = .ok (.getfield 106, 3) := by decide +kernel
set_option maxRecDepth 100000 in
theorem c_Md_readValues_41 : ct_Md_readValues 41 = ka_al 0 1 := rfl
theorem d_Md_readValues_41 : decode prog_12_method_17_code 41 = .ok (.aload_n 0, 1) := by decide +kernel
set_option maxRecDepth 100000 in
theorem c_Md_readValues_42 : ct_Md_readValues 42 = ka_get 10 15 := rfl
theorem d_Md_readValues_42 : decode prog_12_method_17_code 42 = .ok (.getfield 109, 3) := by decide +kernel
set_option maxRecDepth 100000 in
theorem c_Md_readValues_45 : ct_Md_readValues 45 = ka_cv 106 2 10 0 0 := rfl
theorem d_Md_readValues_45 : decode prog_12_method_17_code 45 = .ok (.invokevirtual 133, 3) := by decide +kernel
set_option maxRecDepth 100000 in
theorem c_Md_readValues_48 : ct_Md_readValues 48 = ka_last := rfl
theorem d_Md_readValues_48 : decode prog_12_method_17_code 48 = .ok (.lastore, 1) := by decide +kernel
set_option maxRecDepth 100000 in
theorem c_Md_readValues_49 : ct_Md_readValues 49 = ka_al 0 1 := rfl
theorem d_Md_readValues_49 : decode prog_12_method_17_code 49 = .ok (.aload_n 0, 1) := by decide +kernel
set_option maxRecDepth 100000 in
theorem c_Md_readValues_50 : ct_Md_readValues 50 = ka_dup := rfl
theorem d_Md_readValues_50 : decode prog_12_method_17_code 50 = .ok (.dup, 1) := by decide +kernel
set_option maxRecDepth 100000 in
theorem c_Md_readValues_51 : ct_Md_readValues 51 = ka_get 10 38 := rfl
theorem d_Md_readValues_51 : decode prog_12_method_17_code 51 = .ok (.getfield 168, 3) := by decide +kernel
set_option maxRecDepth 100000 in
theorem c_Md_readValues_54 : ct_Md_readValues 54 = ka_ci (nI 1) 1 := rfl
theorem d_Md_readValues_54 : decode prog_12_method_17_code 54 = .ok (.iconst 1, 1) := by decide +kernel
set_option maxRecDepth 100000 in
theorem c_Md_readValues_55 : ct_Md_readValues 55 = ka_ii (fun x y => x + y) := rfl
theorem d_Md_readValues_55 : decode prog_12_method_17_code 55 = .ok (.iadd, 1) := by decide +kernel
set_option maxRecDepth 100000 in
theorem c_Md_readValues_56 : ct_Md_readValues 56 = ka_put 10 38 .int := rfl
theorem d_Md_readValues_56 : decode prog_12_method_17_code 56 = .ok (.putfield 168, 3) := by decide +kernel
set_option maxRecDepth 100000 in
theorem c_Md_readValues_59 : ct_Md_readValues 59 = ka_al 0 1 := rfl
theorem d_Md_readValues_59 : decode prog_12_method_17_code 59 = .ok (.aload_n 0, 1) := by decide +kernel
set_option maxRecDepth 100000 in
theorem c_Md_readValues_60 : ct_Md_readValues 60 = ka_get 10 15 := rfl
theorem d_Md_readValues_60 : decode prog_12_method_17_code 60 = .ok (.getfield 109, 3) := by decide +kernel
set_option maxRecDepth 100000 in
theorem c_Md_readValues_63 : ct_Md_readValues 63 = ka_is 3 1 := rfl
theorem d_Md_readValues_63 : decode prog_12_method_17_code 63 = .ok (.istore_n 3, 1) := by decide +kernel
set_option maxRecDepth 100000 in
theorem c_Md_readValues_64 : ct_Md_readValues 64 = ka_goto 2 := rfl
theorem d_Md_readValues_64 : decode prog_12_method_17_code 64 = .ok (.goto (-62), 3) := by decide +kernel
set_option maxRecDepth 100000 in
theorem c_Md_readValues_67 : ct_Md_readValues 67 = ka_ci (nI 1) 1 := rfl
theorem d_Md_readValues_67 : decode prog_12_method_17_code 67 = .ok (.iconst 1, 1) := by decide +kernel
set_option maxRecDepth 100000 in
theorem c_Md_readValues_68 : ct_Md_readValues 68 = ka_rz := rfl
theorem d_Md_readValues_68 : decode prog_12_method_17_code 68 = .ok (.ireturn, 1) := by decide +kernel
set_option maxRecDepth 100000 in
set_option maxHeartbeats 4000000 in
theorem s_Md_readValues_60 : ∀ pc, pc < 60 → kc_Sim kt kw_A kw_N kt_cl kt_En "DirectoryDeskModel" prog_12_method_17_code 4 (some .boolean) "readValues" none pc (ct_Md_readValues pc) := by
  let P : Nat → Prop := fun pc => kc_Sim kt kw_A kw_N kt_cl kt_En "DirectoryDeskModel" prog_12_method_17_code 4 (some .boolean) "readValues" none pc (ct_Md_readValues pc)
  exact kc_case (P := P) (kc_se c_Md_readValues_59 (sm_aload_n d_Md_readValues_59 rfl)) (
  kc_case (P := P) (kc_se rfl sm_no) (
  kc_case (P := P) (kc_se rfl sm_no) (
  kc_case (P := P) (kc_se c_Md_readValues_56 (sm_put (ci := 10) (C := "DirectoryDeskModel") (F := kF_Md) rfl kin_Md kty_Md ktk_Md knm_Md (Nat.le_of_ble_eq_true rfl) (by decide +kernel) d_Md_readValues_56 (kw3 221 rfl rfl) rfl)) (
  kc_case (P := P) (kc_se c_Md_readValues_55 (sm_iadd d_Md_readValues_55)) (
  kc_case (P := P) (kc_se c_Md_readValues_54 (sm_iconst d_Md_readValues_54 (by decide))) (
  kc_case (P := P) (kc_se rfl sm_no) (
  kc_case (P := P) (kc_se rfl sm_no) (
  kc_case (P := P) (kc_se c_Md_readValues_51 (sm_get (ci := 10) (C := "DirectoryDeskModel") (F := kF_Md) rfl kin_Md (Nat.le_of_ble_eq_true rfl) d_Md_readValues_51 (kw3 221 rfl rfl))) (
  kc_case (P := P) (kc_se c_Md_readValues_50 (sm_dup d_Md_readValues_50)) (
  kc_case (P := P) (kc_se c_Md_readValues_49 (sm_aload_n d_Md_readValues_49 rfl)) (
  kc_case (P := P) (kc_se c_Md_readValues_48 (sm_last d_Md_readValues_48)) (
  kc_case (P := P) (kc_se rfl sm_no) (
  kc_case (P := P) (kc_se rfl sm_no) (
  kc_case (P := P) (kc_se c_Md_readValues_45 (sm_cv (j := 106) rfl rfl kw_o kw_g wc_Md_valueIn (Nat.le_of_ble_eq_true rfl) hd_Md_valueIn (ci := 10) (F := kF_Md) (N := 52) rfl (kw4 164 rfl rfl) wi_Md_valueIn ws_Md_valueIn wn_Md_valueIn d_Md_readValues_45)) (
  kc_case (P := P) (kc_se rfl sm_no) (
  kc_case (P := P) (kc_se rfl sm_no) (
  kc_case (P := P) (kc_se c_Md_readValues_42 (sm_get (ci := 10) (C := "DirectoryDeskModel") (F := kF_Md) rfl kin_Md (Nat.le_of_ble_eq_true rfl) d_Md_readValues_42 (kw3 198 rfl rfl))) (
  kc_case (P := P) (kc_se c_Md_readValues_41 (sm_aload_n d_Md_readValues_41 rfl)) (
  kc_case (P := P) (kc_se rfl sm_no) (
  kc_case (P := P) (kc_se rfl sm_no) (
  kc_case (P := P) (kc_se c_Md_readValues_38 (sm_get (ci := 10) (C := "DirectoryDeskModel") (F := kF_Md) rfl kin_Md (Nat.le_of_ble_eq_true rfl) d_Md_readValues_38 (kw3 197 rfl rfl))) (
  kc_case (P := P) (kc_se c_Md_readValues_37 (sm_aload_n d_Md_readValues_37 rfl)) (
  kc_case (P := P) (kc_se c_Md_readValues_36 (sm_aload_n d_Md_readValues_36 rfl)) (
  kc_case (P := P) (kc_se rfl sm_no) (
  kc_case (P := P) (kc_se rfl sm_no) (
  kc_case (P := P) (kc_se c_Md_readValues_33 (sm_get (ci := 10) (C := "DirectoryDeskModel") (F := kF_Md) rfl kin_Md (Nat.le_of_ble_eq_true rfl) d_Md_readValues_33 (kw3 221 rfl rfl))) (
  kc_case (P := P) (kc_se c_Md_readValues_32 (sm_aload_n d_Md_readValues_32 rfl)) (
  kc_case (P := P) (kc_se rfl sm_no) (
  kc_case (P := P) (kc_se rfl sm_no) (
  kc_case (P := P) (kc_se c_Md_readValues_29 (sm_get (ci := 10) (C := "DirectoryDeskModel") (F := kF_Md) rfl kin_Md (Nat.le_of_ble_eq_true rfl) d_Md_readValues_29 (kw3 222 rfl rfl))) (
  kc_case (P := P) (kc_se c_Md_readValues_28 (sm_aload_n d_Md_readValues_28 rfl)) (
  kc_case (P := P) (kc_se c_Md_readValues_27 (sm_rz d_Md_readValues_27 rfl)) (
  kc_case (P := P) (kc_se c_Md_readValues_26 (sm_iconst d_Md_readValues_26 (by decide))) (
  kc_case (P := P) (kc_se rfl sm_no) (
  kc_case (P := P) (kc_se rfl sm_no) (
  kc_case (P := P) (kc_se c_Md_readValues_23 (sm_if_ne d_Md_readValues_23 (by decide))) (
  kc_case (P := P) (kc_se rfl sm_no) (
  kc_case (P := P) (kc_se rfl sm_no) (
  kc_case (P := P) (kc_se c_Md_readValues_20 (sm_cv (j := 100) rfl rfl kw_o kw_g wc_Md_tagged (Nat.le_of_ble_eq_true rfl) hd_Md_tagged (ci := 10) (F := kF_Md) (N := 52) rfl (kw4 117 rfl rfl) wi_Md_tagged ws_Md_tagged wn_Md_tagged d_Md_readValues_20)) (
  kc_case (P := P) (kc_se c_Md_readValues_19 (sm_iconst d_Md_readValues_19 (by decide))) (
  kc_case (P := P) (kc_se c_Md_readValues_18 (sm_iload_n d_Md_readValues_18 rfl)) (
  kc_case (P := P) (kc_se c_Md_readValues_17 (sm_iload_n d_Md_readValues_17 rfl)) (
  kc_case (P := P) (kc_se c_Md_readValues_16 (sm_aload_n d_Md_readValues_16 rfl)) (
  kc_case (P := P) (kc_se rfl sm_no) (
  kc_case (P := P) (kc_se rfl sm_no) (
  kc_case (P := P) (kc_se c_Md_readValues_13 (sm_cm_eq d_Md_readValues_13 (by decide))) (
  kc_case (P := P) (kc_se rfl sm_no) (
  kc_case (P := P) (kc_se c_Md_readValues_11 (sm_bipush d_Md_readValues_11 (by decide))) (
  kc_case (P := P) (kc_se rfl sm_no) (
  kc_case (P := P) (kc_se rfl sm_no) (
  kc_case (P := P) (kc_se c_Md_readValues_8 (sm_get (ci := 10) (C := "DirectoryDeskModel") (F := kF_Md) rfl kin_Md (Nat.le_of_ble_eq_true rfl) d_Md_readValues_8 (kw3 221 rfl rfl))) (
  kc_case (P := P) (kc_se c_Md_readValues_7 (sm_aload_n d_Md_readValues_7 rfl)) (
  kc_case (P := P) (kc_se rfl sm_no) (
  kc_case (P := P) (kc_se rfl sm_no) (
  kc_case (P := P) (kc_se c_Md_readValues_4 (sm_cm_ge d_Md_readValues_4 (by decide))) (
  kc_case (P := P) (kc_se c_Md_readValues_3 (sm_iload_n d_Md_readValues_3 rfl)) (
  kc_case (P := P) (kc_se c_Md_readValues_2 (sm_iload_n d_Md_readValues_2 rfl)) (
  kc_case (P := P) (kc_se c_Md_readValues_1 (sm_istore_n d_Md_readValues_1 rfl (Nat.le_of_ble_eq_true rfl))) (
  kc_case (P := P) (kc_se c_Md_readValues_0 (sm_iload_n d_Md_readValues_0 rfl)) (
  kc_case0))))))))))))))))))))))))))))))))))))))))))))))))))))))))))))
set_option maxRecDepth 100000 in
set_option maxHeartbeats 4000000 in
theorem s_Md_readValues_69 : ∀ pc, pc < 69 → kc_Sim kt kw_A kw_N kt_cl kt_En "DirectoryDeskModel" prog_12_method_17_code 4 (some .boolean) "readValues" none pc (ct_Md_readValues pc) := by
  let P : Nat → Prop := fun pc => kc_Sim kt kw_A kw_N kt_cl kt_En "DirectoryDeskModel" prog_12_method_17_code 4 (some .boolean) "readValues" none pc (ct_Md_readValues pc)
  exact kc_case (P := P) (kc_se c_Md_readValues_68 (sm_rz d_Md_readValues_68 rfl)) (
  kc_case (P := P) (kc_se c_Md_readValues_67 (sm_iconst d_Md_readValues_67 (by decide))) (
  kc_case (P := P) (kc_se rfl sm_no) (
  kc_case (P := P) (kc_se rfl sm_no) (
  kc_case (P := P) (kc_se c_Md_readValues_64 (sm_goto d_Md_readValues_64 (by decide))) (
  kc_case (P := P) (kc_se c_Md_readValues_63 (sm_istore_n d_Md_readValues_63 rfl (Nat.le_of_ble_eq_true rfl))) (
  kc_case (P := P) (kc_se rfl sm_no) (
  kc_case (P := P) (kc_se rfl sm_no) (
  kc_case (P := P) (kc_se c_Md_readValues_60 (sm_get (ci := 10) (C := "DirectoryDeskModel") (F := kF_Md) rfl kin_Md (Nat.le_of_ble_eq_true rfl) d_Md_readValues_60 (kw3 198 rfl rfl))) (
  s_Md_readValues_60)))))))))
set_option maxRecDepth 100000 in
theorem ka_nth_no_Md_readValues (pc : Nat) (h : 69 ≤ pc) : ct_Md_readValues pc = ka_no := ka_nth_ge _ pc (Nat.le_trans (Nat.le_of_eq (by rfl)) h)
theorem s_Md_readValues (pc : Nat) : kc_Sim kt kw_A kw_N kt_cl kt_En "DirectoryDeskModel" prog_12_method_17_code 4 (some .boolean) "readValues" none pc (ct_Md_readValues pc) := (Nat.lt_or_ge pc 69).elim (s_Md_readValues_69 pc) (fun h => kc_se (ka_nth_no_Md_readValues pc h) sm_no)
def cl_Md_readAttribute_0 : List kc_A := [ka_al 0 1, ka_il 1 1, ka_il 2 1, ka_ci (nI 48) 2, ka_no, ka_cv 100 3 10 0 0, ka_no, ka_no, ka_if (fun x => x = 0) 32, ka_no, ka_no, ka_al 0 1, ka_get 10 15, ka_no, ka_no, ka_il 2 1, ka_cm (fun x y => ¬ x = y) 32, ka_no, ka_no, ka_al 0 1, ka_al 0 1, ka_get 10 14, ka_no, ka_no, ka_il 2 1, ka_ci (nI 4) 1, ka_cv 100 3 10 0 0, ka_no, ka_no, ka_if (fun x => ¬ x = 0) 34, ka_no, ka_no, ka_ci (nI 0) 1, ka_rz, ka_al 0 1, ka_get 10 35, ka_no, ka_no, ka_al 0 1, ka_get 10 33, ka_no, ka_no, ka_al 0 1, ka_al 0 1, ka_get 10 14, ka_no, ka_no, ka_al 0 1, ka_get 10 15, ka_no, ka_no, ka_cv 105 2 10 0 0, ka_no, ka_no, ka_iast, ka_al 0 1, ka_al 0 1, ka_get 10 15, ka_no, ka_no]
def cl_Md_readAttribute_1 : List kc_A := [ka_il 2 1, ka_ci (nI 49) 2, ka_no, ka_cv 100 3 10 0 0, ka_no, ka_no, ka_if (fun x => x = 0) 77, ka_no, ka_no, ka_al 0 1, ka_get 10 15, ka_no, ka_no, ka_il 2 1, ka_cm (fun x y => x = y) 79, ka_no, ka_no, ka_ci (nI 0) 1, ka_rz, ka_al 0 1, ka_get 10 36, ka_no, ka_no, ka_al 0 1, ka_get 10 33, ka_no, ka_no, ka_al 0 1, ka_get 10 38, ka_no, ka_no, ka_iast, ka_al 0 1, ka_al 0 1, ka_get 10 14, ka_no, ka_no, ka_il 2 1, ka_cv 112 2 10 0 0, ka_no, ka_no, ka_if (fun x => ¬ x = 0) 106, ka_no, ka_no, ka_ci (nI 0) 1, ka_rz, ka_al 0 1, ka_get 10 37, ka_no, ka_no, ka_al 0 1, ka_get 10 33, ka_no, ka_no, ka_al 0 1, ka_get 10 38, ka_no, ka_no, ka_al 0 1, ka_get 10 36]
def cl_Md_readAttribute_2 : List kc_A := [ka_no, ka_no, ka_al 0 1, ka_get 10 33, ka_no, ka_no, ka_iald, ka_ii (fun x y => x - y), ka_iast, ka_al 0 1, ka_dup, ka_get 10 33, ka_no, ka_no, ka_ci (nI 1) 1, ka_ii (fun x y => x + y), ka_put 10 33 .int, ka_no, ka_no, ka_ci (nI 1) 1, ka_rz]
def ct_Md_readAttribute : Nat → kc_A := fun pc => ka_nth (cl_Md_readAttribute_0 ++ (cl_Md_readAttribute_1 ++ (cl_Md_readAttribute_2))) pc
set_option maxRecDepth 100000 in
theorem c_Md_readAttribute_0 : ct_Md_readAttribute 0 = ka_al 0 1 := rfl
theorem d_Md_readAttribute_0 : decode prog_12_method_18_code 0 = .ok (.aload_n 0, 1) := by decide +kernel
set_option maxRecDepth 100000 in
theorem c_Md_readAttribute_1 : ct_Md_readAttribute 1 = ka_il 1 1 := rfl
theorem d_Md_readAttribute_1 : decode prog_12_method_18_code 1 = .ok (.iload_n 1, 1) := by decide +kernel
set_option maxRecDepth 100000 in
theorem c_Md_readAttribute_2 : ct_Md_readAttribute 2 = ka_il 2 1 := rfl
theorem d_Md_readAttribute_2 : decode prog_12_method_18_code 2 = .ok (.iload_n 2, 1) := by decide +kernel
set_option maxRecDepth 100000 in
theorem c_Md_readAttribute_3 : ct_Md_readAttribute 3 = ka_ci (nI 48) 2 := rfl
theorem d_Md_readAttribute_3 : decode prog_12_method_18_code 3 = .ok (.bipush 48, 2) := by decide +kernel
set_option maxRecDepth 100000 in
theorem c_Md_readAttribute_5 : ct_Md_readAttribute 5 = ka_cv 100 3 10 0 0 := rfl
theorem d_Md_readAttribute_5 : decode prog_12_method_18_code 5 = .ok (.invokevirtual 116, 3) := by decide +kernel
set_option maxRecDepth 100000 in
theorem c_Md_readAttribute_8 : ct_Md_readAttribute 8 = ka_if (fun x => x = 0) 32 := rfl
theorem d_Md_readAttribute_8 : decode prog_12_method_18_code 8 = .ok (.ifCond .eq 24, 3) := by decide +kernel
set_option maxRecDepth 100000 in
theorem c_Md_readAttribute_11 : ct_Md_readAttribute 11 = ka_al 0 1 := rfl
theorem d_Md_readAttribute_11 : decode prog_12_method_18_code 11 = .ok (.aload_n 0, 1) := by decide +kernel
set_option maxRecDepth 100000 in
theorem c_Md_readAttribute_12 : ct_Md_readAttribute 12 = ka_get 10 15 := rfl
theorem d_Md_readAttribute_12 : decode prog_12_method_18_code 12 = .ok (.getfield 109, 3) := by decide +kernel
set_option maxRecDepth 100000 in
theorem c_Md_readAttribute_15 : ct_Md_readAttribute 15 = ka_il 2 1 := rfl
theorem d_Md_readAttribute_15 : decode prog_12_method_18_code 15 = .ok (.iload_n 2, 1) := by decide +kernel
set_option maxRecDepth 100000 in
theorem c_Md_readAttribute_16 : ct_Md_readAttribute 16 = ka_cm (fun x y => ¬ x = y) 32 := rfl
theorem d_Md_readAttribute_16 : decode prog_12_method_18_code 16 = .ok (.if_icmp .ne 16, 3) := by decide +kernel
set_option maxRecDepth 100000 in
theorem c_Md_readAttribute_19 : ct_Md_readAttribute 19 = ka_al 0 1 := rfl
theorem d_Md_readAttribute_19 : decode prog_12_method_18_code 19 = .ok (.aload_n 0, 1) := by decide +kernel
set_option maxRecDepth 100000 in
theorem c_Md_readAttribute_20 : ct_Md_readAttribute 20 = ka_al 0 1 := rfl
theorem d_Md_readAttribute_20 : decode prog_12_method_18_code 20 = .ok (.aload_n 0, 1) := by decide +kernel
set_option maxRecDepth 100000 in
theorem c_Md_readAttribute_21 : ct_Md_readAttribute 21 = ka_get 10 14 := rfl
theorem d_Md_readAttribute_21 : decode prog_12_method_18_code 21 = .ok (.getfield 106, 3) := by decide +kernel
set_option maxRecDepth 100000 in
theorem c_Md_readAttribute_24 : ct_Md_readAttribute 24 = ka_il 2 1 := rfl
theorem d_Md_readAttribute_24 : decode prog_12_method_18_code 24 = .ok (.iload_n 2, 1) := by decide +kernel
set_option maxRecDepth 100000 in
theorem c_Md_readAttribute_25 : ct_Md_readAttribute 25 = ka_ci (nI 4) 1 := rfl
theorem d_Md_readAttribute_25 : decode prog_12_method_18_code 25 = .ok (.iconst 4, 1) := by decide +kernel
set_option maxRecDepth 100000 in
theorem c_Md_readAttribute_26 : ct_Md_readAttribute 26 = ka_cv 100 3 10 0 0 := rfl
theorem d_Md_readAttribute_26 : decode prog_12_method_18_code 26 = .ok (.invokevirtual 116, 3) := by decide +kernel
set_option maxRecDepth 100000 in
theorem c_Md_readAttribute_29 : ct_Md_readAttribute 29 = ka_if (fun x => ¬ x = 0) 34 := rfl
theorem d_Md_readAttribute_29 : decode prog_12_method_18_code 29 = .ok (.ifCond .ne 5, 3) := by decide +kernel
set_option maxRecDepth 100000 in
theorem c_Md_readAttribute_32 : ct_Md_readAttribute 32 = ka_ci (nI 0) 1 := rfl
theorem d_Md_readAttribute_32 : decode prog_12_method_18_code 32 = .ok (.iconst 0, 1) := by decide +kernel
set_option maxRecDepth 100000 in
theorem c_Md_readAttribute_33 : ct_Md_readAttribute 33 = ka_rz := rfl
theorem d_Md_readAttribute_33 : decode prog_12_method_18_code 33 = .ok (.ireturn, 1) := by decide +kernel
set_option maxRecDepth 100000 in
theorem c_Md_readAttribute_34 : ct_Md_readAttribute 34 = ka_al 0 1 := rfl
theorem d_Md_readAttribute_34 : decode prog_12_method_18_code 34 = .ok (.aload_n 0, 1) := by decide +kernel
set_option maxRecDepth 100000 in
theorem c_Md_readAttribute_35 : ct_Md_readAttribute 35 = ka_get 10 35 := rfl
theorem d_Md_readAttribute_35 : decode prog_12_method_18_code 35 = .ok (.getfield 44, 3) := by decide +kernel
set_option maxRecDepth 100000 in
theorem c_Md_readAttribute_38 : ct_Md_readAttribute 38 = ka_al 0 1 := rfl
theorem d_Md_readAttribute_38 : decode prog_12_method_18_code 38 = .ok (.aload_n 0, 1) := by decide +kernel
set_option maxRecDepth 100000 in
theorem c_Md_readAttribute_39 : ct_Md_readAttribute 39 = ka_get 10 33 := rfl
theorem d_Md_readAttribute_39 : decode prog_12_method_18_code 39 = .ok (.getfield 171, 3) := by decide +kernel
set_option maxRecDepth 100000 in
theorem c_Md_readAttribute_42 : ct_Md_readAttribute 42 = ka_al 0 1 := rfl
theorem d_Md_readAttribute_42 : decode prog_12_method_18_code 42 = .ok (.aload_n 0, 1) := by decide +kernel
set_option maxRecDepth 100000 in
theorem c_Md_readAttribute_43 : ct_Md_readAttribute 43 = ka_al 0 1 := rfl
theorem d_Md_readAttribute_43 : decode prog_12_method_18_code 43 = .ok (.aload_n 0, 1) := by decide +kernel
set_option maxRecDepth 100000 in
theorem c_Md_readAttribute_44 : ct_Md_readAttribute 44 = ka_get 10 14 := rfl
theorem d_Md_readAttribute_44 : decode prog_12_method_18_code 44 = .ok (.getfield 106, 3) := by decide +kernel
set_option maxRecDepth 100000 in
theorem c_Md_readAttribute_47 : ct_Md_readAttribute 47 = ka_al 0 1 := rfl
theorem d_Md_readAttribute_47 : decode prog_12_method_18_code 47 = .ok (.aload_n 0, 1) := by decide +kernel
set_option maxRecDepth 100000 in
theorem c_Md_readAttribute_48 : ct_Md_readAttribute 48 = ka_get 10 15 := rfl
theorem d_Md_readAttribute_48 : decode prog_12_method_18_code 48 = .ok (.getfield 109, 3) := by decide +kernel
set_option maxRecDepth 100000 in
theorem c_Md_readAttribute_51 : ct_Md_readAttribute 51 = ka_cv 105 2 10 0 0 := rfl
theorem d_Md_readAttribute_51 : decode prog_12_method_18_code 51 = .ok (.invokevirtual 129, 3) := by decide +kernel
set_option maxRecDepth 100000 in
theorem c_Md_readAttribute_54 : ct_Md_readAttribute 54 = ka_iast := rfl
theorem d_Md_readAttribute_54 : decode prog_12_method_18_code 54 = .ok (.iastore, 1) := by decide +kernel
set_option maxRecDepth 100000 in
theorem c_Md_readAttribute_55 : ct_Md_readAttribute 55 = ka_al 0 1 := rfl
theorem d_Md_readAttribute_55 : decode prog_12_method_18_code 55 = .ok (.aload_n 0, 1) := by decide +kernel
set_option maxRecDepth 100000 in
theorem c_Md_readAttribute_56 : ct_Md_readAttribute 56 = ka_al 0 1 := rfl
theorem d_Md_readAttribute_56 : decode prog_12_method_18_code 56 = .ok (.aload_n 0, 1) := by decide +kernel
set_option maxRecDepth 100000 in
theorem c_Md_readAttribute_57 : ct_Md_readAttribute 57 = ka_get 10 15 := rfl
theorem d_Md_readAttribute_57 : decode prog_12_method_18_code 57 = .ok (.getfield 109, 3) := by decide +kernel
set_option maxRecDepth 100000 in
theorem c_Md_readAttribute_60 : ct_Md_readAttribute 60 = ka_il 2 1 := rfl
theorem d_Md_readAttribute_60 : decode prog_12_method_18_code 60 = .ok (.iload_n 2, 1) := by decide +kernel
set_option maxRecDepth 100000 in
theorem c_Md_readAttribute_61 : ct_Md_readAttribute 61 = ka_ci (nI 49) 2 := rfl
theorem d_Md_readAttribute_61 : decode prog_12_method_18_code 61 = .ok (.bipush 49, 2) := by decide +kernel
set_option maxRecDepth 100000 in
theorem c_Md_readAttribute_63 : ct_Md_readAttribute 63 = ka_cv 100 3 10 0 0 := rfl
theorem d_Md_readAttribute_63 : decode prog_12_method_18_code 63 = .ok (.invokevirtual 116, 3) := by decide +kernel
set_option maxRecDepth 100000 in
theorem c_Md_readAttribute_66 : ct_Md_readAttribute 66 = ka_if (fun x => x = 0) 77 := rfl
theorem d_Md_readAttribute_66 : decode prog_12_method_18_code 66 = .ok (.ifCond .eq 11, 3) := by decide +kernel
set_option maxRecDepth 100000 in
theorem c_Md_readAttribute_69 : ct_Md_readAttribute 69 = ka_al 0 1 := rfl
theorem d_Md_readAttribute_69 : decode prog_12_method_18_code 69 = .ok (.aload_n 0, 1) := by decide +kernel
set_option maxRecDepth 100000 in
theorem c_Md_readAttribute_70 : ct_Md_readAttribute 70 = ka_get 10 15 := rfl
theorem d_Md_readAttribute_70 : decode prog_12_method_18_code 70 = .ok (.getfield 109, 3) := by decide +kernel
set_option maxRecDepth 100000 in
theorem c_Md_readAttribute_73 : ct_Md_readAttribute 73 = ka_il 2 1 := rfl
theorem d_Md_readAttribute_73 : decode prog_12_method_18_code 73 = .ok (.iload_n 2, 1) := by decide +kernel
set_option maxRecDepth 100000 in
theorem c_Md_readAttribute_74 : ct_Md_readAttribute 74 = ka_cm (fun x y => x = y) 79 := rfl
theorem d_Md_readAttribute_74 : decode prog_12_method_18_code 74 = .ok (.if_icmp .eq 5, 3) := by decide +kernel
set_option maxRecDepth 100000 in
theorem c_Md_readAttribute_77 : ct_Md_readAttribute 77 = ka_ci (nI 0) 1 := rfl
theorem d_Md_readAttribute_77 : decode prog_12_method_18_code 77 = .ok (.iconst 0, 1) := by decide +kernel
set_option maxRecDepth 100000 in
theorem c_Md_readAttribute_78 : ct_Md_readAttribute 78 = ka_rz := rfl
theorem d_Md_readAttribute_78 : decode prog_12_method_18_code 78 = .ok (.ireturn, 1) := by decide +kernel
set_option maxRecDepth 100000 in
theorem c_Md_readAttribute_79 : ct_Md_readAttribute 79 = ka_al 0 1 := rfl
theorem d_Md_readAttribute_79 : decode prog_12_method_18_code 79 = .ok (.aload_n 0, 1) := by decide +kernel
set_option maxRecDepth 100000 in
theorem c_Md_readAttribute_80 : ct_Md_readAttribute 80 = ka_get 10 36 := rfl
theorem d_Md_readAttribute_80 : decode prog_12_method_18_code 80 = .ok (.getfield 47, 3) := by decide +kernel
set_option maxRecDepth 100000 in
theorem c_Md_readAttribute_83 : ct_Md_readAttribute 83 = ka_al 0 1 := rfl
theorem d_Md_readAttribute_83 : decode prog_12_method_18_code 83 = .ok (.aload_n 0, 1) := by decide +kernel
set_option maxRecDepth 100000 in
theorem c_Md_readAttribute_84 : ct_Md_readAttribute 84 = ka_get 10 33 := rfl
theorem d_Md_readAttribute_84 : decode prog_12_method_18_code 84 = .ok (.getfield 171, 3) := by decide +kernel
set_option maxRecDepth 100000 in
theorem c_Md_readAttribute_87 : ct_Md_readAttribute 87 = ka_al 0 1 := rfl
theorem d_Md_readAttribute_87 : decode prog_12_method_18_code 87 = .ok (.aload_n 0, 1) := by decide +kernel
set_option maxRecDepth 100000 in
theorem c_Md_readAttribute_88 : ct_Md_readAttribute 88 = ka_get 10 38 := rfl
theorem d_Md_readAttribute_88 : decode prog_12_method_18_code 88 = .ok (.getfield 168, 3) := by decide +kernel
set_option maxRecDepth 100000 in
theorem c_Md_readAttribute_91 : ct_Md_readAttribute 91 = ka_iast := rfl
theorem d_Md_readAttribute_91 : decode prog_12_method_18_code 91 = .ok (.iastore, 1) := by decide +kernel
set_option maxRecDepth 100000 in
theorem c_Md_readAttribute_92 : ct_Md_readAttribute 92 = ka_al 0 1 := rfl
theorem d_Md_readAttribute_92 : decode prog_12_method_18_code 92 = .ok (.aload_n 0, 1) := by decide +kernel
set_option maxRecDepth 100000 in
theorem c_Md_readAttribute_93 : ct_Md_readAttribute 93 = ka_al 0 1 := rfl
theorem d_Md_readAttribute_93 : decode prog_12_method_18_code 93 = .ok (.aload_n 0, 1) := by decide +kernel
set_option maxRecDepth 100000 in
theorem c_Md_readAttribute_94 : ct_Md_readAttribute 94 = ka_get 10 14 := rfl
theorem d_Md_readAttribute_94 : decode prog_12_method_18_code 94 = .ok (.getfield 106, 3) := by decide +kernel
set_option maxRecDepth 100000 in
theorem c_Md_readAttribute_97 : ct_Md_readAttribute 97 = ka_il 2 1 := rfl
theorem d_Md_readAttribute_97 : decode prog_12_method_18_code 97 = .ok (.iload_n 2, 1) := by decide +kernel
set_option maxRecDepth 100000 in
theorem c_Md_readAttribute_98 : ct_Md_readAttribute 98 = ka_cv 112 2 10 0 0 := rfl
theorem d_Md_readAttribute_98 : decode prog_12_method_18_code 98 = .ok (.invokevirtual 174, 3) := by decide +kernel
set_option maxRecDepth 100000 in
theorem c_Md_readAttribute_101 : ct_Md_readAttribute 101 = ka_if (fun x => ¬ x = 0) 106 := rfl
theorem d_Md_readAttribute_101 : decode prog_12_method_18_code 101 = .ok (.ifCond .ne 5, 3) := by decide +kernel
set_option maxRecDepth 100000 in
theorem c_Md_readAttribute_104 : ct_Md_readAttribute 104 = ka_ci (nI 0) 1 := rfl
theorem d_Md_readAttribute_104 : decode prog_12_method_18_code 104 = .ok (.iconst 0, 1) := by decide +kernel
set_option maxRecDepth 100000 in
theorem c_Md_readAttribute_105 : ct_Md_readAttribute 105 = ka_rz := rfl
theorem d_Md_readAttribute_105 : decode prog_12_method_18_code 105 = .ok (.ireturn, 1) := by decide +kernel
set_option maxRecDepth 100000 in
theorem c_Md_readAttribute_106 : ct_Md_readAttribute 106 = ka_al 0 1 := rfl
theorem d_Md_readAttribute_106 : decode prog_12_method_18_code 106 = .ok (.aload_n 0, 1) := by decide +kernel
set_option maxRecDepth 100000 in
theorem c_Md_readAttribute_107 : ct_Md_readAttribute 107 = ka_get 10 37 := rfl
theorem d_Md_readAttribute_107 : decode prog_12_method_18_code 107 = .ok (.getfield 50, 3) := by decide +kernel
set_option maxRecDepth 100000 in
theorem c_Md_readAttribute_110 : ct_Md_readAttribute 110 = ka_al 0 1 := rfl
theorem d_Md_readAttribute_110 : decode prog_12_method_18_code 110 = .ok (.aload_n 0, 1) := by decide +kernel
set_option maxRecDepth 100000 in
theorem c_Md_readAttribute_111 : ct_Md_readAttribute 111 = ka_get 10 33 := rfl
theorem d_Md_readAttribute_111 : decode prog_12_method_18_code 111 = .ok (.getfield 171, 3) := by decide +kernel
set_option maxRecDepth 100000 in
theorem c_Md_readAttribute_114 : ct_Md_readAttribute 114 = ka_al 0 1 := rfl
theorem d_Md_readAttribute_114 : decode prog_12_method_18_code 114 = .ok (.aload_n 0, 1) := by decide +kernel
set_option maxRecDepth 100000 in
theorem c_Md_readAttribute_115 : ct_Md_readAttribute 115 = ka_get 10 38 := rfl
theorem d_Md_readAttribute_115 : decode prog_12_method_18_code 115 = .ok (.getfield 168, 3) := by decide +kernel
set_option maxRecDepth 100000 in
theorem c_Md_readAttribute_118 : ct_Md_readAttribute 118 = ka_al 0 1 := rfl
theorem d_Md_readAttribute_118 : decode prog_12_method_18_code 118 = .ok (.aload_n 0, 1) := by decide +kernel
set_option maxRecDepth 100000 in
theorem c_Md_readAttribute_119 : ct_Md_readAttribute 119 = ka_get 10 36 := rfl
theorem d_Md_readAttribute_119 : decode prog_12_method_18_code 119 = .ok (.getfield 47, 3) := by decide +kernel
set_option maxRecDepth 100000 in
theorem c_Md_readAttribute_122 : ct_Md_readAttribute 122 = ka_al 0 1 := rfl
theorem d_Md_readAttribute_122 : decode prog_12_method_18_code 122 = .ok (.aload_n 0, 1) := by decide +kernel
set_option maxRecDepth 100000 in
theorem c_Md_readAttribute_123 : ct_Md_readAttribute 123 = ka_get 10 33 := rfl
theorem d_Md_readAttribute_123 : decode prog_12_method_18_code 123 = .ok (.getfield 171, 3) := by decide +kernel
set_option maxRecDepth 100000 in
theorem c_Md_readAttribute_126 : ct_Md_readAttribute 126 = ka_iald := rfl
theorem d_Md_readAttribute_126 : decode prog_12_method_18_code 126 = .ok (.iaload, 1) := by decide +kernel
set_option maxRecDepth 100000 in
theorem c_Md_readAttribute_127 : ct_Md_readAttribute 127 = ka_ii (fun x y => x - y) := rfl
theorem d_Md_readAttribute_127 : decode prog_12_method_18_code 127 = .ok (.isub, 1) := by decide +kernel
set_option maxRecDepth 100000 in
theorem c_Md_readAttribute_128 : ct_Md_readAttribute 128 = ka_iast := rfl
theorem d_Md_readAttribute_128 : decode prog_12_method_18_code 128 = .ok (.iastore, 1) := by decide +kernel
set_option maxRecDepth 100000 in
theorem c_Md_readAttribute_129 : ct_Md_readAttribute 129 = ka_al 0 1 := rfl
theorem d_Md_readAttribute_129 : decode prog_12_method_18_code 129 = .ok (.aload_n 0, 1) := by decide +kernel
set_option maxRecDepth 100000 in
theorem c_Md_readAttribute_130 : ct_Md_readAttribute 130 = ka_dup := rfl
theorem d_Md_readAttribute_130 : decode prog_12_method_18_code 130 = .ok (.dup, 1) := by decide +kernel
set_option maxRecDepth 100000 in
theorem c_Md_readAttribute_131 : ct_Md_readAttribute 131 = ka_get 10 33 := rfl
theorem d_Md_readAttribute_131 : decode prog_12_method_18_code 131 = .ok (.getfield 171, 3) := by decide +kernel
set_option maxRecDepth 100000 in
theorem c_Md_readAttribute_134 : ct_Md_readAttribute 134 = ka_ci (nI 1) 1 := rfl
theorem d_Md_readAttribute_134 : decode prog_12_method_18_code 134 = .ok (.iconst 1, 1) := by decide +kernel
set_option maxRecDepth 100000 in
theorem c_Md_readAttribute_135 : ct_Md_readAttribute 135 = ka_ii (fun x y => x + y) := rfl
theorem d_Md_readAttribute_135 : decode prog_12_method_18_code 135 = .ok (.iadd, 1) := by decide +kernel
set_option maxRecDepth 100000 in
theorem c_Md_readAttribute_136 : ct_Md_readAttribute 136 = ka_put 10 33 .int := rfl
theorem d_Md_readAttribute_136 : decode prog_12_method_18_code 136 = .ok (.putfield 171, 3) := by decide +kernel
set_option maxRecDepth 100000 in
theorem c_Md_readAttribute_139 : ct_Md_readAttribute 139 = ka_ci (nI 1) 1 := rfl
theorem d_Md_readAttribute_139 : decode prog_12_method_18_code 139 = .ok (.iconst 1, 1) := by decide +kernel
set_option maxRecDepth 100000 in
theorem c_Md_readAttribute_140 : ct_Md_readAttribute 140 = ka_rz := rfl
theorem d_Md_readAttribute_140 : decode prog_12_method_18_code 140 = .ok (.ireturn, 1) := by decide +kernel
set_option maxRecDepth 100000 in
set_option maxHeartbeats 4000000 in
theorem s_Md_readAttribute_60 : ∀ pc, pc < 60 → kc_Sim kt kw_A kw_N kt_cl kt_En "DirectoryDeskModel" prog_12_method_18_code 3 (some .boolean) "readAttribute" none pc (ct_Md_readAttribute pc) := by
  let P : Nat → Prop := fun pc => kc_Sim kt kw_A kw_N kt_cl kt_En "DirectoryDeskModel" prog_12_method_18_code 3 (some .boolean) "readAttribute" none pc (ct_Md_readAttribute pc)
  exact kc_case (P := P) (kc_se rfl sm_no) (
  kc_case (P := P) (kc_se rfl sm_no) (
  kc_case (P := P) (kc_se c_Md_readAttribute_57 (sm_get (ci := 10) (C := "DirectoryDeskModel") (F := kF_Md) rfl kin_Md (Nat.le_of_ble_eq_true rfl) d_Md_readAttribute_57 (kw3 198 rfl rfl))) (
  kc_case (P := P) (kc_se c_Md_readAttribute_56 (sm_aload_n d_Md_readAttribute_56 rfl)) (
  kc_case (P := P) (kc_se c_Md_readAttribute_55 (sm_aload_n d_Md_readAttribute_55 rfl)) (
  kc_case (P := P) (kc_se c_Md_readAttribute_54 (sm_iast d_Md_readAttribute_54)) (
  kc_case (P := P) (kc_se rfl sm_no) (
  kc_case (P := P) (kc_se rfl sm_no) (
  kc_case (P := P) (kc_se c_Md_readAttribute_51 (sm_cv (j := 105) rfl rfl kw_o kw_g wc_Md_typeIn (Nat.le_of_ble_eq_true rfl) hd_Md_typeIn (ci := 10) (F := kF_Md) (N := 52) rfl (kw4 160 rfl rfl) wi_Md_typeIn ws_Md_typeIn wn_Md_typeIn d_Md_readAttribute_51)) (
  kc_case (P := P) (kc_se rfl sm_no) (
  kc_case (P := P) (kc_se rfl sm_no) (
  kc_case (P := P) (kc_se c_Md_readAttribute_48 (sm_get (ci := 10) (C := "DirectoryDeskModel") (F := kF_Md) rfl kin_Md (Nat.le_of_ble_eq_true rfl) d_Md_readAttribute_48 (kw3 198 rfl rfl))) (
  kc_case (P := P) (kc_se c_Md_readAttribute_47 (sm_aload_n d_Md_readAttribute_47 rfl)) (
  kc_case (P := P) (kc_se rfl sm_no) (
  kc_case (P := P) (kc_se rfl sm_no) (
  kc_case (P := P) (kc_se c_Md_readAttribute_44 (sm_get (ci := 10) (C := "DirectoryDeskModel") (F := kF_Md) rfl kin_Md (Nat.le_of_ble_eq_true rfl) d_Md_readAttribute_44 (kw3 197 rfl rfl))) (
  kc_case (P := P) (kc_se c_Md_readAttribute_43 (sm_aload_n d_Md_readAttribute_43 rfl)) (
  kc_case (P := P) (kc_se c_Md_readAttribute_42 (sm_aload_n d_Md_readAttribute_42 rfl)) (
  kc_case (P := P) (kc_se rfl sm_no) (
  kc_case (P := P) (kc_se rfl sm_no) (
  kc_case (P := P) (kc_se c_Md_readAttribute_39 (sm_get (ci := 10) (C := "DirectoryDeskModel") (F := kF_Md) rfl kin_Md (Nat.le_of_ble_eq_true rfl) d_Md_readAttribute_39 (kw3 216 rfl rfl))) (
  kc_case (P := P) (kc_se c_Md_readAttribute_38 (sm_aload_n d_Md_readAttribute_38 rfl)) (
  kc_case (P := P) (kc_se rfl sm_no) (
  kc_case (P := P) (kc_se rfl sm_no) (
  kc_case (P := P) (kc_se c_Md_readAttribute_35 (sm_get (ci := 10) (C := "DirectoryDeskModel") (F := kF_Md) rfl kin_Md (Nat.le_of_ble_eq_true rfl) d_Md_readAttribute_35 (kw3 218 rfl rfl))) (
  kc_case (P := P) (kc_se c_Md_readAttribute_34 (sm_aload_n d_Md_readAttribute_34 rfl)) (
  kc_case (P := P) (kc_se c_Md_readAttribute_33 (sm_rz d_Md_readAttribute_33 rfl)) (
  kc_case (P := P) (kc_se c_Md_readAttribute_32 (sm_iconst d_Md_readAttribute_32 (by decide))) (
  kc_case (P := P) (kc_se rfl sm_no) (
  kc_case (P := P) (kc_se rfl sm_no) (
  kc_case (P := P) (kc_se c_Md_readAttribute_29 (sm_if_ne d_Md_readAttribute_29 (by decide))) (
  kc_case (P := P) (kc_se rfl sm_no) (
  kc_case (P := P) (kc_se rfl sm_no) (
  kc_case (P := P) (kc_se c_Md_readAttribute_26 (sm_cv (j := 100) rfl rfl kw_o kw_g wc_Md_tagged (Nat.le_of_ble_eq_true rfl) hd_Md_tagged (ci := 10) (F := kF_Md) (N := 52) rfl (kw4 117 rfl rfl) wi_Md_tagged ws_Md_tagged wn_Md_tagged d_Md_readAttribute_26)) (
  kc_case (P := P) (kc_se c_Md_readAttribute_25 (sm_iconst d_Md_readAttribute_25 (by decide))) (
  kc_case (P := P) (kc_se c_Md_readAttribute_24 (sm_iload_n d_Md_readAttribute_24 rfl)) (
  kc_case (P := P) (kc_se rfl sm_no) (
  kc_case (P := P) (kc_se rfl sm_no) (
  kc_case (P := P) (kc_se c_Md_readAttribute_21 (sm_get (ci := 10) (C := "DirectoryDeskModel") (F := kF_Md) rfl kin_Md (Nat.le_of_ble_eq_true rfl) d_Md_readAttribute_21 (kw3 197 rfl rfl))) (
  kc_case (P := P) (kc_se c_Md_readAttribute_20 (sm_aload_n d_Md_readAttribute_20 rfl)) (
  kc_case (P := P) (kc_se c_Md_readAttribute_19 (sm_aload_n d_Md_readAttribute_19 rfl)) (
  kc_case (P := P) (kc_se rfl sm_no) (
  kc_case (P := P) (kc_se rfl sm_no) (
  kc_case (P := P) (kc_se c_Md_readAttribute_16 (sm_cm_ne d_Md_readAttribute_16 (by decide))) (
  kc_case (P := P) (kc_se c_Md_readAttribute_15 (sm_iload_n d_Md_readAttribute_15 rfl)) (
  kc_case (P := P) (kc_se rfl sm_no) (
  kc_case (P := P) (kc_se rfl sm_no) (
  kc_case (P := P) (kc_se c_Md_readAttribute_12 (sm_get (ci := 10) (C := "DirectoryDeskModel") (F := kF_Md) rfl kin_Md (Nat.le_of_ble_eq_true rfl) d_Md_readAttribute_12 (kw3 198 rfl rfl))) (
  kc_case (P := P) (kc_se c_Md_readAttribute_11 (sm_aload_n d_Md_readAttribute_11 rfl)) (
  kc_case (P := P) (kc_se rfl sm_no) (
  kc_case (P := P) (kc_se rfl sm_no) (
  kc_case (P := P) (kc_se c_Md_readAttribute_8 (sm_if_eq d_Md_readAttribute_8 (by decide))) (
  kc_case (P := P) (kc_se rfl sm_no) (
  kc_case (P := P) (kc_se rfl sm_no) (
  kc_case (P := P) (kc_se c_Md_readAttribute_5 (sm_cv (j := 100) rfl rfl kw_o kw_g wc_Md_tagged (Nat.le_of_ble_eq_true rfl) hd_Md_tagged (ci := 10) (F := kF_Md) (N := 52) rfl (kw4 117 rfl rfl) wi_Md_tagged ws_Md_tagged wn_Md_tagged d_Md_readAttribute_5)) (
  kc_case (P := P) (kc_se rfl sm_no) (
  kc_case (P := P) (kc_se c_Md_readAttribute_3 (sm_bipush d_Md_readAttribute_3 (by decide))) (
  kc_case (P := P) (kc_se c_Md_readAttribute_2 (sm_iload_n d_Md_readAttribute_2 rfl)) (
  kc_case (P := P) (kc_se c_Md_readAttribute_1 (sm_iload_n d_Md_readAttribute_1 rfl)) (
  kc_case (P := P) (kc_se c_Md_readAttribute_0 (sm_aload_n d_Md_readAttribute_0 rfl)) (
  kc_case0))))))))))))))))))))))))))))))))))))))))))))))))))))))))))))
set_option maxRecDepth 100000 in
set_option maxHeartbeats 4000000 in
theorem s_Md_readAttribute_120 : ∀ pc, pc < 120 → kc_Sim kt kw_A kw_N kt_cl kt_En "DirectoryDeskModel" prog_12_method_18_code 3 (some .boolean) "readAttribute" none pc (ct_Md_readAttribute pc) := by
  let P : Nat → Prop := fun pc => kc_Sim kt kw_A kw_N kt_cl kt_En "DirectoryDeskModel" prog_12_method_18_code 3 (some .boolean) "readAttribute" none pc (ct_Md_readAttribute pc)
  exact kc_case (P := P) (kc_se c_Md_readAttribute_119 (sm_get (ci := 10) (C := "DirectoryDeskModel") (F := kF_Md) rfl kin_Md (Nat.le_of_ble_eq_true rfl) d_Md_readAttribute_119 (kw3 219 rfl rfl))) (
  kc_case (P := P) (kc_se c_Md_readAttribute_118 (sm_aload_n d_Md_readAttribute_118 rfl)) (
  kc_case (P := P) (kc_se rfl sm_no) (
  kc_case (P := P) (kc_se rfl sm_no) (
  kc_case (P := P) (kc_se c_Md_readAttribute_115 (sm_get (ci := 10) (C := "DirectoryDeskModel") (F := kF_Md) rfl kin_Md (Nat.le_of_ble_eq_true rfl) d_Md_readAttribute_115 (kw3 221 rfl rfl))) (
  kc_case (P := P) (kc_se c_Md_readAttribute_114 (sm_aload_n d_Md_readAttribute_114 rfl)) (
  kc_case (P := P) (kc_se rfl sm_no) (
  kc_case (P := P) (kc_se rfl sm_no) (
  kc_case (P := P) (kc_se c_Md_readAttribute_111 (sm_get (ci := 10) (C := "DirectoryDeskModel") (F := kF_Md) rfl kin_Md (Nat.le_of_ble_eq_true rfl) d_Md_readAttribute_111 (kw3 216 rfl rfl))) (
  kc_case (P := P) (kc_se c_Md_readAttribute_110 (sm_aload_n d_Md_readAttribute_110 rfl)) (
  kc_case (P := P) (kc_se rfl sm_no) (
  kc_case (P := P) (kc_se rfl sm_no) (
  kc_case (P := P) (kc_se c_Md_readAttribute_107 (sm_get (ci := 10) (C := "DirectoryDeskModel") (F := kF_Md) rfl kin_Md (Nat.le_of_ble_eq_true rfl) d_Md_readAttribute_107 (kw3 220 rfl rfl))) (
  kc_case (P := P) (kc_se c_Md_readAttribute_106 (sm_aload_n d_Md_readAttribute_106 rfl)) (
  kc_case (P := P) (kc_se c_Md_readAttribute_105 (sm_rz d_Md_readAttribute_105 rfl)) (
  kc_case (P := P) (kc_se c_Md_readAttribute_104 (sm_iconst d_Md_readAttribute_104 (by decide))) (
  kc_case (P := P) (kc_se rfl sm_no) (
  kc_case (P := P) (kc_se rfl sm_no) (
  kc_case (P := P) (kc_se c_Md_readAttribute_101 (sm_if_ne d_Md_readAttribute_101 (by decide))) (
  kc_case (P := P) (kc_se rfl sm_no) (
  kc_case (P := P) (kc_se rfl sm_no) (
  kc_case (P := P) (kc_se c_Md_readAttribute_98 (sm_cv (j := 112) rfl rfl kw_o kw_g wc_Md_readValues (Nat.le_of_ble_eq_true rfl) hd_Md_readValues (ci := 10) (F := kF_Md) (N := 52) rfl (kw4 192 rfl rfl) wi_Md_readValues ws_Md_readValues wn_Md_readValues d_Md_readAttribute_98)) (
  kc_case (P := P) (kc_se c_Md_readAttribute_97 (sm_iload_n d_Md_readAttribute_97 rfl)) (
  kc_case (P := P) (kc_se rfl sm_no) (
  kc_case (P := P) (kc_se rfl sm_no) (
  kc_case (P := P) (kc_se c_Md_readAttribute_94 (sm_get (ci := 10) (C := "DirectoryDeskModel") (F := kF_Md) rfl kin_Md (Nat.le_of_ble_eq_true rfl) d_Md_readAttribute_94 (kw3 197 rfl rfl))) (
  kc_case (P := P) (kc_se c_Md_readAttribute_93 (sm_aload_n d_Md_readAttribute_93 rfl)) (
  kc_case (P := P) (kc_se c_Md_readAttribute_92 (sm_aload_n d_Md_readAttribute_92 rfl)) (
  kc_case (P := P) (kc_se c_Md_readAttribute_91 (sm_iast d_Md_readAttribute_91)) (
  kc_case (P := P) (kc_se rfl sm_no) (
  kc_case (P := P) (kc_se rfl sm_no) (
  kc_case (P := P) (kc_se c_Md_readAttribute_88 (sm_get (ci := 10) (C := "DirectoryDeskModel") (F := kF_Md) rfl kin_Md (Nat.le_of_ble_eq_true rfl) d_Md_readAttribute_88 (kw3 221 rfl rfl))) (
  kc_case (P := P) (kc_se c_Md_readAttribute_87 (sm_aload_n d_Md_readAttribute_87 rfl)) (
  kc_case (P := P) (kc_se rfl sm_no) (
  kc_case (P := P) (kc_se rfl sm_no) (
  kc_case (P := P) (kc_se c_Md_readAttribute_84 (sm_get (ci := 10) (C := "DirectoryDeskModel") (F := kF_Md) rfl kin_Md (Nat.le_of_ble_eq_true rfl) d_Md_readAttribute_84 (kw3 216 rfl rfl))) (
  kc_case (P := P) (kc_se c_Md_readAttribute_83 (sm_aload_n d_Md_readAttribute_83 rfl)) (
  kc_case (P := P) (kc_se rfl sm_no) (
  kc_case (P := P) (kc_se rfl sm_no) (
  kc_case (P := P) (kc_se c_Md_readAttribute_80 (sm_get (ci := 10) (C := "DirectoryDeskModel") (F := kF_Md) rfl kin_Md (Nat.le_of_ble_eq_true rfl) d_Md_readAttribute_80 (kw3 219 rfl rfl))) (
  kc_case (P := P) (kc_se c_Md_readAttribute_79 (sm_aload_n d_Md_readAttribute_79 rfl)) (
  kc_case (P := P) (kc_se c_Md_readAttribute_78 (sm_rz d_Md_readAttribute_78 rfl)) (
  kc_case (P := P) (kc_se c_Md_readAttribute_77 (sm_iconst d_Md_readAttribute_77 (by decide))) (
  kc_case (P := P) (kc_se rfl sm_no) (
  kc_case (P := P) (kc_se rfl sm_no) (
  kc_case (P := P) (kc_se c_Md_readAttribute_74 (sm_cm_eq d_Md_readAttribute_74 (by decide))) (
  kc_case (P := P) (kc_se c_Md_readAttribute_73 (sm_iload_n d_Md_readAttribute_73 rfl)) (
  kc_case (P := P) (kc_se rfl sm_no) (
  kc_case (P := P) (kc_se rfl sm_no) (
  kc_case (P := P) (kc_se c_Md_readAttribute_70 (sm_get (ci := 10) (C := "DirectoryDeskModel") (F := kF_Md) rfl kin_Md (Nat.le_of_ble_eq_true rfl) d_Md_readAttribute_70 (kw3 198 rfl rfl))) (
  kc_case (P := P) (kc_se c_Md_readAttribute_69 (sm_aload_n d_Md_readAttribute_69 rfl)) (
  kc_case (P := P) (kc_se rfl sm_no) (
  kc_case (P := P) (kc_se rfl sm_no) (
  kc_case (P := P) (kc_se c_Md_readAttribute_66 (sm_if_eq d_Md_readAttribute_66 (by decide))) (
  kc_case (P := P) (kc_se rfl sm_no) (
  kc_case (P := P) (kc_se rfl sm_no) (
  kc_case (P := P) (kc_se c_Md_readAttribute_63 (sm_cv (j := 100) rfl rfl kw_o kw_g wc_Md_tagged (Nat.le_of_ble_eq_true rfl) hd_Md_tagged (ci := 10) (F := kF_Md) (N := 52) rfl (kw4 117 rfl rfl) wi_Md_tagged ws_Md_tagged wn_Md_tagged d_Md_readAttribute_63)) (
  kc_case (P := P) (kc_se rfl sm_no) (
  kc_case (P := P) (kc_se c_Md_readAttribute_61 (sm_bipush d_Md_readAttribute_61 (by decide))) (
  kc_case (P := P) (kc_se c_Md_readAttribute_60 (sm_iload_n d_Md_readAttribute_60 rfl)) (
  s_Md_readAttribute_60))))))))))))))))))))))))))))))))))))))))))))))))))))))))))))
set_option maxRecDepth 100000 in
set_option maxHeartbeats 4000000 in
theorem s_Md_readAttribute_141 : ∀ pc, pc < 141 → kc_Sim kt kw_A kw_N kt_cl kt_En "DirectoryDeskModel" prog_12_method_18_code 3 (some .boolean) "readAttribute" none pc (ct_Md_readAttribute pc) := by
  let P : Nat → Prop := fun pc => kc_Sim kt kw_A kw_N kt_cl kt_En "DirectoryDeskModel" prog_12_method_18_code 3 (some .boolean) "readAttribute" none pc (ct_Md_readAttribute pc)
  exact kc_case (P := P) (kc_se c_Md_readAttribute_140 (sm_rz d_Md_readAttribute_140 rfl)) (
  kc_case (P := P) (kc_se c_Md_readAttribute_139 (sm_iconst d_Md_readAttribute_139 (by decide))) (
  kc_case (P := P) (kc_se rfl sm_no) (
  kc_case (P := P) (kc_se rfl sm_no) (
  kc_case (P := P) (kc_se c_Md_readAttribute_136 (sm_put (ci := 10) (C := "DirectoryDeskModel") (F := kF_Md) rfl kin_Md kty_Md ktk_Md knm_Md (Nat.le_of_ble_eq_true rfl) (by decide +kernel) d_Md_readAttribute_136 (kw3 216 rfl rfl) rfl)) (
  kc_case (P := P) (kc_se c_Md_readAttribute_135 (sm_iadd d_Md_readAttribute_135)) (
  kc_case (P := P) (kc_se c_Md_readAttribute_134 (sm_iconst d_Md_readAttribute_134 (by decide))) (
  kc_case (P := P) (kc_se rfl sm_no) (
  kc_case (P := P) (kc_se rfl sm_no) (
  kc_case (P := P) (kc_se c_Md_readAttribute_131 (sm_get (ci := 10) (C := "DirectoryDeskModel") (F := kF_Md) rfl kin_Md (Nat.le_of_ble_eq_true rfl) d_Md_readAttribute_131 (kw3 216 rfl rfl))) (
  kc_case (P := P) (kc_se c_Md_readAttribute_130 (sm_dup d_Md_readAttribute_130)) (
  kc_case (P := P) (kc_se c_Md_readAttribute_129 (sm_aload_n d_Md_readAttribute_129 rfl)) (
  kc_case (P := P) (kc_se c_Md_readAttribute_128 (sm_iast d_Md_readAttribute_128)) (
  kc_case (P := P) (kc_se c_Md_readAttribute_127 (sm_isub d_Md_readAttribute_127)) (
  kc_case (P := P) (kc_se c_Md_readAttribute_126 (sm_iald d_Md_readAttribute_126)) (
  kc_case (P := P) (kc_se rfl sm_no) (
  kc_case (P := P) (kc_se rfl sm_no) (
  kc_case (P := P) (kc_se c_Md_readAttribute_123 (sm_get (ci := 10) (C := "DirectoryDeskModel") (F := kF_Md) rfl kin_Md (Nat.le_of_ble_eq_true rfl) d_Md_readAttribute_123 (kw3 216 rfl rfl))) (
  kc_case (P := P) (kc_se c_Md_readAttribute_122 (sm_aload_n d_Md_readAttribute_122 rfl)) (
  kc_case (P := P) (kc_se rfl sm_no) (
  kc_case (P := P) (kc_se rfl sm_no) (
  s_Md_readAttribute_120)))))))))))))))))))))
set_option maxRecDepth 100000 in
theorem ka_nth_no_Md_readAttribute (pc : Nat) (h : 141 ≤ pc) : ct_Md_readAttribute pc = ka_no := ka_nth_ge _ pc (Nat.le_trans (Nat.le_of_eq (by rfl)) h)
theorem s_Md_readAttribute (pc : Nat) : kc_Sim kt kw_A kw_N kt_cl kt_En "DirectoryDeskModel" prog_12_method_18_code 3 (some .boolean) "readAttribute" none pc (ct_Md_readAttribute pc) := (Nat.lt_or_ge pc 141).elim (s_Md_readAttribute_141 pc) (fun h => kc_se (ka_nth_no_Md_readAttribute pc h) sm_no)
def cl_Md_readPairs_0 : List kc_A := [ka_al 0 1, ka_al 0 1, ka_get 10 18, ka_no, ka_no, ka_al 0 1, ka_get 10 19, ka_no, ka_no, ka_ci (nI 4) 1, ka_cv 100 3 10 0 0, ka_no, ka_no, ka_if (fun x => ¬ x = 0) 18, ka_no, ka_no, ka_ci (nI 0) 1, ka_rz, ka_al 0 1, ka_al 0 1, ka_get 10 14, ka_no, ka_no, ka_put 10 23 .int, ka_no, ka_no, ka_al 0 1, ka_al 0 1, ka_get 10 15, ka_no, ka_no, ka_put 10 24 .int, ka_no, ka_no, ka_al 0 1, ka_al 0 1, ka_get 10 15, ka_no, ka_no, ka_al 0 1, ka_get 10 19, ka_no, ka_no, ka_ci (nI 48) 2, ka_no, ka_cv 100 3 10 0 0, ka_no, ka_no, ka_if (fun x => x = 0) 62, ka_no, ka_no, ka_al 0 1, ka_get 10 15, ka_no, ka_no, ka_al 0 1, ka_get 10 19, ka_no, ka_no, ka_cm (fun x y => x = y) 64]
def cl_Md_readPairs_1 : List kc_A := [ka_no, ka_no, ka_ci (nI 0) 1, ka_rz, ka_al 0 1, ka_get 10 14, ka_no, ka_no, ka_is 2 1, ka_il 2 1, ka_al 0 1, ka_get 10 19, ka_no, ka_no, ka_cm (fun x y => y ≤ x) 170, ka_no, ka_no, ka_al 0 1, ka_get 10 33, ka_no, ka_no, ka_ci (nI 12) 2, ka_no, ka_cm (fun x y => x = y) 100, ka_no, ka_no, ka_al 0 1, ka_il 2 1, ka_al 0 1, ka_get 10 19, ka_no, ka_no, ka_ci (nI 48) 2, ka_no, ka_cv 100 3 10 0 0, ka_no, ka_no, ka_if (fun x => ¬ x = 0) 102, ka_no, ka_no, ka_ci (nI 0) 1, ka_rz, ka_al 0 1, ka_get 10 15, ka_no, ka_no, ka_is 3 1, ka_il 2 1, ka_is 4 2, ka_no, ka_il 1 1, ka_if (fun x => x = 0) 153, ka_no, ka_no, ka_al 0 1, ka_al 0 1, ka_get 10 14, ka_no, ka_no, ka_il 3 1]
def cl_Md_readPairs_2 : List kc_A := [ka_ci (nI 2) 1, ka_cv 103 3 10 0 0, ka_no, ka_no, ka_if (fun x => ¬ x = 0) 129, ka_no, ka_no, ka_ci (nI 0) 1, ka_rz, ka_al 0 1, ka_get 10 34, ka_no, ka_no, ka_al 0 1, ka_get 10 33, ka_no, ka_no, ka_al 0 1, ka_get 10 2, ka_no, ka_no, ka_al 0 1, ka_get 10 14, ka_no, ka_no, ka_iald, ka_iast, ka_al 0 1, ka_get 10 15, ka_no, ka_no, ka_is 4 2, ka_no, ka_al 0 1, ka_il 4 2, ka_no, ka_il 3 1, ka_cv 113 2 10 0 0, ka_no, ka_no, ka_if (fun x => ¬ x = 0) 165, ka_no, ka_no, ka_ci (nI 0) 1, ka_rz, ka_il 3 1, ka_is 2 1, ka_goto 69, ka_no, ka_no, ka_ci (nI 1) 1, ka_rz]
def ct_Md_readPairs : Nat → kc_A := fun pc => ka_nth (cl_Md_readPairs_0 ++ (cl_Md_readPairs_1 ++ (cl_Md_readPairs_2))) pc
set_option maxRecDepth 100000 in
theorem c_Md_readPairs_0 : ct_Md_readPairs 0 = ka_al 0 1 := rfl
theorem d_Md_readPairs_0 : decode prog_12_method_19_code 0 = .ok (.aload_n 0, 1) := by decide +kernel
set_option maxRecDepth 100000 in
theorem c_Md_readPairs_1 : ct_Md_readPairs 1 = ka_al 0 1 := rfl
theorem d_Md_readPairs_1 : decode prog_12_method_19_code 1 = .ok (.aload_n 0, 1) := by decide +kernel
set_option maxRecDepth 100000 in
theorem c_Md_readPairs_2 : ct_Md_readPairs 2 = ka_get 10 18 := rfl
theorem d_Md_readPairs_2 : decode prog_12_method_19_code 2 = .ok (.getfield 140, 3) := by decide +kernel
set_option maxRecDepth 100000 in
theorem c_Md_readPairs_5 : ct_Md_readPairs 5 = ka_al 0 1 := rfl
theorem d_Md_readPairs_5 : decode prog_12_method_19_code 5 = .ok (.aload_n 0, 1) := by decide +kernel
set_option maxRecDepth 100000 in
theorem c_Md_readPairs_6 : ct_Md_readPairs 6 = ka_get 10 19 := rfl
theorem d_Md_readPairs_6 : decode prog_12_method_19_code 6 = .ok (.getfield 143, 3) := by decide +kernel
set_option maxRecDepth 100000 in
theorem c_Md_readPairs_9 : ct_Md_readPairs 9 = ka_ci (nI 4) 1 := rfl
theorem d_Md_readPairs_9 : decode prog_12_method_19_code 9 = .ok (.iconst 4, 1) := by decide +kernel
set_option maxRecDepth 100000 in
theorem c_Md_readPairs_10 : ct_Md_readPairs 10 = ka_cv 100 3 10 0 0 := rfl
theorem d_Md_readPairs_10 : decode prog_12_method_19_code 10 = .ok (.invokevirtual 116, 3) := by decide +kernel
set_option maxRecDepth 100000 in
theorem c_Md_readPairs_13 : ct_Md_readPairs 13 = ka_if (fun x => ¬ x = 0) 18 := rfl
theorem d_Md_readPairs_13 : decode prog_12_method_19_code 13 = .ok (.ifCond .ne 5, 3) := by decide +kernel
set_option maxRecDepth 100000 in
theorem c_Md_readPairs_16 : ct_Md_readPairs 16 = ka_ci (nI 0) 1 := rfl
theorem d_Md_readPairs_16 : decode prog_12_method_19_code 16 = .ok (.iconst 0, 1) := by decide +kernel
set_option maxRecDepth 100000 in
theorem c_Md_readPairs_17 : ct_Md_readPairs 17 = ka_rz := rfl
theorem d_Md_readPairs_17 : decode prog_12_method_19_code 17 = .ok (.ireturn, 1) := by decide +kernel
set_option maxRecDepth 100000 in
theorem c_Md_readPairs_18 : ct_Md_readPairs 18 = ka_al 0 1 := rfl
theorem d_Md_readPairs_18 : decode prog_12_method_19_code 18 = .ok (.aload_n 0, 1) := by decide +kernel
set_option maxRecDepth 100000 in
theorem c_Md_readPairs_19 : ct_Md_readPairs 19 = ka_al 0 1 := rfl
theorem d_Md_readPairs_19 : decode prog_12_method_19_code 19 = .ok (.aload_n 0, 1) := by decide +kernel
set_option maxRecDepth 100000 in
theorem c_Md_readPairs_20 : ct_Md_readPairs 20 = ka_get 10 14 := rfl
theorem d_Md_readPairs_20 : decode prog_12_method_19_code 20 = .ok (.getfield 106, 3) := by decide +kernel
set_option maxRecDepth 100000 in
theorem c_Md_readPairs_23 : ct_Md_readPairs 23 = ka_put 10 23 .int := rfl
theorem d_Md_readPairs_23 : decode prog_12_method_19_code 23 = .ok (.putfield 156, 3) := by decide +kernel
set_option maxRecDepth 100000 in
theorem c_Md_readPairs_26 : ct_Md_readPairs 26 = ka_al 0 1 := rfl
theorem d_Md_readPairs_26 : decode prog_12_method_19_code 26 = .ok (.aload_n 0, 1) := by decide +kernel
set_option maxRecDepth 100000 in
theorem c_Md_readPairs_27 : ct_Md_readPairs 27 = ka_al 0 1 := rfl
theorem d_Md_readPairs_27 : decode prog_12_method_19_code 27 = .ok (.aload_n 0, 1) := by decide +kernel
set_option maxRecDepth 100000 in
theorem c_Md_readPairs_28 : ct_Md_readPairs 28 = ka_get 10 15 := rfl
theorem d_Md_readPairs_28 : decode prog_12_method_19_code 28 = .ok (.getfield 109, 3) := by decide +kernel
set_option maxRecDepth 100000 in
theorem c_Md_readPairs_31 : ct_Md_readPairs 31 = ka_put 10 24 .int := rfl
theorem d_Md_readPairs_31 : decode prog_12_method_19_code 31 = .ok (.putfield 159, 3) := by decide +kernel
set_option maxRecDepth 100000 in
theorem c_Md_readPairs_34 : ct_Md_readPairs 34 = ka_al 0 1 := rfl
theorem d_Md_readPairs_34 : decode prog_12_method_19_code 34 = .ok (.aload_n 0, 1) := by decide +kernel
set_option maxRecDepth 100000 in
theorem c_Md_readPairs_35 : ct_Md_readPairs 35 = ka_al 0 1 := rfl
theorem d_Md_readPairs_35 : decode prog_12_method_19_code 35 = .ok (.aload_n 0, 1) := by decide +kernel
set_option maxRecDepth 100000 in
theorem c_Md_readPairs_36 : ct_Md_readPairs 36 = ka_get 10 15 := rfl
theorem d_Md_readPairs_36 : decode prog_12_method_19_code 36 = .ok (.getfield 109, 3) := by decide +kernel
set_option maxRecDepth 100000 in
theorem c_Md_readPairs_39 : ct_Md_readPairs 39 = ka_al 0 1 := rfl
theorem d_Md_readPairs_39 : decode prog_12_method_19_code 39 = .ok (.aload_n 0, 1) := by decide +kernel
set_option maxRecDepth 100000 in
theorem c_Md_readPairs_40 : ct_Md_readPairs 40 = ka_get 10 19 := rfl
theorem d_Md_readPairs_40 : decode prog_12_method_19_code 40 = .ok (.getfield 143, 3) := by decide +kernel
set_option maxRecDepth 100000 in
theorem c_Md_readPairs_43 : ct_Md_readPairs 43 = ka_ci (nI 48) 2 := rfl
theorem d_Md_readPairs_43 : decode prog_12_method_19_code 43 = .ok (.bipush 48, 2) := by decide +kernel
set_option maxRecDepth 100000 in
theorem c_Md_readPairs_45 : ct_Md_readPairs 45 = ka_cv 100 3 10 0 0 := rfl
theorem d_Md_readPairs_45 : decode prog_12_method_19_code 45 = .ok (.invokevirtual 116, 3) := by decide +kernel
set_option maxRecDepth 100000 in
theorem c_Md_readPairs_48 : ct_Md_readPairs 48 = ka_if (fun x => x = 0) 62 := rfl
theorem d_Md_readPairs_48 : decode prog_12_method_19_code 48 = .ok (.ifCond .eq 14, 3) := by decide +kernel
set_option maxRecDepth 100000 in
theorem c_Md_readPairs_51 : ct_Md_readPairs 51 = ka_al 0 1 := rfl
theorem d_Md_readPairs_51 : decode prog_12_method_19_code 51 = .ok (.aload_n 0, 1) := by decide +kernel
set_option maxRecDepth 100000 in
theorem c_Md_readPairs_52 : ct_Md_readPairs 52 = ka_get 10 15 := rfl
theorem d_Md_readPairs_52 : decode prog_12_method_19_code 52 = .ok (.getfield 109, 3) := by decide +kernel
set_option maxRecDepth 100000 in
theorem c_Md_readPairs_55 : ct_Md_readPairs 55 = ka_al 0 1 := rfl
theorem d_Md_readPairs_55 : decode prog_12_method_19_code 55 = .ok (.aload_n 0, 1) := by decide +kernel
set_option maxRecDepth 100000 in
theorem c_Md_readPairs_56 : ct_Md_readPairs 56 = ka_get 10 19 := rfl
theorem d_Md_readPairs_56 : decode prog_12_method_19_code 56 = .ok (.getfield 143, 3) := by decide +kernel
set_option maxRecDepth 100000 in
theorem c_Md_readPairs_59 : ct_Md_readPairs 59 = ka_cm (fun x y => x = y) 64 := rfl
theorem d_Md_readPairs_59 : decode prog_12_method_19_code 59 = .ok (.if_icmp .eq 5, 3) := by decide +kernel
set_option maxRecDepth 100000 in
theorem c_Md_readPairs_62 : ct_Md_readPairs 62 = ka_ci (nI 0) 1 := rfl
theorem d_Md_readPairs_62 : decode prog_12_method_19_code 62 = .ok (.iconst 0, 1) := by decide +kernel
set_option maxRecDepth 100000 in
theorem c_Md_readPairs_63 : ct_Md_readPairs 63 = ka_rz := rfl
theorem d_Md_readPairs_63 : decode prog_12_method_19_code 63 = .ok (.ireturn, 1) := by decide +kernel
set_option maxRecDepth 100000 in
theorem c_Md_readPairs_64 : ct_Md_readPairs 64 = ka_al 0 1 := rfl
theorem d_Md_readPairs_64 : decode prog_12_method_19_code 64 = .ok (.aload_n 0, 1) := by decide +kernel
set_option maxRecDepth 100000 in
theorem c_Md_readPairs_65 : ct_Md_readPairs 65 = ka_get 10 14 := rfl
theorem d_Md_readPairs_65 : decode prog_12_method_19_code 65 = .ok (.getfield 106, 3) := by decide +kernel
set_option maxRecDepth 100000 in
theorem c_Md_readPairs_68 : ct_Md_readPairs 68 = ka_is 2 1 := rfl
theorem d_Md_readPairs_68 : decode prog_12_method_19_code 68 = .ok (.istore_n 2, 1) := by decide +kernel
set_option maxRecDepth 100000 in
theorem c_Md_readPairs_69 : ct_Md_readPairs 69 = ka_il 2 1 := rfl
theorem d_Md_readPairs_69 : decode prog_12_method_19_code 69 = .ok (.iload_n 2, 1) := by decide +kernel
set_option maxRecDepth 100000 in
theorem c_Md_readPairs_70 : ct_Md_readPairs 70 = ka_al 0 1 := rfl
theorem d_Md_readPairs_70 : decode prog_12_method_19_code 70 = .ok (.aload_n 0, 1) := by decide +kernel
set_option maxRecDepth 100000 in
theorem c_Md_readPairs_71 : ct_Md_readPairs 71 = ka_get 10 19 := rfl
theorem d_Md_readPairs_71 : decode prog_12_method_19_code 71 = .ok (.getfield 143, 3) := by decide +kernel
set_option maxRecDepth 100000 in
theorem c_Md_readPairs_74 : ct_Md_readPairs 74 = ka_cm (fun x y => y ≤ x) 170 := rfl
theorem d_Md_readPairs_74 : decode prog_12_method_19_code 74 = .ok (.if_icmp .ge 96, 3) := by decide +kernel
set_option maxRecDepth 100000 in
theorem c_Md_readPairs_77 : ct_Md_readPairs 77 = ka_al 0 1 := rfl
theorem d_Md_readPairs_77 : decode prog_12_method_19_code 77 = .ok (.aload_n 0, 1) := by decide +kernel
set_option maxRecDepth 100000 in
theorem c_Md_readPairs_78 : ct_Md_readPairs 78 = ka_get 10 33 := rfl
theorem d_Md_readPairs_78 : decode prog_12_method_19_code 78 = .ok (.getfield 171, 3) := by decide +kernel
set_option maxRecDepth 100000 in
theorem c_Md_readPairs_81 : ct_Md_readPairs 81 = ka_ci (nI 12) 2 := rfl
theorem d_Md_readPairs_81 : decode prog_12_method_19_code 81 = .ok (.bipush 12, 2) := by decide +kernel
set_option maxRecDepth 100000 in
theorem c_Md_readPairs_83 : ct_Md_readPairs 83 = ka_cm (fun x y => x = y) 100 := rfl
theorem d_Md_readPairs_83 : decode prog_12_method_19_code 83 = .ok (.if_icmp .eq 17, 3) := by decide +kernel
set_option maxRecDepth 100000 in
theorem c_Md_readPairs_86 : ct_Md_readPairs 86 = ka_al 0 1 := rfl
theorem d_Md_readPairs_86 : decode prog_12_method_19_code 86 = .ok (.aload_n 0, 1) := by decide +kernel
set_option maxRecDepth 100000 in
theorem c_Md_readPairs_87 : ct_Md_readPairs 87 = ka_il 2 1 := rfl
theorem d_Md_readPairs_87 : decode prog_12_method_19_code 87 = .ok (.iload_n 2, 1) := by decide +kernel
set_option maxRecDepth 100000 in
theorem c_Md_readPairs_88 : ct_Md_readPairs 88 = ka_al 0 1 := rfl
theorem d_Md_readPairs_88 : decode prog_12_method_19_code 88 = .ok (.aload_n 0, 1) := by decide +kernel
set_option maxRecDepth 100000 in
theorem c_Md_readPairs_89 : ct_Md_readPairs 89 = ka_get 10 19 := rfl
theorem d_Md_readPairs_89 : decode prog_12_method_19_code 89 = .ok (.getfield 143, 3) := by decide +kernel
set_option maxRecDepth 100000 in
theorem c_Md_readPairs_92 : ct_Md_readPairs 92 = ka_ci (nI 48) 2 := rfl
theorem d_Md_readPairs_92 : decode prog_12_method_19_code 92 = .ok (.bipush 48, 2) := by decide +kernel
set_option maxRecDepth 100000 in
theorem c_Md_readPairs_94 : ct_Md_readPairs 94 = ka_cv 100 3 10 0 0 := rfl
theorem d_Md_readPairs_94 : decode prog_12_method_19_code 94 = .ok (.invokevirtual 116, 3) := by decide +kernel
set_option maxRecDepth 100000 in
theorem c_Md_readPairs_97 : ct_Md_readPairs 97 = ka_if (fun x => ¬ x = 0) 102 := rfl
theorem d_Md_readPairs_97 : decode prog_12_method_19_code 97 = .ok (.ifCond .ne 5, 3) := by decide +kernel
set_option maxRecDepth 100000 in
theorem c_Md_readPairs_100 : ct_Md_readPairs 100 = ka_ci (nI 0) 1 := rfl
theorem d_Md_readPairs_100 : decode prog_12_method_19_code 100 = .ok (.iconst 0, 1) := by decide +kernel
set_option maxRecDepth 100000 in
theorem c_Md_readPairs_101 : ct_Md_readPairs 101 = ka_rz := rfl
theorem d_Md_readPairs_101 : decode prog_12_method_19_code 101 = .ok (.ireturn, 1) := by decide +kernel
set_option maxRecDepth 100000 in
theorem c_Md_readPairs_102 : ct_Md_readPairs 102 = ka_al 0 1 := rfl
theorem d_Md_readPairs_102 : decode prog_12_method_19_code 102 = .ok (.aload_n 0, 1) := by decide +kernel
set_option maxRecDepth 100000 in
theorem c_Md_readPairs_103 : ct_Md_readPairs 103 = ka_get 10 15 := rfl
theorem d_Md_readPairs_103 : decode prog_12_method_19_code 103 = .ok (.getfield 109, 3) := by decide +kernel
set_option maxRecDepth 100000 in
theorem c_Md_readPairs_106 : ct_Md_readPairs 106 = ka_is 3 1 := rfl
theorem d_Md_readPairs_106 : decode prog_12_method_19_code 106 = .ok (.istore_n 3, 1) := by decide +kernel
set_option maxRecDepth 100000 in
theorem c_Md_readPairs_107 : ct_Md_readPairs 107 = ka_il 2 1 := rfl
theorem d_Md_readPairs_107 : decode prog_12_method_19_code 107 = .ok (.iload_n 2, 1) := by decide +kernel
set_option maxRecDepth 100000 in
theorem c_Md_readPairs_108 : ct_Md_readPairs 108 = ka_is 4 2 := rfl
theorem d_Md_readPairs_108 : decode prog_12_method_19_code 108 = .ok (.istore 4, 2) := by decide +kernel
set_option maxRecDepth 100000 in
theorem c_Md_readPairs_110 : ct_Md_readPairs 110 = ka_il 1 1 := rfl
theorem d_Md_readPairs_110 : decode prog_12_method_19_code 110 = .ok (.iload_n 1, 1) := by decide +kernel
set_option maxRecDepth 100000 in
theorem c_Md_readPairs_111 : ct_Md_readPairs 111 = ka_if (fun x => x = 0) 153 := rfl
theorem d_Md_readPairs_111 : decode prog_12_method_19_code 111 = .ok (.ifCond .eq 42, 3) := by decide +kernel
set_option maxRecDepth 100000 in
theorem c_Md_readPairs_114 : ct_Md_readPairs 114 = ka_al 0 1 := rfl
theorem d_Md_readPairs_114 : decode prog_12_method_19_code 114 = .ok (.aload_n 0, 1) := by decide +kernel
set_option maxRecDepth 100000 in
theorem c_Md_readPairs_115 : ct_Md_readPairs 115 = ka_al 0 1 := rfl
theorem d_Md_readPairs_115 : decode prog_12_method_19_code 115 = .ok (.aload_n 0, 1) := by decide +kernel
set_option maxRecDepth 100000 in
theorem c_Md_readPairs_116 : ct_Md_readPairs 116 = ka_get 10 14 := rfl
theorem d_Md_readPairs_116 : decode prog_12_method_19_code 116 = .ok (.getfield 106, 3) := by decide +kernel
set_option maxRecDepth 100000 in
theorem c_Md_readPairs_119 : ct_Md_readPairs 119 = ka_il 3 1 := rfl
theorem d_Md_readPairs_119 : decode prog_12_method_19_code 119 = .ok (.iload_n 3, 1) := by decide +kernel
set_option maxRecDepth 100000 in
theorem c_Md_readPairs_120 : ct_Md_readPairs 120 = ka_ci (nI 2) 1 := rfl
theorem d_Md_readPairs_120 : decode prog_12_method_19_code 120 = .ok (.iconst 2, 1) := by decide +kernel
set_option maxRecDepth 100000 in
theorem c_Md_readPairs_121 : ct_Md_readPairs 121 = ka_cv 103 3 10 0 0 := rfl
theorem d_Md_readPairs_121 : decode prog_12_method_19_code 121 = .ok (.invokevirtual 177, 3) := by decide +kernel
set_option maxRecDepth 100000 in
theorem c_Md_readPairs_124 : ct_Md_readPairs 124 = ka_if (fun x => ¬ x = 0) 129 := rfl
theorem d_Md_readPairs_124 : decode prog_12_method_19_code 124 = .ok (.ifCond .ne 5, 3) := by decide +kernel
set_option maxRecDepth 100000 in
theorem c_Md_readPairs_127 : ct_Md_readPairs 127 = ka_ci (nI 0) 1 := rfl
theorem d_Md_readPairs_127 : decode prog_12_method_19_code 127 = .ok (.iconst 0, 1) := by decide +kernel
set_option maxRecDepth 100000 in
theorem c_Md_readPairs_128 : ct_Md_readPairs 128 = ka_rz := rfl
theorem d_Md_readPairs_128 : decode prog_12_method_19_code 128 = .ok (.ireturn, 1) := by decide +kernel
set_option maxRecDepth 100000 in
theorem c_Md_readPairs_129 : ct_Md_readPairs 129 = ka_al 0 1 := rfl
theorem d_Md_readPairs_129 : decode prog_12_method_19_code 129 = .ok (.aload_n 0, 1) := by decide +kernel
set_option maxRecDepth 100000 in
theorem c_Md_readPairs_130 : ct_Md_readPairs 130 = ka_get 10 34 := rfl
theorem d_Md_readPairs_130 : decode prog_12_method_19_code 130 = .ok (.getfield 41, 3) := by decide +kernel
set_option maxRecDepth 100000 in
theorem c_Md_readPairs_133 : ct_Md_readPairs 133 = ka_al 0 1 := rfl
theorem d_Md_readPairs_133 : decode prog_12_method_19_code 133 = .ok (.aload_n 0, 1) := by decide +kernel
set_option maxRecDepth 100000 in
theorem c_Md_readPairs_134 : ct_Md_readPairs 134 = ka_get 10 33 := rfl
theorem d_Md_readPairs_134 : decode prog_12_method_19_code 134 = .ok (.getfield 171, 3) := by decide +kernel
set_option maxRecDepth 100000 in
theorem c_Md_readPairs_137 : ct_Md_readPairs 137 = ka_al 0 1 := rfl
theorem d_Md_readPairs_137 : decode prog_12_method_19_code 137 = .ok (.aload_n 0, 1) := by decide +kernel
set_option maxRecDepth 100000 in
theorem c_Md_readPairs_138 : ct_Md_readPairs 138 = ka_get 10 2 := rfl
theorem d_Md_readPairs_138 : decode prog_12_method_19_code 138 = .ok (.getfield 7, 3) := by decide +kernel
set_option maxRecDepth 100000 in
theorem c_Md_readPairs_141 : ct_Md_readPairs 141 = ka_al 0 1 := rfl
theorem d_Md_readPairs_141 : decode prog_12_method_19_code 141 = .ok (.aload_n 0, 1) := by decide +kernel
set_option maxRecDepth 100000 in
theorem c_Md_readPairs_142 : ct_Md_readPairs 142 = ka_get 10 14 := rfl
theorem d_Md_readPairs_142 : decode prog_12_method_19_code 142 = .ok (.getfield 106, 3) := by decide +kernel
set_option maxRecDepth 100000 in
theorem c_Md_readPairs_145 : ct_Md_readPairs 145 = ka_iald := rfl
theorem d_Md_readPairs_145 : decode prog_12_method_19_code 145 = .ok (.iaload, 1) := by decide +kernel
set_option maxRecDepth 100000 in
theorem c_Md_readPairs_146 : ct_Md_readPairs 146 = ka_iast := rfl
theorem d_Md_readPairs_146 : decode prog_12_method_19_code 146 = .ok (.iastore, 1) := by decide +kernel
set_option maxRecDepth 100000 in
theorem c_Md_readPairs_147 : ct_Md_readPairs 147 = ka_al 0 1 := rfl
theorem d_Md_readPairs_147 : decode prog_12_method_19_code 147 = .ok (.aload_n 0, 1) := by decide +kernel
set_option maxRecDepth 100000 in
theorem c_Md_readPairs_148 : ct_Md_readPairs 148 = ka_get 10 15 := rfl
theorem d_Md_readPairs_148 : decode prog_12_method_19_code 148 = .ok (.getfield 109, 3) := by decide +kernel
set_option maxRecDepth 100000 in
theorem c_Md_readPairs_151 : ct_Md_readPairs 151 = ka_is 4 2 := rfl
theorem d_Md_readPairs_151 : decode prog_12_method_19_code 151 = .ok (.istore 4, 2) := by decide +kernel
set_option maxRecDepth 100000 in
theorem c_Md_readPairs_153 : ct_Md_readPairs 153 = ka_al 0 1 := rfl
theorem d_Md_readPairs_153 : decode prog_12_method_19_code 153 = .ok (.aload_n 0, 1) := by decide +kernel
set_option maxRecDepth 100000 in
theorem c_Md_readPairs_154 : ct_Md_readPairs 154 = ka_il 4 2 := rfl
theorem d_Md_readPairs_154 : decode prog_12_method_19_code 154 = .ok (.iload 4, 2) := by decide +kernel
set_option maxRecDepth 100000 in
theorem c_Md_readPairs_156 : ct_Md_readPairs 156 = ka_il 3 1 := rfl
theorem d_Md_readPairs_156 : decode prog_12_method_19_code 156 = .ok (.iload_n 3, 1) := by decide +kernel
set_option maxRecDepth 100000 in
theorem c_Md_readPairs_157 : ct_Md_readPairs 157 = ka_cv 113 2 10 0 0 := rfl
theorem d_Md_readPairs_157 : decode prog_12_method_19_code 157 = .ok (.invokevirtual 180, 3) := by decide +kernel
set_option maxRecDepth 100000 in
theorem c_Md_readPairs_160 : ct_Md_readPairs 160 = ka_if (fun x => ¬ x = 0) 165 := rfl
theorem d_Md_readPairs_160 : decode prog_12_method_19_code 160 = .ok (.ifCond .ne 5, 3) := by decide +kernel
set_option maxRecDepth 100000 in
theorem c_Md_readPairs_163 : ct_Md_readPairs 163 = ka_ci (nI 0) 1 := rfl
theorem d_Md_readPairs_163 : decode prog_12_method_19_code 163 = .ok (.iconst 0, 1) := by decide +kernel
set_option maxRecDepth 100000 in
theorem c_Md_readPairs_164 : ct_Md_readPairs 164 = ka_rz := rfl
theorem d_Md_readPairs_164 : decode prog_12_method_19_code 164 = .ok (.ireturn, 1) := by decide +kernel
set_option maxRecDepth 100000 in
theorem c_Md_readPairs_165 : ct_Md_readPairs 165 = ka_il 3 1 := rfl
theorem d_Md_readPairs_165 : decode prog_12_method_19_code 165 = .ok (.iload_n 3, 1) := by decide +kernel
set_option maxRecDepth 100000 in
theorem c_Md_readPairs_166 : ct_Md_readPairs 166 = ka_is 2 1 := rfl
theorem d_Md_readPairs_166 : decode prog_12_method_19_code 166 = .ok (.istore_n 2, 1) := by decide +kernel
set_option maxRecDepth 100000 in
theorem c_Md_readPairs_167 : ct_Md_readPairs 167 = ka_goto 69 := rfl
theorem d_Md_readPairs_167 : decode prog_12_method_19_code 167 = .ok (.goto (-98), 3) := by decide +kernel
set_option maxRecDepth 100000 in
theorem c_Md_readPairs_170 : ct_Md_readPairs 170 = ka_ci (nI 1) 1 := rfl
theorem d_Md_readPairs_170 : decode prog_12_method_19_code 170 = .ok (.iconst 1, 1) := by decide +kernel
set_option maxRecDepth 100000 in
theorem c_Md_readPairs_171 : ct_Md_readPairs 171 = ka_rz := rfl
theorem d_Md_readPairs_171 : decode prog_12_method_19_code 171 = .ok (.ireturn, 1) := by decide +kernel
set_option maxRecDepth 100000 in
set_option maxHeartbeats 4000000 in
theorem s_Md_readPairs_60 : ∀ pc, pc < 60 → kc_Sim kt kw_A kw_N kt_cl kt_En "DirectoryDeskModel" prog_12_method_19_code 5 (some .boolean) "readPairs" none pc (ct_Md_readPairs pc) := by
  let P : Nat → Prop := fun pc => kc_Sim kt kw_A kw_N kt_cl kt_En "DirectoryDeskModel" prog_12_method_19_code 5 (some .boolean) "readPairs" none pc (ct_Md_readPairs pc)
  exact kc_case (P := P) (kc_se c_Md_readPairs_59 (sm_cm_eq d_Md_readPairs_59 (by decide))) (
  kc_case (P := P) (kc_se rfl sm_no) (
  kc_case (P := P) (kc_se rfl sm_no) (
  kc_case (P := P) (kc_se c_Md_readPairs_56 (sm_get (ci := 10) (C := "DirectoryDeskModel") (F := kF_Md) rfl kin_Md (Nat.le_of_ble_eq_true rfl) d_Md_readPairs_56 (kw3 202 rfl rfl))) (
  kc_case (P := P) (kc_se c_Md_readPairs_55 (sm_aload_n d_Md_readPairs_55 rfl)) (
  kc_case (P := P) (kc_se rfl sm_no) (
  kc_case (P := P) (kc_se rfl sm_no) (
  kc_case (P := P) (kc_se c_Md_readPairs_52 (sm_get (ci := 10) (C := "DirectoryDeskModel") (F := kF_Md) rfl kin_Md (Nat.le_of_ble_eq_true rfl) d_Md_readPairs_52 (kw3 198 rfl rfl))) (
  kc_case (P := P) (kc_se c_Md_readPairs_51 (sm_aload_n d_Md_readPairs_51 rfl)) (
  kc_case (P := P) (kc_se rfl sm_no) (
  kc_case (P := P) (kc_se rfl sm_no) (
  kc_case (P := P) (kc_se c_Md_readPairs_48 (sm_if_eq d_Md_readPairs_48 (by decide))) (
  kc_case (P := P) (kc_se rfl sm_no) (
  kc_case (P := P) (kc_se rfl sm_no) (
  kc_case (P := P) (kc_se c_Md_readPairs_45 (sm_cv (j := 100) rfl rfl kw_o kw_g wc_Md_tagged (Nat.le_of_ble_eq_true rfl) hd_Md_tagged (ci := 10) (F := kF_Md) (N := 52) rfl (kw4 117 rfl rfl) wi_Md_tagged ws_Md_tagged wn_Md_tagged d_Md_readPairs_45)) (
  kc_case (P := P) (kc_se rfl sm_no) (
  kc_case (P := P) (kc_se c_Md_readPairs_43 (sm_bipush d_Md_readPairs_43 (by decide))) (
  kc_case (P := P) (kc_se rfl sm_no) (
  kc_case (P := P) (kc_se rfl sm_no) (
  kc_case (P := P) (kc_se c_Md_readPairs_40 (sm_get (ci := 10) (C := "DirectoryDeskModel") (F := kF_Md) rfl kin_Md (Nat.le_of_ble_eq_true rfl) d_Md_readPairs_40 (kw3 202 rfl rfl))) (
  kc_case (P := P) (kc_se c_Md_readPairs_39 (sm_aload_n d_Md_readPairs_39 rfl)) (
  kc_case (P := P) (kc_se rfl sm_no) (
  kc_case (P := P) (kc_se rfl sm_no) (
  kc_case (P := P) (kc_se c_Md_readPairs_36 (sm_get (ci := 10) (C := "DirectoryDeskModel") (F := kF_Md) rfl kin_Md (Nat.le_of_ble_eq_true rfl) d_Md_readPairs_36 (kw3 198 rfl rfl))) (
  kc_case (P := P) (kc_se c_Md_readPairs_35 (sm_aload_n d_Md_readPairs_35 rfl)) (
  kc_case (P := P) (kc_se c_Md_readPairs_34 (sm_aload_n d_Md_readPairs_34 rfl)) (
  kc_case (P := P) (kc_se rfl sm_no) (
  kc_case (P := P) (kc_se rfl sm_no) (
  kc_case (P := P) (kc_se c_Md_readPairs_31 (sm_put (ci := 10) (C := "DirectoryDeskModel") (F := kF_Md) rfl kin_Md kty_Md ktk_Md knm_Md (Nat.le_of_ble_eq_true rfl) (by decide +kernel) d_Md_readPairs_31 (kw3 207 rfl rfl) rfl)) (
  kc_case (P := P) (kc_se rfl sm_no) (
  kc_case (P := P) (kc_se rfl sm_no) (
  kc_case (P := P) (kc_se c_Md_readPairs_28 (sm_get (ci := 10) (C := "DirectoryDeskModel") (F := kF_Md) rfl kin_Md (Nat.le_of_ble_eq_true rfl) d_Md_readPairs_28 (kw3 198 rfl rfl))) (
  kc_case (P := P) (kc_se c_Md_readPairs_27 (sm_aload_n d_Md_readPairs_27 rfl)) (
  kc_case (P := P) (kc_se c_Md_readPairs_26 (sm_aload_n d_Md_readPairs_26 rfl)) (
  kc_case (P := P) (kc_se rfl sm_no) (
  kc_case (P := P) (kc_se rfl sm_no) (
  kc_case (P := P) (kc_se c_Md_readPairs_23 (sm_put (ci := 10) (C := "DirectoryDeskModel") (F := kF_Md) rfl kin_Md kty_Md ktk_Md knm_Md (Nat.le_of_ble_eq_true rfl) (by decide +kernel) d_Md_readPairs_23 (kw3 206 rfl rfl) rfl)) (
  kc_case (P := P) (kc_se rfl sm_no) (
  kc_case (P := P) (kc_se rfl sm_no) (
  kc_case (P := P) (kc_se c_Md_readPairs_20 (sm_get (ci := 10) (C := "DirectoryDeskModel") (F := kF_Md) rfl kin_Md (Nat.le_of_ble_eq_true rfl) d_Md_readPairs_20 (kw3 197 rfl rfl))) (
  kc_case (P := P) (kc_se c_Md_readPairs_19 (sm_aload_n d_Md_readPairs_19 rfl)) (
  kc_case (P := P) (kc_se c_Md_readPairs_18 (sm_aload_n d_Md_readPairs_18 rfl)) (
  kc_case (P := P) (kc_se c_Md_readPairs_17 (sm_rz d_Md_readPairs_17 rfl)) (
  kc_case (P := P) (kc_se c_Md_readPairs_16 (sm_iconst d_Md_readPairs_16 (by decide))) (
  kc_case (P := P) (kc_se rfl sm_no) (
  kc_case (P := P) (kc_se rfl sm_no) (
  kc_case (P := P) (kc_se c_Md_readPairs_13 (sm_if_ne d_Md_readPairs_13 (by decide))) (
  kc_case (P := P) (kc_se rfl sm_no) (
  kc_case (P := P) (kc_se rfl sm_no) (
  kc_case (P := P) (kc_se c_Md_readPairs_10 (sm_cv (j := 100) rfl rfl kw_o kw_g wc_Md_tagged (Nat.le_of_ble_eq_true rfl) hd_Md_tagged (ci := 10) (F := kF_Md) (N := 52) rfl (kw4 117 rfl rfl) wi_Md_tagged ws_Md_tagged wn_Md_tagged d_Md_readPairs_10)) (
  kc_case (P := P) (kc_se c_Md_readPairs_9 (sm_iconst d_Md_readPairs_9 (by decide))) (
  kc_case (P := P) (kc_se rfl sm_no) (
  kc_case (P := P) (kc_se rfl sm_no) (
  kc_case (P := P) (kc_se c_Md_readPairs_6 (sm_get (ci := 10) (C := "DirectoryDeskModel") (F := kF_Md) rfl kin_Md (Nat.le_of_ble_eq_true rfl) d_Md_readPairs_6 (kw3 202 rfl rfl))) (
  kc_case (P := P) (kc_se c_Md_readPairs_5 (sm_aload_n d_Md_readPairs_5 rfl)) (
  kc_case (P := P) (kc_se rfl sm_no) (
  kc_case (P := P) (kc_se rfl sm_no) (
  kc_case (P := P) (kc_se c_Md_readPairs_2 (sm_get (ci := 10) (C := "DirectoryDeskModel") (F := kF_Md) rfl kin_Md (Nat.le_of_ble_eq_true rfl) d_Md_readPairs_2 (kw3 201 rfl rfl))) (
  kc_case (P := P) (kc_se c_Md_readPairs_1 (sm_aload_n d_Md_readPairs_1 rfl)) (
  kc_case (P := P) (kc_se c_Md_readPairs_0 (sm_aload_n d_Md_readPairs_0 rfl)) (
  kc_case0))))))))))))))))))))))))))))))))))))))))))))))))))))))))))))
set_option maxRecDepth 100000 in
set_option maxHeartbeats 4000000 in
theorem s_Md_readPairs_120 : ∀ pc, pc < 120 → kc_Sim kt kw_A kw_N kt_cl kt_En "DirectoryDeskModel" prog_12_method_19_code 5 (some .boolean) "readPairs" none pc (ct_Md_readPairs pc) := by
  let P : Nat → Prop := fun pc => kc_Sim kt kw_A kw_N kt_cl kt_En "DirectoryDeskModel" prog_12_method_19_code 5 (some .boolean) "readPairs" none pc (ct_Md_readPairs pc)
  exact kc_case (P := P) (kc_se c_Md_readPairs_119 (sm_iload_n d_Md_readPairs_119 rfl)) (
  kc_case (P := P) (kc_se rfl sm_no) (
  kc_case (P := P) (kc_se rfl sm_no) (
  kc_case (P := P) (kc_se c_Md_readPairs_116 (sm_get (ci := 10) (C := "DirectoryDeskModel") (F := kF_Md) rfl kin_Md (Nat.le_of_ble_eq_true rfl) d_Md_readPairs_116 (kw3 197 rfl rfl))) (
  kc_case (P := P) (kc_se c_Md_readPairs_115 (sm_aload_n d_Md_readPairs_115 rfl)) (
  kc_case (P := P) (kc_se c_Md_readPairs_114 (sm_aload_n d_Md_readPairs_114 rfl)) (
  kc_case (P := P) (kc_se rfl sm_no) (
  kc_case (P := P) (kc_se rfl sm_no) (
  kc_case (P := P) (kc_se c_Md_readPairs_111 (sm_if_eq d_Md_readPairs_111 (by decide))) (
  kc_case (P := P) (kc_se c_Md_readPairs_110 (sm_iload_n d_Md_readPairs_110 rfl)) (
  kc_case (P := P) (kc_se rfl sm_no) (
  kc_case (P := P) (kc_se c_Md_readPairs_108 (sm_istore d_Md_readPairs_108 (Nat.le_of_ble_eq_true rfl))) (
  kc_case (P := P) (kc_se c_Md_readPairs_107 (sm_iload_n d_Md_readPairs_107 rfl)) (
  kc_case (P := P) (kc_se c_Md_readPairs_106 (sm_istore_n d_Md_readPairs_106 rfl (Nat.le_of_ble_eq_true rfl))) (
  kc_case (P := P) (kc_se rfl sm_no) (
  kc_case (P := P) (kc_se rfl sm_no) (
  kc_case (P := P) (kc_se c_Md_readPairs_103 (sm_get (ci := 10) (C := "DirectoryDeskModel") (F := kF_Md) rfl kin_Md (Nat.le_of_ble_eq_true rfl) d_Md_readPairs_103 (kw3 198 rfl rfl))) (
  kc_case (P := P) (kc_se c_Md_readPairs_102 (sm_aload_n d_Md_readPairs_102 rfl)) (
  kc_case (P := P) (kc_se c_Md_readPairs_101 (sm_rz d_Md_readPairs_101 rfl)) (
  kc_case (P := P) (kc_se c_Md_readPairs_100 (sm_iconst d_Md_readPairs_100 (by decide))) (
  kc_case (P := P) (kc_se rfl sm_no) (
  kc_case (P := P) (kc_se rfl sm_no) (
  kc_case (P := P) (kc_se c_Md_readPairs_97 (sm_if_ne d_Md_readPairs_97 (by decide))) (
  kc_case (P := P) (kc_se rfl sm_no) (
  kc_case (P := P) (kc_se rfl sm_no) (
  kc_case (P := P) (kc_se c_Md_readPairs_94 (sm_cv (j := 100) rfl rfl kw_o kw_g wc_Md_tagged (Nat.le_of_ble_eq_true rfl) hd_Md_tagged (ci := 10) (F := kF_Md) (N := 52) rfl (kw4 117 rfl rfl) wi_Md_tagged ws_Md_tagged wn_Md_tagged d_Md_readPairs_94)) (
  kc_case (P := P) (kc_se rfl sm_no) (
  kc_case (P := P) (kc_se c_Md_readPairs_92 (sm_bipush d_Md_readPairs_92 (by decide))) (
  kc_case (P := P) (kc_se rfl sm_no) (
  kc_case (P := P) (kc_se rfl sm_no) (
  kc_case (P := P) (kc_se c_Md_readPairs_89 (sm_get (ci := 10) (C := "DirectoryDeskModel") (F := kF_Md) rfl kin_Md (Nat.le_of_ble_eq_true rfl) d_Md_readPairs_89 (kw3 202 rfl rfl))) (
  kc_case (P := P) (kc_se c_Md_readPairs_88 (sm_aload_n d_Md_readPairs_88 rfl)) (
  kc_case (P := P) (kc_se c_Md_readPairs_87 (sm_iload_n d_Md_readPairs_87 rfl)) (
  kc_case (P := P) (kc_se c_Md_readPairs_86 (sm_aload_n d_Md_readPairs_86 rfl)) (
  kc_case (P := P) (kc_se rfl sm_no) (
  kc_case (P := P) (kc_se rfl sm_no) (
  kc_case (P := P) (kc_se c_Md_readPairs_83 (sm_cm_eq d_Md_readPairs_83 (by decide))) (
  kc_case (P := P) (kc_se rfl sm_no) (
  kc_case (P := P) (kc_se c_Md_readPairs_81 (sm_bipush d_Md_readPairs_81 (by decide))) (
  kc_case (P := P) (kc_se rfl sm_no) (
  kc_case (P := P) (kc_se rfl sm_no) (
  kc_case (P := P) (kc_se c_Md_readPairs_78 (sm_get (ci := 10) (C := "DirectoryDeskModel") (F := kF_Md) rfl kin_Md (Nat.le_of_ble_eq_true rfl) d_Md_readPairs_78 (kw3 216 rfl rfl))) (
  kc_case (P := P) (kc_se c_Md_readPairs_77 (sm_aload_n d_Md_readPairs_77 rfl)) (
  kc_case (P := P) (kc_se rfl sm_no) (
  kc_case (P := P) (kc_se rfl sm_no) (
  kc_case (P := P) (kc_se c_Md_readPairs_74 (sm_cm_ge d_Md_readPairs_74 (by decide))) (
  kc_case (P := P) (kc_se rfl sm_no) (
  kc_case (P := P) (kc_se rfl sm_no) (
  kc_case (P := P) (kc_se c_Md_readPairs_71 (sm_get (ci := 10) (C := "DirectoryDeskModel") (F := kF_Md) rfl kin_Md (Nat.le_of_ble_eq_true rfl) d_Md_readPairs_71 (kw3 202 rfl rfl))) (
  kc_case (P := P) (kc_se c_Md_readPairs_70 (sm_aload_n d_Md_readPairs_70 rfl)) (
  kc_case (P := P) (kc_se c_Md_readPairs_69 (sm_iload_n d_Md_readPairs_69 rfl)) (
  kc_case (P := P) (kc_se c_Md_readPairs_68 (sm_istore_n d_Md_readPairs_68 rfl (Nat.le_of_ble_eq_true rfl))) (
  kc_case (P := P) (kc_se rfl sm_no) (
  kc_case (P := P) (kc_se rfl sm_no) (
  kc_case (P := P) (kc_se c_Md_readPairs_65 (sm_get (ci := 10) (C := "DirectoryDeskModel") (F := kF_Md) rfl kin_Md (Nat.le_of_ble_eq_true rfl) d_Md_readPairs_65 (kw3 197 rfl rfl))) (
  kc_case (P := P) (kc_se c_Md_readPairs_64 (sm_aload_n d_Md_readPairs_64 rfl)) (
  kc_case (P := P) (kc_se c_Md_readPairs_63 (sm_rz d_Md_readPairs_63 rfl)) (
  kc_case (P := P) (kc_se c_Md_readPairs_62 (sm_iconst d_Md_readPairs_62 (by decide))) (
  kc_case (P := P) (kc_se rfl sm_no) (
  kc_case (P := P) (kc_se rfl sm_no) (
  s_Md_readPairs_60))))))))))))))))))))))))))))))))))))))))))))))))))))))))))))
set_option maxRecDepth 100000 in
set_option maxHeartbeats 4000000 in
theorem s_Md_readPairs_172 : ∀ pc, pc < 172 → kc_Sim kt kw_A kw_N kt_cl kt_En "DirectoryDeskModel" prog_12_method_19_code 5 (some .boolean) "readPairs" none pc (ct_Md_readPairs pc) := by
  let P : Nat → Prop := fun pc => kc_Sim kt kw_A kw_N kt_cl kt_En "DirectoryDeskModel" prog_12_method_19_code 5 (some .boolean) "readPairs" none pc (ct_Md_readPairs pc)
  exact kc_case (P := P) (kc_se c_Md_readPairs_171 (sm_rz d_Md_readPairs_171 rfl)) (
  kc_case (P := P) (kc_se c_Md_readPairs_170 (sm_iconst d_Md_readPairs_170 (by decide))) (
  kc_case (P := P) (kc_se rfl sm_no) (
  kc_case (P := P) (kc_se rfl sm_no) (
  kc_case (P := P) (kc_se c_Md_readPairs_167 (sm_goto d_Md_readPairs_167 (by decide))) (
  kc_case (P := P) (kc_se c_Md_readPairs_166 (sm_istore_n d_Md_readPairs_166 rfl (Nat.le_of_ble_eq_true rfl))) (
  kc_case (P := P) (kc_se c_Md_readPairs_165 (sm_iload_n d_Md_readPairs_165 rfl)) (
  kc_case (P := P) (kc_se c_Md_readPairs_164 (sm_rz d_Md_readPairs_164 rfl)) (
  kc_case (P := P) (kc_se c_Md_readPairs_163 (sm_iconst d_Md_readPairs_163 (by decide))) (
  kc_case (P := P) (kc_se rfl sm_no) (
  kc_case (P := P) (kc_se rfl sm_no) (
  kc_case (P := P) (kc_se c_Md_readPairs_160 (sm_if_ne d_Md_readPairs_160 (by decide))) (
  kc_case (P := P) (kc_se rfl sm_no) (
  kc_case (P := P) (kc_se rfl sm_no) (
  kc_case (P := P) (kc_se c_Md_readPairs_157 (sm_cv (j := 113) rfl rfl kw_o kw_g wc_Md_readAttribute (Nat.le_of_ble_eq_true rfl) hd_Md_readAttribute (ci := 10) (F := kF_Md) (N := 52) rfl (kw4 188 rfl rfl) wi_Md_readAttribute ws_Md_readAttribute wn_Md_readAttribute d_Md_readPairs_157)) (
  kc_case (P := P) (kc_se c_Md_readPairs_156 (sm_iload_n d_Md_readPairs_156 rfl)) (
  kc_case (P := P) (kc_se rfl sm_no) (
  kc_case (P := P) (kc_se c_Md_readPairs_154 (sm_iload d_Md_readPairs_154)) (
  kc_case (P := P) (kc_se c_Md_readPairs_153 (sm_aload_n d_Md_readPairs_153 rfl)) (
  kc_case (P := P) (kc_se rfl sm_no) (
  kc_case (P := P) (kc_se c_Md_readPairs_151 (sm_istore d_Md_readPairs_151 (Nat.le_of_ble_eq_true rfl))) (
  kc_case (P := P) (kc_se rfl sm_no) (
  kc_case (P := P) (kc_se rfl sm_no) (
  kc_case (P := P) (kc_se c_Md_readPairs_148 (sm_get (ci := 10) (C := "DirectoryDeskModel") (F := kF_Md) rfl kin_Md (Nat.le_of_ble_eq_true rfl) d_Md_readPairs_148 (kw3 198 rfl rfl))) (
  kc_case (P := P) (kc_se c_Md_readPairs_147 (sm_aload_n d_Md_readPairs_147 rfl)) (
  kc_case (P := P) (kc_se c_Md_readPairs_146 (sm_iast d_Md_readPairs_146)) (
  kc_case (P := P) (kc_se c_Md_readPairs_145 (sm_iald d_Md_readPairs_145)) (
  kc_case (P := P) (kc_se rfl sm_no) (
  kc_case (P := P) (kc_se rfl sm_no) (
  kc_case (P := P) (kc_se c_Md_readPairs_142 (sm_get (ci := 10) (C := "DirectoryDeskModel") (F := kF_Md) rfl kin_Md (Nat.le_of_ble_eq_true rfl) d_Md_readPairs_142 (kw3 197 rfl rfl))) (
  kc_case (P := P) (kc_se c_Md_readPairs_141 (sm_aload_n d_Md_readPairs_141 rfl)) (
  kc_case (P := P) (kc_se rfl sm_no) (
  kc_case (P := P) (kc_se rfl sm_no) (
  kc_case (P := P) (kc_se c_Md_readPairs_138 (sm_get (ci := 10) (C := "DirectoryDeskModel") (F := kF_Md) rfl kin_Md (Nat.le_of_ble_eq_true rfl) d_Md_readPairs_138 (kw3 185 rfl rfl))) (
  kc_case (P := P) (kc_se c_Md_readPairs_137 (sm_aload_n d_Md_readPairs_137 rfl)) (
  kc_case (P := P) (kc_se rfl sm_no) (
  kc_case (P := P) (kc_se rfl sm_no) (
  kc_case (P := P) (kc_se c_Md_readPairs_134 (sm_get (ci := 10) (C := "DirectoryDeskModel") (F := kF_Md) rfl kin_Md (Nat.le_of_ble_eq_true rfl) d_Md_readPairs_134 (kw3 216 rfl rfl))) (
  kc_case (P := P) (kc_se c_Md_readPairs_133 (sm_aload_n d_Md_readPairs_133 rfl)) (
  kc_case (P := P) (kc_se rfl sm_no) (
  kc_case (P := P) (kc_se rfl sm_no) (
  kc_case (P := P) (kc_se c_Md_readPairs_130 (sm_get (ci := 10) (C := "DirectoryDeskModel") (F := kF_Md) rfl kin_Md (Nat.le_of_ble_eq_true rfl) d_Md_readPairs_130 (kw3 217 rfl rfl))) (
  kc_case (P := P) (kc_se c_Md_readPairs_129 (sm_aload_n d_Md_readPairs_129 rfl)) (
  kc_case (P := P) (kc_se c_Md_readPairs_128 (sm_rz d_Md_readPairs_128 rfl)) (
  kc_case (P := P) (kc_se c_Md_readPairs_127 (sm_iconst d_Md_readPairs_127 (by decide))) (
  kc_case (P := P) (kc_se rfl sm_no) (
  kc_case (P := P) (kc_se rfl sm_no) (
  kc_case (P := P) (kc_se c_Md_readPairs_124 (sm_if_ne d_Md_readPairs_124 (by decide))) (
  kc_case (P := P) (kc_se rfl sm_no) (
  kc_case (P := P) (kc_se rfl sm_no) (
  kc_case (P := P) (kc_se c_Md_readPairs_121 (sm_cv (j := 103) rfl rfl kw_o kw_g wc_Md_chosen (Nat.le_of_ble_eq_true rfl) hd_Md_chosen (ci := 10) (F := kF_Md) (N := 52) rfl (kw4 145 rfl rfl) wi_Md_chosen ws_Md_chosen wn_Md_chosen d_Md_readPairs_121)) (
  kc_case (P := P) (kc_se c_Md_readPairs_120 (sm_iconst d_Md_readPairs_120 (by decide))) (
  s_Md_readPairs_120))))))))))))))))))))))))))))))))))))))))))))))))))))
set_option maxRecDepth 100000 in
theorem ka_nth_no_Md_readPairs (pc : Nat) (h : 172 ≤ pc) : ct_Md_readPairs pc = ka_no := ka_nth_ge _ pc (Nat.le_trans (Nat.le_of_eq (by rfl)) h)
theorem s_Md_readPairs (pc : Nat) : kc_Sim kt kw_A kw_N kt_cl kt_En "DirectoryDeskModel" prog_12_method_19_code 5 (some .boolean) "readPairs" none pc (ct_Md_readPairs pc) := (Nat.lt_or_ge pc 172).elim (s_Md_readPairs_172 pc) (fun h => kc_se (ka_nth_no_Md_readPairs pc h) sm_no)
