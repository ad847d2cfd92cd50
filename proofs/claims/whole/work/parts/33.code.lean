/-! code of methods, decode rows, and that the JVM follows (by program) -/
def cl_Rd_isReadWell_0 : List kc_A := [ka_al 0 1, ka_get 1 4, ka_no, ka_no, ka_if (fun x => ¬ x = 0) 22, ka_no, ka_no, ka_al 0 1, ka_get 1 2, ka_no, ka_no, ka_al 0 1, ka_get 1 3, ka_no, ka_no, ka_cm (fun x y => ¬ x = y) 22, ka_no, ka_no, ka_ci (nI 1) 1, ka_goto 23, ka_no, ka_no, ka_ci (nI 0) 1, ka_rz]
def ct_Rd_isReadWell : Nat → kc_A := fun pc => ka_nth (cl_Rd_isReadWell_0) pc
set_option maxRecDepth 100000 in
theorem c_Rd_isReadWell_0 : ct_Rd_isReadWell 0 = ka_al 0 1 := rfl
theorem d_Rd_isReadWell_0 : decode prog_8_method_8_code 0 = .ok (.aload_n 0, 1) := by decide +kernel
set_option maxRecDepth 100000 in
theorem c_Rd_isReadWell_1 : ct_Rd_isReadWell 1 = ka_get 1 4 := rfl
theorem d_Rd_isReadWell_1 : decode prog_8_method_8_code 1 = .ok (.getfield 25, 3) := by decide +kernel
set_option maxRecDepth 100000 in
theorem c_Rd_isReadWell_4 : ct_Rd_isReadWell 4 = ka_if (fun x => ¬ x = 0) 22 := rfl
theorem d_Rd_isReadWell_4 : decode prog_8_method_8_code 4 = .ok (.ifCond .ne 18, 3) := by decide +kernel
set_option maxRecDepth 100000 in
theorem c_Rd_isReadWell_7 : ct_Rd_isReadWell 7 = ka_al 0 1 := rfl
theorem d_Rd_isReadWell_7 : decode prog_8_method_8_code 7 = .ok (.aload_n 0, 1) := by decide +kernel
set_option maxRecDepth 100000 in
theorem c_Rd_isReadWell_8 : ct_Rd_isReadWell 8 = ka_get 1 2 := rfl
theorem d_Rd_isReadWell_8 : decode prog_8_method_8_code 8 = .ok (.getfield 19, 3) := by decide +kernel
set_option maxRecDepth 100000 in
theorem c_Rd_isReadWell_11 : ct_Rd_isReadWell 11 = ka_al 0 1 := rfl
theorem d_Rd_isReadWell_11 : decode prog_8_method_8_code 11 = .ok (.aload_n 0, 1) := by decide +kernel
set_option maxRecDepth 100000 in
theorem c_Rd_isReadWell_12 : ct_Rd_isReadWell 12 = ka_get 1 3 := rfl
theorem d_Rd_isReadWell_12 : decode prog_8_method_8_code 12 = .ok (.getfield 22, 3) := by decide +kernel
set_option maxRecDepth 100000 in
theorem c_Rd_isReadWell_15 : ct_Rd_isReadWell 15 = ka_cm (fun x y => ¬ x = y) 22 := rfl
theorem d_Rd_isReadWell_15 : decode prog_8_method_8_code 15 = .ok (.if_icmp .ne 7, 3) := by decide +kernel
set_option maxRecDepth 100000 in
theorem c_Rd_isReadWell_18 : ct_Rd_isReadWell 18 = ka_ci (nI 1) 1 := rfl
theorem d_Rd_isReadWell_18 : decode prog_8_method_8_code 18 = .ok (.iconst 1, 1) := by decide +kernel
set_option maxRecDepth 100000 in
theorem c_Rd_isReadWell_19 : ct_Rd_isReadWell 19 = ka_goto 23 := rfl
theorem d_Rd_isReadWell_19 : decode prog_8_method_8_code 19 = .ok (.goto 4, 3) := by decide +kernel
set_option maxRecDepth 100000 in
theorem c_Rd_isReadWell_22 : ct_Rd_isReadWell 22 = ka_ci (nI 0) 1 := rfl
theorem d_Rd_isReadWell_22 : decode prog_8_method_8_code 22 = .ok (.iconst 0, 1) := by decide +kernel
set_option maxRecDepth 100000 in
theorem c_Rd_isReadWell_23 : ct_Rd_isReadWell 23 = ka_rz := rfl
theorem d_Rd_isReadWell_23 : decode prog_8_method_8_code 23 = .ok (.ireturn, 1) := by decide +kernel
set_option maxRecDepth 100000 in
set_option maxHeartbeats 4000000 in
theorem s_Rd_isReadWell_24 : ∀ pc, pc < 24 → kc_Sim kt kw_A kw_N kt_cl kt_En "DirectoryDesk$Reader" prog_8_method_8_code 1 (some .boolean) "isReadWell" none pc (ct_Rd_isReadWell pc) := by
  let P : Nat → Prop := fun pc => kc_Sim kt kw_A kw_N kt_cl kt_En "DirectoryDesk$Reader" prog_8_method_8_code 1 (some .boolean) "isReadWell" none pc (ct_Rd_isReadWell pc)
  exact kc_case (P := P) (kc_se c_Rd_isReadWell_23 (sm_rz d_Rd_isReadWell_23 rfl)) (
  kc_case (P := P) (kc_se c_Rd_isReadWell_22 (sm_iconst d_Rd_isReadWell_22 (by decide))) (
  kc_case (P := P) (kc_se rfl sm_no) (
  kc_case (P := P) (kc_se rfl sm_no) (
  kc_case (P := P) (kc_se c_Rd_isReadWell_19 (sm_goto d_Rd_isReadWell_19 (by decide))) (
  kc_case (P := P) (kc_se c_Rd_isReadWell_18 (sm_iconst d_Rd_isReadWell_18 (by decide))) (
  kc_case (P := P) (kc_se rfl sm_no) (
  kc_case (P := P) (kc_se rfl sm_no) (
  kc_case (P := P) (kc_se c_Rd_isReadWell_15 (sm_cm_ne d_Rd_isReadWell_15 (by decide))) (
  kc_case (P := P) (kc_se rfl sm_no) (
  kc_case (P := P) (kc_se rfl sm_no) (
  kc_case (P := P) (kc_se c_Rd_isReadWell_12 (sm_get (ci := 1) (C := "DirectoryDesk$Reader") (F := kF_Rd) rfl kin_Rd (Nat.le_of_ble_eq_true rfl) d_Rd_isReadWell_12 (kw1 33 rfl rfl))) (
  kc_case (P := P) (kc_se c_Rd_isReadWell_11 (sm_aload_n d_Rd_isReadWell_11 rfl)) (
  kc_case (P := P) (kc_se rfl sm_no) (
  kc_case (P := P) (kc_se rfl sm_no) (
  kc_case (P := P) (kc_se c_Rd_isReadWell_8 (sm_get (ci := 1) (C := "DirectoryDesk$Reader") (F := kF_Rd) rfl kin_Rd (Nat.le_of_ble_eq_true rfl) d_Rd_isReadWell_8 (kw1 32 rfl rfl))) (
  kc_case (P := P) (kc_se c_Rd_isReadWell_7 (sm_aload_n d_Rd_isReadWell_7 rfl)) (
  kc_case (P := P) (kc_se rfl sm_no) (
  kc_case (P := P) (kc_se rfl sm_no) (
  kc_case (P := P) (kc_se c_Rd_isReadWell_4 (sm_if_ne d_Rd_isReadWell_4 (by decide))) (
  kc_case (P := P) (kc_se rfl sm_no) (
  kc_case (P := P) (kc_se rfl sm_no) (
  kc_case (P := P) (kc_se c_Rd_isReadWell_1 (sm_get (ci := 1) (C := "DirectoryDesk$Reader") (F := kF_Rd) rfl kin_Rd (Nat.le_of_ble_eq_true rfl) d_Rd_isReadWell_1 (kw1 35 rfl rfl))) (
  kc_case (P := P) (kc_se c_Rd_isReadWell_0 (sm_aload_n d_Rd_isReadWell_0 rfl)) (
  kc_case0))))))))))))))))))))))))
theorem ka_nth_no_Rd_isReadWell (pc : Nat) (h : 24 ≤ pc) : ct_Rd_isReadWell pc = ka_no := ka_nth_ge _ pc (Nat.le_trans (Nat.le_of_eq (by rfl)) h)
theorem s_Rd_isReadWell (pc : Nat) : kc_Sim kt kw_A kw_N kt_cl kt_En "DirectoryDesk$Reader" prog_8_method_8_code 1 (some .boolean) "isReadWell" none pc (ct_Rd_isReadWell pc) := (Nat.lt_or_ge pc 24).elim (s_Rd_isReadWell_24 pc) (fun h => kc_se (ka_nth_no_Rd_isReadWell pc h) sm_no)
def cl_Rd_nextTag_0 : List kc_A := [ka_al 0 1, ka_cv 30 0 1 0 0, ka_no, ka_no, ka_if (fun x => x = 0) 19, ka_no, ka_no, ka_al 0 1, ka_get 1 0, ka_no, ka_no, ka_al 0 1, ka_get 1 2, ka_no, ka_no, ka_iald, ka_goto 20, ka_no, ka_no, ka_ci (-1) 1, ka_ri]
def ct_Rd_nextTag : Nat → kc_A := fun pc => ka_nth (cl_Rd_nextTag_0) pc
set_option maxRecDepth 100000 in
theorem c_Rd_nextTag_0 : ct_Rd_nextTag 0 = ka_al 0 1 := rfl
theorem d_Rd_nextTag_0 : decode prog_8_method_9_code 0 = .ok (.aload_n 0, 1) := by decide +kernel
set_option maxRecDepth 100000 in
theorem c_Rd_nextTag_1 : ct_Rd_nextTag 1 = ka_cv 30 0 1 0 0 := rfl
theorem d_Rd_nextTag_1 : decode prog_8_method_9_code 1 = .ok (.invokevirtual 43, 3) := by decide +kernel
set_option maxRecDepth 100000 in
theorem c_Rd_nextTag_4 : ct_Rd_nextTag 4 = ka_if (fun x => x = 0) 19 := rfl
theorem d_Rd_nextTag_4 : decode prog_8_method_9_code 4 = .ok (.ifCond .eq 15, 3) := by decide +kernel
set_option maxRecDepth 100000 in
theorem c_Rd_nextTag_7 : ct_Rd_nextTag 7 = ka_al 0 1 := rfl
theorem d_Rd_nextTag_7 : decode prog_8_method_9_code 7 = .ok (.aload_n 0, 1) := by decide +kernel
set_option maxRecDepth 100000 in
theorem c_Rd_nextTag_8 : ct_Rd_nextTag 8 = ka_get 1 0 := rfl
theorem d_Rd_nextTag_8 : decode prog_8_method_9_code 8 = .ok (.getfield 9, 3) := by decide +kernel
set_option maxRecDepth 100000 in
theorem c_Rd_nextTag_11 : ct_Rd_nextTag 11 = ka_al 0 1 := rfl
theorem d_Rd_nextTag_11 : decode prog_8_method_9_code 11 = .ok (.aload_n 0, 1) := by decide +kernel
set_option maxRecDepth 100000 in
theorem c_Rd_nextTag_12 : ct_Rd_nextTag 12 = ka_get 1 2 := rfl
theorem d_Rd_nextTag_12 : decode prog_8_method_9_code 12 = .ok (.getfield 19, 3) := by decide +kernel
set_option maxRecDepth 100000 in
theorem c_Rd_nextTag_15 : ct_Rd_nextTag 15 = ka_iald := rfl
theorem d_Rd_nextTag_15 : decode prog_8_method_9_code 15 = .ok (.iaload, 1) := by decide +kernel
set_option maxRecDepth 100000 in
theorem c_Rd_nextTag_16 : ct_Rd_nextTag 16 = ka_goto 20 := rfl
theorem d_Rd_nextTag_16 : decode prog_8_method_9_code 16 = .ok (.goto 4, 3) := by decide +kernel
set_option maxRecDepth 100000 in
theorem c_Rd_nextTag_19 : ct_Rd_nextTag 19 = ka_ci (-1) 1 := rfl
theorem d_Rd_nextTag_19 : decode prog_8_method_9_code 19 = .ok (.iconst (-1), 1) := by decide +kernel
set_option maxRecDepth 100000 in
theorem c_Rd_nextTag_20 : ct_Rd_nextTag 20 = ka_ri := rfl
theorem d_Rd_nextTag_20 : decode prog_8_method_9_code 20 = .ok (.ireturn, 1) := by decide +kernel
set_option maxRecDepth 100000 in
set_option maxHeartbeats 4000000 in
theorem s_Rd_nextTag_21 : ∀ pc, pc < 21 → kc_Sim kt kw_A kw_N kt_cl kt_En "DirectoryDesk$Reader" prog_8_method_9_code 1 (some .int) "nextTag" none pc (ct_Rd_nextTag pc) := by
  let P : Nat → Prop := fun pc => kc_Sim kt kw_A kw_N kt_cl kt_En "DirectoryDesk$Reader" prog_8_method_9_code 1 (some .int) "nextTag" none pc (ct_Rd_nextTag pc)
  exact kc_case (P := P) (kc_se c_Rd_nextTag_20 (sm_ri d_Rd_nextTag_20 rfl)) (
  kc_case (P := P) (kc_se c_Rd_nextTag_19 (sm_iconst d_Rd_nextTag_19 (by decide))) (
  kc_case (P := P) (kc_se rfl sm_no) (
  kc_case (P := P) (kc_se rfl sm_no) (
  kc_case (P := P) (kc_se c_Rd_nextTag_16 (sm_goto d_Rd_nextTag_16 (by decide))) (
  kc_case (P := P) (kc_se c_Rd_nextTag_15 (sm_iald d_Rd_nextTag_15)) (
  kc_case (P := P) (kc_se rfl sm_no) (
  kc_case (P := P) (kc_se rfl sm_no) (
  kc_case (P := P) (kc_se c_Rd_nextTag_12 (sm_get (ci := 1) (C := "DirectoryDesk$Reader") (F := kF_Rd) rfl kin_Rd (Nat.le_of_ble_eq_true rfl) d_Rd_nextTag_12 (kw1 32 rfl rfl))) (
  kc_case (P := P) (kc_se c_Rd_nextTag_11 (sm_aload_n d_Rd_nextTag_11 rfl)) (
  kc_case (P := P) (kc_se rfl sm_no) (
  kc_case (P := P) (kc_se rfl sm_no) (
  kc_case (P := P) (kc_se c_Rd_nextTag_8 (sm_get (ci := 1) (C := "DirectoryDesk$Reader") (F := kF_Rd) rfl kin_Rd (Nat.le_of_ble_eq_true rfl) d_Rd_nextTag_8 (kw1 28 rfl rfl))) (
  kc_case (P := P) (kc_se c_Rd_nextTag_7 (sm_aload_n d_Rd_nextTag_7 rfl)) (
  kc_case (P := P) (kc_se rfl sm_no) (
  kc_case (P := P) (kc_se rfl sm_no) (
  kc_case (P := P) (kc_se c_Rd_nextTag_4 (sm_if_eq d_Rd_nextTag_4 (by decide))) (
  kc_case (P := P) (kc_se rfl sm_no) (
  kc_case (P := P) (kc_se rfl sm_no) (
  kc_case (P := P) (kc_se c_Rd_nextTag_1 (sm_cv (j := 30) rfl rfl kw_o kw_g wc_Rd_hasMore (Nat.le_of_ble_eq_true rfl) hd_Rd_hasMore (ci := 1) (F := kF_Rd) (N := 8) rfl (kw2 83 rfl rfl) wi_Rd_hasMore ws_Rd_hasMore wn_Rd_hasMore d_Rd_nextTag_1)) (
  kc_case (P := P) (kc_se c_Rd_nextTag_0 (sm_aload_n d_Rd_nextTag_0 rfl)) (
  kc_case0)))))))))))))))))))))
theorem ka_nth_no_Rd_nextTag (pc : Nat) (h : 21 ≤ pc) : ct_Rd_nextTag pc = ka_no := ka_nth_ge _ pc (Nat.le_trans (Nat.le_of_eq (by rfl)) h)
theorem s_Rd_nextTag (pc : Nat) : kc_Sim kt kw_A kw_N kt_cl kt_En "DirectoryDesk$Reader" prog_8_method_9_code 1 (some .int) "nextTag" none pc (ct_Rd_nextTag pc) := (Nat.lt_or_ge pc 21).elim (s_Rd_nextTag_21 pc) (fun h => kc_se (ka_nth_no_Rd_nextTag pc h) sm_no)
def cl_Rd_number_0 : List kc_A := [ka_al 0 1, ka_ci (nI 2) 1, ka_cv 37 1 1 0 0, ka_no, ka_no, ka_al 0 1, ka_get 1 7, ka_no, ka_no, ka_al 0 1, ka_get 1 6, ka_no, ka_no, ka_ii (fun x y => x - y), ka_is 1 1, ka_il 1 1, ka_ci (nI 1) 1, ka_cm (fun x y => ¬ x = y) 31, ka_no, ka_no, ka_al 0 1, ka_get 1 0, ka_no, ka_no, ka_al 0 1, ka_get 1 6, ka_no, ka_no, ka_iald, ka_i1 (fun x => x.toInt8.toInt32), ka_ri, ka_il 1 1, ka_ci (nI 2) 1, ka_cm (fun x y => ¬ x = y) 62, ka_no, ka_no, ka_al 0 1, ka_get 1 0, ka_no, ka_no, ka_al 0 1, ka_get 1 6, ka_no, ka_no, ka_iald, ka_ci (nI 8) 2, ka_no, ka_ii (fun x y => x <<< (y &&& 31)), ka_al 0 1, ka_get 1 0, ka_no, ka_no, ka_al 0 1, ka_get 1 6, ka_no, ka_no, ka_ci (nI 1) 1, ka_ii (fun x y => x + y), ka_iald, ka_ii (fun x y => x ||| y)]
def cl_Rd_number_1 : List kc_A := [ka_i1 (fun x => x.toInt16.toInt32), ka_ri, ka_al 0 1, ka_ci (nI 1) 1, ka_put 1 4 .boolean, ka_no, ka_no, ka_ci (nI 0) 1, ka_ri]
def ct_Rd_number : Nat → kc_A := fun pc => ka_nth (cl_Rd_number_0 ++ (cl_Rd_number_1)) pc
set_option maxRecDepth 100000 in
theorem c_Rd_number_0 : ct_Rd_number 0 = ka_al 0 1 := rfl
theorem d_Rd_number_0 : decode prog_8_method_10_code 0 = .ok (.aload_n 0, 1) := by decide +kernel
set_option maxRecDepth 100000 in
theorem c_Rd_number_1 : ct_Rd_number 1 = ka_ci (nI 2) 1 := rfl
theorem d_Rd_number_1 : decode prog_8_method_10_code 1 = .ok (.iconst 2, 1) := by decide +kernel
set_option maxRecDepth 100000 in
theorem c_Rd_number_2 : ct_Rd_number 2 = ka_cv 37 1 1 0 0 := rfl
theorem d_Rd_number_2 : decode prog_8_method_10_code 2 = .ok (.invokevirtual 47, 3) := by decide +kernel
set_option maxRecDepth 100000 in
theorem c_Rd_number_5 : ct_Rd_number 5 = ka_al 0 1 := rfl
theorem d_Rd_number_5 : decode prog_8_method_10_code 5 = .ok (.aload_n 0, 1) := by decide +kernel
set_option maxRecDepth 100000 in
theorem c_Rd_number_6 : ct_Rd_number 6 = ka_get 1 7 := rfl
theorem d_Rd_number_6 : decode prog_8_method_10_code 6 = .ok (.getfield 51, 3) := by decide +kernel
set_option maxRecDepth 100000 in
theorem c_Rd_number_9 : ct_Rd_number 9 = ka_al 0 1 := rfl
theorem d_Rd_number_9 : decode prog_8_method_10_code 9 = .ok (.aload_n 0, 1) := by decide +kernel
set_option maxRecDepth 100000 in
theorem c_Rd_number_10 : ct_Rd_number 10 = ka_get 1 6 := rfl
theorem d_Rd_number_10 : decode prog_8_method_10_code 10 = .ok (.getfield 54, 3) := by decide +kernel
set_option maxRecDepth 100000 in
theorem c_Rd_number_13 : ct_Rd_number 13 = ka_ii (fun x y => x - y) := rfl
theorem d_Rd_number_13 : decode prog_8_method_10_code 13 = .ok (.isub, 1) := by decide +kernel
set_option maxRecDepth 100000 in
theorem c_Rd_number_14 : ct_Rd_number 14 = ka_is 1 1 := rfl
theorem d_Rd_number_14 : decode prog_8_method_10_code 14 = .ok (.istore_n 1, 1) := by decide +kernel
set_option maxRecDepth 100000 in
theorem c_Rd_number_15 : ct_Rd_number 15 = ka_il 1 1 := rfl
theorem d_Rd_number_15 : decode prog_8_method_10_code 15 = .ok (.iload_n 1, 1) := by decide +kernel
set_option maxRecDepth 100000 in
theorem c_Rd_number_16 : ct_Rd_number 16 = ka_ci (nI 1) 1 := rfl
theorem d_Rd_number_16 : decode prog_8_method_10_code 16 = .ok (.iconst 1, 1) := by decide +kernel
set_option maxRecDepth 100000 in
theorem c_Rd_number_17 : ct_Rd_number 17 = ka_cm (fun x y => ¬ x = y) 31 := rfl
theorem d_Rd_number_17 : decode prog_8_method_10_code 17 = .ok (.if_icmp .ne 14, 3) := by decide +kernel
set_option maxRecDepth 100000 in
theorem c_Rd_number_20 : ct_Rd_number 20 = ka_al 0 1 := rfl
theorem d_Rd_number_20 : decode prog_8_method_10_code 20 = .ok (.aload_n 0, 1) := by decide +kernel
set_option maxRecDepth 100000 in
theorem c_Rd_number_21 : ct_Rd_number 21 = ka_get 1 0 := rfl
theorem d_Rd_number_21 : decode prog_8_method_10_code 21 = .ok (.getfield 9, 3) := by decide +kernel
set_option maxRecDepth 100000 in
theorem c_Rd_number_24 : ct_Rd_number 24 = ka_al 0 1 := rfl
theorem d_Rd_number_24 : decode prog_8_method_10_code 24 = .ok (.aload_n 0, 1) := by decide +kernel
set_option maxRecDepth 100000 in
theorem c_Rd_number_25 : ct_Rd_number 25 = ka_get 1 6 := rfl
theorem d_Rd_number_25 : decode prog_8_method_10_code 25 = .ok (.getfield 54, 3) := by decide +kernel
set_option maxRecDepth 100000 in
theorem c_Rd_number_28 : ct_Rd_number 28 = ka_iald := rfl
theorem d_Rd_number_28 : decode prog_8_method_10_code 28 = .ok (.iaload, 1) := by decide +kernel
set_option maxRecDepth 100000 in
theorem c_Rd_number_29 : ct_Rd_number 29 = ka_i1 (fun x => x.toInt8.toInt32) := rfl
theorem d_Rd_number_29 : decode prog_8_method_10_code 29 = .ok (.i2b, 1) := by decide +kernel
set_option maxRecDepth 100000 in
theorem c_Rd_number_30 : ct_Rd_number 30 = ka_ri := rfl
theorem d_Rd_number_30 : decode prog_8_method_10_code 30 = .ok (.ireturn, 1) := by decide +kernel
set_option maxRecDepth 100000 in
theorem c_Rd_number_31 : ct_Rd_number 31 = ka_il 1 1 := rfl
theorem d_Rd_number_31 : decode prog_8_method_10_code 31 = .ok (.iload_n 1, 1) := by decide +kernel
set_option maxRecDepth 100000 in
theorem c_Rd_number_32 : ct_Rd_number 32 = ka_ci (nI 2) 1 := rfl
theorem d_Rd_number_32 : decode prog_8_method_10_code 32 = .ok (.iconst 2, 1) := by decide +kernel
set_option maxRecDepth 100000 in
theorem c_Rd_number_33 : ct_Rd_number 33 = ka_cm (fun x y => ¬ x = y) 62 := rfl
theorem d_Rd_number_33 : decode prog_8_method_10_code 33 = .ok (.if_icmp .ne 29, 3) := by decide +kernel
set_option maxRecDepth 100000 in
theorem c_Rd_number_36 : ct_Rd_number 36 = ka_al 0 1 := rfl
theorem d_Rd_number_36 : decode prog_8_method_10_code 36 = .ok (.aload_n 0, 1) := by decide +kernel
set_option maxRecDepth 100000 in
theorem c_Rd_number_37 : ct_Rd_number 37 = ka_get 1 0 := rfl
theorem d_Rd_number_37 : decode prog_8_method_10_code 37 = .ok (.getfield 9, 3) := by decide +kernel
set_option maxRecDepth 100000 in
theorem c_Rd_number_40 : ct_Rd_number 40 = ka_al 0 1 := rfl
theorem d_Rd_number_40 : decode prog_8_method_10_code 40 = .ok (.aload_n 0, 1) := by decide +kernel
set_option maxRecDepth 100000 in
theorem c_Rd_number_41 : ct_Rd_number 41 = ka_get 1 6 := rfl
theorem d_Rd_number_41 : decode prog_8_method_10_code 41 = .ok (.getfield 54, 3) := by decide +kernel
set_option maxRecDepth 100000 in
theorem c_Rd_number_44 : ct_Rd_number 44 = ka_iald := rfl
theorem d_Rd_number_44 : decode prog_8_method_10_code 44 = .ok (.iaload, 1) := by decide +kernel
set_option maxRecDepth 100000 in
theorem c_Rd_number_45 : ct_Rd_number 45 = ka_ci (nI 8) 2 := rfl
theorem d_Rd_number_45 : decode prog_8_method_10_code 45 = .ok (.bipush 8, 2) := by decide +kernel
set_option maxRecDepth 100000 in
theorem c_Rd_number_47 : ct_Rd_number 47 = ka_ii (fun x y => x <<< (y &&& 31)) := rfl
theorem d_Rd_number_47 : decode prog_8_method_10_code 47 = .ok (.ishl, 1) := by decide +kernel
set_option maxRecDepth 100000 in
theorem c_Rd_number_48 : ct_Rd_number 48 = ka_al 0 1 := rfl
theorem d_Rd_number_48 : decode prog_8_method_10_code 48 = .ok (.aload_n 0, 1) := by decide +kernel
set_option maxRecDepth 100000 in
theorem c_Rd_number_49 : ct_Rd_number 49 = ka_get 1 0 := rfl
theorem d_Rd_number_49 : decode prog_8_method_10_code 49 = .ok (.getfield 9, 3) := by decide +kernel
set_option maxRecDepth 100000 in
theorem c_Rd_number_52 : ct_Rd_number 52 = ka_al 0 1 := rfl
theorem d_Rd_number_52 : decode prog_8_method_10_code 52 = .ok (.aload_n 0, 1) := by decide +kernel
set_option maxRecDepth 100000 in
theorem c_Rd_number_53 : ct_Rd_number 53 = ka_get 1 6 := rfl
theorem d_Rd_number_53 : decode prog_8_method_10_code 53 = .ok (.getfield 54, 3) := by decide +kernel
set_option maxRecDepth 100000 in
theorem c_Rd_number_56 : ct_Rd_number 56 = ka_ci (nI 1) 1 := rfl
theorem d_Rd_number_56 : decode prog_8_method_10_code 56 = .ok (.iconst 1, 1) := by decide +kernel
set_option maxRecDepth 100000 in
theorem c_Rd_number_57 : ct_Rd_number 57 = ka_ii (fun x y => x + y) := rfl
theorem d_Rd_number_57 : decode prog_8_method_10_code 57 = .ok (.iadd, 1) := by decide +kernel
set_option maxRecDepth 100000 in
theorem c_Rd_number_58 : ct_Rd_number 58 = ka_iald := rfl
theorem d_Rd_number_58 : decode prog_8_method_10_code 58 = .ok (.iaload, 1) := by decide +kernel
set_option maxRecDepth 100000 in
theorem c_Rd_number_59 : ct_Rd_number 59 = ka_ii (fun x y => x ||| y) := rfl
theorem d_Rd_number_59 : decode prog_8_method_10_code 59 = .ok (.ior, 1) := by decide +kernel
set_option maxRecDepth 100000 in
theorem c_Rd_number_60 : ct_Rd_number 60 = ka_i1 (fun x => x.toInt16.toInt32) := rfl
theorem d_Rd_number_60 : decode prog_8_method_10_code 60 = .ok (.i2s, 1) := by decide +kernel
set_option maxRecDepth 100000 in
theorem c_Rd_number_61 : ct_Rd_number 61 = ka_ri := rfl
theorem d_Rd_number_61 : decode prog_8_method_10_code 61 = .ok (.ireturn, 1) := by decide +kernel
set_option maxRecDepth 100000 in
theorem c_Rd_number_62 : ct_Rd_number 62 = ka_al 0 1 := rfl
theorem d_Rd_number_62 : decode prog_8_method_10_code 62 = .ok (.aload_n 0, 1) := by decide +kernel
set_option maxRecDepth 100000 in
theorem c_Rd_number_63 : ct_Rd_number 63 = ka_ci (nI 1) 1 := rfl
theorem d_Rd_number_63 : decode prog_8_method_10_code 63 = .ok (.iconst 1, 1) := by decide +kernel
set_option maxRecDepth 100000 in
theorem c_Rd_number_64 : ct_Rd_number 64 = ka_put 1 4 .boolean := rfl
theorem d_Rd_number_64 : decode prog_8_method_10_code 64 = .ok (.putfield 25, 3) := by decide +kernel
set_option maxRecDepth 100000 in
theorem c_Rd_number_67 : ct_Rd_number 67 = ka_ci (nI 0) 1 := rfl
theorem d_Rd_number_67 : decode prog_8_method_10_code 67 = .ok (.iconst 0, 1) := by decide +kernel
set_option maxRecDepth 100000 in
theorem c_Rd_number_68 : ct_Rd_number 68 = ka_ri := rfl
theorem d_Rd_number_68 : decode prog_8_method_10_code 68 = .ok (.ireturn, 1) := by decide +kernel
set_option maxRecDepth 100000 in
set_option maxHeartbeats 4000000 in
theorem s_Rd_number_60 : ∀ pc, pc < 60 → kc_Sim kt kw_A kw_N kt_cl kt_En "DirectoryDesk$Reader" prog_8_method_10_code 2 (some .int) "number" none pc (ct_Rd_number pc) := by
  let P : Nat → Prop := fun pc => kc_Sim kt kw_A kw_N kt_cl kt_En "DirectoryDesk$Reader" prog_8_method_10_code 2 (some .int) "number" none pc (ct_Rd_number pc)
  exact kc_case (P := P) (kc_se c_Rd_number_59 (sm_ior d_Rd_number_59)) (
  kc_case (P := P) (kc_se c_Rd_number_58 (sm_iald d_Rd_number_58)) (
  kc_case (P := P) (kc_se c_Rd_number_57 (sm_iadd d_Rd_number_57)) (
  kc_case (P := P) (kc_se c_Rd_number_56 (sm_iconst d_Rd_number_56 (by decide))) (
  kc_case (P := P) (kc_se rfl sm_no) (
  kc_case (P := P) (kc_se rfl sm_no) (
  kc_case (P := P) (kc_se c_Rd_number_53 (sm_get (ci := 1) (C := "DirectoryDesk$Reader") (F := kF_Rd) rfl kin_Rd (Nat.le_of_ble_eq_true rfl) d_Rd_number_53 (kw1 40 rfl rfl))) (
  kc_case (P := P) (kc_se c_Rd_number_52 (sm_aload_n d_Rd_number_52 rfl)) (
  kc_case (P := P) (kc_se rfl sm_no) (
  kc_case (P := P) (kc_se rfl sm_no) (
  kc_case (P := P) (kc_se c_Rd_number_49 (sm_get (ci := 1) (C := "DirectoryDesk$Reader") (F := kF_Rd) rfl kin_Rd (Nat.le_of_ble_eq_true rfl) d_Rd_number_49 (kw1 28 rfl rfl))) (
  kc_case (P := P) (kc_se c_Rd_number_48 (sm_aload_n d_Rd_number_48 rfl)) (
  kc_case (P := P) (kc_se c_Rd_number_47 (sm_ishl d_Rd_number_47)) (
  kc_case (P := P) (kc_se rfl sm_no) (
  kc_case (P := P) (kc_se c_Rd_number_45 (sm_bipush d_Rd_number_45 (by decide))) (
  kc_case (P := P) (kc_se c_Rd_number_44 (sm_iald d_Rd_number_44)) (
  kc_case (P := P) (kc_se rfl sm_no) (
  kc_case (P := P) (kc_se rfl sm_no) (
  kc_case (P := P) (kc_se c_Rd_number_41 (sm_get (ci := 1) (C := "DirectoryDesk$Reader") (F := kF_Rd) rfl kin_Rd (Nat.le_of_ble_eq_true rfl) d_Rd_number_41 (kw1 40 rfl rfl))) (
  kc_case (P := P) (kc_se c_Rd_number_40 (sm_aload_n d_Rd_number_40 rfl)) (
  kc_case (P := P) (kc_se rfl sm_no) (
  kc_case (P := P) (kc_se rfl sm_no) (
  kc_case (P := P) (kc_se c_Rd_number_37 (sm_get (ci := 1) (C := "DirectoryDesk$Reader") (F := kF_Rd) rfl kin_Rd (Nat.le_of_ble_eq_true rfl) d_Rd_number_37 (kw1 28 rfl rfl))) (
  kc_case (P := P) (kc_se c_Rd_number_36 (sm_aload_n d_Rd_number_36 rfl)) (
  kc_case (P := P) (kc_se rfl sm_no) (
  kc_case (P := P) (kc_se rfl sm_no) (
  kc_case (P := P) (kc_se c_Rd_number_33 (sm_cm_ne d_Rd_number_33 (by decide))) (
  kc_case (P := P) (kc_se c_Rd_number_32 (sm_iconst d_Rd_number_32 (by decide))) (
  kc_case (P := P) (kc_se c_Rd_number_31 (sm_iload_n d_Rd_number_31 rfl)) (
  kc_case (P := P) (kc_se c_Rd_number_30 (sm_ri d_Rd_number_30 rfl)) (
  kc_case (P := P) (kc_se c_Rd_number_29 (sm_i2b d_Rd_number_29)) (
  kc_case (P := P) (kc_se c_Rd_number_28 (sm_iald d_Rd_number_28)) (
  kc_case (P := P) (kc_se rfl sm_no) (
  kc_case (P := P) (kc_se rfl sm_no) (
  kc_case (P := P) (kc_se c_Rd_number_25 (sm_get (ci := 1) (C := "DirectoryDesk$Reader") (F := kF_Rd) rfl kin_Rd (Nat.le_of_ble_eq_true rfl) d_Rd_number_25 (kw1 40 rfl rfl))) (
  kc_case (P := P) (kc_se c_Rd_number_24 (sm_aload_n d_Rd_number_24 rfl)) (
  kc_case (P := P) (kc_se rfl sm_no) (
  kc_case (P := P) (kc_se rfl sm_no) (
  kc_case (P := P) (kc_se c_Rd_number_21 (sm_get (ci := 1) (C := "DirectoryDesk$Reader") (F := kF_Rd) rfl kin_Rd (Nat.le_of_ble_eq_true rfl) d_Rd_number_21 (kw1 28 rfl rfl))) (
  kc_case (P := P) (kc_se c_Rd_number_20 (sm_aload_n d_Rd_number_20 rfl)) (
  kc_case (P := P) (kc_se rfl sm_no) (
  kc_case (P := P) (kc_se rfl sm_no) (
  kc_case (P := P) (kc_se c_Rd_number_17 (sm_cm_ne d_Rd_number_17 (by decide))) (
  kc_case (P := P) (kc_se c_Rd_number_16 (sm_iconst d_Rd_number_16 (by decide))) (
  kc_case (P := P) (kc_se c_Rd_number_15 (sm_iload_n d_Rd_number_15 rfl)) (
  kc_case (P := P) (kc_se c_Rd_number_14 (sm_istore_n d_Rd_number_14 rfl (Nat.le_of_ble_eq_true rfl))) (
  kc_case (P := P) (kc_se c_Rd_number_13 (sm_isub d_Rd_number_13)) (
  kc_case (P := P) (kc_se rfl sm_no) (
  kc_case (P := P) (kc_se rfl sm_no) (
  kc_case (P := P) (kc_se c_Rd_number_10 (sm_get (ci := 1) (C := "DirectoryDesk$Reader") (F := kF_Rd) rfl kin_Rd (Nat.le_of_ble_eq_true rfl) d_Rd_number_10 (kw1 40 rfl rfl))) (
  kc_case (P := P) (kc_se c_Rd_number_9 (sm_aload_n d_Rd_number_9 rfl)) (
  kc_case (P := P) (kc_se rfl sm_no) (
  kc_case (P := P) (kc_se rfl sm_no) (
  kc_case (P := P) (kc_se c_Rd_number_6 (sm_get (ci := 1) (C := "DirectoryDesk$Reader") (F := kF_Rd) rfl kin_Rd (Nat.le_of_ble_eq_true rfl) d_Rd_number_6 (kw1 43 rfl rfl))) (
  kc_case (P := P) (kc_se c_Rd_number_5 (sm_aload_n d_Rd_number_5 rfl)) (
  kc_case (P := P) (kc_se rfl sm_no) (
  kc_case (P := P) (kc_se rfl sm_no) (
  kc_case (P := P) (kc_se c_Rd_number_2 (sm_cv (j := 37) rfl rfl kw_o kw_g wc_Rd_span (Nat.le_of_ble_eq_true rfl) hd_Rd_span (ci := 1) (F := kF_Rd) (N := 8) rfl (kw2 67 rfl rfl) wi_Rd_span ws_Rd_span wn_Rd_span d_Rd_number_2)) (
  kc_case (P := P) (kc_se c_Rd_number_1 (sm_iconst d_Rd_number_1 (by decide))) (
  kc_case (P := P) (kc_se c_Rd_number_0 (sm_aload_n d_Rd_number_0 rfl)) (
  kc_case0))))))))))))))))))))))))))))))))))))))))))))))))))))))))))))
set_option maxRecDepth 100000 in
set_option maxHeartbeats 4000000 in
theorem s_Rd_number_69 : ∀ pc, pc < 69 → kc_Sim kt kw_A kw_N kt_cl kt_En "DirectoryDesk$Reader" prog_8_method_10_code 2 (some .int) "number" none pc (ct_Rd_number pc) := by
  let P : Nat → Prop := fun pc => kc_Sim kt kw_A kw_N kt_cl kt_En "DirectoryDesk$Reader" prog_8_method_10_code 2 (some .int) "number" none pc (ct_Rd_number pc)
  exact kc_case (P := P) (kc_se c_Rd_number_68 (sm_ri d_Rd_number_68 rfl)) (
  kc_case (P := P) (kc_se c_Rd_number_67 (sm_iconst d_Rd_number_67 (by decide))) (
  kc_case (P := P) (kc_se rfl sm_no) (
  kc_case (P := P) (kc_se rfl sm_no) (
  kc_case (P := P) (kc_se c_Rd_number_64 (sm_put (ci := 1) (C := "DirectoryDesk$Reader") (F := kF_Rd) rfl kin_Rd kty_Rd ktk_Rd knm_Rd (Nat.le_of_ble_eq_true rfl) (by decide +kernel) d_Rd_number_64 (kw1 35 rfl rfl) rfl)) (
  kc_case (P := P) (kc_se c_Rd_number_63 (sm_iconst d_Rd_number_63 (by decide))) (
  kc_case (P := P) (kc_se c_Rd_number_62 (sm_aload_n d_Rd_number_62 rfl)) (
  kc_case (P := P) (kc_se c_Rd_number_61 (sm_ri d_Rd_number_61 rfl)) (
  kc_case (P := P) (kc_se c_Rd_number_60 (sm_i2s d_Rd_number_60)) (
  s_Rd_number_60)))))))))
theorem ka_nth_no_Rd_number (pc : Nat) (h : 69 ≤ pc) : ct_Rd_number pc = ka_no := ka_nth_ge _ pc (Nat.le_trans (Nat.le_of_eq (by rfl)) h)
theorem s_Rd_number (pc : Nat) : kc_Sim kt kw_A kw_N kt_cl kt_En "DirectoryDesk$Reader" prog_8_method_10_code 2 (some .int) "number" none pc (ct_Rd_number pc) := (Nat.lt_or_ge pc 69).elim (s_Rd_number_69 pc) (fun h => kc_se (ka_nth_no_Rd_number pc h) sm_no)
def cl_Rd_choice_0 : List kc_A := [ka_al 0 1, ka_ci (nI 10) 2, ka_no, ka_cv 36 1 1 0 0, ka_no, ka_no, ka_is 2 1, ka_il 2 1, ka_il 1 1, ka_cm (fun x y => x ≤ y) 17, ka_no, ka_no, ka_al 0 1, ka_ci (nI 1) 1, ka_put 1 4 .boolean, ka_no, ka_no, ka_il 2 1, ka_ri]
def ct_Rd_choice : Nat → kc_A := fun pc => ka_nth (cl_Rd_choice_0) pc
set_option maxRecDepth 100000 in
theorem c_Rd_choice_0 : ct_Rd_choice 0 = ka_al 0 1 := rfl
theorem d_Rd_choice_0 : decode prog_8_method_11_code 0 = .ok (.aload_n 0, 1) := by decide +kernel
set_option maxRecDepth 100000 in
theorem c_Rd_choice_1 : ct_Rd_choice 1 = ka_ci (nI 10) 2 := rfl
theorem d_Rd_choice_1 : decode prog_8_method_11_code 1 = .ok (.bipush 10, 2) := by decide +kernel
set_option maxRecDepth 100000 in
theorem c_Rd_choice_3 : ct_Rd_choice 3 = ka_cv 36 1 1 0 0 := rfl
theorem d_Rd_choice_3 : decode prog_8_method_11_code 3 = .ok (.invokevirtual 57, 3) := by decide +kernel
set_option maxRecDepth 100000 in
theorem c_Rd_choice_6 : ct_Rd_choice 6 = ka_is 2 1 := rfl
theorem d_Rd_choice_6 : decode prog_8_method_11_code 6 = .ok (.istore_n 2, 1) := by decide +kernel
set_option maxRecDepth 100000 in
theorem c_Rd_choice_7 : ct_Rd_choice 7 = ka_il 2 1 := rfl
theorem d_Rd_choice_7 : decode prog_8_method_11_code 7 = .ok (.iload_n 2, 1) := by decide +kernel
set_option maxRecDepth 100000 in
theorem c_Rd_choice_8 : ct_Rd_choice 8 = ka_il 1 1 := rfl
theorem d_Rd_choice_8 : decode prog_8_method_11_code 8 = .ok (.iload_n 1, 1) := by decide +kernel
set_option maxRecDepth 100000 in
theorem c_Rd_choice_9 : ct_Rd_choice 9 = ka_cm (fun x y => x ≤ y) 17 := rfl
theorem d_Rd_choice_9 : decode prog_8_method_11_code 9 = .ok (.if_icmp .le 8, 3) := by decide +kernel
set_option maxRecDepth 100000 in
theorem c_Rd_choice_12 : ct_Rd_choice 12 = ka_al 0 1 := rfl
theorem d_Rd_choice_12 : decode prog_8_method_11_code 12 = .ok (.aload_n 0, 1) := by decide +kernel
set_option maxRecDepth 100000 in
theorem c_Rd_choice_13 : ct_Rd_choice 13 = ka_ci (nI 1) 1 := rfl
theorem d_Rd_choice_13 : decode prog_8_method_11_code 13 = .ok (.iconst 1, 1) := by decide +kernel
set_option maxRecDepth 100000 in
theorem c_Rd_choice_14 : ct_Rd_choice 14 = ka_put 1 4 .boolean := rfl
theorem d_Rd_choice_14 : decode prog_8_method_11_code 14 = .ok (.putfield 25, 3) := by decide +kernel
set_option maxRecDepth 100000 in
theorem c_Rd_choice_17 : ct_Rd_choice 17 = ka_il 2 1 := rfl
theorem d_Rd_choice_17 : decode prog_8_method_11_code 17 = .ok (.iload_n 2, 1) := by decide +kernel
set_option maxRecDepth 100000 in
theorem c_Rd_choice_18 : ct_Rd_choice 18 = ka_ri := rfl
theorem d_Rd_choice_18 : decode prog_8_method_11_code 18 = .ok (.ireturn, 1) := by decide +kernel
set_option maxRecDepth 100000 in
set_option maxHeartbeats 4000000 in
theorem s_Rd_choice_19 : ∀ pc, pc < 19 → kc_Sim kt kw_A kw_N kt_cl kt_En "DirectoryDesk$Reader" prog_8_method_11_code 3 (some .int) "choice" none pc (ct_Rd_choice pc) := by
  let P : Nat → Prop := fun pc => kc_Sim kt kw_A kw_N kt_cl kt_En "DirectoryDesk$Reader" prog_8_method_11_code 3 (some .int) "choice" none pc (ct_Rd_choice pc)
  exact kc_case (P := P) (kc_se c_Rd_choice_18 (sm_ri d_Rd_choice_18 rfl)) (
  kc_case (P := P) (kc_se c_Rd_choice_17 (sm_iload_n d_Rd_choice_17 rfl)) (
  kc_case (P := P) (kc_se rfl sm_no) (
  kc_case (P := P) (kc_se rfl sm_no) (
  kc_case (P := P) (kc_se c_Rd_choice_14 (sm_put (ci := 1) (C := "DirectoryDesk$Reader") (F := kF_Rd) rfl kin_Rd kty_Rd ktk_Rd knm_Rd (Nat.le_of_ble_eq_true rfl) (by decide +kernel) d_Rd_choice_14 (kw1 35 rfl rfl) rfl)) (
  kc_case (P := P) (kc_se c_Rd_choice_13 (sm_iconst d_Rd_choice_13 (by decide))) (
  kc_case (P := P) (kc_se c_Rd_choice_12 (sm_aload_n d_Rd_choice_12 rfl)) (
  kc_case (P := P) (kc_se rfl sm_no) (
  kc_case (P := P) (kc_se rfl sm_no) (
  kc_case (P := P) (kc_se c_Rd_choice_9 (sm_cm_le d_Rd_choice_9 (by decide))) (
  kc_case (P := P) (kc_se c_Rd_choice_8 (sm_iload_n d_Rd_choice_8 rfl)) (
  kc_case (P := P) (kc_se c_Rd_choice_7 (sm_iload_n d_Rd_choice_7 rfl)) (
  kc_case (P := P) (kc_se c_Rd_choice_6 (sm_istore_n d_Rd_choice_6 rfl (Nat.le_of_ble_eq_true rfl))) (
  kc_case (P := P) (kc_se rfl sm_no) (
  kc_case (P := P) (kc_se rfl sm_no) (
  kc_case (P := P) (kc_se c_Rd_choice_3 (sm_cv (j := 36) rfl rfl kw_o kw_g wc_Rd_single (Nat.le_of_ble_eq_true rfl) hd_Rd_single (ci := 1) (F := kF_Rd) (N := 8) rfl (kw2 152 rfl rfl) wi_Rd_single ws_Rd_single wn_Rd_single d_Rd_choice_3)) (
  kc_case (P := P) (kc_se rfl sm_no) (
  kc_case (P := P) (kc_se c_Rd_choice_1 (sm_bipush d_Rd_choice_1 (by decide))) (
  kc_case (P := P) (kc_se c_Rd_choice_0 (sm_aload_n d_Rd_choice_0 rfl)) (
  kc_case0)))))))))))))))))))
theorem ka_nth_no_Rd_choice (pc : Nat) (h : 19 ≤ pc) : ct_Rd_choice pc = ka_no := ka_nth_ge _ pc (Nat.le_trans (Nat.le_of_eq (by rfl)) h)
theorem s_Rd_choice (pc : Nat) : kc_Sim kt kw_A kw_N kt_cl kt_En "DirectoryDesk$Reader" prog_8_method_11_code 3 (some .int) "choice" none pc (ct_Rd_choice pc) := (Nat.lt_or_ge pc 19).elim (s_Rd_choice_19 pc) (fun h => kc_se (ka_nth_no_Rd_choice pc h) sm_no)
def cl_Rd_flag_0 : List kc_A := [ka_al 0 1, ka_ci (nI 1) 1, ka_cv 36 1 1 0 0, ka_no, ka_no, ka_if (fun x => x = 0) 12, ka_no, ka_no, ka_ci (nI 1) 1, ka_goto 13, ka_no, ka_no, ka_ci (nI 0) 1, ka_rz]
def ct_Rd_flag : Nat → kc_A := fun pc => ka_nth (cl_Rd_flag_0) pc
set_option maxRecDepth 100000 in
theorem c_Rd_flag_0 : ct_Rd_flag 0 = ka_al 0 1 := rfl
theorem d_Rd_flag_0 : decode prog_8_method_12_code 0 = .ok (.aload_n 0, 1) := by decide +kernel
set_option maxRecDepth 100000 in
theorem c_Rd_flag_1 : ct_Rd_flag 1 = ka_ci (nI 1) 1 := rfl
theorem d_Rd_flag_1 : decode prog_8_method_12_code 1 = .ok (.iconst 1, 1) := by decide +kernel
set_option maxRecDepth 100000 in
theorem c_Rd_flag_2 : ct_Rd_flag 2 = ka_cv 36 1 1 0 0 := rfl
theorem d_Rd_flag_2 : decode prog_8_method_12_code 2 = .ok (.invokevirtual 57, 3) := by decide +kernel
set_option maxRecDepth 100000 in
theorem c_Rd_flag_5 : ct_Rd_flag 5 = ka_if (fun x => x = 0) 12 := rfl
theorem d_Rd_flag_5 : decode prog_8_method_12_code 5 = .ok (.ifCond .eq 7, 3) := by decide +kernel
set_option maxRecDepth 100000 in
theorem c_Rd_flag_8 : ct_Rd_flag 8 = ka_ci (nI 1) 1 := rfl
theorem d_Rd_flag_8 : decode prog_8_method_12_code 8 = .ok (.iconst 1, 1) := by decide +kernel
set_option maxRecDepth 100000 in
theorem c_Rd_flag_9 : ct_Rd_flag 9 = ka_goto 13 := rfl
theorem d_Rd_flag_9 : decode prog_8_method_12_code 9 = .ok (.goto 4, 3) := by decide +kernel
set_option maxRecDepth 100000 in
theorem c_Rd_flag_12 : ct_Rd_flag 12 = ka_ci (nI 0) 1 := rfl
theorem d_Rd_flag_12 : decode prog_8_method_12_code 12 = .ok (.iconst 0, 1) := by decide +kernel
set_option maxRecDepth 100000 in
theorem c_Rd_flag_13 : ct_Rd_flag 13 = ka_rz := rfl
theorem d_Rd_flag_13 : decode prog_8_method_12_code 13 = .ok (.ireturn, 1) := by decide +kernel
set_option maxRecDepth 100000 in
set_option maxHeartbeats 4000000 in
theorem s_Rd_flag_14 : ∀ pc, pc < 14 → kc_Sim kt kw_A kw_N kt_cl kt_En "DirectoryDesk$Reader" prog_8_method_12_code 1 (some .boolean) "flag" none pc (ct_Rd_flag pc) := by
  let P : Nat → Prop := fun pc => kc_Sim kt kw_A kw_N kt_cl kt_En "DirectoryDesk$Reader" prog_8_method_12_code 1 (some .boolean) "flag" none pc (ct_Rd_flag pc)
  exact kc_case (P := P) (kc_se c_Rd_flag_13 (sm_rz d_Rd_flag_13 rfl)) (
  kc_case (P := P) (kc_se c_Rd_flag_12 (sm_iconst d_Rd_flag_12 (by decide))) (
  kc_case (P := P) (kc_se rfl sm_no) (
  kc_case (P := P) (kc_se rfl sm_no) (
  kc_case (P := P) (kc_se c_Rd_flag_9 (sm_goto d_Rd_flag_9 (by decide))) (
  kc_case (P := P) (kc_se c_Rd_flag_8 (sm_iconst d_Rd_flag_8 (by decide))) (
  kc_case (P := P) (kc_se rfl sm_no) (
  kc_case (P := P) (kc_se rfl sm_no) (
  kc_case (P := P) (kc_se c_Rd_flag_5 (sm_if_eq d_Rd_flag_5 (by decide))) (
  kc_case (P := P) (kc_se rfl sm_no) (
  kc_case (P := P) (kc_se rfl sm_no) (
  kc_case (P := P) (kc_se c_Rd_flag_2 (sm_cv (j := 36) rfl rfl kw_o kw_g wc_Rd_single (Nat.le_of_ble_eq_true rfl) hd_Rd_single (ci := 1) (F := kF_Rd) (N := 8) rfl (kw2 152 rfl rfl) wi_Rd_single ws_Rd_single wn_Rd_single d_Rd_flag_2)) (
  kc_case (P := P) (kc_se c_Rd_flag_1 (sm_iconst d_Rd_flag_1 (by decide))) (
  kc_case (P := P) (kc_se c_Rd_flag_0 (sm_aload_n d_Rd_flag_0 rfl)) (
  kc_case0))))))))))))))
theorem ka_nth_no_Rd_flag (pc : Nat) (h : 14 ≤ pc) : ct_Rd_flag pc = ka_no := ka_nth_ge _ pc (Nat.le_trans (Nat.le_of_eq (by rfl)) h)
theorem s_Rd_flag (pc : Nat) : kc_Sim kt kw_A kw_N kt_cl kt_En "DirectoryDesk$Reader" prog_8_method_12_code 1 (some .boolean) "flag" none pc (ct_Rd_flag pc) := (Nat.lt_or_ge pc 14).elim (s_Rd_flag_14 pc) (fun h => kc_se (ka_nth_no_Rd_flag pc h) sm_no)
def cl_Rd_single_0 : List kc_A := [ka_al 0 1, ka_il 1 1, ka_cv 37 1 1 0 0, ka_no, ka_no, ka_al 0 1, ka_get 1 7, ka_no, ka_no, ka_al 0 1, ka_get 1 6, ka_no, ka_no, ka_ii (fun x y => x - y), ka_ci (nI 1) 1, ka_cm (fun x y => x = y) 25, ka_no, ka_no, ka_al 0 1, ka_ci (nI 1) 1, ka_put 1 4 .boolean, ka_no, ka_no, ka_ci (nI 0) 1, ka_ri, ka_al 0 1, ka_get 1 0, ka_no, ka_no, ka_al 0 1, ka_get 1 6, ka_no, ka_no, ka_iald, ka_ri]
def ct_Rd_single : Nat → kc_A := fun pc => ka_nth (cl_Rd_single_0) pc
set_option maxRecDepth 100000 in
theorem c_Rd_single_0 : ct_Rd_single 0 = ka_al 0 1 := rfl
theorem d_Rd_single_0 : decode prog_8_method_13_code 0 = .ok (.aload_n 0, 1) := by decide +kernel
set_option maxRecDepth 100000 in
theorem c_Rd_single_1 : ct_Rd_single 1 = ka_il 1 1 := rfl
theorem d_Rd_single_1 : decode prog_8_method_13_code 1 = .ok (.iload_n 1, 1) := by decide +kernel
set_option maxRecDepth 100000 in
theorem c_Rd_single_2 : ct_Rd_single 2 = ka_cv 37 1 1 0 0 := rfl
theorem d_Rd_single_2 : decode prog_8_method_13_code 2 = .ok (.invokevirtual 47, 3) := by decide +kernel
set_option maxRecDepth 100000 in
theorem c_Rd_single_5 : ct_Rd_single 5 = ka_al 0 1 := rfl
theorem d_Rd_single_5 : decode prog_8_method_13_code 5 = .ok (.aload_n 0, 1) := by decide +kernel
set_option maxRecDepth 100000 in
theorem c_Rd_single_6 : ct_Rd_single 6 = ka_get 1 7 := rfl
theorem d_Rd_single_6 : decode prog_8_method_13_code 6 = .ok (.getfield 51, 3) := by decide +kernel
set_option maxRecDepth 100000 in
theorem c_Rd_single_9 : ct_Rd_single 9 = ka_al 0 1 := rfl
theorem d_Rd_single_9 : decode prog_8_method_13_code 9 = .ok (.aload_n 0, 1) := by decide +kernel
set_option maxRecDepth 100000 in
theorem c_Rd_single_10 : ct_Rd_single 10 = ka_get 1 6 := rfl
theorem d_Rd_single_10 : decode prog_8_method_13_code 10 = .ok (.getfield 54, 3) := by decide +kernel
set_option maxRecDepth 100000 in
theorem c_Rd_single_13 : ct_Rd_single 13 = ka_ii (fun x y => x - y) := rfl
theorem d_Rd_single_13 : decode prog_8_method_13_code 13 = .ok (.isub, 1) := by decide +kernel
set_option maxRecDepth 100000 in
theorem c_Rd_single_14 : ct_Rd_single 14 = ka_ci (nI 1) 1 := rfl
theorem d_Rd_single_14 : decode prog_8_method_13_code 14 = .ok (.iconst 1, 1) := by decide +kernel
set_option maxRecDepth 100000 in
theorem c_Rd_single_15 : ct_Rd_single 15 = ka_cm (fun x y => x = y) 25 := rfl
theorem d_Rd_single_15 : decode prog_8_method_13_code 15 = .ok (.if_icmp .eq 10, 3) := by decide +kernel
set_option maxRecDepth 100000 in
theorem c_Rd_single_18 : ct_Rd_single 18 = ka_al 0 1 := rfl
theorem d_Rd_single_18 : decode prog_8_method_13_code 18 = .ok (.aload_n 0, 1) := by decide +kernel
set_option maxRecDepth 100000 in
theorem c_Rd_single_19 : ct_Rd_single 19 = ka_ci (nI 1) 1 := rfl
theorem d_Rd_single_19 : decode prog_8_method_13_code 19 = .ok (.iconst 1, 1) := by decide +kernel
set_option maxRecDepth 100000 in
theorem c_Rd_single_20 : ct_Rd_single 20 = ka_put 1 4 .boolean := rfl
theorem d_Rd_single_20 : decode prog_8_method_13_code 20 = .ok (.putfield 25, 3) := by decide +kernel
set_option maxRecDepth 100000 in
theorem c_Rd_single_23 : ct_Rd_single 23 = ka_ci (nI 0) 1 := rfl
theorem d_Rd_single_23 : decode prog_8_method_13_code 23 = .ok (.iconst 0, 1) := by decide +kernel
set_option maxRecDepth 100000 in
theorem c_Rd_single_24 : ct_Rd_single 24 = ka_ri := rfl
theorem d_Rd_single_24 : decode prog_8_method_13_code 24 = .ok (.ireturn, 1) := by decide +kernel
set_option maxRecDepth 100000 in
theorem c_Rd_single_25 : ct_Rd_single 25 = ka_al 0 1 := rfl
theorem d_Rd_single_25 : decode prog_8_method_13_code 25 = .ok (.aload_n 0, 1) := by decide +kernel
set_option maxRecDepth 100000 in
theorem c_Rd_single_26 : ct_Rd_single 26 = ka_get 1 0 := rfl
theorem d_Rd_single_26 : decode prog_8_method_13_code 26 = .ok (.getfield 9, 3) := by decide +kernel
set_option maxRecDepth 100000 in
theorem c_Rd_single_29 : ct_Rd_single 29 = ka_al 0 1 := rfl
theorem d_Rd_single_29 : decode prog_8_method_13_code 29 = .ok (.aload_n 0, 1) := by decide +kernel
set_option maxRecDepth 100000 in
theorem c_Rd_single_30 : ct_Rd_single 30 = ka_get 1 6 := rfl
theorem d_Rd_single_30 : decode prog_8_method_13_code 30 = .ok (.getfield 54, 3) := by decide +kernel
set_option maxRecDepth 100000 in
theorem c_Rd_single_33 : ct_Rd_single 33 = ka_iald := rfl
theorem d_Rd_single_33 : decode prog_8_method_13_code 33 = .ok (.iaload, 1) := by decide +kernel
set_option maxRecDepth 100000 in
theorem c_Rd_single_34 : ct_Rd_single 34 = ka_ri := rfl
theorem d_Rd_single_34 : decode prog_8_method_13_code 34 = .ok (.ireturn, 1) := by decide +kernel
set_option maxRecDepth 100000 in
set_option maxHeartbeats 4000000 in
theorem s_Rd_single_35 : ∀ pc, pc < 35 → kc_Sim kt kw_A kw_N kt_cl kt_En "DirectoryDesk$Reader" prog_8_method_13_code 2 (some .int) "single" none pc (ct_Rd_single pc) := by
  let P : Nat → Prop := fun pc => kc_Sim kt kw_A kw_N kt_cl kt_En "DirectoryDesk$Reader" prog_8_method_13_code 2 (some .int) "single" none pc (ct_Rd_single pc)
  exact kc_case (P := P) (kc_se c_Rd_single_34 (sm_ri d_Rd_single_34 rfl)) (
  kc_case (P := P) (kc_se c_Rd_single_33 (sm_iald d_Rd_single_33)) (
  kc_case (P := P) (kc_se rfl sm_no) (
  kc_case (P := P) (kc_se rfl sm_no) (
  kc_case (P := P) (kc_se c_Rd_single_30 (sm_get (ci := 1) (C := "DirectoryDesk$Reader") (F := kF_Rd) rfl kin_Rd (Nat.le_of_ble_eq_true rfl) d_Rd_single_30 (kw1 40 rfl rfl))) (
  kc_case (P := P) (kc_se c_Rd_single_29 (sm_aload_n d_Rd_single_29 rfl)) (
  kc_case (P := P) (kc_se rfl sm_no) (
  kc_case (P := P) (kc_se rfl sm_no) (
  kc_case (P := P) (kc_se c_Rd_single_26 (sm_get (ci := 1) (C := "DirectoryDesk$Reader") (F := kF_Rd) rfl kin_Rd (Nat.le_of_ble_eq_true rfl) d_Rd_single_26 (kw1 28 rfl rfl))) (
  kc_case (P := P) (kc_se c_Rd_single_25 (sm_aload_n d_Rd_single_25 rfl)) (
  kc_case (P := P) (kc_se c_Rd_single_24 (sm_ri d_Rd_single_24 rfl)) (
  kc_case (P := P) (kc_se c_Rd_single_23 (sm_iconst d_Rd_single_23 (by decide))) (
  kc_case (P := P) (kc_se rfl sm_no) (
  kc_case (P := P) (kc_se rfl sm_no) (
  kc_case (P := P) (kc_se c_Rd_single_20 (sm_put (ci := 1) (C := "DirectoryDesk$Reader") (F := kF_Rd) rfl kin_Rd kty_Rd ktk_Rd knm_Rd (Nat.le_of_ble_eq_true rfl) (by decide +kernel) d_Rd_single_20 (kw1 35 rfl rfl) rfl)) (
  kc_case (P := P) (kc_se c_Rd_single_19 (sm_iconst d_Rd_single_19 (by decide))) (
  kc_case (P := P) (kc_se c_Rd_single_18 (sm_aload_n d_Rd_single_18 rfl)) (
  kc_case (P := P) (kc_se rfl sm_no) (
  kc_case (P := P) (kc_se rfl sm_no) (
  kc_case (P := P) (kc_se c_Rd_single_15 (sm_cm_eq d_Rd_single_15 (by decide))) (
  kc_case (P := P) (kc_se c_Rd_single_14 (sm_iconst d_Rd_single_14 (by decide))) (
  kc_case (P := P) (kc_se c_Rd_single_13 (sm_isub d_Rd_single_13)) (
  kc_case (P := P) (kc_se rfl sm_no) (
  kc_case (P := P) (kc_se rfl sm_no) (
  kc_case (P := P) (kc_se c_Rd_single_10 (sm_get (ci := 1) (C := "DirectoryDesk$Reader") (F := kF_Rd) rfl kin_Rd (Nat.le_of_ble_eq_true rfl) d_Rd_single_10 (kw1 40 rfl rfl))) (
  kc_case (P := P) (kc_se c_Rd_single_9 (sm_aload_n d_Rd_single_9 rfl)) (
  kc_case (P := P) (kc_se rfl sm_no) (
  kc_case (P := P) (kc_se rfl sm_no) (
  kc_case (P := P) (kc_se c_Rd_single_6 (sm_get (ci := 1) (C := "DirectoryDesk$Reader") (F := kF_Rd) rfl kin_Rd (Nat.le_of_ble_eq_true rfl) d_Rd_single_6 (kw1 43 rfl rfl))) (
  kc_case (P := P) (kc_se c_Rd_single_5 (sm_aload_n d_Rd_single_5 rfl)) (
  kc_case (P := P) (kc_se rfl sm_no) (
  kc_case (P := P) (kc_se rfl sm_no) (
  kc_case (P := P) (kc_se c_Rd_single_2 (sm_cv (j := 37) rfl rfl kw_o kw_g wc_Rd_span (Nat.le_of_ble_eq_true rfl) hd_Rd_span (ci := 1) (F := kF_Rd) (N := 8) rfl (kw2 67 rfl rfl) wi_Rd_span ws_Rd_span wn_Rd_span d_Rd_single_2)) (
  kc_case (P := P) (kc_se c_Rd_single_1 (sm_iload_n d_Rd_single_1 rfl)) (
  kc_case (P := P) (kc_se c_Rd_single_0 (sm_aload_n d_Rd_single_0 rfl)) (
  kc_case0)))))))))))))))))))))))))))))))))))
theorem ka_nth_no_Rd_single (pc : Nat) (h : 35 ≤ pc) : ct_Rd_single pc = ka_no := ka_nth_ge _ pc (Nat.le_trans (Nat.le_of_eq (by rfl)) h)
theorem s_Rd_single (pc : Nat) : kc_Sim kt kw_A kw_N kt_cl kt_En "DirectoryDesk$Reader" prog_8_method_13_code 2 (some .int) "single" none pc (ct_Rd_single pc) := (Nat.lt_or_ge pc 35).elim (s_Rd_single_35 pc) (fun h => kc_se (ka_nth_no_Rd_single pc h) sm_no)
def cl_Rd_span_0 : List kc_A := [ka_al 0 1, ka_il 1 1, ka_cv 28 1 1 0 0, ka_no, ka_no, ka_is 2 1, ka_al 0 1, ka_cv 38 0 1 0 0, ka_no, ka_no, ka_al 0 1, ka_il 2 1, ka_cv 29 1 1 0 0, ka_no, ka_no, ka_ret]
def ct_Rd_span : Nat → kc_A := fun pc => ka_nth (cl_Rd_span_0) pc
set_option maxRecDepth 100000 in
theorem c_Rd_span_0 : ct_Rd_span 0 = ka_al 0 1 := rfl
theorem d_Rd_span_0 : decode prog_8_method_14_code 0 = .ok (.aload_n 0, 1) := by decide +kernel
set_option maxRecDepth 100000 in
theorem c_Rd_span_1 : ct_Rd_span 1 = ka_il 1 1 := rfl
theorem d_Rd_span_1 : decode prog_8_method_14_code 1 = .ok (.iload_n 1, 1) := by decide +kernel
set_option maxRecDepth 100000 in
theorem c_Rd_span_2 : ct_Rd_span 2 = ka_cv 28 1 1 0 0 := rfl
theorem d_Rd_span_2 : decode prog_8_method_14_code 2 = .ok (.invokevirtual 29, 3) := by decide +kernel
set_option maxRecDepth 100000 in
theorem c_Rd_span_5 : ct_Rd_span 5 = ka_is 2 1 := rfl
theorem d_Rd_span_5 : decode prog_8_method_14_code 5 = .ok (.istore_n 2, 1) := by decide +kernel
set_option maxRecDepth 100000 in
theorem c_Rd_span_6 : ct_Rd_span 6 = ka_al 0 1 := rfl
theorem d_Rd_span_6 : decode prog_8_method_14_code 6 = .ok (.aload_n 0, 1) := by decide +kernel
set_option maxRecDepth 100000 in
theorem c_Rd_span_7 : ct_Rd_span 7 = ka_cv 38 0 1 0 0 := rfl
theorem d_Rd_span_7 : decode prog_8_method_14_code 7 = .ok (.invokevirtual 60, 3) := by decide +kernel
set_option maxRecDepth 100000 in
theorem c_Rd_span_10 : ct_Rd_span 10 = ka_al 0 1 := rfl
theorem d_Rd_span_10 : decode prog_8_method_14_code 10 = .ok (.aload_n 0, 1) := by decide +kernel
set_option maxRecDepth 100000 in
theorem c_Rd_span_11 : ct_Rd_span 11 = ka_il 2 1 := rfl
theorem d_Rd_span_11 : decode prog_8_method_14_code 11 = .ok (.iload_n 2, 1) := by decide +kernel
set_option maxRecDepth 100000 in
theorem c_Rd_span_12 : ct_Rd_span 12 = ka_cv 29 1 1 0 0 := rfl
theorem d_Rd_span_12 : decode prog_8_method_14_code 12 = .ok (.invokevirtual 63, 3) := by decide +kernel
set_option maxRecDepth 100000 in
theorem c_Rd_span_15 : ct_Rd_span 15 = ka_ret := rfl
theorem d_Rd_span_15 : decode prog_8_method_14_code 15 = .ok (.return_, 1) := by decide +kernel
set_option maxRecDepth 100000 in
set_option maxHeartbeats 4000000 in
theorem s_Rd_span_16 : ∀ pc, pc < 16 → kc_Sim kt kw_A kw_N kt_cl kt_En "DirectoryDesk$Reader" prog_8_method_14_code 3 (none) "span" none pc (ct_Rd_span pc) := by
  let P : Nat → Prop := fun pc => kc_Sim kt kw_A kw_N kt_cl kt_En "DirectoryDesk$Reader" prog_8_method_14_code 3 (none) "span" none pc (ct_Rd_span pc)
  exact kc_case (P := P) (kc_se c_Rd_span_15 (sm_ret d_Rd_span_15 rfl)) (
  kc_case (P := P) (kc_se rfl sm_no) (
  kc_case (P := P) (kc_se rfl sm_no) (
  kc_case (P := P) (kc_se c_Rd_span_12 (sm_cv (j := 29) rfl rfl kw_o kw_g wc_Rd_leave (Nat.le_of_ble_eq_true rfl) hd_Rd_leave (ci := 1) (F := kF_Rd) (N := 8) rfl (kw2 75 rfl rfl) wi_Rd_leave ws_Rd_leave wn_Rd_leave d_Rd_span_12)) (
  kc_case (P := P) (kc_se c_Rd_span_11 (sm_iload_n d_Rd_span_11 rfl)) (
  kc_case (P := P) (kc_se c_Rd_span_10 (sm_aload_n d_Rd_span_10 rfl)) (
  kc_case (P := P) (kc_se rfl sm_no) (
  kc_case (P := P) (kc_se rfl sm_no) (
  kc_case (P := P) (kc_se c_Rd_span_7 (sm_cv (j := 38) rfl rfl kw_o kw_g wc_Rd_spanRest (Nat.le_of_ble_eq_true rfl) hd_Rd_spanRest (ci := 1) (F := kF_Rd) (N := 8) rfl (kw2 71 rfl rfl) wi_Rd_spanRest ws_Rd_spanRest wn_Rd_spanRest d_Rd_span_7)) (
  kc_case (P := P) (kc_se c_Rd_span_6 (sm_aload_n d_Rd_span_6 rfl)) (
  kc_case (P := P) (kc_se c_Rd_span_5 (sm_istore_n d_Rd_span_5 rfl (Nat.le_of_ble_eq_true rfl))) (
  kc_case (P := P) (kc_se rfl sm_no) (
  kc_case (P := P) (kc_se rfl sm_no) (
  kc_case (P := P) (kc_se c_Rd_span_2 (sm_cv (j := 28) rfl rfl kw_o kw_g wc_Rd_enter (Nat.le_of_ble_eq_true rfl) hd_Rd_enter (ci := 1) (F := kF_Rd) (N := 8) rfl (kw2 59 rfl rfl) wi_Rd_enter ws_Rd_enter wn_Rd_enter d_Rd_span_2)) (
  kc_case (P := P) (kc_se c_Rd_span_1 (sm_iload_n d_Rd_span_1 rfl)) (
  kc_case (P := P) (kc_se c_Rd_span_0 (sm_aload_n d_Rd_span_0 rfl)) (
  kc_case0))))))))))))))))
theorem ka_nth_no_Rd_span (pc : Nat) (h : 16 ≤ pc) : ct_Rd_span pc = ka_no := ka_nth_ge _ pc (Nat.le_trans (Nat.le_of_eq (by rfl)) h)
theorem s_Rd_span (pc : Nat) : kc_Sim kt kw_A kw_N kt_cl kt_En "DirectoryDesk$Reader" prog_8_method_14_code 3 (none) "span" none pc (ct_Rd_span pc) := (Nat.lt_or_ge pc 16).elim (s_Rd_span_16 pc) (fun h => kc_se (ka_nth_no_Rd_span pc h) sm_no)
def cl_Rd_spanRest_0 : List kc_A := [ka_al 0 1, ka_al 0 1, ka_get 1 2, ka_no, ka_no, ka_put 1 6 .int, ka_no, ka_no, ka_al 0 1, ka_al 0 1, ka_get 1 3, ka_no, ka_no, ka_put 1 7 .int, ka_no, ka_no, ka_al 0 1, ka_al 0 1, ka_get 1 3, ka_no, ka_no, ka_put 1 2 .int, ka_no, ka_no, ka_ret]
def ct_Rd_spanRest : Nat → kc_A := fun pc => ka_nth (cl_Rd_spanRest_0) pc
set_option maxRecDepth 100000 in
theorem c_Rd_spanRest_0 : ct_Rd_spanRest 0 = ka_al 0 1 := rfl
theorem d_Rd_spanRest_0 : decode prog_8_method_15_code 0 = .ok (.aload_n 0, 1) := by decide +kernel
set_option maxRecDepth 100000 in
theorem c_Rd_spanRest_1 : ct_Rd_spanRest 1 = ka_al 0 1 := rfl
theorem d_Rd_spanRest_1 : decode prog_8_method_15_code 1 = .ok (.aload_n 0, 1) := by decide +kernel
set_option maxRecDepth 100000 in
theorem c_Rd_spanRest_2 : ct_Rd_spanRest 2 = ka_get 1 2 := rfl
theorem d_Rd_spanRest_2 : decode prog_8_method_15_code 2 = .ok (.getfield 19, 3) := by decide +kernel
set_option maxRecDepth 100000 in
theorem c_Rd_spanRest_5 : ct_Rd_spanRest 5 = ka_put 1 6 .int := rfl
theorem d_Rd_spanRest_5 : decode prog_8_method_15_code 5 = .ok (.putfield 54, 3) := by decide +kernel
set_option maxRecDepth 100000 in
theorem c_Rd_spanRest_8 : ct_Rd_spanRest 8 = ka_al 0 1 := rfl
theorem d_Rd_spanRest_8 : decode prog_8_method_15_code 8 = .ok (.aload_n 0, 1) := by decide +kernel
set_option maxRecDepth 100000 in
theorem c_Rd_spanRest_9 : ct_Rd_spanRest 9 = ka_al 0 1 := rfl
theorem d_Rd_spanRest_9 : decode prog_8_method_15_code 9 = .ok (.aload_n 0, 1) := by decide +kernel
set_option maxRecDepth 100000 in
theorem c_Rd_spanRest_10 : ct_Rd_spanRest 10 = ka_get 1 3 := rfl
theorem d_Rd_spanRest_10 : decode prog_8_method_15_code 10 = .ok (.getfield 22, 3) := by decide +kernel
set_option maxRecDepth 100000 in
theorem c_Rd_spanRest_13 : ct_Rd_spanRest 13 = ka_put 1 7 .int := rfl
theorem d_Rd_spanRest_13 : decode prog_8_method_15_code 13 = .ok (.putfield 51, 3) := by decide +kernel
set_option maxRecDepth 100000 in
theorem c_Rd_spanRest_16 : ct_Rd_spanRest 16 = ka_al 0 1 := rfl
theorem d_Rd_spanRest_16 : decode prog_8_method_15_code 16 = .ok (.aload_n 0, 1) := by decide +kernel
set_option maxRecDepth 100000 in
theorem c_Rd_spanRest_17 : ct_Rd_spanRest 17 = ka_al 0 1 := rfl
theorem d_Rd_spanRest_17 : decode prog_8_method_15_code 17 = .ok (.aload_n 0, 1) := by decide +kernel
set_option maxRecDepth 100000 in
theorem c_Rd_spanRest_18 : ct_Rd_spanRest 18 = ka_get 1 3 := rfl
theorem d_Rd_spanRest_18 : decode prog_8_method_15_code 18 = .ok (.getfield 22, 3) := by decide +kernel
set_option maxRecDepth 100000 in
theorem c_Rd_spanRest_21 : ct_Rd_spanRest 21 = ka_put 1 2 .int := rfl
theorem d_Rd_spanRest_21 : decode prog_8_method_15_code 21 = .ok (.putfield 19, 3) := by decide +kernel
set_option maxRecDepth 100000 in
theorem c_Rd_spanRest_24 : ct_Rd_spanRest 24 = ka_ret := rfl
theorem d_Rd_spanRest_24 : decode prog_8_method_15_code 24 = .ok (.return_, 1) := by decide +kernel
set_option maxRecDepth 100000 in
set_option maxHeartbeats 4000000 in
theorem s_Rd_spanRest_25 : ∀ pc, pc < 25 → kc_Sim kt kw_A kw_N kt_cl kt_En "DirectoryDesk$Reader" prog_8_method_15_code 1 (none) "spanRest" none pc (ct_Rd_spanRest pc) := by
  let P : Nat → Prop := fun pc => kc_Sim kt kw_A kw_N kt_cl kt_En "DirectoryDesk$Reader" prog_8_method_15_code 1 (none) "spanRest" none pc (ct_Rd_spanRest pc)
  exact kc_case (P := P) (kc_se c_Rd_spanRest_24 (sm_ret d_Rd_spanRest_24 rfl)) (
  kc_case (P := P) (kc_se rfl sm_no) (
  kc_case (P := P) (kc_se rfl sm_no) (
  kc_case (P := P) (kc_se c_Rd_spanRest_21 (sm_put (ci := 1) (C := "DirectoryDesk$Reader") (F := kF_Rd) rfl kin_Rd kty_Rd ktk_Rd knm_Rd (Nat.le_of_ble_eq_true rfl) (by decide +kernel) d_Rd_spanRest_21 (kw1 32 rfl rfl) rfl)) (
  kc_case (P := P) (kc_se rfl sm_no) (
  kc_case (P := P) (kc_se rfl sm_no) (
  kc_case (P := P) (kc_se c_Rd_spanRest_18 (sm_get (ci := 1) (C := "DirectoryDesk$Reader") (F := kF_Rd) rfl kin_Rd (Nat.le_of_ble_eq_true rfl) d_Rd_spanRest_18 (kw1 33 rfl rfl))) (
  kc_case (P := P) (kc_se c_Rd_spanRest_17 (sm_aload_n d_Rd_spanRest_17 rfl)) (
  kc_case (P := P) (kc_se c_Rd_spanRest_16 (sm_aload_n d_Rd_spanRest_16 rfl)) (
  kc_case (P := P) (kc_se rfl sm_no) (
  kc_case (P := P) (kc_se rfl sm_no) (
  kc_case (P := P) (kc_se c_Rd_spanRest_13 (sm_put (ci := 1) (C := "DirectoryDesk$Reader") (F := kF_Rd) rfl kin_Rd kty_Rd ktk_Rd knm_Rd (Nat.le_of_ble_eq_true rfl) (by decide +kernel) d_Rd_spanRest_13 (kw1 43 rfl rfl) rfl)) (
  kc_case (P := P) (kc_se rfl sm_no) (
  kc_case (P := P) (kc_se rfl sm_no) (
  kc_case (P := P) (kc_se c_Rd_spanRest_10 (sm_get (ci := 1) (C := "DirectoryDesk$Reader") (F := kF_Rd) rfl kin_Rd (Nat.le_of_ble_eq_true rfl) d_Rd_spanRest_10 (kw1 33 rfl rfl))) (
  kc_case (P := P) (kc_se c_Rd_spanRest_9 (sm_aload_n d_Rd_spanRest_9 rfl)) (
  kc_case (P := P) (kc_se c_Rd_spanRest_8 (sm_aload_n d_Rd_spanRest_8 rfl)) (
  kc_case (P := P) (kc_se rfl sm_no) (
  kc_case (P := P) (kc_se rfl sm_no) (
  kc_case (P := P) (kc_se c_Rd_spanRest_5 (sm_put (ci := 1) (C := "DirectoryDesk$Reader") (F := kF_Rd) rfl kin_Rd kty_Rd ktk_Rd knm_Rd (Nat.le_of_ble_eq_true rfl) (by decide +kernel) d_Rd_spanRest_5 (kw1 40 rfl rfl) rfl)) (
  kc_case (P := P) (kc_se rfl sm_no) (
  kc_case (P := P) (kc_se rfl sm_no) (
  kc_case (P := P) (kc_se c_Rd_spanRest_2 (sm_get (ci := 1) (C := "DirectoryDesk$Reader") (F := kF_Rd) rfl kin_Rd (Nat.le_of_ble_eq_true rfl) d_Rd_spanRest_2 (kw1 32 rfl rfl))) (
  kc_case (P := P) (kc_se c_Rd_spanRest_1 (sm_aload_n d_Rd_spanRest_1 rfl)) (
  kc_case (P := P) (kc_se c_Rd_spanRest_0 (sm_aload_n d_Rd_spanRest_0 rfl)) (
  kc_case0)))))))))))))))))))))))))
theorem ka_nth_no_Rd_spanRest (pc : Nat) (h : 25 ≤ pc) : ct_Rd_spanRest pc = ka_no := ka_nth_ge _ pc (Nat.le_trans (Nat.le_of_eq (by rfl)) h)
theorem s_Rd_spanRest (pc : Nat) : kc_Sim kt kw_A kw_N kt_cl kt_En "DirectoryDesk$Reader" prog_8_method_15_code 1 (none) "spanRest" none pc (ct_Rd_spanRest pc) := (Nat.lt_or_ge pc 25).elim (s_Rd_spanRest_25 pc) (fun h => kc_se (ka_nth_no_Rd_spanRest pc h) sm_no)
def cl_Rd_spanType_0 : List kc_A := [ka_al 0 1, ka_get 1 7, ka_no, ka_no, ka_al 0 1, ka_get 1 6, ka_no, ka_no, ka_ii (fun x y => x - y), ka_ci (nI 1) 1, ka_cm (fun x y => ¬ x = y) 28, ka_no, ka_no, ka_al 0 1, ka_get 1 0, ka_no, ka_no, ka_al 0 1, ka_get 1 6, ka_no, ka_no, ka_iald, ka_cs 43 1 0 0, ka_no, ka_no, ka_goto 29, ka_no, ka_no, ka_ci (-1) 1, ka_ri]
def ct_Rd_spanType : Nat → kc_A := fun pc => ka_nth (cl_Rd_spanType_0) pc
set_option maxRecDepth 100000 in
theorem c_Rd_spanType_0 : ct_Rd_spanType 0 = ka_al 0 1 := rfl
theorem d_Rd_spanType_0 : decode prog_8_method_16_code 0 = .ok (.aload_n 0, 1) := by decide +kernel
set_option maxRecDepth 100000 in
theorem c_Rd_spanType_1 : ct_Rd_spanType 1 = ka_get 1 7 := rfl
theorem d_Rd_spanType_1 : decode prog_8_method_16_code 1 = .ok (.getfield 51, 3) := by decide +kernel
set_option maxRecDepth 100000 in
theorem c_Rd_spanType_4 : ct_Rd_spanType 4 = ka_al 0 1 := rfl
theorem d_Rd_spanType_4 : decode prog_8_method_16_code 4 = .ok (.aload_n 0, 1) := by decide +kernel
set_option maxRecDepth 100000 in
theorem c_Rd_spanType_5 : ct_Rd_spanType 5 = ka_get 1 6 := rfl
theorem d_Rd_spanType_5 : decode prog_8_method_16_code 5 = .ok (.getfield 54, 3) := by decide +kernel
set_option maxRecDepth 100000 in
theorem c_Rd_spanType_8 : ct_Rd_spanType 8 = ka_ii (fun x y => x - y) := rfl
theorem d_Rd_spanType_8 : decode prog_8_method_16_code 8 = .ok (.isub, 1) := by decide +kernel
set_option maxRecDepth 100000 in
theorem c_Rd_spanType_9 : ct_Rd_spanType 9 = ka_ci (nI 1) 1 := rfl
theorem d_Rd_spanType_9 : decode prog_8_method_16_code 9 = .ok (.iconst 1, 1) := by decide +kernel
set_option maxRecDepth 100000 in
theorem c_Rd_spanType_10 : ct_Rd_spanType 10 = ka_cm (fun x y => ¬ x = y) 28 := rfl
theorem d_Rd_spanType_10 : decode prog_8_method_16_code 10 = .ok (.if_icmp .ne 18, 3) := by decide +kernel
set_option maxRecDepth 100000 in
theorem c_Rd_spanType_13 : ct_Rd_spanType 13 = ka_al 0 1 := rfl
theorem d_Rd_spanType_13 : decode prog_8_method_16_code 13 = .ok (.aload_n 0, 1) := by decide +kernel
set_option maxRecDepth 100000 in
theorem c_Rd_spanType_14 : ct_Rd_spanType 14 = ka_get 1 0 := rfl
theorem d_Rd_spanType_14 : decode prog_8_method_16_code 14 = .ok (.getfield 9, 3) := by decide +kernel
set_option maxRecDepth 100000 in
theorem c_Rd_spanType_17 : ct_Rd_spanType 17 = ka_al 0 1 := rfl
theorem d_Rd_spanType_17 : decode prog_8_method_16_code 17 = .ok (.aload_n 0, 1) := by decide +kernel
set_option maxRecDepth 100000 in
theorem c_Rd_spanType_18 : ct_Rd_spanType 18 = ka_get 1 6 := rfl
theorem d_Rd_spanType_18 : decode prog_8_method_16_code 18 = .ok (.getfield 54, 3) := by decide +kernel
set_option maxRecDepth 100000 in
theorem c_Rd_spanType_21 : ct_Rd_spanType 21 = ka_iald := rfl
theorem d_Rd_spanType_21 : decode prog_8_method_16_code 21 = .ok (.iaload, 1) := by decide +kernel
set_option maxRecDepth 100000 in
theorem c_Rd_spanType_22 : ct_Rd_spanType 22 = ka_cs 43 1 0 0 := rfl
theorem d_Rd_spanType_22 : decode prog_8_method_16_code 22 = .ok (.invokestatic 66, 3) := by decide +kernel
set_option maxRecDepth 100000 in
theorem c_Rd_spanType_25 : ct_Rd_spanType 25 = ka_goto 29 := rfl
theorem d_Rd_spanType_25 : decode prog_8_method_16_code 25 = .ok (.goto 4, 3) := by decide +kernel
set_option maxRecDepth 100000 in
theorem c_Rd_spanType_28 : ct_Rd_spanType 28 = ka_ci (-1) 1 := rfl
theorem d_Rd_spanType_28 : decode prog_8_method_16_code 28 = .ok (.iconst (-1), 1) := by decide +kernel
set_option maxRecDepth 100000 in
theorem c_Rd_spanType_29 : ct_Rd_spanType 29 = ka_ri := rfl
theorem d_Rd_spanType_29 : decode prog_8_method_16_code 29 = .ok (.ireturn, 1) := by decide +kernel
set_option maxRecDepth 100000 in
set_option maxHeartbeats 4000000 in
theorem s_Rd_spanType_30 : ∀ pc, pc < 30 → kc_Sim kt kw_A kw_N kt_cl kt_En "DirectoryDesk$Reader" prog_8_method_16_code 1 (some .int) "spanType" none pc (ct_Rd_spanType pc) := by
  let P : Nat → Prop := fun pc => kc_Sim kt kw_A kw_N kt_cl kt_En "DirectoryDesk$Reader" prog_8_method_16_code 1 (some .int) "spanType" none pc (ct_Rd_spanType pc)
  exact kc_case (P := P) (kc_se c_Rd_spanType_29 (sm_ri d_Rd_spanType_29 rfl)) (
  kc_case (P := P) (kc_se c_Rd_spanType_28 (sm_iconst d_Rd_spanType_28 (by decide))) (
  kc_case (P := P) (kc_se rfl sm_no) (
  kc_case (P := P) (kc_se rfl sm_no) (
  kc_case (P := P) (kc_se c_Rd_spanType_25 (sm_goto d_Rd_spanType_25 (by decide))) (
  kc_case (P := P) (kc_se rfl sm_no) (
  kc_case (P := P) (kc_se rfl sm_no) (
  kc_case (P := P) (kc_se c_Rd_spanType_22 (sm_cs (j := 43) rfl rfl kw_o kw_g wc_Rd_typeOf (Nat.le_of_ble_eq_true rfl) hd_Rd_typeOf (kw2 186 rfl rfl) wi_Rd_typeOf wn_Rd_typeOf d_Rd_spanType_22)) (
  kc_case (P := P) (kc_se c_Rd_spanType_21 (sm_iald d_Rd_spanType_21)) (
  kc_case (P := P) (kc_se rfl sm_no) (
  kc_case (P := P) (kc_se rfl sm_no) (
  kc_case (P := P) (kc_se c_Rd_spanType_18 (sm_get (ci := 1) (C := "DirectoryDesk$Reader") (F := kF_Rd) rfl kin_Rd (Nat.le_of_ble_eq_true rfl) d_Rd_spanType_18 (kw1 40 rfl rfl))) (
  kc_case (P := P) (kc_se c_Rd_spanType_17 (sm_aload_n d_Rd_spanType_17 rfl)) (
  kc_case (P := P) (kc_se rfl sm_no) (
  kc_case (P := P) (kc_se rfl sm_no) (
  kc_case (P := P) (kc_se c_Rd_spanType_14 (sm_get (ci := 1) (C := "DirectoryDesk$Reader") (F := kF_Rd) rfl kin_Rd (Nat.le_of_ble_eq_true rfl) d_Rd_spanType_14 (kw1 28 rfl rfl))) (
  kc_case (P := P) (kc_se c_Rd_spanType_13 (sm_aload_n d_Rd_spanType_13 rfl)) (
  kc_case (P := P) (kc_se rfl sm_no) (
  kc_case (P := P) (kc_se rfl sm_no) (
  kc_case (P := P) (kc_se c_Rd_spanType_10 (sm_cm_ne d_Rd_spanType_10 (by decide))) (
  kc_case (P := P) (kc_se c_Rd_spanType_9 (sm_iconst d_Rd_spanType_9 (by decide))) (
  kc_case (P := P) (kc_se c_Rd_spanType_8 (sm_isub d_Rd_spanType_8)) (
  kc_case (P := P) (kc_se rfl sm_no) (
  kc_case (P := P) (kc_se rfl sm_no) (
  kc_case (P := P) (kc_se c_Rd_spanType_5 (sm_get (ci := 1) (C := "DirectoryDesk$Reader") (F := kF_Rd) rfl kin_Rd (Nat.le_of_ble_eq_true rfl) d_Rd_spanType_5 (kw1 40 rfl rfl))) (
  kc_case (P := P) (kc_se c_Rd_spanType_4 (sm_aload_n d_Rd_spanType_4 rfl)) (
  kc_case (P := P) (kc_se rfl sm_no) (
  kc_case (P := P) (kc_se rfl sm_no) (
  kc_case (P := P) (kc_se c_Rd_spanType_1 (sm_get (ci := 1) (C := "DirectoryDesk$Reader") (F := kF_Rd) rfl kin_Rd (Nat.le_of_ble_eq_true rfl) d_Rd_spanType_1 (kw1 43 rfl rfl))) (
  kc_case (P := P) (kc_se c_Rd_spanType_0 (sm_aload_n d_Rd_spanType_0 rfl)) (
  kc_case0))))))))))))))))))))))))))))))
theorem ka_nth_no_Rd_spanType (pc : Nat) (h : 30 ≤ pc) : ct_Rd_spanType pc = ka_no := ka_nth_ge _ pc (Nat.le_trans (Nat.le_of_eq (by rfl)) h)
theorem s_Rd_spanType (pc : Nat) : kc_Sim kt kw_A kw_N kt_cl kt_En "DirectoryDesk$Reader" prog_8_method_16_code 1 (some .int) "spanType" none pc (ct_Rd_spanType pc) := (Nat.lt_or_ge pc 30).elim (s_Rd_spanType_30 pc) (fun h => kc_se (ka_nth_no_Rd_spanType pc h) sm_no)
def cl_Rd_spanValue_0 : List kc_A := [ka_al 0 1, ka_al 0 1, ka_get 1 6, ka_no, ka_no, ka_al 0 1, ka_get 1 7, ka_no, ka_no, ka_cv 41 2 1 0 0, ka_no, ka_no, ka_rl]
def ct_Rd_spanValue : Nat → kc_A := fun pc => ka_nth (cl_Rd_spanValue_0) pc
set_option maxRecDepth 100000 in
theorem c_Rd_spanValue_0 : ct_Rd_spanValue 0 = ka_al 0 1 := rfl
theorem d_Rd_spanValue_0 : decode prog_8_method_17_code 0 = .ok (.aload_n 0, 1) := by decide +kernel
set_option maxRecDepth 100000 in
theorem c_Rd_spanValue_1 : ct_Rd_spanValue 1 = ka_al 0 1 := rfl
theorem d_Rd_spanValue_1 : decode prog_8_method_17_code 1 = .ok (.aload_n 0, 1) := by decide +kernel
set_option maxRecDepth 100000 in
theorem c_Rd_spanValue_2 : ct_Rd_spanValue 2 = ka_get 1 6 := rfl
theorem d_Rd_spanValue_2 : decode prog_8_method_17_code 2 = .ok (.getfield 54, 3) := by decide +kernel
set_option maxRecDepth 100000 in
theorem c_Rd_spanValue_5 : ct_Rd_spanValue 5 = ka_al 0 1 := rfl
theorem d_Rd_spanValue_5 : decode prog_8_method_17_code 5 = .ok (.aload_n 0, 1) := by decide +kernel
set_option maxRecDepth 100000 in
theorem c_Rd_spanValue_6 : ct_Rd_spanValue 6 = ka_get 1 7 := rfl
theorem d_Rd_spanValue_6 : decode prog_8_method_17_code 6 = .ok (.getfield 51, 3) := by decide +kernel
set_option maxRecDepth 100000 in
theorem c_Rd_spanValue_9 : ct_Rd_spanValue 9 = ka_cv 41 2 1 0 0 := rfl
theorem d_Rd_spanValue_9 : decode prog_8_method_17_code 9 = .ok (.invokevirtual 69, 3) := by decide +kernel
set_option maxRecDepth 100000 in
theorem c_Rd_spanValue_12 : ct_Rd_spanValue 12 = ka_rl := rfl
theorem d_Rd_spanValue_12 : decode prog_8_method_17_code 12 = .ok (.lreturn, 1) := by decide +kernel
set_option maxRecDepth 100000 in
set_option maxHeartbeats 4000000 in
theorem s_Rd_spanValue_13 : ∀ pc, pc < 13 → kc_Sim kt kw_A kw_N kt_cl kt_En "DirectoryDesk$Reader" prog_8_method_17_code 1 (some .long) "spanValue" none pc (ct_Rd_spanValue pc) := by
  let P : Nat → Prop := fun pc => kc_Sim kt kw_A kw_N kt_cl kt_En "DirectoryDesk$Reader" prog_8_method_17_code 1 (some .long) "spanValue" none pc (ct_Rd_spanValue pc)
  exact kc_case (P := P) (kc_se c_Rd_spanValue_12 (sm_rl d_Rd_spanValue_12 rfl)) (
  kc_case (P := P) (kc_se rfl sm_no) (
  kc_case (P := P) (kc_se rfl sm_no) (
  kc_case (P := P) (kc_se c_Rd_spanValue_9 (sm_cv (j := 41) rfl rfl kw_o kw_g wc_Rd_valueBetween (Nat.le_of_ble_eq_true rfl) hd_Rd_valueBetween (ci := 1) (F := kF_Rd) (N := 8) rfl (kw2 138 rfl rfl) wi_Rd_valueBetween ws_Rd_valueBetween wn_Rd_valueBetween d_Rd_spanValue_9)) (
  kc_case (P := P) (kc_se rfl sm_no) (
  kc_case (P := P) (kc_se rfl sm_no) (
  kc_case (P := P) (kc_se c_Rd_spanValue_6 (sm_get (ci := 1) (C := "DirectoryDesk$Reader") (F := kF_Rd) rfl kin_Rd (Nat.le_of_ble_eq_true rfl) d_Rd_spanValue_6 (kw1 43 rfl rfl))) (
  kc_case (P := P) (kc_se c_Rd_spanValue_5 (sm_aload_n d_Rd_spanValue_5 rfl)) (
  kc_case (P := P) (kc_se rfl sm_no) (
  kc_case (P := P) (kc_se rfl sm_no) (
  kc_case (P := P) (kc_se c_Rd_spanValue_2 (sm_get (ci := 1) (C := "DirectoryDesk$Reader") (F := kF_Rd) rfl kin_Rd (Nat.le_of_ble_eq_true rfl) d_Rd_spanValue_2 (kw1 40 rfl rfl))) (
  kc_case (P := P) (kc_se c_Rd_spanValue_1 (sm_aload_n d_Rd_spanValue_1 rfl)) (
  kc_case (P := P) (kc_se c_Rd_spanValue_0 (sm_aload_n d_Rd_spanValue_0 rfl)) (
  kc_case0)))))))))))))
theorem ka_nth_no_Rd_spanValue (pc : Nat) (h : 13 ≤ pc) : ct_Rd_spanValue pc = ka_no := ka_nth_ge _ pc (Nat.le_trans (Nat.le_of_eq (by rfl)) h)
theorem s_Rd_spanValue (pc : Nat) : kc_Sim kt kw_A kw_N kt_cl kt_En "DirectoryDesk$Reader" prog_8_method_17_code 1 (some .long) "spanValue" none pc (ct_Rd_spanValue pc) := (Nat.lt_or_ge pc 13).elim (s_Rd_spanValue_13 pc) (fun h => kc_se (ka_nth_no_Rd_spanValue pc h) sm_no)
def cl_Rd_valueBetween_0 : List kc_A := [ka_il 2 1, ka_il 1 1, ka_ii (fun x y => x - y), ka_ci (nI 1) 1, ka_cm (fun x y => x < y) 15, ka_no, ka_no, ka_il 2 1, ka_il 1 1, ka_ii (fun x y => x - y), ka_ci (nI 8) 2, ka_no, ka_cm (fun x y => x ≤ y) 19, ka_no, ka_no, ka_cl (-1) 3, ka_no, ka_no, ka_rl, ka_cl 0 1, ka_ls 3 1, ka_ci (nI 56) 2, ka_no, ka_is 5 2, ka_no, ka_il 1 1, ka_is 6 2, ka_no, ka_il 6 2, ka_no, ka_il 2 1, ka_cm (fun x y => y ≤ x) 74, ka_no, ka_no, ka_al 0 1, ka_get 1 0, ka_no, ka_no, ka_il 6 2, ka_no, ka_iald, ka_cs 44 1 0 0, ka_no, ka_no, ka_if (fun x => ¬ x = 0) 51, ka_no, ka_no, ka_cl (-1) 3, ka_no, ka_no, ka_rl, ka_ll 3 1, ka_al 0 1, ka_get 1 0, ka_no, ka_no, ka_il 6 2, ka_no, ka_iald, ka_i2l]
def cl_Rd_valueBetween_1 : List kc_A := [ka_il 5 2, ka_no, ka_lsh (fun x y => x <<< (y.toInt64 &&& 63)), ka_ll2 (fun x y => x ||| y), ka_ls 3 1, ka_inc 5 (-8), ka_no, ka_no, ka_inc 6 (nI 1), ka_no, ka_no, ka_goto 28, ka_no, ka_no, ka_ll 3 1, ka_rl]
def ct_Rd_valueBetween : Nat → kc_A := fun pc => ka_nth (cl_Rd_valueBetween_0 ++ (cl_Rd_valueBetween_1)) pc
set_option maxRecDepth 100000 in
theorem c_Rd_valueBetween_0 : ct_Rd_valueBetween 0 = ka_il 2 1 := rfl
theorem d_Rd_valueBetween_0 : decode prog_8_method_18_code 0 = .ok (.iload_n 2, 1) := by decide +kernel
set_option maxRecDepth 100000 in
theorem c_Rd_valueBetween_1 : ct_Rd_valueBetween 1 = ka_il 1 1 := rfl
theorem d_Rd_valueBetween_1 : decode prog_8_method_18_code 1 = .ok (.iload_n 1, 1) := by decide +kernel
set_option maxRecDepth 100000 in
theorem c_Rd_valueBetween_2 : ct_Rd_valueBetween 2 = ka_ii (fun x y => x - y) := rfl
theorem d_Rd_valueBetween_2 : decode prog_8_method_18_code 2 = .ok (.isub, 1) := by decide +kernel
set_option maxRecDepth 100000 in
theorem c_Rd_valueBetween_3 : ct_Rd_valueBetween 3 = ka_ci (nI 1) 1 := rfl
theorem d_Rd_valueBetween_3 : decode prog_8_method_18_code 3 = .ok (.iconst 1, 1) := by decide +kernel
set_option maxRecDepth 100000 in
theorem c_Rd_valueBetween_4 : ct_Rd_valueBetween 4 = ka_cm (fun x y => x < y) 15 := rfl
theorem d_Rd_valueBetween_4 : decode prog_8_method_18_code 4 = .ok (.if_icmp .lt 11, 3) := by decide +kernel
set_option maxRecDepth 100000 in
theorem c_Rd_valueBetween_7 : ct_Rd_valueBetween 7 = ka_il 2 1 := rfl
theorem d_Rd_valueBetween_7 : decode prog_8_method_18_code 7 = .ok (.iload_n 2, 1) := by decide +kernel
set_option maxRecDepth 100000 in
theorem c_Rd_valueBetween_8 : ct_Rd_valueBetween 8 = ka_il 1 1 := rfl
theorem d_Rd_valueBetween_8 : decode prog_8_method_18_code 8 = .ok (.iload_n 1, 1) := by decide +kernel
set_option maxRecDepth 100000 in
theorem c_Rd_valueBetween_9 : ct_Rd_valueBetween 9 = ka_ii (fun x y => x - y) := rfl
theorem d_Rd_valueBetween_9 : decode prog_8_method_18_code 9 = .ok (.isub, 1) := by decide +kernel
set_option maxRecDepth 100000 in
theorem c_Rd_valueBetween_10 : ct_Rd_valueBetween 10 = ka_ci (nI 8) 2 := rfl
theorem d_Rd_valueBetween_10 : decode prog_8_method_18_code 10 = .ok (.bipush 8, 2) := by decide +kernel
set_option maxRecDepth 100000 in
theorem c_Rd_valueBetween_12 : ct_Rd_valueBetween 12 = ka_cm (fun x y => x ≤ y) 19 := rfl
theorem d_Rd_valueBetween_12 : decode prog_8_method_18_code 12 = .ok (.if_icmp .le 7, 3) := by decide +kernel
set_option maxRecDepth 100000 in
theorem c_Rd_valueBetween_15 : ct_Rd_valueBetween 15 = ka_cl (-1) 3 := rfl
theorem d_Rd_valueBetween_15 : decode prog_8_method_18_code 15 = .ok (.ldc2_w 73, 3) := by decide +kernel
set_option maxRecDepth 100000 in
theorem c_Rd_valueBetween_18 : ct_Rd_valueBetween 18 = ka_rl := rfl
theorem d_Rd_valueBetween_18 : decode prog_8_method_18_code 18 = .ok (.lreturn, 1) := by decide +kernel
set_option maxRecDepth 100000 in
theorem c_Rd_valueBetween_19 : ct_Rd_valueBetween 19 = ka_cl 0 1 := rfl
theorem d_Rd_valueBetween_19 : decode prog_8_method_18_code 19 = .ok (.lconst 0, 1) := by decide +kernel
set_option maxRecDepth 100000 in
theorem c_Rd_valueBetween_20 : ct_Rd_valueBetween 20 = ka_ls 3 1 := rfl
theorem d_Rd_valueBetween_20 : decode prog_8_method_18_code 20 = .ok (.lstore_n 3, 1) := by decide +kernel
set_option maxRecDepth 100000 in
theorem c_Rd_valueBetween_21 : ct_Rd_valueBetween 21 = ka_ci (nI 56) 2 := rfl
theorem d_Rd_valueBetween_21 : decode prog_8_method_18_code 21 = .ok (.bipush 56, 2) := by decide +kernel
set_option maxRecDepth 100000 in
theorem c_Rd_valueBetween_23 : ct_Rd_valueBetween 23 = ka_is 5 2 := rfl
theorem d_Rd_valueBetween_23 : decode prog_8_method_18_code 23 = .ok (.istore 5, 2) := by decide +kernel
set_option maxRecDepth 100000 in
theorem c_Rd_valueBetween_25 : ct_Rd_valueBetween 25 = ka_il 1 1 := rfl
theorem d_Rd_valueBetween_25 : decode prog_8_method_18_code 25 = .ok (.iload_n 1, 1) := by decide +kernel
set_option maxRecDepth 100000 in
theorem c_Rd_valueBetween_26 : ct_Rd_valueBetween 26 = ka_is 6 2 := rfl
theorem d_Rd_valueBetween_26 : decode prog_8_method_18_code 26 = .ok (.istore 6, 2) := by decide +kernel
set_option maxRecDepth 100000 in
theorem c_Rd_valueBetween_28 : ct_Rd_valueBetween 28 = ka_il 6 2 := rfl
theorem d_Rd_valueBetween_28 : decode prog_8_method_18_code 28 = .ok (.iload 6, 2) := by decide +kernel
set_option maxRecDepth 100000 in
theorem c_Rd_valueBetween_30 : ct_Rd_valueBetween 30 = ka_il 2 1 := rfl
theorem d_Rd_valueBetween_30 : decode prog_8_method_18_code 30 = .ok (.iload_n 2, 1) := by decide +kernel
set_option maxRecDepth 100000 in
theorem c_Rd_valueBetween_31 : ct_Rd_valueBetween 31 = ka_cm (fun x y => y ≤ x) 74 := rfl
theorem d_Rd_valueBetween_31 : decode prog_8_method_18_code 31 = .ok (.if_icmp .ge 43, 3) := by decide +kernel
set_option maxRecDepth 100000 in
theorem c_Rd_valueBetween_34 : ct_Rd_valueBetween 34 = ka_al 0 1 := rfl
theorem d_Rd_valueBetween_34 : decode prog_8_method_18_code 34 = .ok (.aload_n 0, 1) := by decide +kernel
set_option maxRecDepth 100000 in
theorem c_Rd_valueBetween_35 : ct_Rd_valueBetween 35 = ka_get 1 0 := rfl
theorem d_Rd_valueBetween_35 : decode prog_8_method_18_code 35 = .ok (.getfield 9, 3) := by decide +kernel
set_option maxRecDepth 100000 in
theorem c_Rd_valueBetween_38 : ct_Rd_valueBetween 38 = ka_il 6 2 := rfl
theorem d_Rd_valueBetween_38 : decode prog_8_method_18_code 38 = .ok (.iload 6, 2) := by decide +kernel
set_option maxRecDepth 100000 in
theorem c_Rd_valueBetween_40 : ct_Rd_valueBetween 40 = ka_iald := rfl
theorem d_Rd_valueBetween_40 : decode prog_8_method_18_code 40 = .ok (.iaload, 1) := by decide +kernel
set_option maxRecDepth 100000 in
theorem c_Rd_valueBetween_41 : ct_Rd_valueBetween 41 = ka_cs 44 1 0 0 := rfl
theorem d_Rd_valueBetween_41 : decode prog_8_method_18_code 41 = .ok (.invokestatic 75, 3) := by decide +kernel
set_option maxRecDepth 100000 in
theorem c_Rd_valueBetween_44 : ct_Rd_valueBetween 44 = ka_if (fun x => ¬ x = 0) 51 := rfl
theorem d_Rd_valueBetween_44 : decode prog_8_method_18_code 44 = .ok (.ifCond .ne 7, 3) := by decide +kernel
set_option maxRecDepth 100000 in
theorem c_Rd_valueBetween_47 : ct_Rd_valueBetween 47 = ka_cl (-1) 3 := rfl
theorem d_Rd_valueBetween_47 : decode prog_8_method_18_code 47 = .ok (.ldc2_w 73, 3) := by decide +kernel
set_option maxRecDepth 100000 in
theorem c_Rd_valueBetween_50 : ct_Rd_valueBetween 50 = ka_rl := rfl
theorem d_Rd_valueBetween_50 : decode prog_8_method_18_code 50 = .ok (.lreturn, 1) := by decide +kernel
set_option maxRecDepth 100000 in
theorem c_Rd_valueBetween_51 : ct_Rd_valueBetween 51 = ka_ll 3 1 := rfl
theorem d_Rd_valueBetween_51 : decode prog_8_method_18_code 51 = .ok (.lload_n 3, 1) := by decide +kernel
set_option maxRecDepth 100000 in
theorem c_Rd_valueBetween_52 : ct_Rd_valueBetween 52 = ka_al 0 1 := rfl
theorem d_Rd_valueBetween_52 : decode prog_8_method_18_code 52 = .ok (.aload_n 0, 1) := by decide +kernel
set_option maxRecDepth 100000 in
theorem c_Rd_valueBetween_53 : ct_Rd_valueBetween 53 = ka_get 1 0 := rfl
theorem d_Rd_valueBetween_53 : decode prog_8_method_18_code 53 = .ok (.getfield 9, 3) := by decide +kernel
set_option maxRecDepth 100000 in
theorem c_Rd_valueBetween_56 : ct_Rd_valueBetween 56 = ka_il 6 2 := rfl
theorem d_Rd_valueBetween_56 : decode prog_8_method_18_code 56 = .ok (.iload 6, 2) := by decide +kernel
set_option maxRecDepth 100000 in
theorem c_Rd_valueBetween_58 : ct_Rd_valueBetween 58 = ka_iald := rfl
theorem d_Rd_valueBetween_58 : decode prog_8_method_18_code 58 = .ok (.iaload, 1) := by decide +kernel
set_option maxRecDepth 100000 in
theorem c_Rd_valueBetween_59 : ct_Rd_valueBetween 59 = ka_i2l := rfl
theorem d_Rd_valueBetween_59 : decode prog_8_method_18_code 59 = .ok (.i2l, 1) := by decide +kernel
set_option maxRecDepth 100000 in
theorem c_Rd_valueBetween_60 : ct_Rd_valueBetween 60 = ka_il 5 2 := rfl
theorem d_Rd_valueBetween_60 : decode prog_8_method_18_code 60 = .ok (.iload 5, 2) := by decide +kernel
set_option maxRecDepth 100000 in
theorem c_Rd_valueBetween_62 : ct_Rd_valueBetween 62 = ka_lsh (fun x y => x <<< (y.toInt64 &&& 63)) := rfl
theorem d_Rd_valueBetween_62 : decode prog_8_method_18_code 62 = .ok (.lshl, 1) := by decide +kernel
set_option maxRecDepth 100000 in
theorem c_Rd_valueBetween_63 : ct_Rd_valueBetween 63 = ka_ll2 (fun x y => x ||| y) := rfl
theorem d_Rd_valueBetween_63 : decode prog_8_method_18_code 63 = .ok (.lor, 1) := by decide +kernel
set_option maxRecDepth 100000 in
theorem c_Rd_valueBetween_64 : ct_Rd_valueBetween 64 = ka_ls 3 1 := rfl
theorem d_Rd_valueBetween_64 : decode prog_8_method_18_code 64 = .ok (.lstore_n 3, 1) := by decide +kernel
set_option maxRecDepth 100000 in
theorem c_Rd_valueBetween_65 : ct_Rd_valueBetween 65 = ka_inc 5 (-8) := rfl
theorem d_Rd_valueBetween_65 : decode prog_8_method_18_code 65 = .ok (.iinc 5 (-8), 3) := by decide +kernel
set_option maxRecDepth 100000 in
theorem c_Rd_valueBetween_68 : ct_Rd_valueBetween 68 = ka_inc 6 (nI 1) := rfl
theorem d_Rd_valueBetween_68 : decode prog_8_method_18_code 68 = .ok (.iinc 6 1, 3) := by decide +kernel
set_option maxRecDepth 100000 in
theorem c_Rd_valueBetween_71 : ct_Rd_valueBetween 71 = ka_goto 28 := rfl
theorem d_Rd_valueBetween_71 : decode prog_8_method_18_code 71 = .ok (.goto (-43), 3) := by decide +kernel
set_option maxRecDepth 100000 in
theorem c_Rd_valueBetween_74 : ct_Rd_valueBetween 74 = ka_ll 3 1 := rfl
theorem d_Rd_valueBetween_74 : decode prog_8_method_18_code 74 = .ok (.lload_n 3, 1) := by decide +kernel
set_option maxRecDepth 100000 in
theorem c_Rd_valueBetween_75 : ct_Rd_valueBetween 75 = ka_rl := rfl
theorem d_Rd_valueBetween_75 : decode prog_8_method_18_code 75 = .ok (.lreturn, 1) := by decide +kernel
set_option maxRecDepth 100000 in
set_option maxHeartbeats 4000000 in
theorem s_Rd_valueBetween_60 : ∀ pc, pc < 60 → kc_Sim kt kw_A kw_N kt_cl kt_En "DirectoryDesk$Reader" prog_8_method_18_code 7 (some .long) "valueBetween" none pc (ct_Rd_valueBetween pc) := by
  let P : Nat → Prop := fun pc => kc_Sim kt kw_A kw_N kt_cl kt_En "DirectoryDesk$Reader" prog_8_method_18_code 7 (some .long) "valueBetween" none pc (ct_Rd_valueBetween pc)
  exact kc_case (P := P) (kc_se c_Rd_valueBetween_59 (sm_i2l d_Rd_valueBetween_59)) (
  kc_case (P := P) (kc_se c_Rd_valueBetween_58 (sm_iald d_Rd_valueBetween_58)) (
  kc_case (P := P) (kc_se rfl sm_no) (
  kc_case (P := P) (kc_se c_Rd_valueBetween_56 (sm_iload d_Rd_valueBetween_56)) (
  kc_case (P := P) (kc_se rfl sm_no) (
  kc_case (P := P) (kc_se rfl sm_no) (
  kc_case (P := P) (kc_se c_Rd_valueBetween_53 (sm_get (ci := 1) (C := "DirectoryDesk$Reader") (F := kF_Rd) rfl kin_Rd (Nat.le_of_ble_eq_true rfl) d_Rd_valueBetween_53 (kw1 28 rfl rfl))) (
  kc_case (P := P) (kc_se c_Rd_valueBetween_52 (sm_aload_n d_Rd_valueBetween_52 rfl)) (
  kc_case (P := P) (kc_se c_Rd_valueBetween_51 (sm_lload_n d_Rd_valueBetween_51 rfl)) (
  kc_case (P := P) (kc_se c_Rd_valueBetween_50 (sm_rl d_Rd_valueBetween_50 rfl)) (
  kc_case (P := P) (kc_se rfl sm_no) (
  kc_case (P := P) (kc_se rfl sm_no) (
  kc_case (P := P) (kc_se c_Rd_valueBetween_47 (sm_ldc2 d_Rd_valueBetween_47 (kw2 112 rfl rfl))) (
  kc_case (P := P) (kc_se rfl sm_no) (
  kc_case (P := P) (kc_se rfl sm_no) (
  kc_case (P := P) (kc_se c_Rd_valueBetween_44 (sm_if_ne d_Rd_valueBetween_44 (by decide))) (
  kc_case (P := P) (kc_se rfl sm_no) (
  kc_case (P := P) (kc_se rfl sm_no) (
  kc_case (P := P) (kc_se c_Rd_valueBetween_41 (sm_cs (j := 44) rfl rfl kw_o kw_g wc_Rd_isInValues (Nat.le_of_ble_eq_true rfl) hd_Rd_isInValues (kw2 113 rfl rfl) wi_Rd_isInValues wn_Rd_isInValues d_Rd_valueBetween_41)) (
  kc_case (P := P) (kc_se c_Rd_valueBetween_40 (sm_iald d_Rd_valueBetween_40)) (
  kc_case (P := P) (kc_se rfl sm_no) (
  kc_case (P := P) (kc_se c_Rd_valueBetween_38 (sm_iload d_Rd_valueBetween_38)) (
  kc_case (P := P) (kc_se rfl sm_no) (
  kc_case (P := P) (kc_se rfl sm_no) (
  kc_case (P := P) (kc_se c_Rd_valueBetween_35 (sm_get (ci := 1) (C := "DirectoryDesk$Reader") (F := kF_Rd) rfl kin_Rd (Nat.le_of_ble_eq_true rfl) d_Rd_valueBetween_35 (kw1 28 rfl rfl))) (
  kc_case (P := P) (kc_se c_Rd_valueBetween_34 (sm_aload_n d_Rd_valueBetween_34 rfl)) (
  kc_case (P := P) (kc_se rfl sm_no) (
  kc_case (P := P) (kc_se rfl sm_no) (
  kc_case (P := P) (kc_se c_Rd_valueBetween_31 (sm_cm_ge d_Rd_valueBetween_31 (by decide))) (
  kc_case (P := P) (kc_se c_Rd_valueBetween_30 (sm_iload_n d_Rd_valueBetween_30 rfl)) (
  kc_case (P := P) (kc_se rfl sm_no) (
  kc_case (P := P) (kc_se c_Rd_valueBetween_28 (sm_iload d_Rd_valueBetween_28)) (
  kc_case (P := P) (kc_se rfl sm_no) (
  kc_case (P := P) (kc_se c_Rd_valueBetween_26 (sm_istore d_Rd_valueBetween_26 (Nat.le_of_ble_eq_true rfl))) (
  kc_case (P := P) (kc_se c_Rd_valueBetween_25 (sm_iload_n d_Rd_valueBetween_25 rfl)) (
  kc_case (P := P) (kc_se rfl sm_no) (
  kc_case (P := P) (kc_se c_Rd_valueBetween_23 (sm_istore d_Rd_valueBetween_23 (Nat.le_of_ble_eq_true rfl))) (
  kc_case (P := P) (kc_se rfl sm_no) (
  kc_case (P := P) (kc_se c_Rd_valueBetween_21 (sm_bipush d_Rd_valueBetween_21 (by decide))) (
  kc_case (P := P) (kc_se c_Rd_valueBetween_20 (sm_lstore_n d_Rd_valueBetween_20 rfl (Nat.le_of_ble_eq_true rfl))) (
  kc_case (P := P) (kc_se c_Rd_valueBetween_19 (sm_lconst d_Rd_valueBetween_19 (by decide))) (
  kc_case (P := P) (kc_se c_Rd_valueBetween_18 (sm_rl d_Rd_valueBetween_18 rfl)) (
  kc_case (P := P) (kc_se rfl sm_no) (
  kc_case (P := P) (kc_se rfl sm_no) (
  kc_case (P := P) (kc_se c_Rd_valueBetween_15 (sm_ldc2 d_Rd_valueBetween_15 (kw2 112 rfl rfl))) (
  kc_case (P := P) (kc_se rfl sm_no) (
  kc_case (P := P) (kc_se rfl sm_no) (
  kc_case (P := P) (kc_se c_Rd_valueBetween_12 (sm_cm_le d_Rd_valueBetween_12 (by decide))) (
  kc_case (P := P) (kc_se rfl sm_no) (
  kc_case (P := P) (kc_se c_Rd_valueBetween_10 (sm_bipush d_Rd_valueBetween_10 (by decide))) (
  kc_case (P := P) (kc_se c_Rd_valueBetween_9 (sm_isub d_Rd_valueBetween_9)) (
  kc_case (P := P) (kc_se c_Rd_valueBetween_8 (sm_iload_n d_Rd_valueBetween_8 rfl)) (
  kc_case (P := P) (kc_se c_Rd_valueBetween_7 (sm_iload_n d_Rd_valueBetween_7 rfl)) (
  kc_case (P := P) (kc_se rfl sm_no) (
  kc_case (P := P) (kc_se rfl sm_no) (
  kc_case (P := P) (kc_se c_Rd_valueBetween_4 (sm_cm_lt d_Rd_valueBetween_4 (by decide))) (
  kc_case (P := P) (kc_se c_Rd_valueBetween_3 (sm_iconst d_Rd_valueBetween_3 (by decide))) (
  kc_case (P := P) (kc_se c_Rd_valueBetween_2 (sm_isub d_Rd_valueBetween_2)) (
  kc_case (P := P) (kc_se c_Rd_valueBetween_1 (sm_iload_n d_Rd_valueBetween_1 rfl)) (
  kc_case (P := P) (kc_se c_Rd_valueBetween_0 (sm_iload_n d_Rd_valueBetween_0 rfl)) (
  kc_case0))))))))))))))))))))))))))))))))))))))))))))))))))))))))))))
set_option maxRecDepth 100000 in
set_option maxHeartbeats 4000000 in
theorem s_Rd_valueBetween_76 : ∀ pc, pc < 76 → kc_Sim kt kw_A kw_N kt_cl kt_En "DirectoryDesk$Reader" prog_8_method_18_code 7 (some .long) "valueBetween" none pc (ct_Rd_valueBetween pc) := by
  let P : Nat → Prop := fun pc => kc_Sim kt kw_A kw_N kt_cl kt_En "DirectoryDesk$Reader" prog_8_method_18_code 7 (some .long) "valueBetween" none pc (ct_Rd_valueBetween pc)
  exact kc_case (P := P) (kc_se c_Rd_valueBetween_75 (sm_rl d_Rd_valueBetween_75 rfl)) (
  kc_case (P := P) (kc_se c_Rd_valueBetween_74 (sm_lload_n d_Rd_valueBetween_74 rfl)) (
  kc_case (P := P) (kc_se rfl sm_no) (
  kc_case (P := P) (kc_se rfl sm_no) (
  kc_case (P := P) (kc_se c_Rd_valueBetween_71 (sm_goto d_Rd_valueBetween_71 (by decide))) (
  kc_case (P := P) (kc_se rfl sm_no) (
  kc_case (P := P) (kc_se rfl sm_no) (
  kc_case (P := P) (kc_se c_Rd_valueBetween_68 (sm_inc d_Rd_valueBetween_68 (by decide) (Nat.le_of_ble_eq_true rfl))) (
  kc_case (P := P) (kc_se rfl sm_no) (
  kc_case (P := P) (kc_se rfl sm_no) (
  kc_case (P := P) (kc_se c_Rd_valueBetween_65 (sm_inc d_Rd_valueBetween_65 (by decide) (Nat.le_of_ble_eq_true rfl))) (
  kc_case (P := P) (kc_se c_Rd_valueBetween_64 (sm_lstore_n d_Rd_valueBetween_64 rfl (Nat.le_of_ble_eq_true rfl))) (
  kc_case (P := P) (kc_se c_Rd_valueBetween_63 (sm_lor d_Rd_valueBetween_63)) (
  kc_case (P := P) (kc_se c_Rd_valueBetween_62 (sm_lshl d_Rd_valueBetween_62)) (
  kc_case (P := P) (kc_se rfl sm_no) (
  kc_case (P := P) (kc_se c_Rd_valueBetween_60 (sm_iload d_Rd_valueBetween_60)) (
  s_Rd_valueBetween_60))))))))))))))))
theorem ka_nth_no_Rd_valueBetween (pc : Nat) (h : 76 ≤ pc) : ct_Rd_valueBetween pc = ka_no := ka_nth_ge _ pc (Nat.le_trans (Nat.le_of_eq (by rfl)) h)
theorem s_Rd_valueBetween (pc : Nat) : kc_Sim kt kw_A kw_N kt_cl kt_En "DirectoryDesk$Reader" prog_8_method_18_code 7 (some .long) "valueBetween" none pc (ct_Rd_valueBetween pc) := (Nat.lt_or_ge pc 76).elim (s_Rd_valueBetween_76 pc) (fun h => kc_se (ka_nth_no_Rd_valueBetween pc h) sm_no)
def cl_Rd_partEnd_0 : List kc_A := [ka_il 1 1, ka_is 2 1, ka_il 1 1, ka_is 3 1, ka_il 3 1, ka_al 0 1, ka_get 1 7, ka_no, ka_no, ka_cm (fun x y => y ≤ x) 33, ka_no, ka_no, ka_al 0 1, ka_get 1 0, ka_no, ka_no, ka_il 3 1, ka_iald, ka_ci (nI 44) 2, ka_no, ka_cm (fun x y => x = y) 33, ka_no, ka_no, ka_il 3 1, ka_ci (nI 1) 1, ka_ii (fun x y => x + y), ka_is 2 1, ka_inc 3 (nI 1), ka_no, ka_no, ka_goto 4, ka_no, ka_no, ka_il 2 1, ka_ri]
def ct_Rd_partEnd : Nat → kc_A := fun pc => ka_nth (cl_Rd_partEnd_0) pc
set_option maxRecDepth 100000 in
theorem c_Rd_partEnd_0 : ct_Rd_partEnd 0 = ka_il 1 1 := rfl
theorem d_Rd_partEnd_0 : decode prog_8_method_19_code 0 = .ok (.iload_n 1, 1) := by decide +kernel
set_option maxRecDepth 100000 in
theorem c_Rd_partEnd_1 : ct_Rd_partEnd 1 = ka_is 2 1 := rfl
theorem d_Rd_partEnd_1 : decode prog_8_method_19_code 1 = .ok (.istore_n 2, 1) := by decide +kernel
set_option maxRecDepth 100000 in
theorem c_Rd_partEnd_2 : ct_Rd_partEnd 2 = ka_il 1 1 := rfl
theorem d_Rd_partEnd_2 : decode prog_8_method_19_code 2 = .ok (.iload_n 1, 1) := by decide +kernel
set_option maxRecDepth 100000 in
theorem c_Rd_partEnd_3 : ct_Rd_partEnd 3 = ka_is 3 1 := rfl
theorem d_Rd_partEnd_3 : decode prog_8_method_19_code 3 = .ok (.istore_n 3, 1) := by decide +kernel
set_option maxRecDepth 100000 in
theorem c_Rd_partEnd_4 : ct_Rd_partEnd 4 = ka_il 3 1 := rfl
theorem d_Rd_partEnd_4 : decode prog_8_method_19_code 4 = .ok (.iload_n 3, 1) := by decide +kernel
set_option maxRecDepth 100000 in
theorem c_Rd_partEnd_5 : ct_Rd_partEnd 5 = ka_al 0 1 := rfl
theorem d_Rd_partEnd_5 : decode prog_8_method_19_code 5 = .ok (.aload_n 0, 1) := by decide +kernel
set_option maxRecDepth 100000 in
theorem c_Rd_partEnd_6 : ct_Rd_partEnd 6 = ka_get 1 7 := rfl
theorem d_Rd_partEnd_6 : decode prog_8_method_19_code 6 = .ok (.getfield 51, 3) := by decide +kernel
set_option maxRecDepth 100000 in
theorem c_Rd_partEnd_9 : ct_Rd_partEnd 9 = ka_cm (fun x y => y ≤ x) 33 := rfl
theorem d_Rd_partEnd_9 : decode prog_8_method_19_code 9 = .ok (.if_icmp .ge 24, 3) := by decide +kernel
set_option maxRecDepth 100000 in
theorem c_Rd_partEnd_12 : ct_Rd_partEnd 12 = ka_al 0 1 := rfl
theorem d_Rd_partEnd_12 : decode prog_8_method_19_code 12 = .ok (.aload_n 0, 1) := by decide +kernel
set_option maxRecDepth 100000 in
theorem c_Rd_partEnd_13 : ct_Rd_partEnd 13 = ka_get 1 0 := rfl
theorem d_Rd_partEnd_13 : decode prog_8_method_19_code 13 = .ok (.getfield 9, 3) := by decide +kernel
set_option maxRecDepth 100000 in
theorem c_Rd_partEnd_16 : ct_Rd_partEnd 16 = ka_il 3 1 := rfl
theorem d_Rd_partEnd_16 : decode prog_8_method_19_code 16 = .ok (.iload_n 3, 1) := by decide +kernel
set_option maxRecDepth 100000 in
theorem c_Rd_partEnd_17 : ct_Rd_partEnd 17 = ka_iald := rfl
theorem d_Rd_partEnd_17 : decode prog_8_method_19_code 17 = .ok (.iaload, 1) := by decide +kernel
set_option maxRecDepth 100000 in
theorem c_Rd_partEnd_18 : ct_Rd_partEnd 18 = ka_ci (nI 44) 2 := rfl
theorem d_Rd_partEnd_18 : decode prog_8_method_19_code 18 = .ok (.bipush 44, 2) := by decide +kernel
set_option maxRecDepth 100000 in
theorem c_Rd_partEnd_20 : ct_Rd_partEnd 20 = ka_cm (fun x y => x = y) 33 := rfl
theorem d_Rd_partEnd_20 : decode prog_8_method_19_code 20 = .ok (.if_icmp .eq 13, 3) := by decide +kernel
set_option maxRecDepth 100000 in
theorem c_Rd_partEnd_23 : ct_Rd_partEnd 23 = ka_il 3 1 := rfl
theorem d_Rd_partEnd_23 : decode prog_8_method_19_code 23 = .ok (.iload_n 3, 1) := by decide +kernel
set_option maxRecDepth 100000 in
theorem c_Rd_partEnd_24 : ct_Rd_partEnd 24 = ka_ci (nI 1) 1 := rfl
theorem d_Rd_partEnd_24 : decode prog_8_method_19_code 24 = .ok (.iconst 1, 1) := by decide +kernel
set_option maxRecDepth 100000 in
theorem c_Rd_partEnd_25 : ct_Rd_partEnd 25 = ka_ii (fun x y => x + y) := rfl
theorem d_Rd_partEnd_25 : decode prog_8_method_19_code 25 = .ok (.iadd, 1) := by decide +kernel
set_option maxRecDepth 100000 in
theorem c_Rd_partEnd_26 : ct_Rd_partEnd 26 = ka_is 2 1 := rfl
theorem d_Rd_partEnd_26 : decode prog_8_method_19_code 26 = .ok (.istore_n 2, 1) := by decide +kernel
set_option maxRecDepth 100000 in
theorem c_Rd_partEnd_27 : ct_Rd_partEnd 27 = ka_inc 3 (nI 1) := rfl
theorem d_Rd_partEnd_27 : decode prog_8_method_19_code 27 = .ok (.iinc 3 1, 3) := by decide +kernel
set_option maxRecDepth 100000 in
theorem c_Rd_partEnd_30 : ct_Rd_partEnd 30 = ka_goto 4 := rfl
theorem d_Rd_partEnd_30 : decode prog_8_method_19_code 30 = .ok (.goto (-26), 3) := by decide +kernel
set_option maxRecDepth 100000 in
theorem c_Rd_partEnd_33 : ct_Rd_partEnd 33 = ka_il 2 1 := rfl
theorem d_Rd_partEnd_33 : decode prog_8_method_19_code 33 = .ok (.iload_n 2, 1) := by decide +kernel
set_option maxRecDepth 100000 in
theorem c_Rd_partEnd_34 : ct_Rd_partEnd 34 = ka_ri := rfl
theorem d_Rd_partEnd_34 : decode prog_8_method_19_code 34 = .ok (.ireturn, 1) := by decide +kernel
set_option maxRecDepth 100000 in
set_option maxHeartbeats 4000000 in
theorem s_Rd_partEnd_35 : ∀ pc, pc < 35 → kc_Sim kt kw_A kw_N kt_cl kt_En "DirectoryDesk$Reader" prog_8_method_19_code 4 (some .int) "partEnd" none pc (ct_Rd_partEnd pc) := by
  let P : Nat → Prop := fun pc => kc_Sim kt kw_A kw_N kt_cl kt_En "DirectoryDesk$Reader" prog_8_method_19_code 4 (some .int) "partEnd" none pc (ct_Rd_partEnd pc)
  exact kc_case (P := P) (kc_se c_Rd_partEnd_34 (sm_ri d_Rd_partEnd_34 rfl)) (
  kc_case (P := P) (kc_se c_Rd_partEnd_33 (sm_iload_n d_Rd_partEnd_33 rfl)) (
  kc_case (P := P) (kc_se rfl sm_no) (
  kc_case (P := P) (kc_se rfl sm_no) (
  kc_case (P := P) (kc_se c_Rd_partEnd_30 (sm_goto d_Rd_partEnd_30 (by decide))) (
  kc_case (P := P) (kc_se rfl sm_no) (
  kc_case (P := P) (kc_se rfl sm_no) (
  kc_case (P := P) (kc_se c_Rd_partEnd_27 (sm_inc d_Rd_partEnd_27 (by decide) (Nat.le_of_ble_eq_true rfl))) (
  kc_case (P := P) (kc_se c_Rd_partEnd_26 (sm_istore_n d_Rd_partEnd_26 rfl (Nat.le_of_ble_eq_true rfl))) (
  kc_case (P := P) (kc_se c_Rd_partEnd_25 (sm_iadd d_Rd_partEnd_25)) (
  kc_case (P := P) (kc_se c_Rd_partEnd_24 (sm_iconst d_Rd_partEnd_24 (by decide))) (
  kc_case (P := P) (kc_se c_Rd_partEnd_23 (sm_iload_n d_Rd_partEnd_23 rfl)) (
  kc_case (P := P) (kc_se rfl sm_no) (
  kc_case (P := P) (kc_se rfl sm_no) (
  kc_case (P := P) (kc_se c_Rd_partEnd_20 (sm_cm_eq d_Rd_partEnd_20 (by decide))) (
  kc_case (P := P) (kc_se rfl sm_no) (
  kc_case (P := P) (kc_se c_Rd_partEnd_18 (sm_bipush d_Rd_partEnd_18 (by decide))) (
  kc_case (P := P) (kc_se c_Rd_partEnd_17 (sm_iald d_Rd_partEnd_17)) (
  kc_case (P := P) (kc_se c_Rd_partEnd_16 (sm_iload_n d_Rd_partEnd_16 rfl)) (
  kc_case (P := P) (kc_se rfl sm_no) (
  kc_case (P := P) (kc_se rfl sm_no) (
  kc_case (P := P) (kc_se c_Rd_partEnd_13 (sm_get (ci := 1) (C := "DirectoryDesk$Reader") (F := kF_Rd) rfl kin_Rd (Nat.le_of_ble_eq_true rfl) d_Rd_partEnd_13 (kw1 28 rfl rfl))) (
  kc_case (P := P) (kc_se c_Rd_partEnd_12 (sm_aload_n d_Rd_partEnd_12 rfl)) (
  kc_case (P := P) (kc_se rfl sm_no) (
  kc_case (P := P) (kc_se rfl sm_no) (
  kc_case (P := P) (kc_se c_Rd_partEnd_9 (sm_cm_ge d_Rd_partEnd_9 (by decide))) (
  kc_case (P := P) (kc_se rfl sm_no) (
  kc_case (P := P) (kc_se rfl sm_no) (
  kc_case (P := P) (kc_se c_Rd_partEnd_6 (sm_get (ci := 1) (C := "DirectoryDesk$Reader") (F := kF_Rd) rfl kin_Rd (Nat.le_of_ble_eq_true rfl) d_Rd_partEnd_6 (kw1 43 rfl rfl))) (
  kc_case (P := P) (kc_se c_Rd_partEnd_5 (sm_aload_n d_Rd_partEnd_5 rfl)) (
  kc_case (P := P) (kc_se c_Rd_partEnd_4 (sm_iload_n d_Rd_partEnd_4 rfl)) (
  kc_case (P := P) (kc_se c_Rd_partEnd_3 (sm_istore_n d_Rd_partEnd_3 rfl (Nat.le_of_ble_eq_true rfl))) (
  kc_case (P := P) (kc_se c_Rd_partEnd_2 (sm_iload_n d_Rd_partEnd_2 rfl)) (
  kc_case (P := P) (kc_se c_Rd_partEnd_1 (sm_istore_n d_Rd_partEnd_1 rfl (Nat.le_of_ble_eq_true rfl))) (
  kc_case (P := P) (kc_se c_Rd_partEnd_0 (sm_iload_n d_Rd_partEnd_0 rfl)) (
  kc_case0)))))))))))))))))))))))))))))))))))
theorem ka_nth_no_Rd_partEnd (pc : Nat) (h : 35 ≤ pc) : ct_Rd_partEnd pc = ka_no := ka_nth_ge _ pc (Nat.le_trans (Nat.le_of_eq (by rfl)) h)
theorem s_Rd_partEnd (pc : Nat) : kc_Sim kt kw_A kw_N kt_cl kt_En "DirectoryDesk$Reader" prog_8_method_19_code 4 (some .int) "partEnd" none pc (ct_Rd_partEnd pc) := (Nat.lt_or_ge pc 35).elim (s_Rd_partEnd_35 pc) (fun h => kc_se (ka_nth_no_Rd_partEnd pc h) sm_no)
def cl_Rd_typeOf_0 : List kc_A := [ka_il 0 1, ka_ci (nI 97) 2, ka_no, ka_cm (fun x y => x < y) 16, ka_no, ka_no, ka_il 0 1, ka_ci (nI 102) 2, ka_no, ka_cm (fun x y => y < x) 16, ka_no, ka_no, ka_il 0 1, ka_goto 17, ka_no, ka_no, ka_ci (-1) 1, ka_ri]
def ct_Rd_typeOf : Nat → kc_A := fun pc => ka_nth (cl_Rd_typeOf_0) pc
set_option maxRecDepth 100000 in
theorem c_Rd_typeOf_0 : ct_Rd_typeOf 0 = ka_il 0 1 := rfl
theorem d_Rd_typeOf_0 : decode prog_8_method_20_code 0 = .ok (.iload_n 0, 1) := by decide +kernel
set_option maxRecDepth 100000 in
theorem c_Rd_typeOf_1 : ct_Rd_typeOf 1 = ka_ci (nI 97) 2 := rfl
theorem d_Rd_typeOf_1 : decode prog_8_method_20_code 1 = .ok (.bipush 97, 2) := by decide +kernel
set_option maxRecDepth 100000 in
theorem c_Rd_typeOf_3 : ct_Rd_typeOf 3 = ka_cm (fun x y => x < y) 16 := rfl
theorem d_Rd_typeOf_3 : decode prog_8_method_20_code 3 = .ok (.if_icmp .lt 13, 3) := by decide +kernel
set_option maxRecDepth 100000 in
theorem c_Rd_typeOf_6 : ct_Rd_typeOf 6 = ka_il 0 1 := rfl
theorem d_Rd_typeOf_6 : decode prog_8_method_20_code 6 = .ok (.iload_n 0, 1) := by decide +kernel
set_option maxRecDepth 100000 in
theorem c_Rd_typeOf_7 : ct_Rd_typeOf 7 = ka_ci (nI 102) 2 := rfl
theorem d_Rd_typeOf_7 : decode prog_8_method_20_code 7 = .ok (.bipush 102, 2) := by decide +kernel
set_option maxRecDepth 100000 in
theorem c_Rd_typeOf_9 : ct_Rd_typeOf 9 = ka_cm (fun x y => y < x) 16 := rfl
theorem d_Rd_typeOf_9 : decode prog_8_method_20_code 9 = .ok (.if_icmp .gt 7, 3) := by decide +kernel
set_option maxRecDepth 100000 in
theorem c_Rd_typeOf_12 : ct_Rd_typeOf 12 = ka_il 0 1 := rfl
theorem d_Rd_typeOf_12 : decode prog_8_method_20_code 12 = .ok (.iload_n 0, 1) := by decide +kernel
set_option maxRecDepth 100000 in
theorem c_Rd_typeOf_13 : ct_Rd_typeOf 13 = ka_goto 17 := rfl
theorem d_Rd_typeOf_13 : decode prog_8_method_20_code 13 = .ok (.goto 4, 3) := by decide +kernel
set_option maxRecDepth 100000 in
theorem c_Rd_typeOf_16 : ct_Rd_typeOf 16 = ka_ci (-1) 1 := rfl
theorem d_Rd_typeOf_16 : decode prog_8_method_20_code 16 = .ok (.iconst (-1), 1) := by decide +kernel
set_option maxRecDepth 100000 in
theorem c_Rd_typeOf_17 : ct_Rd_typeOf 17 = ka_ri := rfl
theorem d_Rd_typeOf_17 : decode prog_8_method_20_code 17 = .ok (.ireturn, 1) := by decide +kernel
set_option maxRecDepth 100000 in
set_option maxHeartbeats 4000000 in
theorem s_Rd_typeOf_18 : ∀ pc, pc < 18 → kc_Sim kt kw_A kw_N kt_cl kt_En "DirectoryDesk$Reader" prog_8_method_20_code 1 (some .int) "typeOf" none pc (ct_Rd_typeOf pc) := by
  let P : Nat → Prop := fun pc => kc_Sim kt kw_A kw_N kt_cl kt_En "DirectoryDesk$Reader" prog_8_method_20_code 1 (some .int) "typeOf" none pc (ct_Rd_typeOf pc)
  exact kc_case (P := P) (kc_se c_Rd_typeOf_17 (sm_ri d_Rd_typeOf_17 rfl)) (
  kc_case (P := P) (kc_se c_Rd_typeOf_16 (sm_iconst d_Rd_typeOf_16 (by decide))) (
  kc_case (P := P) (kc_se rfl sm_no) (
  kc_case (P := P) (kc_se rfl sm_no) (
  kc_case (P := P) (kc_se c_Rd_typeOf_13 (sm_goto d_Rd_typeOf_13 (by decide))) (
  kc_case (P := P) (kc_se c_Rd_typeOf_12 (sm_iload_n d_Rd_typeOf_12 rfl)) (
  kc_case (P := P) (kc_se rfl sm_no) (
  kc_case (P := P) (kc_se rfl sm_no) (
  kc_case (P := P) (kc_se c_Rd_typeOf_9 (sm_cm_gt d_Rd_typeOf_9 (by decide))) (
  kc_case (P := P) (kc_se rfl sm_no) (
  kc_case (P := P) (kc_se c_Rd_typeOf_7 (sm_bipush d_Rd_typeOf_7 (by decide))) (
  kc_case (P := P) (kc_se c_Rd_typeOf_6 (sm_iload_n d_Rd_typeOf_6 rfl)) (
  kc_case (P := P) (kc_se rfl sm_no) (
  kc_case (P := P) (kc_se rfl sm_no) (
  kc_case (P := P) (kc_se c_Rd_typeOf_3 (sm_cm_lt d_Rd_typeOf_3 (by decide))) (
  kc_case (P := P) (kc_se rfl sm_no) (
  kc_case (P := P) (kc_se c_Rd_typeOf_1 (sm_bipush d_Rd_typeOf_1 (by decide))) (
  kc_case (P := P) (kc_se c_Rd_typeOf_0 (sm_iload_n d_Rd_typeOf_0 rfl)) (
  kc_case0))))))))))))))))))
theorem ka_nth_no_Rd_typeOf (pc : Nat) (h : 18 ≤ pc) : ct_Rd_typeOf pc = ka_no := ka_nth_ge _ pc (Nat.le_trans (Nat.le_of_eq (by rfl)) h)
theorem s_Rd_typeOf (pc : Nat) : kc_Sim kt kw_A kw_N kt_cl kt_En "DirectoryDesk$Reader" prog_8_method_20_code 1 (some .int) "typeOf" none pc (ct_Rd_typeOf pc) := (Nat.lt_or_ge pc 18).elim (s_Rd_typeOf_18 pc) (fun h => kc_se (ka_nth_no_Rd_typeOf pc h) sm_no)
def cl_Rd_isInValues_0 : List kc_A := [ka_il 0 1, ka_ci (nI 97) 2, ka_no, ka_cm (fun x y => x < y) 12, ka_no, ka_no, ka_il 0 1, ka_ci (nI 122) 2, ka_no, ka_cm (fun x y => x ≤ y) 24, ka_no, ka_no, ka_il 0 1, ka_ci (nI 48) 2, ka_no, ka_cm (fun x y => x < y) 28, ka_no, ka_no, ka_il 0 1, ka_ci (nI 57) 2, ka_no, ka_cm (fun x y => y < x) 28, ka_no, ka_no, ka_ci (nI 1) 1, ka_goto 29, ka_no, ka_no, ka_ci (nI 0) 1, ka_rz]
def ct_Rd_isInValues : Nat → kc_A := fun pc => ka_nth (cl_Rd_isInValues_0) pc
set_option maxRecDepth 100000 in
theorem c_Rd_isInValues_0 : ct_Rd_isInValues 0 = ka_il 0 1 := rfl
theorem d_Rd_isInValues_0 : decode prog_8_method_21_code 0 = .ok (.iload_n 0, 1) := by decide +kernel
set_option maxRecDepth 100000 in
theorem c_Rd_isInValues_1 : ct_Rd_isInValues 1 = ka_ci (nI 97) 2 := rfl
theorem d_Rd_isInValues_1 : decode prog_8_method_21_code 1 = .ok (.bipush 97, 2) := by decide +kernel
set_option maxRecDepth 100000 in
theorem c_Rd_isInValues_3 : ct_Rd_isInValues 3 = ka_cm (fun x y => x < y) 12 := rfl
theorem d_Rd_isInValues_3 : decode prog_8_method_21_code 3 = .ok (.if_icmp .lt 9, 3) := by decide +kernel
set_option maxRecDepth 100000 in
theorem c_Rd_isInValues_6 : ct_Rd_isInValues 6 = ka_il 0 1 := rfl
theorem d_Rd_isInValues_6 : decode prog_8_method_21_code 6 = .ok (.iload_n 0, 1) := by decide +kernel
set_option maxRecDepth 100000 in
theorem c_Rd_isInValues_7 : ct_Rd_isInValues 7 = ka_ci (nI 122) 2 := rfl
theorem d_Rd_isInValues_7 : decode prog_8_method_21_code 7 = .ok (.bipush 122, 2) := by decide +kernel
set_option maxRecDepth 100000 in
theorem c_Rd_isInValues_9 : ct_Rd_isInValues 9 = ka_cm (fun x y => x ≤ y) 24 := rfl
theorem d_Rd_isInValues_9 : decode prog_8_method_21_code 9 = .ok (.if_icmp .le 15, 3) := by decide +kernel
set_option maxRecDepth 100000 in
theorem c_Rd_isInValues_12 : ct_Rd_isInValues 12 = ka_il 0 1 := rfl
theorem d_Rd_isInValues_12 : decode prog_8_method_21_code 12 = .ok (.iload_n 0, 1) := by decide +kernel
set_option maxRecDepth 100000 in
theorem c_Rd_isInValues_13 : ct_Rd_isInValues 13 = ka_ci (nI 48) 2 := rfl
theorem d_Rd_isInValues_13 : decode prog_8_method_21_code 13 = .ok (.bipush 48, 2) := by decide +kernel
set_option maxRecDepth 100000 in
theorem c_Rd_isInValues_15 : ct_Rd_isInValues 15 = ka_cm (fun x y => x < y) 28 := rfl
theorem d_Rd_isInValues_15 : decode prog_8_method_21_code 15 = .ok (.if_icmp .lt 13, 3) := by decide +kernel
set_option maxRecDepth 100000 in
theorem c_Rd_isInValues_18 : ct_Rd_isInValues 18 = ka_il 0 1 := rfl
theorem d_Rd_isInValues_18 : decode prog_8_method_21_code 18 = .ok (.iload_n 0, 1) := by decide +kernel
set_option maxRecDepth 100000 in
theorem c_Rd_isInValues_19 : ct_Rd_isInValues 19 = ka_ci (nI 57) 2 := rfl
theorem d_Rd_isInValues_19 : decode prog_8_method_21_code 19 = .ok (.bipush 57, 2) := by decide +kernel
set_option maxRecDepth 100000 in
theorem c_Rd_isInValues_21 : ct_Rd_isInValues 21 = ka_cm (fun x y => y < x) 28 := rfl
theorem d_Rd_isInValues_21 : decode prog_8_method_21_code 21 = .ok (.if_icmp .gt 7, 3) := by decide +kernel
set_option maxRecDepth 100000 in
theorem c_Rd_isInValues_24 : ct_Rd_isInValues 24 = ka_ci (nI 1) 1 := rfl
theorem d_Rd_isInValues_24 : decode prog_8_method_21_code 24 = .ok (.iconst 1, 1) := by decide +kernel
set_option maxRecDepth 100000 in
theorem c_Rd_isInValues_25 : ct_Rd_isInValues 25 = ka_goto 29 := rfl
theorem d_Rd_isInValues_25 : decode prog_8_method_21_code 25 = .ok (.goto 4, 3) := by decide +kernel
set_option maxRecDepth 100000 in
theorem c_Rd_isInValues_28 : ct_Rd_isInValues 28 = ka_ci (nI 0) 1 := rfl
theorem d_Rd_isInValues_28 : decode prog_8_method_21_code 28 = .ok (.iconst 0, 1) := by decide +kernel
set_option maxRecDepth 100000 in
theorem c_Rd_isInValues_29 : ct_Rd_isInValues 29 = ka_rz := rfl
theorem d_Rd_isInValues_29 : decode prog_8_method_21_code 29 = .ok (.ireturn, 1) := by decide +kernel
set_option maxRecDepth 100000 in
set_option maxHeartbeats 4000000 in
theorem s_Rd_isInValues_30 : ∀ pc, pc < 30 → kc_Sim kt kw_A kw_N kt_cl kt_En "DirectoryDesk$Reader" prog_8_method_21_code 1 (some .boolean) "isInValues" none pc (ct_Rd_isInValues pc) := by
  let P : Nat → Prop := fun pc => kc_Sim kt kw_A kw_N kt_cl kt_En "DirectoryDesk$Reader" prog_8_method_21_code 1 (some .boolean) "isInValues" none pc (ct_Rd_isInValues pc)
  exact kc_case (P := P) (kc_se c_Rd_isInValues_29 (sm_rz d_Rd_isInValues_29 rfl)) (
  kc_case (P := P) (kc_se c_Rd_isInValues_28 (sm_iconst d_Rd_isInValues_28 (by decide))) (
  kc_case (P := P) (kc_se rfl sm_no) (
  kc_case (P := P) (kc_se rfl sm_no) (
  kc_case (P := P) (kc_se c_Rd_isInValues_25 (sm_goto d_Rd_isInValues_25 (by decide))) (
  kc_case (P := P) (kc_se c_Rd_isInValues_24 (sm_iconst d_Rd_isInValues_24 (by decide))) (
  kc_case (P := P) (kc_se rfl sm_no) (
  kc_case (P := P) (kc_se rfl sm_no) (
  kc_case (P := P) (kc_se c_Rd_isInValues_21 (sm_cm_gt d_Rd_isInValues_21 (by decide))) (
  kc_case (P := P) (kc_se rfl sm_no) (
  kc_case (P := P) (kc_se c_Rd_isInValues_19 (sm_bipush d_Rd_isInValues_19 (by decide))) (
  kc_case (P := P) (kc_se c_Rd_isInValues_18 (sm_iload_n d_Rd_isInValues_18 rfl)) (
  kc_case (P := P) (kc_se rfl sm_no) (
  kc_case (P := P) (kc_se rfl sm_no) (
  kc_case (P := P) (kc_se c_Rd_isInValues_15 (sm_cm_lt d_Rd_isInValues_15 (by decide))) (
  kc_case (P := P) (kc_se rfl sm_no) (
  kc_case (P := P) (kc_se c_Rd_isInValues_13 (sm_bipush d_Rd_isInValues_13 (by decide))) (
  kc_case (P := P) (kc_se c_Rd_isInValues_12 (sm_iload_n d_Rd_isInValues_12 rfl)) (
  kc_case (P := P) (kc_se rfl sm_no) (
  kc_case (P := P) (kc_se rfl sm_no) (
  kc_case (P := P) (kc_se c_Rd_isInValues_9 (sm_cm_le d_Rd_isInValues_9 (by decide))) (
  kc_case (P := P) (kc_se rfl sm_no) (
  kc_case (P := P) (kc_se c_Rd_isInValues_7 (sm_bipush d_Rd_isInValues_7 (by decide))) (
  kc_case (P := P) (kc_se c_Rd_isInValues_6 (sm_iload_n d_Rd_isInValues_6 rfl)) (
  kc_case (P := P) (kc_se rfl sm_no) (
  kc_case (P := P) (kc_se rfl sm_no) (
  kc_case (P := P) (kc_se c_Rd_isInValues_3 (sm_cm_lt d_Rd_isInValues_3 (by decide))) (
  kc_case (P := P) (kc_se rfl sm_no) (
  kc_case (P := P) (kc_se c_Rd_isInValues_1 (sm_bipush d_Rd_isInValues_1 (by decide))) (
  kc_case (P := P) (kc_se c_Rd_isInValues_0 (sm_iload_n d_Rd_isInValues_0 rfl)) (
  kc_case0))))))))))))))))))))))))))))))
theorem ka_nth_no_Rd_isInValues (pc : Nat) (h : 30 ≤ pc) : ct_Rd_isInValues pc = ka_no := ka_nth_ge _ pc (Nat.le_trans (Nat.le_of_eq (by rfl)) h)
theorem s_Rd_isInValues (pc : Nat) : kc_Sim kt kw_A kw_N kt_cl kt_En "DirectoryDesk$Reader" prog_8_method_21_code 1 (some .boolean) "isInValues" none pc (ct_Rd_isInValues pc) := (Nat.lt_or_ge pc 30).elim (s_Rd_isInValues_30 pc) (fun h => kc_se (ka_nth_no_Rd_isInValues pc h) sm_no)
def cl_Wr_init_0 : List kc_A := [ka_al 0 1, ka_obj, ka_no, ka_no, ka_al 0 1, ka_ci (nI 460) 3, ka_no, ka_no, ka_newi, ka_no, ka_put 2 0 (.array .int), ka_no, ka_no, ka_ret]
def ct_Wr_init : Nat → kc_A := fun pc => ka_nth (cl_Wr_init_0) pc
set_option maxRecDepth 100000 in
theorem c_Wr_init_0 : ct_Wr_init 0 = ka_al 0 1 := rfl
theorem d_Wr_init_0 : decode prog_10_method_1_code 0 = .ok (.aload_n 0, 1) := by decide +kernel
set_option maxRecDepth 100000 in
theorem c_Wr_init_1 : ct_Wr_init 1 = ka_obj := rfl
theorem d_Wr_init_1 : decode prog_10_method_1_code 1 = .ok (.invokespecial 3, 3) := by decide +kernel
set_option maxRecDepth 100000 in
theorem c_Wr_init_4 : ct_Wr_init 4 = ka_al 0 1 := rfl
theorem d_Wr_init_4 : decode prog_10_method_1_code 4 = .ok (.aload_n 0, 1) := by decide +kernel
set_option maxRecDepth 100000 in
theorem c_Wr_init_5 : ct_Wr_init 5 = ka_ci (nI 460) 3 := rfl
theorem d_Wr_init_5 : decode prog_10_method_1_code 5 = .ok (.sipush 460, 3) := by decide +kernel
set_option maxRecDepth 100000 in
theorem c_Wr_init_8 : ct_Wr_init 8 = ka_newi := rfl
theorem d_Wr_init_8 : decode prog_10_method_1_code 8 = .ok (.newarray .int, 2) := by decide +kernel
set_option maxRecDepth 100000 in
theorem c_Wr_init_10 : ct_Wr_init 10 = ka_put 2 0 (.array .int) := rfl
theorem d_Wr_init_10 : decode prog_10_method_1_code 10 = .ok (.putfield 9, 3) := by decide +kernel
set_option maxRecDepth 100000 in
theorem c_Wr_init_13 : ct_Wr_init 13 = ka_ret := rfl
theorem d_Wr_init_13 : decode prog_10_method_1_code 13 = .ok (.return_, 1) := by decide +kernel
set_option maxRecDepth 100000 in
set_option maxHeartbeats 4000000 in
theorem s_Wr_init_14 : ∀ pc, pc < 14 → kc_Sim kt kw_A kw_N kt_cl kt_En "DirectoryDesk$Writer" prog_10_method_1_code 1 (none) "<init>" none pc (ct_Wr_init pc) := by
  let P : Nat → Prop := fun pc => kc_Sim kt kw_A kw_N kt_cl kt_En "DirectoryDesk$Writer" prog_10_method_1_code 1 (none) "<init>" none pc (ct_Wr_init pc)
  exact kc_case (P := P) (kc_se c_Wr_init_13 (sm_ret d_Wr_init_13 rfl)) (
  kc_case (P := P) (kc_se rfl sm_no) (
  kc_case (P := P) (kc_se rfl sm_no) (
  kc_case (P := P) (kc_se c_Wr_init_10 (sm_putF (ci := 2) (C := "DirectoryDesk$Writer") (F := kF_Wr) rfl kin_Wr kty_Wr ktk_Wr knm_Wr (Nat.le_of_ble_eq_true rfl) (by decide +kernel) d_Wr_init_10 (kw1 69 rfl rfl) rfl rfl rfl)) (
  kc_case (P := P) (kc_se rfl sm_no) (
  kc_case (P := P) (kc_se c_Wr_init_8 (sm_newi rfl d_Wr_init_8 (kw1 62 rfl rfl))) (
  kc_case (P := P) (kc_se rfl sm_no) (
  kc_case (P := P) (kc_se rfl sm_no) (
  kc_case (P := P) (kc_se c_Wr_init_5 (sm_sipush d_Wr_init_5 (by decide))) (
  kc_case (P := P) (kc_se c_Wr_init_4 (sm_aload_n d_Wr_init_4 rfl)) (
  kc_case (P := P) (kc_se rfl sm_no) (
  kc_case (P := P) (kc_se rfl sm_no) (
  kc_case (P := P) (kc_se c_Wr_init_1 (sm_obj d_Wr_init_1 (kw1 68 rfl rfl) (kw1 20 rfl rfl) (kw1 21 rfl rfl))) (
  kc_case (P := P) (kc_se c_Wr_init_0 (sm_aload_n d_Wr_init_0 rfl)) (
  kc_case0))))))))))))))
theorem ka_nth_no_Wr_init (pc : Nat) (h : 14 ≤ pc) : ct_Wr_init pc = ka_no := ka_nth_ge _ pc (Nat.le_trans (Nat.le_of_eq (by rfl)) h)
theorem s_Wr_init (pc : Nat) : kc_Sim kt kw_A kw_N kt_cl kt_En "DirectoryDesk$Writer" prog_10_method_1_code 1 (none) "<init>" none pc (ct_Wr_init pc) := (Nat.lt_or_ge pc 14).elim (s_Wr_init_14 pc) (fun h => kc_se (ka_nth_no_Wr_init pc h) sm_no)
def cl_Wr_clear_0 : List kc_A := [ka_al 0 1, ka_ci (nI 0) 1, ka_put 2 1 .int, ka_no, ka_no, ka_ret]
def ct_Wr_clear : Nat → kc_A := fun pc => ka_nth (cl_Wr_clear_0) pc
set_option maxRecDepth 100000 in
theorem c_Wr_clear_0 : ct_Wr_clear 0 = ka_al 0 1 := rfl
theorem d_Wr_clear_0 : decode prog_10_method_2_code 0 = .ok (.aload_n 0, 1) := by decide +kernel
set_option maxRecDepth 100000 in
theorem c_Wr_clear_1 : ct_Wr_clear 1 = ka_ci (nI 0) 1 := rfl
theorem d_Wr_clear_1 : decode prog_10_method_2_code 1 = .ok (.iconst 0, 1) := by decide +kernel
set_option maxRecDepth 100000 in
theorem c_Wr_clear_2 : ct_Wr_clear 2 = ka_put 2 1 .int := rfl
theorem d_Wr_clear_2 : decode prog_10_method_2_code 2 = .ok (.putfield 15, 3) := by decide +kernel
set_option maxRecDepth 100000 in
theorem c_Wr_clear_5 : ct_Wr_clear 5 = ka_ret := rfl
theorem d_Wr_clear_5 : decode prog_10_method_2_code 5 = .ok (.return_, 1) := by decide +kernel
set_option maxRecDepth 100000 in
set_option maxHeartbeats 4000000 in
theorem s_Wr_clear_6 : ∀ pc, pc < 6 → kc_Sim kt kw_A kw_N kt_cl kt_En "DirectoryDesk$Writer" prog_10_method_2_code 1 (none) "clear" none pc (ct_Wr_clear pc) := by
  let P : Nat → Prop := fun pc => kc_Sim kt kw_A kw_N kt_cl kt_En "DirectoryDesk$Writer" prog_10_method_2_code 1 (none) "clear" none pc (ct_Wr_clear pc)
  exact kc_case (P := P) (kc_se c_Wr_clear_5 (sm_ret d_Wr_clear_5 rfl)) (
  kc_case (P := P) (kc_se rfl sm_no) (
  kc_case (P := P) (kc_se rfl sm_no) (
  kc_case (P := P) (kc_se c_Wr_clear_2 (sm_put (ci := 2) (C := "DirectoryDesk$Writer") (F := kF_Wr) rfl kin_Wr kty_Wr ktk_Wr knm_Wr (Nat.le_of_ble_eq_true rfl) (by decide +kernel) d_Wr_clear_2 (kw1 71 rfl rfl) rfl)) (
  kc_case (P := P) (kc_se c_Wr_clear_1 (sm_iconst d_Wr_clear_1 (by decide))) (
  kc_case (P := P) (kc_se c_Wr_clear_0 (sm_aload_n d_Wr_clear_0 rfl)) (
  kc_case0))))))
theorem ka_nth_no_Wr_clear (pc : Nat) (h : 6 ≤ pc) : ct_Wr_clear pc = ka_no := ka_nth_ge _ pc (Nat.le_trans (Nat.le_of_eq (by rfl)) h)
theorem s_Wr_clear (pc : Nat) : kc_Sim kt kw_A kw_N kt_cl kt_En "DirectoryDesk$Writer" prog_10_method_2_code 1 (none) "clear" none pc (ct_Wr_clear pc) := (Nat.lt_or_ge pc 6).elim (s_Wr_clear_6 pc) (fun h => kc_se (ka_nth_no_Wr_clear pc h) sm_no)
def cl_Wr_put_0 : List kc_A := [ka_al 0 1, ka_get 2 1, ka_no, ka_no, ka_al 0 1, ka_get 2 0, ka_no, ka_no, ka_alen, ka_cm (fun x y => y ≤ x) 32, ka_no, ka_no, ka_al 0 1, ka_get 2 0, ka_no, ka_no, ka_al 0 1, ka_get 2 1, ka_no, ka_no, ka_il 1 1, ka_iast, ka_al 0 1, ka_dup, ka_get 2 1, ka_no, ka_no, ka_ci (nI 1) 1, ka_ii (fun x y => x + y), ka_put 2 1 .int, ka_no, ka_no, ka_ret]
def ct_Wr_put : Nat → kc_A := fun pc => ka_nth (cl_Wr_put_0) pc
set_option maxRecDepth 100000 in
theorem c_Wr_put_0 : ct_Wr_put 0 = ka_al 0 1 := rfl
theorem d_Wr_put_0 : decode prog_10_method_3_code 0 = .ok (.aload_n 0, 1) := by decide +kernel
set_option maxRecDepth 100000 in
theorem c_Wr_put_1 : ct_Wr_put 1 = ka_get 2 1 := rfl
theorem d_Wr_put_1 : decode prog_10_method_3_code 1 = .ok (.getfield 15, 3) := by decide +kernel
set_option maxRecDepth 100000 in
theorem c_Wr_put_4 : ct_Wr_put 4 = ka_al 0 1 := rfl
theorem d_Wr_put_4 : decode prog_10_method_3_code 4 = .ok (.aload_n 0, 1) := by decide +kernel
set_option maxRecDepth 100000 in
theorem c_Wr_put_5 : ct_Wr_put 5 = ka_get 2 0 := rfl
theorem d_Wr_put_5 : decode prog_10_method_3_code 5 = .ok (.getfield 9, 3) := by decide +kernel
set_option maxRecDepth 100000 in
theorem c_Wr_put_8 : ct_Wr_put 8 = ka_alen := rfl
theorem d_Wr_put_8 : decode prog_10_method_3_code 8 = .ok (.arraylength, 1) := by decide +kernel
set_option maxRecDepth 100000 in
theorem c_Wr_put_9 : ct_Wr_put 9 = ka_cm (fun x y => y ≤ x) 32 := rfl
theorem d_Wr_put_9 : decode prog_10_method_3_code 9 = .ok (.if_icmp .ge 23, 3) := by decide +kernel
set_option maxRecDepth 100000 in
theorem c_Wr_put_12 : ct_Wr_put 12 = ka_al 0 1 := rfl
theorem d_Wr_put_12 : decode prog_10_method_3_code 12 = .ok (.aload_n 0, 1) := by decide +kernel
set_option maxRecDepth 100000 in
theorem c_Wr_put_13 : ct_Wr_put 13 = ka_get 2 0 := rfl
theorem d_Wr_put_13 : decode prog_10_method_3_code 13 = .ok (.getfield 9, 3) := by decide +kernel
set_option maxRecDepth 100000 in
theorem c_Wr_put_16 : ct_Wr_put 16 = ka_al 0 1 := rfl
theorem d_Wr_put_16 : decode prog_10_method_3_code 16 = .ok (.aload_n 0, 1) := by decide +kernel
set_option maxRecDepth 100000 in
theorem c_Wr_put_17 : ct_Wr_put 17 = ka_get 2 1 := rfl
theorem d_Wr_put_17 : decode prog_10_method_3_code 17 = .ok (.getfield 15, 3) := by decide +kernel
set_option maxRecDepth 100000 in
theorem c_Wr_put_20 : ct_Wr_put 20 = ka_il 1 1 := rfl
theorem d_Wr_put_20 : decode prog_10_method_3_code 20 = .ok (.iload_n 1, 1) := by decide +kernel
set_option maxRecDepth 100000 in
theorem c_Wr_put_21 : ct_Wr_put 21 = ka_iast := rfl
theorem d_Wr_put_21 : decode prog_10_method_3_code 21 = .ok (.iastore, 1) := by decide +kernel
set_option maxRecDepth 100000 in
theorem c_Wr_put_22 : ct_Wr_put 22 = ka_al 0 1 := rfl
theorem d_Wr_put_22 : decode prog_10_method_3_code 22 = .ok (.aload_n 0, 1) := by decide +kernel
set_option maxRecDepth 100000 in
theorem c_Wr_put_23 : ct_Wr_put 23 = ka_dup := rfl
theorem d_Wr_put_23 : decode prog_10_method_3_code 23 = .ok (.dup, 1) := by decide +kernel
set_option maxRecDepth 100000 in
theorem c_Wr_put_24 : ct_Wr_put 24 = ka_get 2 1 := rfl
theorem d_Wr_put_24 : decode prog_10_method_3_code 24 = .ok (.getfield 15, 3) := by decide +kernel
set_option maxRecDepth 100000 in
theorem c_Wr_put_27 : ct_Wr_put 27 = ka_ci (nI 1) 1 := rfl
theorem d_Wr_put_27 : decode prog_10_method_3_code 27 = .ok (.iconst 1, 1) := by decide +kernel
set_option maxRecDepth 100000 in
theorem c_Wr_put_28 : ct_Wr_put 28 = ka_ii (fun x y => x + y) := rfl
theorem d_Wr_put_28 : decode prog_10_method_3_code 28 = .ok (.iadd, 1) := by decide +kernel
set_option maxRecDepth 100000 in
theorem c_Wr_put_29 : ct_Wr_put 29 = ka_put 2 1 .int := rfl
theorem d_Wr_put_29 : decode prog_10_method_3_code 29 = .ok (.putfield 15, 3) := by decide +kernel
set_option maxRecDepth 100000 in
theorem c_Wr_put_32 : ct_Wr_put 32 = ka_ret := rfl
theorem d_Wr_put_32 : decode prog_10_method_3_code 32 = .ok (.return_, 1) := by decide +kernel
set_option maxRecDepth 100000 in
set_option maxHeartbeats 4000000 in
theorem s_Wr_put_33 : ∀ pc, pc < 33 → kc_Sim kt kw_A kw_N kt_cl kt_En "DirectoryDesk$Writer" prog_10_method_3_code 2 (none) "put" none pc (ct_Wr_put pc) := by
  let P : Nat → Prop := fun pc => kc_Sim kt kw_A kw_N kt_cl kt_En "DirectoryDesk$Writer" prog_10_method_3_code 2 (none) "put" none pc (ct_Wr_put pc)
  exact kc_case (P := P) (kc_se c_Wr_put_32 (sm_ret d_Wr_put_32 rfl)) (
  kc_case (P := P) (kc_se rfl sm_no) (
  kc_case (P := P) (kc_se rfl sm_no) (
  kc_case (P := P) (kc_se c_Wr_put_29 (sm_put (ci := 2) (C := "DirectoryDesk$Writer") (F := kF_Wr) rfl kin_Wr kty_Wr ktk_Wr knm_Wr (Nat.le_of_ble_eq_true rfl) (by decide +kernel) d_Wr_put_29 (kw1 71 rfl rfl) rfl)) (
  kc_case (P := P) (kc_se c_Wr_put_28 (sm_iadd d_Wr_put_28)) (
  kc_case (P := P) (kc_se c_Wr_put_27 (sm_iconst d_Wr_put_27 (by decide))) (
  kc_case (P := P) (kc_se rfl sm_no) (
  kc_case (P := P) (kc_se rfl sm_no) (
  kc_case (P := P) (kc_se c_Wr_put_24 (sm_get (ci := 2) (C := "DirectoryDesk$Writer") (F := kF_Wr) rfl kin_Wr (Nat.le_of_ble_eq_true rfl) d_Wr_put_24 (kw1 71 rfl rfl))) (
  kc_case (P := P) (kc_se c_Wr_put_23 (sm_dup d_Wr_put_23)) (
  kc_case (P := P) (kc_se c_Wr_put_22 (sm_aload_n d_Wr_put_22 rfl)) (
  kc_case (P := P) (kc_se c_Wr_put_21 (sm_iast d_Wr_put_21)) (
  kc_case (P := P) (kc_se c_Wr_put_20 (sm_iload_n d_Wr_put_20 rfl)) (
  kc_case (P := P) (kc_se rfl sm_no) (
  kc_case (P := P) (kc_se rfl sm_no) (
  kc_case (P := P) (kc_se c_Wr_put_17 (sm_get (ci := 2) (C := "DirectoryDesk$Writer") (F := kF_Wr) rfl kin_Wr (Nat.le_of_ble_eq_true rfl) d_Wr_put_17 (kw1 71 rfl rfl))) (
  kc_case (P := P) (kc_se c_Wr_put_16 (sm_aload_n d_Wr_put_16 rfl)) (
  kc_case (P := P) (kc_se rfl sm_no) (
  kc_case (P := P) (kc_se rfl sm_no) (
  kc_case (P := P) (kc_se c_Wr_put_13 (sm_get (ci := 2) (C := "DirectoryDesk$Writer") (F := kF_Wr) rfl kin_Wr (Nat.le_of_ble_eq_true rfl) d_Wr_put_13 (kw1 69 rfl rfl))) (
  kc_case (P := P) (kc_se c_Wr_put_12 (sm_aload_n d_Wr_put_12 rfl)) (
  kc_case (P := P) (kc_se rfl sm_no) (
  kc_case (P := P) (kc_se rfl sm_no) (
  kc_case (P := P) (kc_se c_Wr_put_9 (sm_cm_ge d_Wr_put_9 (by decide))) (
  kc_case (P := P) (kc_se c_Wr_put_8 (sm_alen d_Wr_put_8)) (
  kc_case (P := P) (kc_se rfl sm_no) (
  kc_case (P := P) (kc_se rfl sm_no) (
  kc_case (P := P) (kc_se c_Wr_put_5 (sm_get (ci := 2) (C := "DirectoryDesk$Writer") (F := kF_Wr) rfl kin_Wr (Nat.le_of_ble_eq_true rfl) d_Wr_put_5 (kw1 69 rfl rfl))) (
  kc_case (P := P) (kc_se c_Wr_put_4 (sm_aload_n d_Wr_put_4 rfl)) (
  kc_case (P := P) (kc_se rfl sm_no) (
  kc_case (P := P) (kc_se rfl sm_no) (
  kc_case (P := P) (kc_se c_Wr_put_1 (sm_get (ci := 2) (C := "DirectoryDesk$Writer") (F := kF_Wr) rfl kin_Wr (Nat.le_of_ble_eq_true rfl) d_Wr_put_1 (kw1 71 rfl rfl))) (
  kc_case (P := P) (kc_se c_Wr_put_0 (sm_aload_n d_Wr_put_0 rfl)) (
  kc_case0)))))))))))))))))))))))))))))))))
theorem ka_nth_no_Wr_put (pc : Nat) (h : 33 ≤ pc) : ct_Wr_put pc = ka_no := ka_nth_ge _ pc (Nat.le_trans (Nat.le_of_eq (by rfl)) h)
theorem s_Wr_put (pc : Nat) : kc_Sim kt kw_A kw_N kt_cl kt_En "DirectoryDesk$Writer" prog_10_method_3_code 2 (none) "put" none pc (ct_Wr_put pc) := (Nat.lt_or_ge pc 33).elim (s_Wr_put_33 pc) (fun h => kc_se (ka_nth_no_Wr_put pc h) sm_no)
def cl_Wr_begin_0 : List kc_A := [ka_al 0 1, ka_il 1 1, ka_cv 47 1 2 0 0, ka_no, ka_no, ka_al 0 1, ka_ci (nI 0) 1, ka_cv 47 1 2 0 0, ka_no, ka_no, ka_al 0 1, ka_get 2 1, ka_no, ka_no, ka_ri]
def ct_Wr_begin : Nat → kc_A := fun pc => ka_nth (cl_Wr_begin_0) pc
set_option maxRecDepth 100000 in
theorem c_Wr_begin_0 : ct_Wr_begin 0 = ka_al 0 1 := rfl
theorem d_Wr_begin_0 : decode prog_10_method_4_code 0 = .ok (.aload_n 0, 1) := by decide +kernel
set_option maxRecDepth 100000 in
theorem c_Wr_begin_1 : ct_Wr_begin 1 = ka_il 1 1 := rfl
theorem d_Wr_begin_1 : decode prog_10_method_4_code 1 = .ok (.iload_n 1, 1) := by decide +kernel
set_option maxRecDepth 100000 in
theorem c_Wr_begin_2 : ct_Wr_begin 2 = ka_cv 47 1 2 0 0 := rfl
theorem d_Wr_begin_2 : decode prog_10_method_4_code 2 = .ok (.invokevirtual 19, 3) := by decide +kernel
set_option maxRecDepth 100000 in
theorem c_Wr_begin_5 : ct_Wr_begin 5 = ka_al 0 1 := rfl
theorem d_Wr_begin_5 : decode prog_10_method_4_code 5 = .ok (.aload_n 0, 1) := by decide +kernel
set_option maxRecDepth 100000 in
theorem c_Wr_begin_6 : ct_Wr_begin 6 = ka_ci (nI 0) 1 := rfl
theorem d_Wr_begin_6 : decode prog_10_method_4_code 6 = .ok (.iconst 0, 1) := by decide +kernel
set_option maxRecDepth 100000 in
theorem c_Wr_begin_7 : ct_Wr_begin 7 = ka_cv 47 1 2 0 0 := rfl
theorem d_Wr_begin_7 : decode prog_10_method_4_code 7 = .ok (.invokevirtual 19, 3) := by decide +kernel
set_option maxRecDepth 100000 in
theorem c_Wr_begin_10 : ct_Wr_begin 10 = ka_al 0 1 := rfl
theorem d_Wr_begin_10 : decode prog_10_method_4_code 10 = .ok (.aload_n 0, 1) := by decide +kernel
set_option maxRecDepth 100000 in
theorem c_Wr_begin_11 : ct_Wr_begin 11 = ka_get 2 1 := rfl
theorem d_Wr_begin_11 : decode prog_10_method_4_code 11 = .ok (.getfield 15, 3) := by decide +kernel
set_option maxRecDepth 100000 in
theorem c_Wr_begin_14 : ct_Wr_begin 14 = ka_ri := rfl
theorem d_Wr_begin_14 : decode prog_10_method_4_code 14 = .ok (.ireturn, 1) := by decide +kernel
set_option maxRecDepth 100000 in
set_option maxHeartbeats 4000000 in
theorem s_Wr_begin_15 : ∀ pc, pc < 15 → kc_Sim kt kw_A kw_N kt_cl kt_En "DirectoryDesk$Writer" prog_10_method_4_code 2 (some .int) "begin" none pc (ct_Wr_begin pc) := by
  let P : Nat → Prop := fun pc => kc_Sim kt kw_A kw_N kt_cl kt_En "DirectoryDesk$Writer" prog_10_method_4_code 2 (some .int) "begin" none pc (ct_Wr_begin pc)
  exact kc_case (P := P) (kc_se c_Wr_begin_14 (sm_ri d_Wr_begin_14 rfl)) (
  kc_case (P := P) (kc_se rfl sm_no) (
  kc_case (P := P) (kc_se rfl sm_no) (
  kc_case (P := P) (kc_se c_Wr_begin_11 (sm_get (ci := 2) (C := "DirectoryDesk$Writer") (F := kF_Wr) rfl kin_Wr (Nat.le_of_ble_eq_true rfl) d_Wr_begin_11 (kw1 71 rfl rfl))) (
  kc_case (P := P) (kc_se c_Wr_begin_10 (sm_aload_n d_Wr_begin_10 rfl)) (
  kc_case (P := P) (kc_se rfl sm_no) (
  kc_case (P := P) (kc_se rfl sm_no) (
  kc_case (P := P) (kc_se c_Wr_begin_7 (sm_cv (j := 47) rfl rfl kw_o kw_g wc_Wr_put (Nat.le_of_ble_eq_true rfl) hd_Wr_put (ci := 2) (F := kF_Wr) (N := 2) rfl (kw3 6 rfl rfl) wi_Wr_put ws_Wr_put wn_Wr_put d_Wr_begin_7)) (
  kc_case (P := P) (kc_se c_Wr_begin_6 (sm_iconst d_Wr_begin_6 (by decide))) (
  kc_case (P := P) (kc_se c_Wr_begin_5 (sm_aload_n d_Wr_begin_5 rfl)) (
  kc_case (P := P) (kc_se rfl sm_no) (
  kc_case (P := P) (kc_se rfl sm_no) (
  kc_case (P := P) (kc_se c_Wr_begin_2 (sm_cv (j := 47) rfl rfl kw_o kw_g wc_Wr_put (Nat.le_of_ble_eq_true rfl) hd_Wr_put (ci := 2) (F := kF_Wr) (N := 2) rfl (kw3 6 rfl rfl) wi_Wr_put ws_Wr_put wn_Wr_put d_Wr_begin_2)) (
  kc_case (P := P) (kc_se c_Wr_begin_1 (sm_iload_n d_Wr_begin_1 rfl)) (
  kc_case (P := P) (kc_se c_Wr_begin_0 (sm_aload_n d_Wr_begin_0 rfl)) (
  kc_case0)))))))))))))))
theorem ka_nth_no_Wr_begin (pc : Nat) (h : 15 ≤ pc) : ct_Wr_begin pc = ka_no := ka_nth_ge _ pc (Nat.le_trans (Nat.le_of_eq (by rfl)) h)
theorem s_Wr_begin (pc : Nat) : kc_Sim kt kw_A kw_N kt_cl kt_En "DirectoryDesk$Writer" prog_10_method_4_code 2 (some .int) "begin" none pc (ct_Wr_begin pc) := (Nat.lt_or_ge pc 15).elim (s_Wr_begin_15 pc) (fun h => kc_se (ka_nth_no_Wr_begin pc h) sm_no)
def cl_Wr_finish_0 : List kc_A := [ka_il 1 1, ka_if (fun x => x ≤ 0) 26, ka_no, ka_no, ka_il 1 1, ka_al 0 1, ka_get 2 1, ka_no, ka_no, ka_cm (fun x y => y < x) 26, ka_no, ka_no, ka_al 0 1, ka_get 2 0, ka_no, ka_no, ka_il 1 1, ka_ci (nI 1) 1, ka_ii (fun x y => x - y), ka_al 0 1, ka_get 2 1, ka_no, ka_no, ka_il 1 1, ka_ii (fun x y => x - y), ka_iast, ka_ret]
def ct_Wr_finish : Nat → kc_A := fun pc => ka_nth (cl_Wr_finish_0) pc
set_option maxRecDepth 100000 in
theorem c_Wr_finish_0 : ct_Wr_finish 0 = ka_il 1 1 := rfl
theorem d_Wr_finish_0 : decode prog_10_method_5_code 0 = .ok (.iload_n 1, 1) := by decide +kernel
set_option maxRecDepth 100000 in
theorem c_Wr_finish_1 : ct_Wr_finish 1 = ka_if (fun x => x ≤ 0) 26 := rfl
theorem d_Wr_finish_1 : decode prog_10_method_5_code 1 = .ok (.ifCond .le 25, 3) := by decide +kernel
set_option maxRecDepth 100000 in
theorem c_Wr_finish_4 : ct_Wr_finish 4 = ka_il 1 1 := rfl
theorem d_Wr_finish_4 : decode prog_10_method_5_code 4 = .ok (.iload_n 1, 1) := by decide +kernel
set_option maxRecDepth 100000 in
theorem c_Wr_finish_5 : ct_Wr_finish 5 = ka_al 0 1 := rfl
theorem d_Wr_finish_5 : decode prog_10_method_5_code 5 = .ok (.aload_n 0, 1) := by decide +kernel
set_option maxRecDepth 100000 in
theorem c_Wr_finish_6 : ct_Wr_finish 6 = ka_get 2 1 := rfl
theorem d_Wr_finish_6 : decode prog_10_method_5_code 6 = .ok (.getfield 15, 3) := by decide +kernel
set_option maxRecDepth 100000 in
theorem c_Wr_finish_9 : ct_Wr_finish 9 = ka_cm (fun x y => y < x) 26 := rfl
theorem d_Wr_finish_9 : decode prog_10_method_5_code 9 = .ok (.if_icmp .gt 17, 3) := by decide +kernel
set_option maxRecDepth 100000 in
theorem c_Wr_finish_12 : ct_Wr_finish 12 = ka_al 0 1 := rfl
theorem d_Wr_finish_12 : decode prog_10_method_5_code 12 = .ok (.aload_n 0, 1) := by decide +kernel
set_option maxRecDepth 100000 in
theorem c_Wr_finish_13 : ct_Wr_finish 13 = ka_get 2 0 := rfl
theorem d_Wr_finish_13 : decode prog_10_method_5_code 13 = .ok (.getfield 9, 3) := by decide +kernel
set_option maxRecDepth 100000 in
theorem c_Wr_finish_16 : ct_Wr_finish 16 = ka_il 1 1 := rfl
theorem d_Wr_finish_16 : decode prog_10_method_5_code 16 = .ok (.iload_n 1, 1) := by decide +kernel
set_option maxRecDepth 100000 in
theorem c_Wr_finish_17 : ct_Wr_finish 17 = ka_ci (nI 1) 1 := rfl
theorem d_Wr_finish_17 : decode prog_10_method_5_code 17 = .ok (.iconst 1, 1) := by decide +kernel
set_option maxRecDepth 100000 in
theorem c_Wr_finish_18 : ct_Wr_finish 18 = ka_ii (fun x y => x - y) := rfl
theorem d_Wr_finish_18 : decode prog_10_method_5_code 18 = .ok (.isub, 1) := by decide +kernel
set_option maxRecDepth 100000 in
theorem c_Wr_finish_19 : ct_Wr_finish 19 = ka_al 0 1 := rfl
theorem d_Wr_finish_19 : decode prog_10_method_5_code 19 = .ok (.aload_n 0, 1) := by decide +kernel
set_option maxRecDepth 100000 in
theorem c_Wr_finish_20 : ct_Wr_finish 20 = ka_get 2 1 := rfl
theorem d_Wr_finish_20 : decode prog_10_method_5_code 20 = .ok (.getfield 15, 3) := by decide +kernel
set_option maxRecDepth 100000 in
theorem c_Wr_finish_23 : ct_Wr_finish 23 = ka_il 1 1 := rfl
theorem d_Wr_finish_23 : decode prog_10_method_5_code 23 = .ok (.iload_n 1, 1) := by decide +kernel
set_option maxRecDepth 100000 in
theorem c_Wr_finish_24 : ct_Wr_finish 24 = ka_ii (fun x y => x - y) := rfl
theorem d_Wr_finish_24 : decode prog_10_method_5_code 24 = .ok (.isub, 1) := by decide +kernel
set_option maxRecDepth 100000 in
theorem c_Wr_finish_25 : ct_Wr_finish 25 = ka_iast := rfl
theorem d_Wr_finish_25 : decode prog_10_method_5_code 25 = .ok (.iastore, 1) := by decide +kernel
set_option maxRecDepth 100000 in
theorem c_Wr_finish_26 : ct_Wr_finish 26 = ka_ret := rfl
theorem d_Wr_finish_26 : decode prog_10_method_5_code 26 = .ok (.return_, 1) := by decide +kernel
set_option maxRecDepth 100000 in
set_option maxHeartbeats 4000000 in
theorem s_Wr_finish_27 : ∀ pc, pc < 27 → kc_Sim kt kw_A kw_N kt_cl kt_En "DirectoryDesk$Writer" prog_10_method_5_code 2 (none) "finish" none pc (ct_Wr_finish pc) := by
  let P : Nat → Prop := fun pc => kc_Sim kt kw_A kw_N kt_cl kt_En "DirectoryDesk$Writer" prog_10_method_5_code 2 (none) "finish" none pc (ct_Wr_finish pc)
  exact kc_case (P := P) (kc_se c_Wr_finish_26 (sm_ret d_Wr_finish_26 rfl)) (
  kc_case (P := P) (kc_se c_Wr_finish_25 (sm_iast d_Wr_finish_25)) (
  kc_case (P := P) (kc_se c_Wr_finish_24 (sm_isub d_Wr_finish_24)) (
  kc_case (P := P) (kc_se c_Wr_finish_23 (sm_iload_n d_Wr_finish_23 rfl)) (
  kc_case (P := P) (kc_se rfl sm_no) (
  kc_case (P := P) (kc_se rfl sm_no) (
  kc_case (P := P) (kc_se c_Wr_finish_20 (sm_get (ci := 2) (C := "DirectoryDesk$Writer") (F := kF_Wr) rfl kin_Wr (Nat.le_of_ble_eq_true rfl) d_Wr_finish_20 (kw1 71 rfl rfl))) (
  kc_case (P := P) (kc_se c_Wr_finish_19 (sm_aload_n d_Wr_finish_19 rfl)) (
  kc_case (P := P) (kc_se c_Wr_finish_18 (sm_isub d_Wr_finish_18)) (
  kc_case (P := P) (kc_se c_Wr_finish_17 (sm_iconst d_Wr_finish_17 (by decide))) (
  kc_case (P := P) (kc_se c_Wr_finish_16 (sm_iload_n d_Wr_finish_16 rfl)) (
  kc_case (P := P) (kc_se rfl sm_no) (
  kc_case (P := P) (kc_se rfl sm_no) (
  kc_case (P := P) (kc_se c_Wr_finish_13 (sm_get (ci := 2) (C := "DirectoryDesk$Writer") (F := kF_Wr) rfl kin_Wr (Nat.le_of_ble_eq_true rfl) d_Wr_finish_13 (kw1 69 rfl rfl))) (
  kc_case (P := P) (kc_se c_Wr_finish_12 (sm_aload_n d_Wr_finish_12 rfl)) (
  kc_case (P := P) (kc_se rfl sm_no) (
  kc_case (P := P) (kc_se rfl sm_no) (
  kc_case (P := P) (kc_se c_Wr_finish_9 (sm_cm_gt d_Wr_finish_9 (by decide))) (
  kc_case (P := P) (kc_se rfl sm_no) (
  kc_case (P := P) (kc_se rfl sm_no) (
  kc_case (P := P) (kc_se c_Wr_finish_6 (sm_get (ci := 2) (C := "DirectoryDesk$Writer") (F := kF_Wr) rfl kin_Wr (Nat.le_of_ble_eq_true rfl) d_Wr_finish_6 (kw1 71 rfl rfl))) (
  kc_case (P := P) (kc_se c_Wr_finish_5 (sm_aload_n d_Wr_finish_5 rfl)) (
  kc_case (P := P) (kc_se c_Wr_finish_4 (sm_iload_n d_Wr_finish_4 rfl)) (
  kc_case (P := P) (kc_se rfl sm_no) (
  kc_case (P := P) (kc_se rfl sm_no) (
  kc_case (P := P) (kc_se c_Wr_finish_1 (sm_if_le d_Wr_finish_1 (by decide))) (
  kc_case (P := P) (kc_se c_Wr_finish_0 (sm_iload_n d_Wr_finish_0 rfl)) (
  kc_case0)))))))))))))))))))))))))))
theorem ka_nth_no_Wr_finish (pc : Nat) (h : 27 ≤ pc) : ct_Wr_finish pc = ka_no := ka_nth_ge _ pc (Nat.le_trans (Nat.le_of_eq (by rfl)) h)
theorem s_Wr_finish (pc : Nat) : kc_Sim kt kw_A kw_N kt_cl kt_En "DirectoryDesk$Writer" prog_10_method_5_code 2 (none) "finish" none pc (ct_Wr_finish pc) := (Nat.lt_or_ge pc 27).elim (s_Wr_finish_27 pc) (fun h => kc_se (ka_nth_no_Wr_finish pc h) sm_no)
def cl_Wr_number_0 : List kc_A := [ka_al 0 1, ka_ci (nI 2) 1, ka_cv 48 1 2 0 0, ka_no, ka_no, ka_is 2 1, ka_il 1 1, ka_ci (nI 127) 2, ka_no, ka_cm (fun x y => x ≤ y) 20, ka_no, ka_no, ka_al 0 1, ka_il 1 1, ka_ci (nI 8) 2, ka_no, ka_ii (fun x y => x >>> (y &&& 31)), ka_cv 47 1 2 0 0, ka_no, ka_no, ka_al 0 1, ka_il 1 1, ka_ci (nI 255) 3, ka_no, ka_no, ka_ii (fun x y => x &&& y), ka_cv 47 1 2 0 0, ka_no, ka_no, ka_al 0 1, ka_il 2 1, ka_cv 49 1 2 0 0, ka_no, ka_no, ka_ret]
def ct_Wr_number : Nat → kc_A := fun pc => ka_nth (cl_Wr_number_0) pc
set_option maxRecDepth 100000 in
theorem c_Wr_number_0 : ct_Wr_number 0 = ka_al 0 1 := rfl
theorem d_Wr_number_0 : decode prog_10_method_6_code 0 = .ok (.aload_n 0, 1) := by decide +kernel
set_option maxRecDepth 100000 in
theorem c_Wr_number_1 : ct_Wr_number 1 = ka_ci (nI 2) 1 := rfl
theorem d_Wr_number_1 : decode prog_10_method_6_code 1 = .ok (.iconst 2, 1) := by decide +kernel
set_option maxRecDepth 100000 in
theorem c_Wr_number_2 : ct_Wr_number 2 = ka_cv 48 1 2 0 0 := rfl
theorem d_Wr_number_2 : decode prog_10_method_6_code 2 = .ok (.invokevirtual 23, 3) := by decide +kernel
set_option maxRecDepth 100000 in
theorem c_Wr_number_5 : ct_Wr_number 5 = ka_is 2 1 := rfl
theorem d_Wr_number_5 : decode prog_10_method_6_code 5 = .ok (.istore_n 2, 1) := by decide +kernel
set_option maxRecDepth 100000 in
theorem c_Wr_number_6 : ct_Wr_number 6 = ka_il 1 1 := rfl
theorem d_Wr_number_6 : decode prog_10_method_6_code 6 = .ok (.iload_n 1, 1) := by decide +kernel
set_option maxRecDepth 100000 in
theorem c_Wr_number_7 : ct_Wr_number 7 = ka_ci (nI 127) 2 := rfl
theorem d_Wr_number_7 : decode prog_10_method_6_code 7 = .ok (.bipush 127, 2) := by decide +kernel
set_option maxRecDepth 100000 in
theorem c_Wr_number_9 : ct_Wr_number 9 = ka_cm (fun x y => x ≤ y) 20 := rfl
theorem d_Wr_number_9 : decode prog_10_method_6_code 9 = .ok (.if_icmp .le 11, 3) := by decide +kernel
set_option maxRecDepth 100000 in
theorem c_Wr_number_12 : ct_Wr_number 12 = ka_al 0 1 := rfl
theorem d_Wr_number_12 : decode prog_10_method_6_code 12 = .ok (.aload_n 0, 1) := by decide +kernel
set_option maxRecDepth 100000 in
theorem c_Wr_number_13 : ct_Wr_number 13 = ka_il 1 1 := rfl
theorem d_Wr_number_13 : decode prog_10_method_6_code 13 = .ok (.iload_n 1, 1) := by decide +kernel
set_option maxRecDepth 100000 in
theorem c_Wr_number_14 : ct_Wr_number 14 = ka_ci (nI 8) 2 := rfl
theorem d_Wr_number_14 : decode prog_10_method_6_code 14 = .ok (.bipush 8, 2) := by decide +kernel
set_option maxRecDepth 100000 in
theorem c_Wr_number_16 : ct_Wr_number 16 = ka_ii (fun x y => x >>> (y &&& 31)) := rfl
theorem d_Wr_number_16 : decode prog_10_method_6_code 16 = .ok (.ishr, 1) := by decide +kernel
set_option maxRecDepth 100000 in
theorem c_Wr_number_17 : ct_Wr_number 17 = ka_cv 47 1 2 0 0 := rfl
theorem d_Wr_number_17 : decode prog_10_method_6_code 17 = .ok (.invokevirtual 19, 3) := by decide +kernel
set_option maxRecDepth 100000 in
theorem c_Wr_number_20 : ct_Wr_number 20 = ka_al 0 1 := rfl
theorem d_Wr_number_20 : decode prog_10_method_6_code 20 = .ok (.aload_n 0, 1) := by decide +kernel
set_option maxRecDepth 100000 in
theorem c_Wr_number_21 : ct_Wr_number 21 = ka_il 1 1 := rfl
theorem d_Wr_number_21 : decode prog_10_method_6_code 21 = .ok (.iload_n 1, 1) := by decide +kernel
set_option maxRecDepth 100000 in
theorem c_Wr_number_22 : ct_Wr_number 22 = ka_ci (nI 255) 3 := rfl
theorem d_Wr_number_22 : decode prog_10_method_6_code 22 = .ok (.sipush 255, 3) := by decide +kernel
set_option maxRecDepth 100000 in
theorem c_Wr_number_25 : ct_Wr_number 25 = ka_ii (fun x y => x &&& y) := rfl
theorem d_Wr_number_25 : decode prog_10_method_6_code 25 = .ok (.iand, 1) := by decide +kernel
set_option maxRecDepth 100000 in
theorem c_Wr_number_26 : ct_Wr_number 26 = ka_cv 47 1 2 0 0 := rfl
theorem d_Wr_number_26 : decode prog_10_method_6_code 26 = .ok (.invokevirtual 19, 3) := by decide +kernel
set_option maxRecDepth 100000 in
theorem c_Wr_number_29 : ct_Wr_number 29 = ka_al 0 1 := rfl
theorem d_Wr_number_29 : decode prog_10_method_6_code 29 = .ok (.aload_n 0, 1) := by decide +kernel
set_option maxRecDepth 100000 in
theorem c_Wr_number_30 : ct_Wr_number 30 = ka_il 2 1 := rfl
theorem d_Wr_number_30 : decode prog_10_method_6_code 30 = .ok (.iload_n 2, 1) := by decide +kernel
set_option maxRecDepth 100000 in
theorem c_Wr_number_31 : ct_Wr_number 31 = ka_cv 49 1 2 0 0 := rfl
theorem d_Wr_number_31 : decode prog_10_method_6_code 31 = .ok (.invokevirtual 27, 3) := by decide +kernel
set_option maxRecDepth 100000 in
theorem c_Wr_number_34 : ct_Wr_number 34 = ka_ret := rfl
theorem d_Wr_number_34 : decode prog_10_method_6_code 34 = .ok (.return_, 1) := by decide +kernel
set_option maxRecDepth 100000 in
set_option maxHeartbeats 4000000 in
theorem s_Wr_number_35 : ∀ pc, pc < 35 → kc_Sim kt kw_A kw_N kt_cl kt_En "DirectoryDesk$Writer" prog_10_method_6_code 3 (none) "number" none pc (ct_Wr_number pc) := by
  let P : Nat → Prop := fun pc => kc_Sim kt kw_A kw_N kt_cl kt_En "DirectoryDesk$Writer" prog_10_method_6_code 3 (none) "number" none pc (ct_Wr_number pc)
  exact kc_case (P := P) (kc_se c_Wr_number_34 (sm_ret d_Wr_number_34 rfl)) (
  kc_case (P := P) (kc_se rfl sm_no) (
  kc_case (P := P) (kc_se rfl sm_no) (
  kc_case (P := P) (kc_se c_Wr_number_31 (sm_cv (j := 49) rfl rfl kw_o kw_g wc_Wr_finish (Nat.le_of_ble_eq_true rfl) hd_Wr_finish (ci := 2) (F := kF_Wr) (N := 2) rfl (kw3 15 rfl rfl) wi_Wr_finish ws_Wr_finish wn_Wr_finish d_Wr_number_31)) (
  kc_case (P := P) (kc_se c_Wr_number_30 (sm_iload_n d_Wr_number_30 rfl)) (
  kc_case (P := P) (kc_se c_Wr_number_29 (sm_aload_n d_Wr_number_29 rfl)) (
  kc_case (P := P) (kc_se rfl sm_no) (
  kc_case (P := P) (kc_se rfl sm_no) (
  kc_case (P := P) (kc_se c_Wr_number_26 (sm_cv (j := 47) rfl rfl kw_o kw_g wc_Wr_put (Nat.le_of_ble_eq_true rfl) hd_Wr_put (ci := 2) (F := kF_Wr) (N := 2) rfl (kw3 6 rfl rfl) wi_Wr_put ws_Wr_put wn_Wr_put d_Wr_number_26)) (
  kc_case (P := P) (kc_se c_Wr_number_25 (sm_iand d_Wr_number_25)) (
  kc_case (P := P) (kc_se rfl sm_no) (
  kc_case (P := P) (kc_se rfl sm_no) (
  kc_case (P := P) (kc_se c_Wr_number_22 (sm_sipush d_Wr_number_22 (by decide))) (
  kc_case (P := P) (kc_se c_Wr_number_21 (sm_iload_n d_Wr_number_21 rfl)) (
  kc_case (P := P) (kc_se c_Wr_number_20 (sm_aload_n d_Wr_number_20 rfl)) (
  kc_case (P := P) (kc_se rfl sm_no) (
  kc_case (P := P) (kc_se rfl sm_no) (
  kc_case (P := P) (kc_se c_Wr_number_17 (sm_cv (j := 47) rfl rfl kw_o kw_g wc_Wr_put (Nat.le_of_ble_eq_true rfl) hd_Wr_put (ci := 2) (F := kF_Wr) (N := 2) rfl (kw3 6 rfl rfl) wi_Wr_put ws_Wr_put wn_Wr_put d_Wr_number_17)) (
  kc_case (P := P) (kc_se c_Wr_number_16 (sm_ishr d_Wr_number_16)) (
  kc_case (P := P) (kc_se rfl sm_no) (
  kc_case (P := P) (kc_se c_Wr_number_14 (sm_bipush d_Wr_number_14 (by decide))) (
  kc_case (P := P) (kc_se c_Wr_number_13 (sm_iload_n d_Wr_number_13 rfl)) (
  kc_case (P := P) (kc_se c_Wr_number_12 (sm_aload_n d_Wr_number_12 rfl)) (
  kc_case (P := P) (kc_se rfl sm_no) (
  kc_case (P := P) (kc_se rfl sm_no) (
  kc_case (P := P) (kc_se c_Wr_number_9 (sm_cm_le d_Wr_number_9 (by decide))) (
  kc_case (P := P) (kc_se rfl sm_no) (
  kc_case (P := P) (kc_se c_Wr_number_7 (sm_bipush d_Wr_number_7 (by decide))) (
  kc_case (P := P) (kc_se c_Wr_number_6 (sm_iload_n d_Wr_number_6 rfl)) (
  kc_case (P := P) (kc_se c_Wr_number_5 (sm_istore_n d_Wr_number_5 rfl (Nat.le_of_ble_eq_true rfl))) (
  kc_case (P := P) (kc_se rfl sm_no) (
  kc_case (P := P) (kc_se rfl sm_no) (
  kc_case (P := P) (kc_se c_Wr_number_2 (sm_cv (j := 48) rfl rfl kw_o kw_g wc_Wr_begin (Nat.le_of_ble_eq_true rfl) hd_Wr_begin (ci := 2) (F := kF_Wr) (N := 2) rfl (kw3 14 rfl rfl) wi_Wr_begin ws_Wr_begin wn_Wr_begin d_Wr_number_2)) (
  kc_case (P := P) (kc_se c_Wr_number_1 (sm_iconst d_Wr_number_1 (by decide))) (
  kc_case (P := P) (kc_se c_Wr_number_0 (sm_aload_n d_Wr_number_0 rfl)) (
  kc_case0)))))))))))))))))))))))))))))))))))
theorem ka_nth_no_Wr_number (pc : Nat) (h : 35 ≤ pc) : ct_Wr_number pc = ka_no := ka_nth_ge _ pc (Nat.le_trans (Nat.le_of_eq (by rfl)) h)
theorem s_Wr_number (pc : Nat) : kc_Sim kt kw_A kw_N kt_cl kt_En "DirectoryDesk$Writer" prog_10_method_6_code 3 (none) "number" none pc (ct_Wr_number pc) := (Nat.lt_or_ge pc 35).elim (s_Wr_number_35 pc) (fun h => kc_se (ka_nth_no_Wr_number pc h) sm_no)
def cl_Wr_letter_0 : List kc_A := [ka_al 0 1, ka_ci (nI 4) 1, ka_cv 48 1 2 0 0, ka_no, ka_no, ka_is 2 1, ka_al 0 1, ka_il 1 1, ka_cv 47 1 2 0 0, ka_no, ka_no, ka_al 0 1, ka_il 2 1, ka_cv 49 1 2 0 0, ka_no, ka_no, ka_ret]
def ct_Wr_letter : Nat → kc_A := fun pc => ka_nth (cl_Wr_letter_0) pc
set_option maxRecDepth 100000 in
theorem c_Wr_letter_0 : ct_Wr_letter 0 = ka_al 0 1 := rfl
theorem d_Wr_letter_0 : decode prog_10_method_7_code 0 = .ok (.aload_n 0, 1) := by decide +kernel
set_option maxRecDepth 100000 in
theorem c_Wr_letter_1 : ct_Wr_letter 1 = ka_ci (nI 4) 1 := rfl
theorem d_Wr_letter_1 : decode prog_10_method_7_code 1 = .ok (.iconst 4, 1) := by decide +kernel
set_option maxRecDepth 100000 in
theorem c_Wr_letter_2 : ct_Wr_letter 2 = ka_cv 48 1 2 0 0 := rfl
theorem d_Wr_letter_2 : decode prog_10_method_7_code 2 = .ok (.invokevirtual 23, 3) := by decide +kernel
set_option maxRecDepth 100000 in
theorem c_Wr_letter_5 : ct_Wr_letter 5 = ka_is 2 1 := rfl
theorem d_Wr_letter_5 : decode prog_10_method_7_code 5 = .ok (.istore_n 2, 1) := by decide +kernel
set_option maxRecDepth 100000 in
theorem c_Wr_letter_6 : ct_Wr_letter 6 = ka_al 0 1 := rfl
theorem d_Wr_letter_6 : decode prog_10_method_7_code 6 = .ok (.aload_n 0, 1) := by decide +kernel
set_option maxRecDepth 100000 in
theorem c_Wr_letter_7 : ct_Wr_letter 7 = ka_il 1 1 := rfl
theorem d_Wr_letter_7 : decode prog_10_method_7_code 7 = .ok (.iload_n 1, 1) := by decide +kernel
set_option maxRecDepth 100000 in
theorem c_Wr_letter_8 : ct_Wr_letter 8 = ka_cv 47 1 2 0 0 := rfl
theorem d_Wr_letter_8 : decode prog_10_method_7_code 8 = .ok (.invokevirtual 19, 3) := by decide +kernel
set_option maxRecDepth 100000 in
theorem c_Wr_letter_11 : ct_Wr_letter 11 = ka_al 0 1 := rfl
theorem d_Wr_letter_11 : decode prog_10_method_7_code 11 = .ok (.aload_n 0, 1) := by decide +kernel
set_option maxRecDepth 100000 in
theorem c_Wr_letter_12 : ct_Wr_letter 12 = ka_il 2 1 := rfl
theorem d_Wr_letter_12 : decode prog_10_method_7_code 12 = .ok (.iload_n 2, 1) := by decide +kernel
set_option maxRecDepth 100000 in
theorem c_Wr_letter_13 : ct_Wr_letter 13 = ka_cv 49 1 2 0 0 := rfl
theorem d_Wr_letter_13 : decode prog_10_method_7_code 13 = .ok (.invokevirtual 27, 3) := by decide +kernel
set_option maxRecDepth 100000 in
theorem c_Wr_letter_16 : ct_Wr_letter 16 = ka_ret := rfl
theorem d_Wr_letter_16 : decode prog_10_method_7_code 16 = .ok (.return_, 1) := by decide +kernel
set_option maxRecDepth 100000 in
set_option maxHeartbeats 4000000 in
theorem s_Wr_letter_17 : ∀ pc, pc < 17 → kc_Sim kt kw_A kw_N kt_cl kt_En "DirectoryDesk$Writer" prog_10_method_7_code 3 (none) "letter" none pc (ct_Wr_letter pc) := by
  let P : Nat → Prop := fun pc => kc_Sim kt kw_A kw_N kt_cl kt_En "DirectoryDesk$Writer" prog_10_method_7_code 3 (none) "letter" none pc (ct_Wr_letter pc)
  exact kc_case (P := P) (kc_se c_Wr_letter_16 (sm_ret d_Wr_letter_16 rfl)) (
  kc_case (P := P) (kc_se rfl sm_no) (
  kc_case (P := P) (kc_se rfl sm_no) (
  kc_case (P := P) (kc_se c_Wr_letter_13 (sm_cv (j := 49) rfl rfl kw_o kw_g wc_Wr_finish (Nat.le_of_ble_eq_true rfl) hd_Wr_finish (ci := 2) (F := kF_Wr) (N := 2) rfl (kw3 15 rfl rfl) wi_Wr_finish ws_Wr_finish wn_Wr_finish d_Wr_letter_13)) (
  kc_case (P := P) (kc_se c_Wr_letter_12 (sm_iload_n d_Wr_letter_12 rfl)) (
  kc_case (P := P) (kc_se c_Wr_letter_11 (sm_aload_n d_Wr_letter_11 rfl)) (
  kc_case (P := P) (kc_se rfl sm_no) (
  kc_case (P := P) (kc_se rfl sm_no) (
  kc_case (P := P) (kc_se c_Wr_letter_8 (sm_cv (j := 47) rfl rfl kw_o kw_g wc_Wr_put (Nat.le_of_ble_eq_true rfl) hd_Wr_put (ci := 2) (F := kF_Wr) (N := 2) rfl (kw3 6 rfl rfl) wi_Wr_put ws_Wr_put wn_Wr_put d_Wr_letter_8)) (
  kc_case (P := P) (kc_se c_Wr_letter_7 (sm_iload_n d_Wr_letter_7 rfl)) (
  kc_case (P := P) (kc_se c_Wr_letter_6 (sm_aload_n d_Wr_letter_6 rfl)) (
  kc_case (P := P) (kc_se c_Wr_letter_5 (sm_istore_n d_Wr_letter_5 rfl (Nat.le_of_ble_eq_true rfl))) (
  kc_case (P := P) (kc_se rfl sm_no) (
  kc_case (P := P) (kc_se rfl sm_no) (
  kc_case (P := P) (kc_se c_Wr_letter_2 (sm_cv (j := 48) rfl rfl kw_o kw_g wc_Wr_begin (Nat.le_of_ble_eq_true rfl) hd_Wr_begin (ci := 2) (F := kF_Wr) (N := 2) rfl (kw3 14 rfl rfl) wi_Wr_begin ws_Wr_begin wn_Wr_begin d_Wr_letter_2)) (
  kc_case (P := P) (kc_se c_Wr_letter_1 (sm_iconst d_Wr_letter_1 (by decide))) (
  kc_case (P := P) (kc_se c_Wr_letter_0 (sm_aload_n d_Wr_letter_0 rfl)) (
  kc_case0)))))))))))))))))
theorem ka_nth_no_Wr_letter (pc : Nat) (h : 17 ≤ pc) : ct_Wr_letter pc = ka_no := ka_nth_ge _ pc (Nat.le_trans (Nat.le_of_eq (by rfl)) h)
theorem s_Wr_letter (pc : Nat) : kc_Sim kt kw_A kw_N kt_cl kt_En "DirectoryDesk$Writer" prog_10_method_7_code 3 (none) "letter" none pc (ct_Wr_letter pc) := (Nat.lt_or_ge pc 17).elim (s_Wr_letter_17 pc) (fun h => kc_se (ka_nth_no_Wr_letter pc h) sm_no)
def cl_Wr_value_0 : List kc_A := [ka_al 0 1, ka_ci (nI 4) 1, ka_cv 48 1 2 0 0, ka_no, ka_no, ka_is 3 1, ka_al 0 1, ka_ll 1 1, ka_cv 54 1 2 0 0, ka_no, ka_no, ka_al 0 1, ka_il 3 1, ka_cv 49 1 2 0 0, ka_no, ka_no, ka_ret]
def ct_Wr_value : Nat → kc_A := fun pc => ka_nth (cl_Wr_value_0) pc
set_option maxRecDepth 100000 in
theorem c_Wr_value_0 : ct_Wr_value 0 = ka_al 0 1 := rfl
theorem d_Wr_value_0 : decode prog_10_method_8_code 0 = .ok (.aload_n 0, 1) := by decide +kernel
set_option maxRecDepth 100000 in
theorem c_Wr_value_1 : ct_Wr_value 1 = ka_ci (nI 4) 1 := rfl
theorem d_Wr_value_1 : decode prog_10_method_8_code 1 = .ok (.iconst 4, 1) := by decide +kernel
set_option maxRecDepth 100000 in
theorem c_Wr_value_2 : ct_Wr_value 2 = ka_cv 48 1 2 0 0 := rfl
theorem d_Wr_value_2 : decode prog_10_method_8_code 2 = .ok (.invokevirtual 23, 3) := by decide +kernel
set_option maxRecDepth 100000 in
theorem c_Wr_value_5 : ct_Wr_value 5 = ka_is 3 1 := rfl
theorem d_Wr_value_5 : decode prog_10_method_8_code 5 = .ok (.istore_n 3, 1) := by decide +kernel
set_option maxRecDepth 100000 in
theorem c_Wr_value_6 : ct_Wr_value 6 = ka_al 0 1 := rfl
theorem d_Wr_value_6 : decode prog_10_method_8_code 6 = .ok (.aload_n 0, 1) := by decide +kernel
set_option maxRecDepth 100000 in
theorem c_Wr_value_7 : ct_Wr_value 7 = ka_ll 1 1 := rfl
theorem d_Wr_value_7 : decode prog_10_method_8_code 7 = .ok (.lload_n 1, 1) := by decide +kernel
set_option maxRecDepth 100000 in
theorem c_Wr_value_8 : ct_Wr_value 8 = ka_cv 54 1 2 0 0 := rfl
theorem d_Wr_value_8 : decode prog_10_method_8_code 8 = .ok (.invokevirtual 30, 3) := by decide +kernel
set_option maxRecDepth 100000 in
theorem c_Wr_value_11 : ct_Wr_value 11 = ka_al 0 1 := rfl
theorem d_Wr_value_11 : decode prog_10_method_8_code 11 = .ok (.aload_n 0, 1) := by decide +kernel
set_option maxRecDepth 100000 in
theorem c_Wr_value_12 : ct_Wr_value 12 = ka_il 3 1 := rfl
theorem d_Wr_value_12 : decode prog_10_method_8_code 12 = .ok (.iload_n 3, 1) := by decide +kernel
set_option maxRecDepth 100000 in
theorem c_Wr_value_13 : ct_Wr_value 13 = ka_cv 49 1 2 0 0 := rfl
theorem d_Wr_value_13 : decode prog_10_method_8_code 13 = .ok (.invokevirtual 27, 3) := by decide +kernel
set_option maxRecDepth 100000 in
theorem c_Wr_value_16 : ct_Wr_value 16 = ka_ret := rfl
theorem d_Wr_value_16 : decode prog_10_method_8_code 16 = .ok (.return_, 1) := by decide +kernel
set_option maxRecDepth 100000 in
set_option maxHeartbeats 4000000 in
theorem s_Wr_value_17 : ∀ pc, pc < 17 → kc_Sim kt kw_A kw_N kt_cl kt_En "DirectoryDesk$Writer" prog_10_method_8_code 4 (none) "value" none pc (ct_Wr_value pc) := by
  let P : Nat → Prop := fun pc => kc_Sim kt kw_A kw_N kt_cl kt_En "DirectoryDesk$Writer" prog_10_method_8_code 4 (none) "value" none pc (ct_Wr_value pc)
  exact kc_case (P := P) (kc_se c_Wr_value_16 (sm_ret d_Wr_value_16 rfl)) (
  kc_case (P := P) (kc_se rfl sm_no) (
  kc_case (P := P) (kc_se rfl sm_no) (
  kc_case (P := P) (kc_se c_Wr_value_13 (sm_cv (j := 49) rfl rfl kw_o kw_g wc_Wr_finish (Nat.le_of_ble_eq_true rfl) hd_Wr_finish (ci := 2) (F := kF_Wr) (N := 2) rfl (kw3 15 rfl rfl) wi_Wr_finish ws_Wr_finish wn_Wr_finish d_Wr_value_13)) (
  kc_case (P := P) (kc_se c_Wr_value_12 (sm_iload_n d_Wr_value_12 rfl)) (
  kc_case (P := P) (kc_se c_Wr_value_11 (sm_aload_n d_Wr_value_11 rfl)) (
  kc_case (P := P) (kc_se rfl sm_no) (
  kc_case (P := P) (kc_se rfl sm_no) (
  kc_case (P := P) (kc_se c_Wr_value_8 (sm_cv (j := 54) rfl rfl kw_o kw_g wc_Wr_putValue (Nat.le_of_ble_eq_true rfl) hd_Wr_putValue (ci := 2) (F := kF_Wr) (N := 2) rfl (kw3 23 rfl rfl) wi_Wr_putValue ws_Wr_putValue wn_Wr_putValue d_Wr_value_8)) (
  kc_case (P := P) (kc_se c_Wr_value_7 (sm_lload_n d_Wr_value_7 rfl)) (
  kc_case (P := P) (kc_se c_Wr_value_6 (sm_aload_n d_Wr_value_6 rfl)) (
  kc_case (P := P) (kc_se c_Wr_value_5 (sm_istore_n d_Wr_value_5 rfl (Nat.le_of_ble_eq_true rfl))) (
  kc_case (P := P) (kc_se rfl sm_no) (
  kc_case (P := P) (kc_se rfl sm_no) (
  kc_case (P := P) (kc_se c_Wr_value_2 (sm_cv (j := 48) rfl rfl kw_o kw_g wc_Wr_begin (Nat.le_of_ble_eq_true rfl) hd_Wr_begin (ci := 2) (F := kF_Wr) (N := 2) rfl (kw3 14 rfl rfl) wi_Wr_begin ws_Wr_begin wn_Wr_begin d_Wr_value_2)) (
  kc_case (P := P) (kc_se c_Wr_value_1 (sm_iconst d_Wr_value_1 (by decide))) (
  kc_case (P := P) (kc_se c_Wr_value_0 (sm_aload_n d_Wr_value_0 rfl)) (
  kc_case0)))))))))))))))))
theorem ka_nth_no_Wr_value (pc : Nat) (h : 17 ≤ pc) : ct_Wr_value pc = ka_no := ka_nth_ge _ pc (Nat.le_trans (Nat.le_of_eq (by rfl)) h)
theorem s_Wr_value (pc : Nat) : kc_Sim kt kw_A kw_N kt_cl kt_En "DirectoryDesk$Writer" prog_10_method_8_code 4 (none) "value" none pc (ct_Wr_value pc) := (Nat.lt_or_ge pc 17).elim (s_Wr_value_17 pc) (fun h => kc_se (ka_nth_no_Wr_value pc h) sm_no)
def cl_Wr_name_0 : List kc_A := [ka_al 0 1, ka_ci (nI 4) 1, ka_cv 48 1 2 0 0, ka_no, ka_no, ka_is 2 1, ka_ci (nI 0) 1, ka_is 3 1, ka_il 3 1, ka_al 1 1, ka_get 5 2, ka_no, ka_no, ka_cm (fun x y => y ≤ x) 58, ka_no, ka_no, ka_il 3 1, ka_if (fun x => x ≤ 0) 26, ka_no, ka_no, ka_al 0 1, ka_ci (nI 44) 2, ka_no, ka_cv 47 1 2 0 0, ka_no, ka_no, ka_al 0 1, ka_al 1 1, ka_get 5 0, ka_no, ka_no, ka_il 3 1, ka_iald, ka_cv 47 1 2 0 0, ka_no, ka_no, ka_al 0 1, ka_ci (nI 61) 2, ka_no, ka_cv 47 1 2 0 0, ka_no, ka_no, ka_al 0 1, ka_al 1 1, ka_get 5 1, ka_no, ka_no, ka_il 3 1, ka_lald, ka_cv 54 1 2 0 0, ka_no, ka_no, ka_inc 3 (nI 1), ka_no, ka_no, ka_goto 8, ka_no, ka_no, ka_al 0 1, ka_il 2 1]
def cl_Wr_name_1 : List kc_A := [ka_cv 49 1 2 0 0, ka_no, ka_no, ka_ret]
def ct_Wr_name : Nat → kc_A := fun pc => ka_nth (cl_Wr_name_0 ++ (cl_Wr_name_1)) pc
set_option maxRecDepth 100000 in
theorem c_Wr_name_0 : ct_Wr_name 0 = ka_al 0 1 := rfl
theorem d_Wr_name_0 : decode prog_10_method_9_code 0 = .ok (.aload_n 0, 1) := by decide +kernel
set_option maxRecDepth 100000 in
theorem c_Wr_name_1 : ct_Wr_name 1 = ka_ci (nI 4) 1 := rfl
theorem d_Wr_name_1 : decode prog_10_method_9_code 1 = .ok (.iconst 4, 1) := by decide +kernel
set_option maxRecDepth 100000 in
theorem c_Wr_name_2 : ct_Wr_name 2 = ka_cv 48 1 2 0 0 := rfl
theorem d_Wr_name_2 : decode prog_10_method_9_code 2 = .ok (.invokevirtual 23, 3) := by decide +kernel
set_option maxRecDepth 100000 in
theorem c_Wr_name_5 : ct_Wr_name 5 = ka_is 2 1 := rfl
theorem d_Wr_name_5 : decode prog_10_method_9_code 5 = .ok (.istore_n 2, 1) := by decide +kernel
set_option maxRecDepth 100000 in
theorem c_Wr_name_6 : ct_Wr_name 6 = ka_ci (nI 0) 1 := rfl
theorem d_Wr_name_6 : decode prog_10_method_9_code 6 = .ok (.iconst 0, 1) := by decide +kernel
set_option maxRecDepth 100000 in
theorem c_Wr_name_7 : ct_Wr_name 7 = ka_is 3 1 := rfl
theorem d_Wr_name_7 : decode prog_10_method_9_code 7 = .ok (.istore_n 3, 1) := by decide +kernel
set_option maxRecDepth 100000 in
theorem c_Wr_name_8 : ct_Wr_name 8 = ka_il 3 1 := rfl
theorem d_Wr_name_8 : decode prog_10_method_9_code 8 = .ok (.iload_n 3, 1) := by decide +kernel
set_option maxRecDepth 100000 in
theorem c_Wr_name_9 : ct_Wr_name 9 = ka_al 1 1 := rfl
theorem d_Wr_name_9 : decode prog_10_method_9_code 9 = .ok (.aload_n 1, 1) := by decide +kernel
set_option maxRecDepth 100000 in
theorem c_Wr_name_10 : ct_Wr_name 10 = ka_get 5 2 := rfl
theorem d_Wr_name_10 : decode prog_10_method_9_code 10 = .ok (.getfield 34, 3) := by decide +kernel
set_option maxRecDepth 100000 in
theorem c_Wr_name_13 : ct_Wr_name 13 = ka_cm (fun x y => y ≤ x) 58 := rfl
theorem d_Wr_name_13 : decode prog_10_method_9_code 13 = .ok (.if_icmp .ge 45, 3) := by decide +kernel
set_option maxRecDepth 100000 in
theorem c_Wr_name_16 : ct_Wr_name 16 = ka_il 3 1 := rfl
theorem d_Wr_name_16 : decode prog_10_method_9_code 16 = .ok (.iload_n 3, 1) := by decide +kernel
set_option maxRecDepth 100000 in
theorem c_Wr_name_17 : ct_Wr_name 17 = ka_if (fun x => x ≤ 0) 26 := rfl
theorem d_Wr_name_17 : decode prog_10_method_9_code 17 = .ok (.ifCond .le 9, 3) := by decide +kernel
set_option maxRecDepth 100000 in
theorem c_Wr_name_20 : ct_Wr_name 20 = ka_al 0 1 := rfl
theorem d_Wr_name_20 : decode prog_10_method_9_code 20 = .ok (.aload_n 0, 1) := by decide +kernel
set_option maxRecDepth 100000 in
theorem c_Wr_name_21 : ct_Wr_name 21 = ka_ci (nI 44) 2 := rfl
theorem d_Wr_name_21 : decode prog_10_method_9_code 21 = .ok (.bipush 44, 2) := by decide +kernel
set_option maxRecDepth 100000 in
theorem c_Wr_name_23 : ct_Wr_name 23 = ka_cv 47 1 2 0 0 := rfl
theorem d_Wr_name_23 : decode prog_10_method_9_code 23 = .ok (.invokevirtual 19, 3) := by decide +kernel
set_option maxRecDepth 100000 in
theorem c_Wr_name_26 : ct_Wr_name 26 = ka_al 0 1 := rfl
theorem d_Wr_name_26 : decode prog_10_method_9_code 26 = .ok (.aload_n 0, 1) := by decide +kernel
set_option maxRecDepth 100000 in
theorem c_Wr_name_27 : ct_Wr_name 27 = ka_al 1 1 := rfl
theorem d_Wr_name_27 : decode prog_10_method_9_code 27 = .ok (.aload_n 1, 1) := by decide +kernel
set_option maxRecDepth 100000 in
theorem c_Wr_name_28 : ct_Wr_name 28 = ka_get 5 0 := rfl
theorem d_Wr_name_28 : decode prog_10_method_9_code 28 = .ok (.getfield 39, 3) := by decide +kernel
set_option maxRecDepth 100000 in
theorem c_Wr_name_31 : ct_Wr_name 31 = ka_il 3 1 := rfl
theorem d_Wr_name_31 : decode prog_10_method_9_code 31 = .ok (.iload_n 3, 1) := by decide +kernel
set_option maxRecDepth 100000 in
theorem c_Wr_name_32 : ct_Wr_name 32 = ka_iald := rfl
theorem d_Wr_name_32 : decode prog_10_method_9_code 32 = .ok (.iaload, 1) := by decide +kernel
set_option maxRecDepth 100000 in
theorem c_Wr_name_33 : ct_Wr_name 33 = ka_cv 47 1 2 0 0 := rfl
theorem d_Wr_name_33 : decode prog_10_method_9_code 33 = .ok (.invokevirtual 19, 3) := by decide +kernel
set_option maxRecDepth 100000 in
theorem c_Wr_name_36 : ct_Wr_name 36 = ka_al 0 1 := rfl
theorem d_Wr_name_36 : decode prog_10_method_9_code 36 = .ok (.aload_n 0, 1) := by decide +kernel
set_option maxRecDepth 100000 in
theorem c_Wr_name_37 : ct_Wr_name 37 = ka_ci (nI 61) 2 := rfl
theorem d_Wr_name_37 : decode prog_10_method_9_code 37 = .ok (.bipush 61, 2) := by decide +kernel
set_option maxRecDepth 100000 in
theorem c_Wr_name_39 : ct_Wr_name 39 = ka_cv 47 1 2 0 0 := rfl
theorem d_Wr_name_39 : decode prog_10_method_9_code 39 = .ok (.invokevirtual 19, 3) := by decide +kernel
set_option maxRecDepth 100000 in
theorem c_Wr_name_42 : ct_Wr_name 42 = ka_al 0 1 := rfl
theorem d_Wr_name_42 : decode prog_10_method_9_code 42 = .ok (.aload_n 0, 1) := by decide +kernel
set_option maxRecDepth 100000 in
theorem c_Wr_name_43 : ct_Wr_name 43 = ka_al 1 1 := rfl
theorem d_Wr_name_43 : decode prog_10_method_9_code 43 = .ok (.aload_n 1, 1) := by decide +kernel
set_option maxRecDepth 100000 in
theorem c_Wr_name_44 : ct_Wr_name 44 = ka_get 5 1 := rfl
theorem d_Wr_name_44 : decode prog_10_method_9_code 44 = .ok (.getfield 42, 3) := by decide +kernel
set_option maxRecDepth 100000 in
theorem c_Wr_name_47 : ct_Wr_name 47 = ka_il 3 1 := rfl
theorem d_Wr_name_47 : decode prog_10_method_9_code 47 = .ok (.iload_n 3, 1) := by decide +kernel
set_option maxRecDepth 100000 in
theorem c_Wr_name_48 : ct_Wr_name 48 = ka_lald := rfl
theorem d_Wr_name_48 : decode prog_10_method_9_code 48 = .ok (.laload, 1) := by decide +kernel
set_option maxRecDepth 100000 in
theorem c_Wr_name_49 : ct_Wr_name 49 = ka_cv 54 1 2 0 0 := rfl
theorem d_Wr_name_49 : decode prog_10_method_9_code 49 = .ok (.invokevirtual 30, 3) := by decide +kernel
set_option maxRecDepth 100000 in
theorem c_Wr_name_52 : ct_Wr_name 52 = ka_inc 3 (nI 1) := rfl
theorem d_Wr_name_52 : decode prog_10_method_9_code 52 = .ok (.iinc 3 1, 3) := by decide +kernel
set_option maxRecDepth 100000 in
theorem c_Wr_name_55 : ct_Wr_name 55 = ka_goto 8 := rfl
theorem d_Wr_name_55 : decode prog_10_method_9_code 55 = .ok (.goto (-47), 3) := by decide +kernel
set_option maxRecDepth 100000 in
theorem c_Wr_name_58 : ct_Wr_name 58 = ka_al 0 1 := rfl
theorem d_Wr_name_58 : decode prog_10_method_9_code 58 = .ok (.aload_n 0, 1) := by decide +kernel
set_option maxRecDepth 100000 in
theorem c_Wr_name_59 : ct_Wr_name 59 = ka_il 2 1 := rfl
theorem d_Wr_name_59 : decode prog_10_method_9_code 59 = .ok (.iload_n 2, 1) := by decide +kernel
set_option maxRecDepth 100000 in
theorem c_Wr_name_60 : ct_Wr_name 60 = ka_cv 49 1 2 0 0 := rfl
theorem d_Wr_name_60 : decode prog_10_method_9_code 60 = .ok (.invokevirtual 27, 3) := by decide +kernel
set_option maxRecDepth 100000 in
theorem c_Wr_name_63 : ct_Wr_name 63 = ka_ret := rfl
theorem d_Wr_name_63 : decode prog_10_method_9_code 63 = .ok (.return_, 1) := by decide +kernel
set_option maxRecDepth 100000 in
set_option maxHeartbeats 4000000 in
theorem s_Wr_name_60 : ∀ pc, pc < 60 → kc_Sim kt kw_A kw_N kt_cl kt_En "DirectoryDesk$Writer" prog_10_method_9_code 4 (none) "name" none pc (ct_Wr_name pc) := by
  let P : Nat → Prop := fun pc => kc_Sim kt kw_A kw_N kt_cl kt_En "DirectoryDesk$Writer" prog_10_method_9_code 4 (none) "name" none pc (ct_Wr_name pc)
  exact kc_case (P := P) (kc_se c_Wr_name_59 (sm_iload_n d_Wr_name_59 rfl)) (
  kc_case (P := P) (kc_se c_Wr_name_58 (sm_aload_n d_Wr_name_58 rfl)) (
  kc_case (P := P) (kc_se rfl sm_no) (
  kc_case (P := P) (kc_se rfl sm_no) (
  kc_case (P := P) (kc_se c_Wr_name_55 (sm_goto d_Wr_name_55 (by decide))) (
  kc_case (P := P) (kc_se rfl sm_no) (
  kc_case (P := P) (kc_se rfl sm_no) (
  kc_case (P := P) (kc_se c_Wr_name_52 (sm_inc d_Wr_name_52 (by decide) (Nat.le_of_ble_eq_true rfl))) (
  kc_case (P := P) (kc_se rfl sm_no) (
  kc_case (P := P) (kc_se rfl sm_no) (
  kc_case (P := P) (kc_se c_Wr_name_49 (sm_cv (j := 54) rfl rfl kw_o kw_g wc_Wr_putValue (Nat.le_of_ble_eq_true rfl) hd_Wr_putValue (ci := 2) (F := kF_Wr) (N := 2) rfl (kw3 23 rfl rfl) wi_Wr_putValue ws_Wr_putValue wn_Wr_putValue d_Wr_name_49)) (
  kc_case (P := P) (kc_se c_Wr_name_48 (sm_lald d_Wr_name_48)) (
  kc_case (P := P) (kc_se c_Wr_name_47 (sm_iload_n d_Wr_name_47 rfl)) (
  kc_case (P := P) (kc_se rfl sm_no) (
  kc_case (P := P) (kc_se rfl sm_no) (
  kc_case (P := P) (kc_se c_Wr_name_44 (sm_get (ci := 5) (C := "DirectoryDesk$Name") (F := kF_Nm) rfl kin_Nm (Nat.le_of_ble_eq_true rfl) d_Wr_name_44 (kw1 102 rfl rfl))) (
  kc_case (P := P) (kc_se c_Wr_name_43 (sm_aload_n d_Wr_name_43 rfl)) (
  kc_case (P := P) (kc_se c_Wr_name_42 (sm_aload_n d_Wr_name_42 rfl)) (
  kc_case (P := P) (kc_se rfl sm_no) (
  kc_case (P := P) (kc_se rfl sm_no) (
  kc_case (P := P) (kc_se c_Wr_name_39 (sm_cv (j := 47) rfl rfl kw_o kw_g wc_Wr_put (Nat.le_of_ble_eq_true rfl) hd_Wr_put (ci := 2) (F := kF_Wr) (N := 2) rfl (kw3 6 rfl rfl) wi_Wr_put ws_Wr_put wn_Wr_put d_Wr_name_39)) (
  kc_case (P := P) (kc_se rfl sm_no) (
  kc_case (P := P) (kc_se c_Wr_name_37 (sm_bipush d_Wr_name_37 (by decide))) (
  kc_case (P := P) (kc_se c_Wr_name_36 (sm_aload_n d_Wr_name_36 rfl)) (
  kc_case (P := P) (kc_se rfl sm_no) (
  kc_case (P := P) (kc_se rfl sm_no) (
  kc_case (P := P) (kc_se c_Wr_name_33 (sm_cv (j := 47) rfl rfl kw_o kw_g wc_Wr_put (Nat.le_of_ble_eq_true rfl) hd_Wr_put (ci := 2) (F := kF_Wr) (N := 2) rfl (kw3 6 rfl rfl) wi_Wr_put ws_Wr_put wn_Wr_put d_Wr_name_33)) (
  kc_case (P := P) (kc_se c_Wr_name_32 (sm_iald d_Wr_name_32)) (
  kc_case (P := P) (kc_se c_Wr_name_31 (sm_iload_n d_Wr_name_31 rfl)) (
  kc_case (P := P) (kc_se rfl sm_no) (
  kc_case (P := P) (kc_se rfl sm_no) (
  kc_case (P := P) (kc_se c_Wr_name_28 (sm_get (ci := 5) (C := "DirectoryDesk$Name") (F := kF_Nm) rfl kin_Nm (Nat.le_of_ble_eq_true rfl) d_Wr_name_28 (kw1 99 rfl rfl))) (
  kc_case (P := P) (kc_se c_Wr_name_27 (sm_aload_n d_Wr_name_27 rfl)) (
  kc_case (P := P) (kc_se c_Wr_name_26 (sm_aload_n d_Wr_name_26 rfl)) (
  kc_case (P := P) (kc_se rfl sm_no) (
  kc_case (P := P) (kc_se rfl sm_no) (
  kc_case (P := P) (kc_se c_Wr_name_23 (sm_cv (j := 47) rfl rfl kw_o kw_g wc_Wr_put (Nat.le_of_ble_eq_true rfl) hd_Wr_put (ci := 2) (F := kF_Wr) (N := 2) rfl (kw3 6 rfl rfl) wi_Wr_put ws_Wr_put wn_Wr_put d_Wr_name_23)) (
  kc_case (P := P) (kc_se rfl sm_no) (
  kc_case (P := P) (kc_se c_Wr_name_21 (sm_bipush d_Wr_name_21 (by decide))) (
  kc_case (P := P) (kc_se c_Wr_name_20 (sm_aload_n d_Wr_name_20 rfl)) (
  kc_case (P := P) (kc_se rfl sm_no) (
  kc_case (P := P) (kc_se rfl sm_no) (
  kc_case (P := P) (kc_se c_Wr_name_17 (sm_if_le d_Wr_name_17 (by decide))) (
  kc_case (P := P) (kc_se c_Wr_name_16 (sm_iload_n d_Wr_name_16 rfl)) (
  kc_case (P := P) (kc_se rfl sm_no) (
  kc_case (P := P) (kc_se rfl sm_no) (
  kc_case (P := P) (kc_se c_Wr_name_13 (sm_cm_ge d_Wr_name_13 (by decide))) (
  kc_case (P := P) (kc_se rfl sm_no) (
  kc_case (P := P) (kc_se rfl sm_no) (
  kc_case (P := P) (kc_se c_Wr_name_10 (sm_get (ci := 5) (C := "DirectoryDesk$Name") (F := kF_Nm) rfl kin_Nm (Nat.le_of_ble_eq_true rfl) d_Wr_name_10 (kw1 107 rfl rfl))) (
  kc_case (P := P) (kc_se c_Wr_name_9 (sm_aload_n d_Wr_name_9 rfl)) (
  kc_case (P := P) (kc_se c_Wr_name_8 (sm_iload_n d_Wr_name_8 rfl)) (
  kc_case (P := P) (kc_se c_Wr_name_7 (sm_istore_n d_Wr_name_7 rfl (Nat.le_of_ble_eq_true rfl))) (
  kc_case (P := P) (kc_se c_Wr_name_6 (sm_iconst d_Wr_name_6 (by decide))) (
  kc_case (P := P) (kc_se c_Wr_name_5 (sm_istore_n d_Wr_name_5 rfl (Nat.le_of_ble_eq_true rfl))) (
  kc_case (P := P) (kc_se rfl sm_no) (
  kc_case (P := P) (kc_se rfl sm_no) (
  kc_case (P := P) (kc_se c_Wr_name_2 (sm_cv (j := 48) rfl rfl kw_o kw_g wc_Wr_begin (Nat.le_of_ble_eq_true rfl) hd_Wr_begin (ci := 2) (F := kF_Wr) (N := 2) rfl (kw3 14 rfl rfl) wi_Wr_begin ws_Wr_begin wn_Wr_begin d_Wr_name_2)) (
  kc_case (P := P) (kc_se c_Wr_name_1 (sm_iconst d_Wr_name_1 (by decide))) (
  kc_case (P := P) (kc_se c_Wr_name_0 (sm_aload_n d_Wr_name_0 rfl)) (
  kc_case0))))))))))))))))))))))))))))))))))))))))))))))))))))))))))))
set_option maxRecDepth 100000 in
set_option maxHeartbeats 4000000 in
theorem s_Wr_name_64 : ∀ pc, pc < 64 → kc_Sim kt kw_A kw_N kt_cl kt_En "DirectoryDesk$Writer" prog_10_method_9_code 4 (none) "name" none pc (ct_Wr_name pc) := by
  let P : Nat → Prop := fun pc => kc_Sim kt kw_A kw_N kt_cl kt_En "DirectoryDesk$Writer" prog_10_method_9_code 4 (none) "name" none pc (ct_Wr_name pc)
  exact kc_case (P := P) (kc_se c_Wr_name_63 (sm_ret d_Wr_name_63 rfl)) (
  kc_case (P := P) (kc_se rfl sm_no) (
  kc_case (P := P) (kc_se rfl sm_no) (
  kc_case (P := P) (kc_se c_Wr_name_60 (sm_cv (j := 49) rfl rfl kw_o kw_g wc_Wr_finish (Nat.le_of_ble_eq_true rfl) hd_Wr_finish (ci := 2) (F := kF_Wr) (N := 2) rfl (kw3 15 rfl rfl) wi_Wr_finish ws_Wr_finish wn_Wr_finish d_Wr_name_60)) (
  s_Wr_name_60))))
theorem ka_nth_no_Wr_name (pc : Nat) (h : 64 ≤ pc) : ct_Wr_name pc = ka_no := ka_nth_ge _ pc (Nat.le_trans (Nat.le_of_eq (by rfl)) h)
theorem s_Wr_name (pc : Nat) : kc_Sim kt kw_A kw_N kt_cl kt_En "DirectoryDesk$Writer" prog_10_method_9_code 4 (none) "name" none pc (ct_Wr_name pc) := (Nat.lt_or_ge pc 64).elim (s_Wr_name_64 pc) (fun h => kc_se (ka_nth_no_Wr_name pc h) sm_no)
def cl_Wr_putValue_0 : List kc_A := [ka_ci (nI 56) 2, ka_no, ka_is 3 1, ka_il 3 1, ka_if (fun x => x < 0) 34, ka_no, ka_no, ka_ll 1 1, ka_il 3 1, ka_lsh (fun x y => x >>> (y.toInt64 &&& 63)), ka_l2i, ka_ci (nI 255) 3, ka_no, ka_no, ka_ii (fun x y => x &&& y), ka_is 4 2, ka_no, ka_il 4 2, ka_no, ka_if (fun x => x = 0) 28, ka_no, ka_no, ka_al 0 1, ka_il 4 2, ka_no, ka_cv 47 1 2 0 0, ka_no, ka_no, ka_inc 3 (-8), ka_no, ka_no, ka_goto 3, ka_no, ka_no, ka_ret]
def ct_Wr_putValue : Nat → kc_A := fun pc => ka_nth (cl_Wr_putValue_0) pc
set_option maxRecDepth 100000 in
theorem c_Wr_putValue_0 : ct_Wr_putValue 0 = ka_ci (nI 56) 2 := rfl
theorem d_Wr_putValue_0 : decode prog_10_method_10_code 0 = .ok (.bipush 56, 2) := by decide +kernel
set_option maxRecDepth 100000 in
theorem c_Wr_putValue_2 : ct_Wr_putValue 2 = ka_is 3 1 := rfl
theorem d_Wr_putValue_2 : decode prog_10_method_10_code 2 = .ok (.istore_n 3, 1) := by decide +kernel
set_option maxRecDepth 100000 in
theorem c_Wr_putValue_3 : ct_Wr_putValue 3 = ka_il 3 1 := rfl
theorem d_Wr_putValue_3 : decode prog_10_method_10_code 3 = .ok (.iload_n 3, 1) := by decide +kernel
set_option maxRecDepth 100000 in
theorem c_Wr_putValue_4 : ct_Wr_putValue 4 = ka_if (fun x => x < 0) 34 := rfl
theorem d_Wr_putValue_4 : decode prog_10_method_10_code 4 = .ok (.ifCond .lt 30, 3) := by decide +kernel
set_option maxRecDepth 100000 in
theorem c_Wr_putValue_7 : ct_Wr_putValue 7 = ka_ll 1 1 := rfl
theorem d_Wr_putValue_7 : decode prog_10_method_10_code 7 = .ok (.lload_n 1, 1) := by decide +kernel
set_option maxRecDepth 100000 in
theorem c_Wr_putValue_8 : ct_Wr_putValue 8 = ka_il 3 1 := rfl
theorem d_Wr_putValue_8 : decode prog_10_method_10_code 8 = .ok (.iload_n 3, 1) := by decide +kernel
set_option maxRecDepth 100000 in
theorem c_Wr_putValue_9 : ct_Wr_putValue 9 = ka_lsh (fun x y => x >>> (y.toInt64 &&& 63)) := rfl
theorem d_Wr_putValue_9 : decode prog_10_method_10_code 9 = .ok (.lshr, 1) := by decide +kernel
set_option maxRecDepth 100000 in
theorem c_Wr_putValue_10 : ct_Wr_putValue 10 = ka_l2i := rfl
theorem d_Wr_putValue_10 : decode prog_10_method_10_code 10 = .ok (.l2i, 1) := by decide +kernel
set_option maxRecDepth 100000 in
theorem c_Wr_putValue_11 : ct_Wr_putValue 11 = ka_ci (nI 255) 3 := rfl
theorem d_Wr_putValue_11 : decode prog_10_method_10_code 11 = .ok (.sipush 255, 3) := by decide +kernel
set_option maxRecDepth 100000 in
theorem c_Wr_putValue_14 : ct_Wr_putValue 14 = ka_ii (fun x y => x &&& y) := rfl
theorem d_Wr_putValue_14 : decode prog_10_method_10_code 14 = .ok (.iand, 1) := by decide +kernel
set_option maxRecDepth 100000 in
theorem c_Wr_putValue_15 : ct_Wr_putValue 15 = ka_is 4 2 := rfl
theorem d_Wr_putValue_15 : decode prog_10_method_10_code 15 = .ok (.istore 4, 2) := by decide +kernel
set_option maxRecDepth 100000 in
theorem c_Wr_putValue_17 : ct_Wr_putValue 17 = ka_il 4 2 := rfl
theorem d_Wr_putValue_17 : decode prog_10_method_10_code 17 = .ok (.iload 4, 2) := by decide +kernel
set_option maxRecDepth 100000 in
theorem c_Wr_putValue_19 : ct_Wr_putValue 19 = ka_if (fun x => x = 0) 28 := rfl
theorem d_Wr_putValue_19 : decode prog_10_method_10_code 19 = .ok (.ifCond .eq 9, 3) := by decide +kernel
set_option maxRecDepth 100000 in
theorem c_Wr_putValue_22 : ct_Wr_putValue 22 = ka_al 0 1 := rfl
theorem d_Wr_putValue_22 : decode prog_10_method_10_code 22 = .ok (.aload_n 0, 1) := by decide +kernel
set_option maxRecDepth 100000 in
theorem c_Wr_putValue_23 : ct_Wr_putValue 23 = ka_il 4 2 := rfl
theorem d_Wr_putValue_23 : decode prog_10_method_10_code 23 = .ok (.iload 4, 2) := by decide +kernel
set_option maxRecDepth 100000 in
theorem c_Wr_putValue_25 : ct_Wr_putValue 25 = ka_cv 47 1 2 0 0 := rfl
theorem d_Wr_putValue_25 : decode prog_10_method_10_code 25 = .ok (.invokevirtual 19, 3) := by decide +kernel
set_option maxRecDepth 100000 in
theorem c_Wr_putValue_28 : ct_Wr_putValue 28 = ka_inc 3 (-8) := rfl
theorem d_Wr_putValue_28 : decode prog_10_method_10_code 28 = .ok (.iinc 3 (-8), 3) := by decide +kernel
set_option maxRecDepth 100000 in
theorem c_Wr_putValue_31 : ct_Wr_putValue 31 = ka_goto 3 := rfl
theorem d_Wr_putValue_31 : decode prog_10_method_10_code 31 = .ok (.goto (-28), 3) := by decide +kernel
set_option maxRecDepth 100000 in
theorem c_Wr_putValue_34 : ct_Wr_putValue 34 = ka_ret := rfl
theorem d_Wr_putValue_34 : decode prog_10_method_10_code 34 = .ok (.return_, 1) := by decide +kernel
set_option maxRecDepth 100000 in
set_option maxHeartbeats 4000000 in
theorem s_Wr_putValue_35 : ∀ pc, pc < 35 → kc_Sim kt kw_A kw_N kt_cl kt_En "DirectoryDesk$Writer" prog_10_method_10_code 5 (none) "putValue" none pc (ct_Wr_putValue pc) := by
  let P : Nat → Prop := fun pc => kc_Sim kt kw_A kw_N kt_cl kt_En "DirectoryDesk$Writer" prog_10_method_10_code 5 (none) "putValue" none pc (ct_Wr_putValue pc)
  exact kc_case (P := P) (kc_se c_Wr_putValue_34 (sm_ret d_Wr_putValue_34 rfl)) (
  kc_case (P := P) (kc_se rfl sm_no) (
  kc_case (P := P) (kc_se rfl sm_no) (
  kc_case (P := P) (kc_se c_Wr_putValue_31 (sm_goto d_Wr_putValue_31 (by decide))) (
  kc_case (P := P) (kc_se rfl sm_no) (
  kc_case (P := P) (kc_se rfl sm_no) (
  kc_case (P := P) (kc_se c_Wr_putValue_28 (sm_inc d_Wr_putValue_28 (by decide) (Nat.le_of_ble_eq_true rfl))) (
  kc_case (P := P) (kc_se rfl sm_no) (
  kc_case (P := P) (kc_se rfl sm_no) (
  kc_case (P := P) (kc_se c_Wr_putValue_25 (sm_cv (j := 47) rfl rfl kw_o kw_g wc_Wr_put (Nat.le_of_ble_eq_true rfl) hd_Wr_put (ci := 2) (F := kF_Wr) (N := 2) rfl (kw3 6 rfl rfl) wi_Wr_put ws_Wr_put wn_Wr_put d_Wr_putValue_25)) (
  kc_case (P := P) (kc_se rfl sm_no) (
  kc_case (P := P) (kc_se c_Wr_putValue_23 (sm_iload d_Wr_putValue_23)) (
  kc_case (P := P) (kc_se c_Wr_putValue_22 (sm_aload_n d_Wr_putValue_22 rfl)) (
  kc_case (P := P) (kc_se rfl sm_no) (
  kc_case (P := P) (kc_se rfl sm_no) (
  kc_case (P := P) (kc_se c_Wr_putValue_19 (sm_if_eq d_Wr_putValue_19 (by decide))) (
  kc_case (P := P) (kc_se rfl sm_no) (
  kc_case (P := P) (kc_se c_Wr_putValue_17 (sm_iload d_Wr_putValue_17)) (
  kc_case (P := P) (kc_se rfl sm_no) (
  kc_case (P := P) (kc_se c_Wr_putValue_15 (sm_istore d_Wr_putValue_15 (Nat.le_of_ble_eq_true rfl))) (
  kc_case (P := P) (kc_se c_Wr_putValue_14 (sm_iand d_Wr_putValue_14)) (
  kc_case (P := P) (kc_se rfl sm_no) (
  kc_case (P := P) (kc_se rfl sm_no) (
  kc_case (P := P) (kc_se c_Wr_putValue_11 (sm_sipush d_Wr_putValue_11 (by decide))) (
  kc_case (P := P) (kc_se c_Wr_putValue_10 (sm_l2i d_Wr_putValue_10)) (
  kc_case (P := P) (kc_se c_Wr_putValue_9 (sm_lshr d_Wr_putValue_9)) (
  kc_case (P := P) (kc_se c_Wr_putValue_8 (sm_iload_n d_Wr_putValue_8 rfl)) (
  kc_case (P := P) (kc_se c_Wr_putValue_7 (sm_lload_n d_Wr_putValue_7 rfl)) (
  kc_case (P := P) (kc_se rfl sm_no) (
  kc_case (P := P) (kc_se rfl sm_no) (
  kc_case (P := P) (kc_se c_Wr_putValue_4 (sm_if_lt d_Wr_putValue_4 (by decide))) (
  kc_case (P := P) (kc_se c_Wr_putValue_3 (sm_iload_n d_Wr_putValue_3 rfl)) (
  kc_case (P := P) (kc_se c_Wr_putValue_2 (sm_istore_n d_Wr_putValue_2 rfl (Nat.le_of_ble_eq_true rfl))) (
  kc_case (P := P) (kc_se rfl sm_no) (
  kc_case (P := P) (kc_se c_Wr_putValue_0 (sm_bipush d_Wr_putValue_0 (by decide))) (
  kc_case0)))))))))))))))))))))))))))))))))))
theorem ka_nth_no_Wr_putValue (pc : Nat) (h : 35 ≤ pc) : ct_Wr_putValue pc = ka_no := ka_nth_ge _ pc (Nat.le_trans (Nat.le_of_eq (by rfl)) h)
theorem s_Wr_putValue (pc : Nat) : kc_Sim kt kw_A kw_N kt_cl kt_En "DirectoryDesk$Writer" prog_10_method_10_code 5 (none) "putValue" none pc (ct_Wr_putValue pc) := (Nat.lt_or_ge pc 35).elim (s_Wr_putValue_35 pc) (fun h => kc_se (ka_nth_no_Wr_putValue pc h) sm_no)
