/-! code of methods, decode rows, and that the JVM follows (by program) -/
def cl_Pa_find_0 : List kc_A := [ka_ci (nI 0) 1, ka_is 4 2, ka_no, ka_il 4 2, ka_no, ka_al 0 1, ka_get 6 2, ka_no, ka_no, ka_cm (fun x y => y ≤ x) 44, ka_no, ka_no, ka_al 0 1, ka_get 6 0, ka_no, ka_no, ka_il 4 2, ka_no, ka_iald, ka_il 1 1, ka_cm (fun x y => ¬ x = y) 38, ka_no, ka_no, ka_al 0 1, ka_get 6 1, ka_no, ka_no, ka_il 4 2, ka_no, ka_lald, ka_ll 2 1, ka_lcmp, ka_if (fun x => ¬ x = 0) 38, ka_no, ka_no, ka_il 4 2, ka_no, ka_ri, ka_inc 4 (nI 1), ka_no, ka_no, ka_goto 3, ka_no, ka_no, ka_ci (-1) 1, ka_ri]
def ct_Pa_find : Nat → kc_A := fun pc => ka_nth (cl_Pa_find_0) pc
set_option maxRecDepth 100000 in
theorem c_Pa_find_0 : ct_Pa_find 0 = ka_ci (nI 0) 1 := rfl
theorem d_Pa_find_0 : decode prog_6_method_2_code 0 = .ok (.iconst 0, 1) := by decide +kernel
set_option maxRecDepth 100000 in
theorem c_Pa_find_1 : ct_Pa_find 1 = ka_is 4 2 := rfl
theorem d_Pa_find_1 : decode prog_6_method_2_code 1 = .ok (.istore 4, 2) := by decide +kernel
set_option maxRecDepth 100000 in
theorem c_Pa_find_3 : ct_Pa_find 3 = ka_il 4 2 := rfl
theorem d_Pa_find_3 : decode prog_6_method_2_code 3 = .ok (.iload 4, 2) := by decide +kernel
set_option maxRecDepth 100000 in
theorem c_Pa_find_5 : ct_Pa_find 5 = ka_al 0 1 := rfl
theorem d_Pa_find_5 : decode prog_6_method_2_code 5 = .ok (.aload_n 0, 1) := by decide +kernel
set_option maxRecDepth 100000 in
theorem c_Pa_find_6 : ct_Pa_find 6 = ka_get 6 2 := rfl
theorem d_Pa_find_6 : decode prog_6_method_2_code 6 = .ok (.getfield 19, 3) := by decide +kernel
set_option maxRecDepth 100000 in
theorem c_Pa_find_9 : ct_Pa_find 9 = ka_cm (fun x y => y ≤ x) 44 := rfl
theorem d_Pa_find_9 : decode prog_6_method_2_code 9 = .ok (.if_icmp .ge 35, 3) := by decide +kernel
set_option maxRecDepth 100000 in
theorem c_Pa_find_12 : ct_Pa_find 12 = ka_al 0 1 := rfl
theorem d_Pa_find_12 : decode prog_6_method_2_code 12 = .ok (.aload_n 0, 1) := by decide +kernel
set_option maxRecDepth 100000 in
theorem c_Pa_find_13 : ct_Pa_find 13 = ka_get 6 0 := rfl
theorem d_Pa_find_13 : decode prog_6_method_2_code 13 = .ok (.getfield 9, 3) := by decide +kernel
set_option maxRecDepth 100000 in
theorem c_Pa_find_16 : ct_Pa_find 16 = ka_il 4 2 := rfl
theorem d_Pa_find_16 : decode prog_6_method_2_code 16 = .ok (.iload 4, 2) := by decide +kernel
set_option maxRecDepth 100000 in
theorem c_Pa_find_18 : ct_Pa_find 18 = ka_iald := rfl
theorem d_Pa_find_18 : decode prog_6_method_2_code 18 = .ok (.iaload, 1) := by decide +kernel
set_option maxRecDepth 100000 in
theorem c_Pa_find_19 : ct_Pa_find 19 = ka_il 1 1 := rfl
theorem d_Pa_find_19 : decode prog_6_method_2_code 19 = .ok (.iload_n 1, 1) := by decide +kernel
set_option maxRecDepth 100000 in
theorem c_Pa_find_20 : ct_Pa_find 20 = ka_cm (fun x y => ¬ x = y) 38 := rfl
theorem d_Pa_find_20 : decode prog_6_method_2_code 20 = .ok (.if_icmp .ne 18, 3) := by decide +kernel
set_option maxRecDepth 100000 in
theorem c_Pa_find_23 : ct_Pa_find 23 = ka_al 0 1 := rfl
theorem d_Pa_find_23 : decode prog_6_method_2_code 23 = .ok (.aload_n 0, 1) := by decide +kernel
set_option maxRecDepth 100000 in
theorem c_Pa_find_24 : ct_Pa_find 24 = ka_get 6 1 := rfl
theorem d_Pa_find_24 : decode prog_6_method_2_code 24 = .ok (.getfield 15, 3) := by decide +kernel
set_option maxRecDepth 100000 in
theorem c_Pa_find_27 : ct_Pa_find 27 = ka_il 4 2 := rfl
theorem d_Pa_find_27 : decode prog_6_method_2_code 27 = .ok (.iload 4, 2) := by decide +kernel
set_option maxRecDepth 100000 in
theorem c_Pa_find_29 : ct_Pa_find 29 = ka_lald := rfl
theorem d_Pa_find_29 : decode prog_6_method_2_code 29 = .ok (.laload, 1) := by decide +kernel
set_option maxRecDepth 100000 in
theorem c_Pa_find_30 : ct_Pa_find 30 = ka_ll 2 1 := rfl
theorem d_Pa_find_30 : decode prog_6_method_2_code 30 = .ok (.lload_n 2, 1) := by decide +kernel
set_option maxRecDepth 100000 in
theorem c_Pa_find_31 : ct_Pa_find 31 = ka_lcmp := rfl
theorem d_Pa_find_31 : decode prog_6_method_2_code 31 = .ok (.lcmp, 1) := by decide +kernel
set_option maxRecDepth 100000 in
theorem c_Pa_find_32 : ct_Pa_find 32 = ka_if (fun x => ¬ x = 0) 38 := rfl
theorem d_Pa_find_32 : decode prog_6_method_2_code 32 = .ok (.ifCond .ne 6, 3) := by decide +kernel
set_option maxRecDepth 100000 in
theorem c_Pa_find_35 : ct_Pa_find 35 = ka_il 4 2 := rfl
theorem d_Pa_find_35 : decode prog_6_method_2_code 35 = .ok (.iload 4, 2) := by decide +kernel
set_option maxRecDepth 100000 in
theorem c_Pa_find_37 : ct_Pa_find 37 = ka_ri := rfl
theorem d_Pa_find_37 : decode prog_6_method_2_code 37 = .ok (.ireturn, 1) := by decide +kernel
set_option maxRecDepth 100000 in
theorem c_Pa_find_38 : ct_Pa_find 38 = ka_inc 4 (nI 1) := rfl
theorem d_Pa_find_38 : decode prog_6_method_2_code 38 = .ok (.iinc 4 1, 3) := by decide +kernel
set_option maxRecDepth 100000 in
theorem c_Pa_find_41 : ct_Pa_find 41 = ka_goto 3 := rfl
theorem d_Pa_find_41 : decode prog_6_method_2_code 41 = .ok (.goto (-38), 3) := by decide +kernel
set_option maxRecDepth 100000 in
theorem c_Pa_find_44 : ct_Pa_find 44 = ka_ci (-1) 1 := rfl
theorem d_Pa_find_44 : decode prog_6_method_2_code 44 = .ok (.iconst (-1), 1) := by decide +kernel
set_option maxRecDepth 100000 in
theorem c_Pa_find_45 : ct_Pa_find 45 = ka_ri := rfl
theorem d_Pa_find_45 : decode prog_6_method_2_code 45 = .ok (.ireturn, 1) := by decide +kernel
set_option maxRecDepth 100000 in
set_option maxHeartbeats 4000000 in
theorem s_Pa_find_46 : ∀ pc, pc < 46 → kc_Sim kt kw_A kw_N kt_cl kt_En "DirectoryDesk$Pairs" prog_6_method_2_code 5 (some .int) "find" none pc (ct_Pa_find pc) := by
  let P : Nat → Prop := fun pc => kc_Sim kt kw_A kw_N kt_cl kt_En "DirectoryDesk$Pairs" prog_6_method_2_code 5 (some .int) "find" none pc (ct_Pa_find pc)
  exact kc_case (P := P) (kc_se c_Pa_find_45 (sm_ri d_Pa_find_45 rfl)) (
  kc_case (P := P) (kc_se c_Pa_find_44 (sm_iconst d_Pa_find_44 (by decide))) (
  kc_case (P := P) (kc_se rfl sm_no) (
  kc_case (P := P) (kc_se rfl sm_no) (
  kc_case (P := P) (kc_se c_Pa_find_41 (sm_goto d_Pa_find_41 (by decide))) (
  kc_case (P := P) (kc_se rfl sm_no) (
  kc_case (P := P) (kc_se rfl sm_no) (
  kc_case (P := P) (kc_se c_Pa_find_38 (sm_inc d_Pa_find_38 (by decide) (Nat.le_of_ble_eq_true rfl))) (
  kc_case (P := P) (kc_se c_Pa_find_37 (sm_ri d_Pa_find_37 rfl)) (
  kc_case (P := P) (kc_se rfl sm_no) (
  kc_case (P := P) (kc_se c_Pa_find_35 (sm_iload d_Pa_find_35)) (
  kc_case (P := P) (kc_se rfl sm_no) (
  kc_case (P := P) (kc_se rfl sm_no) (
  kc_case (P := P) (kc_se c_Pa_find_32 (sm_if_ne d_Pa_find_32 (by decide))) (
  kc_case (P := P) (kc_se c_Pa_find_31 (sm_lcmp d_Pa_find_31)) (
  kc_case (P := P) (kc_se c_Pa_find_30 (sm_lload_n d_Pa_find_30 rfl)) (
  kc_case (P := P) (kc_se c_Pa_find_29 (sm_lald d_Pa_find_29)) (
  kc_case (P := P) (kc_se rfl sm_no) (
  kc_case (P := P) (kc_se c_Pa_find_27 (sm_iload d_Pa_find_27)) (
  kc_case (P := P) (kc_se rfl sm_no) (
  kc_case (P := P) (kc_se rfl sm_no) (
  kc_case (P := P) (kc_se c_Pa_find_24 (sm_get (ci := 6) (C := "DirectoryDesk$Pairs") (F := kF_Pa) rfl kin_Pa (Nat.le_of_ble_eq_true rfl) d_Pa_find_24 (kw1 124 rfl rfl))) (
  kc_case (P := P) (kc_se c_Pa_find_23 (sm_aload_n d_Pa_find_23 rfl)) (
  kc_case (P := P) (kc_se rfl sm_no) (
  kc_case (P := P) (kc_se rfl sm_no) (
  kc_case (P := P) (kc_se c_Pa_find_20 (sm_cm_ne d_Pa_find_20 (by decide))) (
  kc_case (P := P) (kc_se c_Pa_find_19 (sm_iload_n d_Pa_find_19 rfl)) (
  kc_case (P := P) (kc_se c_Pa_find_18 (sm_iald d_Pa_find_18)) (
  kc_case (P := P) (kc_se rfl sm_no) (
  kc_case (P := P) (kc_se c_Pa_find_16 (sm_iload d_Pa_find_16)) (
  kc_case (P := P) (kc_se rfl sm_no) (
  kc_case (P := P) (kc_se rfl sm_no) (
  kc_case (P := P) (kc_se c_Pa_find_13 (sm_get (ci := 6) (C := "DirectoryDesk$Pairs") (F := kF_Pa) rfl kin_Pa (Nat.le_of_ble_eq_true rfl) d_Pa_find_13 (kw1 122 rfl rfl))) (
  kc_case (P := P) (kc_se c_Pa_find_12 (sm_aload_n d_Pa_find_12 rfl)) (
  kc_case (P := P) (kc_se rfl sm_no) (
  kc_case (P := P) (kc_se rfl sm_no) (
  kc_case (P := P) (kc_se c_Pa_find_9 (sm_cm_ge d_Pa_find_9 (by decide))) (
  kc_case (P := P) (kc_se rfl sm_no) (
  kc_case (P := P) (kc_se rfl sm_no) (
  kc_case (P := P) (kc_se c_Pa_find_6 (sm_get (ci := 6) (C := "DirectoryDesk$Pairs") (F := kF_Pa) rfl kin_Pa (Nat.le_of_ble_eq_true rfl) d_Pa_find_6 (kw1 126 rfl rfl))) (
  kc_case (P := P) (kc_se c_Pa_find_5 (sm_aload_n d_Pa_find_5 rfl)) (
  kc_case (P := P) (kc_se rfl sm_no) (
  kc_case (P := P) (kc_se c_Pa_find_3 (sm_iload d_Pa_find_3)) (
  kc_case (P := P) (kc_se rfl sm_no) (
  kc_case (P := P) (kc_se c_Pa_find_1 (sm_istore d_Pa_find_1 (Nat.le_of_ble_eq_true rfl))) (
  kc_case (P := P) (kc_se c_Pa_find_0 (sm_iconst d_Pa_find_0 (by decide))) (
  kc_case0))))))))))))))))))))))))))))))))))))))))))))))
theorem ka_nth_no_Pa_find (pc : Nat) (h : 46 ≤ pc) : ct_Pa_find pc = ka_no := ka_nth_ge _ pc (Nat.le_trans (Nat.le_of_eq (by rfl)) h)
theorem s_Pa_find (pc : Nat) : kc_Sim kt kw_A kw_N kt_cl kt_En "DirectoryDesk$Pairs" prog_6_method_2_code 5 (some .int) "find" none pc (ct_Pa_find pc) := (Nat.lt_or_ge pc 46).elim (s_Pa_find_46 pc) (fun h => kc_se (ka_nth_no_Pa_find pc h) sm_no)
def cl_Pa_hasBetween_0 : List kc_A := [ka_ci (nI 0) 1, ka_is 6 2, ka_no, ka_il 6 2, ka_no, ka_al 0 1, ka_get 6 2, ka_no, ka_no, ka_cm (fun x y => y ≤ x) 56, ka_no, ka_no, ka_al 0 1, ka_get 6 0, ka_no, ka_no, ka_il 6 2, ka_no, ka_iald, ka_il 1 1, ka_cm (fun x y => ¬ x = y) 50, ka_no, ka_no, ka_al 0 1, ka_get 6 1, ka_no, ka_no, ka_il 6 2, ka_no, ka_lald, ka_ll 2 1, ka_lcmp, ka_if (fun x => x < 0) 50, ka_no, ka_no, ka_al 0 1, ka_get 6 1, ka_no, ka_no, ka_il 6 2, ka_no, ka_lald, ka_ll 4 2, ka_no, ka_lcmp, ka_if (fun x => 0 < x) 50, ka_no, ka_no, ka_ci (nI 1) 1, ka_rz, ka_inc 6 (nI 1), ka_no, ka_no, ka_goto 3, ka_no, ka_no, ka_ci (nI 0) 1, ka_rz]
def ct_Pa_hasBetween : Nat → kc_A := fun pc => ka_nth (cl_Pa_hasBetween_0) pc
set_option maxRecDepth 100000 in
theorem c_Pa_hasBetween_0 : ct_Pa_hasBetween 0 = ka_ci (nI 0) 1 := rfl
theorem d_Pa_hasBetween_0 : decode prog_6_method_3_code 0 = .ok (.iconst 0, 1) := by decide +kernel
set_option maxRecDepth 100000 in
theorem c_Pa_hasBetween_1 : ct_Pa_hasBetween 1 = ka_is 6 2 := rfl
theorem d_Pa_hasBetween_1 : decode prog_6_method_3_code 1 = .ok (.istore 6, 2) := by decide +kernel
set_option maxRecDepth 100000 in
theorem c_Pa_hasBetween_3 : ct_Pa_hasBetween 3 = ka_il 6 2 := rfl
theorem d_Pa_hasBetween_3 : decode prog_6_method_3_code 3 = .ok (.iload 6, 2) := by decide +kernel
set_option maxRecDepth 100000 in
theorem c_Pa_hasBetween_5 : ct_Pa_hasBetween 5 = ka_al 0 1 := rfl
theorem d_Pa_hasBetween_5 : decode prog_6_method_3_code 5 = .ok (.aload_n 0, 1) := by decide +kernel
set_option maxRecDepth 100000 in
theorem c_Pa_hasBetween_6 : ct_Pa_hasBetween 6 = ka_get 6 2 := rfl
theorem d_Pa_hasBetween_6 : decode prog_6_method_3_code 6 = .ok (.getfield 19, 3) := by decide +kernel
set_option maxRecDepth 100000 in
theorem c_Pa_hasBetween_9 : ct_Pa_hasBetween 9 = ka_cm (fun x y => y ≤ x) 56 := rfl
theorem d_Pa_hasBetween_9 : decode prog_6_method_3_code 9 = .ok (.if_icmp .ge 47, 3) := by decide +kernel
set_option maxRecDepth 100000 in
theorem c_Pa_hasBetween_12 : ct_Pa_hasBetween 12 = ka_al 0 1 := rfl
theorem d_Pa_hasBetween_12 : decode prog_6_method_3_code 12 = .ok (.aload_n 0, 1) := by decide +kernel
set_option maxRecDepth 100000 in
theorem c_Pa_hasBetween_13 : ct_Pa_hasBetween 13 = ka_get 6 0 := rfl
theorem d_Pa_hasBetween_13 : decode prog_6_method_3_code 13 = .ok (.getfield 9, 3) := by decide +kernel
set_option maxRecDepth 100000 in
theorem c_Pa_hasBetween_16 : ct_Pa_hasBetween 16 = ka_il 6 2 := rfl
theorem d_Pa_hasBetween_16 : decode prog_6_method_3_code 16 = .ok (.iload 6, 2) := by decide +kernel
set_option maxRecDepth 100000 in
theorem c_Pa_hasBetween_18 : ct_Pa_hasBetween 18 = ka_iald := rfl
theorem d_Pa_hasBetween_18 : decode prog_6_method_3_code 18 = .ok (.iaload, 1) := by decide +kernel
set_option maxRecDepth 100000 in
theorem c_Pa_hasBetween_19 : ct_Pa_hasBetween 19 = ka_il 1 1 := rfl
theorem d_Pa_hasBetween_19 : decode prog_6_method_3_code 19 = .ok (.iload_n 1, 1) := by decide +kernel
set_option maxRecDepth 100000 in
theorem c_Pa_hasBetween_20 : ct_Pa_hasBetween 20 = ka_cm (fun x y => ¬ x = y) 50 := rfl
theorem d_Pa_hasBetween_20 : decode prog_6_method_3_code 20 = .ok (.if_icmp .ne 30, 3) := by decide +kernel
set_option maxRecDepth 100000 in
theorem c_Pa_hasBetween_23 : ct_Pa_hasBetween 23 = ka_al 0 1 := rfl
theorem d_Pa_hasBetween_23 : decode prog_6_method_3_code 23 = .ok (.aload_n 0, 1) := by decide +kernel
set_option maxRecDepth 100000 in
theorem c_Pa_hasBetween_24 : ct_Pa_hasBetween 24 = ka_get 6 1 := rfl
theorem d_Pa_hasBetween_24 : decode prog_6_method_3_code 24 = .ok (.getfield 15, 3) := by decide +kernel
set_option maxRecDepth 100000 in
theorem c_Pa_hasBetween_27 : ct_Pa_hasBetween 27 = ka_il 6 2 := rfl
theorem d_Pa_hasBetween_27 : decode prog_6_method_3_code 27 = .ok (.iload 6, 2) := by decide +kernel
set_option maxRecDepth 100000 in
theorem c_Pa_hasBetween_29 : ct_Pa_hasBetween 29 = ka_lald := rfl
theorem d_Pa_hasBetween_29 : decode prog_6_method_3_code 29 = .ok (.laload, 1) := by decide +kernel
set_option maxRecDepth 100000 in
theorem c_Pa_hasBetween_30 : ct_Pa_hasBetween 30 = ka_ll 2 1 := rfl
theorem d_Pa_hasBetween_30 : decode prog_6_method_3_code 30 = .ok (.lload_n 2, 1) := by decide +kernel
set_option maxRecDepth 100000 in
theorem c_Pa_hasBetween_31 : ct_Pa_hasBetween 31 = ka_lcmp := rfl
theorem d_Pa_hasBetween_31 : decode prog_6_method_3_code 31 = .ok (.lcmp, 1) := by decide +kernel
set_option maxRecDepth 100000 in
theorem c_Pa_hasBetween_32 : ct_Pa_hasBetween 32 = ka_if (fun x => x < 0) 50 := rfl
theorem d_Pa_hasBetween_32 : decode prog_6_method_3_code 32 = .ok (.ifCond .lt 18, 3) := by decide +kernel
set_option maxRecDepth 100000 in
theorem c_Pa_hasBetween_35 : ct_Pa_hasBetween 35 = ka_al 0 1 := rfl
theorem d_Pa_hasBetween_35 : decode prog_6_method_3_code 35 = .ok (.aload_n 0, 1) := by decide +kernel
set_option maxRecDepth 100000 in
theorem c_Pa_hasBetween_36 : ct_Pa_hasBetween 36 = ka_get 6 1 := rfl
theorem d_Pa_hasBetween_36 : decode prog_6_method_3_code 36 = .ok (.getfield 15, 3) := by decide +kernel
set_option maxRecDepth 100000 in
theorem c_Pa_hasBetween_39 : ct_Pa_hasBetween 39 = ka_il 6 2 := rfl
theorem d_Pa_hasBetween_39 : decode prog_6_method_3_code 39 = .ok (.iload 6, 2) := by decide +kernel
set_option maxRecDepth 100000 in
theorem c_Pa_hasBetween_41 : ct_Pa_hasBetween 41 = ka_lald := rfl
theorem d_Pa_hasBetween_41 : decode prog_6_method_3_code 41 = .ok (.laload, 1) := by decide +kernel
set_option maxRecDepth 100000 in
theorem c_Pa_hasBetween_42 : ct_Pa_hasBetween 42 = ka_ll 4 2 := rfl
theorem d_Pa_hasBetween_42 : decode prog_6_method_3_code 42 = .ok (.lload 4, 2) := by decide +kernel
set_option maxRecDepth 100000 in
theorem c_Pa_hasBetween_44 : ct_Pa_hasBetween 44 = ka_lcmp := rfl
theorem d_Pa_hasBetween_44 : decode prog_6_method_3_code 44 = .ok (.lcmp, 1) := by decide +kernel
set_option maxRecDepth 100000 in
theorem c_Pa_hasBetween_45 : ct_Pa_hasBetween 45 = ka_if (fun x => 0 < x) 50 := rfl
theorem d_Pa_hasBetween_45 : decode prog_6_method_3_code 45 = .ok (.ifCond .gt 5, 3) := by decide +kernel
set_option maxRecDepth 100000 in
theorem c_Pa_hasBetween_48 : ct_Pa_hasBetween 48 = ka_ci (nI 1) 1 := rfl
theorem d_Pa_hasBetween_48 : decode prog_6_method_3_code 48 = .ok (.iconst 1, 1) := by decide +kernel
set_option maxRecDepth 100000 in
theorem c_Pa_hasBetween_49 : ct_Pa_hasBetween 49 = ka_rz := rfl
theorem d_Pa_hasBetween_49 : decode prog_6_method_3_code 49 = .ok (.ireturn, 1) := by decide +kernel
set_option maxRecDepth 100000 in
theorem c_Pa_hasBetween_50 : ct_Pa_hasBetween 50 = ka_inc 6 (nI 1) := rfl
theorem d_Pa_hasBetween_50 : decode prog_6_method_3_code 50 = .ok (.iinc 6 1, 3) := by decide +kernel
set_option maxRecDepth 100000 in
theorem c_Pa_hasBetween_53 : ct_Pa_hasBetween 53 = ka_goto 3 := rfl
theorem d_Pa_hasBetween_53 : decode prog_6_method_3_code 53 = .ok (.goto (-50), 3) := by decide +kernel
set_option maxRecDepth 100000 in
theorem c_Pa_hasBetween_56 : ct_Pa_hasBetween 56 = ka_ci (nI 0) 1 := rfl
theorem d_Pa_hasBetween_56 : decode prog_6_method_3_code 56 = .ok (.iconst 0, 1) := by decide +kernel
set_option maxRecDepth 100000 in
theorem c_Pa_hasBetween_57 : ct_Pa_hasBetween 57 = ka_rz := rfl
theorem d_Pa_hasBetween_57 : decode prog_6_method_3_code 57 = .ok (.ireturn, 1) := by decide +kernel
set_option maxRecDepth 100000 in
set_option maxHeartbeats 4000000 in
theorem s_Pa_hasBetween_58 : ∀ pc, pc < 58 → kc_Sim kt kw_A kw_N kt_cl kt_En "DirectoryDesk$Pairs" prog_6_method_3_code 7 (some .boolean) "hasBetween" none pc (ct_Pa_hasBetween pc) := by
  let P : Nat → Prop := fun pc => kc_Sim kt kw_A kw_N kt_cl kt_En "DirectoryDesk$Pairs" prog_6_method_3_code 7 (some .boolean) "hasBetween" none pc (ct_Pa_hasBetween pc)
  exact kc_case (P := P) (kc_se c_Pa_hasBetween_57 (sm_rz d_Pa_hasBetween_57 rfl)) (
  kc_case (P := P) (kc_se c_Pa_hasBetween_56 (sm_iconst d_Pa_hasBetween_56 (by decide))) (
  kc_case (P := P) (kc_se rfl sm_no) (
  kc_case (P := P) (kc_se rfl sm_no) (
  kc_case (P := P) (kc_se c_Pa_hasBetween_53 (sm_goto d_Pa_hasBetween_53 (by decide))) (
  kc_case (P := P) (kc_se rfl sm_no) (
  kc_case (P := P) (kc_se rfl sm_no) (
  kc_case (P := P) (kc_se c_Pa_hasBetween_50 (sm_inc d_Pa_hasBetween_50 (by decide) (Nat.le_of_ble_eq_true rfl))) (
  kc_case (P := P) (kc_se c_Pa_hasBetween_49 (sm_rz d_Pa_hasBetween_49 rfl)) (
  kc_case (P := P) (kc_se c_Pa_hasBetween_48 (sm_iconst d_Pa_hasBetween_48 (by decide))) (
  kc_case (P := P) (kc_se rfl sm_no) (
  kc_case (P := P) (kc_se rfl sm_no) (
  kc_case (P := P) (kc_se c_Pa_hasBetween_45 (sm_if_gt d_Pa_hasBetween_45 (by decide))) (
  kc_case (P := P) (kc_se c_Pa_hasBetween_44 (sm_lcmp d_Pa_hasBetween_44)) (
  kc_case (P := P) (kc_se rfl sm_no) (
  kc_case (P := P) (kc_se c_Pa_hasBetween_42 (sm_lload d_Pa_hasBetween_42)) (
  kc_case (P := P) (kc_se c_Pa_hasBetween_41 (sm_lald d_Pa_hasBetween_41)) (
  kc_case (P := P) (kc_se rfl sm_no) (
  kc_case (P := P) (kc_se c_Pa_hasBetween_39 (sm_iload d_Pa_hasBetween_39)) (
  kc_case (P := P) (kc_se rfl sm_no) (
  kc_case (P := P) (kc_se rfl sm_no) (
  kc_case (P := P) (kc_se c_Pa_hasBetween_36 (sm_get (ci := 6) (C := "DirectoryDesk$Pairs") (F := kF_Pa) rfl kin_Pa (Nat.le_of_ble_eq_true rfl) d_Pa_hasBetween_36 (kw1 124 rfl rfl))) (
  kc_case (P := P) (kc_se c_Pa_hasBetween_35 (sm_aload_n d_Pa_hasBetween_35 rfl)) (
  kc_case (P := P) (kc_se rfl sm_no) (
  kc_case (P := P) (kc_se rfl sm_no) (
  kc_case (P := P) (kc_se c_Pa_hasBetween_32 (sm_if_lt d_Pa_hasBetween_32 (by decide))) (
  kc_case (P := P) (kc_se c_Pa_hasBetween_31 (sm_lcmp d_Pa_hasBetween_31)) (
  kc_case (P := P) (kc_se c_Pa_hasBetween_30 (sm_lload_n d_Pa_hasBetween_30 rfl)) (
  kc_case (P := P) (kc_se c_Pa_hasBetween_29 (sm_lald d_Pa_hasBetween_29)) (
  kc_case (P := P) (kc_se rfl sm_no) (
  kc_case (P := P) (kc_se c_Pa_hasBetween_27 (sm_iload d_Pa_hasBetween_27)) (
  kc_case (P := P) (kc_se rfl sm_no) (
  kc_case (P := P) (kc_se rfl sm_no) (
  kc_case (P := P) (kc_se c_Pa_hasBetween_24 (sm_get (ci := 6) (C := "DirectoryDesk$Pairs") (F := kF_Pa) rfl kin_Pa (Nat.le_of_ble_eq_true rfl) d_Pa_hasBetween_24 (kw1 124 rfl rfl))) (
  kc_case (P := P) (kc_se c_Pa_hasBetween_23 (sm_aload_n d_Pa_hasBetween_23 rfl)) (
  kc_case (P := P) (kc_se rfl sm_no) (
  kc_case (P := P) (kc_se rfl sm_no) (
  kc_case (P := P) (kc_se c_Pa_hasBetween_20 (sm_cm_ne d_Pa_hasBetween_20 (by decide))) (
  kc_case (P := P) (kc_se c_Pa_hasBetween_19 (sm_iload_n d_Pa_hasBetween_19 rfl)) (
  kc_case (P := P) (kc_se c_Pa_hasBetween_18 (sm_iald d_Pa_hasBetween_18)) (
  kc_case (P := P) (kc_se rfl sm_no) (
  kc_case (P := P) (kc_se c_Pa_hasBetween_16 (sm_iload d_Pa_hasBetween_16)) (
  kc_case (P := P) (kc_se rfl sm_no) (
  kc_case (P := P) (kc_se rfl sm_no) (
  kc_case (P := P) (kc_se c_Pa_hasBetween_13 (sm_get (ci := 6) (C := "DirectoryDesk$Pairs") (F := kF_Pa) rfl kin_Pa (Nat.le_of_ble_eq_true rfl) d_Pa_hasBetween_13 (kw1 122 rfl rfl))) (
  kc_case (P := P) (kc_se c_Pa_hasBetween_12 (sm_aload_n d_Pa_hasBetween_12 rfl)) (
  kc_case (P := P) (kc_se rfl sm_no) (
  kc_case (P := P) (kc_se rfl sm_no) (
  kc_case (P := P) (kc_se c_Pa_hasBetween_9 (sm_cm_ge d_Pa_hasBetween_9 (by decide))) (
  kc_case (P := P) (kc_se rfl sm_no) (
  kc_case (P := P) (kc_se rfl sm_no) (
  kc_case (P := P) (kc_se c_Pa_hasBetween_6 (sm_get (ci := 6) (C := "DirectoryDesk$Pairs") (F := kF_Pa) rfl kin_Pa (Nat.le_of_ble_eq_true rfl) d_Pa_hasBetween_6 (kw1 126 rfl rfl))) (
  kc_case (P := P) (kc_se c_Pa_hasBetween_5 (sm_aload_n d_Pa_hasBetween_5 rfl)) (
  kc_case (P := P) (kc_se rfl sm_no) (
  kc_case (P := P) (kc_se c_Pa_hasBetween_3 (sm_iload d_Pa_hasBetween_3)) (
  kc_case (P := P) (kc_se rfl sm_no) (
  kc_case (P := P) (kc_se c_Pa_hasBetween_1 (sm_istore d_Pa_hasBetween_1 (Nat.le_of_ble_eq_true rfl))) (
  kc_case (P := P) (kc_se c_Pa_hasBetween_0 (sm_iconst d_Pa_hasBetween_0 (by decide))) (
  kc_case0))))))))))))))))))))))))))))))))))))))))))))))))))))))))))
theorem ka_nth_no_Pa_hasBetween (pc : Nat) (h : 58 ≤ pc) : ct_Pa_hasBetween pc = ka_no := ka_nth_ge _ pc (Nat.le_trans (Nat.le_of_eq (by rfl)) h)
theorem s_Pa_hasBetween (pc : Nat) : kc_Sim kt kw_A kw_N kt_cl kt_En "DirectoryDesk$Pairs" prog_6_method_3_code 7 (some .boolean) "hasBetween" none pc (ct_Pa_hasBetween pc) := (Nat.lt_or_ge pc 58).elim (s_Pa_hasBetween_58 pc) (fun h => kc_se (ka_nth_no_Pa_hasBetween pc h) sm_no)
def cl_Pa_hasOwnPartOf_0 : List kc_A := [ka_al 1 1, ka_get 5 2, ka_no, ka_no, ka_if (fun x => x ≤ 0) 31, ka_no, ka_no, ka_al 0 1, ka_al 1 1, ka_get 5 0, ka_no, ka_no, ka_ci (nI 0) 1, ka_iald, ka_al 1 1, ka_get 5 1, ka_no, ka_no, ka_ci (nI 0) 1, ka_lald, ka_cv 69 2 6 0 0, ka_no, ka_no, ka_ci (-1) 1, ka_cm (fun x y => x = y) 31, ka_no, ka_no, ka_ci (nI 1) 1, ka_goto 32, ka_no, ka_no, ka_ci (nI 0) 1, ka_rz]
def ct_Pa_hasOwnPartOf : Nat → kc_A := fun pc => ka_nth (cl_Pa_hasOwnPartOf_0) pc
set_option maxRecDepth 100000 in
theorem c_Pa_hasOwnPartOf_0 : ct_Pa_hasOwnPartOf 0 = ka_al 1 1 := rfl
theorem d_Pa_hasOwnPartOf_0 : decode prog_6_method_4_code 0 = .ok (.aload_n 1, 1) := by decide +kernel
set_option maxRecDepth 100000 in
theorem c_Pa_hasOwnPartOf_1 : ct_Pa_hasOwnPartOf 1 = ka_get 5 2 := rfl
theorem d_Pa_hasOwnPartOf_1 : decode prog_6_method_4_code 1 = .ok (.getfield 23, 3) := by decide +kernel
set_option maxRecDepth 100000 in
theorem c_Pa_hasOwnPartOf_4 : ct_Pa_hasOwnPartOf 4 = ka_if (fun x => x ≤ 0) 31 := rfl
theorem d_Pa_hasOwnPartOf_4 : decode prog_6_method_4_code 4 = .ok (.ifCond .le 27, 3) := by decide +kernel
set_option maxRecDepth 100000 in
theorem c_Pa_hasOwnPartOf_7 : ct_Pa_hasOwnPartOf 7 = ka_al 0 1 := rfl
theorem d_Pa_hasOwnPartOf_7 : decode prog_6_method_4_code 7 = .ok (.aload_n 0, 1) := by decide +kernel
set_option maxRecDepth 100000 in
theorem c_Pa_hasOwnPartOf_8 : ct_Pa_hasOwnPartOf 8 = ka_al 1 1 := rfl
theorem d_Pa_hasOwnPartOf_8 : decode prog_6_method_4_code 8 = .ok (.aload_n 1, 1) := by decide +kernel
set_option maxRecDepth 100000 in
theorem c_Pa_hasOwnPartOf_9 : ct_Pa_hasOwnPartOf 9 = ka_get 5 0 := rfl
theorem d_Pa_hasOwnPartOf_9 : decode prog_6_method_4_code 9 = .ok (.getfield 28, 3) := by decide +kernel
set_option maxRecDepth 100000 in
theorem c_Pa_hasOwnPartOf_12 : ct_Pa_hasOwnPartOf 12 = ka_ci (nI 0) 1 := rfl
theorem d_Pa_hasOwnPartOf_12 : decode prog_6_method_4_code 12 = .ok (.iconst 0, 1) := by decide +kernel
set_option maxRecDepth 100000 in
theorem c_Pa_hasOwnPartOf_13 : ct_Pa_hasOwnPartOf 13 = ka_iald := rfl
theorem d_Pa_hasOwnPartOf_13 : decode prog_6_method_4_code 13 = .ok (.iaload, 1) := by decide +kernel
set_option maxRecDepth 100000 in
theorem c_Pa_hasOwnPartOf_14 : ct_Pa_hasOwnPartOf 14 = ka_al 1 1 := rfl
theorem d_Pa_hasOwnPartOf_14 : decode prog_6_method_4_code 14 = .ok (.aload_n 1, 1) := by decide +kernel
set_option maxRecDepth 100000 in
theorem c_Pa_hasOwnPartOf_15 : ct_Pa_hasOwnPartOf 15 = ka_get 5 1 := rfl
theorem d_Pa_hasOwnPartOf_15 : decode prog_6_method_4_code 15 = .ok (.getfield 29, 3) := by decide +kernel
set_option maxRecDepth 100000 in
theorem c_Pa_hasOwnPartOf_18 : ct_Pa_hasOwnPartOf 18 = ka_ci (nI 0) 1 := rfl
theorem d_Pa_hasOwnPartOf_18 : decode prog_6_method_4_code 18 = .ok (.iconst 0, 1) := by decide +kernel
set_option maxRecDepth 100000 in
theorem c_Pa_hasOwnPartOf_19 : ct_Pa_hasOwnPartOf 19 = ka_lald := rfl
theorem d_Pa_hasOwnPartOf_19 : decode prog_6_method_4_code 19 = .ok (.laload, 1) := by decide +kernel
set_option maxRecDepth 100000 in
theorem c_Pa_hasOwnPartOf_20 : ct_Pa_hasOwnPartOf 20 = ka_cv 69 2 6 0 0 := rfl
theorem d_Pa_hasOwnPartOf_20 : decode prog_6_method_4_code 20 = .ok (.invokevirtual 30, 3) := by decide +kernel
set_option maxRecDepth 100000 in
theorem c_Pa_hasOwnPartOf_23 : ct_Pa_hasOwnPartOf 23 = ka_ci (-1) 1 := rfl
theorem d_Pa_hasOwnPartOf_23 : decode prog_6_method_4_code 23 = .ok (.iconst (-1), 1) := by decide +kernel
set_option maxRecDepth 100000 in
theorem c_Pa_hasOwnPartOf_24 : ct_Pa_hasOwnPartOf 24 = ka_cm (fun x y => x = y) 31 := rfl
theorem d_Pa_hasOwnPartOf_24 : decode prog_6_method_4_code 24 = .ok (.if_icmp .eq 7, 3) := by decide +kernel
set_option maxRecDepth 100000 in
theorem c_Pa_hasOwnPartOf_27 : ct_Pa_hasOwnPartOf 27 = ka_ci (nI 1) 1 := rfl
theorem d_Pa_hasOwnPartOf_27 : decode prog_6_method_4_code 27 = .ok (.iconst 1, 1) := by decide +kernel
set_option maxRecDepth 100000 in
theorem c_Pa_hasOwnPartOf_28 : ct_Pa_hasOwnPartOf 28 = ka_goto 32 := rfl
theorem d_Pa_hasOwnPartOf_28 : decode prog_6_method_4_code 28 = .ok (.goto 4, 3) := by decide +kernel
set_option maxRecDepth 100000 in
theorem c_Pa_hasOwnPartOf_31 : ct_Pa_hasOwnPartOf 31 = ka_ci (nI 0) 1 := rfl
theorem d_Pa_hasOwnPartOf_31 : decode prog_6_method_4_code 31 = .ok (.iconst 0, 1) := by decide +kernel
set_option maxRecDepth 100000 in
theorem c_Pa_hasOwnPartOf_32 : ct_Pa_hasOwnPartOf 32 = ka_rz := rfl
theorem d_Pa_hasOwnPartOf_32 : decode prog_6_method_4_code 32 = .ok (.ireturn, 1) := by decide +kernel
set_option maxRecDepth 100000 in
set_option maxHeartbeats 4000000 in
theorem s_Pa_hasOwnPartOf_33 : ∀ pc, pc < 33 → kc_Sim kt kw_A kw_N kt_cl kt_En "DirectoryDesk$Pairs" prog_6_method_4_code 2 (some .boolean) "hasOwnPartOf" none pc (ct_Pa_hasOwnPartOf pc) := by
  let P : Nat → Prop := fun pc => kc_Sim kt kw_A kw_N kt_cl kt_En "DirectoryDesk$Pairs" prog_6_method_4_code 2 (some .boolean) "hasOwnPartOf" none pc (ct_Pa_hasOwnPartOf pc)
  exact kc_case (P := P) (kc_se c_Pa_hasOwnPartOf_32 (sm_rz d_Pa_hasOwnPartOf_32 rfl)) (
  kc_case (P := P) (kc_se c_Pa_hasOwnPartOf_31 (sm_iconst d_Pa_hasOwnPartOf_31 (by decide))) (
  kc_case (P := P) (kc_se rfl sm_no) (
  kc_case (P := P) (kc_se rfl sm_no) (
  kc_case (P := P) (kc_se c_Pa_hasOwnPartOf_28 (sm_goto d_Pa_hasOwnPartOf_28 (by decide))) (
  kc_case (P := P) (kc_se c_Pa_hasOwnPartOf_27 (sm_iconst d_Pa_hasOwnPartOf_27 (by decide))) (
  kc_case (P := P) (kc_se rfl sm_no) (
  kc_case (P := P) (kc_se rfl sm_no) (
  kc_case (P := P) (kc_se c_Pa_hasOwnPartOf_24 (sm_cm_eq d_Pa_hasOwnPartOf_24 (by decide))) (
  kc_case (P := P) (kc_se c_Pa_hasOwnPartOf_23 (sm_iconst d_Pa_hasOwnPartOf_23 (by decide))) (
  kc_case (P := P) (kc_se rfl sm_no) (
  kc_case (P := P) (kc_se rfl sm_no) (
  kc_case (P := P) (kc_se c_Pa_hasOwnPartOf_20 (sm_cv (j := 69) rfl rfl kw_o kw_g wc_Pa_find (Nat.le_of_ble_eq_true rfl) hd_Pa_find (ci := 6) (F := kF_Pa) (N := 3) rfl (kw1 155 rfl rfl) wi_Pa_find ws_Pa_find wn_Pa_find d_Pa_hasOwnPartOf_20)) (
  kc_case (P := P) (kc_se c_Pa_hasOwnPartOf_19 (sm_lald d_Pa_hasOwnPartOf_19)) (
  kc_case (P := P) (kc_se c_Pa_hasOwnPartOf_18 (sm_iconst d_Pa_hasOwnPartOf_18 (by decide))) (
  kc_case (P := P) (kc_se rfl sm_no) (
  kc_case (P := P) (kc_se rfl sm_no) (
  kc_case (P := P) (kc_se c_Pa_hasOwnPartOf_15 (sm_get (ci := 5) (C := "DirectoryDesk$Name") (F := kF_Nm) rfl kin_Nm (Nat.le_of_ble_eq_true rfl) d_Pa_hasOwnPartOf_15 (kw1 101 rfl rfl))) (
  kc_case (P := P) (kc_se c_Pa_hasOwnPartOf_14 (sm_aload_n d_Pa_hasOwnPartOf_14 rfl)) (
  kc_case (P := P) (kc_se c_Pa_hasOwnPartOf_13 (sm_iald d_Pa_hasOwnPartOf_13)) (
  kc_case (P := P) (kc_se c_Pa_hasOwnPartOf_12 (sm_iconst d_Pa_hasOwnPartOf_12 (by decide))) (
  kc_case (P := P) (kc_se rfl sm_no) (
  kc_case (P := P) (kc_se rfl sm_no) (
  kc_case (P := P) (kc_se c_Pa_hasOwnPartOf_9 (sm_get (ci := 5) (C := "DirectoryDesk$Name") (F := kF_Nm) rfl kin_Nm (Nat.le_of_ble_eq_true rfl) d_Pa_hasOwnPartOf_9 (kw1 98 rfl rfl))) (
  kc_case (P := P) (kc_se c_Pa_hasOwnPartOf_8 (sm_aload_n d_Pa_hasOwnPartOf_8 rfl)) (
  kc_case (P := P) (kc_se c_Pa_hasOwnPartOf_7 (sm_aload_n d_Pa_hasOwnPartOf_7 rfl)) (
  kc_case (P := P) (kc_se rfl sm_no) (
  kc_case (P := P) (kc_se rfl sm_no) (
  kc_case (P := P) (kc_se c_Pa_hasOwnPartOf_4 (sm_if_le d_Pa_hasOwnPartOf_4 (by decide))) (
  kc_case (P := P) (kc_se rfl sm_no) (
  kc_case (P := P) (kc_se rfl sm_no) (
  kc_case (P := P) (kc_se c_Pa_hasOwnPartOf_1 (sm_get (ci := 5) (C := "DirectoryDesk$Name") (F := kF_Nm) rfl kin_Nm (Nat.le_of_ble_eq_true rfl) d_Pa_hasOwnPartOf_1 (kw1 105 rfl rfl))) (
  kc_case (P := P) (kc_se c_Pa_hasOwnPartOf_0 (sm_aload_n d_Pa_hasOwnPartOf_0 rfl)) (
  kc_case0)))))))))))))))))))))))))))))))))
theorem ka_nth_no_Pa_hasOwnPartOf (pc : Nat) (h : 33 ≤ pc) : ct_Pa_hasOwnPartOf pc = ka_no := ka_nth_ge _ pc (Nat.le_trans (Nat.le_of_eq (by rfl)) h)
theorem s_Pa_hasOwnPartOf (pc : Nat) : kc_Sim kt kw_A kw_N kt_cl kt_En "DirectoryDesk$Pairs" prog_6_method_4_code 2 (some .boolean) "hasOwnPartOf" none pc (ct_Pa_hasOwnPartOf pc) := (Nat.lt_or_ge pc 33).elim (s_Pa_hasOwnPartOf_33 pc) (fun h => kc_se (ka_nth_no_Pa_hasOwnPartOf pc h) sm_no)
def cl_Pa_append_0 : List kc_A := [ka_al 0 1, ka_get 6 2, ka_no, ka_no, ka_al 0 1, ka_get 6 0, ka_no, ka_no, ka_alen, ka_cm (fun x y => y ≤ x) 22, ka_no, ka_no, ka_al 0 1, ka_il 1 1, ka_ll 2 1, ka_cv 69 2 6 0 0, ka_no, ka_no, ka_ci (-1) 1, ka_cm (fun x y => x = y) 24, ka_no, ka_no, ka_ci (nI 0) 1, ka_rz, ka_al 0 1, ka_get 6 0, ka_no, ka_no, ka_al 0 1, ka_get 6 2, ka_no, ka_no, ka_il 1 1, ka_iast, ka_al 0 1, ka_get 6 1, ka_no, ka_no, ka_al 0 1, ka_get 6 2, ka_no, ka_no, ka_ll 2 1, ka_last, ka_al 0 1, ka_dup, ka_get 6 2, ka_no, ka_no, ka_ci (nI 1) 1, ka_ii (fun x y => x + y), ka_put 6 2 .int, ka_no, ka_no, ka_ci (nI 1) 1, ka_rz]
def ct_Pa_append : Nat → kc_A := fun pc => ka_nth (cl_Pa_append_0) pc
set_option maxRecDepth 100000 in
theorem c_Pa_append_0 : ct_Pa_append 0 = ka_al 0 1 := rfl
theorem d_Pa_append_0 : decode prog_6_method_5_code 0 = .ok (.aload_n 0, 1) := by decide +kernel
set_option maxRecDepth 100000 in
theorem c_Pa_append_1 : ct_Pa_append 1 = ka_get 6 2 := rfl
theorem d_Pa_append_1 : decode prog_6_method_5_code 1 = .ok (.getfield 19, 3) := by decide +kernel
set_option maxRecDepth 100000 in
theorem c_Pa_append_4 : ct_Pa_append 4 = ka_al 0 1 := rfl
theorem d_Pa_append_4 : decode prog_6_method_5_code 4 = .ok (.aload_n 0, 1) := by decide +kernel
set_option maxRecDepth 100000 in
theorem c_Pa_append_5 : ct_Pa_append 5 = ka_get 6 0 := rfl
theorem d_Pa_append_5 : decode prog_6_method_5_code 5 = .ok (.getfield 9, 3) := by decide +kernel
set_option maxRecDepth 100000 in
theorem c_Pa_append_8 : ct_Pa_append 8 = ka_alen := rfl
theorem d_Pa_append_8 : decode prog_6_method_5_code 8 = .ok (.arraylength, 1) := by decide +kernel
set_option maxRecDepth 100000 in
theorem c_Pa_append_9 : ct_Pa_append 9 = ka_cm (fun x y => y ≤ x) 22 := rfl
theorem d_Pa_append_9 : decode prog_6_method_5_code 9 = .ok (.if_icmp .ge 13, 3) := by decide +kernel
set_option maxRecDepth 100000 in
theorem c_Pa_append_12 : ct_Pa_append 12 = ka_al 0 1 := rfl
theorem d_Pa_append_12 : decode prog_6_method_5_code 12 = .ok (.aload_n 0, 1) := by decide +kernel
set_option maxRecDepth 100000 in
theorem c_Pa_append_13 : ct_Pa_append 13 = ka_il 1 1 := rfl
theorem d_Pa_append_13 : decode prog_6_method_5_code 13 = .ok (.iload_n 1, 1) := by decide +kernel
set_option maxRecDepth 100000 in
theorem c_Pa_append_14 : ct_Pa_append 14 = ka_ll 2 1 := rfl
theorem d_Pa_append_14 : decode prog_6_method_5_code 14 = .ok (.lload_n 2, 1) := by decide +kernel
set_option maxRecDepth 100000 in
theorem c_Pa_append_15 : ct_Pa_append 15 = ka_cv 69 2 6 0 0 := rfl
theorem d_Pa_append_15 : decode prog_6_method_5_code 15 = .ok (.invokevirtual 30, 3) := by decide +kernel
set_option maxRecDepth 100000 in
theorem c_Pa_append_18 : ct_Pa_append 18 = ka_ci (-1) 1 := rfl
theorem d_Pa_append_18 : decode prog_6_method_5_code 18 = .ok (.iconst (-1), 1) := by decide +kernel
set_option maxRecDepth 100000 in
theorem c_Pa_append_19 : ct_Pa_append 19 = ka_cm (fun x y => x = y) 24 := rfl
theorem d_Pa_append_19 : decode prog_6_method_5_code 19 = .ok (.if_icmp .eq 5, 3) := by decide +kernel
set_option maxRecDepth 100000 in
theorem c_Pa_append_22 : ct_Pa_append 22 = ka_ci (nI 0) 1 := rfl
theorem d_Pa_append_22 : decode prog_6_method_5_code 22 = .ok (.iconst 0, 1) := by decide +kernel
set_option maxRecDepth 100000 in
theorem c_Pa_append_23 : ct_Pa_append 23 = ka_rz := rfl
theorem d_Pa_append_23 : decode prog_6_method_5_code 23 = .ok (.ireturn, 1) := by decide +kernel
set_option maxRecDepth 100000 in
theorem c_Pa_append_24 : ct_Pa_append 24 = ka_al 0 1 := rfl
theorem d_Pa_append_24 : decode prog_6_method_5_code 24 = .ok (.aload_n 0, 1) := by decide +kernel
set_option maxRecDepth 100000 in
theorem c_Pa_append_25 : ct_Pa_append 25 = ka_get 6 0 := rfl
theorem d_Pa_append_25 : decode prog_6_method_5_code 25 = .ok (.getfield 9, 3) := by decide +kernel
set_option maxRecDepth 100000 in
theorem c_Pa_append_28 : ct_Pa_append 28 = ka_al 0 1 := rfl
theorem d_Pa_append_28 : decode prog_6_method_5_code 28 = .ok (.aload_n 0, 1) := by decide +kernel
set_option maxRecDepth 100000 in
theorem c_Pa_append_29 : ct_Pa_append 29 = ka_get 6 2 := rfl
theorem d_Pa_append_29 : decode prog_6_method_5_code 29 = .ok (.getfield 19, 3) := by decide +kernel
set_option maxRecDepth 100000 in
theorem c_Pa_append_32 : ct_Pa_append 32 = ka_il 1 1 := rfl
theorem d_Pa_append_32 : decode prog_6_method_5_code 32 = .ok (.iload_n 1, 1) := by decide +kernel
set_option maxRecDepth 100000 in
theorem c_Pa_append_33 : ct_Pa_append 33 = ka_iast := rfl
theorem d_Pa_append_33 : decode prog_6_method_5_code 33 = .ok (.iastore, 1) := by decide +kernel
set_option maxRecDepth 100000 in
theorem c_Pa_append_34 : ct_Pa_append 34 = ka_al 0 1 := rfl
theorem d_Pa_append_34 : decode prog_6_method_5_code 34 = .ok (.aload_n 0, 1) := by decide +kernel
set_option maxRecDepth 100000 in
theorem c_Pa_append_35 : ct_Pa_append 35 = ka_get 6 1 := rfl
theorem d_Pa_append_35 : decode prog_6_method_5_code 35 = .ok (.getfield 15, 3) := by decide +kernel
set_option maxRecDepth 100000 in
theorem c_Pa_append_38 : ct_Pa_append 38 = ka_al 0 1 := rfl
theorem d_Pa_append_38 : decode prog_6_method_5_code 38 = .ok (.aload_n 0, 1) := by decide +kernel
set_option maxRecDepth 100000 in
theorem c_Pa_append_39 : ct_Pa_append 39 = ka_get 6 2 := rfl
theorem d_Pa_append_39 : decode prog_6_method_5_code 39 = .ok (.getfield 19, 3) := by decide +kernel
set_option maxRecDepth 100000 in
theorem c_Pa_append_42 : ct_Pa_append 42 = ka_ll 2 1 := rfl
theorem d_Pa_append_42 : decode prog_6_method_5_code 42 = .ok (.lload_n 2, 1) := by decide +kernel
set_option maxRecDepth 100000 in
theorem c_Pa_append_43 : ct_Pa_append 43 = ka_last := rfl
theorem d_Pa_append_43 : decode prog_6_method_5_code 43 = .ok (.lastore, 1) := by decide +kernel
set_option maxRecDepth 100000 in
theorem c_Pa_append_44 : ct_Pa_append 44 = ka_al 0 1 := rfl
theorem d_Pa_append_44 : decode prog_6_method_5_code 44 = .ok (.aload_n 0, 1) := by decide +kernel
set_option maxRecDepth 100000 in
theorem c_Pa_append_45 : ct_Pa_append 45 = ka_dup := rfl
theorem d_Pa_append_45 : decode prog_6_method_5_code 45 = .ok (.dup, 1) := by decide +kernel
set_option maxRecDepth 100000 in
theorem c_Pa_append_46 : ct_Pa_append 46 = ka_get 6 2 := rfl
theorem d_Pa_append_46 : decode prog_6_method_5_code 46 = .ok (.getfield 19, 3) := by decide +kernel
set_option maxRecDepth 100000 in
theorem c_Pa_append_49 : ct_Pa_append 49 = ka_ci (nI 1) 1 := rfl
theorem d_Pa_append_49 : decode prog_6_method_5_code 49 = .ok (.iconst 1, 1) := by decide +kernel
set_option maxRecDepth 100000 in
theorem c_Pa_append_50 : ct_Pa_append 50 = ka_ii (fun x y => x + y) := rfl
theorem d_Pa_append_50 : decode prog_6_method_5_code 50 = .ok (.iadd, 1) := by decide +kernel
set_option maxRecDepth 100000 in
theorem c_Pa_append_51 : ct_Pa_append 51 = ka_put 6 2 .int := rfl
theorem d_Pa_append_51 : decode prog_6_method_5_code 51 = .ok (.putfield 19, 3) := by decide +kernel
set_option maxRecDepth 100000 in
theorem c_Pa_append_54 : ct_Pa_append 54 = ka_ci (nI 1) 1 := rfl
theorem d_Pa_append_54 : decode prog_6_method_5_code 54 = .ok (.iconst 1, 1) := by decide +kernel
set_option maxRecDepth 100000 in
theorem c_Pa_append_55 : ct_Pa_append 55 = ka_rz := rfl
theorem d_Pa_append_55 : decode prog_6_method_5_code 55 = .ok (.ireturn, 1) := by decide +kernel
set_option maxRecDepth 100000 in
set_option maxHeartbeats 4000000 in
theorem s_Pa_append_56 : ∀ pc, pc < 56 → kc_Sim kt kw_A kw_N kt_cl kt_En "DirectoryDesk$Pairs" prog_6_method_5_code 4 (some .boolean) "append" none pc (ct_Pa_append pc) := by
  let P : Nat → Prop := fun pc => kc_Sim kt kw_A kw_N kt_cl kt_En "DirectoryDesk$Pairs" prog_6_method_5_code 4 (some .boolean) "append" none pc (ct_Pa_append pc)
  exact kc_case (P := P) (kc_se c_Pa_append_55 (sm_rz d_Pa_append_55 rfl)) (
  kc_case (P := P) (kc_se c_Pa_append_54 (sm_iconst d_Pa_append_54 (by decide))) (
  kc_case (P := P) (kc_se rfl sm_no) (
  kc_case (P := P) (kc_se rfl sm_no) (
  kc_case (P := P) (kc_se c_Pa_append_51 (sm_put (ci := 6) (C := "DirectoryDesk$Pairs") (F := kF_Pa) rfl kin_Pa kty_Pa ktk_Pa knm_Pa (Nat.le_of_ble_eq_true rfl) (by decide +kernel) d_Pa_append_51 (kw1 126 rfl rfl) rfl)) (
  kc_case (P := P) (kc_se c_Pa_append_50 (sm_iadd d_Pa_append_50)) (
  kc_case (P := P) (kc_se c_Pa_append_49 (sm_iconst d_Pa_append_49 (by decide))) (
  kc_case (P := P) (kc_se rfl sm_no) (
  kc_case (P := P) (kc_se rfl sm_no) (
  kc_case (P := P) (kc_se c_Pa_append_46 (sm_get (ci := 6) (C := "DirectoryDesk$Pairs") (F := kF_Pa) rfl kin_Pa (Nat.le_of_ble_eq_true rfl) d_Pa_append_46 (kw1 126 rfl rfl))) (
  kc_case (P := P) (kc_se c_Pa_append_45 (sm_dup d_Pa_append_45)) (
  kc_case (P := P) (kc_se c_Pa_append_44 (sm_aload_n d_Pa_append_44 rfl)) (
  kc_case (P := P) (kc_se c_Pa_append_43 (sm_last d_Pa_append_43)) (
  kc_case (P := P) (kc_se c_Pa_append_42 (sm_lload_n d_Pa_append_42 rfl)) (
  kc_case (P := P) (kc_se rfl sm_no) (
  kc_case (P := P) (kc_se rfl sm_no) (
  kc_case (P := P) (kc_se c_Pa_append_39 (sm_get (ci := 6) (C := "DirectoryDesk$Pairs") (F := kF_Pa) rfl kin_Pa (Nat.le_of_ble_eq_true rfl) d_Pa_append_39 (kw1 126 rfl rfl))) (
  kc_case (P := P) (kc_se c_Pa_append_38 (sm_aload_n d_Pa_append_38 rfl)) (
  kc_case (P := P) (kc_se rfl sm_no) (
  kc_case (P := P) (kc_se rfl sm_no) (
  kc_case (P := P) (kc_se c_Pa_append_35 (sm_get (ci := 6) (C := "DirectoryDesk$Pairs") (F := kF_Pa) rfl kin_Pa (Nat.le_of_ble_eq_true rfl) d_Pa_append_35 (kw1 124 rfl rfl))) (
  kc_case (P := P) (kc_se c_Pa_append_34 (sm_aload_n d_Pa_append_34 rfl)) (
  kc_case (P := P) (kc_se c_Pa_append_33 (sm_iast d_Pa_append_33)) (
  kc_case (P := P) (kc_se c_Pa_append_32 (sm_iload_n d_Pa_append_32 rfl)) (
  kc_case (P := P) (kc_se rfl sm_no) (
  kc_case (P := P) (kc_se rfl sm_no) (
  kc_case (P := P) (kc_se c_Pa_append_29 (sm_get (ci := 6) (C := "DirectoryDesk$Pairs") (F := kF_Pa) rfl kin_Pa (Nat.le_of_ble_eq_true rfl) d_Pa_append_29 (kw1 126 rfl rfl))) (
  kc_case (P := P) (kc_se c_Pa_append_28 (sm_aload_n d_Pa_append_28 rfl)) (
  kc_case (P := P) (kc_se rfl sm_no) (
  kc_case (P := P) (kc_se rfl sm_no) (
  kc_case (P := P) (kc_se c_Pa_append_25 (sm_get (ci := 6) (C := "DirectoryDesk$Pairs") (F := kF_Pa) rfl kin_Pa (Nat.le_of_ble_eq_true rfl) d_Pa_append_25 (kw1 122 rfl rfl))) (
  kc_case (P := P) (kc_se c_Pa_append_24 (sm_aload_n d_Pa_append_24 rfl)) (
  kc_case (P := P) (kc_se c_Pa_append_23 (sm_rz d_Pa_append_23 rfl)) (
  kc_case (P := P) (kc_se c_Pa_append_22 (sm_iconst d_Pa_append_22 (by decide))) (
  kc_case (P := P) (kc_se rfl sm_no) (
  kc_case (P := P) (kc_se rfl sm_no) (
  kc_case (P := P) (kc_se c_Pa_append_19 (sm_cm_eq d_Pa_append_19 (by decide))) (
  kc_case (P := P) (kc_se c_Pa_append_18 (sm_iconst d_Pa_append_18 (by decide))) (
  kc_case (P := P) (kc_se rfl sm_no) (
  kc_case (P := P) (kc_se rfl sm_no) (
  kc_case (P := P) (kc_se c_Pa_append_15 (sm_cv (j := 69) rfl rfl kw_o kw_g wc_Pa_find (Nat.le_of_ble_eq_true rfl) hd_Pa_find (ci := 6) (F := kF_Pa) (N := 3) rfl (kw1 155 rfl rfl) wi_Pa_find ws_Pa_find wn_Pa_find d_Pa_append_15)) (
  kc_case (P := P) (kc_se c_Pa_append_14 (sm_lload_n d_Pa_append_14 rfl)) (
  kc_case (P := P) (kc_se c_Pa_append_13 (sm_iload_n d_Pa_append_13 rfl)) (
  kc_case (P := P) (kc_se c_Pa_append_12 (sm_aload_n d_Pa_append_12 rfl)) (
  kc_case (P := P) (kc_se rfl sm_no) (
  kc_case (P := P) (kc_se rfl sm_no) (
  kc_case (P := P) (kc_se c_Pa_append_9 (sm_cm_ge d_Pa_append_9 (by decide))) (
  kc_case (P := P) (kc_se c_Pa_append_8 (sm_alen d_Pa_append_8)) (
  kc_case (P := P) (kc_se rfl sm_no) (
  kc_case (P := P) (kc_se rfl sm_no) (
  kc_case (P := P) (kc_se c_Pa_append_5 (sm_get (ci := 6) (C := "DirectoryDesk$Pairs") (F := kF_Pa) rfl kin_Pa (Nat.le_of_ble_eq_true rfl) d_Pa_append_5 (kw1 122 rfl rfl))) (
  kc_case (P := P) (kc_se c_Pa_append_4 (sm_aload_n d_Pa_append_4 rfl)) (
  kc_case (P := P) (kc_se rfl sm_no) (
  kc_case (P := P) (kc_se rfl sm_no) (
  kc_case (P := P) (kc_se c_Pa_append_1 (sm_get (ci := 6) (C := "DirectoryDesk$Pairs") (F := kF_Pa) rfl kin_Pa (Nat.le_of_ble_eq_true rfl) d_Pa_append_1 (kw1 126 rfl rfl))) (
  kc_case (P := P) (kc_se c_Pa_append_0 (sm_aload_n d_Pa_append_0 rfl)) (
  kc_case0))))))))))))))))))))))))))))))))))))))))))))))))))))))))
theorem ka_nth_no_Pa_append (pc : Nat) (h : 56 ≤ pc) : ct_Pa_append pc = ka_no := ka_nth_ge _ pc (Nat.le_trans (Nat.le_of_eq (by rfl)) h)
theorem s_Pa_append (pc : Nat) : kc_Sim kt kw_A kw_N kt_cl kt_En "DirectoryDesk$Pairs" prog_6_method_5_code 4 (some .boolean) "append" none pc (ct_Pa_append pc) := (Nat.lt_or_ge pc 56).elim (s_Pa_append_56 pc) (fun h => kc_se (ka_nth_no_Pa_append pc h) sm_no)
def cl_Pa_remove_0 : List kc_A := [ka_al 0 1, ka_il 1 1, ka_ll 2 1, ka_ll 2 1, ka_cv 74 3 6 0 0, ka_no, ka_no, ka_rz]
def ct_Pa_remove : Nat → kc_A := fun pc => ka_nth (cl_Pa_remove_0) pc
set_option maxRecDepth 100000 in
theorem c_Pa_remove_0 : ct_Pa_remove 0 = ka_al 0 1 := rfl
theorem d_Pa_remove_0 : decode prog_6_method_6_code 0 = .ok (.aload_n 0, 1) := by decide +kernel
set_option maxRecDepth 100000 in
theorem c_Pa_remove_1 : ct_Pa_remove 1 = ka_il 1 1 := rfl
theorem d_Pa_remove_1 : decode prog_6_method_6_code 1 = .ok (.iload_n 1, 1) := by decide +kernel
set_option maxRecDepth 100000 in
theorem c_Pa_remove_2 : ct_Pa_remove 2 = ka_ll 2 1 := rfl
theorem d_Pa_remove_2 : decode prog_6_method_6_code 2 = .ok (.lload_n 2, 1) := by decide +kernel
set_option maxRecDepth 100000 in
theorem c_Pa_remove_3 : ct_Pa_remove 3 = ka_ll 2 1 := rfl
theorem d_Pa_remove_3 : decode prog_6_method_6_code 3 = .ok (.lload_n 2, 1) := by decide +kernel
set_option maxRecDepth 100000 in
theorem c_Pa_remove_4 : ct_Pa_remove 4 = ka_cv 74 3 6 0 0 := rfl
theorem d_Pa_remove_4 : decode prog_6_method_6_code 4 = .ok (.invokevirtual 34, 3) := by decide +kernel
set_option maxRecDepth 100000 in
theorem c_Pa_remove_7 : ct_Pa_remove 7 = ka_rz := rfl
theorem d_Pa_remove_7 : decode prog_6_method_6_code 7 = .ok (.ireturn, 1) := by decide +kernel
set_option maxRecDepth 100000 in
set_option maxHeartbeats 4000000 in
theorem s_Pa_remove_8 : ∀ pc, pc < 8 → kc_Sim kt kw_A kw_N kt_cl kt_En "DirectoryDesk$Pairs" prog_6_method_6_code 4 (some .boolean) "remove" none pc (ct_Pa_remove pc) := by
  let P : Nat → Prop := fun pc => kc_Sim kt kw_A kw_N kt_cl kt_En "DirectoryDesk$Pairs" prog_6_method_6_code 4 (some .boolean) "remove" none pc (ct_Pa_remove pc)
  exact kc_case (P := P) (kc_se c_Pa_remove_7 (sm_rz d_Pa_remove_7 rfl)) (
  kc_case (P := P) (kc_se rfl sm_no) (
  kc_case (P := P) (kc_se rfl sm_no) (
  kc_case (P := P) (kc_se c_Pa_remove_4 (sm_cv (j := 74) rfl rfl kw_o kw_g wc_Pa_removeBetween (Nat.le_of_ble_eq_true rfl) hd_Pa_removeBetween (ci := 6) (F := kF_Pa) (N := 3) rfl (kw3 95 rfl rfl) wi_Pa_removeBetween ws_Pa_removeBetween wn_Pa_removeBetween d_Pa_remove_4)) (
  kc_case (P := P) (kc_se c_Pa_remove_3 (sm_lload_n d_Pa_remove_3 rfl)) (
  kc_case (P := P) (kc_se c_Pa_remove_2 (sm_lload_n d_Pa_remove_2 rfl)) (
  kc_case (P := P) (kc_se c_Pa_remove_1 (sm_iload_n d_Pa_remove_1 rfl)) (
  kc_case (P := P) (kc_se c_Pa_remove_0 (sm_aload_n d_Pa_remove_0 rfl)) (
  kc_case0))))))))
theorem ka_nth_no_Pa_remove (pc : Nat) (h : 8 ≤ pc) : ct_Pa_remove pc = ka_no := ka_nth_ge _ pc (Nat.le_trans (Nat.le_of_eq (by rfl)) h)
theorem s_Pa_remove (pc : Nat) : kc_Sim kt kw_A kw_N kt_cl kt_En "DirectoryDesk$Pairs" prog_6_method_6_code 4 (some .boolean) "remove" none pc (ct_Pa_remove pc) := (Nat.lt_or_ge pc 8).elim (s_Pa_remove_8 pc) (fun h => kc_se (ka_nth_no_Pa_remove pc h) sm_no)
def cl_Pa_removeBetween_0 : List kc_A := [ka_ci (nI 0) 1, ka_is 6 2, ka_no, ka_ci (nI 0) 1, ka_is 7 2, ka_no, ka_il 7 2, ka_no, ka_al 0 1, ka_get 6 2, ka_no, ka_no, ka_cm (fun x y => y ≤ x) 88, ka_no, ka_no, ka_al 0 1, ka_get 6 0, ka_no, ka_no, ka_il 7 2, ka_no, ka_iald, ka_il 1 1, ka_cm (fun x y => ¬ x = y) 51, ka_no, ka_no, ka_al 0 1, ka_get 6 1, ka_no, ka_no, ka_il 7 2, ka_no, ka_lald, ka_ll 2 1, ka_lcmp, ka_if (fun x => x < 0) 51, ka_no, ka_no, ka_al 0 1, ka_get 6 1, ka_no, ka_no, ka_il 7 2, ka_no, ka_lald, ka_ll 4 2, ka_no, ka_lcmp, ka_if (fun x => x ≤ 0) 82, ka_no, ka_no, ka_al 0 1, ka_get 6 0, ka_no, ka_no, ka_il 6 2, ka_no, ka_al 0 1, ka_get 6 0, ka_no]
def cl_Pa_removeBetween_1 : List kc_A := [ka_no, ka_il 7 2, ka_no, ka_iald, ka_iast, ka_al 0 1, ka_get 6 1, ka_no, ka_no, ka_il 6 2, ka_no, ka_al 0 1, ka_get 6 1, ka_no, ka_no, ka_il 7 2, ka_no, ka_lald, ka_last, ka_inc 6 (nI 1), ka_no, ka_no, ka_inc 7 (nI 1), ka_no, ka_no, ka_goto 6, ka_no, ka_no, ka_il 6 2, ka_no, ka_al 0 1, ka_get 6 2, ka_no, ka_no, ka_cm (fun x y => y ≤ x) 101, ka_no, ka_no, ka_ci (nI 1) 1, ka_goto 102, ka_no, ka_no, ka_ci (nI 0) 1, ka_is 7 2, ka_no, ka_al 0 1, ka_il 6 2, ka_no, ka_put 6 2 .int, ka_no, ka_no, ka_il 7 2, ka_no, ka_rz]
def ct_Pa_removeBetween : Nat → kc_A := fun pc => ka_nth (cl_Pa_removeBetween_0 ++ (cl_Pa_removeBetween_1)) pc
set_option maxRecDepth 100000 in
theorem c_Pa_removeBetween_0 : ct_Pa_removeBetween 0 = ka_ci (nI 0) 1 := rfl
theorem d_Pa_removeBetween_0 : decode prog_6_method_7_code 0 = .ok (.iconst 0, 1) := by decide +kernel
set_option maxRecDepth 100000 in
theorem c_Pa_removeBetween_1 : ct_Pa_removeBetween 1 = ka_is 6 2 := rfl
theorem d_Pa_removeBetween_1 : decode prog_6_method_7_code 1 = .ok (.istore 6, 2) := by decide +kernel
set_option maxRecDepth 100000 in
theorem c_Pa_removeBetween_3 : ct_Pa_removeBetween 3 = ka_ci (nI 0) 1 := rfl
theorem d_Pa_removeBetween_3 : decode prog_6_method_7_code 3 = .ok (.iconst 0, 1) := by decide +kernel
set_option maxRecDepth 100000 in
theorem c_Pa_removeBetween_4 : ct_Pa_removeBetween 4 = ka_is 7 2 := rfl
theorem d_Pa_removeBetween_4 : decode prog_6_method_7_code 4 = .ok (.istore 7, 2) := by decide +kernel
set_option maxRecDepth 100000 in
theorem c_Pa_removeBetween_6 : ct_Pa_removeBetween 6 = ka_il 7 2 := rfl
theorem d_Pa_removeBetween_6 : decode prog_6_method_7_code 6 = .ok (.iload 7, 2) := by decide +kernel
set_option maxRecDepth 100000 in
theorem c_Pa_removeBetween_8 : ct_Pa_removeBetween 8 = ka_al 0 1 := rfl
theorem d_Pa_removeBetween_8 : decode prog_6_method_7_code 8 = .ok (.aload_n 0, 1) := by decide +kernel
set_option maxRecDepth 100000 in
theorem c_Pa_removeBetween_9 : ct_Pa_removeBetween 9 = ka_get 6 2 := rfl
theorem d_Pa_removeBetween_9 : decode prog_6_method_7_code 9 = .ok (.getfield 19, 3) := by decide +kernel
set_option maxRecDepth 100000 in
theorem c_Pa_removeBetween_12 : ct_Pa_removeBetween 12 = ka_cm (fun x y => y ≤ x) 88 := rfl
theorem d_Pa_removeBetween_12 : decode prog_6_method_7_code 12 = .ok (.if_icmp .ge 76, 3) := by decide +kernel
set_option maxRecDepth 100000 in
theorem c_Pa_removeBetween_15 : ct_Pa_removeBetween 15 = ka_al 0 1 := rfl
theorem d_Pa_removeBetween_15 : decode prog_6_method_7_code 15 = .ok (.aload_n 0, 1) := by decide +kernel
set_option maxRecDepth 100000 in
theorem c_Pa_removeBetween_16 : ct_Pa_removeBetween 16 = ka_get 6 0 := rfl
theorem d_Pa_removeBetween_16 : decode prog_6_method_7_code 16 = .ok (.getfield 9, 3) := by decide +kernel
set_option maxRecDepth 100000 in
theorem c_Pa_removeBetween_19 : ct_Pa_removeBetween 19 = ka_il 7 2 := rfl
theorem d_Pa_removeBetween_19 : decode prog_6_method_7_code 19 = .ok (.iload 7, 2) := by decide +kernel
set_option maxRecDepth 100000 in
theorem c_Pa_removeBetween_21 : ct_Pa_removeBetween 21 = ka_iald := rfl
theorem d_Pa_removeBetween_21 : decode prog_6_method_7_code 21 = .ok (.iaload, 1) := by decide +kernel
set_option maxRecDepth 100000 in
theorem c_Pa_removeBetween_22 : ct_Pa_removeBetween 22 = ka_il 1 1 := rfl
theorem d_Pa_removeBetween_22 : decode prog_6_method_7_code 22 = .ok (.iload_n 1, 1) := by decide +kernel
set_option maxRecDepth 100000 in
theorem c_Pa_removeBetween_23 : ct_Pa_removeBetween 23 = ka_cm (fun x y => ¬ x = y) 51 := rfl
theorem d_Pa_removeBetween_23 : decode prog_6_method_7_code 23 = .ok (.if_icmp .ne 28, 3) := by decide +kernel
set_option maxRecDepth 100000 in
theorem c_Pa_removeBetween_26 : ct_Pa_removeBetween 26 = ka_al 0 1 := rfl
theorem d_Pa_removeBetween_26 : decode prog_6_method_7_code 26 = .ok (.aload_n 0, 1) := by decide +kernel
set_option maxRecDepth 100000 in
theorem c_Pa_removeBetween_27 : ct_Pa_removeBetween 27 = ka_get 6 1 := rfl
theorem d_Pa_removeBetween_27 : decode prog_6_method_7_code 27 = .ok (.getfield 15, 3) := by decide +kernel
set_option maxRecDepth 100000 in
theorem c_Pa_removeBetween_30 : ct_Pa_removeBetween 30 = ka_il 7 2 := rfl
theorem d_Pa_removeBetween_30 : decode prog_6_method_7_code 30 = .ok (.iload 7, 2) := by decide +kernel
set_option maxRecDepth 100000 in
theorem c_Pa_removeBetween_32 : ct_Pa_removeBetween 32 = ka_lald := rfl
theorem d_Pa_removeBetween_32 : decode prog_6_method_7_code 32 = .ok (.laload, 1) := by decide +kernel
set_option maxRecDepth 100000 in
theorem c_Pa_removeBetween_33 : ct_Pa_removeBetween 33 = ka_ll 2 1 := rfl
theorem d_Pa_removeBetween_33 : decode prog_6_method_7_code 33 = .ok (.lload_n 2, 1) := by decide +kernel
set_option maxRecDepth 100000 in
theorem c_Pa_removeBetween_34 : ct_Pa_removeBetween 34 = ka_lcmp := rfl
theorem d_Pa_removeBetween_34 : decode prog_6_method_7_code 34 = .ok (.lcmp, 1) := by decide +kernel
set_option maxRecDepth 100000 in
theorem c_Pa_removeBetween_35 : ct_Pa_removeBetween 35 = ka_if (fun x => x < 0) 51 := rfl
theorem d_Pa_removeBetween_35 : decode prog_6_method_7_code 35 = .ok (.ifCond .lt 16, 3) := by decide +kernel
set_option maxRecDepth 100000 in
theorem c_Pa_removeBetween_38 : ct_Pa_removeBetween 38 = ka_al 0 1 := rfl
theorem d_Pa_removeBetween_38 : decode prog_6_method_7_code 38 = .ok (.aload_n 0, 1) := by decide +kernel
set_option maxRecDepth 100000 in
theorem c_Pa_removeBetween_39 : ct_Pa_removeBetween 39 = ka_get 6 1 := rfl
theorem d_Pa_removeBetween_39 : decode prog_6_method_7_code 39 = .ok (.getfield 15, 3) := by decide +kernel
set_option maxRecDepth 100000 in
theorem c_Pa_removeBetween_42 : ct_Pa_removeBetween 42 = ka_il 7 2 := rfl
theorem d_Pa_removeBetween_42 : decode prog_6_method_7_code 42 = .ok (.iload 7, 2) := by decide +kernel
set_option maxRecDepth 100000 in
theorem c_Pa_removeBetween_44 : ct_Pa_removeBetween 44 = ka_lald := rfl
theorem d_Pa_removeBetween_44 : decode prog_6_method_7_code 44 = .ok (.laload, 1) := by decide +kernel
set_option maxRecDepth 100000 in
theorem c_Pa_removeBetween_45 : ct_Pa_removeBetween 45 = ka_ll 4 2 := rfl
theorem d_Pa_removeBetween_45 : decode prog_6_method_7_code 45 = .ok (.lload 4, 2) := by decide +kernel
set_option maxRecDepth 100000 in
theorem c_Pa_removeBetween_47 : ct_Pa_removeBetween 47 = ka_lcmp := rfl
theorem d_Pa_removeBetween_47 : decode prog_6_method_7_code 47 = .ok (.lcmp, 1) := by decide +kernel
set_option maxRecDepth 100000 in
theorem c_Pa_removeBetween_48 : ct_Pa_removeBetween 48 = ka_if (fun x => x ≤ 0) 82 := rfl
theorem d_Pa_removeBetween_48 : decode prog_6_method_7_code 48 = .ok (.ifCond .le 34, 3) := by decide +kernel
set_option maxRecDepth 100000 in
theorem c_Pa_removeBetween_51 : ct_Pa_removeBetween 51 = ka_al 0 1 := rfl
theorem d_Pa_removeBetween_51 : decode prog_6_method_7_code 51 = .ok (.aload_n 0, 1) := by decide +kernel
set_option maxRecDepth 100000 in
theorem c_Pa_removeBetween_52 : ct_Pa_removeBetween 52 = ka_get 6 0 := rfl
theorem d_Pa_removeBetween_52 : decode prog_6_method_7_code 52 = .ok (.getfield 9, 3) := by decide +kernel
set_option maxRecDepth 100000 in
theorem c_Pa_removeBetween_55 : ct_Pa_removeBetween 55 = ka_il 6 2 := rfl
theorem d_Pa_removeBetween_55 : decode prog_6_method_7_code 55 = .ok (.iload 6, 2) := by decide +kernel
set_option maxRecDepth 100000 in
theorem c_Pa_removeBetween_57 : ct_Pa_removeBetween 57 = ka_al 0 1 := rfl
theorem d_Pa_removeBetween_57 : decode prog_6_method_7_code 57 = .ok (.aload_n 0, 1) := by decide +kernel
set_option maxRecDepth 100000 in
theorem c_Pa_removeBetween_58 : ct_Pa_removeBetween 58 = ka_get 6 0 := rfl
theorem d_Pa_removeBetween_58 : decode prog_6_method_7_code 58 = .ok (.getfield 9, 3) := by decide +kernel
set_option maxRecDepth 100000 in
theorem c_Pa_removeBetween_61 : ct_Pa_removeBetween 61 = ka_il 7 2 := rfl
theorem d_Pa_removeBetween_61 : decode prog_6_method_7_code 61 = .ok (.iload 7, 2) := by decide +kernel
set_option maxRecDepth 100000 in
theorem c_Pa_removeBetween_63 : ct_Pa_removeBetween 63 = ka_iald := rfl
theorem d_Pa_removeBetween_63 : decode prog_6_method_7_code 63 = .ok (.iaload, 1) := by decide +kernel
set_option maxRecDepth 100000 in
theorem c_Pa_removeBetween_64 : ct_Pa_removeBetween 64 = ka_iast := rfl
theorem d_Pa_removeBetween_64 : decode prog_6_method_7_code 64 = .ok (.iastore, 1) := by decide +kernel
set_option maxRecDepth 100000 in
theorem c_Pa_removeBetween_65 : ct_Pa_removeBetween 65 = ka_al 0 1 := rfl
theorem d_Pa_removeBetween_65 : decode prog_6_method_7_code 65 = .ok (.aload_n 0, 1) := by decide +kernel
set_option maxRecDepth 100000 in
theorem c_Pa_removeBetween_66 : ct_Pa_removeBetween 66 = ka_get 6 1 := rfl
theorem d_Pa_removeBetween_66 : decode prog_6_method_7_code 66 = .ok (.getfield 15, 3) := by decide +kernel
set_option maxRecDepth 100000 in
theorem c_Pa_removeBetween_69 : ct_Pa_removeBetween 69 = ka_il 6 2 := rfl
theorem d_Pa_removeBetween_69 : decode prog_6_method_7_code 69 = .ok (.iload 6, 2) := by decide +kernel
set_option maxRecDepth 100000 in
theorem c_Pa_removeBetween_71 : ct_Pa_removeBetween 71 = ka_al 0 1 := rfl
theorem d_Pa_removeBetween_71 : decode prog_6_method_7_code 71 = .ok (.aload_n 0, 1) := by decide +kernel
set_option maxRecDepth 100000 in
theorem c_Pa_removeBetween_72 : ct_Pa_removeBetween 72 = ka_get 6 1 := rfl
theorem d_Pa_removeBetween_72 : decode prog_6_method_7_code 72 = .ok (.getfield 15, 3) := by decide +kernel
set_option maxRecDepth 100000 in
theorem c_Pa_removeBetween_75 : ct_Pa_removeBetween 75 = ka_il 7 2 := rfl
theorem d_Pa_removeBetween_75 : decode prog_6_method_7_code 75 = .ok (.iload 7, 2) := by decide +kernel
set_option maxRecDepth 100000 in
theorem c_Pa_removeBetween_77 : ct_Pa_removeBetween 77 = ka_lald := rfl
theorem d_Pa_removeBetween_77 : decode prog_6_method_7_code 77 = .ok (.laload, 1) := by decide +kernel
set_option maxRecDepth 100000 in
theorem c_Pa_removeBetween_78 : ct_Pa_removeBetween 78 = ka_last := rfl
theorem d_Pa_removeBetween_78 : decode prog_6_method_7_code 78 = .ok (.lastore, 1) := by decide +kernel
set_option maxRecDepth 100000 in
theorem c_Pa_removeBetween_79 : ct_Pa_removeBetween 79 = ka_inc 6 (nI 1) := rfl
theorem d_Pa_removeBetween_79 : decode prog_6_method_7_code 79 = .ok (.iinc 6 1, 3) := by decide +kernel
set_option maxRecDepth 100000 in
theorem c_Pa_removeBetween_82 : ct_Pa_removeBetween 82 = ka_inc 7 (nI 1) := rfl
theorem d_Pa_removeBetween_82 : decode prog_6_method_7_code 82 = .ok (.iinc 7 1, 3) := by decide +kernel
set_option maxRecDepth 100000 in
theorem c_Pa_removeBetween_85 : ct_Pa_removeBetween 85 = ka_goto 6 := rfl
theorem d_Pa_removeBetween_85 : decode prog_6_method_7_code 85 = .ok (.goto (-79), 3) := by decide +kernel
set_option maxRecDepth 100000 in
theorem c_Pa_removeBetween_88 : ct_Pa_removeBetween 88 = ka_il 6 2 := rfl
theorem d_Pa_removeBetween_88 : decode prog_6_method_7_code 88 = .ok (.iload 6, 2) := by decide +kernel
set_option maxRecDepth 100000 in
theorem c_Pa_removeBetween_90 : ct_Pa_removeBetween 90 = ka_al 0 1 := rfl
theorem d_Pa_removeBetween_90 : decode prog_6_method_7_code 90 = .ok (.aload_n 0, 1) := by decide +kernel
set_option maxRecDepth 100000 in
theorem c_Pa_removeBetween_91 : ct_Pa_removeBetween 91 = ka_get 6 2 := rfl
theorem d_Pa_removeBetween_91 : decode prog_6_method_7_code 91 = .ok (.getfield 19, 3) := by decide +kernel
set_option maxRecDepth 100000 in
theorem c_Pa_removeBetween_94 : ct_Pa_removeBetween 94 = ka_cm (fun x y => y ≤ x) 101 := rfl
theorem d_Pa_removeBetween_94 : decode prog_6_method_7_code 94 = .ok (.if_icmp .ge 7, 3) := by decide +kernel
set_option maxRecDepth 100000 in
theorem c_Pa_removeBetween_97 : ct_Pa_removeBetween 97 = ka_ci (nI 1) 1 := rfl
theorem d_Pa_removeBetween_97 : decode prog_6_method_7_code 97 = .ok (.iconst 1, 1) := by decide +kernel
set_option maxRecDepth 100000 in
theorem c_Pa_removeBetween_98 : ct_Pa_removeBetween 98 = ka_goto 102 := rfl
theorem d_Pa_removeBetween_98 : decode prog_6_method_7_code 98 = .ok (.goto 4, 3) := by decide +kernel
set_option maxRecDepth 100000 in
theorem c_Pa_removeBetween_101 : ct_Pa_removeBetween 101 = ka_ci (nI 0) 1 := rfl
theorem d_Pa_removeBetween_101 : decode prog_6_method_7_code 101 = .ok (.iconst 0, 1) := by decide +kernel
set_option maxRecDepth 100000 in
theorem c_Pa_removeBetween_102 : ct_Pa_removeBetween 102 = ka_is 7 2 := rfl
theorem d_Pa_removeBetween_102 : decode prog_6_method_7_code 102 = .ok (.istore 7, 2) := by decide +kernel
set_option maxRecDepth 100000 in
theorem c_Pa_removeBetween_104 : ct_Pa_removeBetween 104 = ka_al 0 1 := rfl
theorem d_Pa_removeBetween_104 : decode prog_6_method_7_code 104 = .ok (.aload_n 0, 1) := by decide +kernel
set_option maxRecDepth 100000 in
theorem c_Pa_removeBetween_105 : ct_Pa_removeBetween 105 = ka_il 6 2 := rfl
theorem d_Pa_removeBetween_105 : decode prog_6_method_7_code 105 = .ok (.iload 6, 2) := by decide +kernel
set_option maxRecDepth 100000 in
theorem c_Pa_removeBetween_107 : ct_Pa_removeBetween 107 = ka_put 6 2 .int := rfl
theorem d_Pa_removeBetween_107 : decode prog_6_method_7_code 107 = .ok (.putfield 19, 3) := by decide +kernel
set_option maxRecDepth 100000 in
theorem c_Pa_removeBetween_110 : ct_Pa_removeBetween 110 = ka_il 7 2 := rfl
theorem d_Pa_removeBetween_110 : decode prog_6_method_7_code 110 = .ok (.iload 7, 2) := by decide +kernel
set_option maxRecDepth 100000 in
theorem c_Pa_removeBetween_112 : ct_Pa_removeBetween 112 = ka_rz := rfl
theorem d_Pa_removeBetween_112 : decode prog_6_method_7_code 112 = .ok (.ireturn, 1) := by decide +kernel
set_option maxRecDepth 100000 in
set_option maxHeartbeats 4000000 in
theorem s_Pa_removeBetween_60 : ∀ pc, pc < 60 → kc_Sim kt kw_A kw_N kt_cl kt_En "DirectoryDesk$Pairs" prog_6_method_7_code 8 (some .boolean) "removeBetween" none pc (ct_Pa_removeBetween pc) := by
  let P : Nat → Prop := fun pc => kc_Sim kt kw_A kw_N kt_cl kt_En "DirectoryDesk$Pairs" prog_6_method_7_code 8 (some .boolean) "removeBetween" none pc (ct_Pa_removeBetween pc)
  exact kc_case (P := P) (kc_se rfl sm_no) (
  kc_case (P := P) (kc_se c_Pa_removeBetween_58 (sm_get (ci := 6) (C := "DirectoryDesk$Pairs") (F := kF_Pa) rfl kin_Pa (Nat.le_of_ble_eq_true rfl) d_Pa_removeBetween_58 (kw1 122 rfl rfl))) (
  kc_case (P := P) (kc_se c_Pa_removeBetween_57 (sm_aload_n d_Pa_removeBetween_57 rfl)) (
  kc_case (P := P) (kc_se rfl sm_no) (
  kc_case (P := P) (kc_se c_Pa_removeBetween_55 (sm_iload d_Pa_removeBetween_55)) (
  kc_case (P := P) (kc_se rfl sm_no) (
  kc_case (P := P) (kc_se rfl sm_no) (
  kc_case (P := P) (kc_se c_Pa_removeBetween_52 (sm_get (ci := 6) (C := "DirectoryDesk$Pairs") (F := kF_Pa) rfl kin_Pa (Nat.le_of_ble_eq_true rfl) d_Pa_removeBetween_52 (kw1 122 rfl rfl))) (
  kc_case (P := P) (kc_se c_Pa_removeBetween_51 (sm_aload_n d_Pa_removeBetween_51 rfl)) (
  kc_case (P := P) (kc_se rfl sm_no) (
  kc_case (P := P) (kc_se rfl sm_no) (
  kc_case (P := P) (kc_se c_Pa_removeBetween_48 (sm_if_le d_Pa_removeBetween_48 (by decide))) (
  kc_case (P := P) (kc_se c_Pa_removeBetween_47 (sm_lcmp d_Pa_removeBetween_47)) (
  kc_case (P := P) (kc_se rfl sm_no) (
  kc_case (P := P) (kc_se c_Pa_removeBetween_45 (sm_lload d_Pa_removeBetween_45)) (
  kc_case (P := P) (kc_se c_Pa_removeBetween_44 (sm_lald d_Pa_removeBetween_44)) (
  kc_case (P := P) (kc_se rfl sm_no) (
  kc_case (P := P) (kc_se c_Pa_removeBetween_42 (sm_iload d_Pa_removeBetween_42)) (
  kc_case (P := P) (kc_se rfl sm_no) (
  kc_case (P := P) (kc_se rfl sm_no) (
  kc_case (P := P) (kc_se c_Pa_removeBetween_39 (sm_get (ci := 6) (C := "DirectoryDesk$Pairs") (F := kF_Pa) rfl kin_Pa (Nat.le_of_ble_eq_true rfl) d_Pa_removeBetween_39 (kw1 124 rfl rfl))) (
  kc_case (P := P) (kc_se c_Pa_removeBetween_38 (sm_aload_n d_Pa_removeBetween_38 rfl)) (
  kc_case (P := P) (kc_se rfl sm_no) (
  kc_case (P := P) (kc_se rfl sm_no) (
  kc_case (P := P) (kc_se c_Pa_removeBetween_35 (sm_if_lt d_Pa_removeBetween_35 (by decide))) (
  kc_case (P := P) (kc_se c_Pa_removeBetween_34 (sm_lcmp d_Pa_removeBetween_34)) (
  kc_case (P := P) (kc_se c_Pa_removeBetween_33 (sm_lload_n d_Pa_removeBetween_33 rfl)) (
  kc_case (P := P) (kc_se c_Pa_removeBetween_32 (sm_lald d_Pa_removeBetween_32)) (
  kc_case (P := P) (kc_se rfl sm_no) (
  kc_case (P := P) (kc_se c_Pa_removeBetween_30 (sm_iload d_Pa_removeBetween_30)) (
  kc_case (P := P) (kc_se rfl sm_no) (
  kc_case (P := P) (kc_se rfl sm_no) (
  kc_case (P := P) (kc_se c_Pa_removeBetween_27 (sm_get (ci := 6) (C := "DirectoryDesk$Pairs") (F := kF_Pa) rfl kin_Pa (Nat.le_of_ble_eq_true rfl) d_Pa_removeBetween_27 (kw1 124 rfl rfl))) (
  kc_case (P := P) (kc_se c_Pa_removeBetween_26 (sm_aload_n d_Pa_removeBetween_26 rfl)) (
  kc_case (P := P) (kc_se rfl sm_no) (
  kc_case (P := P) (kc_se rfl sm_no) (
  kc_case (P := P) (kc_se c_Pa_removeBetween_23 (sm_cm_ne d_Pa_removeBetween_23 (by decide))) (
  kc_case (P := P) (kc_se c_Pa_removeBetween_22 (sm_iload_n d_Pa_removeBetween_22 rfl)) (
  kc_case (P := P) (kc_se c_Pa_removeBetween_21 (sm_iald d_Pa_removeBetween_21)) (
  kc_case (P := P) (kc_se rfl sm_no) (
  kc_case (P := P) (kc_se c_Pa_removeBetween_19 (sm_iload d_Pa_removeBetween_19)) (
  kc_case (P := P) (kc_se rfl sm_no) (
  kc_case (P := P) (kc_se rfl sm_no) (
  kc_case (P := P) (kc_se c_Pa_removeBetween_16 (sm_get (ci := 6) (C := "DirectoryDesk$Pairs") (F := kF_Pa) rfl kin_Pa (Nat.le_of_ble_eq_true rfl) d_Pa_removeBetween_16 (kw1 122 rfl rfl))) (
  kc_case (P := P) (kc_se c_Pa_removeBetween_15 (sm_aload_n d_Pa_removeBetween_15 rfl)) (
  kc_case (P := P) (kc_se rfl sm_no) (
  kc_case (P := P) (kc_se rfl sm_no) (
  kc_case (P := P) (kc_se c_Pa_removeBetween_12 (sm_cm_ge d_Pa_removeBetween_12 (by decide))) (
  kc_case (P := P) (kc_se rfl sm_no) (
  kc_case (P := P) (kc_se rfl sm_no) (
  kc_case (P := P) (kc_se c_Pa_removeBetween_9 (sm_get (ci := 6) (C := "DirectoryDesk$Pairs") (F := kF_Pa) rfl kin_Pa (Nat.le_of_ble_eq_true rfl) d_Pa_removeBetween_9 (kw1 126 rfl rfl))) (
  kc_case (P := P) (kc_se c_Pa_removeBetween_8 (sm_aload_n d_Pa_removeBetween_8 rfl)) (
  kc_case (P := P) (kc_se rfl sm_no) (
  kc_case (P := P) (kc_se c_Pa_removeBetween_6 (sm_iload d_Pa_removeBetween_6)) (
  kc_case (P := P) (kc_se rfl sm_no) (
  kc_case (P := P) (kc_se c_Pa_removeBetween_4 (sm_istore d_Pa_removeBetween_4 (Nat.le_of_ble_eq_true rfl))) (
  kc_case (P := P) (kc_se c_Pa_removeBetween_3 (sm_iconst d_Pa_removeBetween_3 (by decide))) (
  kc_case (P := P) (kc_se rfl sm_no) (
  kc_case (P := P) (kc_se c_Pa_removeBetween_1 (sm_istore d_Pa_removeBetween_1 (Nat.le_of_ble_eq_true rfl))) (
  kc_case (P := P) (kc_se c_Pa_removeBetween_0 (sm_iconst d_Pa_removeBetween_0 (by decide))) (
  kc_case0))))))))))))))))))))))))))))))))))))))))))))))))))))))))))))
set_option maxRecDepth 100000 in
set_option maxHeartbeats 4000000 in
theorem s_Pa_removeBetween_113 : ∀ pc, pc < 113 → kc_Sim kt kw_A kw_N kt_cl kt_En "DirectoryDesk$Pairs" prog_6_method_7_code 8 (some .boolean) "removeBetween" none pc (ct_Pa_removeBetween pc) := by
  let P : Nat → Prop := fun pc => kc_Sim kt kw_A kw_N kt_cl kt_En "DirectoryDesk$Pairs" prog_6_method_7_code 8 (some .boolean) "removeBetween" none pc (ct_Pa_removeBetween pc)
  exact kc_case (P := P) (kc_se c_Pa_removeBetween_112 (sm_rz d_Pa_removeBetween_112 rfl)) (
  kc_case (P := P) (kc_se rfl sm_no) (
  kc_case (P := P) (kc_se c_Pa_removeBetween_110 (sm_iload d_Pa_removeBetween_110)) (
  kc_case (P := P) (kc_se rfl sm_no) (
  kc_case (P := P) (kc_se rfl sm_no) (
  kc_case (P := P) (kc_se c_Pa_removeBetween_107 (sm_put (ci := 6) (C := "DirectoryDesk$Pairs") (F := kF_Pa) rfl kin_Pa kty_Pa ktk_Pa knm_Pa (Nat.le_of_ble_eq_true rfl) (by decide +kernel) d_Pa_removeBetween_107 (kw1 126 rfl rfl) rfl)) (
  kc_case (P := P) (kc_se rfl sm_no) (
  kc_case (P := P) (kc_se c_Pa_removeBetween_105 (sm_iload d_Pa_removeBetween_105)) (
  kc_case (P := P) (kc_se c_Pa_removeBetween_104 (sm_aload_n d_Pa_removeBetween_104 rfl)) (
  kc_case (P := P) (kc_se rfl sm_no) (
  kc_case (P := P) (kc_se c_Pa_removeBetween_102 (sm_istore d_Pa_removeBetween_102 (Nat.le_of_ble_eq_true rfl))) (
  kc_case (P := P) (kc_se c_Pa_removeBetween_101 (sm_iconst d_Pa_removeBetween_101 (by decide))) (
  kc_case (P := P) (kc_se rfl sm_no) (
  kc_case (P := P) (kc_se rfl sm_no) (
  kc_case (P := P) (kc_se c_Pa_removeBetween_98 (sm_goto d_Pa_removeBetween_98 (by decide))) (
  kc_case (P := P) (kc_se c_Pa_removeBetween_97 (sm_iconst d_Pa_removeBetween_97 (by decide))) (
  kc_case (P := P) (kc_se rfl sm_no) (
  kc_case (P := P) (kc_se rfl sm_no) (
  kc_case (P := P) (kc_se c_Pa_removeBetween_94 (sm_cm_ge d_Pa_removeBetween_94 (by decide))) (
  kc_case (P := P) (kc_se rfl sm_no) (
  kc_case (P := P) (kc_se rfl sm_no) (
  kc_case (P := P) (kc_se c_Pa_removeBetween_91 (sm_get (ci := 6) (C := "DirectoryDesk$Pairs") (F := kF_Pa) rfl kin_Pa (Nat.le_of_ble_eq_true rfl) d_Pa_removeBetween_91 (kw1 126 rfl rfl))) (
  kc_case (P := P) (kc_se c_Pa_removeBetween_90 (sm_aload_n d_Pa_removeBetween_90 rfl)) (
  kc_case (P := P) (kc_se rfl sm_no) (
  kc_case (P := P) (kc_se c_Pa_removeBetween_88 (sm_iload d_Pa_removeBetween_88)) (
  kc_case (P := P) (kc_se rfl sm_no) (
  kc_case (P := P) (kc_se rfl sm_no) (
  kc_case (P := P) (kc_se c_Pa_removeBetween_85 (sm_goto d_Pa_removeBetween_85 (by decide))) (
  kc_case (P := P) (kc_se rfl sm_no) (
  kc_case (P := P) (kc_se rfl sm_no) (
  kc_case (P := P) (kc_se c_Pa_removeBetween_82 (sm_inc d_Pa_removeBetween_82 (by decide) (Nat.le_of_ble_eq_true rfl))) (
  kc_case (P := P) (kc_se rfl sm_no) (
  kc_case (P := P) (kc_se rfl sm_no) (
  kc_case (P := P) (kc_se c_Pa_removeBetween_79 (sm_inc d_Pa_removeBetween_79 (by decide) (Nat.le_of_ble_eq_true rfl))) (
  kc_case (P := P) (kc_se c_Pa_removeBetween_78 (sm_last d_Pa_removeBetween_78)) (
  kc_case (P := P) (kc_se c_Pa_removeBetween_77 (sm_lald d_Pa_removeBetween_77)) (
  kc_case (P := P) (kc_se rfl sm_no) (
  kc_case (P := P) (kc_se c_Pa_removeBetween_75 (sm_iload d_Pa_removeBetween_75)) (
  kc_case (P := P) (kc_se rfl sm_no) (
  kc_case (P := P) (kc_se rfl sm_no) (
  kc_case (P := P) (kc_se c_Pa_removeBetween_72 (sm_get (ci := 6) (C := "DirectoryDesk$Pairs") (F := kF_Pa) rfl kin_Pa (Nat.le_of_ble_eq_true rfl) d_Pa_removeBetween_72 (kw1 124 rfl rfl))) (
  kc_case (P := P) (kc_se c_Pa_removeBetween_71 (sm_aload_n d_Pa_removeBetween_71 rfl)) (
  kc_case (P := P) (kc_se rfl sm_no) (
  kc_case (P := P) (kc_se c_Pa_removeBetween_69 (sm_iload d_Pa_removeBetween_69)) (
  kc_case (P := P) (kc_se rfl sm_no) (
  kc_case (P := P) (kc_se rfl sm_no) (
  kc_case (P := P) (kc_se c_Pa_removeBetween_66 (sm_get (ci := 6) (C := "DirectoryDesk$Pairs") (F := kF_Pa) rfl kin_Pa (Nat.le_of_ble_eq_true rfl) d_Pa_removeBetween_66 (kw1 124 rfl rfl))) (
  kc_case (P := P) (kc_se c_Pa_removeBetween_65 (sm_aload_n d_Pa_removeBetween_65 rfl)) (
  kc_case (P := P) (kc_se c_Pa_removeBetween_64 (sm_iast d_Pa_removeBetween_64)) (
  kc_case (P := P) (kc_se c_Pa_removeBetween_63 (sm_iald d_Pa_removeBetween_63)) (
  kc_case (P := P) (kc_se rfl sm_no) (
  kc_case (P := P) (kc_se c_Pa_removeBetween_61 (sm_iload d_Pa_removeBetween_61)) (
  kc_case (P := P) (kc_se rfl sm_no) (
  s_Pa_removeBetween_60)))))))))))))))))))))))))))))))))))))))))))))))))))))
theorem ka_nth_no_Pa_removeBetween (pc : Nat) (h : 113 ≤ pc) : ct_Pa_removeBetween pc = ka_no := ka_nth_ge _ pc (Nat.le_trans (Nat.le_of_eq (by rfl)) h)
theorem s_Pa_removeBetween (pc : Nat) : kc_Sim kt kw_A kw_N kt_cl kt_En "DirectoryDesk$Pairs" prog_6_method_7_code 8 (some .boolean) "removeBetween" none pc (ct_Pa_removeBetween pc) := (Nat.lt_or_ge pc 113).elim (s_Pa_removeBetween_113 pc) (fun h => kc_se (ka_nth_no_Pa_removeBetween pc h) sm_no)
def cl_Pa_copyFrom_0 : List kc_A := [ka_al 0 1, ka_al 1 1, ka_get 6 2, ka_no, ka_no, ka_al 0 1, ka_get 6 0, ka_no, ka_no, ka_alen, ka_min, ka_no, ka_no, ka_put 6 2 .int, ka_no, ka_no, ka_al 1 1, ka_get 6 0, ka_no, ka_no, ka_ci (nI 0) 1, ka_al 0 1, ka_get 6 0, ka_no, ka_no, ka_ci (nI 0) 1, ka_al 0 1, ka_get 6 2, ka_no, ka_no, ka_cpi, ka_no, ka_no, ka_al 1 1, ka_get 6 1, ka_no, ka_no, ka_ci (nI 0) 1, ka_al 0 1, ka_get 6 1, ka_no, ka_no, ka_ci (nI 0) 1, ka_al 0 1, ka_get 6 2, ka_no, ka_no, ka_cpl, ka_no, ka_no, ka_ret]
def ct_Pa_copyFrom : Nat → kc_A := fun pc => ka_nth (cl_Pa_copyFrom_0) pc
set_option maxRecDepth 100000 in
theorem c_Pa_copyFrom_0 : ct_Pa_copyFrom 0 = ka_al 0 1 := rfl
theorem d_Pa_copyFrom_0 : decode prog_6_method_8_code 0 = .ok (.aload_n 0, 1) := by decide +kernel
set_option maxRecDepth 100000 in
theorem c_Pa_copyFrom_1 : ct_Pa_copyFrom 1 = ka_al 1 1 := rfl
theorem d_Pa_copyFrom_1 : decode prog_6_method_8_code 1 = .ok (.aload_n 1, 1) := by decide +kernel
set_option maxRecDepth 100000 in
theorem c_Pa_copyFrom_2 : ct_Pa_copyFrom 2 = ka_get 6 2 := rfl
theorem d_Pa_copyFrom_2 : decode prog_6_method_8_code 2 = .ok (.getfield 19, 3) := by decide +kernel
set_option maxRecDepth 100000 in
theorem c_Pa_copyFrom_5 : ct_Pa_copyFrom 5 = ka_al 0 1 := rfl
theorem d_Pa_copyFrom_5 : decode prog_6_method_8_code 5 = .ok (.aload_n 0, 1) := by decide +kernel
set_option maxRecDepth 100000 in
theorem c_Pa_copyFrom_6 : ct_Pa_copyFrom 6 = ka_get 6 0 := rfl
theorem d_Pa_copyFrom_6 : decode prog_6_method_8_code 6 = .ok (.getfield 9, 3) := by decide +kernel
set_option maxRecDepth 100000 in
theorem c_Pa_copyFrom_9 : ct_Pa_copyFrom 9 = ka_alen := rfl
theorem d_Pa_copyFrom_9 : decode prog_6_method_8_code 9 = .ok (.arraylength, 1) := by decide +kernel
set_option maxRecDepth 100000 in
theorem c_Pa_copyFrom_10 : ct_Pa_copyFrom 10 = ka_min := rfl
theorem d_Pa_copyFrom_10 : decode prog_6_method_8_code 10 = .ok (.invokestatic 38, 3) := by decide +kernel
set_option maxRecDepth 100000 in
theorem c_Pa_copyFrom_13 : ct_Pa_copyFrom 13 = ka_put 6 2 .int := rfl
theorem d_Pa_copyFrom_13 : decode prog_6_method_8_code 13 = .ok (.putfield 19, 3) := by decide +kernel
set_option maxRecDepth 100000 in
theorem c_Pa_copyFrom_16 : ct_Pa_copyFrom 16 = ka_al 1 1 := rfl
theorem d_Pa_copyFrom_16 : decode prog_6_method_8_code 16 = .ok (.aload_n 1, 1) := by decide +kernel
set_option maxRecDepth 100000 in
theorem c_Pa_copyFrom_17 : ct_Pa_copyFrom 17 = ka_get 6 0 := rfl
theorem d_Pa_copyFrom_17 : decode prog_6_method_8_code 17 = .ok (.getfield 9, 3) := by decide +kernel
set_option maxRecDepth 100000 in
theorem c_Pa_copyFrom_20 : ct_Pa_copyFrom 20 = ka_ci (nI 0) 1 := rfl
theorem d_Pa_copyFrom_20 : decode prog_6_method_8_code 20 = .ok (.iconst 0, 1) := by decide +kernel
set_option maxRecDepth 100000 in
theorem c_Pa_copyFrom_21 : ct_Pa_copyFrom 21 = ka_al 0 1 := rfl
theorem d_Pa_copyFrom_21 : decode prog_6_method_8_code 21 = .ok (.aload_n 0, 1) := by decide +kernel
set_option maxRecDepth 100000 in
theorem c_Pa_copyFrom_22 : ct_Pa_copyFrom 22 = ka_get 6 0 := rfl
theorem d_Pa_copyFrom_22 : decode prog_6_method_8_code 22 = .ok (.getfield 9, 3) := by decide +kernel
set_option maxRecDepth 100000 in
theorem c_Pa_copyFrom_25 : ct_Pa_copyFrom 25 = ka_ci (nI 0) 1 := rfl
theorem d_Pa_copyFrom_25 : decode prog_6_method_8_code 25 = .ok (.iconst 0, 1) := by decide +kernel
set_option maxRecDepth 100000 in
theorem c_Pa_copyFrom_26 : ct_Pa_copyFrom 26 = ka_al 0 1 := rfl
theorem d_Pa_copyFrom_26 : decode prog_6_method_8_code 26 = .ok (.aload_n 0, 1) := by decide +kernel
set_option maxRecDepth 100000 in
theorem c_Pa_copyFrom_27 : ct_Pa_copyFrom 27 = ka_get 6 2 := rfl
theorem d_Pa_copyFrom_27 : decode prog_6_method_8_code 27 = .ok (.getfield 19, 3) := by decide +kernel
set_option maxRecDepth 100000 in
theorem c_Pa_copyFrom_30 : ct_Pa_copyFrom 30 = ka_cpi := rfl
theorem d_Pa_copyFrom_30 : decode prog_6_method_8_code 30 = .ok (.invokestatic 44, 3) := by decide +kernel
set_option maxRecDepth 100000 in
theorem c_Pa_copyFrom_33 : ct_Pa_copyFrom 33 = ka_al 1 1 := rfl
theorem d_Pa_copyFrom_33 : decode prog_6_method_8_code 33 = .ok (.aload_n 1, 1) := by decide +kernel
set_option maxRecDepth 100000 in
theorem c_Pa_copyFrom_34 : ct_Pa_copyFrom 34 = ka_get 6 1 := rfl
theorem d_Pa_copyFrom_34 : decode prog_6_method_8_code 34 = .ok (.getfield 15, 3) := by decide +kernel
set_option maxRecDepth 100000 in
theorem c_Pa_copyFrom_37 : ct_Pa_copyFrom 37 = ka_ci (nI 0) 1 := rfl
theorem d_Pa_copyFrom_37 : decode prog_6_method_8_code 37 = .ok (.iconst 0, 1) := by decide +kernel
set_option maxRecDepth 100000 in
theorem c_Pa_copyFrom_38 : ct_Pa_copyFrom 38 = ka_al 0 1 := rfl
theorem d_Pa_copyFrom_38 : decode prog_6_method_8_code 38 = .ok (.aload_n 0, 1) := by decide +kernel
set_option maxRecDepth 100000 in
theorem c_Pa_copyFrom_39 : ct_Pa_copyFrom 39 = ka_get 6 1 := rfl
theorem d_Pa_copyFrom_39 : decode prog_6_method_8_code 39 = .ok (.getfield 15, 3) := by decide +kernel
set_option maxRecDepth 100000 in
theorem c_Pa_copyFrom_42 : ct_Pa_copyFrom 42 = ka_ci (nI 0) 1 := rfl
theorem d_Pa_copyFrom_42 : decode prog_6_method_8_code 42 = .ok (.iconst 0, 1) := by decide +kernel
set_option maxRecDepth 100000 in
theorem c_Pa_copyFrom_43 : ct_Pa_copyFrom 43 = ka_al 0 1 := rfl
theorem d_Pa_copyFrom_43 : decode prog_6_method_8_code 43 = .ok (.aload_n 0, 1) := by decide +kernel
set_option maxRecDepth 100000 in
theorem c_Pa_copyFrom_44 : ct_Pa_copyFrom 44 = ka_get 6 2 := rfl
theorem d_Pa_copyFrom_44 : decode prog_6_method_8_code 44 = .ok (.getfield 19, 3) := by decide +kernel
set_option maxRecDepth 100000 in
theorem c_Pa_copyFrom_47 : ct_Pa_copyFrom 47 = ka_cpl := rfl
theorem d_Pa_copyFrom_47 : decode prog_6_method_8_code 47 = .ok (.invokestatic 44, 3) := by decide +kernel
set_option maxRecDepth 100000 in
theorem c_Pa_copyFrom_50 : ct_Pa_copyFrom 50 = ka_ret := rfl
theorem d_Pa_copyFrom_50 : decode prog_6_method_8_code 50 = .ok (.return_, 1) := by decide +kernel
set_option maxRecDepth 100000 in
set_option maxHeartbeats 4000000 in
theorem s_Pa_copyFrom_51 : ∀ pc, pc < 51 → kc_Sim kt kw_A kw_N kt_cl kt_En "DirectoryDesk$Pairs" prog_6_method_8_code 2 (none) "copyFrom" none pc (ct_Pa_copyFrom pc) := by
  let P : Nat → Prop := fun pc => kc_Sim kt kw_A kw_N kt_cl kt_En "DirectoryDesk$Pairs" prog_6_method_8_code 2 (none) "copyFrom" none pc (ct_Pa_copyFrom pc)
  exact kc_case (P := P) (kc_se c_Pa_copyFrom_50 (sm_ret d_Pa_copyFrom_50 rfl)) (
  kc_case (P := P) (kc_se rfl sm_no) (
  kc_case (P := P) (kc_se rfl sm_no) (
  kc_case (P := P) (kc_se c_Pa_copyFrom_47 (sm_cpl d_Pa_copyFrom_47 (kw3 74 rfl rfl) (kw3 76 rfl rfl) (kw3 75 rfl rfl) (kw1 13 rfl rfl))) (
  kc_case (P := P) (kc_se rfl sm_no) (
  kc_case (P := P) (kc_se rfl sm_no) (
  kc_case (P := P) (kc_se c_Pa_copyFrom_44 (sm_get (ci := 6) (C := "DirectoryDesk$Pairs") (F := kF_Pa) rfl kin_Pa (Nat.le_of_ble_eq_true rfl) d_Pa_copyFrom_44 (kw1 126 rfl rfl))) (
  kc_case (P := P) (kc_se c_Pa_copyFrom_43 (sm_aload_n d_Pa_copyFrom_43 rfl)) (
  kc_case (P := P) (kc_se c_Pa_copyFrom_42 (sm_iconst d_Pa_copyFrom_42 (by decide))) (
  kc_case (P := P) (kc_se rfl sm_no) (
  kc_case (P := P) (kc_se rfl sm_no) (
  kc_case (P := P) (kc_se c_Pa_copyFrom_39 (sm_get (ci := 6) (C := "DirectoryDesk$Pairs") (F := kF_Pa) rfl kin_Pa (Nat.le_of_ble_eq_true rfl) d_Pa_copyFrom_39 (kw1 124 rfl rfl))) (
  kc_case (P := P) (kc_se c_Pa_copyFrom_38 (sm_aload_n d_Pa_copyFrom_38 rfl)) (
  kc_case (P := P) (kc_se c_Pa_copyFrom_37 (sm_iconst d_Pa_copyFrom_37 (by decide))) (
  kc_case (P := P) (kc_se rfl sm_no) (
  kc_case (P := P) (kc_se rfl sm_no) (
  kc_case (P := P) (kc_se c_Pa_copyFrom_34 (sm_get (ci := 6) (C := "DirectoryDesk$Pairs") (F := kF_Pa) rfl kin_Pa (Nat.le_of_ble_eq_true rfl) d_Pa_copyFrom_34 (kw1 124 rfl rfl))) (
  kc_case (P := P) (kc_se c_Pa_copyFrom_33 (sm_aload_n d_Pa_copyFrom_33 rfl)) (
  kc_case (P := P) (kc_se rfl sm_no) (
  kc_case (P := P) (kc_se rfl sm_no) (
  kc_case (P := P) (kc_se c_Pa_copyFrom_30 (sm_cpi d_Pa_copyFrom_30 (kw3 74 rfl rfl) (kw3 76 rfl rfl) (kw3 75 rfl rfl) (kw1 13 rfl rfl))) (
  kc_case (P := P) (kc_se rfl sm_no) (
  kc_case (P := P) (kc_se rfl sm_no) (
  kc_case (P := P) (kc_se c_Pa_copyFrom_27 (sm_get (ci := 6) (C := "DirectoryDesk$Pairs") (F := kF_Pa) rfl kin_Pa (Nat.le_of_ble_eq_true rfl) d_Pa_copyFrom_27 (kw1 126 rfl rfl))) (
  kc_case (P := P) (kc_se c_Pa_copyFrom_26 (sm_aload_n d_Pa_copyFrom_26 rfl)) (
  kc_case (P := P) (kc_se c_Pa_copyFrom_25 (sm_iconst d_Pa_copyFrom_25 (by decide))) (
  kc_case (P := P) (kc_se rfl sm_no) (
  kc_case (P := P) (kc_se rfl sm_no) (
  kc_case (P := P) (kc_se c_Pa_copyFrom_22 (sm_get (ci := 6) (C := "DirectoryDesk$Pairs") (F := kF_Pa) rfl kin_Pa (Nat.le_of_ble_eq_true rfl) d_Pa_copyFrom_22 (kw1 122 rfl rfl))) (
  kc_case (P := P) (kc_se c_Pa_copyFrom_21 (sm_aload_n d_Pa_copyFrom_21 rfl)) (
  kc_case (P := P) (kc_se c_Pa_copyFrom_20 (sm_iconst d_Pa_copyFrom_20 (by decide))) (
  kc_case (P := P) (kc_se rfl sm_no) (
  kc_case (P := P) (kc_se rfl sm_no) (
  kc_case (P := P) (kc_se c_Pa_copyFrom_17 (sm_get (ci := 6) (C := "DirectoryDesk$Pairs") (F := kF_Pa) rfl kin_Pa (Nat.le_of_ble_eq_true rfl) d_Pa_copyFrom_17 (kw1 122 rfl rfl))) (
  kc_case (P := P) (kc_se c_Pa_copyFrom_16 (sm_aload_n d_Pa_copyFrom_16 rfl)) (
  kc_case (P := P) (kc_se rfl sm_no) (
  kc_case (P := P) (kc_se rfl sm_no) (
  kc_case (P := P) (kc_se c_Pa_copyFrom_13 (sm_put (ci := 6) (C := "DirectoryDesk$Pairs") (F := kF_Pa) rfl kin_Pa kty_Pa ktk_Pa knm_Pa (Nat.le_of_ble_eq_true rfl) (by decide +kernel) d_Pa_copyFrom_13 (kw1 126 rfl rfl) rfl)) (
  kc_case (P := P) (kc_se rfl sm_no) (
  kc_case (P := P) (kc_se rfl sm_no) (
  kc_case (P := P) (kc_se c_Pa_copyFrom_10 (sm_min d_Pa_copyFrom_10 (kw3 73 rfl rfl) (kw2 219 rfl rfl) (kw1 12 rfl rfl) (kw2 220 rfl rfl))) (
  kc_case (P := P) (kc_se c_Pa_copyFrom_9 (sm_alen d_Pa_copyFrom_9)) (
  kc_case (P := P) (kc_se rfl sm_no) (
  kc_case (P := P) (kc_se rfl sm_no) (
  kc_case (P := P) (kc_se c_Pa_copyFrom_6 (sm_get (ci := 6) (C := "DirectoryDesk$Pairs") (F := kF_Pa) rfl kin_Pa (Nat.le_of_ble_eq_true rfl) d_Pa_copyFrom_6 (kw1 122 rfl rfl))) (
  kc_case (P := P) (kc_se c_Pa_copyFrom_5 (sm_aload_n d_Pa_copyFrom_5 rfl)) (
  kc_case (P := P) (kc_se rfl sm_no) (
  kc_case (P := P) (kc_se rfl sm_no) (
  kc_case (P := P) (kc_se c_Pa_copyFrom_2 (sm_get (ci := 6) (C := "DirectoryDesk$Pairs") (F := kF_Pa) rfl kin_Pa (Nat.le_of_ble_eq_true rfl) d_Pa_copyFrom_2 (kw1 126 rfl rfl))) (
  kc_case (P := P) (kc_se c_Pa_copyFrom_1 (sm_aload_n d_Pa_copyFrom_1 rfl)) (
  kc_case (P := P) (kc_se c_Pa_copyFrom_0 (sm_aload_n d_Pa_copyFrom_0 rfl)) (
  kc_case0)))))))))))))))))))))))))))))))))))))))))))))))))))
theorem ka_nth_no_Pa_copyFrom (pc : Nat) (h : 51 ≤ pc) : ct_Pa_copyFrom pc = ka_no := ka_nth_ge _ pc (Nat.le_trans (Nat.le_of_eq (by rfl)) h)
theorem s_Pa_copyFrom (pc : Nat) : kc_Sim kt kw_A kw_N kt_cl kt_En "DirectoryDesk$Pairs" prog_6_method_8_code 2 (none) "copyFrom" none pc (ct_Pa_copyFrom pc) := (Nat.lt_or_ge pc 51).elim (s_Pa_copyFrom_51 pc) (fun h => kc_se (ka_nth_no_Pa_copyFrom pc h) sm_no)
def cl_Ch_init_0 : List kc_A := [ka_al 0 1, ka_obj, ka_no, ka_no, ka_al 0 1, ka_ci (nI 12) 2, ka_no, ka_newi, ka_no, ka_put 7 0 (.array .int), ka_no, ka_no, ka_al 0 1, ka_ci (nI 12) 2, ka_no, ka_newi, ka_no, ka_put 7 1 (.array .int), ka_no, ka_no, ka_al 0 1, ka_ci (nI 12) 2, ka_no, ka_newi, ka_no, ka_put 7 2 (.array .int), ka_no, ka_no, ka_al 0 1, ka_ci (nI 24) 2, ka_no, ka_newl, ka_no, ka_put 7 3 (.array .long), ka_no, ka_no, ka_ret]
def ct_Ch_init : Nat → kc_A := fun pc => ka_nth (cl_Ch_init_0) pc
set_option maxRecDepth 100000 in
theorem c_Ch_init_0 : ct_Ch_init 0 = ka_al 0 1 := rfl
theorem d_Ch_init_0 : decode prog_2_method_1_code 0 = .ok (.aload_n 0, 1) := by decide +kernel
set_option maxRecDepth 100000 in
theorem c_Ch_init_1 : ct_Ch_init 1 = ka_obj := rfl
theorem d_Ch_init_1 : decode prog_2_method_1_code 1 = .ok (.invokespecial 3, 3) := by decide +kernel
set_option maxRecDepth 100000 in
theorem c_Ch_init_4 : ct_Ch_init 4 = ka_al 0 1 := rfl
theorem d_Ch_init_4 : decode prog_2_method_1_code 4 = .ok (.aload_n 0, 1) := by decide +kernel
set_option maxRecDepth 100000 in
theorem c_Ch_init_5 : ct_Ch_init 5 = ka_ci (nI 12) 2 := rfl
theorem d_Ch_init_5 : decode prog_2_method_1_code 5 = .ok (.bipush 12, 2) := by decide +kernel
set_option maxRecDepth 100000 in
theorem c_Ch_init_7 : ct_Ch_init 7 = ka_newi := rfl
theorem d_Ch_init_7 : decode prog_2_method_1_code 7 = .ok (.newarray .int, 2) := by decide +kernel
set_option maxRecDepth 100000 in
theorem c_Ch_init_9 : ct_Ch_init 9 = ka_put 7 0 (.array .int) := rfl
theorem d_Ch_init_9 : decode prog_2_method_1_code 9 = .ok (.putfield 9, 3) := by decide +kernel
set_option maxRecDepth 100000 in
theorem c_Ch_init_12 : ct_Ch_init 12 = ka_al 0 1 := rfl
theorem d_Ch_init_12 : decode prog_2_method_1_code 12 = .ok (.aload_n 0, 1) := by decide +kernel
set_option maxRecDepth 100000 in
theorem c_Ch_init_13 : ct_Ch_init 13 = ka_ci (nI 12) 2 := rfl
theorem d_Ch_init_13 : decode prog_2_method_1_code 13 = .ok (.bipush 12, 2) := by decide +kernel
set_option maxRecDepth 100000 in
theorem c_Ch_init_15 : ct_Ch_init 15 = ka_newi := rfl
theorem d_Ch_init_15 : decode prog_2_method_1_code 15 = .ok (.newarray .int, 2) := by decide +kernel
set_option maxRecDepth 100000 in
theorem c_Ch_init_17 : ct_Ch_init 17 = ka_put 7 1 (.array .int) := rfl
theorem d_Ch_init_17 : decode prog_2_method_1_code 17 = .ok (.putfield 15, 3) := by decide +kernel
set_option maxRecDepth 100000 in
theorem c_Ch_init_20 : ct_Ch_init 20 = ka_al 0 1 := rfl
theorem d_Ch_init_20 : decode prog_2_method_1_code 20 = .ok (.aload_n 0, 1) := by decide +kernel
set_option maxRecDepth 100000 in
theorem c_Ch_init_21 : ct_Ch_init 21 = ka_ci (nI 12) 2 := rfl
theorem d_Ch_init_21 : decode prog_2_method_1_code 21 = .ok (.bipush 12, 2) := by decide +kernel
set_option maxRecDepth 100000 in
theorem c_Ch_init_23 : ct_Ch_init 23 = ka_newi := rfl
theorem d_Ch_init_23 : decode prog_2_method_1_code 23 = .ok (.newarray .int, 2) := by decide +kernel
set_option maxRecDepth 100000 in
theorem c_Ch_init_25 : ct_Ch_init 25 = ka_put 7 2 (.array .int) := rfl
theorem d_Ch_init_25 : decode prog_2_method_1_code 25 = .ok (.putfield 18, 3) := by decide +kernel
set_option maxRecDepth 100000 in
theorem c_Ch_init_28 : ct_Ch_init 28 = ka_al 0 1 := rfl
theorem d_Ch_init_28 : decode prog_2_method_1_code 28 = .ok (.aload_n 0, 1) := by decide +kernel
set_option maxRecDepth 100000 in
theorem c_Ch_init_29 : ct_Ch_init 29 = ka_ci (nI 24) 2 := rfl
theorem d_Ch_init_29 : decode prog_2_method_1_code 29 = .ok (.bipush 24, 2) := by decide +kernel
set_option maxRecDepth 100000 in
theorem c_Ch_init_31 : ct_Ch_init 31 = ka_newl := rfl
theorem d_Ch_init_31 : decode prog_2_method_1_code 31 = .ok (.newarray .long, 2) := by decide +kernel
set_option maxRecDepth 100000 in
theorem c_Ch_init_33 : ct_Ch_init 33 = ka_put 7 3 (.array .long) := rfl
theorem d_Ch_init_33 : decode prog_2_method_1_code 33 = .ok (.putfield 21, 3) := by decide +kernel
set_option maxRecDepth 100000 in
theorem c_Ch_init_36 : ct_Ch_init 36 = ka_ret := rfl
theorem d_Ch_init_36 : decode prog_2_method_1_code 36 = .ok (.return_, 1) := by decide +kernel
set_option maxRecDepth 100000 in
set_option maxHeartbeats 4000000 in
theorem s_Ch_init_37 : ∀ pc, pc < 37 → kc_Sim kt kw_A kw_N kt_cl kt_En "DirectoryDesk$Changes" prog_2_method_1_code 1 (none) "<init>" none pc (ct_Ch_init pc) := by
  let P : Nat → Prop := fun pc => kc_Sim kt kw_A kw_N kt_cl kt_En "DirectoryDesk$Changes" prog_2_method_1_code 1 (none) "<init>" none pc (ct_Ch_init pc)
  exact kc_case (P := P) (kc_se c_Ch_init_36 (sm_ret d_Ch_init_36 rfl)) (
  kc_case (P := P) (kc_se rfl sm_no) (
  kc_case (P := P) (kc_se rfl sm_no) (
  kc_case (P := P) (kc_se c_Ch_init_33 (sm_putF (ci := 7) (C := "DirectoryDesk$Changes") (F := kF_Ch) rfl kin_Ch kty_Ch ktk_Ch knm_Ch (Nat.le_of_ble_eq_true rfl) (by decide +kernel) d_Ch_init_33 (kw1 180 rfl rfl) rfl rfl rfl)) (
  kc_case (P := P) (kc_se rfl sm_no) (
  kc_case (P := P) (kc_se c_Ch_init_31 (sm_newl rfl d_Ch_init_31 (kw1 115 rfl rfl))) (
  kc_case (P := P) (kc_se rfl sm_no) (
  kc_case (P := P) (kc_se c_Ch_init_29 (sm_bipush d_Ch_init_29 (by decide))) (
  kc_case (P := P) (kc_se c_Ch_init_28 (sm_aload_n d_Ch_init_28 rfl)) (
  kc_case (P := P) (kc_se rfl sm_no) (
  kc_case (P := P) (kc_se rfl sm_no) (
  kc_case (P := P) (kc_se c_Ch_init_25 (sm_putF (ci := 7) (C := "DirectoryDesk$Changes") (F := kF_Ch) rfl kin_Ch kty_Ch ktk_Ch knm_Ch (Nat.le_of_ble_eq_true rfl) (by decide +kernel) d_Ch_init_25 (kw1 179 rfl rfl) rfl rfl rfl)) (
  kc_case (P := P) (kc_se rfl sm_no) (
  kc_case (P := P) (kc_se c_Ch_init_23 (sm_newi rfl d_Ch_init_23 (kw1 62 rfl rfl))) (
  kc_case (P := P) (kc_se rfl sm_no) (
  kc_case (P := P) (kc_se c_Ch_init_21 (sm_bipush d_Ch_init_21 (by decide))) (
  kc_case (P := P) (kc_se c_Ch_init_20 (sm_aload_n d_Ch_init_20 rfl)) (
  kc_case (P := P) (kc_se rfl sm_no) (
  kc_case (P := P) (kc_se rfl sm_no) (
  kc_case (P := P) (kc_se c_Ch_init_17 (sm_putF (ci := 7) (C := "DirectoryDesk$Changes") (F := kF_Ch) rfl kin_Ch kty_Ch ktk_Ch knm_Ch (Nat.le_of_ble_eq_true rfl) (by decide +kernel) d_Ch_init_17 (kw1 178 rfl rfl) rfl rfl rfl)) (
  kc_case (P := P) (kc_se rfl sm_no) (
  kc_case (P := P) (kc_se c_Ch_init_15 (sm_newi rfl d_Ch_init_15 (kw1 62 rfl rfl))) (
  kc_case (P := P) (kc_se rfl sm_no) (
  kc_case (P := P) (kc_se c_Ch_init_13 (sm_bipush d_Ch_init_13 (by decide))) (
  kc_case (P := P) (kc_se c_Ch_init_12 (sm_aload_n d_Ch_init_12 rfl)) (
  kc_case (P := P) (kc_se rfl sm_no) (
  kc_case (P := P) (kc_se rfl sm_no) (
  kc_case (P := P) (kc_se c_Ch_init_9 (sm_putF (ci := 7) (C := "DirectoryDesk$Changes") (F := kF_Ch) rfl kin_Ch kty_Ch ktk_Ch knm_Ch (Nat.le_of_ble_eq_true rfl) (by decide +kernel) d_Ch_init_9 (kw1 177 rfl rfl) rfl rfl rfl)) (
  kc_case (P := P) (kc_se rfl sm_no) (
  kc_case (P := P) (kc_se c_Ch_init_7 (sm_newi rfl d_Ch_init_7 (kw1 62 rfl rfl))) (
  kc_case (P := P) (kc_se rfl sm_no) (
  kc_case (P := P) (kc_se c_Ch_init_5 (sm_bipush d_Ch_init_5 (by decide))) (
  kc_case (P := P) (kc_se c_Ch_init_4 (sm_aload_n d_Ch_init_4 rfl)) (
  kc_case (P := P) (kc_se rfl sm_no) (
  kc_case (P := P) (kc_se rfl sm_no) (
  kc_case (P := P) (kc_se c_Ch_init_1 (sm_obj d_Ch_init_1 (kw1 176 rfl rfl) (kw1 20 rfl rfl) (kw1 21 rfl rfl))) (
  kc_case (P := P) (kc_se c_Ch_init_0 (sm_aload_n d_Ch_init_0 rfl)) (
  kc_case0)))))))))))))))))))))))))))))))))))))
theorem ka_nth_no_Ch_init (pc : Nat) (h : 37 ≤ pc) : ct_Ch_init pc = ka_no := ka_nth_ge _ pc (Nat.le_trans (Nat.le_of_eq (by rfl)) h)
theorem s_Ch_init (pc : Nat) : kc_Sim kt kw_A kw_N kt_cl kt_En "DirectoryDesk$Changes" prog_2_method_1_code 1 (none) "<init>" none pc (ct_Ch_init pc) := (Nat.lt_or_ge pc 37).elim (s_Ch_init_37 pc) (fun h => kc_se (ka_nth_no_Ch_init pc h) sm_no)
def cl_Ch_readFrom_0 : List kc_A := [ka_al 0 1, ka_ci (nI 0) 1, ka_put 7 4 .int, ka_no, ka_no, ka_al 0 1, ka_ci (nI 0) 1, ka_put 7 5 .int, ka_no, ka_no, ka_al 1 1, ka_ci (nI 48) 2, ka_no, ka_cv 28 1 1 0 0, ka_no, ka_no, ka_is 3 1, ka_ci (nI 0) 1, ka_is 4 2, ka_no, ka_il 4 2, ka_no, ka_ci (nI 12) 2, ka_no, ka_cm (fun x y => y ≤ x) 103, ka_no, ka_no, ka_al 1 1, ka_cv 30 0 1 0 0, ka_no, ka_no, ka_if (fun x => x = 0) 103, ka_no, ka_no, ka_il 2 1, ka_if (fun x => x = 0) 74, ka_no, ka_no, ka_al 1 1, ka_ci (nI 48) 2, ka_no, ka_cv 28 1 1 0 0, ka_no, ka_no, ka_is 5 2, ka_no, ka_al 0 1, ka_get 7 0, ka_no, ka_no, ka_il 4 2, ka_no, ka_al 1 1, ka_ci (nI 2) 1, ka_cv 34 1 1 0 0, ka_no, ka_no, ka_iast, ka_al 0 1, ka_al 1 1]
def cl_Ch_readFrom_1 : List kc_A := [ka_il 4 2, ka_no, ka_cv 78 2 7 0 0, ka_no, ka_no, ka_al 1 1, ka_il 5 2, ka_no, ka_cv 29 1 1 0 0, ka_no, ka_no, ka_goto 89, ka_no, ka_no, ka_al 0 1, ka_get 7 0, ka_no, ka_no, ka_il 4 2, ka_no, ka_ci (nI 0) 1, ka_iast, ka_al 0 1, ka_al 1 1, ka_il 4 2, ka_no, ka_cv 78 2 7 0 0, ka_no, ka_no, ka_al 0 1, ka_il 4 2, ka_no, ka_ci (nI 1) 1, ka_ii (fun x y => x + y), ka_put 7 4 .int, ka_no, ka_no, ka_inc 4 (nI 1), ka_no, ka_no, ka_goto 20, ka_no, ka_no, ka_al 1 1, ka_il 3 1, ka_cv 29 1 1 0 0, ka_no, ka_no, ka_ret]
def ct_Ch_readFrom : Nat → kc_A := fun pc => ka_nth (cl_Ch_readFrom_0 ++ (cl_Ch_readFrom_1)) pc
set_option maxRecDepth 100000 in
theorem c_Ch_readFrom_0 : ct_Ch_readFrom 0 = ka_al 0 1 := rfl
theorem d_Ch_readFrom_0 : decode prog_2_method_2_code 0 = .ok (.aload_n 0, 1) := by decide +kernel
set_option maxRecDepth 100000 in
theorem c_Ch_readFrom_1 : ct_Ch_readFrom 1 = ka_ci (nI 0) 1 := rfl
theorem d_Ch_readFrom_1 : decode prog_2_method_2_code 1 = .ok (.iconst 0, 1) := by decide +kernel
set_option maxRecDepth 100000 in
theorem c_Ch_readFrom_2 : ct_Ch_readFrom 2 = ka_put 7 4 .int := rfl
theorem d_Ch_readFrom_2 : decode prog_2_method_2_code 2 = .ok (.putfield 25, 3) := by decide +kernel
set_option maxRecDepth 100000 in
theorem c_Ch_readFrom_5 : ct_Ch_readFrom 5 = ka_al 0 1 := rfl
theorem d_Ch_readFrom_5 : decode prog_2_method_2_code 5 = .ok (.aload_n 0, 1) := by decide +kernel
set_option maxRecDepth 100000 in
theorem c_Ch_readFrom_6 : ct_Ch_readFrom 6 = ka_ci (nI 0) 1 := rfl
theorem d_Ch_readFrom_6 : decode prog_2_method_2_code 6 = .ok (.iconst 0, 1) := by decide +kernel
set_option maxRecDepth 100000 in
theorem c_Ch_readFrom_7 : ct_Ch_readFrom 7 = ka_put 7 5 .int := rfl
theorem d_Ch_readFrom_7 : decode prog_2_method_2_code 7 = .ok (.putfield 29, 3) := by decide +kernel
set_option maxRecDepth 100000 in
theorem c_Ch_readFrom_10 : ct_Ch_readFrom 10 = ka_al 1 1 := rfl
theorem d_Ch_readFrom_10 : decode prog_2_method_2_code 10 = .ok (.aload_n 1, 1) := by decide +kernel
set_option maxRecDepth 100000 in
theorem c_Ch_readFrom_11 : ct_Ch_readFrom 11 = ka_ci (nI 48) 2 := rfl
theorem d_Ch_readFrom_11 : decode prog_2_method_2_code 11 = .ok (.bipush 48, 2) := by decide +kernel
set_option maxRecDepth 100000 in
theorem c_Ch_readFrom_13 : ct_Ch_readFrom 13 = ka_cv 28 1 1 0 0 := rfl
theorem d_Ch_readFrom_13 : decode prog_2_method_2_code 13 = .ok (.invokevirtual 32, 3) := by decide +kernel
set_option maxRecDepth 100000 in
theorem c_Ch_readFrom_16 : ct_Ch_readFrom 16 = ka_is 3 1 := rfl
theorem d_Ch_readFrom_16 : decode prog_2_method_2_code 16 = .ok (.istore_n 3, 1) := by decide +kernel
set_option maxRecDepth 100000 in
theorem c_Ch_readFrom_17 : ct_Ch_readFrom 17 = ka_ci (nI 0) 1 := rfl
theorem d_Ch_readFrom_17 : decode prog_2_method_2_code 17 = .ok (.iconst 0, 1) := by decide +kernel
set_option maxRecDepth 100000 in
theorem c_Ch_readFrom_18 : ct_Ch_readFrom 18 = ka_is 4 2 := rfl
theorem d_Ch_readFrom_18 : decode prog_2_method_2_code 18 = .ok (.istore 4, 2) := by decide +kernel
set_option maxRecDepth 100000 in
theorem c_Ch_readFrom_20 : ct_Ch_readFrom 20 = ka_il 4 2 := rfl
theorem d_Ch_readFrom_20 : decode prog_2_method_2_code 20 = .ok (.iload 4, 2) := by decide +kernel
set_option maxRecDepth 100000 in
theorem c_Ch_readFrom_22 : ct_Ch_readFrom 22 = ka_ci (nI 12) 2 := rfl
theorem d_Ch_readFrom_22 : decode prog_2_method_2_code 22 = .ok (.bipush 12, 2) := by decide +kernel
set_option maxRecDepth 100000 in
theorem c_Ch_readFrom_24 : ct_Ch_readFrom 24 = ka_cm (fun x y => y ≤ x) 103 := rfl
theorem d_Ch_readFrom_24 : decode prog_2_method_2_code 24 = .ok (.if_icmp .ge 79, 3) := by decide +kernel
set_option maxRecDepth 100000 in
theorem c_Ch_readFrom_27 : ct_Ch_readFrom 27 = ka_al 1 1 := rfl
theorem d_Ch_readFrom_27 : decode prog_2_method_2_code 27 = .ok (.aload_n 1, 1) := by decide +kernel
set_option maxRecDepth 100000 in
theorem c_Ch_readFrom_28 : ct_Ch_readFrom 28 = ka_cv 30 0 1 0 0 := rfl
theorem d_Ch_readFrom_28 : decode prog_2_method_2_code 28 = .ok (.invokevirtual 38, 3) := by decide +kernel
set_option maxRecDepth 100000 in
theorem c_Ch_readFrom_31 : ct_Ch_readFrom 31 = ka_if (fun x => x = 0) 103 := rfl
theorem d_Ch_readFrom_31 : decode prog_2_method_2_code 31 = .ok (.ifCond .eq 72, 3) := by decide +kernel
set_option maxRecDepth 100000 in
theorem c_Ch_readFrom_34 : ct_Ch_readFrom 34 = ka_il 2 1 := rfl
theorem d_Ch_readFrom_34 : decode prog_2_method_2_code 34 = .ok (.iload_n 2, 1) := by decide +kernel
set_option maxRecDepth 100000 in
theorem c_Ch_readFrom_35 : ct_Ch_readFrom 35 = ka_if (fun x => x = 0) 74 := rfl
theorem d_Ch_readFrom_35 : decode prog_2_method_2_code 35 = .ok (.ifCond .eq 39, 3) := by decide +kernel
set_option maxRecDepth 100000 in
theorem c_Ch_readFrom_38 : ct_Ch_readFrom 38 = ka_al 1 1 := rfl
theorem d_Ch_readFrom_38 : decode prog_2_method_2_code 38 = .ok (.aload_n 1, 1) := by decide +kernel
set_option maxRecDepth 100000 in
theorem c_Ch_readFrom_39 : ct_Ch_readFrom 39 = ka_ci (nI 48) 2 := rfl
theorem d_Ch_readFrom_39 : decode prog_2_method_2_code 39 = .ok (.bipush 48, 2) := by decide +kernel
set_option maxRecDepth 100000 in
theorem c_Ch_readFrom_41 : ct_Ch_readFrom 41 = ka_cv 28 1 1 0 0 := rfl
theorem d_Ch_readFrom_41 : decode prog_2_method_2_code 41 = .ok (.invokevirtual 32, 3) := by decide +kernel
set_option maxRecDepth 100000 in
theorem c_Ch_readFrom_44 : ct_Ch_readFrom 44 = ka_is 5 2 := rfl
theorem d_Ch_readFrom_44 : decode prog_2_method_2_code 44 = .ok (.istore 5, 2) := by decide +kernel
set_option maxRecDepth 100000 in
theorem c_Ch_readFrom_46 : ct_Ch_readFrom 46 = ka_al 0 1 := rfl
theorem d_Ch_readFrom_46 : decode prog_2_method_2_code 46 = .ok (.aload_n 0, 1) := by decide +kernel
set_option maxRecDepth 100000 in
theorem c_Ch_readFrom_47 : ct_Ch_readFrom 47 = ka_get 7 0 := rfl
theorem d_Ch_readFrom_47 : decode prog_2_method_2_code 47 = .ok (.getfield 9, 3) := by decide +kernel
set_option maxRecDepth 100000 in
theorem c_Ch_readFrom_50 : ct_Ch_readFrom 50 = ka_il 4 2 := rfl
theorem d_Ch_readFrom_50 : decode prog_2_method_2_code 50 = .ok (.iload 4, 2) := by decide +kernel
set_option maxRecDepth 100000 in
theorem c_Ch_readFrom_52 : ct_Ch_readFrom 52 = ka_al 1 1 := rfl
theorem d_Ch_readFrom_52 : decode prog_2_method_2_code 52 = .ok (.aload_n 1, 1) := by decide +kernel
set_option maxRecDepth 100000 in
theorem c_Ch_readFrom_53 : ct_Ch_readFrom 53 = ka_ci (nI 2) 1 := rfl
theorem d_Ch_readFrom_53 : decode prog_2_method_2_code 53 = .ok (.iconst 2, 1) := by decide +kernel
set_option maxRecDepth 100000 in
theorem c_Ch_readFrom_54 : ct_Ch_readFrom 54 = ka_cv 34 1 1 0 0 := rfl
theorem d_Ch_readFrom_54 : decode prog_2_method_2_code 54 = .ok (.invokevirtual 42, 3) := by decide +kernel
set_option maxRecDepth 100000 in
theorem c_Ch_readFrom_57 : ct_Ch_readFrom 57 = ka_iast := rfl
theorem d_Ch_readFrom_57 : decode prog_2_method_2_code 57 = .ok (.iastore, 1) := by decide +kernel
set_option maxRecDepth 100000 in
theorem c_Ch_readFrom_58 : ct_Ch_readFrom 58 = ka_al 0 1 := rfl
theorem d_Ch_readFrom_58 : decode prog_2_method_2_code 58 = .ok (.aload_n 0, 1) := by decide +kernel
set_option maxRecDepth 100000 in
theorem c_Ch_readFrom_59 : ct_Ch_readFrom 59 = ka_al 1 1 := rfl
theorem d_Ch_readFrom_59 : decode prog_2_method_2_code 59 = .ok (.aload_n 1, 1) := by decide +kernel
set_option maxRecDepth 100000 in
theorem c_Ch_readFrom_60 : ct_Ch_readFrom 60 = ka_il 4 2 := rfl
theorem d_Ch_readFrom_60 : decode prog_2_method_2_code 60 = .ok (.iload 4, 2) := by decide +kernel
set_option maxRecDepth 100000 in
theorem c_Ch_readFrom_62 : ct_Ch_readFrom 62 = ka_cv 78 2 7 0 0 := rfl
theorem d_Ch_readFrom_62 : decode prog_2_method_2_code 62 = .ok (.invokevirtual 45, 3) := by decide +kernel
set_option maxRecDepth 100000 in
theorem c_Ch_readFrom_65 : ct_Ch_readFrom 65 = ka_al 1 1 := rfl
theorem d_Ch_readFrom_65 : decode prog_2_method_2_code 65 = .ok (.aload_n 1, 1) := by decide +kernel
set_option maxRecDepth 100000 in
theorem c_Ch_readFrom_66 : ct_Ch_readFrom 66 = ka_il 5 2 := rfl
theorem d_Ch_readFrom_66 : decode prog_2_method_2_code 66 = .ok (.iload 5, 2) := by decide +kernel
set_option maxRecDepth 100000 in
theorem c_Ch_readFrom_68 : ct_Ch_readFrom 68 = ka_cv 29 1 1 0 0 := rfl
theorem d_Ch_readFrom_68 : decode prog_2_method_2_code 68 = .ok (.invokevirtual 49, 3) := by decide +kernel
set_option maxRecDepth 100000 in
theorem c_Ch_readFrom_71 : ct_Ch_readFrom 71 = ka_goto 89 := rfl
theorem d_Ch_readFrom_71 : decode prog_2_method_2_code 71 = .ok (.goto 18, 3) := by decide +kernel
set_option maxRecDepth 100000 in
theorem c_Ch_readFrom_74 : ct_Ch_readFrom 74 = ka_al 0 1 := rfl
theorem d_Ch_readFrom_74 : decode prog_2_method_2_code 74 = .ok (.aload_n 0, 1) := by decide +kernel
set_option maxRecDepth 100000 in
theorem c_Ch_readFrom_75 : ct_Ch_readFrom 75 = ka_get 7 0 := rfl
theorem d_Ch_readFrom_75 : decode prog_2_method_2_code 75 = .ok (.getfield 9, 3) := by decide +kernel
set_option maxRecDepth 100000 in
theorem c_Ch_readFrom_78 : ct_Ch_readFrom 78 = ka_il 4 2 := rfl
theorem d_Ch_readFrom_78 : decode prog_2_method_2_code 78 = .ok (.iload 4, 2) := by decide +kernel
set_option maxRecDepth 100000 in
theorem c_Ch_readFrom_80 : ct_Ch_readFrom 80 = ka_ci (nI 0) 1 := rfl
theorem d_Ch_readFrom_80 : decode prog_2_method_2_code 80 = .ok (.iconst 0, 1) := by decide +kernel
set_option maxRecDepth 100000 in
theorem c_Ch_readFrom_81 : ct_Ch_readFrom 81 = ka_iast := rfl
theorem d_Ch_readFrom_81 : decode prog_2_method_2_code 81 = .ok (.iastore, 1) := by decide +kernel
set_option maxRecDepth 100000 in
theorem c_Ch_readFrom_82 : ct_Ch_readFrom 82 = ka_al 0 1 := rfl
theorem d_Ch_readFrom_82 : decode prog_2_method_2_code 82 = .ok (.aload_n 0, 1) := by decide +kernel
set_option maxRecDepth 100000 in
theorem c_Ch_readFrom_83 : ct_Ch_readFrom 83 = ka_al 1 1 := rfl
theorem d_Ch_readFrom_83 : decode prog_2_method_2_code 83 = .ok (.aload_n 1, 1) := by decide +kernel
set_option maxRecDepth 100000 in
theorem c_Ch_readFrom_84 : ct_Ch_readFrom 84 = ka_il 4 2 := rfl
theorem d_Ch_readFrom_84 : decode prog_2_method_2_code 84 = .ok (.iload 4, 2) := by decide +kernel
set_option maxRecDepth 100000 in
theorem c_Ch_readFrom_86 : ct_Ch_readFrom 86 = ka_cv 78 2 7 0 0 := rfl
theorem d_Ch_readFrom_86 : decode prog_2_method_2_code 86 = .ok (.invokevirtual 45, 3) := by decide +kernel
set_option maxRecDepth 100000 in
theorem c_Ch_readFrom_89 : ct_Ch_readFrom 89 = ka_al 0 1 := rfl
theorem d_Ch_readFrom_89 : decode prog_2_method_2_code 89 = .ok (.aload_n 0, 1) := by decide +kernel
set_option maxRecDepth 100000 in
theorem c_Ch_readFrom_90 : ct_Ch_readFrom 90 = ka_il 4 2 := rfl
theorem d_Ch_readFrom_90 : decode prog_2_method_2_code 90 = .ok (.iload 4, 2) := by decide +kernel
set_option maxRecDepth 100000 in
theorem c_Ch_readFrom_92 : ct_Ch_readFrom 92 = ka_ci (nI 1) 1 := rfl
theorem d_Ch_readFrom_92 : decode prog_2_method_2_code 92 = .ok (.iconst 1, 1) := by decide +kernel
set_option maxRecDepth 100000 in
theorem c_Ch_readFrom_93 : ct_Ch_readFrom 93 = ka_ii (fun x y => x + y) := rfl
theorem d_Ch_readFrom_93 : decode prog_2_method_2_code 93 = .ok (.iadd, 1) := by decide +kernel
set_option maxRecDepth 100000 in
theorem c_Ch_readFrom_94 : ct_Ch_readFrom 94 = ka_put 7 4 .int := rfl
theorem d_Ch_readFrom_94 : decode prog_2_method_2_code 94 = .ok (.putfield 25, 3) := by decide +kernel
set_option maxRecDepth 100000 in
theorem c_Ch_readFrom_97 : ct_Ch_readFrom 97 = ka_inc 4 (nI 1) := rfl
theorem d_Ch_readFrom_97 : decode prog_2_method_2_code 97 = .ok (.iinc 4 1, 3) := by decide +kernel
set_option maxRecDepth 100000 in
theorem c_Ch_readFrom_100 : ct_Ch_readFrom 100 = ka_goto 20 := rfl
theorem d_Ch_readFrom_100 : decode prog_2_method_2_code 100 = .ok (.goto (-80), 3) := by decide +kernel
set_option maxRecDepth 100000 in
theorem c_Ch_readFrom_103 : ct_Ch_readFrom 103 = ka_al 1 1 := rfl
theorem d_Ch_readFrom_103 : decode prog_2_method_2_code 103 = .ok (.aload_n 1, 1) := by decide +kernel
set_option maxRecDepth 100000 in
theorem c_Ch_readFrom_104 : ct_Ch_readFrom 104 = ka_il 3 1 := rfl
theorem d_Ch_readFrom_104 : decode prog_2_method_2_code 104 = .ok (.iload_n 3, 1) := by decide +kernel
set_option maxRecDepth 100000 in
theorem c_Ch_readFrom_105 : ct_Ch_readFrom 105 = ka_cv 29 1 1 0 0 := rfl
theorem d_Ch_readFrom_105 : decode prog_2_method_2_code 105 = .ok (.invokevirtual 49, 3) := by decide +kernel
set_option maxRecDepth 100000 in
theorem c_Ch_readFrom_108 : ct_Ch_readFrom 108 = ka_ret := rfl
theorem d_Ch_readFrom_108 : decode prog_2_method_2_code 108 = .ok (.return_, 1) := by decide +kernel
set_option maxRecDepth 100000 in
set_option maxHeartbeats 4000000 in
theorem s_Ch_readFrom_60 : ∀ pc, pc < 60 → kc_Sim kt kw_A kw_N kt_cl kt_En "DirectoryDesk$Changes" prog_2_method_2_code 6 (none) "readFrom" none pc (ct_Ch_readFrom pc) := by
  let P : Nat → Prop := fun pc => kc_Sim kt kw_A kw_N kt_cl kt_En "DirectoryDesk$Changes" prog_2_method_2_code 6 (none) "readFrom" none pc (ct_Ch_readFrom pc)
  exact kc_case (P := P) (kc_se c_Ch_readFrom_59 (sm_aload_n d_Ch_readFrom_59 rfl)) (
  kc_case (P := P) (kc_se c_Ch_readFrom_58 (sm_aload_n d_Ch_readFrom_58 rfl)) (
  kc_case (P := P) (kc_se c_Ch_readFrom_57 (sm_iast d_Ch_readFrom_57)) (
  kc_case (P := P) (kc_se rfl sm_no) (
  kc_case (P := P) (kc_se rfl sm_no) (
  kc_case (P := P) (kc_se c_Ch_readFrom_54 (sm_cv (j := 34) rfl rfl kw_o kw_g wc_Rd_choice (Nat.le_of_ble_eq_true rfl) hd_Rd_choice (ci := 1) (F := kF_Rd) (N := 8) rfl (kw3 56 rfl rfl) wi_Rd_choice ws_Rd_choice wn_Rd_choice d_Ch_readFrom_54)) (
  kc_case (P := P) (kc_se c_Ch_readFrom_53 (sm_iconst d_Ch_readFrom_53 (by decide))) (
  kc_case (P := P) (kc_se c_Ch_readFrom_52 (sm_aload_n d_Ch_readFrom_52 rfl)) (
  kc_case (P := P) (kc_se rfl sm_no) (
  kc_case (P := P) (kc_se c_Ch_readFrom_50 (sm_iload d_Ch_readFrom_50)) (
  kc_case (P := P) (kc_se rfl sm_no) (
  kc_case (P := P) (kc_se rfl sm_no) (
  kc_case (P := P) (kc_se c_Ch_readFrom_47 (sm_get (ci := 7) (C := "DirectoryDesk$Changes") (F := kF_Ch) rfl kin_Ch (Nat.le_of_ble_eq_true rfl) d_Ch_readFrom_47 (kw1 177 rfl rfl))) (
  kc_case (P := P) (kc_se c_Ch_readFrom_46 (sm_aload_n d_Ch_readFrom_46 rfl)) (
  kc_case (P := P) (kc_se rfl sm_no) (
  kc_case (P := P) (kc_se c_Ch_readFrom_44 (sm_istore d_Ch_readFrom_44 (Nat.le_of_ble_eq_true rfl))) (
  kc_case (P := P) (kc_se rfl sm_no) (
  kc_case (P := P) (kc_se rfl sm_no) (
  kc_case (P := P) (kc_se c_Ch_readFrom_41 (sm_cv (j := 28) rfl rfl kw_o kw_g wc_Rd_enter (Nat.le_of_ble_eq_true rfl) hd_Rd_enter (ci := 1) (F := kF_Rd) (N := 8) rfl (kw3 54 rfl rfl) wi_Rd_enter ws_Rd_enter wn_Rd_enter d_Ch_readFrom_41)) (
  kc_case (P := P) (kc_se rfl sm_no) (
  kc_case (P := P) (kc_se c_Ch_readFrom_39 (sm_bipush d_Ch_readFrom_39 (by decide))) (
  kc_case (P := P) (kc_se c_Ch_readFrom_38 (sm_aload_n d_Ch_readFrom_38 rfl)) (
  kc_case (P := P) (kc_se rfl sm_no) (
  kc_case (P := P) (kc_se rfl sm_no) (
  kc_case (P := P) (kc_se c_Ch_readFrom_35 (sm_if_eq d_Ch_readFrom_35 (by decide))) (
  kc_case (P := P) (kc_se c_Ch_readFrom_34 (sm_iload_n d_Ch_readFrom_34 rfl)) (
  kc_case (P := P) (kc_se rfl sm_no) (
  kc_case (P := P) (kc_se rfl sm_no) (
  kc_case (P := P) (kc_se c_Ch_readFrom_31 (sm_if_eq d_Ch_readFrom_31 (by decide))) (
  kc_case (P := P) (kc_se rfl sm_no) (
  kc_case (P := P) (kc_se rfl sm_no) (
  kc_case (P := P) (kc_se c_Ch_readFrom_28 (sm_cv (j := 30) rfl rfl kw_o kw_g wc_Rd_hasMore (Nat.le_of_ble_eq_true rfl) hd_Rd_hasMore (ci := 1) (F := kF_Rd) (N := 8) rfl (kw3 55 rfl rfl) wi_Rd_hasMore ws_Rd_hasMore wn_Rd_hasMore d_Ch_readFrom_28)) (
  kc_case (P := P) (kc_se c_Ch_readFrom_27 (sm_aload_n d_Ch_readFrom_27 rfl)) (
  kc_case (P := P) (kc_se rfl sm_no) (
  kc_case (P := P) (kc_se rfl sm_no) (
  kc_case (P := P) (kc_se c_Ch_readFrom_24 (sm_cm_ge d_Ch_readFrom_24 (by decide))) (
  kc_case (P := P) (kc_se rfl sm_no) (
  kc_case (P := P) (kc_se c_Ch_readFrom_22 (sm_bipush d_Ch_readFrom_22 (by decide))) (
  kc_case (P := P) (kc_se rfl sm_no) (
  kc_case (P := P) (kc_se c_Ch_readFrom_20 (sm_iload d_Ch_readFrom_20)) (
  kc_case (P := P) (kc_se rfl sm_no) (
  kc_case (P := P) (kc_se c_Ch_readFrom_18 (sm_istore d_Ch_readFrom_18 (Nat.le_of_ble_eq_true rfl))) (
  kc_case (P := P) (kc_se c_Ch_readFrom_17 (sm_iconst d_Ch_readFrom_17 (by decide))) (
  kc_case (P := P) (kc_se c_Ch_readFrom_16 (sm_istore_n d_Ch_readFrom_16 rfl (Nat.le_of_ble_eq_true rfl))) (
  kc_case (P := P) (kc_se rfl sm_no) (
  kc_case (P := P) (kc_se rfl sm_no) (
  kc_case (P := P) (kc_se c_Ch_readFrom_13 (sm_cv (j := 28) rfl rfl kw_o kw_g wc_Rd_enter (Nat.le_of_ble_eq_true rfl) hd_Rd_enter (ci := 1) (F := kF_Rd) (N := 8) rfl (kw3 54 rfl rfl) wi_Rd_enter ws_Rd_enter wn_Rd_enter d_Ch_readFrom_13)) (
  kc_case (P := P) (kc_se rfl sm_no) (
  kc_case (P := P) (kc_se c_Ch_readFrom_11 (sm_bipush d_Ch_readFrom_11 (by decide))) (
  kc_case (P := P) (kc_se c_Ch_readFrom_10 (sm_aload_n d_Ch_readFrom_10 rfl)) (
  kc_case (P := P) (kc_se rfl sm_no) (
  kc_case (P := P) (kc_se rfl sm_no) (
  kc_case (P := P) (kc_se c_Ch_readFrom_7 (sm_put (ci := 7) (C := "DirectoryDesk$Changes") (F := kF_Ch) rfl kin_Ch kty_Ch ktk_Ch knm_Ch (Nat.le_of_ble_eq_true rfl) (by decide +kernel) d_Ch_readFrom_7 (kw1 182 rfl rfl) rfl)) (
  kc_case (P := P) (kc_se c_Ch_readFrom_6 (sm_iconst d_Ch_readFrom_6 (by decide))) (
  kc_case (P := P) (kc_se c_Ch_readFrom_5 (sm_aload_n d_Ch_readFrom_5 rfl)) (
  kc_case (P := P) (kc_se rfl sm_no) (
  kc_case (P := P) (kc_se rfl sm_no) (
  kc_case (P := P) (kc_se c_Ch_readFrom_2 (sm_put (ci := 7) (C := "DirectoryDesk$Changes") (F := kF_Ch) rfl kin_Ch kty_Ch ktk_Ch knm_Ch (Nat.le_of_ble_eq_true rfl) (by decide +kernel) d_Ch_readFrom_2 (kw1 181 rfl rfl) rfl)) (
  kc_case (P := P) (kc_se c_Ch_readFrom_1 (sm_iconst d_Ch_readFrom_1 (by decide))) (
  kc_case (P := P) (kc_se c_Ch_readFrom_0 (sm_aload_n d_Ch_readFrom_0 rfl)) (
  kc_case0))))))))))))))))))))))))))))))))))))))))))))))))))))))))))))
set_option maxRecDepth 100000 in
set_option maxHeartbeats 4000000 in
theorem s_Ch_readFrom_109 : ∀ pc, pc < 109 → kc_Sim kt kw_A kw_N kt_cl kt_En "DirectoryDesk$Changes" prog_2_method_2_code 6 (none) "readFrom" none pc (ct_Ch_readFrom pc) := by
  let P : Nat → Prop := fun pc => kc_Sim kt kw_A kw_N kt_cl kt_En "DirectoryDesk$Changes" prog_2_method_2_code 6 (none) "readFrom" none pc (ct_Ch_readFrom pc)
  exact kc_case (P := P) (kc_se c_Ch_readFrom_108 (sm_ret d_Ch_readFrom_108 rfl)) (
  kc_case (P := P) (kc_se rfl sm_no) (
  kc_case (P := P) (kc_se rfl sm_no) (
  kc_case (P := P) (kc_se c_Ch_readFrom_105 (sm_cv (j := 29) rfl rfl kw_o kw_g wc_Rd_leave (Nat.le_of_ble_eq_true rfl) hd_Rd_leave (ci := 1) (F := kF_Rd) (N := 8) rfl (kw3 64 rfl rfl) wi_Rd_leave ws_Rd_leave wn_Rd_leave d_Ch_readFrom_105)) (
  kc_case (P := P) (kc_se c_Ch_readFrom_104 (sm_iload_n d_Ch_readFrom_104 rfl)) (
  kc_case (P := P) (kc_se c_Ch_readFrom_103 (sm_aload_n d_Ch_readFrom_103 rfl)) (
  kc_case (P := P) (kc_se rfl sm_no) (
  kc_case (P := P) (kc_se rfl sm_no) (
  kc_case (P := P) (kc_se c_Ch_readFrom_100 (sm_goto d_Ch_readFrom_100 (by decide))) (
  kc_case (P := P) (kc_se rfl sm_no) (
  kc_case (P := P) (kc_se rfl sm_no) (
  kc_case (P := P) (kc_se c_Ch_readFrom_97 (sm_inc d_Ch_readFrom_97 (by decide) (Nat.le_of_ble_eq_true rfl))) (
  kc_case (P := P) (kc_se rfl sm_no) (
  kc_case (P := P) (kc_se rfl sm_no) (
  kc_case (P := P) (kc_se c_Ch_readFrom_94 (sm_put (ci := 7) (C := "DirectoryDesk$Changes") (F := kF_Ch) rfl kin_Ch kty_Ch ktk_Ch knm_Ch (Nat.le_of_ble_eq_true rfl) (by decide +kernel) d_Ch_readFrom_94 (kw1 181 rfl rfl) rfl)) (
  kc_case (P := P) (kc_se c_Ch_readFrom_93 (sm_iadd d_Ch_readFrom_93)) (
  kc_case (P := P) (kc_se c_Ch_readFrom_92 (sm_iconst d_Ch_readFrom_92 (by decide))) (
  kc_case (P := P) (kc_se rfl sm_no) (
  kc_case (P := P) (kc_se c_Ch_readFrom_90 (sm_iload d_Ch_readFrom_90)) (
  kc_case (P := P) (kc_se c_Ch_readFrom_89 (sm_aload_n d_Ch_readFrom_89 rfl)) (
  kc_case (P := P) (kc_se rfl sm_no) (
  kc_case (P := P) (kc_se rfl sm_no) (
  kc_case (P := P) (kc_se c_Ch_readFrom_86 (sm_cv (j := 78) rfl rfl kw_o kw_g wc_Ch_readAttribute (Nat.le_of_ble_eq_true rfl) hd_Ch_readAttribute (ci := 7) (F := kF_Ch) (N := 6) rfl (kw3 57 rfl rfl) wi_Ch_readAttribute ws_Ch_readAttribute wn_Ch_readAttribute d_Ch_readFrom_86)) (
  kc_case (P := P) (kc_se rfl sm_no) (
  kc_case (P := P) (kc_se c_Ch_readFrom_84 (sm_iload d_Ch_readFrom_84)) (
  kc_case (P := P) (kc_se c_Ch_readFrom_83 (sm_aload_n d_Ch_readFrom_83 rfl)) (
  kc_case (P := P) (kc_se c_Ch_readFrom_82 (sm_aload_n d_Ch_readFrom_82 rfl)) (
  kc_case (P := P) (kc_se c_Ch_readFrom_81 (sm_iast d_Ch_readFrom_81)) (
  kc_case (P := P) (kc_se c_Ch_readFrom_80 (sm_iconst d_Ch_readFrom_80 (by decide))) (
  kc_case (P := P) (kc_se rfl sm_no) (
  kc_case (P := P) (kc_se c_Ch_readFrom_78 (sm_iload d_Ch_readFrom_78)) (
  kc_case (P := P) (kc_se rfl sm_no) (
  kc_case (P := P) (kc_se rfl sm_no) (
  kc_case (P := P) (kc_se c_Ch_readFrom_75 (sm_get (ci := 7) (C := "DirectoryDesk$Changes") (F := kF_Ch) rfl kin_Ch (Nat.le_of_ble_eq_true rfl) d_Ch_readFrom_75 (kw1 177 rfl rfl))) (
  kc_case (P := P) (kc_se c_Ch_readFrom_74 (sm_aload_n d_Ch_readFrom_74 rfl)) (
  kc_case (P := P) (kc_se rfl sm_no) (
  kc_case (P := P) (kc_se rfl sm_no) (
  kc_case (P := P) (kc_se c_Ch_readFrom_71 (sm_goto d_Ch_readFrom_71 (by decide))) (
  kc_case (P := P) (kc_se rfl sm_no) (
  kc_case (P := P) (kc_se rfl sm_no) (
  kc_case (P := P) (kc_se c_Ch_readFrom_68 (sm_cv (j := 29) rfl rfl kw_o kw_g wc_Rd_leave (Nat.le_of_ble_eq_true rfl) hd_Rd_leave (ci := 1) (F := kF_Rd) (N := 8) rfl (kw3 64 rfl rfl) wi_Rd_leave ws_Rd_leave wn_Rd_leave d_Ch_readFrom_68)) (
  kc_case (P := P) (kc_se rfl sm_no) (
  kc_case (P := P) (kc_se c_Ch_readFrom_66 (sm_iload d_Ch_readFrom_66)) (
  kc_case (P := P) (kc_se c_Ch_readFrom_65 (sm_aload_n d_Ch_readFrom_65 rfl)) (
  kc_case (P := P) (kc_se rfl sm_no) (
  kc_case (P := P) (kc_se rfl sm_no) (
  kc_case (P := P) (kc_se c_Ch_readFrom_62 (sm_cv (j := 78) rfl rfl kw_o kw_g wc_Ch_readAttribute (Nat.le_of_ble_eq_true rfl) hd_Ch_readAttribute (ci := 7) (F := kF_Ch) (N := 6) rfl (kw3 57 rfl rfl) wi_Ch_readAttribute ws_Ch_readAttribute wn_Ch_readAttribute d_Ch_readFrom_62)) (
  kc_case (P := P) (kc_se rfl sm_no) (
  kc_case (P := P) (kc_se c_Ch_readFrom_60 (sm_iload d_Ch_readFrom_60)) (
  s_Ch_readFrom_60)))))))))))))))))))))))))))))))))))))))))))))))))
theorem ka_nth_no_Ch_readFrom (pc : Nat) (h : 109 ≤ pc) : ct_Ch_readFrom pc = ka_no := ka_nth_ge _ pc (Nat.le_trans (Nat.le_of_eq (by rfl)) h)
theorem s_Ch_readFrom (pc : Nat) : kc_Sim kt kw_A kw_N kt_cl kt_En "DirectoryDesk$Changes" prog_2_method_2_code 6 (none) "readFrom" none pc (ct_Ch_readFrom pc) := (Nat.lt_or_ge pc 109).elim (s_Ch_readFrom_109 pc) (fun h => kc_se (ka_nth_no_Ch_readFrom pc h) sm_no)
def cl_Ch_readAttribute_0 : List kc_A := [ka_al 1 1, ka_ci (nI 48) 2, ka_no, ka_cv 28 1 1 0 0, ka_no, ka_no, ka_is 3 1, ka_al 1 1, ka_ci (nI 4) 1, ka_cv 37 1 1 0 0, ka_no, ka_no, ka_al 0 1, ka_get 7 1, ka_no, ka_no, ka_il 2 1, ka_al 1 1, ka_cv 39 0 1 0 0, ka_no, ka_no, ka_iast, ka_al 1 1, ka_ci (nI 49) 2, ka_no, ka_cv 28 1 1 0 0, ka_no, ka_no, ka_is 4 2, ka_no, ka_al 0 1, ka_get 7 5, ka_no, ka_no, ka_is 5 2, ka_no, ka_il 5 2, ka_no, ka_ci (nI 24) 2, ka_no, ka_cm (fun x y => y ≤ x) 80, ka_no, ka_no, ka_al 1 1, ka_cv 30 0 1 0 0, ka_no, ka_no, ka_if (fun x => x = 0) 80, ka_no, ka_no, ka_al 1 1, ka_ci (nI 4) 1, ka_cv 37 1 1 0 0, ka_no, ka_no, ka_al 0 1, ka_get 7 3, ka_no, ka_no, ka_il 5 2]
def cl_Ch_readAttribute_1 : List kc_A := [ka_no, ka_al 1 1, ka_cv 40 0 1 0 0, ka_no, ka_no, ka_last, ka_al 0 1, ka_il 5 2, ka_no, ka_ci (nI 1) 1, ka_ii (fun x y => x + y), ka_put 7 5 .int, ka_no, ka_no, ka_inc 5 (nI 1), ka_no, ka_no, ka_goto 36, ka_no, ka_no, ka_al 0 1, ka_get 7 2, ka_no, ka_no, ka_il 2 1, ka_al 0 1, ka_get 7 5, ka_no, ka_no, ka_iast, ka_al 1 1, ka_il 4 2, ka_no, ka_cv 29 1 1 0 0, ka_no, ka_no, ka_al 1 1, ka_il 3 1, ka_cv 29 1 1 0 0, ka_no, ka_no, ka_ret]
def ct_Ch_readAttribute : Nat → kc_A := fun pc => ka_nth (cl_Ch_readAttribute_0 ++ (cl_Ch_readAttribute_1)) pc
set_option maxRecDepth 100000 in
theorem c_Ch_readAttribute_0 : ct_Ch_readAttribute 0 = ka_al 1 1 := rfl
theorem d_Ch_readAttribute_0 : decode prog_2_method_3_code 0 = .ok (.aload_n 1, 1) := by decide +kernel
set_option maxRecDepth 100000 in
theorem c_Ch_readAttribute_1 : ct_Ch_readAttribute 1 = ka_ci (nI 48) 2 := rfl
theorem d_Ch_readAttribute_1 : decode prog_2_method_3_code 1 = .ok (.bipush 48, 2) := by decide +kernel
set_option maxRecDepth 100000 in
theorem c_Ch_readAttribute_3 : ct_Ch_readAttribute 3 = ka_cv 28 1 1 0 0 := rfl
theorem d_Ch_readAttribute_3 : decode prog_2_method_3_code 3 = .ok (.invokevirtual 32, 3) := by decide +kernel
set_option maxRecDepth 100000 in
theorem c_Ch_readAttribute_6 : ct_Ch_readAttribute 6 = ka_is 3 1 := rfl
theorem d_Ch_readAttribute_6 : decode prog_2_method_3_code 6 = .ok (.istore_n 3, 1) := by decide +kernel
set_option maxRecDepth 100000 in
theorem c_Ch_readAttribute_7 : ct_Ch_readAttribute 7 = ka_al 1 1 := rfl
theorem d_Ch_readAttribute_7 : decode prog_2_method_3_code 7 = .ok (.aload_n 1, 1) := by decide +kernel
set_option maxRecDepth 100000 in
theorem c_Ch_readAttribute_8 : ct_Ch_readAttribute 8 = ka_ci (nI 4) 1 := rfl
theorem d_Ch_readAttribute_8 : decode prog_2_method_3_code 8 = .ok (.iconst 4, 1) := by decide +kernel
set_option maxRecDepth 100000 in
theorem c_Ch_readAttribute_9 : ct_Ch_readAttribute 9 = ka_cv 37 1 1 0 0 := rfl
theorem d_Ch_readAttribute_9 : decode prog_2_method_3_code 9 = .ok (.invokevirtual 53, 3) := by decide +kernel
set_option maxRecDepth 100000 in
theorem c_Ch_readAttribute_12 : ct_Ch_readAttribute 12 = ka_al 0 1 := rfl
theorem d_Ch_readAttribute_12 : decode prog_2_method_3_code 12 = .ok (.aload_n 0, 1) := by decide +kernel
set_option maxRecDepth 100000 in
theorem c_Ch_readAttribute_13 : ct_Ch_readAttribute 13 = ka_get 7 1 := rfl
theorem d_Ch_readAttribute_13 : decode prog_2_method_3_code 13 = .ok (.getfield 15, 3) := by decide +kernel
set_option maxRecDepth 100000 in
theorem c_Ch_readAttribute_16 : ct_Ch_readAttribute 16 = ka_il 2 1 := rfl
theorem d_Ch_readAttribute_16 : decode prog_2_method_3_code 16 = .ok (.iload_n 2, 1) := by decide +kernel
set_option maxRecDepth 100000 in
theorem c_Ch_readAttribute_17 : ct_Ch_readAttribute 17 = ka_al 1 1 := rfl
theorem d_Ch_readAttribute_17 : decode prog_2_method_3_code 17 = .ok (.aload_n 1, 1) := by decide +kernel
set_option maxRecDepth 100000 in
theorem c_Ch_readAttribute_18 : ct_Ch_readAttribute 18 = ka_cv 39 0 1 0 0 := rfl
theorem d_Ch_readAttribute_18 : decode prog_2_method_3_code 18 = .ok (.invokevirtual 56, 3) := by decide +kernel
set_option maxRecDepth 100000 in
theorem c_Ch_readAttribute_21 : ct_Ch_readAttribute 21 = ka_iast := rfl
theorem d_Ch_readAttribute_21 : decode prog_2_method_3_code 21 = .ok (.iastore, 1) := by decide +kernel
set_option maxRecDepth 100000 in
theorem c_Ch_readAttribute_22 : ct_Ch_readAttribute 22 = ka_al 1 1 := rfl
theorem d_Ch_readAttribute_22 : decode prog_2_method_3_code 22 = .ok (.aload_n 1, 1) := by decide +kernel
set_option maxRecDepth 100000 in
theorem c_Ch_readAttribute_23 : ct_Ch_readAttribute 23 = ka_ci (nI 49) 2 := rfl
theorem d_Ch_readAttribute_23 : decode prog_2_method_3_code 23 = .ok (.bipush 49, 2) := by decide +kernel
set_option maxRecDepth 100000 in
theorem c_Ch_readAttribute_25 : ct_Ch_readAttribute 25 = ka_cv 28 1 1 0 0 := rfl
theorem d_Ch_readAttribute_25 : decode prog_2_method_3_code 25 = .ok (.invokevirtual 32, 3) := by decide +kernel
set_option maxRecDepth 100000 in
theorem c_Ch_readAttribute_28 : ct_Ch_readAttribute 28 = ka_is 4 2 := rfl
theorem d_Ch_readAttribute_28 : decode prog_2_method_3_code 28 = .ok (.istore 4, 2) := by decide +kernel
set_option maxRecDepth 100000 in
theorem c_Ch_readAttribute_30 : ct_Ch_readAttribute 30 = ka_al 0 1 := rfl
theorem d_Ch_readAttribute_30 : decode prog_2_method_3_code 30 = .ok (.aload_n 0, 1) := by decide +kernel
set_option maxRecDepth 100000 in
theorem c_Ch_readAttribute_31 : ct_Ch_readAttribute 31 = ka_get 7 5 := rfl
theorem d_Ch_readAttribute_31 : decode prog_2_method_3_code 31 = .ok (.getfield 29, 3) := by decide +kernel
set_option maxRecDepth 100000 in
theorem c_Ch_readAttribute_34 : ct_Ch_readAttribute 34 = ka_is 5 2 := rfl
theorem d_Ch_readAttribute_34 : decode prog_2_method_3_code 34 = .ok (.istore 5, 2) := by decide +kernel
set_option maxRecDepth 100000 in
theorem c_Ch_readAttribute_36 : ct_Ch_readAttribute 36 = ka_il 5 2 := rfl
theorem d_Ch_readAttribute_36 : decode prog_2_method_3_code 36 = .ok (.iload 5, 2) := by decide +kernel
set_option maxRecDepth 100000 in
theorem c_Ch_readAttribute_38 : ct_Ch_readAttribute 38 = ka_ci (nI 24) 2 := rfl
theorem d_Ch_readAttribute_38 : decode prog_2_method_3_code 38 = .ok (.bipush 24, 2) := by decide +kernel
set_option maxRecDepth 100000 in
theorem c_Ch_readAttribute_40 : ct_Ch_readAttribute 40 = ka_cm (fun x y => y ≤ x) 80 := rfl
theorem d_Ch_readAttribute_40 : decode prog_2_method_3_code 40 = .ok (.if_icmp .ge 40, 3) := by decide +kernel
set_option maxRecDepth 100000 in
theorem c_Ch_readAttribute_43 : ct_Ch_readAttribute 43 = ka_al 1 1 := rfl
theorem d_Ch_readAttribute_43 : decode prog_2_method_3_code 43 = .ok (.aload_n 1, 1) := by decide +kernel
set_option maxRecDepth 100000 in
theorem c_Ch_readAttribute_44 : ct_Ch_readAttribute 44 = ka_cv 30 0 1 0 0 := rfl
theorem d_Ch_readAttribute_44 : decode prog_2_method_3_code 44 = .ok (.invokevirtual 38, 3) := by decide +kernel
set_option maxRecDepth 100000 in
theorem c_Ch_readAttribute_47 : ct_Ch_readAttribute 47 = ka_if (fun x => x = 0) 80 := rfl
theorem d_Ch_readAttribute_47 : decode prog_2_method_3_code 47 = .ok (.ifCond .eq 33, 3) := by decide +kernel
set_option maxRecDepth 100000 in
theorem c_Ch_readAttribute_50 : ct_Ch_readAttribute 50 = ka_al 1 1 := rfl
theorem d_Ch_readAttribute_50 : decode prog_2_method_3_code 50 = .ok (.aload_n 1, 1) := by decide +kernel
set_option maxRecDepth 100000 in
theorem c_Ch_readAttribute_51 : ct_Ch_readAttribute 51 = ka_ci (nI 4) 1 := rfl
theorem d_Ch_readAttribute_51 : decode prog_2_method_3_code 51 = .ok (.iconst 4, 1) := by decide +kernel
set_option maxRecDepth 100000 in
theorem c_Ch_readAttribute_52 : ct_Ch_readAttribute 52 = ka_cv 37 1 1 0 0 := rfl
theorem d_Ch_readAttribute_52 : decode prog_2_method_3_code 52 = .ok (.invokevirtual 53, 3) := by decide +kernel
set_option maxRecDepth 100000 in
theorem c_Ch_readAttribute_55 : ct_Ch_readAttribute 55 = ka_al 0 1 := rfl
theorem d_Ch_readAttribute_55 : decode prog_2_method_3_code 55 = .ok (.aload_n 0, 1) := by decide +kernel
set_option maxRecDepth 100000 in
theorem c_Ch_readAttribute_56 : ct_Ch_readAttribute 56 = ka_get 7 3 := rfl
theorem d_Ch_readAttribute_56 : decode prog_2_method_3_code 56 = .ok (.getfield 21, 3) := by decide +kernel
set_option maxRecDepth 100000 in
theorem c_Ch_readAttribute_59 : ct_Ch_readAttribute 59 = ka_il 5 2 := rfl
theorem d_Ch_readAttribute_59 : decode prog_2_method_3_code 59 = .ok (.iload 5, 2) := by decide +kernel
set_option maxRecDepth 100000 in
theorem c_Ch_readAttribute_61 : ct_Ch_readAttribute 61 = ka_al 1 1 := rfl
theorem d_Ch_readAttribute_61 : decode prog_2_method_3_code 61 = .ok (.aload_n 1, 1) := by decide +kernel
set_option maxRecDepth 100000 in
theorem c_Ch_readAttribute_62 : ct_Ch_readAttribute 62 = ka_cv 40 0 1 0 0 := rfl
theorem d_Ch_readAttribute_62 : decode prog_2_method_3_code 62 = .ok (.invokevirtual 60, 3) := by decide +kernel
set_option maxRecDepth 100000 in
theorem c_Ch_readAttribute_65 : ct_Ch_readAttribute 65 = ka_last := rfl
theorem d_Ch_readAttribute_65 : decode prog_2_method_3_code 65 = .ok (.lastore, 1) := by decide +kernel
set_option maxRecDepth 100000 in
theorem c_Ch_readAttribute_66 : ct_Ch_readAttribute 66 = ka_al 0 1 := rfl
theorem d_Ch_readAttribute_66 : decode prog_2_method_3_code 66 = .ok (.aload_n 0, 1) := by decide +kernel
set_option maxRecDepth 100000 in
theorem c_Ch_readAttribute_67 : ct_Ch_readAttribute 67 = ka_il 5 2 := rfl
theorem d_Ch_readAttribute_67 : decode prog_2_method_3_code 67 = .ok (.iload 5, 2) := by decide +kernel
set_option maxRecDepth 100000 in
theorem c_Ch_readAttribute_69 : ct_Ch_readAttribute 69 = ka_ci (nI 1) 1 := rfl
theorem d_Ch_readAttribute_69 : decode prog_2_method_3_code 69 = .ok (.iconst 1, 1) := by decide +kernel
set_option maxRecDepth 100000 in
theorem c_Ch_readAttribute_70 : ct_Ch_readAttribute 70 = ka_ii (fun x y => x + y) := rfl
theorem d_Ch_readAttribute_70 : decode prog_2_method_3_code 70 = .ok (.iadd, 1) := by decide +kernel
set_option maxRecDepth 100000 in
theorem c_Ch_readAttribute_71 : ct_Ch_readAttribute 71 = ka_put 7 5 .int := rfl
theorem d_Ch_readAttribute_71 : decode prog_2_method_3_code 71 = .ok (.putfield 29, 3) := by decide +kernel
set_option maxRecDepth 100000 in
theorem c_Ch_readAttribute_74 : ct_Ch_readAttribute 74 = ka_inc 5 (nI 1) := rfl
theorem d_Ch_readAttribute_74 : decode prog_2_method_3_code 74 = .ok (.iinc 5 1, 3) := by decide +kernel
set_option maxRecDepth 100000 in
theorem c_Ch_readAttribute_77 : ct_Ch_readAttribute 77 = ka_goto 36 := rfl
theorem d_Ch_readAttribute_77 : decode prog_2_method_3_code 77 = .ok (.goto (-41), 3) := by decide +kernel
set_option maxRecDepth 100000 in
theorem c_Ch_readAttribute_80 : ct_Ch_readAttribute 80 = ka_al 0 1 := rfl
theorem d_Ch_readAttribute_80 : decode prog_2_method_3_code 80 = .ok (.aload_n 0, 1) := by decide +kernel
set_option maxRecDepth 100000 in
theorem c_Ch_readAttribute_81 : ct_Ch_readAttribute 81 = ka_get 7 2 := rfl
theorem d_Ch_readAttribute_81 : decode prog_2_method_3_code 81 = .ok (.getfield 18, 3) := by decide +kernel
set_option maxRecDepth 100000 in
theorem c_Ch_readAttribute_84 : ct_Ch_readAttribute 84 = ka_il 2 1 := rfl
theorem d_Ch_readAttribute_84 : decode prog_2_method_3_code 84 = .ok (.iload_n 2, 1) := by decide +kernel
set_option maxRecDepth 100000 in
theorem c_Ch_readAttribute_85 : ct_Ch_readAttribute 85 = ka_al 0 1 := rfl
theorem d_Ch_readAttribute_85 : decode prog_2_method_3_code 85 = .ok (.aload_n 0, 1) := by decide +kernel
set_option maxRecDepth 100000 in
theorem c_Ch_readAttribute_86 : ct_Ch_readAttribute 86 = ka_get 7 5 := rfl
theorem d_Ch_readAttribute_86 : decode prog_2_method_3_code 86 = .ok (.getfield 29, 3) := by decide +kernel
set_option maxRecDepth 100000 in
theorem c_Ch_readAttribute_89 : ct_Ch_readAttribute 89 = ka_iast := rfl
theorem d_Ch_readAttribute_89 : decode prog_2_method_3_code 89 = .ok (.iastore, 1) := by decide +kernel
set_option maxRecDepth 100000 in
theorem c_Ch_readAttribute_90 : ct_Ch_readAttribute 90 = ka_al 1 1 := rfl
theorem d_Ch_readAttribute_90 : decode prog_2_method_3_code 90 = .ok (.aload_n 1, 1) := by decide +kernel
set_option maxRecDepth 100000 in
theorem c_Ch_readAttribute_91 : ct_Ch_readAttribute 91 = ka_il 4 2 := rfl
theorem d_Ch_readAttribute_91 : decode prog_2_method_3_code 91 = .ok (.iload 4, 2) := by decide +kernel
set_option maxRecDepth 100000 in
theorem c_Ch_readAttribute_93 : ct_Ch_readAttribute 93 = ka_cv 29 1 1 0 0 := rfl
theorem d_Ch_readAttribute_93 : decode prog_2_method_3_code 93 = .ok (.invokevirtual 49, 3) := by decide +kernel
set_option maxRecDepth 100000 in
theorem c_Ch_readAttribute_96 : ct_Ch_readAttribute 96 = ka_al 1 1 := rfl
theorem d_Ch_readAttribute_96 : decode prog_2_method_3_code 96 = .ok (.aload_n 1, 1) := by decide +kernel
set_option maxRecDepth 100000 in
theorem c_Ch_readAttribute_97 : ct_Ch_readAttribute 97 = ka_il 3 1 := rfl
theorem d_Ch_readAttribute_97 : decode prog_2_method_3_code 97 = .ok (.iload_n 3, 1) := by decide +kernel
set_option maxRecDepth 100000 in
theorem c_Ch_readAttribute_98 : ct_Ch_readAttribute 98 = ka_cv 29 1 1 0 0 := rfl
theorem d_Ch_readAttribute_98 : decode prog_2_method_3_code 98 = .ok (.invokevirtual 49, 3) := by decide +kernel
set_option maxRecDepth 100000 in
theorem c_Ch_readAttribute_101 : ct_Ch_readAttribute 101 = ka_ret := rfl
theorem d_Ch_readAttribute_101 : decode prog_2_method_3_code 101 = .ok (.return_, 1) := by decide +kernel
set_option maxRecDepth 100000 in
set_option maxHeartbeats 4000000 in
theorem s_Ch_readAttribute_60 : ∀ pc, pc < 60 → kc_Sim kt kw_A kw_N kt_cl kt_En "DirectoryDesk$Changes" prog_2_method_3_code 6 (none) "readAttribute" none pc (ct_Ch_readAttribute pc) := by
  let P : Nat → Prop := fun pc => kc_Sim kt kw_A kw_N kt_cl kt_En "DirectoryDesk$Changes" prog_2_method_3_code 6 (none) "readAttribute" none pc (ct_Ch_readAttribute pc)
  exact kc_case (P := P) (kc_se c_Ch_readAttribute_59 (sm_iload d_Ch_readAttribute_59)) (
  kc_case (P := P) (kc_se rfl sm_no) (
  kc_case (P := P) (kc_se rfl sm_no) (
  kc_case (P := P) (kc_se c_Ch_readAttribute_56 (sm_get (ci := 7) (C := "DirectoryDesk$Changes") (F := kF_Ch) rfl kin_Ch (Nat.le_of_ble_eq_true rfl) d_Ch_readAttribute_56 (kw1 180 rfl rfl))) (
  kc_case (P := P) (kc_se c_Ch_readAttribute_55 (sm_aload_n d_Ch_readAttribute_55 rfl)) (
  kc_case (P := P) (kc_se rfl sm_no) (
  kc_case (P := P) (kc_se rfl sm_no) (
  kc_case (P := P) (kc_se c_Ch_readAttribute_52 (sm_cv (j := 37) rfl rfl kw_o kw_g wc_Rd_span (Nat.le_of_ble_eq_true rfl) hd_Rd_span (ci := 1) (F := kF_Rd) (N := 8) rfl (kw3 61 rfl rfl) wi_Rd_span ws_Rd_span wn_Rd_span d_Ch_readAttribute_52)) (
  kc_case (P := P) (kc_se c_Ch_readAttribute_51 (sm_iconst d_Ch_readAttribute_51 (by decide))) (
  kc_case (P := P) (kc_se c_Ch_readAttribute_50 (sm_aload_n d_Ch_readAttribute_50 rfl)) (
  kc_case (P := P) (kc_se rfl sm_no) (
  kc_case (P := P) (kc_se rfl sm_no) (
  kc_case (P := P) (kc_se c_Ch_readAttribute_47 (sm_if_eq d_Ch_readAttribute_47 (by decide))) (
  kc_case (P := P) (kc_se rfl sm_no) (
  kc_case (P := P) (kc_se rfl sm_no) (
  kc_case (P := P) (kc_se c_Ch_readAttribute_44 (sm_cv (j := 30) rfl rfl kw_o kw_g wc_Rd_hasMore (Nat.le_of_ble_eq_true rfl) hd_Rd_hasMore (ci := 1) (F := kF_Rd) (N := 8) rfl (kw3 55 rfl rfl) wi_Rd_hasMore ws_Rd_hasMore wn_Rd_hasMore d_Ch_readAttribute_44)) (
  kc_case (P := P) (kc_se c_Ch_readAttribute_43 (sm_aload_n d_Ch_readAttribute_43 rfl)) (
  kc_case (P := P) (kc_se rfl sm_no) (
  kc_case (P := P) (kc_se rfl sm_no) (
  kc_case (P := P) (kc_se c_Ch_readAttribute_40 (sm_cm_ge d_Ch_readAttribute_40 (by decide))) (
  kc_case (P := P) (kc_se rfl sm_no) (
  kc_case (P := P) (kc_se c_Ch_readAttribute_38 (sm_bipush d_Ch_readAttribute_38 (by decide))) (
  kc_case (P := P) (kc_se rfl sm_no) (
  kc_case (P := P) (kc_se c_Ch_readAttribute_36 (sm_iload d_Ch_readAttribute_36)) (
  kc_case (P := P) (kc_se rfl sm_no) (
  kc_case (P := P) (kc_se c_Ch_readAttribute_34 (sm_istore d_Ch_readAttribute_34 (Nat.le_of_ble_eq_true rfl))) (
  kc_case (P := P) (kc_se rfl sm_no) (
  kc_case (P := P) (kc_se rfl sm_no) (
  kc_case (P := P) (kc_se c_Ch_readAttribute_31 (sm_get (ci := 7) (C := "DirectoryDesk$Changes") (F := kF_Ch) rfl kin_Ch (Nat.le_of_ble_eq_true rfl) d_Ch_readAttribute_31 (kw1 182 rfl rfl))) (
  kc_case (P := P) (kc_se c_Ch_readAttribute_30 (sm_aload_n d_Ch_readAttribute_30 rfl)) (
  kc_case (P := P) (kc_se rfl sm_no) (
  kc_case (P := P) (kc_se c_Ch_readAttribute_28 (sm_istore d_Ch_readAttribute_28 (Nat.le_of_ble_eq_true rfl))) (
  kc_case (P := P) (kc_se rfl sm_no) (
  kc_case (P := P) (kc_se rfl sm_no) (
  kc_case (P := P) (kc_se c_Ch_readAttribute_25 (sm_cv (j := 28) rfl rfl kw_o kw_g wc_Rd_enter (Nat.le_of_ble_eq_true rfl) hd_Rd_enter (ci := 1) (F := kF_Rd) (N := 8) rfl (kw3 54 rfl rfl) wi_Rd_enter ws_Rd_enter wn_Rd_enter d_Ch_readAttribute_25)) (
  kc_case (P := P) (kc_se rfl sm_no) (
  kc_case (P := P) (kc_se c_Ch_readAttribute_23 (sm_bipush d_Ch_readAttribute_23 (by decide))) (
  kc_case (P := P) (kc_se c_Ch_readAttribute_22 (sm_aload_n d_Ch_readAttribute_22 rfl)) (
  kc_case (P := P) (kc_se c_Ch_readAttribute_21 (sm_iast d_Ch_readAttribute_21)) (
  kc_case (P := P) (kc_se rfl sm_no) (
  kc_case (P := P) (kc_se rfl sm_no) (
  kc_case (P := P) (kc_se c_Ch_readAttribute_18 (sm_cv (j := 39) rfl rfl kw_o kw_g wc_Rd_spanType (Nat.le_of_ble_eq_true rfl) hd_Rd_spanType (ci := 1) (F := kF_Rd) (N := 8) rfl (kw3 62 rfl rfl) wi_Rd_spanType ws_Rd_spanType wn_Rd_spanType d_Ch_readAttribute_18)) (
  kc_case (P := P) (kc_se c_Ch_readAttribute_17 (sm_aload_n d_Ch_readAttribute_17 rfl)) (
  kc_case (P := P) (kc_se c_Ch_readAttribute_16 (sm_iload_n d_Ch_readAttribute_16 rfl)) (
  kc_case (P := P) (kc_se rfl sm_no) (
  kc_case (P := P) (kc_se rfl sm_no) (
  kc_case (P := P) (kc_se c_Ch_readAttribute_13 (sm_get (ci := 7) (C := "DirectoryDesk$Changes") (F := kF_Ch) rfl kin_Ch (Nat.le_of_ble_eq_true rfl) d_Ch_readAttribute_13 (kw1 178 rfl rfl))) (
  kc_case (P := P) (kc_se c_Ch_readAttribute_12 (sm_aload_n d_Ch_readAttribute_12 rfl)) (
  kc_case (P := P) (kc_se rfl sm_no) (
  kc_case (P := P) (kc_se rfl sm_no) (
  kc_case (P := P) (kc_se c_Ch_readAttribute_9 (sm_cv (j := 37) rfl rfl kw_o kw_g wc_Rd_span (Nat.le_of_ble_eq_true rfl) hd_Rd_span (ci := 1) (F := kF_Rd) (N := 8) rfl (kw3 61 rfl rfl) wi_Rd_span ws_Rd_span wn_Rd_span d_Ch_readAttribute_9)) (
  kc_case (P := P) (kc_se c_Ch_readAttribute_8 (sm_iconst d_Ch_readAttribute_8 (by decide))) (
  kc_case (P := P) (kc_se c_Ch_readAttribute_7 (sm_aload_n d_Ch_readAttribute_7 rfl)) (
  kc_case (P := P) (kc_se c_Ch_readAttribute_6 (sm_istore_n d_Ch_readAttribute_6 rfl (Nat.le_of_ble_eq_true rfl))) (
  kc_case (P := P) (kc_se rfl sm_no) (
  kc_case (P := P) (kc_se rfl sm_no) (
  kc_case (P := P) (kc_se c_Ch_readAttribute_3 (sm_cv (j := 28) rfl rfl kw_o kw_g wc_Rd_enter (Nat.le_of_ble_eq_true rfl) hd_Rd_enter (ci := 1) (F := kF_Rd) (N := 8) rfl (kw3 54 rfl rfl) wi_Rd_enter ws_Rd_enter wn_Rd_enter d_Ch_readAttribute_3)) (
  kc_case (P := P) (kc_se rfl sm_no) (
  kc_case (P := P) (kc_se c_Ch_readAttribute_1 (sm_bipush d_Ch_readAttribute_1 (by decide))) (
  kc_case (P := P) (kc_se c_Ch_readAttribute_0 (sm_aload_n d_Ch_readAttribute_0 rfl)) (
  kc_case0))))))))))))))))))))))))))))))))))))))))))))))))))))))))))))
set_option maxRecDepth 100000 in
set_option maxHeartbeats 4000000 in
theorem s_Ch_readAttribute_102 : ∀ pc, pc < 102 → kc_Sim kt kw_A kw_N kt_cl kt_En "DirectoryDesk$Changes" prog_2_method_3_code 6 (none) "readAttribute" none pc (ct_Ch_readAttribute pc) := by
  let P : Nat → Prop := fun pc => kc_Sim kt kw_A kw_N kt_cl kt_En "DirectoryDesk$Changes" prog_2_method_3_code 6 (none) "readAttribute" none pc (ct_Ch_readAttribute pc)
  exact kc_case (P := P) (kc_se c_Ch_readAttribute_101 (sm_ret d_Ch_readAttribute_101 rfl)) (
  kc_case (P := P) (kc_se rfl sm_no) (
  kc_case (P := P) (kc_se rfl sm_no) (
  kc_case (P := P) (kc_se c_Ch_readAttribute_98 (sm_cv (j := 29) rfl rfl kw_o kw_g wc_Rd_leave (Nat.le_of_ble_eq_true rfl) hd_Rd_leave (ci := 1) (F := kF_Rd) (N := 8) rfl (kw3 64 rfl rfl) wi_Rd_leave ws_Rd_leave wn_Rd_leave d_Ch_readAttribute_98)) (
  kc_case (P := P) (kc_se c_Ch_readAttribute_97 (sm_iload_n d_Ch_readAttribute_97 rfl)) (
  kc_case (P := P) (kc_se c_Ch_readAttribute_96 (sm_aload_n d_Ch_readAttribute_96 rfl)) (
  kc_case (P := P) (kc_se rfl sm_no) (
  kc_case (P := P) (kc_se rfl sm_no) (
  kc_case (P := P) (kc_se c_Ch_readAttribute_93 (sm_cv (j := 29) rfl rfl kw_o kw_g wc_Rd_leave (Nat.le_of_ble_eq_true rfl) hd_Rd_leave (ci := 1) (F := kF_Rd) (N := 8) rfl (kw3 64 rfl rfl) wi_Rd_leave ws_Rd_leave wn_Rd_leave d_Ch_readAttribute_93)) (
  kc_case (P := P) (kc_se rfl sm_no) (
  kc_case (P := P) (kc_se c_Ch_readAttribute_91 (sm_iload d_Ch_readAttribute_91)) (
  kc_case (P := P) (kc_se c_Ch_readAttribute_90 (sm_aload_n d_Ch_readAttribute_90 rfl)) (
  kc_case (P := P) (kc_se c_Ch_readAttribute_89 (sm_iast d_Ch_readAttribute_89)) (
  kc_case (P := P) (kc_se rfl sm_no) (
  kc_case (P := P) (kc_se rfl sm_no) (
  kc_case (P := P) (kc_se c_Ch_readAttribute_86 (sm_get (ci := 7) (C := "DirectoryDesk$Changes") (F := kF_Ch) rfl kin_Ch (Nat.le_of_ble_eq_true rfl) d_Ch_readAttribute_86 (kw1 182 rfl rfl))) (
  kc_case (P := P) (kc_se c_Ch_readAttribute_85 (sm_aload_n d_Ch_readAttribute_85 rfl)) (
  kc_case (P := P) (kc_se c_Ch_readAttribute_84 (sm_iload_n d_Ch_readAttribute_84 rfl)) (
  kc_case (P := P) (kc_se rfl sm_no) (
  kc_case (P := P) (kc_se rfl sm_no) (
  kc_case (P := P) (kc_se c_Ch_readAttribute_81 (sm_get (ci := 7) (C := "DirectoryDesk$Changes") (F := kF_Ch) rfl kin_Ch (Nat.le_of_ble_eq_true rfl) d_Ch_readAttribute_81 (kw1 179 rfl rfl))) (
  kc_case (P := P) (kc_se c_Ch_readAttribute_80 (sm_aload_n d_Ch_readAttribute_80 rfl)) (
  kc_case (P := P) (kc_se rfl sm_no) (
  kc_case (P := P) (kc_se rfl sm_no) (
  kc_case (P := P) (kc_se c_Ch_readAttribute_77 (sm_goto d_Ch_readAttribute_77 (by decide))) (
  kc_case (P := P) (kc_se rfl sm_no) (
  kc_case (P := P) (kc_se rfl sm_no) (
  kc_case (P := P) (kc_se c_Ch_readAttribute_74 (sm_inc d_Ch_readAttribute_74 (by decide) (Nat.le_of_ble_eq_true rfl))) (
  kc_case (P := P) (kc_se rfl sm_no) (
  kc_case (P := P) (kc_se rfl sm_no) (
  kc_case (P := P) (kc_se c_Ch_readAttribute_71 (sm_put (ci := 7) (C := "DirectoryDesk$Changes") (F := kF_Ch) rfl kin_Ch kty_Ch ktk_Ch knm_Ch (Nat.le_of_ble_eq_true rfl) (by decide +kernel) d_Ch_readAttribute_71 (kw1 182 rfl rfl) rfl)) (
  kc_case (P := P) (kc_se c_Ch_readAttribute_70 (sm_iadd d_Ch_readAttribute_70)) (
  kc_case (P := P) (kc_se c_Ch_readAttribute_69 (sm_iconst d_Ch_readAttribute_69 (by decide))) (
  kc_case (P := P) (kc_se rfl sm_no) (
  kc_case (P := P) (kc_se c_Ch_readAttribute_67 (sm_iload d_Ch_readAttribute_67)) (
  kc_case (P := P) (kc_se c_Ch_readAttribute_66 (sm_aload_n d_Ch_readAttribute_66 rfl)) (
  kc_case (P := P) (kc_se c_Ch_readAttribute_65 (sm_last d_Ch_readAttribute_65)) (
  kc_case (P := P) (kc_se rfl sm_no) (
  kc_case (P := P) (kc_se rfl sm_no) (
  kc_case (P := P) (kc_se c_Ch_readAttribute_62 (sm_cv (j := 40) rfl rfl kw_o kw_g wc_Rd_spanValue (Nat.le_of_ble_eq_true rfl) hd_Rd_spanValue (ci := 1) (F := kF_Rd) (N := 8) rfl (kw3 63 rfl rfl) wi_Rd_spanValue ws_Rd_spanValue wn_Rd_spanValue d_Ch_readAttribute_62)) (
  kc_case (P := P) (kc_se c_Ch_readAttribute_61 (sm_aload_n d_Ch_readAttribute_61 rfl)) (
  kc_case (P := P) (kc_se rfl sm_no) (
  s_Ch_readAttribute_60))))))))))))))))))))))))))))))))))))))))))
theorem ka_nth_no_Ch_readAttribute (pc : Nat) (h : 102 ≤ pc) : ct_Ch_readAttribute pc = ka_no := ka_nth_ge _ pc (Nat.le_trans (Nat.le_of_eq (by rfl)) h)
theorem s_Ch_readAttribute (pc : Nat) : kc_Sim kt kw_A kw_N kt_cl kt_En "DirectoryDesk$Changes" prog_2_method_3_code 6 (none) "readAttribute" none pc (ct_Ch_readAttribute pc) := (Nat.lt_or_ge pc 102).elim (s_Ch_readAttribute_102 pc) (fun h => kc_se (ka_nth_no_Ch_readAttribute pc h) sm_no)
def cl_Ch_applyTo_0 : List kc_A := [ka_ci (nI 0) 1, ka_is 2 1, ka_ci (nI 0) 1, ka_is 3 1, ka_il 3 1, ka_al 0 1, ka_get 7 4, ka_no, ka_no, ka_cm (fun x y => y ≤ x) 42, ka_no, ka_no, ka_al 0 1, ka_il 3 1, ka_il 2 1, ka_al 1 1, ka_cv 80 3 7 0 0, ka_no, ka_no, ka_is 4 2, ka_no, ka_il 4 2, ka_no, ka_if (fun x => x = 0) 29, ka_no, ka_no, ka_il 4 2, ka_no, ka_ri, ka_al 0 1, ka_get 7 2, ka_no, ka_no, ka_il 3 1, ka_iald, ka_is 2 1, ka_inc 3 (nI 1), ka_no, ka_no, ka_goto 4, ka_no, ka_no, ka_ci (nI 0) 1, ka_ri]
def ct_Ch_applyTo : Nat → kc_A := fun pc => ka_nth (cl_Ch_applyTo_0) pc
set_option maxRecDepth 100000 in
theorem c_Ch_applyTo_0 : ct_Ch_applyTo 0 = ka_ci (nI 0) 1 := rfl
theorem d_Ch_applyTo_0 : decode prog_2_method_4_code 0 = .ok (.iconst 0, 1) := by decide +kernel
set_option maxRecDepth 100000 in
theorem c_Ch_applyTo_1 : ct_Ch_applyTo 1 = ka_is 2 1 := rfl
theorem d_Ch_applyTo_1 : decode prog_2_method_4_code 1 = .ok (.istore_n 2, 1) := by decide +kernel
set_option maxRecDepth 100000 in
theorem c_Ch_applyTo_2 : ct_Ch_applyTo 2 = ka_ci (nI 0) 1 := rfl
theorem d_Ch_applyTo_2 : decode prog_2_method_4_code 2 = .ok (.iconst 0, 1) := by decide +kernel
set_option maxRecDepth 100000 in
theorem c_Ch_applyTo_3 : ct_Ch_applyTo 3 = ka_is 3 1 := rfl
theorem d_Ch_applyTo_3 : decode prog_2_method_4_code 3 = .ok (.istore_n 3, 1) := by decide +kernel
set_option maxRecDepth 100000 in
theorem c_Ch_applyTo_4 : ct_Ch_applyTo 4 = ka_il 3 1 := rfl
theorem d_Ch_applyTo_4 : decode prog_2_method_4_code 4 = .ok (.iload_n 3, 1) := by decide +kernel
set_option maxRecDepth 100000 in
theorem c_Ch_applyTo_5 : ct_Ch_applyTo 5 = ka_al 0 1 := rfl
theorem d_Ch_applyTo_5 : decode prog_2_method_4_code 5 = .ok (.aload_n 0, 1) := by decide +kernel
set_option maxRecDepth 100000 in
theorem c_Ch_applyTo_6 : ct_Ch_applyTo 6 = ka_get 7 4 := rfl
theorem d_Ch_applyTo_6 : decode prog_2_method_4_code 6 = .ok (.getfield 25, 3) := by decide +kernel
set_option maxRecDepth 100000 in
theorem c_Ch_applyTo_9 : ct_Ch_applyTo 9 = ka_cm (fun x y => y ≤ x) 42 := rfl
theorem d_Ch_applyTo_9 : decode prog_2_method_4_code 9 = .ok (.if_icmp .ge 33, 3) := by decide +kernel
set_option maxRecDepth 100000 in
theorem c_Ch_applyTo_12 : ct_Ch_applyTo 12 = ka_al 0 1 := rfl
theorem d_Ch_applyTo_12 : decode prog_2_method_4_code 12 = .ok (.aload_n 0, 1) := by decide +kernel
set_option maxRecDepth 100000 in
theorem c_Ch_applyTo_13 : ct_Ch_applyTo 13 = ka_il 3 1 := rfl
theorem d_Ch_applyTo_13 : decode prog_2_method_4_code 13 = .ok (.iload_n 3, 1) := by decide +kernel
set_option maxRecDepth 100000 in
theorem c_Ch_applyTo_14 : ct_Ch_applyTo 14 = ka_il 2 1 := rfl
theorem d_Ch_applyTo_14 : decode prog_2_method_4_code 14 = .ok (.iload_n 2, 1) := by decide +kernel
set_option maxRecDepth 100000 in
theorem c_Ch_applyTo_15 : ct_Ch_applyTo 15 = ka_al 1 1 := rfl
theorem d_Ch_applyTo_15 : decode prog_2_method_4_code 15 = .ok (.aload_n 1, 1) := by decide +kernel
set_option maxRecDepth 100000 in
theorem c_Ch_applyTo_16 : ct_Ch_applyTo 16 = ka_cv 80 3 7 0 0 := rfl
theorem d_Ch_applyTo_16 : decode prog_2_method_4_code 16 = .ok (.invokevirtual 64, 3) := by decide +kernel
set_option maxRecDepth 100000 in
theorem c_Ch_applyTo_19 : ct_Ch_applyTo 19 = ka_is 4 2 := rfl
theorem d_Ch_applyTo_19 : decode prog_2_method_4_code 19 = .ok (.istore 4, 2) := by decide +kernel
set_option maxRecDepth 100000 in
theorem c_Ch_applyTo_21 : ct_Ch_applyTo 21 = ka_il 4 2 := rfl
theorem d_Ch_applyTo_21 : decode prog_2_method_4_code 21 = .ok (.iload 4, 2) := by decide +kernel
set_option maxRecDepth 100000 in
theorem c_Ch_applyTo_23 : ct_Ch_applyTo 23 = ka_if (fun x => x = 0) 29 := rfl
theorem d_Ch_applyTo_23 : decode prog_2_method_4_code 23 = .ok (.ifCond .eq 6, 3) := by decide +kernel
set_option maxRecDepth 100000 in
theorem c_Ch_applyTo_26 : ct_Ch_applyTo 26 = ka_il 4 2 := rfl
theorem d_Ch_applyTo_26 : decode prog_2_method_4_code 26 = .ok (.iload 4, 2) := by decide +kernel
set_option maxRecDepth 100000 in
theorem c_Ch_applyTo_28 : ct_Ch_applyTo 28 = ka_ri := rfl
theorem d_Ch_applyTo_28 : decode prog_2_method_4_code 28 = .ok (.ireturn, 1) := by decide +kernel
set_option maxRecDepth 100000 in
theorem c_Ch_applyTo_29 : ct_Ch_applyTo 29 = ka_al 0 1 := rfl
theorem d_Ch_applyTo_29 : decode prog_2_method_4_code 29 = .ok (.aload_n 0, 1) := by decide +kernel
set_option maxRecDepth 100000 in
theorem c_Ch_applyTo_30 : ct_Ch_applyTo 30 = ka_get 7 2 := rfl
theorem d_Ch_applyTo_30 : decode prog_2_method_4_code 30 = .ok (.getfield 18, 3) := by decide +kernel
set_option maxRecDepth 100000 in
theorem c_Ch_applyTo_33 : ct_Ch_applyTo 33 = ka_il 3 1 := rfl
theorem d_Ch_applyTo_33 : decode prog_2_method_4_code 33 = .ok (.iload_n 3, 1) := by decide +kernel
set_option maxRecDepth 100000 in
theorem c_Ch_applyTo_34 : ct_Ch_applyTo 34 = ka_iald := rfl
theorem d_Ch_applyTo_34 : decode prog_2_method_4_code 34 = .ok (.iaload, 1) := by decide +kernel
set_option maxRecDepth 100000 in
theorem c_Ch_applyTo_35 : ct_Ch_applyTo 35 = ka_is 2 1 := rfl
theorem d_Ch_applyTo_35 : decode prog_2_method_4_code 35 = .ok (.istore_n 2, 1) := by decide +kernel
set_option maxRecDepth 100000 in
theorem c_Ch_applyTo_36 : ct_Ch_applyTo 36 = ka_inc 3 (nI 1) := rfl
theorem d_Ch_applyTo_36 : decode prog_2_method_4_code 36 = .ok (.iinc 3 1, 3) := by decide +kernel
set_option maxRecDepth 100000 in
theorem c_Ch_applyTo_39 : ct_Ch_applyTo 39 = ka_goto 4 := rfl
theorem d_Ch_applyTo_39 : decode prog_2_method_4_code 39 = .ok (.goto (-35), 3) := by decide +kernel
set_option maxRecDepth 100000 in
theorem c_Ch_applyTo_42 : ct_Ch_applyTo 42 = ka_ci (nI 0) 1 := rfl
theorem d_Ch_applyTo_42 : decode prog_2_method_4_code 42 = .ok (.iconst 0, 1) := by decide +kernel
set_option maxRecDepth 100000 in
theorem c_Ch_applyTo_43 : ct_Ch_applyTo 43 = ka_ri := rfl
theorem d_Ch_applyTo_43 : decode prog_2_method_4_code 43 = .ok (.ireturn, 1) := by decide +kernel
set_option maxRecDepth 100000 in
set_option maxHeartbeats 4000000 in
theorem s_Ch_applyTo_44 : ∀ pc, pc < 44 → kc_Sim kt kw_A kw_N kt_cl kt_En "DirectoryDesk$Changes" prog_2_method_4_code 5 (some .int) "applyTo" none pc (ct_Ch_applyTo pc) := by
  let P : Nat → Prop := fun pc => kc_Sim kt kw_A kw_N kt_cl kt_En "DirectoryDesk$Changes" prog_2_method_4_code 5 (some .int) "applyTo" none pc (ct_Ch_applyTo pc)
  exact kc_case (P := P) (kc_se c_Ch_applyTo_43 (sm_ri d_Ch_applyTo_43 rfl)) (
  kc_case (P := P) (kc_se c_Ch_applyTo_42 (sm_iconst d_Ch_applyTo_42 (by decide))) (
  kc_case (P := P) (kc_se rfl sm_no) (
  kc_case (P := P) (kc_se rfl sm_no) (
  kc_case (P := P) (kc_se c_Ch_applyTo_39 (sm_goto d_Ch_applyTo_39 (by decide))) (
  kc_case (P := P) (kc_se rfl sm_no) (
  kc_case (P := P) (kc_se rfl sm_no) (
  kc_case (P := P) (kc_se c_Ch_applyTo_36 (sm_inc d_Ch_applyTo_36 (by decide) (Nat.le_of_ble_eq_true rfl))) (
  kc_case (P := P) (kc_se c_Ch_applyTo_35 (sm_istore_n d_Ch_applyTo_35 rfl (Nat.le_of_ble_eq_true rfl))) (
  kc_case (P := P) (kc_se c_Ch_applyTo_34 (sm_iald d_Ch_applyTo_34)) (
  kc_case (P := P) (kc_se c_Ch_applyTo_33 (sm_iload_n d_Ch_applyTo_33 rfl)) (
  kc_case (P := P) (kc_se rfl sm_no) (
  kc_case (P := P) (kc_se rfl sm_no) (
  kc_case (P := P) (kc_se c_Ch_applyTo_30 (sm_get (ci := 7) (C := "DirectoryDesk$Changes") (F := kF_Ch) rfl kin_Ch (Nat.le_of_ble_eq_true rfl) d_Ch_applyTo_30 (kw1 179 rfl rfl))) (
  kc_case (P := P) (kc_se c_Ch_applyTo_29 (sm_aload_n d_Ch_applyTo_29 rfl)) (
  kc_case (P := P) (kc_se c_Ch_applyTo_28 (sm_ri d_Ch_applyTo_28 rfl)) (
  kc_case (P := P) (kc_se rfl sm_no) (
  kc_case (P := P) (kc_se c_Ch_applyTo_26 (sm_iload d_Ch_applyTo_26)) (
  kc_case (P := P) (kc_se rfl sm_no) (
  kc_case (P := P) (kc_se rfl sm_no) (
  kc_case (P := P) (kc_se c_Ch_applyTo_23 (sm_if_eq d_Ch_applyTo_23 (by decide))) (
  kc_case (P := P) (kc_se rfl sm_no) (
  kc_case (P := P) (kc_se c_Ch_applyTo_21 (sm_iload d_Ch_applyTo_21)) (
  kc_case (P := P) (kc_se rfl sm_no) (
  kc_case (P := P) (kc_se c_Ch_applyTo_19 (sm_istore d_Ch_applyTo_19 (Nat.le_of_ble_eq_true rfl))) (
  kc_case (P := P) (kc_se rfl sm_no) (
  kc_case (P := P) (kc_se rfl sm_no) (
  kc_case (P := P) (kc_se c_Ch_applyTo_16 (sm_cv (j := 80) rfl rfl kw_o kw_g wc_Ch_applyOne (Nat.le_of_ble_eq_true rfl) hd_Ch_applyOne (ci := 7) (F := kF_Ch) (N := 6) rfl (kw3 81 rfl rfl) wi_Ch_applyOne ws_Ch_applyOne wn_Ch_applyOne d_Ch_applyTo_16)) (
  kc_case (P := P) (kc_se c_Ch_applyTo_15 (sm_aload_n d_Ch_applyTo_15 rfl)) (
  kc_case (P := P) (kc_se c_Ch_applyTo_14 (sm_iload_n d_Ch_applyTo_14 rfl)) (
  kc_case (P := P) (kc_se c_Ch_applyTo_13 (sm_iload_n d_Ch_applyTo_13 rfl)) (
  kc_case (P := P) (kc_se c_Ch_applyTo_12 (sm_aload_n d_Ch_applyTo_12 rfl)) (
  kc_case (P := P) (kc_se rfl sm_no) (
  kc_case (P := P) (kc_se rfl sm_no) (
  kc_case (P := P) (kc_se c_Ch_applyTo_9 (sm_cm_ge d_Ch_applyTo_9 (by decide))) (
  kc_case (P := P) (kc_se rfl sm_no) (
  kc_case (P := P) (kc_se rfl sm_no) (
  kc_case (P := P) (kc_se c_Ch_applyTo_6 (sm_get (ci := 7) (C := "DirectoryDesk$Changes") (F := kF_Ch) rfl kin_Ch (Nat.le_of_ble_eq_true rfl) d_Ch_applyTo_6 (kw1 181 rfl rfl))) (
  kc_case (P := P) (kc_se c_Ch_applyTo_5 (sm_aload_n d_Ch_applyTo_5 rfl)) (
  kc_case (P := P) (kc_se c_Ch_applyTo_4 (sm_iload_n d_Ch_applyTo_4 rfl)) (
  kc_case (P := P) (kc_se c_Ch_applyTo_3 (sm_istore_n d_Ch_applyTo_3 rfl (Nat.le_of_ble_eq_true rfl))) (
  kc_case (P := P) (kc_se c_Ch_applyTo_2 (sm_iconst d_Ch_applyTo_2 (by decide))) (
  kc_case (P := P) (kc_se c_Ch_applyTo_1 (sm_istore_n d_Ch_applyTo_1 rfl (Nat.le_of_ble_eq_true rfl))) (
  kc_case (P := P) (kc_se c_Ch_applyTo_0 (sm_iconst d_Ch_applyTo_0 (by decide))) (
  kc_case0))))))))))))))))))))))))))))))))))))))))))))
theorem ka_nth_no_Ch_applyTo (pc : Nat) (h : 44 ≤ pc) : ct_Ch_applyTo pc = ka_no := ka_nth_ge _ pc (Nat.le_trans (Nat.le_of_eq (by rfl)) h)
theorem s_Ch_applyTo (pc : Nat) : kc_Sim kt kw_A kw_N kt_cl kt_En "DirectoryDesk$Changes" prog_2_method_4_code 5 (some .int) "applyTo" none pc (ct_Ch_applyTo pc) := (Nat.lt_or_ge pc 44).elim (s_Ch_applyTo_44 pc) (fun h => kc_se (ka_nth_no_Ch_applyTo pc h) sm_no)
