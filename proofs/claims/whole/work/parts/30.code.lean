/-! code of methods, decode rows, and that the JVM follows (by program) -/
def cl_Dk_init_0 : List kc_A := [ka_al 0 1, ka_obj, ka_no, ka_no, ka_al 0 1, ka_new 1 8 [.null, .int 0, .int 0, .int 0, .int 0, .int 0, .int 0, .int 0], ka_no, ka_no, ka_dup, ka_cx 24 0 1 200, ka_no, ka_no, ka_put 0 0 (.object "DirectoryDesk$Reader"), ka_no, ka_no, ka_al 0 1, ka_new 2 2 [.null, .int 0], ka_no, ka_no, ka_dup, ka_cx 45 0 1 460, ka_no, ka_no, ka_put 0 1 (.object "DirectoryDesk$Writer"), ka_no, ka_no, ka_al 0 1, ka_new 3 2 [.null, .int 0], ka_no, ka_no, ka_dup, ka_cx 55 0 113 1232, ka_no, ka_no, ka_put 0 2 (.object "DirectoryDesk$Tree"), ka_no, ka_no, ka_al 0 1, ka_new 5 3 [.null, .null, .int 0], ka_no, ka_no, ka_dup, ka_cx 62 0 2 8, ka_no, ka_no, ka_put 0 3 (.object "DirectoryDesk$Name"), ka_no, ka_no, ka_al 0 1, ka_new 7 6 [.null, .null, .null, .null, .int 0, .int 0], ka_no, ka_no, ka_dup, ka_cx 76 0 4 60, ka_no, ka_no, ka_put 0 4 (.object "DirectoryDesk$Changes"), ka_no, ka_no, ka_al 0 1]
def cl_Dk_init_1 : List kc_A := [ka_new 8 4 [.int 0, .int 0, .int 0, .int 0], ka_no, ka_no, ka_dup, ka_cx 81 0 0 0, ka_no, ka_no, ka_put 0 5 (.object "DirectoryDesk$Query"), ka_no, ka_no, ka_al 0 1, ka_new 9 5 [.null, .null, .null, .null, .int 0], ka_no, ka_no, ka_dup, ka_cx 87 0 4 80, ka_no, ka_no, ka_put 0 6 (.object "DirectoryDesk$Filters"), ka_no, ka_no, ka_al 0 1, ka_new 6 3 [.null, .null, .int 0], ka_no, ka_no, ka_dup, ka_ci (nI 30) 2, ka_no, ka_cx 68 1 2 60, ka_no, ka_no, ka_put 0 7 (.object "DirectoryDesk$Pairs"), ka_no, ka_no, ka_al 0 1, ka_ci (nI 1) 1, ka_put 0 8 .boolean, ka_no, ka_no, ka_ret]
def ct_Dk_init : Nat → kc_A := fun pc => ka_nth (cl_Dk_init_0 ++ (cl_Dk_init_1)) pc
set_option maxRecDepth 100000 in
theorem c_Dk_init_0 : ct_Dk_init 0 = ka_al 0 1 := rfl
theorem d_Dk_init_0 : decode prog_1_method_1_code 0 = .ok (.aload_n 0, 1) := by decide +kernel
set_option maxRecDepth 100000 in
theorem c_Dk_init_1 : ct_Dk_init 1 = ka_obj := rfl
theorem d_Dk_init_1 : decode prog_1_method_1_code 1 = .ok (.invokespecial 1, 3) := by decide +kernel
set_option maxRecDepth 100000 in
theorem c_Dk_init_4 : ct_Dk_init 4 = ka_al 0 1 := rfl
theorem d_Dk_init_4 : decode prog_1_method_1_code 4 = .ok (.aload_n 0, 1) := by decide +kernel
set_option maxRecDepth 100000 in
theorem c_Dk_init_5 : ct_Dk_init 5 = ka_new 1 8 [.null, .int 0, .int 0, .int 0, .int 0, .int 0, .int 0, .int 0] := rfl
theorem d_Dk_init_5 : decode prog_1_method_1_code 5 = .ok (.new 7, 3) := by decide +kernel
set_option maxRecDepth 100000 in
theorem c_Dk_init_8 : ct_Dk_init 8 = ka_dup := rfl
theorem d_Dk_init_8 : decode prog_1_method_1_code 8 = .ok (.dup, 1) := by decide +kernel
set_option maxRecDepth 100000 in
theorem c_Dk_init_9 : ct_Dk_init 9 = ka_cx 24 0 1 200 := rfl
theorem d_Dk_init_9 : decode prog_1_method_1_code 9 = .ok (.invokespecial 9, 3) := by decide +kernel
set_option maxRecDepth 100000 in
theorem c_Dk_init_12 : ct_Dk_init 12 = ka_put 0 0 (.object "DirectoryDesk$Reader") := rfl
theorem d_Dk_init_12 : decode prog_1_method_1_code 12 = .ok (.putfield 10, 3) := by decide +kernel
set_option maxRecDepth 100000 in
theorem c_Dk_init_15 : ct_Dk_init 15 = ka_al 0 1 := rfl
theorem d_Dk_init_15 : decode prog_1_method_1_code 15 = .ok (.aload_n 0, 1) := by decide +kernel
set_option maxRecDepth 100000 in
theorem c_Dk_init_16 : ct_Dk_init 16 = ka_new 2 2 [.null, .int 0] := rfl
theorem d_Dk_init_16 : decode prog_1_method_1_code 16 = .ok (.new 16, 3) := by decide +kernel
set_option maxRecDepth 100000 in
theorem c_Dk_init_19 : ct_Dk_init 19 = ka_dup := rfl
theorem d_Dk_init_19 : decode prog_1_method_1_code 19 = .ok (.dup, 1) := by decide +kernel
set_option maxRecDepth 100000 in
theorem c_Dk_init_20 : ct_Dk_init 20 = ka_cx 45 0 1 460 := rfl
theorem d_Dk_init_20 : decode prog_1_method_1_code 20 = .ok (.invokespecial 18, 3) := by decide +kernel
set_option maxRecDepth 100000 in
theorem c_Dk_init_23 : ct_Dk_init 23 = ka_put 0 1 (.object "DirectoryDesk$Writer") := rfl
theorem d_Dk_init_23 : decode prog_1_method_1_code 23 = .ok (.putfield 19, 3) := by decide +kernel
set_option maxRecDepth 100000 in
theorem c_Dk_init_26 : ct_Dk_init 26 = ka_al 0 1 := rfl
theorem d_Dk_init_26 : decode prog_1_method_1_code 26 = .ok (.aload_n 0, 1) := by decide +kernel
set_option maxRecDepth 100000 in
theorem c_Dk_init_27 : ct_Dk_init 27 = ka_new 3 2 [.null, .int 0] := rfl
theorem d_Dk_init_27 : decode prog_1_method_1_code 27 = .ok (.new 23, 3) := by decide +kernel
set_option maxRecDepth 100000 in
theorem c_Dk_init_30 : ct_Dk_init 30 = ka_dup := rfl
theorem d_Dk_init_30 : decode prog_1_method_1_code 30 = .ok (.dup, 1) := by decide +kernel
set_option maxRecDepth 100000 in
theorem c_Dk_init_31 : ct_Dk_init 31 = ka_cx 55 0 113 1232 := rfl
theorem d_Dk_init_31 : decode prog_1_method_1_code 31 = .ok (.invokespecial 25, 3) := by decide +kernel
set_option maxRecDepth 100000 in
theorem c_Dk_init_34 : ct_Dk_init 34 = ka_put 0 2 (.object "DirectoryDesk$Tree") := rfl
theorem d_Dk_init_34 : decode prog_1_method_1_code 34 = .ok (.putfield 26, 3) := by decide +kernel
set_option maxRecDepth 100000 in
theorem c_Dk_init_37 : ct_Dk_init 37 = ka_al 0 1 := rfl
theorem d_Dk_init_37 : decode prog_1_method_1_code 37 = .ok (.aload_n 0, 1) := by decide +kernel
set_option maxRecDepth 100000 in
theorem c_Dk_init_38 : ct_Dk_init 38 = ka_new 5 3 [.null, .null, .int 0] := rfl
theorem d_Dk_init_38 : decode prog_1_method_1_code 38 = .ok (.new 30, 3) := by decide +kernel
set_option maxRecDepth 100000 in
theorem c_Dk_init_41 : ct_Dk_init 41 = ka_dup := rfl
theorem d_Dk_init_41 : decode prog_1_method_1_code 41 = .ok (.dup, 1) := by decide +kernel
set_option maxRecDepth 100000 in
theorem c_Dk_init_42 : ct_Dk_init 42 = ka_cx 62 0 2 8 := rfl
theorem d_Dk_init_42 : decode prog_1_method_1_code 42 = .ok (.invokespecial 32, 3) := by decide +kernel
set_option maxRecDepth 100000 in
theorem c_Dk_init_45 : ct_Dk_init 45 = ka_put 0 3 (.object "DirectoryDesk$Name") := rfl
theorem d_Dk_init_45 : decode prog_1_method_1_code 45 = .ok (.putfield 33, 3) := by decide +kernel
set_option maxRecDepth 100000 in
theorem c_Dk_init_48 : ct_Dk_init 48 = ka_al 0 1 := rfl
theorem d_Dk_init_48 : decode prog_1_method_1_code 48 = .ok (.aload_n 0, 1) := by decide +kernel
set_option maxRecDepth 100000 in
theorem c_Dk_init_49 : ct_Dk_init 49 = ka_new 7 6 [.null, .null, .null, .null, .int 0, .int 0] := rfl
theorem d_Dk_init_49 : decode prog_1_method_1_code 49 = .ok (.new 37, 3) := by decide +kernel
set_option maxRecDepth 100000 in
theorem c_Dk_init_52 : ct_Dk_init 52 = ka_dup := rfl
theorem d_Dk_init_52 : decode prog_1_method_1_code 52 = .ok (.dup, 1) := by decide +kernel
set_option maxRecDepth 100000 in
theorem c_Dk_init_53 : ct_Dk_init 53 = ka_cx 76 0 4 60 := rfl
theorem d_Dk_init_53 : decode prog_1_method_1_code 53 = .ok (.invokespecial 39, 3) := by decide +kernel
set_option maxRecDepth 100000 in
theorem c_Dk_init_56 : ct_Dk_init 56 = ka_put 0 4 (.object "DirectoryDesk$Changes") := rfl
theorem d_Dk_init_56 : decode prog_1_method_1_code 56 = .ok (.putfield 40, 3) := by decide +kernel
set_option maxRecDepth 100000 in
theorem c_Dk_init_59 : ct_Dk_init 59 = ka_al 0 1 := rfl
theorem d_Dk_init_59 : decode prog_1_method_1_code 59 = .ok (.aload_n 0, 1) := by decide +kernel
set_option maxRecDepth 100000 in
theorem c_Dk_init_60 : ct_Dk_init 60 = ka_new 8 4 [.int 0, .int 0, .int 0, .int 0] := rfl
theorem d_Dk_init_60 : decode prog_1_method_1_code 60 = .ok (.new 44, 3) := by decide +kernel
set_option maxRecDepth 100000 in
theorem c_Dk_init_63 : ct_Dk_init 63 = ka_dup := rfl
theorem d_Dk_init_63 : decode prog_1_method_1_code 63 = .ok (.dup, 1) := by decide +kernel
set_option maxRecDepth 100000 in
theorem c_Dk_init_64 : ct_Dk_init 64 = ka_cx 81 0 0 0 := rfl
theorem d_Dk_init_64 : decode prog_1_method_1_code 64 = .ok (.invokespecial 46, 3) := by decide +kernel
set_option maxRecDepth 100000 in
theorem c_Dk_init_67 : ct_Dk_init 67 = ka_put 0 5 (.object "DirectoryDesk$Query") := rfl
theorem d_Dk_init_67 : decode prog_1_method_1_code 67 = .ok (.putfield 47, 3) := by decide +kernel
set_option maxRecDepth 100000 in
theorem c_Dk_init_70 : ct_Dk_init 70 = ka_al 0 1 := rfl
theorem d_Dk_init_70 : decode prog_1_method_1_code 70 = .ok (.aload_n 0, 1) := by decide +kernel
set_option maxRecDepth 100000 in
theorem c_Dk_init_71 : ct_Dk_init 71 = ka_new 9 5 [.null, .null, .null, .null, .int 0] := rfl
theorem d_Dk_init_71 : decode prog_1_method_1_code 71 = .ok (.new 51, 3) := by decide +kernel
set_option maxRecDepth 100000 in
theorem c_Dk_init_74 : ct_Dk_init 74 = ka_dup := rfl
theorem d_Dk_init_74 : decode prog_1_method_1_code 74 = .ok (.dup, 1) := by decide +kernel
set_option maxRecDepth 100000 in
theorem c_Dk_init_75 : ct_Dk_init 75 = ka_cx 87 0 4 80 := rfl
theorem d_Dk_init_75 : decode prog_1_method_1_code 75 = .ok (.invokespecial 53, 3) := by decide +kernel
set_option maxRecDepth 100000 in
theorem c_Dk_init_78 : ct_Dk_init 78 = ka_put 0 6 (.object "DirectoryDesk$Filters") := rfl
theorem d_Dk_init_78 : decode prog_1_method_1_code 78 = .ok (.putfield 54, 3) := by decide +kernel
set_option maxRecDepth 100000 in
theorem c_Dk_init_81 : ct_Dk_init 81 = ka_al 0 1 := rfl
theorem d_Dk_init_81 : decode prog_1_method_1_code 81 = .ok (.aload_n 0, 1) := by decide +kernel
set_option maxRecDepth 100000 in
theorem c_Dk_init_82 : ct_Dk_init 82 = ka_new 6 3 [.null, .null, .int 0] := rfl
theorem d_Dk_init_82 : decode prog_1_method_1_code 82 = .ok (.new 58, 3) := by decide +kernel
set_option maxRecDepth 100000 in
theorem c_Dk_init_85 : ct_Dk_init 85 = ka_dup := rfl
theorem d_Dk_init_85 : decode prog_1_method_1_code 85 = .ok (.dup, 1) := by decide +kernel
set_option maxRecDepth 100000 in
theorem c_Dk_init_86 : ct_Dk_init 86 = ka_ci (nI 30) 2 := rfl
theorem d_Dk_init_86 : decode prog_1_method_1_code 86 = .ok (.bipush 30, 2) := by decide +kernel
set_option maxRecDepth 100000 in
theorem c_Dk_init_88 : ct_Dk_init 88 = ka_cx 68 1 2 60 := rfl
theorem d_Dk_init_88 : decode prog_1_method_1_code 88 = .ok (.invokespecial 60, 3) := by decide +kernel
set_option maxRecDepth 100000 in
theorem c_Dk_init_91 : ct_Dk_init 91 = ka_put 0 7 (.object "DirectoryDesk$Pairs") := rfl
theorem d_Dk_init_91 : decode prog_1_method_1_code 91 = .ok (.putfield 63, 3) := by decide +kernel
set_option maxRecDepth 100000 in
theorem c_Dk_init_94 : ct_Dk_init 94 = ka_al 0 1 := rfl
theorem d_Dk_init_94 : decode prog_1_method_1_code 94 = .ok (.aload_n 0, 1) := by decide +kernel
set_option maxRecDepth 100000 in
theorem c_Dk_init_95 : ct_Dk_init 95 = ka_ci (nI 1) 1 := rfl
theorem d_Dk_init_95 : decode prog_1_method_1_code 95 = .ok (.iconst 1, 1) := by decide +kernel
set_option maxRecDepth 100000 in
theorem c_Dk_init_96 : ct_Dk_init 96 = ka_put 0 8 .boolean := rfl
theorem d_Dk_init_96 : decode prog_1_method_1_code 96 = .ok (.putfield 67, 3) := by decide +kernel
set_option maxRecDepth 100000 in
theorem c_Dk_init_99 : ct_Dk_init 99 = ka_ret := rfl
theorem d_Dk_init_99 : decode prog_1_method_1_code 99 = .ok (.return_, 1) := by decide +kernel
set_option maxRecDepth 100000 in
set_option maxHeartbeats 4000000 in
theorem s_Dk_init_60 : ∀ pc, pc < 60 → kc_Sim kt kw_A kw_N kt_cl kt_En "DirectoryDesk" prog_1_method_1_code 1 (none) "<init>" none pc (ct_Dk_init pc) := by
  let P : Nat → Prop := fun pc => kc_Sim kt kw_A kw_N kt_cl kt_En "DirectoryDesk" prog_1_method_1_code 1 (none) "<init>" none pc (ct_Dk_init pc)
  exact kc_case (P := P) (kc_se c_Dk_init_59 (sm_aload_n d_Dk_init_59 rfl)) (
  kc_case (P := P) (kc_se rfl sm_no) (
  kc_case (P := P) (kc_se rfl sm_no) (
  kc_case (P := P) (kc_se c_Dk_init_56 (sm_putF (ci := 0) (C := "DirectoryDesk") (F := kF_Dk) rfl kin_Dk kty_Dk ktk_Dk knm_Dk (Nat.le_of_ble_eq_true rfl) (by decide +kernel) d_Dk_init_56 (kw2 4 rfl rfl) rfl rfl rfl)) (
  kc_case (P := P) (kc_se rfl sm_no) (
  kc_case (P := P) (kc_se rfl sm_no) (
  kc_case (P := P) (kc_se c_Dk_init_53 (sm_cxN (j := 76) rfl rfl kw_o kw_g wc_Ch_init (Nat.le_of_ble_eq_true rfl) hd_Ch_init rfl rfl (List.mem_of_getElem? (i := 6) rfl) wi_Ch_init wn_Ch_init d_Dk_init_53)) (
  kc_case (P := P) (kc_se c_Dk_init_52 (sm_dup d_Dk_init_52)) (
  kc_case (P := P) (kc_se rfl sm_no) (
  kc_case (P := P) (kc_se rfl sm_no) (
  kc_case (P := P) (kc_se c_Dk_init_49 (sm_new (ci := 7) (C := "DirectoryDesk$Changes") (F := kF_Ch) rfl kin_Ch kty_Ch ktk_Ch (fun b0 j hj => kdf_Ch b0 j hj) d_Dk_init_49 (kw1 171 rfl rfl) (kw1 172 rfl rfl) (kw1 8 rfl rfl))) (
  kc_case (P := P) (kc_se c_Dk_init_48 (sm_aload_n d_Dk_init_48 rfl)) (
  kc_case (P := P) (kc_se rfl sm_no) (
  kc_case (P := P) (kc_se rfl sm_no) (
  kc_case (P := P) (kc_se c_Dk_init_45 (sm_putF (ci := 0) (C := "DirectoryDesk") (F := kF_Dk) rfl kin_Dk kty_Dk ktk_Dk knm_Dk (Nat.le_of_ble_eq_true rfl) (by decide +kernel) d_Dk_init_45 (kw2 3 rfl rfl) rfl rfl rfl)) (
  kc_case (P := P) (kc_se rfl sm_no) (
  kc_case (P := P) (kc_se rfl sm_no) (
  kc_case (P := P) (kc_se c_Dk_init_42 (sm_cxN (j := 62) rfl rfl kw_o kw_g wc_Nm_init (Nat.le_of_ble_eq_true rfl) hd_Nm_init rfl rfl (List.mem_of_getElem? (i := 5) rfl) wi_Nm_init wn_Nm_init d_Dk_init_42)) (
  kc_case (P := P) (kc_se c_Dk_init_41 (sm_dup d_Dk_init_41)) (
  kc_case (P := P) (kc_se rfl sm_no) (
  kc_case (P := P) (kc_se rfl sm_no) (
  kc_case (P := P) (kc_se c_Dk_init_38 (sm_new (ci := 5) (C := "DirectoryDesk$Name") (F := kF_Nm) rfl kin_Nm kty_Nm ktk_Nm (fun b0 j hj => kdf_Nm b0 j hj) d_Dk_init_38 (kw1 169 rfl rfl) (kw1 92 rfl rfl) (kw1 6 rfl rfl))) (
  kc_case (P := P) (kc_se c_Dk_init_37 (sm_aload_n d_Dk_init_37 rfl)) (
  kc_case (P := P) (kc_se rfl sm_no) (
  kc_case (P := P) (kc_se rfl sm_no) (
  kc_case (P := P) (kc_se c_Dk_init_34 (sm_putF (ci := 0) (C := "DirectoryDesk") (F := kF_Dk) rfl kin_Dk kty_Dk ktk_Dk knm_Dk (Nat.le_of_ble_eq_true rfl) (by decide +kernel) d_Dk_init_34 (kw2 2 rfl rfl) rfl rfl rfl)) (
  kc_case (P := P) (kc_se rfl sm_no) (
  kc_case (P := P) (kc_se rfl sm_no) (
  kc_case (P := P) (kc_se c_Dk_init_31 (sm_cx (j := 55) rfl rfl kw_o kw_g wc_Tr_init (Nat.le_of_ble_eq_true rfl) hd_Tr_init rfl rfl (kw1 80 rfl rfl) wi_Tr_init wn_Tr_init d_Dk_init_31)) (
  kc_case (P := P) (kc_se c_Dk_init_30 (sm_dup d_Dk_init_30)) (
  kc_case (P := P) (kc_se rfl sm_no) (
  kc_case (P := P) (kc_se rfl sm_no) (
  kc_case (P := P) (kc_se c_Dk_init_27 (sm_new (ci := 3) (C := "DirectoryDesk$Tree") (F := kF_Tr) rfl kin_Tr kty_Tr ktk_Tr (fun b0 j hj => kdf_Tr b0 j hj) d_Dk_init_27 (kw1 78 rfl rfl) (kw1 79 rfl rfl) (kw1 4 rfl rfl))) (
  kc_case (P := P) (kc_se c_Dk_init_26 (sm_aload_n d_Dk_init_26 rfl)) (
  kc_case (P := P) (kc_se rfl sm_no) (
  kc_case (P := P) (kc_se rfl sm_no) (
  kc_case (P := P) (kc_se c_Dk_init_23 (sm_putF (ci := 0) (C := "DirectoryDesk") (F := kF_Dk) rfl kin_Dk kty_Dk ktk_Dk knm_Dk (Nat.le_of_ble_eq_true rfl) (by decide +kernel) d_Dk_init_23 (kw2 1 rfl rfl) rfl rfl rfl)) (
  kc_case (P := P) (kc_se rfl sm_no) (
  kc_case (P := P) (kc_se rfl sm_no) (
  kc_case (P := P) (kc_se c_Dk_init_20 (sm_cxN (j := 45) rfl rfl kw_o kw_g wc_Wr_init (Nat.le_of_ble_eq_true rfl) hd_Wr_init rfl rfl (List.mem_of_getElem? (i := 1) rfl) wi_Wr_init wn_Wr_init d_Dk_init_20)) (
  kc_case (P := P) (kc_se c_Dk_init_19 (sm_dup d_Dk_init_19)) (
  kc_case (P := P) (kc_se rfl sm_no) (
  kc_case (P := P) (kc_se rfl sm_no) (
  kc_case (P := P) (kc_se c_Dk_init_16 (sm_new (ci := 2) (C := "DirectoryDesk$Writer") (F := kF_Wr) rfl kin_Wr kty_Wr ktk_Wr (fun b0 j hj => kdf_Wr b0 j hj) d_Dk_init_16 (kw1 63 rfl rfl) (kw1 64 rfl rfl) (kw1 3 rfl rfl))) (
  kc_case (P := P) (kc_se c_Dk_init_15 (sm_aload_n d_Dk_init_15 rfl)) (
  kc_case (P := P) (kc_se rfl sm_no) (
  kc_case (P := P) (kc_se rfl sm_no) (
  kc_case (P := P) (kc_se c_Dk_init_12 (sm_putF (ci := 0) (C := "DirectoryDesk") (F := kF_Dk) rfl kin_Dk kty_Dk ktk_Dk knm_Dk (Nat.le_of_ble_eq_true rfl) (by decide +kernel) d_Dk_init_12 (kw2 0 rfl rfl) rfl rfl rfl)) (
  kc_case (P := P) (kc_se rfl sm_no) (
  kc_case (P := P) (kc_se rfl sm_no) (
  kc_case (P := P) (kc_se c_Dk_init_9 (sm_cxN (j := 24) rfl rfl kw_o kw_g wc_Rd_init (Nat.le_of_ble_eq_true rfl) hd_Rd_init rfl rfl (List.mem_of_getElem? (i := 0) rfl) wi_Rd_init wn_Rd_init d_Dk_init_9)) (
  kc_case (P := P) (kc_se c_Dk_init_8 (sm_dup d_Dk_init_8)) (
  kc_case (P := P) (kc_se rfl sm_no) (
  kc_case (P := P) (kc_se rfl sm_no) (
  kc_case (P := P) (kc_se c_Dk_init_5 (sm_new (ci := 1) (C := "DirectoryDesk$Reader") (F := kF_Rd) rfl kin_Rd kty_Rd ktk_Rd (fun b0 j hj => kdf_Rd b0 j hj) d_Dk_init_5 (kw1 22 rfl rfl) (kw1 23 rfl rfl) (kw1 2 rfl rfl))) (
  kc_case (P := P) (kc_se c_Dk_init_4 (sm_aload_n d_Dk_init_4 rfl)) (
  kc_case (P := P) (kc_se rfl sm_no) (
  kc_case (P := P) (kc_se rfl sm_no) (
  kc_case (P := P) (kc_se c_Dk_init_1 (sm_obj d_Dk_init_1 (kw1 19 rfl rfl) (kw1 20 rfl rfl) (kw1 21 rfl rfl))) (
  kc_case (P := P) (kc_se c_Dk_init_0 (sm_aload_n d_Dk_init_0 rfl)) (
  kc_case0))))))))))))))))))))))))))))))))))))))))))))))))))))))))))))
set_option maxRecDepth 100000 in
set_option maxHeartbeats 4000000 in
theorem s_Dk_init_100 : ∀ pc, pc < 100 → kc_Sim kt kw_A kw_N kt_cl kt_En "DirectoryDesk" prog_1_method_1_code 1 (none) "<init>" none pc (ct_Dk_init pc) := by
  let P : Nat → Prop := fun pc => kc_Sim kt kw_A kw_N kt_cl kt_En "DirectoryDesk" prog_1_method_1_code 1 (none) "<init>" none pc (ct_Dk_init pc)
  exact kc_case (P := P) (kc_se c_Dk_init_99 (sm_ret d_Dk_init_99 rfl)) (
  kc_case (P := P) (kc_se rfl sm_no) (
  kc_case (P := P) (kc_se rfl sm_no) (
  kc_case (P := P) (kc_se c_Dk_init_96 (sm_put (ci := 0) (C := "DirectoryDesk") (F := kF_Dk) rfl kin_Dk kty_Dk ktk_Dk knm_Dk (Nat.le_of_ble_eq_true rfl) (by decide +kernel) d_Dk_init_96 (kw2 8 rfl rfl) rfl)) (
  kc_case (P := P) (kc_se c_Dk_init_95 (sm_iconst d_Dk_init_95 (by decide))) (
  kc_case (P := P) (kc_se c_Dk_init_94 (sm_aload_n d_Dk_init_94 rfl)) (
  kc_case (P := P) (kc_se rfl sm_no) (
  kc_case (P := P) (kc_se rfl sm_no) (
  kc_case (P := P) (kc_se c_Dk_init_91 (sm_putF (ci := 0) (C := "DirectoryDesk") (F := kF_Dk) rfl kin_Dk kty_Dk ktk_Dk knm_Dk (Nat.le_of_ble_eq_true rfl) (by decide +kernel) d_Dk_init_91 (kw2 7 rfl rfl) rfl rfl rfl)) (
  kc_case (P := P) (kc_se rfl sm_no) (
  kc_case (P := P) (kc_se rfl sm_no) (
  kc_case (P := P) (kc_se c_Dk_init_88 (sm_cx (j := 68) rfl rfl kw_o kw_g wc_Pa_init (Nat.le_of_ble_eq_true rfl) hd_Pa_init rfl rfl (kw1 239 rfl rfl) wi_Pa_init wn_Pa_init d_Dk_init_88)) (
  kc_case (P := P) (kc_se rfl sm_no) (
  kc_case (P := P) (kc_se c_Dk_init_86 (sm_bipush d_Dk_init_86 (by decide))) (
  kc_case (P := P) (kc_se c_Dk_init_85 (sm_dup d_Dk_init_85)) (
  kc_case (P := P) (kc_se rfl sm_no) (
  kc_case (P := P) (kc_se rfl sm_no) (
  kc_case (P := P) (kc_se c_Dk_init_82 (sm_new (ci := 6) (C := "DirectoryDesk$Pairs") (F := kF_Pa) rfl kin_Pa kty_Pa ktk_Pa (fun b0 j hj => kdf_Pa b0 j hj) d_Dk_init_82 (kw1 238 rfl rfl) (kw1 117 rfl rfl) (kw1 7 rfl rfl))) (
  kc_case (P := P) (kc_se c_Dk_init_81 (sm_aload_n d_Dk_init_81 rfl)) (
  kc_case (P := P) (kc_se rfl sm_no) (
  kc_case (P := P) (kc_se rfl sm_no) (
  kc_case (P := P) (kc_se c_Dk_init_78 (sm_putF (ci := 0) (C := "DirectoryDesk") (F := kF_Dk) rfl kin_Dk kty_Dk ktk_Dk knm_Dk (Nat.le_of_ble_eq_true rfl) (by decide +kernel) d_Dk_init_78 (kw2 6 rfl rfl) rfl rfl rfl)) (
  kc_case (P := P) (kc_se rfl sm_no) (
  kc_case (P := P) (kc_se rfl sm_no) (
  kc_case (P := P) (kc_se c_Dk_init_75 (sm_cxN (j := 87) rfl rfl kw_o kw_g wc_Fi_init (Nat.le_of_ble_eq_true rfl) hd_Fi_init rfl rfl (List.mem_of_getElem? (i := 8) rfl) wi_Fi_init wn_Fi_init d_Dk_init_75)) (
  kc_case (P := P) (kc_se c_Dk_init_74 (sm_dup d_Dk_init_74)) (
  kc_case (P := P) (kc_se rfl sm_no) (
  kc_case (P := P) (kc_se rfl sm_no) (
  kc_case (P := P) (kc_se c_Dk_init_71 (sm_new (ci := 9) (C := "DirectoryDesk$Filters") (F := kF_Fi) rfl kin_Fi kty_Fi ktk_Fi (fun b0 j hj => kdf_Fi b0 j hj) d_Dk_init_71 (kw1 216 rfl rfl) (kw1 217 rfl rfl) (kw1 10 rfl rfl))) (
  kc_case (P := P) (kc_se c_Dk_init_70 (sm_aload_n d_Dk_init_70 rfl)) (
  kc_case (P := P) (kc_se rfl sm_no) (
  kc_case (P := P) (kc_se rfl sm_no) (
  kc_case (P := P) (kc_se c_Dk_init_67 (sm_putF (ci := 0) (C := "DirectoryDesk") (F := kF_Dk) rfl kin_Dk kty_Dk ktk_Dk knm_Dk (Nat.le_of_ble_eq_true rfl) (by decide +kernel) d_Dk_init_67 (kw2 5 rfl rfl) rfl rfl rfl)) (
  kc_case (P := P) (kc_se rfl sm_no) (
  kc_case (P := P) (kc_se rfl sm_no) (
  kc_case (P := P) (kc_se c_Dk_init_64 (sm_cxN (j := 81) rfl rfl kw_o kw_g wc_Qu_init (Nat.le_of_ble_eq_true rfl) hd_Qu_init rfl rfl (List.mem_of_getElem? (i := 7) rfl) wi_Qu_init wn_Qu_init d_Dk_init_64)) (
  kc_case (P := P) (kc_se c_Dk_init_63 (sm_dup d_Dk_init_63)) (
  kc_case (P := P) (kc_se rfl sm_no) (
  kc_case (P := P) (kc_se rfl sm_no) (
  kc_case (P := P) (kc_se c_Dk_init_60 (sm_new (ci := 8) (C := "DirectoryDesk$Query") (F := kF_Qu) rfl kin_Qu kty_Qu ktk_Qu (fun b0 j hj => kdf_Qu b0 j hj) d_Dk_init_60 (kw1 196 rfl rfl) (kw1 197 rfl rfl) (kw1 9 rfl rfl))) (
  s_Dk_init_60))))))))))))))))))))))))))))))))))))))))
theorem ka_nth_no_Dk_init (pc : Nat) (h : 100 ≤ pc) : ct_Dk_init pc = ka_no := ka_nth_ge _ pc (Nat.le_trans (Nat.le_of_eq (by rfl)) h)
theorem s_Dk_init (pc : Nat) : kc_Sim kt kw_A kw_N kt_cl kt_En "DirectoryDesk" prog_1_method_1_code 1 (none) "<init>" none pc (ct_Dk_init pc) := (Nat.lt_or_ge pc 100).elim (s_Dk_init_100 pc) (fun h => kc_se (ka_nth_no_Dk_init pc h) sm_no)
def cl_Dk_connect_0 : List kc_A := [ka_al 0 1, ka_ci (nI 1) 1, ka_put 0 8 .boolean, ka_no, ka_no, ka_al 0 1, ka_ci (nI 0) 1, ka_put 0 9 .boolean, ka_no, ka_no, ka_al 0 1, ka_get 0 0, ka_no, ka_no, ka_cv 25 0 1 0 0, ka_no, ka_no, ka_ret]
def ct_Dk_connect : Nat → kc_A := fun pc => ka_nth (cl_Dk_connect_0) pc
set_option maxRecDepth 100000 in
theorem c_Dk_connect_0 : ct_Dk_connect 0 = ka_al 0 1 := rfl
theorem d_Dk_connect_0 : decode prog_1_method_2_code 0 = .ok (.aload_n 0, 1) := by decide +kernel
set_option maxRecDepth 100000 in
theorem c_Dk_connect_1 : ct_Dk_connect 1 = ka_ci (nI 1) 1 := rfl
theorem d_Dk_connect_1 : decode prog_1_method_2_code 1 = .ok (.iconst 1, 1) := by decide +kernel
set_option maxRecDepth 100000 in
theorem c_Dk_connect_2 : ct_Dk_connect 2 = ka_put 0 8 .boolean := rfl
theorem d_Dk_connect_2 : decode prog_1_method_2_code 2 = .ok (.putfield 67, 3) := by decide +kernel
set_option maxRecDepth 100000 in
theorem c_Dk_connect_5 : ct_Dk_connect 5 = ka_al 0 1 := rfl
theorem d_Dk_connect_5 : decode prog_1_method_2_code 5 = .ok (.aload_n 0, 1) := by decide +kernel
set_option maxRecDepth 100000 in
theorem c_Dk_connect_6 : ct_Dk_connect 6 = ka_ci (nI 0) 1 := rfl
theorem d_Dk_connect_6 : decode prog_1_method_2_code 6 = .ok (.iconst 0, 1) := by decide +kernel
set_option maxRecDepth 100000 in
theorem c_Dk_connect_7 : ct_Dk_connect 7 = ka_put 0 9 .boolean := rfl
theorem d_Dk_connect_7 : decode prog_1_method_2_code 7 = .ok (.putfield 71, 3) := by decide +kernel
set_option maxRecDepth 100000 in
theorem c_Dk_connect_10 : ct_Dk_connect 10 = ka_al 0 1 := rfl
theorem d_Dk_connect_10 : decode prog_1_method_2_code 10 = .ok (.aload_n 0, 1) := by decide +kernel
set_option maxRecDepth 100000 in
theorem c_Dk_connect_11 : ct_Dk_connect 11 = ka_get 0 0 := rfl
theorem d_Dk_connect_11 : decode prog_1_method_2_code 11 = .ok (.getfield 10, 3) := by decide +kernel
set_option maxRecDepth 100000 in
theorem c_Dk_connect_14 : ct_Dk_connect 14 = ka_cv 25 0 1 0 0 := rfl
theorem d_Dk_connect_14 : decode prog_1_method_2_code 14 = .ok (.invokevirtual 74, 3) := by decide +kernel
set_option maxRecDepth 100000 in
theorem c_Dk_connect_17 : ct_Dk_connect 17 = ka_ret := rfl
theorem d_Dk_connect_17 : decode prog_1_method_2_code 17 = .ok (.return_, 1) := by decide +kernel
set_option maxRecDepth 100000 in
set_option maxHeartbeats 4000000 in
theorem s_Dk_connect_18 : ∀ pc, pc < 18 → kc_Sim kt kw_A kw_N kt_cl kt_En "DirectoryDesk" prog_1_method_2_code 1 (none) "connect" none pc (ct_Dk_connect pc) := by
  let P : Nat → Prop := fun pc => kc_Sim kt kw_A kw_N kt_cl kt_En "DirectoryDesk" prog_1_method_2_code 1 (none) "connect" none pc (ct_Dk_connect pc)
  exact kc_case (P := P) (kc_se c_Dk_connect_17 (sm_ret d_Dk_connect_17 rfl)) (
  kc_case (P := P) (kc_se rfl sm_no) (
  kc_case (P := P) (kc_se rfl sm_no) (
  kc_case (P := P) (kc_se c_Dk_connect_14 (sm_cv (j := 25) rfl rfl kw_o kw_g wc_Rd_clear (Nat.le_of_ble_eq_true rfl) hd_Rd_clear (ci := 1) (F := kF_Rd) (N := 8) rfl (kw2 35 rfl rfl) wi_Rd_clear ws_Rd_clear wn_Rd_clear d_Dk_connect_14)) (
  kc_case (P := P) (kc_se rfl sm_no) (
  kc_case (P := P) (kc_se rfl sm_no) (
  kc_case (P := P) (kc_se c_Dk_connect_11 (sm_get (ci := 0) (C := "DirectoryDesk") (F := kF_Dk) rfl kin_Dk (Nat.le_of_ble_eq_true rfl) d_Dk_connect_11 (kw2 0 rfl rfl))) (
  kc_case (P := P) (kc_se c_Dk_connect_10 (sm_aload_n d_Dk_connect_10 rfl)) (
  kc_case (P := P) (kc_se rfl sm_no) (
  kc_case (P := P) (kc_se rfl sm_no) (
  kc_case (P := P) (kc_se c_Dk_connect_7 (sm_put (ci := 0) (C := "DirectoryDesk") (F := kF_Dk) rfl kin_Dk kty_Dk ktk_Dk knm_Dk (Nat.le_of_ble_eq_true rfl) (by decide +kernel) d_Dk_connect_7 (kw2 9 rfl rfl) rfl)) (
  kc_case (P := P) (kc_se c_Dk_connect_6 (sm_iconst d_Dk_connect_6 (by decide))) (
  kc_case (P := P) (kc_se c_Dk_connect_5 (sm_aload_n d_Dk_connect_5 rfl)) (
  kc_case (P := P) (kc_se rfl sm_no) (
  kc_case (P := P) (kc_se rfl sm_no) (
  kc_case (P := P) (kc_se c_Dk_connect_2 (sm_put (ci := 0) (C := "DirectoryDesk") (F := kF_Dk) rfl kin_Dk kty_Dk ktk_Dk knm_Dk (Nat.le_of_ble_eq_true rfl) (by decide +kernel) d_Dk_connect_2 (kw2 8 rfl rfl) rfl)) (
  kc_case (P := P) (kc_se c_Dk_connect_1 (sm_iconst d_Dk_connect_1 (by decide))) (
  kc_case (P := P) (kc_se c_Dk_connect_0 (sm_aload_n d_Dk_connect_0 rfl)) (
  kc_case0))))))))))))))))))
theorem ka_nth_no_Dk_connect (pc : Nat) (h : 18 ≤ pc) : ct_Dk_connect pc = ka_no := ka_nth_ge _ pc (Nat.le_trans (Nat.le_of_eq (by rfl)) h)
theorem s_Dk_connect (pc : Nat) : kc_Sim kt kw_A kw_N kt_cl kt_En "DirectoryDesk" prog_1_method_2_code 1 (none) "connect" none pc (ct_Dk_connect pc) := (Nat.lt_or_ge pc 18).elim (s_Dk_connect_18 pc) (fun h => kc_se (ka_nth_no_Dk_connect pc h) sm_no)
def cl_Dk_type_0 : List kc_A := [ka_al 0 1, ka_get 0 8, ka_no, ka_no, ka_if (fun x => ¬ x = 0) 9, ka_no, ka_no, ka_ci (-1) 1, ka_ri, ka_il 3 1, ka_ci (nI 1) 1, ka_cm (fun x y => x < y) 35, ka_no, ka_no, ka_il 3 1, ka_ci (nI 8) 2, ka_no, ka_cm (fun x y => y < x) 35, ka_no, ka_no, ka_al 0 1, ka_get 0 0, ka_no, ka_no, ka_get 1 1, ka_no, ka_no, ka_il 3 1, ka_ii (fun x y => x + y), ka_ci (nI 200) 3, ka_no, ka_no, ka_cm (fun x y => x ≤ y) 38, ka_no, ka_no, ka_ci (-2) 2, ka_no, ka_ri, ka_al 0 1, ka_get 0 0, ka_no, ka_no, ka_ll 1 1, ka_il 3 1, ka_cv 26 2 1 0 0, ka_no, ka_no, ka_al 0 1, ka_get 0 0, ka_no, ka_no, ka_get 1 1, ka_no, ka_no, ka_ri]
def ct_Dk_type : Nat → kc_A := fun pc => ka_nth (cl_Dk_type_0) pc
set_option maxRecDepth 100000 in
theorem c_Dk_type_0 : ct_Dk_type 0 = ka_al 0 1 := rfl
theorem d_Dk_type_0 : decode prog_1_method_3_code 0 = .ok (.aload_n 0, 1) := by decide +kernel
set_option maxRecDepth 100000 in
theorem c_Dk_type_1 : ct_Dk_type 1 = ka_get 0 8 := rfl
theorem d_Dk_type_1 : decode prog_1_method_3_code 1 = .ok (.getfield 67, 3) := by decide +kernel
set_option maxRecDepth 100000 in
theorem c_Dk_type_4 : ct_Dk_type 4 = ka_if (fun x => ¬ x = 0) 9 := rfl
theorem d_Dk_type_4 : decode prog_1_method_3_code 4 = .ok (.ifCond .ne 5, 3) := by decide +kernel
set_option maxRecDepth 100000 in
theorem c_Dk_type_7 : ct_Dk_type 7 = ka_ci (-1) 1 := rfl
theorem d_Dk_type_7 : decode prog_1_method_3_code 7 = .ok (.iconst (-1), 1) := by decide +kernel
set_option maxRecDepth 100000 in
theorem c_Dk_type_8 : ct_Dk_type 8 = ka_ri := rfl
theorem d_Dk_type_8 : decode prog_1_method_3_code 8 = .ok (.ireturn, 1) := by decide +kernel
set_option maxRecDepth 100000 in
theorem c_Dk_type_9 : ct_Dk_type 9 = ka_il 3 1 := rfl
theorem d_Dk_type_9 : decode prog_1_method_3_code 9 = .ok (.iload_n 3, 1) := by decide +kernel
set_option maxRecDepth 100000 in
theorem c_Dk_type_10 : ct_Dk_type 10 = ka_ci (nI 1) 1 := rfl
theorem d_Dk_type_10 : decode prog_1_method_3_code 10 = .ok (.iconst 1, 1) := by decide +kernel
set_option maxRecDepth 100000 in
theorem c_Dk_type_11 : ct_Dk_type 11 = ka_cm (fun x y => x < y) 35 := rfl
theorem d_Dk_type_11 : decode prog_1_method_3_code 11 = .ok (.if_icmp .lt 24, 3) := by decide +kernel
set_option maxRecDepth 100000 in
theorem c_Dk_type_14 : ct_Dk_type 14 = ka_il 3 1 := rfl
theorem d_Dk_type_14 : decode prog_1_method_3_code 14 = .ok (.iload_n 3, 1) := by decide +kernel
set_option maxRecDepth 100000 in
theorem c_Dk_type_15 : ct_Dk_type 15 = ka_ci (nI 8) 2 := rfl
theorem d_Dk_type_15 : decode prog_1_method_3_code 15 = .ok (.bipush 8, 2) := by decide +kernel
set_option maxRecDepth 100000 in
theorem c_Dk_type_17 : ct_Dk_type 17 = ka_cm (fun x y => y < x) 35 := rfl
theorem d_Dk_type_17 : decode prog_1_method_3_code 17 = .ok (.if_icmp .gt 18, 3) := by decide +kernel
set_option maxRecDepth 100000 in
theorem c_Dk_type_20 : ct_Dk_type 20 = ka_al 0 1 := rfl
theorem d_Dk_type_20 : decode prog_1_method_3_code 20 = .ok (.aload_n 0, 1) := by decide +kernel
set_option maxRecDepth 100000 in
theorem c_Dk_type_21 : ct_Dk_type 21 = ka_get 0 0 := rfl
theorem d_Dk_type_21 : decode prog_1_method_3_code 21 = .ok (.getfield 10, 3) := by decide +kernel
set_option maxRecDepth 100000 in
theorem c_Dk_type_24 : ct_Dk_type 24 = ka_get 1 1 := rfl
theorem d_Dk_type_24 : decode prog_1_method_3_code 24 = .ok (.getfield 77, 3) := by decide +kernel
set_option maxRecDepth 100000 in
theorem c_Dk_type_27 : ct_Dk_type 27 = ka_il 3 1 := rfl
theorem d_Dk_type_27 : decode prog_1_method_3_code 27 = .ok (.iload_n 3, 1) := by decide +kernel
set_option maxRecDepth 100000 in
theorem c_Dk_type_28 : ct_Dk_type 28 = ka_ii (fun x y => x + y) := rfl
theorem d_Dk_type_28 : decode prog_1_method_3_code 28 = .ok (.iadd, 1) := by decide +kernel
set_option maxRecDepth 100000 in
theorem c_Dk_type_29 : ct_Dk_type 29 = ka_ci (nI 200) 3 := rfl
theorem d_Dk_type_29 : decode prog_1_method_3_code 29 = .ok (.sipush 200, 3) := by decide +kernel
set_option maxRecDepth 100000 in
theorem c_Dk_type_32 : ct_Dk_type 32 = ka_cm (fun x y => x ≤ y) 38 := rfl
theorem d_Dk_type_32 : decode prog_1_method_3_code 32 = .ok (.if_icmp .le 6, 3) := by decide +kernel
set_option maxRecDepth 100000 in
theorem c_Dk_type_35 : ct_Dk_type 35 = ka_ci (-2) 2 := rfl
theorem d_Dk_type_35 : decode prog_1_method_3_code 35 = .ok (.bipush (-2), 2) := by decide +kernel
set_option maxRecDepth 100000 in
theorem c_Dk_type_37 : ct_Dk_type 37 = ka_ri := rfl
theorem d_Dk_type_37 : decode prog_1_method_3_code 37 = .ok (.ireturn, 1) := by decide +kernel
set_option maxRecDepth 100000 in
theorem c_Dk_type_38 : ct_Dk_type 38 = ka_al 0 1 := rfl
theorem d_Dk_type_38 : decode prog_1_method_3_code 38 = .ok (.aload_n 0, 1) := by decide +kernel
set_option maxRecDepth 100000 in
theorem c_Dk_type_39 : ct_Dk_type 39 = ka_get 0 0 := rfl
theorem d_Dk_type_39 : decode prog_1_method_3_code 39 = .ok (.getfield 10, 3) := by decide +kernel
set_option maxRecDepth 100000 in
theorem c_Dk_type_42 : ct_Dk_type 42 = ka_ll 1 1 := rfl
theorem d_Dk_type_42 : decode prog_1_method_3_code 42 = .ok (.lload_n 1, 1) := by decide +kernel
set_option maxRecDepth 100000 in
theorem c_Dk_type_43 : ct_Dk_type 43 = ka_il 3 1 := rfl
theorem d_Dk_type_43 : decode prog_1_method_3_code 43 = .ok (.iload_n 3, 1) := by decide +kernel
set_option maxRecDepth 100000 in
theorem c_Dk_type_44 : ct_Dk_type 44 = ka_cv 26 2 1 0 0 := rfl
theorem d_Dk_type_44 : decode prog_1_method_3_code 44 = .ok (.invokevirtual 81, 3) := by decide +kernel
set_option maxRecDepth 100000 in
theorem c_Dk_type_47 : ct_Dk_type 47 = ka_al 0 1 := rfl
theorem d_Dk_type_47 : decode prog_1_method_3_code 47 = .ok (.aload_n 0, 1) := by decide +kernel
set_option maxRecDepth 100000 in
theorem c_Dk_type_48 : ct_Dk_type 48 = ka_get 0 0 := rfl
theorem d_Dk_type_48 : decode prog_1_method_3_code 48 = .ok (.getfield 10, 3) := by decide +kernel
set_option maxRecDepth 100000 in
theorem c_Dk_type_51 : ct_Dk_type 51 = ka_get 1 1 := rfl
theorem d_Dk_type_51 : decode prog_1_method_3_code 51 = .ok (.getfield 77, 3) := by decide +kernel
set_option maxRecDepth 100000 in
theorem c_Dk_type_54 : ct_Dk_type 54 = ka_ri := rfl
theorem d_Dk_type_54 : decode prog_1_method_3_code 54 = .ok (.ireturn, 1) := by decide +kernel
set_option maxRecDepth 100000 in
set_option maxHeartbeats 4000000 in
theorem s_Dk_type_55 : ∀ pc, pc < 55 → kc_Sim kt kw_A kw_N kt_cl kt_En "DirectoryDesk" prog_1_method_3_code 4 (some .int) "type" none pc (ct_Dk_type pc) := by
  let P : Nat → Prop := fun pc => kc_Sim kt kw_A kw_N kt_cl kt_En "DirectoryDesk" prog_1_method_3_code 4 (some .int) "type" none pc (ct_Dk_type pc)
  exact kc_case (P := P) (kc_se c_Dk_type_54 (sm_ri d_Dk_type_54 rfl)) (
  kc_case (P := P) (kc_se rfl sm_no) (
  kc_case (P := P) (kc_se rfl sm_no) (
  kc_case (P := P) (kc_se c_Dk_type_51 (sm_get (ci := 1) (C := "DirectoryDesk$Reader") (F := kF_Rd) rfl kin_Rd (Nat.le_of_ble_eq_true rfl) d_Dk_type_51 (kw1 31 rfl rfl))) (
  kc_case (P := P) (kc_se rfl sm_no) (
  kc_case (P := P) (kc_se rfl sm_no) (
  kc_case (P := P) (kc_se c_Dk_type_48 (sm_get (ci := 0) (C := "DirectoryDesk") (F := kF_Dk) rfl kin_Dk (Nat.le_of_ble_eq_true rfl) d_Dk_type_48 (kw2 0 rfl rfl))) (
  kc_case (P := P) (kc_se c_Dk_type_47 (sm_aload_n d_Dk_type_47 rfl)) (
  kc_case (P := P) (kc_se rfl sm_no) (
  kc_case (P := P) (kc_se rfl sm_no) (
  kc_case (P := P) (kc_se c_Dk_type_44 (sm_cv (j := 26) rfl rfl kw_o kw_g wc_Rd_take (Nat.le_of_ble_eq_true rfl) hd_Rd_take (ci := 1) (F := kF_Rd) (N := 8) rfl (kw2 43 rfl rfl) wi_Rd_take ws_Rd_take wn_Rd_take d_Dk_type_44)) (
  kc_case (P := P) (kc_se c_Dk_type_43 (sm_iload_n d_Dk_type_43 rfl)) (
  kc_case (P := P) (kc_se c_Dk_type_42 (sm_lload_n d_Dk_type_42 rfl)) (
  kc_case (P := P) (kc_se rfl sm_no) (
  kc_case (P := P) (kc_se rfl sm_no) (
  kc_case (P := P) (kc_se c_Dk_type_39 (sm_get (ci := 0) (C := "DirectoryDesk") (F := kF_Dk) rfl kin_Dk (Nat.le_of_ble_eq_true rfl) d_Dk_type_39 (kw2 0 rfl rfl))) (
  kc_case (P := P) (kc_se c_Dk_type_38 (sm_aload_n d_Dk_type_38 rfl)) (
  kc_case (P := P) (kc_se c_Dk_type_37 (sm_ri d_Dk_type_37 rfl)) (
  kc_case (P := P) (kc_se rfl sm_no) (
  kc_case (P := P) (kc_se c_Dk_type_35 (sm_bipush d_Dk_type_35 (by decide))) (
  kc_case (P := P) (kc_se rfl sm_no) (
  kc_case (P := P) (kc_se rfl sm_no) (
  kc_case (P := P) (kc_se c_Dk_type_32 (sm_cm_le d_Dk_type_32 (by decide))) (
  kc_case (P := P) (kc_se rfl sm_no) (
  kc_case (P := P) (kc_se rfl sm_no) (
  kc_case (P := P) (kc_se c_Dk_type_29 (sm_sipush d_Dk_type_29 (by decide))) (
  kc_case (P := P) (kc_se c_Dk_type_28 (sm_iadd d_Dk_type_28)) (
  kc_case (P := P) (kc_se c_Dk_type_27 (sm_iload_n d_Dk_type_27 rfl)) (
  kc_case (P := P) (kc_se rfl sm_no) (
  kc_case (P := P) (kc_se rfl sm_no) (
  kc_case (P := P) (kc_se c_Dk_type_24 (sm_get (ci := 1) (C := "DirectoryDesk$Reader") (F := kF_Rd) rfl kin_Rd (Nat.le_of_ble_eq_true rfl) d_Dk_type_24 (kw1 31 rfl rfl))) (
  kc_case (P := P) (kc_se rfl sm_no) (
  kc_case (P := P) (kc_se rfl sm_no) (
  kc_case (P := P) (kc_se c_Dk_type_21 (sm_get (ci := 0) (C := "DirectoryDesk") (F := kF_Dk) rfl kin_Dk (Nat.le_of_ble_eq_true rfl) d_Dk_type_21 (kw2 0 rfl rfl))) (
  kc_case (P := P) (kc_se c_Dk_type_20 (sm_aload_n d_Dk_type_20 rfl)) (
  kc_case (P := P) (kc_se rfl sm_no) (
  kc_case (P := P) (kc_se rfl sm_no) (
  kc_case (P := P) (kc_se c_Dk_type_17 (sm_cm_gt d_Dk_type_17 (by decide))) (
  kc_case (P := P) (kc_se rfl sm_no) (
  kc_case (P := P) (kc_se c_Dk_type_15 (sm_bipush d_Dk_type_15 (by decide))) (
  kc_case (P := P) (kc_se c_Dk_type_14 (sm_iload_n d_Dk_type_14 rfl)) (
  kc_case (P := P) (kc_se rfl sm_no) (
  kc_case (P := P) (kc_se rfl sm_no) (
  kc_case (P := P) (kc_se c_Dk_type_11 (sm_cm_lt d_Dk_type_11 (by decide))) (
  kc_case (P := P) (kc_se c_Dk_type_10 (sm_iconst d_Dk_type_10 (by decide))) (
  kc_case (P := P) (kc_se c_Dk_type_9 (sm_iload_n d_Dk_type_9 rfl)) (
  kc_case (P := P) (kc_se c_Dk_type_8 (sm_ri d_Dk_type_8 rfl)) (
  kc_case (P := P) (kc_se c_Dk_type_7 (sm_iconst d_Dk_type_7 (by decide))) (
  kc_case (P := P) (kc_se rfl sm_no) (
  kc_case (P := P) (kc_se rfl sm_no) (
  kc_case (P := P) (kc_se c_Dk_type_4 (sm_if_ne d_Dk_type_4 (by decide))) (
  kc_case (P := P) (kc_se rfl sm_no) (
  kc_case (P := P) (kc_se rfl sm_no) (
  kc_case (P := P) (kc_se c_Dk_type_1 (sm_get (ci := 0) (C := "DirectoryDesk") (F := kF_Dk) rfl kin_Dk (Nat.le_of_ble_eq_true rfl) d_Dk_type_1 (kw2 8 rfl rfl))) (
  kc_case (P := P) (kc_se c_Dk_type_0 (sm_aload_n d_Dk_type_0 rfl)) (
  kc_case0)))))))))))))))))))))))))))))))))))))))))))))))))))))))
theorem ka_nth_no_Dk_type (pc : Nat) (h : 55 ≤ pc) : ct_Dk_type pc = ka_no := ka_nth_ge _ pc (Nat.le_trans (Nat.le_of_eq (by rfl)) h)
theorem s_Dk_type (pc : Nat) : kc_Sim kt kw_A kw_N kt_cl kt_En "DirectoryDesk" prog_1_method_3_code 4 (some .int) "type" none pc (ct_Dk_type pc) := (Nat.lt_or_ge pc 55).elim (s_Dk_type_55 pc) (fun h => kc_se (ka_nth_no_Dk_type pc h) sm_no)
def cl_Dk_handle_0 : List kc_A := [ka_al 0 1, ka_get 0 8, ka_no, ka_no, ka_if (fun x => ¬ x = 0) 9, ka_no, ka_no, ka_ci (-1) 1, ka_ri, ka_al 0 1, ka_get 0 1, ka_no, ka_no, ka_cv 46 0 2 0 0, ka_no, ka_no, ka_ci (-1) 1, ka_is 1 1, ka_ci (-1) 1, ka_is 2 1, ka_al 0 1, ka_get 0 0, ka_no, ka_no, ka_cv 27 0 1 0 0, ka_no, ka_no, ka_sw (fun x => if x = nI 74 then 120 else if x = nI 96 then 76 else if x = nI 99 then 87 else if x = nI 102 then 98 else if x = nI 104 then 109 else 131), ka_no, ka_no, ka_no, ka_no, ka_no, ka_no, ka_no, ka_no, ka_no, ka_no, ka_no, ka_no, ka_no, ka_no, ka_no, ka_no, ka_no, ka_no, ka_no, ka_no, ka_no, ka_no, ka_no, ka_no, ka_no, ka_no, ka_no, ka_no, ka_no, ka_no, ka_no, ka_no]
def cl_Dk_handle_1 : List kc_A := [ka_no, ka_no, ka_no, ka_no, ka_no, ka_no, ka_no, ka_no, ka_no, ka_no, ka_no, ka_no, ka_no, ka_no, ka_no, ka_no, ka_al 0 1, ka_cv 13 0 0 0 0, ka_no, ka_no, ka_is 1 1, ka_ci (nI 97) 2, ka_no, ka_is 2 1, ka_goto 141, ka_no, ka_no, ka_al 0 1, ka_cv 19 0 0 0 0, ka_no, ka_no, ka_is 1 1, ka_ci (nI 101) 2, ka_no, ka_is 2 1, ka_goto 141, ka_no, ka_no, ka_al 0 1, ka_cv 17 0 0 0 0, ka_no, ka_no, ka_is 1 1, ka_ci (nI 103) 2, ka_no, ka_is 2 1, ka_goto 141, ka_no, ka_no, ka_al 0 1, ka_cv 15 0 0 0 0, ka_no, ka_no, ka_is 1 1, ka_ci (nI 105) 2, ka_no, ka_is 2 1, ka_goto 141, ka_no, ka_no]
def cl_Dk_handle_2 : List kc_A := [ka_al 0 1, ka_cv 16 0 0 0 0, ka_no, ka_no, ka_is 1 1, ka_ci (nI 107) 2, ka_no, ka_is 2 1, ka_goto 141, ka_no, ka_no, ka_al 0 1, ka_ci (nI 0) 1, ka_put 0 8 .boolean, ka_no, ka_no, ka_al 0 1, ka_ci (nI 0) 1, ka_put 0 9 .boolean, ka_no, ka_no, ka_al 0 1, ka_get 0 0, ka_no, ka_no, ka_cv 25 0 1 0 0, ka_no, ka_no, ka_al 0 1, ka_get 0 8, ka_no, ka_no, ka_if (fun x => x = 0) 161, ka_no, ka_no, ka_al 0 1, ka_il 2 1, ka_il 1 1, ka_cv 23 2 0 0 0, ka_no, ka_no, ka_il 1 1, ka_ri]
def ct_Dk_handle : Nat → kc_A := fun pc => ka_nth (cl_Dk_handle_0 ++ (cl_Dk_handle_1 ++ (cl_Dk_handle_2))) pc
set_option maxRecDepth 100000 in
theorem c_Dk_handle_0 : ct_Dk_handle 0 = ka_al 0 1 := rfl
theorem d_Dk_handle_0 : decode prog_1_method_4_code 0 = .ok (.aload_n 0, 1) := by decide +kernel
set_option maxRecDepth 100000 in
theorem c_Dk_handle_1 : ct_Dk_handle 1 = ka_get 0 8 := rfl
theorem d_Dk_handle_1 : decode prog_1_method_4_code 1 = .ok (.getfield 67, 3) := by decide +kernel
set_option maxRecDepth 100000 in
theorem c_Dk_handle_4 : ct_Dk_handle 4 = ka_if (fun x => ¬ x = 0) 9 := rfl
theorem d_Dk_handle_4 : decode prog_1_method_4_code 4 = .ok (.ifCond .ne 5, 3) := by decide +kernel
set_option maxRecDepth 100000 in
theorem c_Dk_handle_7 : ct_Dk_handle 7 = ka_ci (-1) 1 := rfl
theorem d_Dk_handle_7 : decode prog_1_method_4_code 7 = .ok (.iconst (-1), 1) := by decide +kernel
set_option maxRecDepth 100000 in
theorem c_Dk_handle_8 : ct_Dk_handle 8 = ka_ri := rfl
theorem d_Dk_handle_8 : decode prog_1_method_4_code 8 = .ok (.ireturn, 1) := by decide +kernel
set_option maxRecDepth 100000 in
theorem c_Dk_handle_9 : ct_Dk_handle 9 = ka_al 0 1 := rfl
theorem d_Dk_handle_9 : decode prog_1_method_4_code 9 = .ok (.aload_n 0, 1) := by decide +kernel
set_option maxRecDepth 100000 in
theorem c_Dk_handle_10 : ct_Dk_handle 10 = ka_get 0 1 := rfl
theorem d_Dk_handle_10 : decode prog_1_method_4_code 10 = .ok (.getfield 19, 3) := by decide +kernel
set_option maxRecDepth 100000 in
theorem c_Dk_handle_13 : ct_Dk_handle 13 = ka_cv 46 0 2 0 0 := rfl
theorem d_Dk_handle_13 : decode prog_1_method_4_code 13 = .ok (.invokevirtual 85, 3) := by decide +kernel
set_option maxRecDepth 100000 in
theorem c_Dk_handle_16 : ct_Dk_handle 16 = ka_ci (-1) 1 := rfl
theorem d_Dk_handle_16 : decode prog_1_method_4_code 16 = .ok (.iconst (-1), 1) := by decide +kernel
set_option maxRecDepth 100000 in
theorem c_Dk_handle_17 : ct_Dk_handle 17 = ka_is 1 1 := rfl
theorem d_Dk_handle_17 : decode prog_1_method_4_code 17 = .ok (.istore_n 1, 1) := by decide +kernel
set_option maxRecDepth 100000 in
theorem c_Dk_handle_18 : ct_Dk_handle 18 = ka_ci (-1) 1 := rfl
theorem d_Dk_handle_18 : decode prog_1_method_4_code 18 = .ok (.iconst (-1), 1) := by decide +kernel
set_option maxRecDepth 100000 in
theorem c_Dk_handle_19 : ct_Dk_handle 19 = ka_is 2 1 := rfl
theorem d_Dk_handle_19 : decode prog_1_method_4_code 19 = .ok (.istore_n 2, 1) := by decide +kernel
set_option maxRecDepth 100000 in
theorem c_Dk_handle_20 : ct_Dk_handle 20 = ka_al 0 1 := rfl
theorem d_Dk_handle_20 : decode prog_1_method_4_code 20 = .ok (.aload_n 0, 1) := by decide +kernel
set_option maxRecDepth 100000 in
theorem c_Dk_handle_21 : ct_Dk_handle 21 = ka_get 0 0 := rfl
theorem d_Dk_handle_21 : decode prog_1_method_4_code 21 = .ok (.getfield 10, 3) := by decide +kernel
set_option maxRecDepth 100000 in
theorem c_Dk_handle_24 : ct_Dk_handle 24 = ka_cv 27 0 1 0 0 := rfl
theorem d_Dk_handle_24 : decode prog_1_method_4_code 24 = .ok (.invokevirtual 86, 3) := by decide +kernel
set_option maxRecDepth 100000 in
theorem c_Dk_handle_27 : ct_Dk_handle 27 = ka_sw (fun x => if x = nI 74 then 120 else if x = nI 96 then 76 else if x = nI 99 then 87 else if x = nI 102 then 98 else if x = nI 104 then 109 else 131) := rfl
theorem d_Dk_handle_27 : decode prog_1_method_4_code 27 = .ok (.lookupswitch 104 #[(74, 93), (96, 49), (99, 60), (102, 71), (104, 82)], 49) := by decide +kernel
set_option maxRecDepth 100000 in
theorem c_Dk_handle_76 : ct_Dk_handle 76 = ka_al 0 1 := rfl
theorem d_Dk_handle_76 : decode prog_1_method_4_code 76 = .ok (.aload_n 0, 1) := by decide +kernel
set_option maxRecDepth 100000 in
theorem c_Dk_handle_77 : ct_Dk_handle 77 = ka_cv 13 0 0 0 0 := rfl
theorem d_Dk_handle_77 : decode prog_1_method_4_code 77 = .ok (.invokevirtual 90, 3) := by decide +kernel
set_option maxRecDepth 100000 in
theorem c_Dk_handle_80 : ct_Dk_handle 80 = ka_is 1 1 := rfl
theorem d_Dk_handle_80 : decode prog_1_method_4_code 80 = .ok (.istore_n 1, 1) := by decide +kernel
set_option maxRecDepth 100000 in
theorem c_Dk_handle_81 : ct_Dk_handle 81 = ka_ci (nI 97) 2 := rfl
theorem d_Dk_handle_81 : decode prog_1_method_4_code 81 = .ok (.bipush 97, 2) := by decide +kernel
set_option maxRecDepth 100000 in
theorem c_Dk_handle_83 : ct_Dk_handle 83 = ka_is 2 1 := rfl
theorem d_Dk_handle_83 : decode prog_1_method_4_code 83 = .ok (.istore_n 2, 1) := by decide +kernel
set_option maxRecDepth 100000 in
theorem c_Dk_handle_84 : ct_Dk_handle 84 = ka_goto 141 := rfl
theorem d_Dk_handle_84 : decode prog_1_method_4_code 84 = .ok (.goto 57, 3) := by decide +kernel
set_option maxRecDepth 100000 in
theorem c_Dk_handle_87 : ct_Dk_handle 87 = ka_al 0 1 := rfl
theorem d_Dk_handle_87 : decode prog_1_method_4_code 87 = .ok (.aload_n 0, 1) := by decide +kernel
set_option maxRecDepth 100000 in
theorem c_Dk_handle_88 : ct_Dk_handle 88 = ka_cv 19 0 0 0 0 := rfl
theorem d_Dk_handle_88 : decode prog_1_method_4_code 88 = .ok (.invokevirtual 93, 3) := by decide +kernel
set_option maxRecDepth 100000 in
theorem c_Dk_handle_91 : ct_Dk_handle 91 = ka_is 1 1 := rfl
theorem d_Dk_handle_91 : decode prog_1_method_4_code 91 = .ok (.istore_n 1, 1) := by decide +kernel
set_option maxRecDepth 100000 in
theorem c_Dk_handle_92 : ct_Dk_handle 92 = ka_ci (nI 101) 2 := rfl
theorem d_Dk_handle_92 : decode prog_1_method_4_code 92 = .ok (.bipush 101, 2) := by decide +kernel
set_option maxRecDepth 100000 in
theorem c_Dk_handle_94 : ct_Dk_handle 94 = ka_is 2 1 := rfl
theorem d_Dk_handle_94 : decode prog_1_method_4_code 94 = .ok (.istore_n 2, 1) := by decide +kernel
set_option maxRecDepth 100000 in
theorem c_Dk_handle_95 : ct_Dk_handle 95 = ka_goto 141 := rfl
theorem d_Dk_handle_95 : decode prog_1_method_4_code 95 = .ok (.goto 46, 3) := by decide +kernel
set_option maxRecDepth 100000 in
theorem c_Dk_handle_98 : ct_Dk_handle 98 = ka_al 0 1 := rfl
theorem d_Dk_handle_98 : decode prog_1_method_4_code 98 = .ok (.aload_n 0, 1) := by decide +kernel
set_option maxRecDepth 100000 in
theorem c_Dk_handle_99 : ct_Dk_handle 99 = ka_cv 17 0 0 0 0 := rfl
theorem d_Dk_handle_99 : decode prog_1_method_4_code 99 = .ok (.invokevirtual 96, 3) := by decide +kernel
set_option maxRecDepth 100000 in
theorem c_Dk_handle_102 : ct_Dk_handle 102 = ka_is 1 1 := rfl
theorem d_Dk_handle_102 : decode prog_1_method_4_code 102 = .ok (.istore_n 1, 1) := by decide +kernel
set_option maxRecDepth 100000 in
theorem c_Dk_handle_103 : ct_Dk_handle 103 = ka_ci (nI 103) 2 := rfl
theorem d_Dk_handle_103 : decode prog_1_method_4_code 103 = .ok (.bipush 103, 2) := by decide +kernel
set_option maxRecDepth 100000 in
theorem c_Dk_handle_105 : ct_Dk_handle 105 = ka_is 2 1 := rfl
theorem d_Dk_handle_105 : decode prog_1_method_4_code 105 = .ok (.istore_n 2, 1) := by decide +kernel
set_option maxRecDepth 100000 in
theorem c_Dk_handle_106 : ct_Dk_handle 106 = ka_goto 141 := rfl
theorem d_Dk_handle_106 : decode prog_1_method_4_code 106 = .ok (.goto 35, 3) := by decide +kernel
set_option maxRecDepth 100000 in
theorem c_Dk_handle_109 : ct_Dk_handle 109 = ka_al 0 1 := rfl
theorem d_Dk_handle_109 : decode prog_1_method_4_code 109 = .ok (.aload_n 0, 1) := by decide +kernel
set_option maxRecDepth 100000 in
theorem c_Dk_handle_110 : ct_Dk_handle 110 = ka_cv 15 0 0 0 0 := rfl
theorem d_Dk_handle_110 : decode prog_1_method_4_code 110 = .ok (.invokevirtual 99, 3) := by decide +kernel
set_option maxRecDepth 100000 in
theorem c_Dk_handle_113 : ct_Dk_handle 113 = ka_is 1 1 := rfl
theorem d_Dk_handle_113 : decode prog_1_method_4_code 113 = .ok (.istore_n 1, 1) := by decide +kernel
set_option maxRecDepth 100000 in
theorem c_Dk_handle_114 : ct_Dk_handle 114 = ka_ci (nI 105) 2 := rfl
theorem d_Dk_handle_114 : decode prog_1_method_4_code 114 = .ok (.bipush 105, 2) := by decide +kernel
set_option maxRecDepth 100000 in
theorem c_Dk_handle_116 : ct_Dk_handle 116 = ka_is 2 1 := rfl
theorem d_Dk_handle_116 : decode prog_1_method_4_code 116 = .ok (.istore_n 2, 1) := by decide +kernel
set_option maxRecDepth 100000 in
theorem c_Dk_handle_117 : ct_Dk_handle 117 = ka_goto 141 := rfl
theorem d_Dk_handle_117 : decode prog_1_method_4_code 117 = .ok (.goto 24, 3) := by decide +kernel
set_option maxRecDepth 100000 in
theorem c_Dk_handle_120 : ct_Dk_handle 120 = ka_al 0 1 := rfl
theorem d_Dk_handle_120 : decode prog_1_method_4_code 120 = .ok (.aload_n 0, 1) := by decide +kernel
set_option maxRecDepth 100000 in
theorem c_Dk_handle_121 : ct_Dk_handle 121 = ka_cv 16 0 0 0 0 := rfl
theorem d_Dk_handle_121 : decode prog_1_method_4_code 121 = .ok (.invokevirtual 102, 3) := by decide +kernel
set_option maxRecDepth 100000 in
theorem c_Dk_handle_124 : ct_Dk_handle 124 = ka_is 1 1 := rfl
theorem d_Dk_handle_124 : decode prog_1_method_4_code 124 = .ok (.istore_n 1, 1) := by decide +kernel
set_option maxRecDepth 100000 in
theorem c_Dk_handle_125 : ct_Dk_handle 125 = ka_ci (nI 107) 2 := rfl
theorem d_Dk_handle_125 : decode prog_1_method_4_code 125 = .ok (.bipush 107, 2) := by decide +kernel
set_option maxRecDepth 100000 in
theorem c_Dk_handle_127 : ct_Dk_handle 127 = ka_is 2 1 := rfl
theorem d_Dk_handle_127 : decode prog_1_method_4_code 127 = .ok (.istore_n 2, 1) := by decide +kernel
set_option maxRecDepth 100000 in
theorem c_Dk_handle_128 : ct_Dk_handle 128 = ka_goto 141 := rfl
theorem d_Dk_handle_128 : decode prog_1_method_4_code 128 = .ok (.goto 13, 3) := by decide +kernel
set_option maxRecDepth 100000 in
theorem c_Dk_handle_131 : ct_Dk_handle 131 = ka_al 0 1 := rfl
theorem d_Dk_handle_131 : decode prog_1_method_4_code 131 = .ok (.aload_n 0, 1) := by decide +kernel
set_option maxRecDepth 100000 in
theorem c_Dk_handle_132 : ct_Dk_handle 132 = ka_ci (nI 0) 1 := rfl
theorem d_Dk_handle_132 : decode prog_1_method_4_code 132 = .ok (.iconst 0, 1) := by decide +kernel
set_option maxRecDepth 100000 in
theorem c_Dk_handle_133 : ct_Dk_handle 133 = ka_put 0 8 .boolean := rfl
theorem d_Dk_handle_133 : decode prog_1_method_4_code 133 = .ok (.putfield 67, 3) := by decide +kernel
set_option maxRecDepth 100000 in
theorem c_Dk_handle_136 : ct_Dk_handle 136 = ka_al 0 1 := rfl
theorem d_Dk_handle_136 : decode prog_1_method_4_code 136 = .ok (.aload_n 0, 1) := by decide +kernel
set_option maxRecDepth 100000 in
theorem c_Dk_handle_137 : ct_Dk_handle 137 = ka_ci (nI 0) 1 := rfl
theorem d_Dk_handle_137 : decode prog_1_method_4_code 137 = .ok (.iconst 0, 1) := by decide +kernel
set_option maxRecDepth 100000 in
theorem c_Dk_handle_138 : ct_Dk_handle 138 = ka_put 0 9 .boolean := rfl
theorem d_Dk_handle_138 : decode prog_1_method_4_code 138 = .ok (.putfield 71, 3) := by decide +kernel
set_option maxRecDepth 100000 in
theorem c_Dk_handle_141 : ct_Dk_handle 141 = ka_al 0 1 := rfl
theorem d_Dk_handle_141 : decode prog_1_method_4_code 141 = .ok (.aload_n 0, 1) := by decide +kernel
set_option maxRecDepth 100000 in
theorem c_Dk_handle_142 : ct_Dk_handle 142 = ka_get 0 0 := rfl
theorem d_Dk_handle_142 : decode prog_1_method_4_code 142 = .ok (.getfield 10, 3) := by decide +kernel
set_option maxRecDepth 100000 in
theorem c_Dk_handle_145 : ct_Dk_handle 145 = ka_cv 25 0 1 0 0 := rfl
theorem d_Dk_handle_145 : decode prog_1_method_4_code 145 = .ok (.invokevirtual 74, 3) := by decide +kernel
set_option maxRecDepth 100000 in
theorem c_Dk_handle_148 : ct_Dk_handle 148 = ka_al 0 1 := rfl
theorem d_Dk_handle_148 : decode prog_1_method_4_code 148 = .ok (.aload_n 0, 1) := by decide +kernel
set_option maxRecDepth 100000 in
theorem c_Dk_handle_149 : ct_Dk_handle 149 = ka_get 0 8 := rfl
theorem d_Dk_handle_149 : decode prog_1_method_4_code 149 = .ok (.getfield 67, 3) := by decide +kernel
set_option maxRecDepth 100000 in
theorem c_Dk_handle_152 : ct_Dk_handle 152 = ka_if (fun x => x = 0) 161 := rfl
theorem d_Dk_handle_152 : decode prog_1_method_4_code 152 = .ok (.ifCond .eq 9, 3) := by decide +kernel
set_option maxRecDepth 100000 in
theorem c_Dk_handle_155 : ct_Dk_handle 155 = ka_al 0 1 := rfl
theorem d_Dk_handle_155 : decode prog_1_method_4_code 155 = .ok (.aload_n 0, 1) := by decide +kernel
set_option maxRecDepth 100000 in
theorem c_Dk_handle_156 : ct_Dk_handle 156 = ka_il 2 1 := rfl
theorem d_Dk_handle_156 : decode prog_1_method_4_code 156 = .ok (.iload_n 2, 1) := by decide +kernel
set_option maxRecDepth 100000 in
theorem c_Dk_handle_157 : ct_Dk_handle 157 = ka_il 1 1 := rfl
theorem d_Dk_handle_157 : decode prog_1_method_4_code 157 = .ok (.iload_n 1, 1) := by decide +kernel
set_option maxRecDepth 100000 in
theorem c_Dk_handle_158 : ct_Dk_handle 158 = ka_cv 23 2 0 0 0 := rfl
theorem d_Dk_handle_158 : decode prog_1_method_4_code 158 = .ok (.invokevirtual 105, 3) := by decide +kernel
set_option maxRecDepth 100000 in
theorem c_Dk_handle_161 : ct_Dk_handle 161 = ka_il 1 1 := rfl
theorem d_Dk_handle_161 : decode prog_1_method_4_code 161 = .ok (.iload_n 1, 1) := by decide +kernel
set_option maxRecDepth 100000 in
theorem c_Dk_handle_162 : ct_Dk_handle 162 = ka_ri := rfl
theorem d_Dk_handle_162 : decode prog_1_method_4_code 162 = .ok (.ireturn, 1) := by decide +kernel
set_option maxRecDepth 100000 in
set_option maxHeartbeats 4000000 in
theorem s_Dk_handle_60 : ∀ pc, pc < 60 → kc_Sim kt kw_A kw_N kt_cl kt_En "DirectoryDesk" prog_1_method_4_code 3 (some .int) "handle" none pc (ct_Dk_handle pc) := by
  let P : Nat → Prop := fun pc => kc_Sim kt kw_A kw_N kt_cl kt_En "DirectoryDesk" prog_1_method_4_code 3 (some .int) "handle" none pc (ct_Dk_handle pc)
  exact kc_case (P := P) (kc_se rfl sm_no) (
  kc_case (P := P) (kc_se rfl sm_no) (
  kc_case (P := P) (kc_se rfl sm_no) (
  kc_case (P := P) (kc_se rfl sm_no) (
  kc_case (P := P) (kc_se rfl sm_no) (
  kc_case (P := P) (kc_se rfl sm_no) (
  kc_case (P := P) (kc_se rfl sm_no) (
  kc_case (P := P) (kc_se rfl sm_no) (
  kc_case (P := P) (kc_se rfl sm_no) (
  kc_case (P := P) (kc_se rfl sm_no) (
  kc_case (P := P) (kc_se rfl sm_no) (
  kc_case (P := P) (kc_se rfl sm_no) (
  kc_case (P := P) (kc_se rfl sm_no) (
  kc_case (P := P) (kc_se rfl sm_no) (
  kc_case (P := P) (kc_se rfl sm_no) (
  kc_case (P := P) (kc_se rfl sm_no) (
  kc_case (P := P) (kc_se rfl sm_no) (
  kc_case (P := P) (kc_se rfl sm_no) (
  kc_case (P := P) (kc_se rfl sm_no) (
  kc_case (P := P) (kc_se rfl sm_no) (
  kc_case (P := P) (kc_se rfl sm_no) (
  kc_case (P := P) (kc_se rfl sm_no) (
  kc_case (P := P) (kc_se rfl sm_no) (
  kc_case (P := P) (kc_se rfl sm_no) (
  kc_case (P := P) (kc_se rfl sm_no) (
  kc_case (P := P) (kc_se rfl sm_no) (
  kc_case (P := P) (kc_se rfl sm_no) (
  kc_case (P := P) (kc_se rfl sm_no) (
  kc_case (P := P) (kc_se rfl sm_no) (
  kc_case (P := P) (kc_se rfl sm_no) (
  kc_case (P := P) (kc_se rfl sm_no) (
  kc_case (P := P) (kc_se rfl sm_no) (
  kc_case (P := P) (kc_se c_Dk_handle_27 (sm_lsw d_Dk_handle_27 (by decide +kernel) (by
    intro x
    by_cases h74 : x = nI 74
    · subst h74; decide +kernel
    by_cases h96 : x = nI 96
    · subst h96; decide +kernel
    by_cases h99 : x = nI 99
    · subst h99; decide +kernel
    by_cases h102 : x = nI 102
    · subst h102; decide +kernel
    by_cases h104 : x = nI 104
    · subst h104; decide +kernel
    rw [lv_osw h74 (by decide +kernel), lv_osw h96 (by decide +kernel), lv_osw h99 (by decide +kernel), lv_osw h102 (by decide +kernel), lv_osw h104 (by decide +kernel)]
    show _ = ((if x = nI 74 then 120 else if x = nI 96 then 76 else if x = nI 99 then 87 else if x = nI 102 then 98 else if x = nI 104 then 109 else 131 : Nat) : Int)
    rw [if_neg h74, if_neg h96, if_neg h99, if_neg h102, if_neg h104]
    show ((27 : Nat) : Int) + 104 = ((131 : Nat) : Int)
    decide))) (
  kc_case (P := P) (kc_se rfl sm_no) (
  kc_case (P := P) (kc_se rfl sm_no) (
  kc_case (P := P) (kc_se c_Dk_handle_24 (sm_cv (j := 27) rfl rfl kw_o kw_g wc_Rd_readFrame (Nat.le_of_ble_eq_true rfl) hd_Rd_readFrame (ci := 1) (F := kF_Rd) (N := 8) rfl (kw2 55 rfl rfl) wi_Rd_readFrame ws_Rd_readFrame wn_Rd_readFrame d_Dk_handle_24)) (
  kc_case (P := P) (kc_se rfl sm_no) (
  kc_case (P := P) (kc_se rfl sm_no) (
  kc_case (P := P) (kc_se c_Dk_handle_21 (sm_get (ci := 0) (C := "DirectoryDesk") (F := kF_Dk) rfl kin_Dk (Nat.le_of_ble_eq_true rfl) d_Dk_handle_21 (kw2 0 rfl rfl))) (
  kc_case (P := P) (kc_se c_Dk_handle_20 (sm_aload_n d_Dk_handle_20 rfl)) (
  kc_case (P := P) (kc_se c_Dk_handle_19 (sm_istore_n d_Dk_handle_19 rfl (Nat.le_of_ble_eq_true rfl))) (
  kc_case (P := P) (kc_se c_Dk_handle_18 (sm_iconst d_Dk_handle_18 (by decide))) (
  kc_case (P := P) (kc_se c_Dk_handle_17 (sm_istore_n d_Dk_handle_17 rfl (Nat.le_of_ble_eq_true rfl))) (
  kc_case (P := P) (kc_se c_Dk_handle_16 (sm_iconst d_Dk_handle_16 (by decide))) (
  kc_case (P := P) (kc_se rfl sm_no) (
  kc_case (P := P) (kc_se rfl sm_no) (
  kc_case (P := P) (kc_se c_Dk_handle_13 (sm_cv (j := 46) rfl rfl kw_o kw_g wc_Wr_clear (Nat.le_of_ble_eq_true rfl) hd_Wr_clear (ci := 2) (F := kF_Wr) (N := 2) rfl (kw2 51 rfl rfl) wi_Wr_clear ws_Wr_clear wn_Wr_clear d_Dk_handle_13)) (
  kc_case (P := P) (kc_se rfl sm_no) (
  kc_case (P := P) (kc_se rfl sm_no) (
  kc_case (P := P) (kc_se c_Dk_handle_10 (sm_get (ci := 0) (C := "DirectoryDesk") (F := kF_Dk) rfl kin_Dk (Nat.le_of_ble_eq_true rfl) d_Dk_handle_10 (kw2 1 rfl rfl))) (
  kc_case (P := P) (kc_se c_Dk_handle_9 (sm_aload_n d_Dk_handle_9 rfl)) (
  kc_case (P := P) (kc_se c_Dk_handle_8 (sm_ri d_Dk_handle_8 rfl)) (
  kc_case (P := P) (kc_se c_Dk_handle_7 (sm_iconst d_Dk_handle_7 (by decide))) (
  kc_case (P := P) (kc_se rfl sm_no) (
  kc_case (P := P) (kc_se rfl sm_no) (
  kc_case (P := P) (kc_se c_Dk_handle_4 (sm_if_ne d_Dk_handle_4 (by decide))) (
  kc_case (P := P) (kc_se rfl sm_no) (
  kc_case (P := P) (kc_se rfl sm_no) (
  kc_case (P := P) (kc_se c_Dk_handle_1 (sm_get (ci := 0) (C := "DirectoryDesk") (F := kF_Dk) rfl kin_Dk (Nat.le_of_ble_eq_true rfl) d_Dk_handle_1 (kw2 8 rfl rfl))) (
  kc_case (P := P) (kc_se c_Dk_handle_0 (sm_aload_n d_Dk_handle_0 rfl)) (
  kc_case0))))))))))))))))))))))))))))))))))))))))))))))))))))))))))))
set_option maxRecDepth 100000 in
set_option maxHeartbeats 4000000 in
theorem s_Dk_handle_120 : ∀ pc, pc < 120 → kc_Sim kt kw_A kw_N kt_cl kt_En "DirectoryDesk" prog_1_method_4_code 3 (some .int) "handle" none pc (ct_Dk_handle pc) := by
  let P : Nat → Prop := fun pc => kc_Sim kt kw_A kw_N kt_cl kt_En "DirectoryDesk" prog_1_method_4_code 3 (some .int) "handle" none pc (ct_Dk_handle pc)
  exact kc_case (P := P) (kc_se rfl sm_no) (
  kc_case (P := P) (kc_se rfl sm_no) (
  kc_case (P := P) (kc_se c_Dk_handle_117 (sm_goto d_Dk_handle_117 (by decide))) (
  kc_case (P := P) (kc_se c_Dk_handle_116 (sm_istore_n d_Dk_handle_116 rfl (Nat.le_of_ble_eq_true rfl))) (
  kc_case (P := P) (kc_se rfl sm_no) (
  kc_case (P := P) (kc_se c_Dk_handle_114 (sm_bipush d_Dk_handle_114 (by decide))) (
  kc_case (P := P) (kc_se c_Dk_handle_113 (sm_istore_n d_Dk_handle_113 rfl (Nat.le_of_ble_eq_true rfl))) (
  kc_case (P := P) (kc_se rfl sm_no) (
  kc_case (P := P) (kc_se rfl sm_no) (
  kc_case (P := P) (kc_se c_Dk_handle_110 (sm_cv (j := 15) rfl rfl kw_o kw_g wc_Dk_add (Nat.le_of_ble_eq_true rfl) hd_Dk_add (ci := 0) (F := kF_Dk) (N := 10) rfl (kw3 101 rfl rfl) wi_Dk_add ws_Dk_add wn_Dk_add d_Dk_handle_110)) (
  kc_case (P := P) (kc_se c_Dk_handle_109 (sm_aload_n d_Dk_handle_109 rfl)) (
  kc_case (P := P) (kc_se rfl sm_no) (
  kc_case (P := P) (kc_se rfl sm_no) (
  kc_case (P := P) (kc_se c_Dk_handle_106 (sm_goto d_Dk_handle_106 (by decide))) (
  kc_case (P := P) (kc_se c_Dk_handle_105 (sm_istore_n d_Dk_handle_105 rfl (Nat.le_of_ble_eq_true rfl))) (
  kc_case (P := P) (kc_se rfl sm_no) (
  kc_case (P := P) (kc_se c_Dk_handle_103 (sm_bipush d_Dk_handle_103 (by decide))) (
  kc_case (P := P) (kc_se c_Dk_handle_102 (sm_istore_n d_Dk_handle_102 rfl (Nat.le_of_ble_eq_true rfl))) (
  kc_case (P := P) (kc_se rfl sm_no) (
  kc_case (P := P) (kc_se rfl sm_no) (
  kc_case (P := P) (kc_se c_Dk_handle_99 (sm_cv (j := 17) rfl rfl kw_o kw_g wc_Dk_modify (Nat.le_of_ble_eq_true rfl) hd_Dk_modify (ci := 0) (F := kF_Dk) (N := 10) rfl (kw3 46 rfl rfl) wi_Dk_modify ws_Dk_modify wn_Dk_modify d_Dk_handle_99)) (
  kc_case (P := P) (kc_se c_Dk_handle_98 (sm_aload_n d_Dk_handle_98 rfl)) (
  kc_case (P := P) (kc_se rfl sm_no) (
  kc_case (P := P) (kc_se rfl sm_no) (
  kc_case (P := P) (kc_se c_Dk_handle_95 (sm_goto d_Dk_handle_95 (by decide))) (
  kc_case (P := P) (kc_se c_Dk_handle_94 (sm_istore_n d_Dk_handle_94 rfl (Nat.le_of_ble_eq_true rfl))) (
  kc_case (P := P) (kc_se rfl sm_no) (
  kc_case (P := P) (kc_se c_Dk_handle_92 (sm_bipush d_Dk_handle_92 (by decide))) (
  kc_case (P := P) (kc_se c_Dk_handle_91 (sm_istore_n d_Dk_handle_91 rfl (Nat.le_of_ble_eq_true rfl))) (
  kc_case (P := P) (kc_se rfl sm_no) (
  kc_case (P := P) (kc_se rfl sm_no) (
  kc_case (P := P) (kc_se c_Dk_handle_88 (sm_cv (j := 19) rfl rfl kw_o kw_g wc_Dk_search (Nat.le_of_ble_eq_true rfl) hd_Dk_search (ci := 0) (F := kF_Dk) (N := 10) rfl (kw2 140 rfl rfl) wi_Dk_search ws_Dk_search wn_Dk_search d_Dk_handle_88)) (
  kc_case (P := P) (kc_se c_Dk_handle_87 (sm_aload_n d_Dk_handle_87 rfl)) (
  kc_case (P := P) (kc_se rfl sm_no) (
  kc_case (P := P) (kc_se rfl sm_no) (
  kc_case (P := P) (kc_se c_Dk_handle_84 (sm_goto d_Dk_handle_84 (by decide))) (
  kc_case (P := P) (kc_se c_Dk_handle_83 (sm_istore_n d_Dk_handle_83 rfl (Nat.le_of_ble_eq_true rfl))) (
  kc_case (P := P) (kc_se rfl sm_no) (
  kc_case (P := P) (kc_se c_Dk_handle_81 (sm_bipush d_Dk_handle_81 (by decide))) (
  kc_case (P := P) (kc_se c_Dk_handle_80 (sm_istore_n d_Dk_handle_80 rfl (Nat.le_of_ble_eq_true rfl))) (
  kc_case (P := P) (kc_se rfl sm_no) (
  kc_case (P := P) (kc_se rfl sm_no) (
  kc_case (P := P) (kc_se c_Dk_handle_77 (sm_cv (j := 13) rfl rfl kw_o kw_g wc_Dk_signOn (Nat.le_of_ble_eq_true rfl) hd_Dk_signOn (ci := 0) (F := kF_Dk) (N := 10) rfl (kw2 87 rfl rfl) wi_Dk_signOn ws_Dk_signOn wn_Dk_signOn d_Dk_handle_77)) (
  kc_case (P := P) (kc_se c_Dk_handle_76 (sm_aload_n d_Dk_handle_76 rfl)) (
  kc_case (P := P) (kc_se rfl sm_no) (
  kc_case (P := P) (kc_se rfl sm_no) (
  kc_case (P := P) (kc_se rfl sm_no) (
  kc_case (P := P) (kc_se rfl sm_no) (
  kc_case (P := P) (kc_se rfl sm_no) (
  kc_case (P := P) (kc_se rfl sm_no) (
  kc_case (P := P) (kc_se rfl sm_no) (
  kc_case (P := P) (kc_se rfl sm_no) (
  kc_case (P := P) (kc_se rfl sm_no) (
  kc_case (P := P) (kc_se rfl sm_no) (
  kc_case (P := P) (kc_se rfl sm_no) (
  kc_case (P := P) (kc_se rfl sm_no) (
  kc_case (P := P) (kc_se rfl sm_no) (
  kc_case (P := P) (kc_se rfl sm_no) (
  kc_case (P := P) (kc_se rfl sm_no) (
  kc_case (P := P) (kc_se rfl sm_no) (
  s_Dk_handle_60))))))))))))))))))))))))))))))))))))))))))))))))))))))))))))
set_option maxRecDepth 100000 in
set_option maxHeartbeats 4000000 in
theorem s_Dk_handle_163 : ∀ pc, pc < 163 → kc_Sim kt kw_A kw_N kt_cl kt_En "DirectoryDesk" prog_1_method_4_code 3 (some .int) "handle" none pc (ct_Dk_handle pc) := by
  let P : Nat → Prop := fun pc => kc_Sim kt kw_A kw_N kt_cl kt_En "DirectoryDesk" prog_1_method_4_code 3 (some .int) "handle" none pc (ct_Dk_handle pc)
  exact kc_case (P := P) (kc_se c_Dk_handle_162 (sm_ri d_Dk_handle_162 rfl)) (
  kc_case (P := P) (kc_se c_Dk_handle_161 (sm_iload_n d_Dk_handle_161 rfl)) (
  kc_case (P := P) (kc_se rfl sm_no) (
  kc_case (P := P) (kc_se rfl sm_no) (
  kc_case (P := P) (kc_se c_Dk_handle_158 (sm_cv (j := 23) rfl rfl kw_o kw_g wc_Dk_conclude (Nat.le_of_ble_eq_true rfl) hd_Dk_conclude (ci := 0) (F := kF_Dk) (N := 10) rfl (kw3 128 rfl rfl) wi_Dk_conclude ws_Dk_conclude wn_Dk_conclude d_Dk_handle_158)) (
  kc_case (P := P) (kc_se c_Dk_handle_157 (sm_iload_n d_Dk_handle_157 rfl)) (
  kc_case (P := P) (kc_se c_Dk_handle_156 (sm_iload_n d_Dk_handle_156 rfl)) (
  kc_case (P := P) (kc_se c_Dk_handle_155 (sm_aload_n d_Dk_handle_155 rfl)) (
  kc_case (P := P) (kc_se rfl sm_no) (
  kc_case (P := P) (kc_se rfl sm_no) (
  kc_case (P := P) (kc_se c_Dk_handle_152 (sm_if_eq d_Dk_handle_152 (by decide))) (
  kc_case (P := P) (kc_se rfl sm_no) (
  kc_case (P := P) (kc_se rfl sm_no) (
  kc_case (P := P) (kc_se c_Dk_handle_149 (sm_get (ci := 0) (C := "DirectoryDesk") (F := kF_Dk) rfl kin_Dk (Nat.le_of_ble_eq_true rfl) d_Dk_handle_149 (kw2 8 rfl rfl))) (
  kc_case (P := P) (kc_se c_Dk_handle_148 (sm_aload_n d_Dk_handle_148 rfl)) (
  kc_case (P := P) (kc_se rfl sm_no) (
  kc_case (P := P) (kc_se rfl sm_no) (
  kc_case (P := P) (kc_se c_Dk_handle_145 (sm_cv (j := 25) rfl rfl kw_o kw_g wc_Rd_clear (Nat.le_of_ble_eq_true rfl) hd_Rd_clear (ci := 1) (F := kF_Rd) (N := 8) rfl (kw2 35 rfl rfl) wi_Rd_clear ws_Rd_clear wn_Rd_clear d_Dk_handle_145)) (
  kc_case (P := P) (kc_se rfl sm_no) (
  kc_case (P := P) (kc_se rfl sm_no) (
  kc_case (P := P) (kc_se c_Dk_handle_142 (sm_get (ci := 0) (C := "DirectoryDesk") (F := kF_Dk) rfl kin_Dk (Nat.le_of_ble_eq_true rfl) d_Dk_handle_142 (kw2 0 rfl rfl))) (
  kc_case (P := P) (kc_se c_Dk_handle_141 (sm_aload_n d_Dk_handle_141 rfl)) (
  kc_case (P := P) (kc_se rfl sm_no) (
  kc_case (P := P) (kc_se rfl sm_no) (
  kc_case (P := P) (kc_se c_Dk_handle_138 (sm_put (ci := 0) (C := "DirectoryDesk") (F := kF_Dk) rfl kin_Dk kty_Dk ktk_Dk knm_Dk (Nat.le_of_ble_eq_true rfl) (by decide +kernel) d_Dk_handle_138 (kw2 9 rfl rfl) rfl)) (
  kc_case (P := P) (kc_se c_Dk_handle_137 (sm_iconst d_Dk_handle_137 (by decide))) (
  kc_case (P := P) (kc_se c_Dk_handle_136 (sm_aload_n d_Dk_handle_136 rfl)) (
  kc_case (P := P) (kc_se rfl sm_no) (
  kc_case (P := P) (kc_se rfl sm_no) (
  kc_case (P := P) (kc_se c_Dk_handle_133 (sm_put (ci := 0) (C := "DirectoryDesk") (F := kF_Dk) rfl kin_Dk kty_Dk ktk_Dk knm_Dk (Nat.le_of_ble_eq_true rfl) (by decide +kernel) d_Dk_handle_133 (kw2 8 rfl rfl) rfl)) (
  kc_case (P := P) (kc_se c_Dk_handle_132 (sm_iconst d_Dk_handle_132 (by decide))) (
  kc_case (P := P) (kc_se c_Dk_handle_131 (sm_aload_n d_Dk_handle_131 rfl)) (
  kc_case (P := P) (kc_se rfl sm_no) (
  kc_case (P := P) (kc_se rfl sm_no) (
  kc_case (P := P) (kc_se c_Dk_handle_128 (sm_goto d_Dk_handle_128 (by decide))) (
  kc_case (P := P) (kc_se c_Dk_handle_127 (sm_istore_n d_Dk_handle_127 rfl (Nat.le_of_ble_eq_true rfl))) (
  kc_case (P := P) (kc_se rfl sm_no) (
  kc_case (P := P) (kc_se c_Dk_handle_125 (sm_bipush d_Dk_handle_125 (by decide))) (
  kc_case (P := P) (kc_se c_Dk_handle_124 (sm_istore_n d_Dk_handle_124 rfl (Nat.le_of_ble_eq_true rfl))) (
  kc_case (P := P) (kc_se rfl sm_no) (
  kc_case (P := P) (kc_se rfl sm_no) (
  kc_case (P := P) (kc_se c_Dk_handle_121 (sm_cv (j := 16) rfl rfl kw_o kw_g wc_Dk_delete (Nat.le_of_ble_eq_true rfl) hd_Dk_delete (ci := 0) (F := kF_Dk) (N := 10) rfl (kw3 115 rfl rfl) wi_Dk_delete ws_Dk_delete wn_Dk_delete d_Dk_handle_121)) (
  kc_case (P := P) (kc_se c_Dk_handle_120 (sm_aload_n d_Dk_handle_120 rfl)) (
  s_Dk_handle_120)))))))))))))))))))))))))))))))))))))))))))
theorem ka_nth_no_Dk_handle (pc : Nat) (h : 163 ≤ pc) : ct_Dk_handle pc = ka_no := ka_nth_ge _ pc (Nat.le_trans (Nat.le_of_eq (by rfl)) h)
theorem s_Dk_handle (pc : Nat) : kc_Sim kt kw_A kw_N kt_cl kt_En "DirectoryDesk" prog_1_method_4_code 3 (some .int) "handle" none pc (ct_Dk_handle pc) := (Nat.lt_or_ge pc 163).elim (s_Dk_handle_163 pc) (fun h => kc_se (ka_nth_no_Dk_handle pc h) sm_no)
def cl_Dk_answered_0 : List kc_A := [ka_al 0 1, ka_get 0 1, ka_no, ka_no, ka_get 2 1, ka_no, ka_no, ka_ri]
def ct_Dk_answered : Nat → kc_A := fun pc => ka_nth (cl_Dk_answered_0) pc
set_option maxRecDepth 100000 in
theorem c_Dk_answered_0 : ct_Dk_answered 0 = ka_al 0 1 := rfl
theorem d_Dk_answered_0 : decode prog_1_method_5_code 0 = .ok (.aload_n 0, 1) := by decide +kernel
set_option maxRecDepth 100000 in
theorem c_Dk_answered_1 : ct_Dk_answered 1 = ka_get 0 1 := rfl
theorem d_Dk_answered_1 : decode prog_1_method_5_code 1 = .ok (.getfield 19, 3) := by decide +kernel
set_option maxRecDepth 100000 in
theorem c_Dk_answered_4 : ct_Dk_answered 4 = ka_get 2 1 := rfl
theorem d_Dk_answered_4 : decode prog_1_method_5_code 4 = .ok (.getfield 109, 3) := by decide +kernel
set_option maxRecDepth 100000 in
theorem c_Dk_answered_7 : ct_Dk_answered 7 = ka_ri := rfl
theorem d_Dk_answered_7 : decode prog_1_method_5_code 7 = .ok (.ireturn, 1) := by decide +kernel
set_option maxRecDepth 100000 in
set_option maxHeartbeats 4000000 in
theorem s_Dk_answered_8 : ∀ pc, pc < 8 → kc_Sim kt kw_A kw_N kt_cl kt_En "DirectoryDesk" prog_1_method_5_code 1 (some .int) "answered" none pc (ct_Dk_answered pc) := by
  let P : Nat → Prop := fun pc => kc_Sim kt kw_A kw_N kt_cl kt_En "DirectoryDesk" prog_1_method_5_code 1 (some .int) "answered" none pc (ct_Dk_answered pc)
  exact kc_case (P := P) (kc_se c_Dk_answered_7 (sm_ri d_Dk_answered_7 rfl)) (
  kc_case (P := P) (kc_se rfl sm_no) (
  kc_case (P := P) (kc_se rfl sm_no) (
  kc_case (P := P) (kc_se c_Dk_answered_4 (sm_get (ci := 2) (C := "DirectoryDesk$Writer") (F := kF_Wr) rfl kin_Wr (Nat.le_of_ble_eq_true rfl) d_Dk_answered_4 (kw1 72 rfl rfl))) (
  kc_case (P := P) (kc_se rfl sm_no) (
  kc_case (P := P) (kc_se rfl sm_no) (
  kc_case (P := P) (kc_se c_Dk_answered_1 (sm_get (ci := 0) (C := "DirectoryDesk") (F := kF_Dk) rfl kin_Dk (Nat.le_of_ble_eq_true rfl) d_Dk_answered_1 (kw2 1 rfl rfl))) (
  kc_case (P := P) (kc_se c_Dk_answered_0 (sm_aload_n d_Dk_answered_0 rfl)) (
  kc_case0))))))))
theorem ka_nth_no_Dk_answered (pc : Nat) (h : 8 ≤ pc) : ct_Dk_answered pc = ka_no := ka_nth_ge _ pc (Nat.le_trans (Nat.le_of_eq (by rfl)) h)
theorem s_Dk_answered (pc : Nat) : kc_Sim kt kw_A kw_N kt_cl kt_En "DirectoryDesk" prog_1_method_5_code 1 (some .int) "answered" none pc (ct_Dk_answered pc) := (Nat.lt_or_ge pc 8).elim (s_Dk_answered_8 pc) (fun h => kc_se (ka_nth_no_Dk_answered pc h) sm_no)
def cl_Dk_answer_0 : List kc_A := [ka_il 1 1, ka_if (fun x => x < 0) 15, ka_no, ka_no, ka_il 1 1, ka_al 0 1, ka_get 0 1, ka_no, ka_no, ka_get 2 1, ka_no, ka_no, ka_cm (fun x y => x < y) 19, ka_no, ka_no, ka_cl (-1) 3, ka_no, ka_no, ka_rl, ka_cl 0 1, ka_ls 2 1, ka_il 1 1, ka_is 4 2, ka_no, ka_il 4 2, ka_no, ka_il 1 1, ka_ci (nI 7) 2, ka_no, ka_ii (fun x y => x + y), ka_cm (fun x y => y ≤ x) 68, ka_no, ka_no, ka_il 4 2, ka_no, ka_al 0 1, ka_get 0 1, ka_no, ka_no, ka_get 2 1, ka_no, ka_no, ka_cm (fun x y => y ≤ x) 68, ka_no, ka_no, ka_ll 2 1, ka_ci (nI 8) 2, ka_no, ka_lsh (fun x y => x <<< (y.toInt64 &&& 63)), ka_al 0 1, ka_get 0 1, ka_no, ka_no, ka_get 2 0, ka_no, ka_no, ka_il 4 2, ka_no, ka_iald, ka_i2l]
def cl_Dk_answer_1 : List kc_A := [ka_ll2 (fun x y => x ||| y), ka_ls 2 1, ka_inc 4 (nI 1), ka_no, ka_no, ka_goto 24, ka_no, ka_no, ka_ll 2 1, ka_rl]
def ct_Dk_answer : Nat → kc_A := fun pc => ka_nth (cl_Dk_answer_0 ++ (cl_Dk_answer_1)) pc
set_option maxRecDepth 100000 in
theorem c_Dk_answer_0 : ct_Dk_answer 0 = ka_il 1 1 := rfl
theorem d_Dk_answer_0 : decode prog_1_method_6_code 0 = .ok (.iload_n 1, 1) := by decide +kernel
set_option maxRecDepth 100000 in
theorem c_Dk_answer_1 : ct_Dk_answer 1 = ka_if (fun x => x < 0) 15 := rfl
theorem d_Dk_answer_1 : decode prog_1_method_6_code 1 = .ok (.ifCond .lt 14, 3) := by decide +kernel
set_option maxRecDepth 100000 in
theorem c_Dk_answer_4 : ct_Dk_answer 4 = ka_il 1 1 := rfl
theorem d_Dk_answer_4 : decode prog_1_method_6_code 4 = .ok (.iload_n 1, 1) := by decide +kernel
set_option maxRecDepth 100000 in
theorem c_Dk_answer_5 : ct_Dk_answer 5 = ka_al 0 1 := rfl
theorem d_Dk_answer_5 : decode prog_1_method_6_code 5 = .ok (.aload_n 0, 1) := by decide +kernel
set_option maxRecDepth 100000 in
theorem c_Dk_answer_6 : ct_Dk_answer 6 = ka_get 0 1 := rfl
theorem d_Dk_answer_6 : decode prog_1_method_6_code 6 = .ok (.getfield 19, 3) := by decide +kernel
set_option maxRecDepth 100000 in
theorem c_Dk_answer_9 : ct_Dk_answer 9 = ka_get 2 1 := rfl
theorem d_Dk_answer_9 : decode prog_1_method_6_code 9 = .ok (.getfield 109, 3) := by decide +kernel
set_option maxRecDepth 100000 in
theorem c_Dk_answer_12 : ct_Dk_answer 12 = ka_cm (fun x y => x < y) 19 := rfl
theorem d_Dk_answer_12 : decode prog_1_method_6_code 12 = .ok (.if_icmp .lt 7, 3) := by decide +kernel
set_option maxRecDepth 100000 in
theorem c_Dk_answer_15 : ct_Dk_answer 15 = ka_cl (-1) 3 := rfl
theorem d_Dk_answer_15 : decode prog_1_method_6_code 15 = .ok (.ldc2_w 110, 3) := by decide +kernel
set_option maxRecDepth 100000 in
theorem c_Dk_answer_18 : ct_Dk_answer 18 = ka_rl := rfl
theorem d_Dk_answer_18 : decode prog_1_method_6_code 18 = .ok (.lreturn, 1) := by decide +kernel
set_option maxRecDepth 100000 in
theorem c_Dk_answer_19 : ct_Dk_answer 19 = ka_cl 0 1 := rfl
theorem d_Dk_answer_19 : decode prog_1_method_6_code 19 = .ok (.lconst 0, 1) := by decide +kernel
set_option maxRecDepth 100000 in
theorem c_Dk_answer_20 : ct_Dk_answer 20 = ka_ls 2 1 := rfl
theorem d_Dk_answer_20 : decode prog_1_method_6_code 20 = .ok (.lstore_n 2, 1) := by decide +kernel
set_option maxRecDepth 100000 in
theorem c_Dk_answer_21 : ct_Dk_answer 21 = ka_il 1 1 := rfl
theorem d_Dk_answer_21 : decode prog_1_method_6_code 21 = .ok (.iload_n 1, 1) := by decide +kernel
set_option maxRecDepth 100000 in
theorem c_Dk_answer_22 : ct_Dk_answer 22 = ka_is 4 2 := rfl
theorem d_Dk_answer_22 : decode prog_1_method_6_code 22 = .ok (.istore 4, 2) := by decide +kernel
set_option maxRecDepth 100000 in
theorem c_Dk_answer_24 : ct_Dk_answer 24 = ka_il 4 2 := rfl
theorem d_Dk_answer_24 : decode prog_1_method_6_code 24 = .ok (.iload 4, 2) := by decide +kernel
set_option maxRecDepth 100000 in
theorem c_Dk_answer_26 : ct_Dk_answer 26 = ka_il 1 1 := rfl
theorem d_Dk_answer_26 : decode prog_1_method_6_code 26 = .ok (.iload_n 1, 1) := by decide +kernel
set_option maxRecDepth 100000 in
theorem c_Dk_answer_27 : ct_Dk_answer 27 = ka_ci (nI 7) 2 := rfl
theorem d_Dk_answer_27 : decode prog_1_method_6_code 27 = .ok (.bipush 7, 2) := by decide +kernel
set_option maxRecDepth 100000 in
theorem c_Dk_answer_29 : ct_Dk_answer 29 = ka_ii (fun x y => x + y) := rfl
theorem d_Dk_answer_29 : decode prog_1_method_6_code 29 = .ok (.iadd, 1) := by decide +kernel
set_option maxRecDepth 100000 in
theorem c_Dk_answer_30 : ct_Dk_answer 30 = ka_cm (fun x y => y ≤ x) 68 := rfl
theorem d_Dk_answer_30 : decode prog_1_method_6_code 30 = .ok (.if_icmp .ge 38, 3) := by decide +kernel
set_option maxRecDepth 100000 in
theorem c_Dk_answer_33 : ct_Dk_answer 33 = ka_il 4 2 := rfl
theorem d_Dk_answer_33 : decode prog_1_method_6_code 33 = .ok (.iload 4, 2) := by decide +kernel
set_option maxRecDepth 100000 in
theorem c_Dk_answer_35 : ct_Dk_answer 35 = ka_al 0 1 := rfl
theorem d_Dk_answer_35 : decode prog_1_method_6_code 35 = .ok (.aload_n 0, 1) := by decide +kernel
set_option maxRecDepth 100000 in
theorem c_Dk_answer_36 : ct_Dk_answer 36 = ka_get 0 1 := rfl
theorem d_Dk_answer_36 : decode prog_1_method_6_code 36 = .ok (.getfield 19, 3) := by decide +kernel
set_option maxRecDepth 100000 in
theorem c_Dk_answer_39 : ct_Dk_answer 39 = ka_get 2 1 := rfl
theorem d_Dk_answer_39 : decode prog_1_method_6_code 39 = .ok (.getfield 109, 3) := by decide +kernel
set_option maxRecDepth 100000 in
theorem c_Dk_answer_42 : ct_Dk_answer 42 = ka_cm (fun x y => y ≤ x) 68 := rfl
theorem d_Dk_answer_42 : decode prog_1_method_6_code 42 = .ok (.if_icmp .ge 26, 3) := by decide +kernel
set_option maxRecDepth 100000 in
theorem c_Dk_answer_45 : ct_Dk_answer 45 = ka_ll 2 1 := rfl
theorem d_Dk_answer_45 : decode prog_1_method_6_code 45 = .ok (.lload_n 2, 1) := by decide +kernel
set_option maxRecDepth 100000 in
theorem c_Dk_answer_46 : ct_Dk_answer 46 = ka_ci (nI 8) 2 := rfl
theorem d_Dk_answer_46 : decode prog_1_method_6_code 46 = .ok (.bipush 8, 2) := by decide +kernel
set_option maxRecDepth 100000 in
theorem c_Dk_answer_48 : ct_Dk_answer 48 = ka_lsh (fun x y => x <<< (y.toInt64 &&& 63)) := rfl
theorem d_Dk_answer_48 : decode prog_1_method_6_code 48 = .ok (.lshl, 1) := by decide +kernel
set_option maxRecDepth 100000 in
theorem c_Dk_answer_49 : ct_Dk_answer 49 = ka_al 0 1 := rfl
theorem d_Dk_answer_49 : decode prog_1_method_6_code 49 = .ok (.aload_n 0, 1) := by decide +kernel
set_option maxRecDepth 100000 in
theorem c_Dk_answer_50 : ct_Dk_answer 50 = ka_get 0 1 := rfl
theorem d_Dk_answer_50 : decode prog_1_method_6_code 50 = .ok (.getfield 19, 3) := by decide +kernel
set_option maxRecDepth 100000 in
theorem c_Dk_answer_53 : ct_Dk_answer 53 = ka_get 2 0 := rfl
theorem d_Dk_answer_53 : decode prog_1_method_6_code 53 = .ok (.getfield 112, 3) := by decide +kernel
set_option maxRecDepth 100000 in
theorem c_Dk_answer_56 : ct_Dk_answer 56 = ka_il 4 2 := rfl
theorem d_Dk_answer_56 : decode prog_1_method_6_code 56 = .ok (.iload 4, 2) := by decide +kernel
set_option maxRecDepth 100000 in
theorem c_Dk_answer_58 : ct_Dk_answer 58 = ka_iald := rfl
theorem d_Dk_answer_58 : decode prog_1_method_6_code 58 = .ok (.iaload, 1) := by decide +kernel
set_option maxRecDepth 100000 in
theorem c_Dk_answer_59 : ct_Dk_answer 59 = ka_i2l := rfl
theorem d_Dk_answer_59 : decode prog_1_method_6_code 59 = .ok (.i2l, 1) := by decide +kernel
set_option maxRecDepth 100000 in
theorem c_Dk_answer_60 : ct_Dk_answer 60 = ka_ll2 (fun x y => x ||| y) := rfl
theorem d_Dk_answer_60 : decode prog_1_method_6_code 60 = .ok (.lor, 1) := by decide +kernel
set_option maxRecDepth 100000 in
theorem c_Dk_answer_61 : ct_Dk_answer 61 = ka_ls 2 1 := rfl
theorem d_Dk_answer_61 : decode prog_1_method_6_code 61 = .ok (.lstore_n 2, 1) := by decide +kernel
set_option maxRecDepth 100000 in
theorem c_Dk_answer_62 : ct_Dk_answer 62 = ka_inc 4 (nI 1) := rfl
theorem d_Dk_answer_62 : decode prog_1_method_6_code 62 = .ok (.iinc 4 1, 3) := by decide +kernel
set_option maxRecDepth 100000 in
theorem c_Dk_answer_65 : ct_Dk_answer 65 = ka_goto 24 := rfl
theorem d_Dk_answer_65 : decode prog_1_method_6_code 65 = .ok (.goto (-41), 3) := by decide +kernel
set_option maxRecDepth 100000 in
theorem c_Dk_answer_68 : ct_Dk_answer 68 = ka_ll 2 1 := rfl
theorem d_Dk_answer_68 : decode prog_1_method_6_code 68 = .ok (.lload_n 2, 1) := by decide +kernel
set_option maxRecDepth 100000 in
theorem c_Dk_answer_69 : ct_Dk_answer 69 = ka_rl := rfl
theorem d_Dk_answer_69 : decode prog_1_method_6_code 69 = .ok (.lreturn, 1) := by decide +kernel
set_option maxRecDepth 100000 in
set_option maxHeartbeats 4000000 in
theorem s_Dk_answer_60 : ∀ pc, pc < 60 → kc_Sim kt kw_A kw_N kt_cl kt_En "DirectoryDesk" prog_1_method_6_code 5 (some .long) "answer" none pc (ct_Dk_answer pc) := by
  let P : Nat → Prop := fun pc => kc_Sim kt kw_A kw_N kt_cl kt_En "DirectoryDesk" prog_1_method_6_code 5 (some .long) "answer" none pc (ct_Dk_answer pc)
  exact kc_case (P := P) (kc_se c_Dk_answer_59 (sm_i2l d_Dk_answer_59)) (
  kc_case (P := P) (kc_se c_Dk_answer_58 (sm_iald d_Dk_answer_58)) (
  kc_case (P := P) (kc_se rfl sm_no) (
  kc_case (P := P) (kc_se c_Dk_answer_56 (sm_iload d_Dk_answer_56)) (
  kc_case (P := P) (kc_se rfl sm_no) (
  kc_case (P := P) (kc_se rfl sm_no) (
  kc_case (P := P) (kc_se c_Dk_answer_53 (sm_get (ci := 2) (C := "DirectoryDesk$Writer") (F := kF_Wr) rfl kin_Wr (Nat.le_of_ble_eq_true rfl) d_Dk_answer_53 (kw1 70 rfl rfl))) (
  kc_case (P := P) (kc_se rfl sm_no) (
  kc_case (P := P) (kc_se rfl sm_no) (
  kc_case (P := P) (kc_se c_Dk_answer_50 (sm_get (ci := 0) (C := "DirectoryDesk") (F := kF_Dk) rfl kin_Dk (Nat.le_of_ble_eq_true rfl) d_Dk_answer_50 (kw2 1 rfl rfl))) (
  kc_case (P := P) (kc_se c_Dk_answer_49 (sm_aload_n d_Dk_answer_49 rfl)) (
  kc_case (P := P) (kc_se c_Dk_answer_48 (sm_lshl d_Dk_answer_48)) (
  kc_case (P := P) (kc_se rfl sm_no) (
  kc_case (P := P) (kc_se c_Dk_answer_46 (sm_bipush d_Dk_answer_46 (by decide))) (
  kc_case (P := P) (kc_se c_Dk_answer_45 (sm_lload_n d_Dk_answer_45 rfl)) (
  kc_case (P := P) (kc_se rfl sm_no) (
  kc_case (P := P) (kc_se rfl sm_no) (
  kc_case (P := P) (kc_se c_Dk_answer_42 (sm_cm_ge d_Dk_answer_42 (by decide))) (
  kc_case (P := P) (kc_se rfl sm_no) (
  kc_case (P := P) (kc_se rfl sm_no) (
  kc_case (P := P) (kc_se c_Dk_answer_39 (sm_get (ci := 2) (C := "DirectoryDesk$Writer") (F := kF_Wr) rfl kin_Wr (Nat.le_of_ble_eq_true rfl) d_Dk_answer_39 (kw1 72 rfl rfl))) (
  kc_case (P := P) (kc_se rfl sm_no) (
  kc_case (P := P) (kc_se rfl sm_no) (
  kc_case (P := P) (kc_se c_Dk_answer_36 (sm_get (ci := 0) (C := "DirectoryDesk") (F := kF_Dk) rfl kin_Dk (Nat.le_of_ble_eq_true rfl) d_Dk_answer_36 (kw2 1 rfl rfl))) (
  kc_case (P := P) (kc_se c_Dk_answer_35 (sm_aload_n d_Dk_answer_35 rfl)) (
  kc_case (P := P) (kc_se rfl sm_no) (
  kc_case (P := P) (kc_se c_Dk_answer_33 (sm_iload d_Dk_answer_33)) (
  kc_case (P := P) (kc_se rfl sm_no) (
  kc_case (P := P) (kc_se rfl sm_no) (
  kc_case (P := P) (kc_se c_Dk_answer_30 (sm_cm_ge d_Dk_answer_30 (by decide))) (
  kc_case (P := P) (kc_se c_Dk_answer_29 (sm_iadd d_Dk_answer_29)) (
  kc_case (P := P) (kc_se rfl sm_no) (
  kc_case (P := P) (kc_se c_Dk_answer_27 (sm_bipush d_Dk_answer_27 (by decide))) (
  kc_case (P := P) (kc_se c_Dk_answer_26 (sm_iload_n d_Dk_answer_26 rfl)) (
  kc_case (P := P) (kc_se rfl sm_no) (
  kc_case (P := P) (kc_se c_Dk_answer_24 (sm_iload d_Dk_answer_24)) (
  kc_case (P := P) (kc_se rfl sm_no) (
  kc_case (P := P) (kc_se c_Dk_answer_22 (sm_istore d_Dk_answer_22 (Nat.le_of_ble_eq_true rfl))) (
  kc_case (P := P) (kc_se c_Dk_answer_21 (sm_iload_n d_Dk_answer_21 rfl)) (
  kc_case (P := P) (kc_se c_Dk_answer_20 (sm_lstore_n d_Dk_answer_20 rfl (Nat.le_of_ble_eq_true rfl))) (
  kc_case (P := P) (kc_se c_Dk_answer_19 (sm_lconst d_Dk_answer_19 (by decide))) (
  kc_case (P := P) (kc_se c_Dk_answer_18 (sm_rl d_Dk_answer_18 rfl)) (
  kc_case (P := P) (kc_se rfl sm_no) (
  kc_case (P := P) (kc_se rfl sm_no) (
  kc_case (P := P) (kc_se c_Dk_answer_15 (sm_ldc2 d_Dk_answer_15 (kw3 146 rfl rfl))) (
  kc_case (P := P) (kc_se rfl sm_no) (
  kc_case (P := P) (kc_se rfl sm_no) (
  kc_case (P := P) (kc_se c_Dk_answer_12 (sm_cm_lt d_Dk_answer_12 (by decide))) (
  kc_case (P := P) (kc_se rfl sm_no) (
  kc_case (P := P) (kc_se rfl sm_no) (
  kc_case (P := P) (kc_se c_Dk_answer_9 (sm_get (ci := 2) (C := "DirectoryDesk$Writer") (F := kF_Wr) rfl kin_Wr (Nat.le_of_ble_eq_true rfl) d_Dk_answer_9 (kw1 72 rfl rfl))) (
  kc_case (P := P) (kc_se rfl sm_no) (
  kc_case (P := P) (kc_se rfl sm_no) (
  kc_case (P := P) (kc_se c_Dk_answer_6 (sm_get (ci := 0) (C := "DirectoryDesk") (F := kF_Dk) rfl kin_Dk (Nat.le_of_ble_eq_true rfl) d_Dk_answer_6 (kw2 1 rfl rfl))) (
  kc_case (P := P) (kc_se c_Dk_answer_5 (sm_aload_n d_Dk_answer_5 rfl)) (
  kc_case (P := P) (kc_se c_Dk_answer_4 (sm_iload_n d_Dk_answer_4 rfl)) (
  kc_case (P := P) (kc_se rfl sm_no) (
  kc_case (P := P) (kc_se rfl sm_no) (
  kc_case (P := P) (kc_se c_Dk_answer_1 (sm_if_lt d_Dk_answer_1 (by decide))) (
  kc_case (P := P) (kc_se c_Dk_answer_0 (sm_iload_n d_Dk_answer_0 rfl)) (
  kc_case0))))))))))))))))))))))))))))))))))))))))))))))))))))))))))))
set_option maxRecDepth 100000 in
set_option maxHeartbeats 4000000 in
theorem s_Dk_answer_70 : ∀ pc, pc < 70 → kc_Sim kt kw_A kw_N kt_cl kt_En "DirectoryDesk" prog_1_method_6_code 5 (some .long) "answer" none pc (ct_Dk_answer pc) := by
  let P : Nat → Prop := fun pc => kc_Sim kt kw_A kw_N kt_cl kt_En "DirectoryDesk" prog_1_method_6_code 5 (some .long) "answer" none pc (ct_Dk_answer pc)
  exact kc_case (P := P) (kc_se c_Dk_answer_69 (sm_rl d_Dk_answer_69 rfl)) (
  kc_case (P := P) (kc_se c_Dk_answer_68 (sm_lload_n d_Dk_answer_68 rfl)) (
  kc_case (P := P) (kc_se rfl sm_no) (
  kc_case (P := P) (kc_se rfl sm_no) (
  kc_case (P := P) (kc_se c_Dk_answer_65 (sm_goto d_Dk_answer_65 (by decide))) (
  kc_case (P := P) (kc_se rfl sm_no) (
  kc_case (P := P) (kc_se rfl sm_no) (
  kc_case (P := P) (kc_se c_Dk_answer_62 (sm_inc d_Dk_answer_62 (by decide) (Nat.le_of_ble_eq_true rfl))) (
  kc_case (P := P) (kc_se c_Dk_answer_61 (sm_lstore_n d_Dk_answer_61 rfl (Nat.le_of_ble_eq_true rfl))) (
  kc_case (P := P) (kc_se c_Dk_answer_60 (sm_lor d_Dk_answer_60)) (
  s_Dk_answer_60))))))))))
theorem ka_nth_no_Dk_answer (pc : Nat) (h : 70 ≤ pc) : ct_Dk_answer pc = ka_no := ka_nth_ge _ pc (Nat.le_trans (Nat.le_of_eq (by rfl)) h)
theorem s_Dk_answer (pc : Nat) : kc_Sim kt kw_A kw_N kt_cl kt_En "DirectoryDesk" prog_1_method_6_code 5 (some .long) "answer" none pc (ct_Dk_answer pc) := (Nat.lt_or_ge pc 70).elim (s_Dk_answer_70 pc) (fun h => kc_se (ka_nth_no_Dk_answer pc h) sm_no)
def cl_Dk_entries_0 : List kc_A := [ka_al 0 1, ka_get 0 2, ka_no, ka_no, ka_get 3 1, ka_no, ka_no, ka_ri]
def ct_Dk_entries : Nat → kc_A := fun pc => ka_nth (cl_Dk_entries_0) pc
set_option maxRecDepth 100000 in
theorem c_Dk_entries_0 : ct_Dk_entries 0 = ka_al 0 1 := rfl
theorem d_Dk_entries_0 : decode prog_1_method_7_code 0 = .ok (.aload_n 0, 1) := by decide +kernel
set_option maxRecDepth 100000 in
theorem c_Dk_entries_1 : ct_Dk_entries 1 = ka_get 0 2 := rfl
theorem d_Dk_entries_1 : decode prog_1_method_7_code 1 = .ok (.getfield 26, 3) := by decide +kernel
set_option maxRecDepth 100000 in
theorem c_Dk_entries_4 : ct_Dk_entries 4 = ka_get 3 1 := rfl
theorem d_Dk_entries_4 : decode prog_1_method_7_code 4 = .ok (.getfield 116, 3) := by decide +kernel
set_option maxRecDepth 100000 in
theorem c_Dk_entries_7 : ct_Dk_entries 7 = ka_ri := rfl
theorem d_Dk_entries_7 : decode prog_1_method_7_code 7 = .ok (.ireturn, 1) := by decide +kernel
set_option maxRecDepth 100000 in
set_option maxHeartbeats 4000000 in
theorem s_Dk_entries_8 : ∀ pc, pc < 8 → kc_Sim kt kw_A kw_N kt_cl kt_En "DirectoryDesk" prog_1_method_7_code 1 (some .int) "entries" none pc (ct_Dk_entries pc) := by
  let P : Nat → Prop := fun pc => kc_Sim kt kw_A kw_N kt_cl kt_En "DirectoryDesk" prog_1_method_7_code 1 (some .int) "entries" none pc (ct_Dk_entries pc)
  exact kc_case (P := P) (kc_se c_Dk_entries_7 (sm_ri d_Dk_entries_7 rfl)) (
  kc_case (P := P) (kc_se rfl sm_no) (
  kc_case (P := P) (kc_se rfl sm_no) (
  kc_case (P := P) (kc_se c_Dk_entries_4 (sm_get (ci := 3) (C := "DirectoryDesk$Tree") (F := kF_Tr) rfl kin_Tr (Nat.le_of_ble_eq_true rfl) d_Dk_entries_4 (kw1 163 rfl rfl))) (
  kc_case (P := P) (kc_se rfl sm_no) (
  kc_case (P := P) (kc_se rfl sm_no) (
  kc_case (P := P) (kc_se c_Dk_entries_1 (sm_get (ci := 0) (C := "DirectoryDesk") (F := kF_Dk) rfl kin_Dk (Nat.le_of_ble_eq_true rfl) d_Dk_entries_1 (kw2 2 rfl rfl))) (
  kc_case (P := P) (kc_se c_Dk_entries_0 (sm_aload_n d_Dk_entries_0 rfl)) (
  kc_case0))))))))
theorem ka_nth_no_Dk_entries (pc : Nat) (h : 8 ≤ pc) : ct_Dk_entries pc = ka_no := ka_nth_ge _ pc (Nat.le_trans (Nat.le_of_eq (by rfl)) h)
theorem s_Dk_entries (pc : Nat) : kc_Sim kt kw_A kw_N kt_cl kt_En "DirectoryDesk" prog_1_method_7_code 1 (some .int) "entries" none pc (ct_Dk_entries pc) := (Nat.lt_or_ge pc 8).elim (s_Dk_entries_8 pc) (fun h => kc_se (ka_nth_no_Dk_entries pc h) sm_no)
def cl_Dk_entry_0 : List kc_A := [ka_il 1 1, ka_if (fun x => x < 0) 15, ka_no, ka_no, ka_il 1 1, ka_al 0 1, ka_get 0 2, ka_no, ka_no, ka_get 3 1, ka_no, ka_no, ka_cm (fun x y => x < y) 18, ka_no, ka_no, ka_ci (-2) 2, ka_no, ka_ri, ka_al 0 1, ka_get 0 2, ka_no, ka_no, ka_get 3 0, ka_no, ka_no, ka_il 1 1, ka_aald, ka_get 4 0, ka_no, ka_no, ka_get 5 2, ka_no, ka_no, ka_ci (nI 8) 2, ka_no, ka_al 0 1, ka_get 0 2, ka_no, ka_no, ka_get 3 0, ka_no, ka_no, ka_il 1 1, ka_aald, ka_get 4 1, ka_no, ka_no, ka_get 6 2, ka_no, ka_no, ka_ii (fun x y => x * y), ka_ii (fun x y => x + y), ka_ri]
def ct_Dk_entry : Nat → kc_A := fun pc => ka_nth (cl_Dk_entry_0) pc
set_option maxRecDepth 100000 in
theorem c_Dk_entry_0 : ct_Dk_entry 0 = ka_il 1 1 := rfl
theorem d_Dk_entry_0 : decode prog_1_method_8_code 0 = .ok (.iload_n 1, 1) := by decide +kernel
set_option maxRecDepth 100000 in
theorem c_Dk_entry_1 : ct_Dk_entry 1 = ka_if (fun x => x < 0) 15 := rfl
theorem d_Dk_entry_1 : decode prog_1_method_8_code 1 = .ok (.ifCond .lt 14, 3) := by decide +kernel
set_option maxRecDepth 100000 in
theorem c_Dk_entry_4 : ct_Dk_entry 4 = ka_il 1 1 := rfl
theorem d_Dk_entry_4 : decode prog_1_method_8_code 4 = .ok (.iload_n 1, 1) := by decide +kernel
set_option maxRecDepth 100000 in
theorem c_Dk_entry_5 : ct_Dk_entry 5 = ka_al 0 1 := rfl
theorem d_Dk_entry_5 : decode prog_1_method_8_code 5 = .ok (.aload_n 0, 1) := by decide +kernel
set_option maxRecDepth 100000 in
theorem c_Dk_entry_6 : ct_Dk_entry 6 = ka_get 0 2 := rfl
theorem d_Dk_entry_6 : decode prog_1_method_8_code 6 = .ok (.getfield 26, 3) := by decide +kernel
set_option maxRecDepth 100000 in
theorem c_Dk_entry_9 : ct_Dk_entry 9 = ka_get 3 1 := rfl
theorem d_Dk_entry_9 : decode prog_1_method_8_code 9 = .ok (.getfield 116, 3) := by decide +kernel
set_option maxRecDepth 100000 in
theorem c_Dk_entry_12 : ct_Dk_entry 12 = ka_cm (fun x y => x < y) 18 := rfl
theorem d_Dk_entry_12 : decode prog_1_method_8_code 12 = .ok (.if_icmp .lt 6, 3) := by decide +kernel
set_option maxRecDepth 100000 in
theorem c_Dk_entry_15 : ct_Dk_entry 15 = ka_ci (-2) 2 := rfl
theorem d_Dk_entry_15 : decode prog_1_method_8_code 15 = .ok (.bipush (-2), 2) := by decide +kernel
set_option maxRecDepth 100000 in
theorem c_Dk_entry_17 : ct_Dk_entry 17 = ka_ri := rfl
theorem d_Dk_entry_17 : decode prog_1_method_8_code 17 = .ok (.ireturn, 1) := by decide +kernel
set_option maxRecDepth 100000 in
theorem c_Dk_entry_18 : ct_Dk_entry 18 = ka_al 0 1 := rfl
theorem d_Dk_entry_18 : decode prog_1_method_8_code 18 = .ok (.aload_n 0, 1) := by decide +kernel
set_option maxRecDepth 100000 in
theorem c_Dk_entry_19 : ct_Dk_entry 19 = ka_get 0 2 := rfl
theorem d_Dk_entry_19 : decode prog_1_method_8_code 19 = .ok (.getfield 26, 3) := by decide +kernel
set_option maxRecDepth 100000 in
theorem c_Dk_entry_22 : ct_Dk_entry 22 = ka_get 3 0 := rfl
theorem d_Dk_entry_22 : decode prog_1_method_8_code 22 = .ok (.getfield 119, 3) := by decide +kernel
set_option maxRecDepth 100000 in
theorem c_Dk_entry_25 : ct_Dk_entry 25 = ka_il 1 1 := rfl
theorem d_Dk_entry_25 : decode prog_1_method_8_code 25 = .ok (.iload_n 1, 1) := by decide +kernel
set_option maxRecDepth 100000 in
theorem c_Dk_entry_26 : ct_Dk_entry 26 = ka_aald := rfl
theorem d_Dk_entry_26 : decode prog_1_method_8_code 26 = .ok (.aaload, 1) := by decide +kernel
set_option maxRecDepth 100000 in
theorem c_Dk_entry_27 : ct_Dk_entry 27 = ka_get 4 0 := rfl
theorem d_Dk_entry_27 : decode prog_1_method_8_code 27 = .ok (.getfield 123, 3) := by decide +kernel
set_option maxRecDepth 100000 in
theorem c_Dk_entry_30 : ct_Dk_entry 30 = ka_get 5 2 := rfl
theorem d_Dk_entry_30 : decode prog_1_method_8_code 30 = .ok (.getfield 128, 3) := by decide +kernel
set_option maxRecDepth 100000 in
theorem c_Dk_entry_33 : ct_Dk_entry 33 = ka_ci (nI 8) 2 := rfl
theorem d_Dk_entry_33 : decode prog_1_method_8_code 33 = .ok (.bipush 8, 2) := by decide +kernel
set_option maxRecDepth 100000 in
theorem c_Dk_entry_35 : ct_Dk_entry 35 = ka_al 0 1 := rfl
theorem d_Dk_entry_35 : decode prog_1_method_8_code 35 = .ok (.aload_n 0, 1) := by decide +kernel
set_option maxRecDepth 100000 in
theorem c_Dk_entry_36 : ct_Dk_entry 36 = ka_get 0 2 := rfl
theorem d_Dk_entry_36 : decode prog_1_method_8_code 36 = .ok (.getfield 26, 3) := by decide +kernel
set_option maxRecDepth 100000 in
theorem c_Dk_entry_39 : ct_Dk_entry 39 = ka_get 3 0 := rfl
theorem d_Dk_entry_39 : decode prog_1_method_8_code 39 = .ok (.getfield 119, 3) := by decide +kernel
set_option maxRecDepth 100000 in
theorem c_Dk_entry_42 : ct_Dk_entry 42 = ka_il 1 1 := rfl
theorem d_Dk_entry_42 : decode prog_1_method_8_code 42 = .ok (.iload_n 1, 1) := by decide +kernel
set_option maxRecDepth 100000 in
theorem c_Dk_entry_43 : ct_Dk_entry 43 = ka_aald := rfl
theorem d_Dk_entry_43 : decode prog_1_method_8_code 43 = .ok (.aaload, 1) := by decide +kernel
set_option maxRecDepth 100000 in
theorem c_Dk_entry_44 : ct_Dk_entry 44 = ka_get 4 1 := rfl
theorem d_Dk_entry_44 : decode prog_1_method_8_code 44 = .ok (.getfield 131, 3) := by decide +kernel
set_option maxRecDepth 100000 in
theorem c_Dk_entry_47 : ct_Dk_entry 47 = ka_get 6 2 := rfl
theorem d_Dk_entry_47 : decode prog_1_method_8_code 47 = .ok (.getfield 134, 3) := by decide +kernel
set_option maxRecDepth 100000 in
theorem c_Dk_entry_50 : ct_Dk_entry 50 = ka_ii (fun x y => x * y) := rfl
theorem d_Dk_entry_50 : decode prog_1_method_8_code 50 = .ok (.imul, 1) := by decide +kernel
set_option maxRecDepth 100000 in
theorem c_Dk_entry_51 : ct_Dk_entry 51 = ka_ii (fun x y => x + y) := rfl
theorem d_Dk_entry_51 : decode prog_1_method_8_code 51 = .ok (.iadd, 1) := by decide +kernel
set_option maxRecDepth 100000 in
theorem c_Dk_entry_52 : ct_Dk_entry 52 = ka_ri := rfl
theorem d_Dk_entry_52 : decode prog_1_method_8_code 52 = .ok (.ireturn, 1) := by decide +kernel
set_option maxRecDepth 100000 in
set_option maxHeartbeats 4000000 in
theorem s_Dk_entry_53 : ∀ pc, pc < 53 → kc_Sim kt kw_A kw_N kt_cl kt_En "DirectoryDesk" prog_1_method_8_code 2 (some .int) "entry" none pc (ct_Dk_entry pc) := by
  let P : Nat → Prop := fun pc => kc_Sim kt kw_A kw_N kt_cl kt_En "DirectoryDesk" prog_1_method_8_code 2 (some .int) "entry" none pc (ct_Dk_entry pc)
  exact kc_case (P := P) (kc_se c_Dk_entry_52 (sm_ri d_Dk_entry_52 rfl)) (
  kc_case (P := P) (kc_se c_Dk_entry_51 (sm_iadd d_Dk_entry_51)) (
  kc_case (P := P) (kc_se c_Dk_entry_50 (sm_imul d_Dk_entry_50)) (
  kc_case (P := P) (kc_se rfl sm_no) (
  kc_case (P := P) (kc_se rfl sm_no) (
  kc_case (P := P) (kc_se c_Dk_entry_47 (sm_get (ci := 6) (C := "DirectoryDesk$Pairs") (F := kF_Pa) rfl kin_Pa (Nat.le_of_ble_eq_true rfl) d_Dk_entry_47 (kw1 127 rfl rfl))) (
  kc_case (P := P) (kc_se rfl sm_no) (
  kc_case (P := P) (kc_se rfl sm_no) (
  kc_case (P := P) (kc_se c_Dk_entry_44 (sm_get (ci := 4) (C := "DirectoryDesk$Entry") (F := kF_En) rfl kin_En (Nat.le_of_ble_eq_true rfl) d_Dk_entry_44 (kw1 140 rfl rfl))) (
  kc_case (P := P) (kc_se c_Dk_entry_43 (sm_aald d_Dk_entry_43)) (
  kc_case (P := P) (kc_se c_Dk_entry_42 (sm_iload_n d_Dk_entry_42 rfl)) (
  kc_case (P := P) (kc_se rfl sm_no) (
  kc_case (P := P) (kc_se rfl sm_no) (
  kc_case (P := P) (kc_se c_Dk_entry_39 (sm_get (ci := 3) (C := "DirectoryDesk$Tree") (F := kF_Tr) rfl kin_Tr (Nat.le_of_ble_eq_true rfl) d_Dk_entry_39 (kw1 161 rfl rfl))) (
  kc_case (P := P) (kc_se rfl sm_no) (
  kc_case (P := P) (kc_se rfl sm_no) (
  kc_case (P := P) (kc_se c_Dk_entry_36 (sm_get (ci := 0) (C := "DirectoryDesk") (F := kF_Dk) rfl kin_Dk (Nat.le_of_ble_eq_true rfl) d_Dk_entry_36 (kw2 2 rfl rfl))) (
  kc_case (P := P) (kc_se c_Dk_entry_35 (sm_aload_n d_Dk_entry_35 rfl)) (
  kc_case (P := P) (kc_se rfl sm_no) (
  kc_case (P := P) (kc_se c_Dk_entry_33 (sm_bipush d_Dk_entry_33 (by decide))) (
  kc_case (P := P) (kc_se rfl sm_no) (
  kc_case (P := P) (kc_se rfl sm_no) (
  kc_case (P := P) (kc_se c_Dk_entry_30 (sm_get (ci := 5) (C := "DirectoryDesk$Name") (F := kF_Nm) rfl kin_Nm (Nat.le_of_ble_eq_true rfl) d_Dk_entry_30 (kw1 106 rfl rfl))) (
  kc_case (P := P) (kc_se rfl sm_no) (
  kc_case (P := P) (kc_se rfl sm_no) (
  kc_case (P := P) (kc_se c_Dk_entry_27 (sm_get (ci := 4) (C := "DirectoryDesk$Entry") (F := kF_En) rfl kin_En (Nat.le_of_ble_eq_true rfl) d_Dk_entry_27 (kw1 137 rfl rfl))) (
  kc_case (P := P) (kc_se c_Dk_entry_26 (sm_aald d_Dk_entry_26)) (
  kc_case (P := P) (kc_se c_Dk_entry_25 (sm_iload_n d_Dk_entry_25 rfl)) (
  kc_case (P := P) (kc_se rfl sm_no) (
  kc_case (P := P) (kc_se rfl sm_no) (
  kc_case (P := P) (kc_se c_Dk_entry_22 (sm_get (ci := 3) (C := "DirectoryDesk$Tree") (F := kF_Tr) rfl kin_Tr (Nat.le_of_ble_eq_true rfl) d_Dk_entry_22 (kw1 161 rfl rfl))) (
  kc_case (P := P) (kc_se rfl sm_no) (
  kc_case (P := P) (kc_se rfl sm_no) (
  kc_case (P := P) (kc_se c_Dk_entry_19 (sm_get (ci := 0) (C := "DirectoryDesk") (F := kF_Dk) rfl kin_Dk (Nat.le_of_ble_eq_true rfl) d_Dk_entry_19 (kw2 2 rfl rfl))) (
  kc_case (P := P) (kc_se c_Dk_entry_18 (sm_aload_n d_Dk_entry_18 rfl)) (
  kc_case (P := P) (kc_se c_Dk_entry_17 (sm_ri d_Dk_entry_17 rfl)) (
  kc_case (P := P) (kc_se rfl sm_no) (
  kc_case (P := P) (kc_se c_Dk_entry_15 (sm_bipush d_Dk_entry_15 (by decide))) (
  kc_case (P := P) (kc_se rfl sm_no) (
  kc_case (P := P) (kc_se rfl sm_no) (
  kc_case (P := P) (kc_se c_Dk_entry_12 (sm_cm_lt d_Dk_entry_12 (by decide))) (
  kc_case (P := P) (kc_se rfl sm_no) (
  kc_case (P := P) (kc_se rfl sm_no) (
  kc_case (P := P) (kc_se c_Dk_entry_9 (sm_get (ci := 3) (C := "DirectoryDesk$Tree") (F := kF_Tr) rfl kin_Tr (Nat.le_of_ble_eq_true rfl) d_Dk_entry_9 (kw1 163 rfl rfl))) (
  kc_case (P := P) (kc_se rfl sm_no) (
  kc_case (P := P) (kc_se rfl sm_no) (
  kc_case (P := P) (kc_se c_Dk_entry_6 (sm_get (ci := 0) (C := "DirectoryDesk") (F := kF_Dk) rfl kin_Dk (Nat.le_of_ble_eq_true rfl) d_Dk_entry_6 (kw2 2 rfl rfl))) (
  kc_case (P := P) (kc_se c_Dk_entry_5 (sm_aload_n d_Dk_entry_5 rfl)) (
  kc_case (P := P) (kc_se c_Dk_entry_4 (sm_iload_n d_Dk_entry_4 rfl)) (
  kc_case (P := P) (kc_se rfl sm_no) (
  kc_case (P := P) (kc_se rfl sm_no) (
  kc_case (P := P) (kc_se c_Dk_entry_1 (sm_if_lt d_Dk_entry_1 (by decide))) (
  kc_case (P := P) (kc_se c_Dk_entry_0 (sm_iload_n d_Dk_entry_0 rfl)) (
  kc_case0)))))))))))))))))))))))))))))))))))))))))))))))))))))
theorem ka_nth_no_Dk_entry (pc : Nat) (h : 53 ≤ pc) : ct_Dk_entry pc = ka_no := ka_nth_ge _ pc (Nat.le_trans (Nat.le_of_eq (by rfl)) h)
theorem s_Dk_entry (pc : Nat) : kc_Sim kt kw_A kw_N kt_cl kt_En "DirectoryDesk" prog_1_method_8_code 2 (some .int) "entry" none pc (ct_Dk_entry pc) := (Nat.lt_or_ge pc 53).elim (s_Dk_entry_53 pc) (fun h => kc_se (ka_nth_no_Dk_entry pc h) sm_no)
def cl_Dk_pairType_0 : List kc_A := [ka_al 0 1, ka_il 1 1, ka_il 2 1, ka_cv 12 2 0 0 0, ka_no, ka_no, ka_if (fun x => x = 0) 29, ka_no, ka_no, ka_al 0 1, ka_get 0 2, ka_no, ka_no, ka_get 3 0, ka_no, ka_no, ka_il 1 1, ka_aald, ka_get 4 1, ka_no, ka_no, ka_get 6 0, ka_no, ka_no, ka_il 2 1, ka_iald, ka_goto 30, ka_no, ka_no, ka_ci (-1) 1, ka_ri]
def ct_Dk_pairType : Nat → kc_A := fun pc => ka_nth (cl_Dk_pairType_0) pc
set_option maxRecDepth 100000 in
theorem c_Dk_pairType_0 : ct_Dk_pairType 0 = ka_al 0 1 := rfl
theorem d_Dk_pairType_0 : decode prog_1_method_9_code 0 = .ok (.aload_n 0, 1) := by decide +kernel
set_option maxRecDepth 100000 in
theorem c_Dk_pairType_1 : ct_Dk_pairType 1 = ka_il 1 1 := rfl
theorem d_Dk_pairType_1 : decode prog_1_method_9_code 1 = .ok (.iload_n 1, 1) := by decide +kernel
set_option maxRecDepth 100000 in
theorem c_Dk_pairType_2 : ct_Dk_pairType 2 = ka_il 2 1 := rfl
theorem d_Dk_pairType_2 : decode prog_1_method_9_code 2 = .ok (.iload_n 2, 1) := by decide +kernel
set_option maxRecDepth 100000 in
theorem c_Dk_pairType_3 : ct_Dk_pairType 3 = ka_cv 12 2 0 0 0 := rfl
theorem d_Dk_pairType_3 : decode prog_1_method_9_code 3 = .ok (.invokevirtual 135, 3) := by decide +kernel
set_option maxRecDepth 100000 in
theorem c_Dk_pairType_6 : ct_Dk_pairType 6 = ka_if (fun x => x = 0) 29 := rfl
theorem d_Dk_pairType_6 : decode prog_1_method_9_code 6 = .ok (.ifCond .eq 23, 3) := by decide +kernel
set_option maxRecDepth 100000 in
theorem c_Dk_pairType_9 : ct_Dk_pairType 9 = ka_al 0 1 := rfl
theorem d_Dk_pairType_9 : decode prog_1_method_9_code 9 = .ok (.aload_n 0, 1) := by decide +kernel
set_option maxRecDepth 100000 in
theorem c_Dk_pairType_10 : ct_Dk_pairType 10 = ka_get 0 2 := rfl
theorem d_Dk_pairType_10 : decode prog_1_method_9_code 10 = .ok (.getfield 26, 3) := by decide +kernel
set_option maxRecDepth 100000 in
theorem c_Dk_pairType_13 : ct_Dk_pairType 13 = ka_get 3 0 := rfl
theorem d_Dk_pairType_13 : decode prog_1_method_9_code 13 = .ok (.getfield 119, 3) := by decide +kernel
set_option maxRecDepth 100000 in
theorem c_Dk_pairType_16 : ct_Dk_pairType 16 = ka_il 1 1 := rfl
theorem d_Dk_pairType_16 : decode prog_1_method_9_code 16 = .ok (.iload_n 1, 1) := by decide +kernel
set_option maxRecDepth 100000 in
theorem c_Dk_pairType_17 : ct_Dk_pairType 17 = ka_aald := rfl
theorem d_Dk_pairType_17 : decode prog_1_method_9_code 17 = .ok (.aaload, 1) := by decide +kernel
set_option maxRecDepth 100000 in
theorem c_Dk_pairType_18 : ct_Dk_pairType 18 = ka_get 4 1 := rfl
theorem d_Dk_pairType_18 : decode prog_1_method_9_code 18 = .ok (.getfield 131, 3) := by decide +kernel
set_option maxRecDepth 100000 in
theorem c_Dk_pairType_21 : ct_Dk_pairType 21 = ka_get 6 0 := rfl
theorem d_Dk_pairType_21 : decode prog_1_method_9_code 21 = .ok (.getfield 139, 3) := by decide +kernel
set_option maxRecDepth 100000 in
theorem c_Dk_pairType_24 : ct_Dk_pairType 24 = ka_il 2 1 := rfl
theorem d_Dk_pairType_24 : decode prog_1_method_9_code 24 = .ok (.iload_n 2, 1) := by decide +kernel
set_option maxRecDepth 100000 in
theorem c_Dk_pairType_25 : ct_Dk_pairType 25 = ka_iald := rfl
theorem d_Dk_pairType_25 : decode prog_1_method_9_code 25 = .ok (.iaload, 1) := by decide +kernel
set_option maxRecDepth 100000 in
theorem c_Dk_pairType_26 : ct_Dk_pairType 26 = ka_goto 30 := rfl
theorem d_Dk_pairType_26 : decode prog_1_method_9_code 26 = .ok (.goto 4, 3) := by decide +kernel
set_option maxRecDepth 100000 in
theorem c_Dk_pairType_29 : ct_Dk_pairType 29 = ka_ci (-1) 1 := rfl
theorem d_Dk_pairType_29 : decode prog_1_method_9_code 29 = .ok (.iconst (-1), 1) := by decide +kernel
set_option maxRecDepth 100000 in
theorem c_Dk_pairType_30 : ct_Dk_pairType 30 = ka_ri := rfl
theorem d_Dk_pairType_30 : decode prog_1_method_9_code 30 = .ok (.ireturn, 1) := by decide +kernel
set_option maxRecDepth 100000 in
set_option maxHeartbeats 4000000 in
theorem s_Dk_pairType_31 : ∀ pc, pc < 31 → kc_Sim kt kw_A kw_N kt_cl kt_En "DirectoryDesk" prog_1_method_9_code 3 (some .int) "pairType" none pc (ct_Dk_pairType pc) := by
  let P : Nat → Prop := fun pc => kc_Sim kt kw_A kw_N kt_cl kt_En "DirectoryDesk" prog_1_method_9_code 3 (some .int) "pairType" none pc (ct_Dk_pairType pc)
  exact kc_case (P := P) (kc_se c_Dk_pairType_30 (sm_ri d_Dk_pairType_30 rfl)) (
  kc_case (P := P) (kc_se c_Dk_pairType_29 (sm_iconst d_Dk_pairType_29 (by decide))) (
  kc_case (P := P) (kc_se rfl sm_no) (
  kc_case (P := P) (kc_se rfl sm_no) (
  kc_case (P := P) (kc_se c_Dk_pairType_26 (sm_goto d_Dk_pairType_26 (by decide))) (
  kc_case (P := P) (kc_se c_Dk_pairType_25 (sm_iald d_Dk_pairType_25)) (
  kc_case (P := P) (kc_se c_Dk_pairType_24 (sm_iload_n d_Dk_pairType_24 rfl)) (
  kc_case (P := P) (kc_se rfl sm_no) (
  kc_case (P := P) (kc_se rfl sm_no) (
  kc_case (P := P) (kc_se c_Dk_pairType_21 (sm_get (ci := 6) (C := "DirectoryDesk$Pairs") (F := kF_Pa) rfl kin_Pa (Nat.le_of_ble_eq_true rfl) d_Dk_pairType_21 (kw1 123 rfl rfl))) (
  kc_case (P := P) (kc_se rfl sm_no) (
  kc_case (P := P) (kc_se rfl sm_no) (
  kc_case (P := P) (kc_se c_Dk_pairType_18 (sm_get (ci := 4) (C := "DirectoryDesk$Entry") (F := kF_En) rfl kin_En (Nat.le_of_ble_eq_true rfl) d_Dk_pairType_18 (kw1 140 rfl rfl))) (
  kc_case (P := P) (kc_se c_Dk_pairType_17 (sm_aald d_Dk_pairType_17)) (
  kc_case (P := P) (kc_se c_Dk_pairType_16 (sm_iload_n d_Dk_pairType_16 rfl)) (
  kc_case (P := P) (kc_se rfl sm_no) (
  kc_case (P := P) (kc_se rfl sm_no) (
  kc_case (P := P) (kc_se c_Dk_pairType_13 (sm_get (ci := 3) (C := "DirectoryDesk$Tree") (F := kF_Tr) rfl kin_Tr (Nat.le_of_ble_eq_true rfl) d_Dk_pairType_13 (kw1 161 rfl rfl))) (
  kc_case (P := P) (kc_se rfl sm_no) (
  kc_case (P := P) (kc_se rfl sm_no) (
  kc_case (P := P) (kc_se c_Dk_pairType_10 (sm_get (ci := 0) (C := "DirectoryDesk") (F := kF_Dk) rfl kin_Dk (Nat.le_of_ble_eq_true rfl) d_Dk_pairType_10 (kw2 2 rfl rfl))) (
  kc_case (P := P) (kc_se c_Dk_pairType_9 (sm_aload_n d_Dk_pairType_9 rfl)) (
  kc_case (P := P) (kc_se rfl sm_no) (
  kc_case (P := P) (kc_se rfl sm_no) (
  kc_case (P := P) (kc_se c_Dk_pairType_6 (sm_if_eq d_Dk_pairType_6 (by decide))) (
  kc_case (P := P) (kc_se rfl sm_no) (
  kc_case (P := P) (kc_se rfl sm_no) (
  kc_case (P := P) (kc_se c_Dk_pairType_3 (sm_cv (j := 12) rfl rfl kw_o kw_g wc_Dk_isPair (Nat.le_of_ble_eq_true rfl) hd_Dk_isPair (ci := 0) (F := kF_Dk) (N := 10) rfl (kw3 159 rfl rfl) wi_Dk_isPair ws_Dk_isPair wn_Dk_isPair d_Dk_pairType_3)) (
  kc_case (P := P) (kc_se c_Dk_pairType_2 (sm_iload_n d_Dk_pairType_2 rfl)) (
  kc_case (P := P) (kc_se c_Dk_pairType_1 (sm_iload_n d_Dk_pairType_1 rfl)) (
  kc_case (P := P) (kc_se c_Dk_pairType_0 (sm_aload_n d_Dk_pairType_0 rfl)) (
  kc_case0)))))))))))))))))))))))))))))))
theorem ka_nth_no_Dk_pairType (pc : Nat) (h : 31 ≤ pc) : ct_Dk_pairType pc = ka_no := ka_nth_ge _ pc (Nat.le_trans (Nat.le_of_eq (by rfl)) h)
theorem s_Dk_pairType (pc : Nat) : kc_Sim kt kw_A kw_N kt_cl kt_En "DirectoryDesk" prog_1_method_9_code 3 (some .int) "pairType" none pc (ct_Dk_pairType pc) := (Nat.lt_or_ge pc 31).elim (s_Dk_pairType_31 pc) (fun h => kc_se (ka_nth_no_Dk_pairType pc h) sm_no)
def cl_Dk_pairValue_0 : List kc_A := [ka_al 0 1, ka_il 1 1, ka_il 2 1, ka_cv 12 2 0 0 0, ka_no, ka_no, ka_if (fun x => x = 0) 29, ka_no, ka_no, ka_al 0 1, ka_get 0 2, ka_no, ka_no, ka_get 3 0, ka_no, ka_no, ka_il 1 1, ka_aald, ka_get 4 1, ka_no, ka_no, ka_get 6 1, ka_no, ka_no, ka_il 2 1, ka_lald, ka_goto 32, ka_no, ka_no, ka_cl (-1) 3, ka_no, ka_no, ka_rl]
def ct_Dk_pairValue : Nat → kc_A := fun pc => ka_nth (cl_Dk_pairValue_0) pc
set_option maxRecDepth 100000 in
theorem c_Dk_pairValue_0 : ct_Dk_pairValue 0 = ka_al 0 1 := rfl
theorem d_Dk_pairValue_0 : decode prog_1_method_10_code 0 = .ok (.aload_n 0, 1) := by decide +kernel
set_option maxRecDepth 100000 in
theorem c_Dk_pairValue_1 : ct_Dk_pairValue 1 = ka_il 1 1 := rfl
theorem d_Dk_pairValue_1 : decode prog_1_method_10_code 1 = .ok (.iload_n 1, 1) := by decide +kernel
set_option maxRecDepth 100000 in
theorem c_Dk_pairValue_2 : ct_Dk_pairValue 2 = ka_il 2 1 := rfl
theorem d_Dk_pairValue_2 : decode prog_1_method_10_code 2 = .ok (.iload_n 2, 1) := by decide +kernel
set_option maxRecDepth 100000 in
theorem c_Dk_pairValue_3 : ct_Dk_pairValue 3 = ka_cv 12 2 0 0 0 := rfl
theorem d_Dk_pairValue_3 : decode prog_1_method_10_code 3 = .ok (.invokevirtual 135, 3) := by decide +kernel
set_option maxRecDepth 100000 in
theorem c_Dk_pairValue_6 : ct_Dk_pairValue 6 = ka_if (fun x => x = 0) 29 := rfl
theorem d_Dk_pairValue_6 : decode prog_1_method_10_code 6 = .ok (.ifCond .eq 23, 3) := by decide +kernel
set_option maxRecDepth 100000 in
theorem c_Dk_pairValue_9 : ct_Dk_pairValue 9 = ka_al 0 1 := rfl
theorem d_Dk_pairValue_9 : decode prog_1_method_10_code 9 = .ok (.aload_n 0, 1) := by decide +kernel
set_option maxRecDepth 100000 in
theorem c_Dk_pairValue_10 : ct_Dk_pairValue 10 = ka_get 0 2 := rfl
theorem d_Dk_pairValue_10 : decode prog_1_method_10_code 10 = .ok (.getfield 26, 3) := by decide +kernel
set_option maxRecDepth 100000 in
theorem c_Dk_pairValue_13 : ct_Dk_pairValue 13 = ka_get 3 0 := rfl
theorem d_Dk_pairValue_13 : decode prog_1_method_10_code 13 = .ok (.getfield 119, 3) := by decide +kernel
set_option maxRecDepth 100000 in
theorem c_Dk_pairValue_16 : ct_Dk_pairValue 16 = ka_il 1 1 := rfl
theorem d_Dk_pairValue_16 : decode prog_1_method_10_code 16 = .ok (.iload_n 1, 1) := by decide +kernel
set_option maxRecDepth 100000 in
theorem c_Dk_pairValue_17 : ct_Dk_pairValue 17 = ka_aald := rfl
theorem d_Dk_pairValue_17 : decode prog_1_method_10_code 17 = .ok (.aaload, 1) := by decide +kernel
set_option maxRecDepth 100000 in
theorem c_Dk_pairValue_18 : ct_Dk_pairValue 18 = ka_get 4 1 := rfl
theorem d_Dk_pairValue_18 : decode prog_1_method_10_code 18 = .ok (.getfield 131, 3) := by decide +kernel
set_option maxRecDepth 100000 in
theorem c_Dk_pairValue_21 : ct_Dk_pairValue 21 = ka_get 6 1 := rfl
theorem d_Dk_pairValue_21 : decode prog_1_method_10_code 21 = .ok (.getfield 142, 3) := by decide +kernel
set_option maxRecDepth 100000 in
theorem c_Dk_pairValue_24 : ct_Dk_pairValue 24 = ka_il 2 1 := rfl
theorem d_Dk_pairValue_24 : decode prog_1_method_10_code 24 = .ok (.iload_n 2, 1) := by decide +kernel
set_option maxRecDepth 100000 in
theorem c_Dk_pairValue_25 : ct_Dk_pairValue 25 = ka_lald := rfl
theorem d_Dk_pairValue_25 : decode prog_1_method_10_code 25 = .ok (.laload, 1) := by decide +kernel
set_option maxRecDepth 100000 in
theorem c_Dk_pairValue_26 : ct_Dk_pairValue 26 = ka_goto 32 := rfl
theorem d_Dk_pairValue_26 : decode prog_1_method_10_code 26 = .ok (.goto 6, 3) := by decide +kernel
set_option maxRecDepth 100000 in
theorem c_Dk_pairValue_29 : ct_Dk_pairValue 29 = ka_cl (-1) 3 := rfl
theorem d_Dk_pairValue_29 : decode prog_1_method_10_code 29 = .ok (.ldc2_w 110, 3) := by decide +kernel
set_option maxRecDepth 100000 in
theorem c_Dk_pairValue_32 : ct_Dk_pairValue 32 = ka_rl := rfl
theorem d_Dk_pairValue_32 : decode prog_1_method_10_code 32 = .ok (.lreturn, 1) := by decide +kernel
set_option maxRecDepth 100000 in
set_option maxHeartbeats 4000000 in
theorem s_Dk_pairValue_33 : ∀ pc, pc < 33 → kc_Sim kt kw_A kw_N kt_cl kt_En "DirectoryDesk" prog_1_method_10_code 3 (some .long) "pairValue" none pc (ct_Dk_pairValue pc) := by
  let P : Nat → Prop := fun pc => kc_Sim kt kw_A kw_N kt_cl kt_En "DirectoryDesk" prog_1_method_10_code 3 (some .long) "pairValue" none pc (ct_Dk_pairValue pc)
  exact kc_case (P := P) (kc_se c_Dk_pairValue_32 (sm_rl d_Dk_pairValue_32 rfl)) (
  kc_case (P := P) (kc_se rfl sm_no) (
  kc_case (P := P) (kc_se rfl sm_no) (
  kc_case (P := P) (kc_se c_Dk_pairValue_29 (sm_ldc2 d_Dk_pairValue_29 (kw3 146 rfl rfl))) (
  kc_case (P := P) (kc_se rfl sm_no) (
  kc_case (P := P) (kc_se rfl sm_no) (
  kc_case (P := P) (kc_se c_Dk_pairValue_26 (sm_goto d_Dk_pairValue_26 (by decide))) (
  kc_case (P := P) (kc_se c_Dk_pairValue_25 (sm_lald d_Dk_pairValue_25)) (
  kc_case (P := P) (kc_se c_Dk_pairValue_24 (sm_iload_n d_Dk_pairValue_24 rfl)) (
  kc_case (P := P) (kc_se rfl sm_no) (
  kc_case (P := P) (kc_se rfl sm_no) (
  kc_case (P := P) (kc_se c_Dk_pairValue_21 (sm_get (ci := 6) (C := "DirectoryDesk$Pairs") (F := kF_Pa) rfl kin_Pa (Nat.le_of_ble_eq_true rfl) d_Dk_pairValue_21 (kw1 125 rfl rfl))) (
  kc_case (P := P) (kc_se rfl sm_no) (
  kc_case (P := P) (kc_se rfl sm_no) (
  kc_case (P := P) (kc_se c_Dk_pairValue_18 (sm_get (ci := 4) (C := "DirectoryDesk$Entry") (F := kF_En) rfl kin_En (Nat.le_of_ble_eq_true rfl) d_Dk_pairValue_18 (kw1 140 rfl rfl))) (
  kc_case (P := P) (kc_se c_Dk_pairValue_17 (sm_aald d_Dk_pairValue_17)) (
  kc_case (P := P) (kc_se c_Dk_pairValue_16 (sm_iload_n d_Dk_pairValue_16 rfl)) (
  kc_case (P := P) (kc_se rfl sm_no) (
  kc_case (P := P) (kc_se rfl sm_no) (
  kc_case (P := P) (kc_se c_Dk_pairValue_13 (sm_get (ci := 3) (C := "DirectoryDesk$Tree") (F := kF_Tr) rfl kin_Tr (Nat.le_of_ble_eq_true rfl) d_Dk_pairValue_13 (kw1 161 rfl rfl))) (
  kc_case (P := P) (kc_se rfl sm_no) (
  kc_case (P := P) (kc_se rfl sm_no) (
  kc_case (P := P) (kc_se c_Dk_pairValue_10 (sm_get (ci := 0) (C := "DirectoryDesk") (F := kF_Dk) rfl kin_Dk (Nat.le_of_ble_eq_true rfl) d_Dk_pairValue_10 (kw2 2 rfl rfl))) (
  kc_case (P := P) (kc_se c_Dk_pairValue_9 (sm_aload_n d_Dk_pairValue_9 rfl)) (
  kc_case (P := P) (kc_se rfl sm_no) (
  kc_case (P := P) (kc_se rfl sm_no) (
  kc_case (P := P) (kc_se c_Dk_pairValue_6 (sm_if_eq d_Dk_pairValue_6 (by decide))) (
  kc_case (P := P) (kc_se rfl sm_no) (
  kc_case (P := P) (kc_se rfl sm_no) (
  kc_case (P := P) (kc_se c_Dk_pairValue_3 (sm_cv (j := 12) rfl rfl kw_o kw_g wc_Dk_isPair (Nat.le_of_ble_eq_true rfl) hd_Dk_isPair (ci := 0) (F := kF_Dk) (N := 10) rfl (kw3 159 rfl rfl) wi_Dk_isPair ws_Dk_isPair wn_Dk_isPair d_Dk_pairValue_3)) (
  kc_case (P := P) (kc_se c_Dk_pairValue_2 (sm_iload_n d_Dk_pairValue_2 rfl)) (
  kc_case (P := P) (kc_se c_Dk_pairValue_1 (sm_iload_n d_Dk_pairValue_1 rfl)) (
  kc_case (P := P) (kc_se c_Dk_pairValue_0 (sm_aload_n d_Dk_pairValue_0 rfl)) (
  kc_case0)))))))))))))))))))))))))))))))))
theorem ka_nth_no_Dk_pairValue (pc : Nat) (h : 33 ≤ pc) : ct_Dk_pairValue pc = ka_no := ka_nth_ge _ pc (Nat.le_trans (Nat.le_of_eq (by rfl)) h)
theorem s_Dk_pairValue (pc : Nat) : kc_Sim kt kw_A kw_N kt_cl kt_En "DirectoryDesk" prog_1_method_10_code 3 (some .long) "pairValue" none pc (ct_Dk_pairValue pc) := (Nat.lt_or_ge pc 33).elim (s_Dk_pairValue_33 pc) (fun h => kc_se (ka_nth_no_Dk_pairValue pc h) sm_no)
def cl_Dk_signed_0 : List kc_A := [ka_al 0 1, ka_get 0 9, ka_no, ka_no, ka_rz]
def ct_Dk_signed : Nat → kc_A := fun pc => ka_nth (cl_Dk_signed_0) pc
set_option maxRecDepth 100000 in
theorem c_Dk_signed_0 : ct_Dk_signed 0 = ka_al 0 1 := rfl
theorem d_Dk_signed_0 : decode prog_1_method_11_code 0 = .ok (.aload_n 0, 1) := by decide +kernel
set_option maxRecDepth 100000 in
theorem c_Dk_signed_1 : ct_Dk_signed 1 = ka_get 0 9 := rfl
theorem d_Dk_signed_1 : decode prog_1_method_11_code 1 = .ok (.getfield 71, 3) := by decide +kernel
set_option maxRecDepth 100000 in
theorem c_Dk_signed_4 : ct_Dk_signed 4 = ka_rz := rfl
theorem d_Dk_signed_4 : decode prog_1_method_11_code 4 = .ok (.ireturn, 1) := by decide +kernel
set_option maxRecDepth 100000 in
set_option maxHeartbeats 4000000 in
theorem s_Dk_signed_5 : ∀ pc, pc < 5 → kc_Sim kt kw_A kw_N kt_cl kt_En "DirectoryDesk" prog_1_method_11_code 1 (some .boolean) "signed" none pc (ct_Dk_signed pc) := by
  let P : Nat → Prop := fun pc => kc_Sim kt kw_A kw_N kt_cl kt_En "DirectoryDesk" prog_1_method_11_code 1 (some .boolean) "signed" none pc (ct_Dk_signed pc)
  exact kc_case (P := P) (kc_se c_Dk_signed_4 (sm_rz d_Dk_signed_4 rfl)) (
  kc_case (P := P) (kc_se rfl sm_no) (
  kc_case (P := P) (kc_se rfl sm_no) (
  kc_case (P := P) (kc_se c_Dk_signed_1 (sm_get (ci := 0) (C := "DirectoryDesk") (F := kF_Dk) rfl kin_Dk (Nat.le_of_ble_eq_true rfl) d_Dk_signed_1 (kw2 9 rfl rfl))) (
  kc_case (P := P) (kc_se c_Dk_signed_0 (sm_aload_n d_Dk_signed_0 rfl)) (
  kc_case0)))))
theorem ka_nth_no_Dk_signed (pc : Nat) (h : 5 ≤ pc) : ct_Dk_signed pc = ka_no := ka_nth_ge _ pc (Nat.le_trans (Nat.le_of_eq (by rfl)) h)
theorem s_Dk_signed (pc : Nat) : kc_Sim kt kw_A kw_N kt_cl kt_En "DirectoryDesk" prog_1_method_11_code 1 (some .boolean) "signed" none pc (ct_Dk_signed pc) := (Nat.lt_or_ge pc 5).elim (s_Dk_signed_5 pc) (fun h => kc_se (ka_nth_no_Dk_signed pc h) sm_no)
def cl_Dk_open_0 : List kc_A := [ka_al 0 1, ka_get 0 8, ka_no, ka_no, ka_rz]
def ct_Dk_open : Nat → kc_A := fun pc => ka_nth (cl_Dk_open_0) pc
set_option maxRecDepth 100000 in
theorem c_Dk_open_0 : ct_Dk_open 0 = ka_al 0 1 := rfl
theorem d_Dk_open_0 : decode prog_1_method_12_code 0 = .ok (.aload_n 0, 1) := by decide +kernel
set_option maxRecDepth 100000 in
theorem c_Dk_open_1 : ct_Dk_open 1 = ka_get 0 8 := rfl
theorem d_Dk_open_1 : decode prog_1_method_12_code 1 = .ok (.getfield 67, 3) := by decide +kernel
set_option maxRecDepth 100000 in
theorem c_Dk_open_4 : ct_Dk_open 4 = ka_rz := rfl
theorem d_Dk_open_4 : decode prog_1_method_12_code 4 = .ok (.ireturn, 1) := by decide +kernel
set_option maxRecDepth 100000 in
set_option maxHeartbeats 4000000 in
theorem s_Dk_open_5 : ∀ pc, pc < 5 → kc_Sim kt kw_A kw_N kt_cl kt_En "DirectoryDesk" prog_1_method_12_code 1 (some .boolean) "open" none pc (ct_Dk_open pc) := by
  let P : Nat → Prop := fun pc => kc_Sim kt kw_A kw_N kt_cl kt_En "DirectoryDesk" prog_1_method_12_code 1 (some .boolean) "open" none pc (ct_Dk_open pc)
  exact kc_case (P := P) (kc_se c_Dk_open_4 (sm_rz d_Dk_open_4 rfl)) (
  kc_case (P := P) (kc_se rfl sm_no) (
  kc_case (P := P) (kc_se rfl sm_no) (
  kc_case (P := P) (kc_se c_Dk_open_1 (sm_get (ci := 0) (C := "DirectoryDesk") (F := kF_Dk) rfl kin_Dk (Nat.le_of_ble_eq_true rfl) d_Dk_open_1 (kw2 8 rfl rfl))) (
  kc_case (P := P) (kc_se c_Dk_open_0 (sm_aload_n d_Dk_open_0 rfl)) (
  kc_case0)))))
theorem ka_nth_no_Dk_open (pc : Nat) (h : 5 ≤ pc) : ct_Dk_open pc = ka_no := ka_nth_ge _ pc (Nat.le_trans (Nat.le_of_eq (by rfl)) h)
theorem s_Dk_open (pc : Nat) : kc_Sim kt kw_A kw_N kt_cl kt_En "DirectoryDesk" prog_1_method_12_code 1 (some .boolean) "open" none pc (ct_Dk_open pc) := (Nat.lt_or_ge pc 5).elim (s_Dk_open_5 pc) (fun h => kc_se (ka_nth_no_Dk_open pc h) sm_no)
def cl_Dk_isPair_0 : List kc_A := [ka_il 1 1, ka_if (fun x => x < 0) 42, ka_no, ka_no, ka_il 1 1, ka_al 0 1, ka_get 0 2, ka_no, ka_no, ka_get 3 1, ka_no, ka_no, ka_cm (fun x y => y ≤ x) 42, ka_no, ka_no, ka_il 2 1, ka_if (fun x => x < 0) 42, ka_no, ka_no, ka_il 2 1, ka_al 0 1, ka_get 0 2, ka_no, ka_no, ka_get 3 0, ka_no, ka_no, ka_il 1 1, ka_aald, ka_get 4 1, ka_no, ka_no, ka_get 6 2, ka_no, ka_no, ka_cm (fun x y => y ≤ x) 42, ka_no, ka_no, ka_ci (nI 1) 1, ka_goto 43, ka_no, ka_no, ka_ci (nI 0) 1, ka_rz]
def ct_Dk_isPair : Nat → kc_A := fun pc => ka_nth (cl_Dk_isPair_0) pc
set_option maxRecDepth 100000 in
theorem c_Dk_isPair_0 : ct_Dk_isPair 0 = ka_il 1 1 := rfl
theorem d_Dk_isPair_0 : decode prog_1_method_13_code 0 = .ok (.iload_n 1, 1) := by decide +kernel
set_option maxRecDepth 100000 in
theorem c_Dk_isPair_1 : ct_Dk_isPair 1 = ka_if (fun x => x < 0) 42 := rfl
theorem d_Dk_isPair_1 : decode prog_1_method_13_code 1 = .ok (.ifCond .lt 41, 3) := by decide +kernel
set_option maxRecDepth 100000 in
theorem c_Dk_isPair_4 : ct_Dk_isPair 4 = ka_il 1 1 := rfl
theorem d_Dk_isPair_4 : decode prog_1_method_13_code 4 = .ok (.iload_n 1, 1) := by decide +kernel
set_option maxRecDepth 100000 in
theorem c_Dk_isPair_5 : ct_Dk_isPair 5 = ka_al 0 1 := rfl
theorem d_Dk_isPair_5 : decode prog_1_method_13_code 5 = .ok (.aload_n 0, 1) := by decide +kernel
set_option maxRecDepth 100000 in
theorem c_Dk_isPair_6 : ct_Dk_isPair 6 = ka_get 0 2 := rfl
theorem d_Dk_isPair_6 : decode prog_1_method_13_code 6 = .ok (.getfield 26, 3) := by decide +kernel
set_option maxRecDepth 100000 in
theorem c_Dk_isPair_9 : ct_Dk_isPair 9 = ka_get 3 1 := rfl
theorem d_Dk_isPair_9 : decode prog_1_method_13_code 9 = .ok (.getfield 116, 3) := by decide +kernel
set_option maxRecDepth 100000 in
theorem c_Dk_isPair_12 : ct_Dk_isPair 12 = ka_cm (fun x y => y ≤ x) 42 := rfl
theorem d_Dk_isPair_12 : decode prog_1_method_13_code 12 = .ok (.if_icmp .ge 30, 3) := by decide +kernel
set_option maxRecDepth 100000 in
theorem c_Dk_isPair_15 : ct_Dk_isPair 15 = ka_il 2 1 := rfl
theorem d_Dk_isPair_15 : decode prog_1_method_13_code 15 = .ok (.iload_n 2, 1) := by decide +kernel
set_option maxRecDepth 100000 in
theorem c_Dk_isPair_16 : ct_Dk_isPair 16 = ka_if (fun x => x < 0) 42 := rfl
theorem d_Dk_isPair_16 : decode prog_1_method_13_code 16 = .ok (.ifCond .lt 26, 3) := by decide +kernel
set_option maxRecDepth 100000 in
theorem c_Dk_isPair_19 : ct_Dk_isPair 19 = ka_il 2 1 := rfl
theorem d_Dk_isPair_19 : decode prog_1_method_13_code 19 = .ok (.iload_n 2, 1) := by decide +kernel
set_option maxRecDepth 100000 in
theorem c_Dk_isPair_20 : ct_Dk_isPair 20 = ka_al 0 1 := rfl
theorem d_Dk_isPair_20 : decode prog_1_method_13_code 20 = .ok (.aload_n 0, 1) := by decide +kernel
set_option maxRecDepth 100000 in
theorem c_Dk_isPair_21 : ct_Dk_isPair 21 = ka_get 0 2 := rfl
theorem d_Dk_isPair_21 : decode prog_1_method_13_code 21 = .ok (.getfield 26, 3) := by decide +kernel
set_option maxRecDepth 100000 in
theorem c_Dk_isPair_24 : ct_Dk_isPair 24 = ka_get 3 0 := rfl
theorem d_Dk_isPair_24 : decode prog_1_method_13_code 24 = .ok (.getfield 119, 3) := by decide +kernel
set_option maxRecDepth 100000 in
theorem c_Dk_isPair_27 : ct_Dk_isPair 27 = ka_il 1 1 := rfl
theorem d_Dk_isPair_27 : decode prog_1_method_13_code 27 = .ok (.iload_n 1, 1) := by decide +kernel
set_option maxRecDepth 100000 in
theorem c_Dk_isPair_28 : ct_Dk_isPair 28 = ka_aald := rfl
theorem d_Dk_isPair_28 : decode prog_1_method_13_code 28 = .ok (.aaload, 1) := by decide +kernel
set_option maxRecDepth 100000 in
theorem c_Dk_isPair_29 : ct_Dk_isPair 29 = ka_get 4 1 := rfl
theorem d_Dk_isPair_29 : decode prog_1_method_13_code 29 = .ok (.getfield 131, 3) := by decide +kernel
set_option maxRecDepth 100000 in
theorem c_Dk_isPair_32 : ct_Dk_isPair 32 = ka_get 6 2 := rfl
theorem d_Dk_isPair_32 : decode prog_1_method_13_code 32 = .ok (.getfield 134, 3) := by decide +kernel
set_option maxRecDepth 100000 in
theorem c_Dk_isPair_35 : ct_Dk_isPair 35 = ka_cm (fun x y => y ≤ x) 42 := rfl
theorem d_Dk_isPair_35 : decode prog_1_method_13_code 35 = .ok (.if_icmp .ge 7, 3) := by decide +kernel
set_option maxRecDepth 100000 in
theorem c_Dk_isPair_38 : ct_Dk_isPair 38 = ka_ci (nI 1) 1 := rfl
theorem d_Dk_isPair_38 : decode prog_1_method_13_code 38 = .ok (.iconst 1, 1) := by decide +kernel
set_option maxRecDepth 100000 in
theorem c_Dk_isPair_39 : ct_Dk_isPair 39 = ka_goto 43 := rfl
theorem d_Dk_isPair_39 : decode prog_1_method_13_code 39 = .ok (.goto 4, 3) := by decide +kernel
set_option maxRecDepth 100000 in
theorem c_Dk_isPair_42 : ct_Dk_isPair 42 = ka_ci (nI 0) 1 := rfl
theorem d_Dk_isPair_42 : decode prog_1_method_13_code 42 = .ok (.iconst 0, 1) := by decide +kernel
set_option maxRecDepth 100000 in
theorem c_Dk_isPair_43 : ct_Dk_isPair 43 = ka_rz := rfl
theorem d_Dk_isPair_43 : decode prog_1_method_13_code 43 = .ok (.ireturn, 1) := by decide +kernel
set_option maxRecDepth 100000 in
set_option maxHeartbeats 4000000 in
theorem s_Dk_isPair_44 : ∀ pc, pc < 44 → kc_Sim kt kw_A kw_N kt_cl kt_En "DirectoryDesk" prog_1_method_13_code 3 (some .boolean) "isPair" none pc (ct_Dk_isPair pc) := by
  let P : Nat → Prop := fun pc => kc_Sim kt kw_A kw_N kt_cl kt_En "DirectoryDesk" prog_1_method_13_code 3 (some .boolean) "isPair" none pc (ct_Dk_isPair pc)
  exact kc_case (P := P) (kc_se c_Dk_isPair_43 (sm_rz d_Dk_isPair_43 rfl)) (
  kc_case (P := P) (kc_se c_Dk_isPair_42 (sm_iconst d_Dk_isPair_42 (by decide))) (
  kc_case (P := P) (kc_se rfl sm_no) (
  kc_case (P := P) (kc_se rfl sm_no) (
  kc_case (P := P) (kc_se c_Dk_isPair_39 (sm_goto d_Dk_isPair_39 (by decide))) (
  kc_case (P := P) (kc_se c_Dk_isPair_38 (sm_iconst d_Dk_isPair_38 (by decide))) (
  kc_case (P := P) (kc_se rfl sm_no) (
  kc_case (P := P) (kc_se rfl sm_no) (
  kc_case (P := P) (kc_se c_Dk_isPair_35 (sm_cm_ge d_Dk_isPair_35 (by decide))) (
  kc_case (P := P) (kc_se rfl sm_no) (
  kc_case (P := P) (kc_se rfl sm_no) (
  kc_case (P := P) (kc_se c_Dk_isPair_32 (sm_get (ci := 6) (C := "DirectoryDesk$Pairs") (F := kF_Pa) rfl kin_Pa (Nat.le_of_ble_eq_true rfl) d_Dk_isPair_32 (kw1 127 rfl rfl))) (
  kc_case (P := P) (kc_se rfl sm_no) (
  kc_case (P := P) (kc_se rfl sm_no) (
  kc_case (P := P) (kc_se c_Dk_isPair_29 (sm_get (ci := 4) (C := "DirectoryDesk$Entry") (F := kF_En) rfl kin_En (Nat.le_of_ble_eq_true rfl) d_Dk_isPair_29 (kw1 140 rfl rfl))) (
  kc_case (P := P) (kc_se c_Dk_isPair_28 (sm_aald d_Dk_isPair_28)) (
  kc_case (P := P) (kc_se c_Dk_isPair_27 (sm_iload_n d_Dk_isPair_27 rfl)) (
  kc_case (P := P) (kc_se rfl sm_no) (
  kc_case (P := P) (kc_se rfl sm_no) (
  kc_case (P := P) (kc_se c_Dk_isPair_24 (sm_get (ci := 3) (C := "DirectoryDesk$Tree") (F := kF_Tr) rfl kin_Tr (Nat.le_of_ble_eq_true rfl) d_Dk_isPair_24 (kw1 161 rfl rfl))) (
  kc_case (P := P) (kc_se rfl sm_no) (
  kc_case (P := P) (kc_se rfl sm_no) (
  kc_case (P := P) (kc_se c_Dk_isPair_21 (sm_get (ci := 0) (C := "DirectoryDesk") (F := kF_Dk) rfl kin_Dk (Nat.le_of_ble_eq_true rfl) d_Dk_isPair_21 (kw2 2 rfl rfl))) (
  kc_case (P := P) (kc_se c_Dk_isPair_20 (sm_aload_n d_Dk_isPair_20 rfl)) (
  kc_case (P := P) (kc_se c_Dk_isPair_19 (sm_iload_n d_Dk_isPair_19 rfl)) (
  kc_case (P := P) (kc_se rfl sm_no) (
  kc_case (P := P) (kc_se rfl sm_no) (
  kc_case (P := P) (kc_se c_Dk_isPair_16 (sm_if_lt d_Dk_isPair_16 (by decide))) (
  kc_case (P := P) (kc_se c_Dk_isPair_15 (sm_iload_n d_Dk_isPair_15 rfl)) (
  kc_case (P := P) (kc_se rfl sm_no) (
  kc_case (P := P) (kc_se rfl sm_no) (
  kc_case (P := P) (kc_se c_Dk_isPair_12 (sm_cm_ge d_Dk_isPair_12 (by decide))) (
  kc_case (P := P) (kc_se rfl sm_no) (
  kc_case (P := P) (kc_se rfl sm_no) (
  kc_case (P := P) (kc_se c_Dk_isPair_9 (sm_get (ci := 3) (C := "DirectoryDesk$Tree") (F := kF_Tr) rfl kin_Tr (Nat.le_of_ble_eq_true rfl) d_Dk_isPair_9 (kw1 163 rfl rfl))) (
  kc_case (P := P) (kc_se rfl sm_no) (
  kc_case (P := P) (kc_se rfl sm_no) (
  kc_case (P := P) (kc_se c_Dk_isPair_6 (sm_get (ci := 0) (C := "DirectoryDesk") (F := kF_Dk) rfl kin_Dk (Nat.le_of_ble_eq_true rfl) d_Dk_isPair_6 (kw2 2 rfl rfl))) (
  kc_case (P := P) (kc_se c_Dk_isPair_5 (sm_aload_n d_Dk_isPair_5 rfl)) (
  kc_case (P := P) (kc_se c_Dk_isPair_4 (sm_iload_n d_Dk_isPair_4 rfl)) (
  kc_case (P := P) (kc_se rfl sm_no) (
  kc_case (P := P) (kc_se rfl sm_no) (
  kc_case (P := P) (kc_se c_Dk_isPair_1 (sm_if_lt d_Dk_isPair_1 (by decide))) (
  kc_case (P := P) (kc_se c_Dk_isPair_0 (sm_iload_n d_Dk_isPair_0 rfl)) (
  kc_case0))))))))))))))))))))))))))))))))))))))))))))
theorem ka_nth_no_Dk_isPair (pc : Nat) (h : 44 ≤ pc) : ct_Dk_isPair pc = ka_no := ka_nth_ge _ pc (Nat.le_trans (Nat.le_of_eq (by rfl)) h)
theorem s_Dk_isPair (pc : Nat) : kc_Sim kt kw_A kw_N kt_cl kt_En "DirectoryDesk" prog_1_method_13_code 3 (some .boolean) "isPair" none pc (ct_Dk_isPair pc) := (Nat.lt_or_ge pc 44).elim (s_Dk_isPair_44 pc) (fun h => kc_se (ka_nth_no_Dk_isPair pc h) sm_no)
def cl_Dk_signOn_0 : List kc_A := [ka_al 0 1, ka_get 0 0, ka_no, ka_no, ka_cv 33 0 1 0 0, ka_no, ka_no, ka_is 1 1, ka_al 0 1, ka_get 0 0, ka_no, ka_no, ka_ci (nI 4) 1, ka_cv 37 1 1 0 0, ka_no, ka_no, ka_al 0 1, ka_get 0 3, ka_no, ka_no, ka_al 0 1, ka_get 0 0, ka_no, ka_no, ka_cv 63 1 5 0 0, ka_no, ka_no, ka_al 0 1, ka_get 0 0, ka_no, ka_no, ka_ci (nI 128) 3, ka_no, ka_no, ka_cv 37 1 1 0 0, ka_no, ka_no, ka_al 0 1, ka_get 0 0, ka_no, ka_no, ka_cv 31 0 1 0 0, ka_no, ka_no, ka_if (fun x => ¬ x = 0) 49, ka_no, ka_no, ka_ci (nI 2) 1, ka_ri, ka_il 1 1, ka_ci (nI 3) 1, ka_cm (fun x y => ¬ x = y) 61, ka_no, ka_no, ka_al 0 1, ka_cv 14 0 0 0 0, ka_no, ka_no, ka_goto 62, ka_no]
def cl_Dk_signOn_1 : List kc_A := [ka_no, ka_ci (nI 2) 1, ka_is 2 1, ka_al 0 1, ka_il 2 1, ka_if (fun x => ¬ x = 0) 82, ka_no, ka_no, ka_al 0 1, ka_get 0 3, ka_no, ka_no, ka_get 5 2, ka_no, ka_no, ka_if (fun x => x ≤ 0) 82, ka_no, ka_no, ka_ci (nI 1) 1, ka_goto 83, ka_no, ka_no, ka_ci (nI 0) 1, ka_put 0 9 .boolean, ka_no, ka_no, ka_il 2 1, ka_ri]
def ct_Dk_signOn : Nat → kc_A := fun pc => ka_nth (cl_Dk_signOn_0 ++ (cl_Dk_signOn_1)) pc
set_option maxRecDepth 100000 in
theorem c_Dk_signOn_0 : ct_Dk_signOn 0 = ka_al 0 1 := rfl
theorem d_Dk_signOn_0 : decode prog_1_method_14_code 0 = .ok (.aload_n 0, 1) := by decide +kernel
set_option maxRecDepth 100000 in
theorem c_Dk_signOn_1 : ct_Dk_signOn 1 = ka_get 0 0 := rfl
theorem d_Dk_signOn_1 : decode prog_1_method_14_code 1 = .ok (.getfield 10, 3) := by decide +kernel
set_option maxRecDepth 100000 in
theorem c_Dk_signOn_4 : ct_Dk_signOn 4 = ka_cv 33 0 1 0 0 := rfl
theorem d_Dk_signOn_4 : decode prog_1_method_14_code 4 = .ok (.invokevirtual 146, 3) := by decide +kernel
set_option maxRecDepth 100000 in
theorem c_Dk_signOn_7 : ct_Dk_signOn 7 = ka_is 1 1 := rfl
theorem d_Dk_signOn_7 : decode prog_1_method_14_code 7 = .ok (.istore_n 1, 1) := by decide +kernel
set_option maxRecDepth 100000 in
theorem c_Dk_signOn_8 : ct_Dk_signOn 8 = ka_al 0 1 := rfl
theorem d_Dk_signOn_8 : decode prog_1_method_14_code 8 = .ok (.aload_n 0, 1) := by decide +kernel
set_option maxRecDepth 100000 in
theorem c_Dk_signOn_9 : ct_Dk_signOn 9 = ka_get 0 0 := rfl
theorem d_Dk_signOn_9 : decode prog_1_method_14_code 9 = .ok (.getfield 10, 3) := by decide +kernel
set_option maxRecDepth 100000 in
theorem c_Dk_signOn_12 : ct_Dk_signOn 12 = ka_ci (nI 4) 1 := rfl
theorem d_Dk_signOn_12 : decode prog_1_method_14_code 12 = .ok (.iconst 4, 1) := by decide +kernel
set_option maxRecDepth 100000 in
theorem c_Dk_signOn_13 : ct_Dk_signOn 13 = ka_cv 37 1 1 0 0 := rfl
theorem d_Dk_signOn_13 : decode prog_1_method_14_code 13 = .ok (.invokevirtual 149, 3) := by decide +kernel
set_option maxRecDepth 100000 in
theorem c_Dk_signOn_16 : ct_Dk_signOn 16 = ka_al 0 1 := rfl
theorem d_Dk_signOn_16 : decode prog_1_method_14_code 16 = .ok (.aload_n 0, 1) := by decide +kernel
set_option maxRecDepth 100000 in
theorem c_Dk_signOn_17 : ct_Dk_signOn 17 = ka_get 0 3 := rfl
theorem d_Dk_signOn_17 : decode prog_1_method_14_code 17 = .ok (.getfield 33, 3) := by decide +kernel
set_option maxRecDepth 100000 in
theorem c_Dk_signOn_20 : ct_Dk_signOn 20 = ka_al 0 1 := rfl
theorem d_Dk_signOn_20 : decode prog_1_method_14_code 20 = .ok (.aload_n 0, 1) := by decide +kernel
set_option maxRecDepth 100000 in
theorem c_Dk_signOn_21 : ct_Dk_signOn 21 = ka_get 0 0 := rfl
theorem d_Dk_signOn_21 : decode prog_1_method_14_code 21 = .ok (.getfield 10, 3) := by decide +kernel
set_option maxRecDepth 100000 in
theorem c_Dk_signOn_24 : ct_Dk_signOn 24 = ka_cv 63 1 5 0 0 := rfl
theorem d_Dk_signOn_24 : decode prog_1_method_14_code 24 = .ok (.invokevirtual 152, 3) := by decide +kernel
set_option maxRecDepth 100000 in
theorem c_Dk_signOn_27 : ct_Dk_signOn 27 = ka_al 0 1 := rfl
theorem d_Dk_signOn_27 : decode prog_1_method_14_code 27 = .ok (.aload_n 0, 1) := by decide +kernel
set_option maxRecDepth 100000 in
theorem c_Dk_signOn_28 : ct_Dk_signOn 28 = ka_get 0 0 := rfl
theorem d_Dk_signOn_28 : decode prog_1_method_14_code 28 = .ok (.getfield 10, 3) := by decide +kernel
set_option maxRecDepth 100000 in
theorem c_Dk_signOn_31 : ct_Dk_signOn 31 = ka_ci (nI 128) 3 := rfl
theorem d_Dk_signOn_31 : decode prog_1_method_14_code 31 = .ok (.sipush 128, 3) := by decide +kernel
set_option maxRecDepth 100000 in
theorem c_Dk_signOn_34 : ct_Dk_signOn 34 = ka_cv 37 1 1 0 0 := rfl
theorem d_Dk_signOn_34 : decode prog_1_method_14_code 34 = .ok (.invokevirtual 149, 3) := by decide +kernel
set_option maxRecDepth 100000 in
theorem c_Dk_signOn_37 : ct_Dk_signOn 37 = ka_al 0 1 := rfl
theorem d_Dk_signOn_37 : decode prog_1_method_14_code 37 = .ok (.aload_n 0, 1) := by decide +kernel
set_option maxRecDepth 100000 in
theorem c_Dk_signOn_38 : ct_Dk_signOn 38 = ka_get 0 0 := rfl
theorem d_Dk_signOn_38 : decode prog_1_method_14_code 38 = .ok (.getfield 10, 3) := by decide +kernel
set_option maxRecDepth 100000 in
theorem c_Dk_signOn_41 : ct_Dk_signOn 41 = ka_cv 31 0 1 0 0 := rfl
theorem d_Dk_signOn_41 : decode prog_1_method_14_code 41 = .ok (.invokevirtual 156, 3) := by decide +kernel
set_option maxRecDepth 100000 in
theorem c_Dk_signOn_44 : ct_Dk_signOn 44 = ka_if (fun x => ¬ x = 0) 49 := rfl
theorem d_Dk_signOn_44 : decode prog_1_method_14_code 44 = .ok (.ifCond .ne 5, 3) := by decide +kernel
set_option maxRecDepth 100000 in
theorem c_Dk_signOn_47 : ct_Dk_signOn 47 = ka_ci (nI 2) 1 := rfl
theorem d_Dk_signOn_47 : decode prog_1_method_14_code 47 = .ok (.iconst 2, 1) := by decide +kernel
set_option maxRecDepth 100000 in
theorem c_Dk_signOn_48 : ct_Dk_signOn 48 = ka_ri := rfl
theorem d_Dk_signOn_48 : decode prog_1_method_14_code 48 = .ok (.ireturn, 1) := by decide +kernel
set_option maxRecDepth 100000 in
theorem c_Dk_signOn_49 : ct_Dk_signOn 49 = ka_il 1 1 := rfl
theorem d_Dk_signOn_49 : decode prog_1_method_14_code 49 = .ok (.iload_n 1, 1) := by decide +kernel
set_option maxRecDepth 100000 in
theorem c_Dk_signOn_50 : ct_Dk_signOn 50 = ka_ci (nI 3) 1 := rfl
theorem d_Dk_signOn_50 : decode prog_1_method_14_code 50 = .ok (.iconst 3, 1) := by decide +kernel
set_option maxRecDepth 100000 in
theorem c_Dk_signOn_51 : ct_Dk_signOn 51 = ka_cm (fun x y => ¬ x = y) 61 := rfl
theorem d_Dk_signOn_51 : decode prog_1_method_14_code 51 = .ok (.if_icmp .ne 10, 3) := by decide +kernel
set_option maxRecDepth 100000 in
theorem c_Dk_signOn_54 : ct_Dk_signOn 54 = ka_al 0 1 := rfl
theorem d_Dk_signOn_54 : decode prog_1_method_14_code 54 = .ok (.aload_n 0, 1) := by decide +kernel
set_option maxRecDepth 100000 in
theorem c_Dk_signOn_55 : ct_Dk_signOn 55 = ka_cv 14 0 0 0 0 := rfl
theorem d_Dk_signOn_55 : decode prog_1_method_14_code 55 = .ok (.invokevirtual 160, 3) := by decide +kernel
set_option maxRecDepth 100000 in
theorem c_Dk_signOn_58 : ct_Dk_signOn 58 = ka_goto 62 := rfl
theorem d_Dk_signOn_58 : decode prog_1_method_14_code 58 = .ok (.goto 4, 3) := by decide +kernel
set_option maxRecDepth 100000 in
theorem c_Dk_signOn_61 : ct_Dk_signOn 61 = ka_ci (nI 2) 1 := rfl
theorem d_Dk_signOn_61 : decode prog_1_method_14_code 61 = .ok (.iconst 2, 1) := by decide +kernel
set_option maxRecDepth 100000 in
theorem c_Dk_signOn_62 : ct_Dk_signOn 62 = ka_is 2 1 := rfl
theorem d_Dk_signOn_62 : decode prog_1_method_14_code 62 = .ok (.istore_n 2, 1) := by decide +kernel
set_option maxRecDepth 100000 in
theorem c_Dk_signOn_63 : ct_Dk_signOn 63 = ka_al 0 1 := rfl
theorem d_Dk_signOn_63 : decode prog_1_method_14_code 63 = .ok (.aload_n 0, 1) := by decide +kernel
set_option maxRecDepth 100000 in
theorem c_Dk_signOn_64 : ct_Dk_signOn 64 = ka_il 2 1 := rfl
theorem d_Dk_signOn_64 : decode prog_1_method_14_code 64 = .ok (.iload_n 2, 1) := by decide +kernel
set_option maxRecDepth 100000 in
theorem c_Dk_signOn_65 : ct_Dk_signOn 65 = ka_if (fun x => ¬ x = 0) 82 := rfl
theorem d_Dk_signOn_65 : decode prog_1_method_14_code 65 = .ok (.ifCond .ne 17, 3) := by decide +kernel
set_option maxRecDepth 100000 in
theorem c_Dk_signOn_68 : ct_Dk_signOn 68 = ka_al 0 1 := rfl
theorem d_Dk_signOn_68 : decode prog_1_method_14_code 68 = .ok (.aload_n 0, 1) := by decide +kernel
set_option maxRecDepth 100000 in
theorem c_Dk_signOn_69 : ct_Dk_signOn 69 = ka_get 0 3 := rfl
theorem d_Dk_signOn_69 : decode prog_1_method_14_code 69 = .ok (.getfield 33, 3) := by decide +kernel
set_option maxRecDepth 100000 in
theorem c_Dk_signOn_72 : ct_Dk_signOn 72 = ka_get 5 2 := rfl
theorem d_Dk_signOn_72 : decode prog_1_method_14_code 72 = .ok (.getfield 128, 3) := by decide +kernel
set_option maxRecDepth 100000 in
theorem c_Dk_signOn_75 : ct_Dk_signOn 75 = ka_if (fun x => x ≤ 0) 82 := rfl
theorem d_Dk_signOn_75 : decode prog_1_method_14_code 75 = .ok (.ifCond .le 7, 3) := by decide +kernel
set_option maxRecDepth 100000 in
theorem c_Dk_signOn_78 : ct_Dk_signOn 78 = ka_ci (nI 1) 1 := rfl
theorem d_Dk_signOn_78 : decode prog_1_method_14_code 78 = .ok (.iconst 1, 1) := by decide +kernel
set_option maxRecDepth 100000 in
theorem c_Dk_signOn_79 : ct_Dk_signOn 79 = ka_goto 83 := rfl
theorem d_Dk_signOn_79 : decode prog_1_method_14_code 79 = .ok (.goto 4, 3) := by decide +kernel
set_option maxRecDepth 100000 in
theorem c_Dk_signOn_82 : ct_Dk_signOn 82 = ka_ci (nI 0) 1 := rfl
theorem d_Dk_signOn_82 : decode prog_1_method_14_code 82 = .ok (.iconst 0, 1) := by decide +kernel
set_option maxRecDepth 100000 in
theorem c_Dk_signOn_83 : ct_Dk_signOn 83 = ka_put 0 9 .boolean := rfl
theorem d_Dk_signOn_83 : decode prog_1_method_14_code 83 = .ok (.putfield 71, 3) := by decide +kernel
set_option maxRecDepth 100000 in
theorem c_Dk_signOn_86 : ct_Dk_signOn 86 = ka_il 2 1 := rfl
theorem d_Dk_signOn_86 : decode prog_1_method_14_code 86 = .ok (.iload_n 2, 1) := by decide +kernel
set_option maxRecDepth 100000 in
theorem c_Dk_signOn_87 : ct_Dk_signOn 87 = ka_ri := rfl
theorem d_Dk_signOn_87 : decode prog_1_method_14_code 87 = .ok (.ireturn, 1) := by decide +kernel
set_option maxRecDepth 100000 in
set_option maxHeartbeats 4000000 in
theorem s_Dk_signOn_60 : ∀ pc, pc < 60 → kc_Sim kt kw_A kw_N kt_cl kt_En "DirectoryDesk" prog_1_method_14_code 3 (some .int) "signOn" none pc (ct_Dk_signOn pc) := by
  let P : Nat → Prop := fun pc => kc_Sim kt kw_A kw_N kt_cl kt_En "DirectoryDesk" prog_1_method_14_code 3 (some .int) "signOn" none pc (ct_Dk_signOn pc)
  exact kc_case (P := P) (kc_se rfl sm_no) (
  kc_case (P := P) (kc_se c_Dk_signOn_58 (sm_goto d_Dk_signOn_58 (by decide))) (
  kc_case (P := P) (kc_se rfl sm_no) (
  kc_case (P := P) (kc_se rfl sm_no) (
  kc_case (P := P) (kc_se c_Dk_signOn_55 (sm_cv (j := 14) rfl rfl kw_o kw_g wc_Dk_passwordCode (Nat.le_of_ble_eq_true rfl) hd_Dk_passwordCode (ci := 0) (F := kF_Dk) (N := 10) rfl (kw2 122 rfl rfl) wi_Dk_passwordCode ws_Dk_passwordCode wn_Dk_passwordCode d_Dk_signOn_55)) (
  kc_case (P := P) (kc_se c_Dk_signOn_54 (sm_aload_n d_Dk_signOn_54 rfl)) (
  kc_case (P := P) (kc_se rfl sm_no) (
  kc_case (P := P) (kc_se rfl sm_no) (
  kc_case (P := P) (kc_se c_Dk_signOn_51 (sm_cm_ne d_Dk_signOn_51 (by decide))) (
  kc_case (P := P) (kc_se c_Dk_signOn_50 (sm_iconst d_Dk_signOn_50 (by decide))) (
  kc_case (P := P) (kc_se c_Dk_signOn_49 (sm_iload_n d_Dk_signOn_49 rfl)) (
  kc_case (P := P) (kc_se c_Dk_signOn_48 (sm_ri d_Dk_signOn_48 rfl)) (
  kc_case (P := P) (kc_se c_Dk_signOn_47 (sm_iconst d_Dk_signOn_47 (by decide))) (
  kc_case (P := P) (kc_se rfl sm_no) (
  kc_case (P := P) (kc_se rfl sm_no) (
  kc_case (P := P) (kc_se c_Dk_signOn_44 (sm_if_ne d_Dk_signOn_44 (by decide))) (
  kc_case (P := P) (kc_se rfl sm_no) (
  kc_case (P := P) (kc_se rfl sm_no) (
  kc_case (P := P) (kc_se c_Dk_signOn_41 (sm_cv (j := 31) rfl rfl kw_o kw_g wc_Rd_isReadWell (Nat.le_of_ble_eq_true rfl) hd_Rd_isReadWell (ci := 1) (F := kF_Rd) (N := 8) rfl (kw2 118 rfl rfl) wi_Rd_isReadWell ws_Rd_isReadWell wn_Rd_isReadWell d_Dk_signOn_41)) (
  kc_case (P := P) (kc_se rfl sm_no) (
  kc_case (P := P) (kc_se rfl sm_no) (
  kc_case (P := P) (kc_se c_Dk_signOn_38 (sm_get (ci := 0) (C := "DirectoryDesk") (F := kF_Dk) rfl kin_Dk (Nat.le_of_ble_eq_true rfl) d_Dk_signOn_38 (kw2 0 rfl rfl))) (
  kc_case (P := P) (kc_se c_Dk_signOn_37 (sm_aload_n d_Dk_signOn_37 rfl)) (
  kc_case (P := P) (kc_se rfl sm_no) (
  kc_case (P := P) (kc_se rfl sm_no) (
  kc_case (P := P) (kc_se c_Dk_signOn_34 (sm_cv (j := 37) rfl rfl kw_o kw_g wc_Rd_span (Nat.le_of_ble_eq_true rfl) hd_Rd_span (ci := 1) (F := kF_Rd) (N := 8) rfl (kw2 92 rfl rfl) wi_Rd_span ws_Rd_span wn_Rd_span d_Dk_signOn_34)) (
  kc_case (P := P) (kc_se rfl sm_no) (
  kc_case (P := P) (kc_se rfl sm_no) (
  kc_case (P := P) (kc_se c_Dk_signOn_31 (sm_sipush d_Dk_signOn_31 (by decide))) (
  kc_case (P := P) (kc_se rfl sm_no) (
  kc_case (P := P) (kc_se rfl sm_no) (
  kc_case (P := P) (kc_se c_Dk_signOn_28 (sm_get (ci := 0) (C := "DirectoryDesk") (F := kF_Dk) rfl kin_Dk (Nat.le_of_ble_eq_true rfl) d_Dk_signOn_28 (kw2 0 rfl rfl))) (
  kc_case (P := P) (kc_se c_Dk_signOn_27 (sm_aload_n d_Dk_signOn_27 rfl)) (
  kc_case (P := P) (kc_se rfl sm_no) (
  kc_case (P := P) (kc_se rfl sm_no) (
  kc_case (P := P) (kc_se c_Dk_signOn_24 (sm_cv (j := 63) rfl rfl kw_o kw_g wc_Nm_readFrom (Nat.le_of_ble_eq_true rfl) hd_Nm_readFrom (ci := 5) (F := kF_Nm) (N := 3) rfl (kw2 93 rfl rfl) wi_Nm_readFrom ws_Nm_readFrom wn_Nm_readFrom d_Dk_signOn_24)) (
  kc_case (P := P) (kc_se rfl sm_no) (
  kc_case (P := P) (kc_se rfl sm_no) (
  kc_case (P := P) (kc_se c_Dk_signOn_21 (sm_get (ci := 0) (C := "DirectoryDesk") (F := kF_Dk) rfl kin_Dk (Nat.le_of_ble_eq_true rfl) d_Dk_signOn_21 (kw2 0 rfl rfl))) (
  kc_case (P := P) (kc_se c_Dk_signOn_20 (sm_aload_n d_Dk_signOn_20 rfl)) (
  kc_case (P := P) (kc_se rfl sm_no) (
  kc_case (P := P) (kc_se rfl sm_no) (
  kc_case (P := P) (kc_se c_Dk_signOn_17 (sm_get (ci := 0) (C := "DirectoryDesk") (F := kF_Dk) rfl kin_Dk (Nat.le_of_ble_eq_true rfl) d_Dk_signOn_17 (kw2 3 rfl rfl))) (
  kc_case (P := P) (kc_se c_Dk_signOn_16 (sm_aload_n d_Dk_signOn_16 rfl)) (
  kc_case (P := P) (kc_se rfl sm_no) (
  kc_case (P := P) (kc_se rfl sm_no) (
  kc_case (P := P) (kc_se c_Dk_signOn_13 (sm_cv (j := 37) rfl rfl kw_o kw_g wc_Rd_span (Nat.le_of_ble_eq_true rfl) hd_Rd_span (ci := 1) (F := kF_Rd) (N := 8) rfl (kw2 92 rfl rfl) wi_Rd_span ws_Rd_span wn_Rd_span d_Dk_signOn_13)) (
  kc_case (P := P) (kc_se c_Dk_signOn_12 (sm_iconst d_Dk_signOn_12 (by decide))) (
  kc_case (P := P) (kc_se rfl sm_no) (
  kc_case (P := P) (kc_se rfl sm_no) (
  kc_case (P := P) (kc_se c_Dk_signOn_9 (sm_get (ci := 0) (C := "DirectoryDesk") (F := kF_Dk) rfl kin_Dk (Nat.le_of_ble_eq_true rfl) d_Dk_signOn_9 (kw2 0 rfl rfl))) (
  kc_case (P := P) (kc_se c_Dk_signOn_8 (sm_aload_n d_Dk_signOn_8 rfl)) (
  kc_case (P := P) (kc_se c_Dk_signOn_7 (sm_istore_n d_Dk_signOn_7 rfl (Nat.le_of_ble_eq_true rfl))) (
  kc_case (P := P) (kc_se rfl sm_no) (
  kc_case (P := P) (kc_se rfl sm_no) (
  kc_case (P := P) (kc_se c_Dk_signOn_4 (sm_cv (j := 33) rfl rfl kw_o kw_g wc_Rd_number (Nat.le_of_ble_eq_true rfl) hd_Rd_number (ci := 1) (F := kF_Rd) (N := 8) rfl (kw2 91 rfl rfl) wi_Rd_number ws_Rd_number wn_Rd_number d_Dk_signOn_4)) (
  kc_case (P := P) (kc_se rfl sm_no) (
  kc_case (P := P) (kc_se rfl sm_no) (
  kc_case (P := P) (kc_se c_Dk_signOn_1 (sm_get (ci := 0) (C := "DirectoryDesk") (F := kF_Dk) rfl kin_Dk (Nat.le_of_ble_eq_true rfl) d_Dk_signOn_1 (kw2 0 rfl rfl))) (
  kc_case (P := P) (kc_se c_Dk_signOn_0 (sm_aload_n d_Dk_signOn_0 rfl)) (
  kc_case0))))))))))))))))))))))))))))))))))))))))))))))))))))))))))))
set_option maxRecDepth 100000 in
set_option maxHeartbeats 4000000 in
theorem s_Dk_signOn_88 : ∀ pc, pc < 88 → kc_Sim kt kw_A kw_N kt_cl kt_En "DirectoryDesk" prog_1_method_14_code 3 (some .int) "signOn" none pc (ct_Dk_signOn pc) := by
  let P : Nat → Prop := fun pc => kc_Sim kt kw_A kw_N kt_cl kt_En "DirectoryDesk" prog_1_method_14_code 3 (some .int) "signOn" none pc (ct_Dk_signOn pc)
  exact kc_case (P := P) (kc_se c_Dk_signOn_87 (sm_ri d_Dk_signOn_87 rfl)) (
  kc_case (P := P) (kc_se c_Dk_signOn_86 (sm_iload_n d_Dk_signOn_86 rfl)) (
  kc_case (P := P) (kc_se rfl sm_no) (
  kc_case (P := P) (kc_se rfl sm_no) (
  kc_case (P := P) (kc_se c_Dk_signOn_83 (sm_put (ci := 0) (C := "DirectoryDesk") (F := kF_Dk) rfl kin_Dk kty_Dk ktk_Dk knm_Dk (Nat.le_of_ble_eq_true rfl) (by decide +kernel) d_Dk_signOn_83 (kw2 9 rfl rfl) rfl)) (
  kc_case (P := P) (kc_se c_Dk_signOn_82 (sm_iconst d_Dk_signOn_82 (by decide))) (
  kc_case (P := P) (kc_se rfl sm_no) (
  kc_case (P := P) (kc_se rfl sm_no) (
  kc_case (P := P) (kc_se c_Dk_signOn_79 (sm_goto d_Dk_signOn_79 (by decide))) (
  kc_case (P := P) (kc_se c_Dk_signOn_78 (sm_iconst d_Dk_signOn_78 (by decide))) (
  kc_case (P := P) (kc_se rfl sm_no) (
  kc_case (P := P) (kc_se rfl sm_no) (
  kc_case (P := P) (kc_se c_Dk_signOn_75 (sm_if_le d_Dk_signOn_75 (by decide))) (
  kc_case (P := P) (kc_se rfl sm_no) (
  kc_case (P := P) (kc_se rfl sm_no) (
  kc_case (P := P) (kc_se c_Dk_signOn_72 (sm_get (ci := 5) (C := "DirectoryDesk$Name") (F := kF_Nm) rfl kin_Nm (Nat.le_of_ble_eq_true rfl) d_Dk_signOn_72 (kw1 106 rfl rfl))) (
  kc_case (P := P) (kc_se rfl sm_no) (
  kc_case (P := P) (kc_se rfl sm_no) (
  kc_case (P := P) (kc_se c_Dk_signOn_69 (sm_get (ci := 0) (C := "DirectoryDesk") (F := kF_Dk) rfl kin_Dk (Nat.le_of_ble_eq_true rfl) d_Dk_signOn_69 (kw2 3 rfl rfl))) (
  kc_case (P := P) (kc_se c_Dk_signOn_68 (sm_aload_n d_Dk_signOn_68 rfl)) (
  kc_case (P := P) (kc_se rfl sm_no) (
  kc_case (P := P) (kc_se rfl sm_no) (
  kc_case (P := P) (kc_se c_Dk_signOn_65 (sm_if_ne d_Dk_signOn_65 (by decide))) (
  kc_case (P := P) (kc_se c_Dk_signOn_64 (sm_iload_n d_Dk_signOn_64 rfl)) (
  kc_case (P := P) (kc_se c_Dk_signOn_63 (sm_aload_n d_Dk_signOn_63 rfl)) (
  kc_case (P := P) (kc_se c_Dk_signOn_62 (sm_istore_n d_Dk_signOn_62 rfl (Nat.le_of_ble_eq_true rfl))) (
  kc_case (P := P) (kc_se c_Dk_signOn_61 (sm_iconst d_Dk_signOn_61 (by decide))) (
  kc_case (P := P) (kc_se rfl sm_no) (
  s_Dk_signOn_60))))))))))))))))))))))))))))
theorem ka_nth_no_Dk_signOn (pc : Nat) (h : 88 ≤ pc) : ct_Dk_signOn pc = ka_no := ka_nth_ge _ pc (Nat.le_trans (Nat.le_of_eq (by rfl)) h)
theorem s_Dk_signOn (pc : Nat) : kc_Sim kt kw_A kw_N kt_cl kt_En "DirectoryDesk" prog_1_method_14_code 3 (some .int) "signOn" none pc (ct_Dk_signOn pc) := (Nat.lt_or_ge pc 88).elim (s_Dk_signOn_88 pc) (fun h => kc_se (ka_nth_no_Dk_signOn pc h) sm_no)
def cl_Dk_passwordCode_0 : List kc_A := [ka_al 0 1, ka_get 0 0, ka_no, ka_no, ka_get 1 6, ka_no, ka_no, ka_al 0 1, ka_get 0 0, ka_no, ka_no, ka_get 1 7, ka_no, ka_no, ka_cm (fun x y => ¬ x = y) 21, ka_no, ka_no, ka_ci (nI 1) 1, ka_goto 22, ka_no, ka_no, ka_ci (nI 0) 1, ka_is 1 1, ka_al 0 1, ka_get 0 3, ka_no, ka_no, ka_get 5 2, ka_no, ka_no, ka_ci (-1) 1, ka_cm (fun x y => ¬ x = y) 37, ka_no, ka_no, ka_ci (nI 34) 2, ka_no, ka_ri, ka_al 0 1, ka_get 0 3, ka_no, ka_no, ka_get 5 2, ka_no, ka_no, ka_if (fun x => ¬ x = 0) 58, ka_no, ka_no, ka_il 1 1, ka_if (fun x => x = 0) 55, ka_no, ka_no, ka_ci (nI 0) 1, ka_goto 57, ka_no, ka_no, ka_ci (nI 49) 2, ka_no, ka_ri, ka_il 1 1, ka_if (fun x => x = 0) 65]
def cl_Dk_passwordCode_1 : List kc_A := [ka_no, ka_no, ka_ci (nI 53) 2, ka_no, ka_ri, ka_al 0 1, ka_get 0 2, ka_no, ka_no, ka_al 0 1, ka_get 0 3, ka_no, ka_no, ka_ci (nI 0) 1, ka_cv 56 2 3 0 0, ka_no, ka_no, ka_is 2 1, ka_il 2 1, ka_ci (-1) 1, ka_cm (fun x y => x = y) 115, ka_no, ka_no, ka_al 0 1, ka_get 0 2, ka_no, ka_no, ka_get 3 0, ka_no, ka_no, ka_il 2 1, ka_aald, ka_get 4 1, ka_no, ka_no, ka_ci (nI 102) 2, ka_no, ka_al 0 1, ka_get 0 0, ka_no, ka_no, ka_cv 40 0 1 0 0, ka_no, ka_no, ka_cv 69 2 6 0 0, ka_no, ka_no, ka_ci (-1) 1, ka_cm (fun x y => x = y) 115, ka_no, ka_no, ka_ci (nI 1) 1, ka_goto 116, ka_no, ka_no, ka_ci (nI 0) 1, ka_is 3 1, ka_il 3 1, ka_if (fun x => x = 0) 125, ka_no]
def cl_Dk_passwordCode_2 : List kc_A := [ka_no, ka_ci (nI 0) 1, ka_goto 127, ka_no, ka_no, ka_ci (nI 49) 2, ka_no, ka_ri]
def ct_Dk_passwordCode : Nat → kc_A := fun pc => ka_nth (cl_Dk_passwordCode_0 ++ (cl_Dk_passwordCode_1 ++ (cl_Dk_passwordCode_2))) pc
set_option maxRecDepth 100000 in
theorem c_Dk_passwordCode_0 : ct_Dk_passwordCode 0 = ka_al 0 1 := rfl
theorem d_Dk_passwordCode_0 : decode prog_1_method_15_code 0 = .ok (.aload_n 0, 1) := by decide +kernel
set_option maxRecDepth 100000 in
theorem c_Dk_passwordCode_1 : ct_Dk_passwordCode 1 = ka_get 0 0 := rfl
theorem d_Dk_passwordCode_1 : decode prog_1_method_15_code 1 = .ok (.getfield 10, 3) := by decide +kernel
set_option maxRecDepth 100000 in
theorem c_Dk_passwordCode_4 : ct_Dk_passwordCode 4 = ka_get 1 6 := rfl
theorem d_Dk_passwordCode_4 : decode prog_1_method_15_code 4 = .ok (.getfield 163, 3) := by decide +kernel
set_option maxRecDepth 100000 in
theorem c_Dk_passwordCode_7 : ct_Dk_passwordCode 7 = ka_al 0 1 := rfl
theorem d_Dk_passwordCode_7 : decode prog_1_method_15_code 7 = .ok (.aload_n 0, 1) := by decide +kernel
set_option maxRecDepth 100000 in
theorem c_Dk_passwordCode_8 : ct_Dk_passwordCode 8 = ka_get 0 0 := rfl
theorem d_Dk_passwordCode_8 : decode prog_1_method_15_code 8 = .ok (.getfield 10, 3) := by decide +kernel
set_option maxRecDepth 100000 in
theorem c_Dk_passwordCode_11 : ct_Dk_passwordCode 11 = ka_get 1 7 := rfl
theorem d_Dk_passwordCode_11 : decode prog_1_method_15_code 11 = .ok (.getfield 166, 3) := by decide +kernel
set_option maxRecDepth 100000 in
theorem c_Dk_passwordCode_14 : ct_Dk_passwordCode 14 = ka_cm (fun x y => ¬ x = y) 21 := rfl
theorem d_Dk_passwordCode_14 : decode prog_1_method_15_code 14 = .ok (.if_icmp .ne 7, 3) := by decide +kernel
set_option maxRecDepth 100000 in
theorem c_Dk_passwordCode_17 : ct_Dk_passwordCode 17 = ka_ci (nI 1) 1 := rfl
theorem d_Dk_passwordCode_17 : decode prog_1_method_15_code 17 = .ok (.iconst 1, 1) := by decide +kernel
set_option maxRecDepth 100000 in
theorem c_Dk_passwordCode_18 : ct_Dk_passwordCode 18 = ka_goto 22 := rfl
theorem d_Dk_passwordCode_18 : decode prog_1_method_15_code 18 = .ok (.goto 4, 3) := by decide +kernel
set_option maxRecDepth 100000 in
theorem c_Dk_passwordCode_21 : ct_Dk_passwordCode 21 = ka_ci (nI 0) 1 := rfl
theorem d_Dk_passwordCode_21 : decode prog_1_method_15_code 21 = .ok (.iconst 0, 1) := by decide +kernel
set_option maxRecDepth 100000 in
theorem c_Dk_passwordCode_22 : ct_Dk_passwordCode 22 = ka_is 1 1 := rfl
theorem d_Dk_passwordCode_22 : decode prog_1_method_15_code 22 = .ok (.istore_n 1, 1) := by decide +kernel
set_option maxRecDepth 100000 in
theorem c_Dk_passwordCode_23 : ct_Dk_passwordCode 23 = ka_al 0 1 := rfl
theorem d_Dk_passwordCode_23 : decode prog_1_method_15_code 23 = .ok (.aload_n 0, 1) := by decide +kernel
set_option maxRecDepth 100000 in
theorem c_Dk_passwordCode_24 : ct_Dk_passwordCode 24 = ka_get 0 3 := rfl
theorem d_Dk_passwordCode_24 : decode prog_1_method_15_code 24 = .ok (.getfield 33, 3) := by decide +kernel
set_option maxRecDepth 100000 in
theorem c_Dk_passwordCode_27 : ct_Dk_passwordCode 27 = ka_get 5 2 := rfl
theorem d_Dk_passwordCode_27 : decode prog_1_method_15_code 27 = .ok (.getfield 128, 3) := by decide +kernel
set_option maxRecDepth 100000 in
theorem c_Dk_passwordCode_30 : ct_Dk_passwordCode 30 = ka_ci (-1) 1 := rfl
theorem d_Dk_passwordCode_30 : decode prog_1_method_15_code 30 = .ok (.iconst (-1), 1) := by decide +kernel
set_option maxRecDepth 100000 in
theorem c_Dk_passwordCode_31 : ct_Dk_passwordCode 31 = ka_cm (fun x y => ¬ x = y) 37 := rfl
theorem d_Dk_passwordCode_31 : decode prog_1_method_15_code 31 = .ok (.if_icmp .ne 6, 3) := by decide +kernel
set_option maxRecDepth 100000 in
theorem c_Dk_passwordCode_34 : ct_Dk_passwordCode 34 = ka_ci (nI 34) 2 := rfl
theorem d_Dk_passwordCode_34 : decode prog_1_method_15_code 34 = .ok (.bipush 34, 2) := by decide +kernel
set_option maxRecDepth 100000 in
theorem c_Dk_passwordCode_36 : ct_Dk_passwordCode 36 = ka_ri := rfl
theorem d_Dk_passwordCode_36 : decode prog_1_method_15_code 36 = .ok (.ireturn, 1) := by decide +kernel
set_option maxRecDepth 100000 in
theorem c_Dk_passwordCode_37 : ct_Dk_passwordCode 37 = ka_al 0 1 := rfl
theorem d_Dk_passwordCode_37 : decode prog_1_method_15_code 37 = .ok (.aload_n 0, 1) := by decide +kernel
set_option maxRecDepth 100000 in
theorem c_Dk_passwordCode_38 : ct_Dk_passwordCode 38 = ka_get 0 3 := rfl
theorem d_Dk_passwordCode_38 : decode prog_1_method_15_code 38 = .ok (.getfield 33, 3) := by decide +kernel
set_option maxRecDepth 100000 in
theorem c_Dk_passwordCode_41 : ct_Dk_passwordCode 41 = ka_get 5 2 := rfl
theorem d_Dk_passwordCode_41 : decode prog_1_method_15_code 41 = .ok (.getfield 128, 3) := by decide +kernel
set_option maxRecDepth 100000 in
theorem c_Dk_passwordCode_44 : ct_Dk_passwordCode 44 = ka_if (fun x => ¬ x = 0) 58 := rfl
theorem d_Dk_passwordCode_44 : decode prog_1_method_15_code 44 = .ok (.ifCond .ne 14, 3) := by decide +kernel
set_option maxRecDepth 100000 in
theorem c_Dk_passwordCode_47 : ct_Dk_passwordCode 47 = ka_il 1 1 := rfl
theorem d_Dk_passwordCode_47 : decode prog_1_method_15_code 47 = .ok (.iload_n 1, 1) := by decide +kernel
set_option maxRecDepth 100000 in
theorem c_Dk_passwordCode_48 : ct_Dk_passwordCode 48 = ka_if (fun x => x = 0) 55 := rfl
theorem d_Dk_passwordCode_48 : decode prog_1_method_15_code 48 = .ok (.ifCond .eq 7, 3) := by decide +kernel
set_option maxRecDepth 100000 in
theorem c_Dk_passwordCode_51 : ct_Dk_passwordCode 51 = ka_ci (nI 0) 1 := rfl
theorem d_Dk_passwordCode_51 : decode prog_1_method_15_code 51 = .ok (.iconst 0, 1) := by decide +kernel
set_option maxRecDepth 100000 in
theorem c_Dk_passwordCode_52 : ct_Dk_passwordCode 52 = ka_goto 57 := rfl
theorem d_Dk_passwordCode_52 : decode prog_1_method_15_code 52 = .ok (.goto 5, 3) := by decide +kernel
set_option maxRecDepth 100000 in
theorem c_Dk_passwordCode_55 : ct_Dk_passwordCode 55 = ka_ci (nI 49) 2 := rfl
theorem d_Dk_passwordCode_55 : decode prog_1_method_15_code 55 = .ok (.bipush 49, 2) := by decide +kernel
set_option maxRecDepth 100000 in
theorem c_Dk_passwordCode_57 : ct_Dk_passwordCode 57 = ka_ri := rfl
theorem d_Dk_passwordCode_57 : decode prog_1_method_15_code 57 = .ok (.ireturn, 1) := by decide +kernel
set_option maxRecDepth 100000 in
theorem c_Dk_passwordCode_58 : ct_Dk_passwordCode 58 = ka_il 1 1 := rfl
theorem d_Dk_passwordCode_58 : decode prog_1_method_15_code 58 = .ok (.iload_n 1, 1) := by decide +kernel
set_option maxRecDepth 100000 in
theorem c_Dk_passwordCode_59 : ct_Dk_passwordCode 59 = ka_if (fun x => x = 0) 65 := rfl
theorem d_Dk_passwordCode_59 : decode prog_1_method_15_code 59 = .ok (.ifCond .eq 6, 3) := by decide +kernel
set_option maxRecDepth 100000 in
theorem c_Dk_passwordCode_62 : ct_Dk_passwordCode 62 = ka_ci (nI 53) 2 := rfl
theorem d_Dk_passwordCode_62 : decode prog_1_method_15_code 62 = .ok (.bipush 53, 2) := by decide +kernel
set_option maxRecDepth 100000 in
theorem c_Dk_passwordCode_64 : ct_Dk_passwordCode 64 = ka_ri := rfl
theorem d_Dk_passwordCode_64 : decode prog_1_method_15_code 64 = .ok (.ireturn, 1) := by decide +kernel
set_option maxRecDepth 100000 in
theorem c_Dk_passwordCode_65 : ct_Dk_passwordCode 65 = ka_al 0 1 := rfl
theorem d_Dk_passwordCode_65 : decode prog_1_method_15_code 65 = .ok (.aload_n 0, 1) := by decide +kernel
set_option maxRecDepth 100000 in
theorem c_Dk_passwordCode_66 : ct_Dk_passwordCode 66 = ka_get 0 2 := rfl
theorem d_Dk_passwordCode_66 : decode prog_1_method_15_code 66 = .ok (.getfield 26, 3) := by decide +kernel
set_option maxRecDepth 100000 in
theorem c_Dk_passwordCode_69 : ct_Dk_passwordCode 69 = ka_al 0 1 := rfl
theorem d_Dk_passwordCode_69 : decode prog_1_method_15_code 69 = .ok (.aload_n 0, 1) := by decide +kernel
set_option maxRecDepth 100000 in
theorem c_Dk_passwordCode_70 : ct_Dk_passwordCode 70 = ka_get 0 3 := rfl
theorem d_Dk_passwordCode_70 : decode prog_1_method_15_code 70 = .ok (.getfield 33, 3) := by decide +kernel
set_option maxRecDepth 100000 in
theorem c_Dk_passwordCode_73 : ct_Dk_passwordCode 73 = ka_ci (nI 0) 1 := rfl
theorem d_Dk_passwordCode_73 : decode prog_1_method_15_code 73 = .ok (.iconst 0, 1) := by decide +kernel
set_option maxRecDepth 100000 in
theorem c_Dk_passwordCode_74 : ct_Dk_passwordCode 74 = ka_cv 56 2 3 0 0 := rfl
theorem d_Dk_passwordCode_74 : decode prog_1_method_15_code 74 = .ok (.invokevirtual 169, 3) := by decide +kernel
set_option maxRecDepth 100000 in
theorem c_Dk_passwordCode_77 : ct_Dk_passwordCode 77 = ka_is 2 1 := rfl
theorem d_Dk_passwordCode_77 : decode prog_1_method_15_code 77 = .ok (.istore_n 2, 1) := by decide +kernel
set_option maxRecDepth 100000 in
theorem c_Dk_passwordCode_78 : ct_Dk_passwordCode 78 = ka_il 2 1 := rfl
theorem d_Dk_passwordCode_78 : decode prog_1_method_15_code 78 = .ok (.iload_n 2, 1) := by decide +kernel
set_option maxRecDepth 100000 in
theorem c_Dk_passwordCode_79 : ct_Dk_passwordCode 79 = ka_ci (-1) 1 := rfl
theorem d_Dk_passwordCode_79 : decode prog_1_method_15_code 79 = .ok (.iconst (-1), 1) := by decide +kernel
set_option maxRecDepth 100000 in
theorem c_Dk_passwordCode_80 : ct_Dk_passwordCode 80 = ka_cm (fun x y => x = y) 115 := rfl
theorem d_Dk_passwordCode_80 : decode prog_1_method_15_code 80 = .ok (.if_icmp .eq 35, 3) := by decide +kernel
set_option maxRecDepth 100000 in
theorem c_Dk_passwordCode_83 : ct_Dk_passwordCode 83 = ka_al 0 1 := rfl
theorem d_Dk_passwordCode_83 : decode prog_1_method_15_code 83 = .ok (.aload_n 0, 1) := by decide +kernel
set_option maxRecDepth 100000 in
theorem c_Dk_passwordCode_84 : ct_Dk_passwordCode 84 = ka_get 0 2 := rfl
theorem d_Dk_passwordCode_84 : decode prog_1_method_15_code 84 = .ok (.getfield 26, 3) := by decide +kernel
set_option maxRecDepth 100000 in
theorem c_Dk_passwordCode_87 : ct_Dk_passwordCode 87 = ka_get 3 0 := rfl
theorem d_Dk_passwordCode_87 : decode prog_1_method_15_code 87 = .ok (.getfield 119, 3) := by decide +kernel
set_option maxRecDepth 100000 in
theorem c_Dk_passwordCode_90 : ct_Dk_passwordCode 90 = ka_il 2 1 := rfl
theorem d_Dk_passwordCode_90 : decode prog_1_method_15_code 90 = .ok (.iload_n 2, 1) := by decide +kernel
set_option maxRecDepth 100000 in
theorem c_Dk_passwordCode_91 : ct_Dk_passwordCode 91 = ka_aald := rfl
theorem d_Dk_passwordCode_91 : decode prog_1_method_15_code 91 = .ok (.aaload, 1) := by decide +kernel
set_option maxRecDepth 100000 in
theorem c_Dk_passwordCode_92 : ct_Dk_passwordCode 92 = ka_get 4 1 := rfl
theorem d_Dk_passwordCode_92 : decode prog_1_method_15_code 92 = .ok (.getfield 131, 3) := by decide +kernel
set_option maxRecDepth 100000 in
theorem c_Dk_passwordCode_95 : ct_Dk_passwordCode 95 = ka_ci (nI 102) 2 := rfl
theorem d_Dk_passwordCode_95 : decode prog_1_method_15_code 95 = .ok (.bipush 102, 2) := by decide +kernel
set_option maxRecDepth 100000 in
theorem c_Dk_passwordCode_97 : ct_Dk_passwordCode 97 = ka_al 0 1 := rfl
theorem d_Dk_passwordCode_97 : decode prog_1_method_15_code 97 = .ok (.aload_n 0, 1) := by decide +kernel
set_option maxRecDepth 100000 in
theorem c_Dk_passwordCode_98 : ct_Dk_passwordCode 98 = ka_get 0 0 := rfl
theorem d_Dk_passwordCode_98 : decode prog_1_method_15_code 98 = .ok (.getfield 10, 3) := by decide +kernel
set_option maxRecDepth 100000 in
theorem c_Dk_passwordCode_101 : ct_Dk_passwordCode 101 = ka_cv 40 0 1 0 0 := rfl
theorem d_Dk_passwordCode_101 : decode prog_1_method_15_code 101 = .ok (.invokevirtual 173, 3) := by decide +kernel
set_option maxRecDepth 100000 in
theorem c_Dk_passwordCode_104 : ct_Dk_passwordCode 104 = ka_cv 69 2 6 0 0 := rfl
theorem d_Dk_passwordCode_104 : decode prog_1_method_15_code 104 = .ok (.invokevirtual 177, 3) := by decide +kernel
set_option maxRecDepth 100000 in
theorem c_Dk_passwordCode_107 : ct_Dk_passwordCode 107 = ka_ci (-1) 1 := rfl
theorem d_Dk_passwordCode_107 : decode prog_1_method_15_code 107 = .ok (.iconst (-1), 1) := by decide +kernel
set_option maxRecDepth 100000 in
theorem c_Dk_passwordCode_108 : ct_Dk_passwordCode 108 = ka_cm (fun x y => x = y) 115 := rfl
theorem d_Dk_passwordCode_108 : decode prog_1_method_15_code 108 = .ok (.if_icmp .eq 7, 3) := by decide +kernel
set_option maxRecDepth 100000 in
theorem c_Dk_passwordCode_111 : ct_Dk_passwordCode 111 = ka_ci (nI 1) 1 := rfl
theorem d_Dk_passwordCode_111 : decode prog_1_method_15_code 111 = .ok (.iconst 1, 1) := by decide +kernel
set_option maxRecDepth 100000 in
theorem c_Dk_passwordCode_112 : ct_Dk_passwordCode 112 = ka_goto 116 := rfl
theorem d_Dk_passwordCode_112 : decode prog_1_method_15_code 112 = .ok (.goto 4, 3) := by decide +kernel
set_option maxRecDepth 100000 in
theorem c_Dk_passwordCode_115 : ct_Dk_passwordCode 115 = ka_ci (nI 0) 1 := rfl
theorem d_Dk_passwordCode_115 : decode prog_1_method_15_code 115 = .ok (.iconst 0, 1) := by decide +kernel
set_option maxRecDepth 100000 in
theorem c_Dk_passwordCode_116 : ct_Dk_passwordCode 116 = ka_is 3 1 := rfl
theorem d_Dk_passwordCode_116 : decode prog_1_method_15_code 116 = .ok (.istore_n 3, 1) := by decide +kernel
set_option maxRecDepth 100000 in
theorem c_Dk_passwordCode_117 : ct_Dk_passwordCode 117 = ka_il 3 1 := rfl
theorem d_Dk_passwordCode_117 : decode prog_1_method_15_code 117 = .ok (.iload_n 3, 1) := by decide +kernel
set_option maxRecDepth 100000 in
theorem c_Dk_passwordCode_118 : ct_Dk_passwordCode 118 = ka_if (fun x => x = 0) 125 := rfl
theorem d_Dk_passwordCode_118 : decode prog_1_method_15_code 118 = .ok (.ifCond .eq 7, 3) := by decide +kernel
set_option maxRecDepth 100000 in
theorem c_Dk_passwordCode_121 : ct_Dk_passwordCode 121 = ka_ci (nI 0) 1 := rfl
theorem d_Dk_passwordCode_121 : decode prog_1_method_15_code 121 = .ok (.iconst 0, 1) := by decide +kernel
set_option maxRecDepth 100000 in
theorem c_Dk_passwordCode_122 : ct_Dk_passwordCode 122 = ka_goto 127 := rfl
theorem d_Dk_passwordCode_122 : decode prog_1_method_15_code 122 = .ok (.goto 5, 3) := by decide +kernel
set_option maxRecDepth 100000 in
theorem c_Dk_passwordCode_125 : ct_Dk_passwordCode 125 = ka_ci (nI 49) 2 := rfl
theorem d_Dk_passwordCode_125 : decode prog_1_method_15_code 125 = .ok (.bipush 49, 2) := by decide +kernel
set_option maxRecDepth 100000 in
theorem c_Dk_passwordCode_127 : ct_Dk_passwordCode 127 = ka_ri := rfl
theorem d_Dk_passwordCode_127 : decode prog_1_method_15_code 127 = .ok (.ireturn, 1) := by decide +kernel
set_option maxRecDepth 100000 in
set_option maxHeartbeats 4000000 in
theorem s_Dk_passwordCode_60 : ∀ pc, pc < 60 → kc_Sim kt kw_A kw_N kt_cl kt_En "DirectoryDesk" prog_1_method_15_code 4 (some .int) "passwordCode" none pc (ct_Dk_passwordCode pc) := by
  let P : Nat → Prop := fun pc => kc_Sim kt kw_A kw_N kt_cl kt_En "DirectoryDesk" prog_1_method_15_code 4 (some .int) "passwordCode" none pc (ct_Dk_passwordCode pc)
  exact kc_case (P := P) (kc_se c_Dk_passwordCode_59 (sm_if_eq d_Dk_passwordCode_59 (by decide))) (
  kc_case (P := P) (kc_se c_Dk_passwordCode_58 (sm_iload_n d_Dk_passwordCode_58 rfl)) (
  kc_case (P := P) (kc_se c_Dk_passwordCode_57 (sm_ri d_Dk_passwordCode_57 rfl)) (
  kc_case (P := P) (kc_se rfl sm_no) (
  kc_case (P := P) (kc_se c_Dk_passwordCode_55 (sm_bipush d_Dk_passwordCode_55 (by decide))) (
  kc_case (P := P) (kc_se rfl sm_no) (
  kc_case (P := P) (kc_se rfl sm_no) (
  kc_case (P := P) (kc_se c_Dk_passwordCode_52 (sm_goto d_Dk_passwordCode_52 (by decide))) (
  kc_case (P := P) (kc_se c_Dk_passwordCode_51 (sm_iconst d_Dk_passwordCode_51 (by decide))) (
  kc_case (P := P) (kc_se rfl sm_no) (
  kc_case (P := P) (kc_se rfl sm_no) (
  kc_case (P := P) (kc_se c_Dk_passwordCode_48 (sm_if_eq d_Dk_passwordCode_48 (by decide))) (
  kc_case (P := P) (kc_se c_Dk_passwordCode_47 (sm_iload_n d_Dk_passwordCode_47 rfl)) (
  kc_case (P := P) (kc_se rfl sm_no) (
  kc_case (P := P) (kc_se rfl sm_no) (
  kc_case (P := P) (kc_se c_Dk_passwordCode_44 (sm_if_ne d_Dk_passwordCode_44 (by decide))) (
  kc_case (P := P) (kc_se rfl sm_no) (
  kc_case (P := P) (kc_se rfl sm_no) (
  kc_case (P := P) (kc_se c_Dk_passwordCode_41 (sm_get (ci := 5) (C := "DirectoryDesk$Name") (F := kF_Nm) rfl kin_Nm (Nat.le_of_ble_eq_true rfl) d_Dk_passwordCode_41 (kw1 106 rfl rfl))) (
  kc_case (P := P) (kc_se rfl sm_no) (
  kc_case (P := P) (kc_se rfl sm_no) (
  kc_case (P := P) (kc_se c_Dk_passwordCode_38 (sm_get (ci := 0) (C := "DirectoryDesk") (F := kF_Dk) rfl kin_Dk (Nat.le_of_ble_eq_true rfl) d_Dk_passwordCode_38 (kw2 3 rfl rfl))) (
  kc_case (P := P) (kc_se c_Dk_passwordCode_37 (sm_aload_n d_Dk_passwordCode_37 rfl)) (
  kc_case (P := P) (kc_se c_Dk_passwordCode_36 (sm_ri d_Dk_passwordCode_36 rfl)) (
  kc_case (P := P) (kc_se rfl sm_no) (
  kc_case (P := P) (kc_se c_Dk_passwordCode_34 (sm_bipush d_Dk_passwordCode_34 (by decide))) (
  kc_case (P := P) (kc_se rfl sm_no) (
  kc_case (P := P) (kc_se rfl sm_no) (
  kc_case (P := P) (kc_se c_Dk_passwordCode_31 (sm_cm_ne d_Dk_passwordCode_31 (by decide))) (
  kc_case (P := P) (kc_se c_Dk_passwordCode_30 (sm_iconst d_Dk_passwordCode_30 (by decide))) (
  kc_case (P := P) (kc_se rfl sm_no) (
  kc_case (P := P) (kc_se rfl sm_no) (
  kc_case (P := P) (kc_se c_Dk_passwordCode_27 (sm_get (ci := 5) (C := "DirectoryDesk$Name") (F := kF_Nm) rfl kin_Nm (Nat.le_of_ble_eq_true rfl) d_Dk_passwordCode_27 (kw1 106 rfl rfl))) (
  kc_case (P := P) (kc_se rfl sm_no) (
  kc_case (P := P) (kc_se rfl sm_no) (
  kc_case (P := P) (kc_se c_Dk_passwordCode_24 (sm_get (ci := 0) (C := "DirectoryDesk") (F := kF_Dk) rfl kin_Dk (Nat.le_of_ble_eq_true rfl) d_Dk_passwordCode_24 (kw2 3 rfl rfl))) (
  kc_case (P := P) (kc_se c_Dk_passwordCode_23 (sm_aload_n d_Dk_passwordCode_23 rfl)) (
  kc_case (P := P) (kc_se c_Dk_passwordCode_22 (sm_istore_n d_Dk_passwordCode_22 rfl (Nat.le_of_ble_eq_true rfl))) (
  kc_case (P := P) (kc_se c_Dk_passwordCode_21 (sm_iconst d_Dk_passwordCode_21 (by decide))) (
  kc_case (P := P) (kc_se rfl sm_no) (
  kc_case (P := P) (kc_se rfl sm_no) (
  kc_case (P := P) (kc_se c_Dk_passwordCode_18 (sm_goto d_Dk_passwordCode_18 (by decide))) (
  kc_case (P := P) (kc_se c_Dk_passwordCode_17 (sm_iconst d_Dk_passwordCode_17 (by decide))) (
  kc_case (P := P) (kc_se rfl sm_no) (
  kc_case (P := P) (kc_se rfl sm_no) (
  kc_case (P := P) (kc_se c_Dk_passwordCode_14 (sm_cm_ne d_Dk_passwordCode_14 (by decide))) (
  kc_case (P := P) (kc_se rfl sm_no) (
  kc_case (P := P) (kc_se rfl sm_no) (
  kc_case (P := P) (kc_se c_Dk_passwordCode_11 (sm_get (ci := 1) (C := "DirectoryDesk$Reader") (F := kF_Rd) rfl kin_Rd (Nat.le_of_ble_eq_true rfl) d_Dk_passwordCode_11 (kw1 44 rfl rfl))) (
  kc_case (P := P) (kc_se rfl sm_no) (
  kc_case (P := P) (kc_se rfl sm_no) (
  kc_case (P := P) (kc_se c_Dk_passwordCode_8 (sm_get (ci := 0) (C := "DirectoryDesk") (F := kF_Dk) rfl kin_Dk (Nat.le_of_ble_eq_true rfl) d_Dk_passwordCode_8 (kw2 0 rfl rfl))) (
  kc_case (P := P) (kc_se c_Dk_passwordCode_7 (sm_aload_n d_Dk_passwordCode_7 rfl)) (
  kc_case (P := P) (kc_se rfl sm_no) (
  kc_case (P := P) (kc_se rfl sm_no) (
  kc_case (P := P) (kc_se c_Dk_passwordCode_4 (sm_get (ci := 1) (C := "DirectoryDesk$Reader") (F := kF_Rd) rfl kin_Rd (Nat.le_of_ble_eq_true rfl) d_Dk_passwordCode_4 (kw1 41 rfl rfl))) (
  kc_case (P := P) (kc_se rfl sm_no) (
  kc_case (P := P) (kc_se rfl sm_no) (
  kc_case (P := P) (kc_se c_Dk_passwordCode_1 (sm_get (ci := 0) (C := "DirectoryDesk") (F := kF_Dk) rfl kin_Dk (Nat.le_of_ble_eq_true rfl) d_Dk_passwordCode_1 (kw2 0 rfl rfl))) (
  kc_case (P := P) (kc_se c_Dk_passwordCode_0 (sm_aload_n d_Dk_passwordCode_0 rfl)) (
  kc_case0))))))))))))))))))))))))))))))))))))))))))))))))))))))))))))
set_option maxRecDepth 100000 in
set_option maxHeartbeats 4000000 in
theorem s_Dk_passwordCode_120 : ∀ pc, pc < 120 → kc_Sim kt kw_A kw_N kt_cl kt_En "DirectoryDesk" prog_1_method_15_code 4 (some .int) "passwordCode" none pc (ct_Dk_passwordCode pc) := by
  let P : Nat → Prop := fun pc => kc_Sim kt kw_A kw_N kt_cl kt_En "DirectoryDesk" prog_1_method_15_code 4 (some .int) "passwordCode" none pc (ct_Dk_passwordCode pc)
  exact kc_case (P := P) (kc_se rfl sm_no) (
  kc_case (P := P) (kc_se c_Dk_passwordCode_118 (sm_if_eq d_Dk_passwordCode_118 (by decide))) (
  kc_case (P := P) (kc_se c_Dk_passwordCode_117 (sm_iload_n d_Dk_passwordCode_117 rfl)) (
  kc_case (P := P) (kc_se c_Dk_passwordCode_116 (sm_istore_n d_Dk_passwordCode_116 rfl (Nat.le_of_ble_eq_true rfl))) (
  kc_case (P := P) (kc_se c_Dk_passwordCode_115 (sm_iconst d_Dk_passwordCode_115 (by decide))) (
  kc_case (P := P) (kc_se rfl sm_no) (
  kc_case (P := P) (kc_se rfl sm_no) (
  kc_case (P := P) (kc_se c_Dk_passwordCode_112 (sm_goto d_Dk_passwordCode_112 (by decide))) (
  kc_case (P := P) (kc_se c_Dk_passwordCode_111 (sm_iconst d_Dk_passwordCode_111 (by decide))) (
  kc_case (P := P) (kc_se rfl sm_no) (
  kc_case (P := P) (kc_se rfl sm_no) (
  kc_case (P := P) (kc_se c_Dk_passwordCode_108 (sm_cm_eq d_Dk_passwordCode_108 (by decide))) (
  kc_case (P := P) (kc_se c_Dk_passwordCode_107 (sm_iconst d_Dk_passwordCode_107 (by decide))) (
  kc_case (P := P) (kc_se rfl sm_no) (
  kc_case (P := P) (kc_se rfl sm_no) (
  kc_case (P := P) (kc_se c_Dk_passwordCode_104 (sm_cv (j := 69) rfl rfl kw_o kw_g wc_Pa_find (Nat.le_of_ble_eq_true rfl) hd_Pa_find (ci := 6) (F := kF_Pa) (N := 3) rfl (kw2 139 rfl rfl) wi_Pa_find ws_Pa_find wn_Pa_find d_Dk_passwordCode_104)) (
  kc_case (P := P) (kc_se rfl sm_no) (
  kc_case (P := P) (kc_se rfl sm_no) (
  kc_case (P := P) (kc_se c_Dk_passwordCode_101 (sm_cv (j := 40) rfl rfl kw_o kw_g wc_Rd_spanValue (Nat.le_of_ble_eq_true rfl) hd_Rd_spanValue (ci := 1) (F := kF_Rd) (N := 8) rfl (kw2 134 rfl rfl) wi_Rd_spanValue ws_Rd_spanValue wn_Rd_spanValue d_Dk_passwordCode_101)) (
  kc_case (P := P) (kc_se rfl sm_no) (
  kc_case (P := P) (kc_se rfl sm_no) (
  kc_case (P := P) (kc_se c_Dk_passwordCode_98 (sm_get (ci := 0) (C := "DirectoryDesk") (F := kF_Dk) rfl kin_Dk (Nat.le_of_ble_eq_true rfl) d_Dk_passwordCode_98 (kw2 0 rfl rfl))) (
  kc_case (P := P) (kc_se c_Dk_passwordCode_97 (sm_aload_n d_Dk_passwordCode_97 rfl)) (
  kc_case (P := P) (kc_se rfl sm_no) (
  kc_case (P := P) (kc_se c_Dk_passwordCode_95 (sm_bipush d_Dk_passwordCode_95 (by decide))) (
  kc_case (P := P) (kc_se rfl sm_no) (
  kc_case (P := P) (kc_se rfl sm_no) (
  kc_case (P := P) (kc_se c_Dk_passwordCode_92 (sm_get (ci := 4) (C := "DirectoryDesk$Entry") (F := kF_En) rfl kin_En (Nat.le_of_ble_eq_true rfl) d_Dk_passwordCode_92 (kw1 140 rfl rfl))) (
  kc_case (P := P) (kc_se c_Dk_passwordCode_91 (sm_aald d_Dk_passwordCode_91)) (
  kc_case (P := P) (kc_se c_Dk_passwordCode_90 (sm_iload_n d_Dk_passwordCode_90 rfl)) (
  kc_case (P := P) (kc_se rfl sm_no) (
  kc_case (P := P) (kc_se rfl sm_no) (
  kc_case (P := P) (kc_se c_Dk_passwordCode_87 (sm_get (ci := 3) (C := "DirectoryDesk$Tree") (F := kF_Tr) rfl kin_Tr (Nat.le_of_ble_eq_true rfl) d_Dk_passwordCode_87 (kw1 161 rfl rfl))) (
  kc_case (P := P) (kc_se rfl sm_no) (
  kc_case (P := P) (kc_se rfl sm_no) (
  kc_case (P := P) (kc_se c_Dk_passwordCode_84 (sm_get (ci := 0) (C := "DirectoryDesk") (F := kF_Dk) rfl kin_Dk (Nat.le_of_ble_eq_true rfl) d_Dk_passwordCode_84 (kw2 2 rfl rfl))) (
  kc_case (P := P) (kc_se c_Dk_passwordCode_83 (sm_aload_n d_Dk_passwordCode_83 rfl)) (
  kc_case (P := P) (kc_se rfl sm_no) (
  kc_case (P := P) (kc_se rfl sm_no) (
  kc_case (P := P) (kc_se c_Dk_passwordCode_80 (sm_cm_eq d_Dk_passwordCode_80 (by decide))) (
  kc_case (P := P) (kc_se c_Dk_passwordCode_79 (sm_iconst d_Dk_passwordCode_79 (by decide))) (
  kc_case (P := P) (kc_se c_Dk_passwordCode_78 (sm_iload_n d_Dk_passwordCode_78 rfl)) (
  kc_case (P := P) (kc_se c_Dk_passwordCode_77 (sm_istore_n d_Dk_passwordCode_77 rfl (Nat.le_of_ble_eq_true rfl))) (
  kc_case (P := P) (kc_se rfl sm_no) (
  kc_case (P := P) (kc_se rfl sm_no) (
  kc_case (P := P) (kc_se c_Dk_passwordCode_74 (sm_cv (j := 56) rfl rfl kw_o kw_g wc_Tr_find (Nat.le_of_ble_eq_true rfl) hd_Tr_find (ci := 3) (F := kF_Tr) (N := 2) rfl (kw2 126 rfl rfl) wi_Tr_find ws_Tr_find wn_Tr_find d_Dk_passwordCode_74)) (
  kc_case (P := P) (kc_se c_Dk_passwordCode_73 (sm_iconst d_Dk_passwordCode_73 (by decide))) (
  kc_case (P := P) (kc_se rfl sm_no) (
  kc_case (P := P) (kc_se rfl sm_no) (
  kc_case (P := P) (kc_se c_Dk_passwordCode_70 (sm_get (ci := 0) (C := "DirectoryDesk") (F := kF_Dk) rfl kin_Dk (Nat.le_of_ble_eq_true rfl) d_Dk_passwordCode_70 (kw2 3 rfl rfl))) (
  kc_case (P := P) (kc_se c_Dk_passwordCode_69 (sm_aload_n d_Dk_passwordCode_69 rfl)) (
  kc_case (P := P) (kc_se rfl sm_no) (
  kc_case (P := P) (kc_se rfl sm_no) (
  kc_case (P := P) (kc_se c_Dk_passwordCode_66 (sm_get (ci := 0) (C := "DirectoryDesk") (F := kF_Dk) rfl kin_Dk (Nat.le_of_ble_eq_true rfl) d_Dk_passwordCode_66 (kw2 2 rfl rfl))) (
  kc_case (P := P) (kc_se c_Dk_passwordCode_65 (sm_aload_n d_Dk_passwordCode_65 rfl)) (
  kc_case (P := P) (kc_se c_Dk_passwordCode_64 (sm_ri d_Dk_passwordCode_64 rfl)) (
  kc_case (P := P) (kc_se rfl sm_no) (
  kc_case (P := P) (kc_se c_Dk_passwordCode_62 (sm_bipush d_Dk_passwordCode_62 (by decide))) (
  kc_case (P := P) (kc_se rfl sm_no) (
  kc_case (P := P) (kc_se rfl sm_no) (
  s_Dk_passwordCode_60))))))))))))))))))))))))))))))))))))))))))))))))))))))))))))
set_option maxRecDepth 100000 in
set_option maxHeartbeats 4000000 in
theorem s_Dk_passwordCode_128 : ∀ pc, pc < 128 → kc_Sim kt kw_A kw_N kt_cl kt_En "DirectoryDesk" prog_1_method_15_code 4 (some .int) "passwordCode" none pc (ct_Dk_passwordCode pc) := by
  let P : Nat → Prop := fun pc => kc_Sim kt kw_A kw_N kt_cl kt_En "DirectoryDesk" prog_1_method_15_code 4 (some .int) "passwordCode" none pc (ct_Dk_passwordCode pc)
  exact kc_case (P := P) (kc_se c_Dk_passwordCode_127 (sm_ri d_Dk_passwordCode_127 rfl)) (
  kc_case (P := P) (kc_se rfl sm_no) (
  kc_case (P := P) (kc_se c_Dk_passwordCode_125 (sm_bipush d_Dk_passwordCode_125 (by decide))) (
  kc_case (P := P) (kc_se rfl sm_no) (
  kc_case (P := P) (kc_se rfl sm_no) (
  kc_case (P := P) (kc_se c_Dk_passwordCode_122 (sm_goto d_Dk_passwordCode_122 (by decide))) (
  kc_case (P := P) (kc_se c_Dk_passwordCode_121 (sm_iconst d_Dk_passwordCode_121 (by decide))) (
  kc_case (P := P) (kc_se rfl sm_no) (
  s_Dk_passwordCode_120))))))))
theorem ka_nth_no_Dk_passwordCode (pc : Nat) (h : 128 ≤ pc) : ct_Dk_passwordCode pc = ka_no := ka_nth_ge _ pc (Nat.le_trans (Nat.le_of_eq (by rfl)) h)
theorem s_Dk_passwordCode (pc : Nat) : kc_Sim kt kw_A kw_N kt_cl kt_En "DirectoryDesk" prog_1_method_15_code 4 (some .int) "passwordCode" none pc (ct_Dk_passwordCode pc) := (Nat.lt_or_ge pc 128).elim (s_Dk_passwordCode_128 pc) (fun h => kc_se (ka_nth_no_Dk_passwordCode pc h) sm_no)
