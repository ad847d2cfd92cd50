/-! code of methods, decode rows, and that the JVM follows (by program) -/
def cl_Fi_judge_0 : List kc_A := [ka_il 1 1, ka_al 0 1, ka_get 9 4, ka_no, ka_no, ka_cm (fun x y => y ≤ x) 14, ka_no, ka_no, ka_il 3 1, ka_ci (nI 6) 2, ka_no, ka_cm (fun x y => x ≤ y) 16, ka_no, ka_no, ka_ci (nI 1) 1, ka_ri, ka_al 0 1, ka_get 9 0, ka_no, ka_no, ka_il 1 1, ka_iald, ka_sw (fun x => if x = nI 160 then 48 else if x = nI 161 then 48 else if x = nI 162 then 56 else 70), ka_no, ka_no, ka_no, ka_no, ka_no, ka_no, ka_no, ka_no, ka_no, ka_no, ka_no, ka_no, ka_no, ka_no, ka_no, ka_no, ka_no, ka_no, ka_no, ka_no, ka_no, ka_no, ka_no, ka_no, ka_no, ka_al 0 1, ka_il 1 1, ka_al 2 1, ka_il 3 1, ka_cv 94 3 9 0 0, ka_no, ka_no, ka_ri, ka_ci (nI 2) 1, ka_al 0 1, ka_il 1 1, ka_ci (nI 1) 1]
def cl_Fi_judge_1 : List kc_A := [ka_ii (fun x y => x + y), ka_al 2 1, ka_il 3 1, ka_ci (nI 1) 1, ka_ii (fun x y => x + y), ka_cv 93 3 9 0 0, ka_no, ka_no, ka_ii (fun x y => x - y), ka_ri, ka_al 0 1, ka_il 1 1, ka_al 2 1, ka_cv 95 2 9 0 0, ka_no, ka_no, ka_ri]
def ct_Fi_judge : Nat → kc_A := fun pc => ka_nth (cl_Fi_judge_0 ++ (cl_Fi_judge_1)) pc
set_option maxRecDepth 100000 in
theorem c_Fi_judge_0 : ct_Fi_judge 0 = ka_il 1 1 := rfl
theorem d_Fi_judge_0 : decode prog_4_method_7_code 0 = .ok (.iload_n 1, 1) := by decide +kernel
set_option maxRecDepth 100000 in
theorem c_Fi_judge_1 : ct_Fi_judge 1 = ka_al 0 1 := rfl
theorem d_Fi_judge_1 : decode prog_4_method_7_code 1 = .ok (.aload_n 0, 1) := by decide +kernel
set_option maxRecDepth 100000 in
theorem c_Fi_judge_2 : ct_Fi_judge 2 = ka_get 9 4 := rfl
theorem d_Fi_judge_2 : decode prog_4_method_7_code 2 = .ok (.getfield 25, 3) := by decide +kernel
set_option maxRecDepth 100000 in
theorem c_Fi_judge_5 : ct_Fi_judge 5 = ka_cm (fun x y => y ≤ x) 14 := rfl
theorem d_Fi_judge_5 : decode prog_4_method_7_code 5 = .ok (.if_icmp .ge 9, 3) := by decide +kernel
set_option maxRecDepth 100000 in
theorem c_Fi_judge_8 : ct_Fi_judge 8 = ka_il 3 1 := rfl
theorem d_Fi_judge_8 : decode prog_4_method_7_code 8 = .ok (.iload_n 3, 1) := by decide +kernel
set_option maxRecDepth 100000 in
theorem c_Fi_judge_9 : ct_Fi_judge 9 = ka_ci (nI 6) 2 := rfl
theorem d_Fi_judge_9 : decode prog_4_method_7_code 9 = .ok (.bipush 6, 2) := by decide +kernel
set_option maxRecDepth 100000 in
theorem c_Fi_judge_11 : ct_Fi_judge 11 = ka_cm (fun x y => x ≤ y) 16 := rfl
theorem d_Fi_judge_11 : decode prog_4_method_7_code 11 = .ok (.if_icmp .le 5, 3) := by decide +kernel
set_option maxRecDepth 100000 in
theorem c_Fi_judge_14 : ct_Fi_judge 14 = ka_ci (nI 1) 1 := rfl
theorem d_Fi_judge_14 : decode prog_4_method_7_code 14 = .ok (.iconst 1, 1) := by decide +kernel
set_option maxRecDepth 100000 in
theorem c_Fi_judge_15 : ct_Fi_judge 15 = ka_ri := rfl
theorem d_Fi_judge_15 : decode prog_4_method_7_code 15 = .ok (.ireturn, 1) := by decide +kernel
set_option maxRecDepth 100000 in
theorem c_Fi_judge_16 : ct_Fi_judge 16 = ka_al 0 1 := rfl
theorem d_Fi_judge_16 : decode prog_4_method_7_code 16 = .ok (.aload_n 0, 1) := by decide +kernel
set_option maxRecDepth 100000 in
theorem c_Fi_judge_17 : ct_Fi_judge 17 = ka_get 9 0 := rfl
theorem d_Fi_judge_17 : decode prog_4_method_7_code 17 = .ok (.getfield 9, 3) := by decide +kernel
set_option maxRecDepth 100000 in
theorem c_Fi_judge_20 : ct_Fi_judge 20 = ka_il 1 1 := rfl
theorem d_Fi_judge_20 : decode prog_4_method_7_code 20 = .ok (.iload_n 1, 1) := by decide +kernel
set_option maxRecDepth 100000 in
theorem c_Fi_judge_21 : ct_Fi_judge 21 = ka_iald := rfl
theorem d_Fi_judge_21 : decode prog_4_method_7_code 21 = .ok (.iaload, 1) := by decide +kernel
set_option maxRecDepth 100000 in
theorem c_Fi_judge_22 : ct_Fi_judge 22 = ka_sw (fun x => if x = nI 160 then 48 else if x = nI 161 then 48 else if x = nI 162 then 56 else 70) := rfl
theorem d_Fi_judge_22 : decode prog_4_method_7_code 22 = .ok (.tableswitch 48 160 162 #[26, 26, 34], 26) := by decide +kernel
set_option maxRecDepth 100000 in
theorem c_Fi_judge_48 : ct_Fi_judge 48 = ka_al 0 1 := rfl
theorem d_Fi_judge_48 : decode prog_4_method_7_code 48 = .ok (.aload_n 0, 1) := by decide +kernel
set_option maxRecDepth 100000 in
theorem c_Fi_judge_49 : ct_Fi_judge 49 = ka_il 1 1 := rfl
theorem d_Fi_judge_49 : decode prog_4_method_7_code 49 = .ok (.iload_n 1, 1) := by decide +kernel
set_option maxRecDepth 100000 in
theorem c_Fi_judge_50 : ct_Fi_judge 50 = ka_al 2 1 := rfl
theorem d_Fi_judge_50 : decode prog_4_method_7_code 50 = .ok (.aload_n 2, 1) := by decide +kernel
set_option maxRecDepth 100000 in
theorem c_Fi_judge_51 : ct_Fi_judge 51 = ka_il 3 1 := rfl
theorem d_Fi_judge_51 : decode prog_4_method_7_code 51 = .ok (.iload_n 3, 1) := by decide +kernel
set_option maxRecDepth 100000 in
theorem c_Fi_judge_52 : ct_Fi_judge 52 = ka_cv 94 3 9 0 0 := rfl
theorem d_Fi_judge_52 : decode prog_4_method_7_code 52 = .ok (.invokevirtual 76, 3) := by decide +kernel
set_option maxRecDepth 100000 in
theorem c_Fi_judge_55 : ct_Fi_judge 55 = ka_ri := rfl
theorem d_Fi_judge_55 : decode prog_4_method_7_code 55 = .ok (.ireturn, 1) := by decide +kernel
set_option maxRecDepth 100000 in
theorem c_Fi_judge_56 : ct_Fi_judge 56 = ka_ci (nI 2) 1 := rfl
theorem d_Fi_judge_56 : decode prog_4_method_7_code 56 = .ok (.iconst 2, 1) := by decide +kernel
set_option maxRecDepth 100000 in
theorem c_Fi_judge_57 : ct_Fi_judge 57 = ka_al 0 1 := rfl
theorem d_Fi_judge_57 : decode prog_4_method_7_code 57 = .ok (.aload_n 0, 1) := by decide +kernel
set_option maxRecDepth 100000 in
theorem c_Fi_judge_58 : ct_Fi_judge 58 = ka_il 1 1 := rfl
theorem d_Fi_judge_58 : decode prog_4_method_7_code 58 = .ok (.iload_n 1, 1) := by decide +kernel
set_option maxRecDepth 100000 in
theorem c_Fi_judge_59 : ct_Fi_judge 59 = ka_ci (nI 1) 1 := rfl
theorem d_Fi_judge_59 : decode prog_4_method_7_code 59 = .ok (.iconst 1, 1) := by decide +kernel
set_option maxRecDepth 100000 in
theorem c_Fi_judge_60 : ct_Fi_judge 60 = ka_ii (fun x y => x + y) := rfl
theorem d_Fi_judge_60 : decode prog_4_method_7_code 60 = .ok (.iadd, 1) := by decide +kernel
set_option maxRecDepth 100000 in
theorem c_Fi_judge_61 : ct_Fi_judge 61 = ka_al 2 1 := rfl
theorem d_Fi_judge_61 : decode prog_4_method_7_code 61 = .ok (.aload_n 2, 1) := by decide +kernel
set_option maxRecDepth 100000 in
theorem c_Fi_judge_62 : ct_Fi_judge 62 = ka_il 3 1 := rfl
theorem d_Fi_judge_62 : decode prog_4_method_7_code 62 = .ok (.iload_n 3, 1) := by decide +kernel
set_option maxRecDepth 100000 in
theorem c_Fi_judge_63 : ct_Fi_judge 63 = ka_ci (nI 1) 1 := rfl
theorem d_Fi_judge_63 : decode prog_4_method_7_code 63 = .ok (.iconst 1, 1) := by decide +kernel
set_option maxRecDepth 100000 in
theorem c_Fi_judge_64 : ct_Fi_judge 64 = ka_ii (fun x y => x + y) := rfl
theorem d_Fi_judge_64 : decode prog_4_method_7_code 64 = .ok (.iadd, 1) := by decide +kernel
set_option maxRecDepth 100000 in
theorem c_Fi_judge_65 : ct_Fi_judge 65 = ka_cv 93 3 9 0 0 := rfl
theorem d_Fi_judge_65 : decode prog_4_method_7_code 65 = .ok (.invokevirtual 33, 3) := by decide +kernel
set_option maxRecDepth 100000 in
theorem c_Fi_judge_68 : ct_Fi_judge 68 = ka_ii (fun x y => x - y) := rfl
theorem d_Fi_judge_68 : decode prog_4_method_7_code 68 = .ok (.isub, 1) := by decide +kernel
set_option maxRecDepth 100000 in
theorem c_Fi_judge_69 : ct_Fi_judge 69 = ka_ri := rfl
theorem d_Fi_judge_69 : decode prog_4_method_7_code 69 = .ok (.ireturn, 1) := by decide +kernel
set_option maxRecDepth 100000 in
theorem c_Fi_judge_70 : ct_Fi_judge 70 = ka_al 0 1 := rfl
theorem d_Fi_judge_70 : decode prog_4_method_7_code 70 = .ok (.aload_n 0, 1) := by decide +kernel
set_option maxRecDepth 100000 in
theorem c_Fi_judge_71 : ct_Fi_judge 71 = ka_il 1 1 := rfl
theorem d_Fi_judge_71 : decode prog_4_method_7_code 71 = .ok (.iload_n 1, 1) := by decide +kernel
set_option maxRecDepth 100000 in
theorem c_Fi_judge_72 : ct_Fi_judge 72 = ka_al 2 1 := rfl
theorem d_Fi_judge_72 : decode prog_4_method_7_code 72 = .ok (.aload_n 2, 1) := by decide +kernel
set_option maxRecDepth 100000 in
theorem c_Fi_judge_73 : ct_Fi_judge 73 = ka_cv 95 2 9 0 0 := rfl
theorem d_Fi_judge_73 : decode prog_4_method_7_code 73 = .ok (.invokevirtual 79, 3) := by decide +kernel
set_option maxRecDepth 100000 in
theorem c_Fi_judge_76 : ct_Fi_judge 76 = ka_ri := rfl
theorem d_Fi_judge_76 : decode prog_4_method_7_code 76 = .ok (.ireturn, 1) := by decide +kernel
set_option maxRecDepth 100000 in
set_option maxHeartbeats 4000000 in
theorem s_Fi_judge_60 : ∀ pc, pc < 60 → kc_Sim kt kw_A kw_N kt_cl kt_En "DirectoryDesk$Filters" prog_4_method_7_code 4 (some .int) "judge" none pc (ct_Fi_judge pc) := by
  let P : Nat → Prop := fun pc => kc_Sim kt kw_A kw_N kt_cl kt_En "DirectoryDesk$Filters" prog_4_method_7_code 4 (some .int) "judge" none pc (ct_Fi_judge pc)
  exact kc_case (P := P) (kc_se c_Fi_judge_59 (sm_iconst d_Fi_judge_59 (by decide))) (
  kc_case (P := P) (kc_se c_Fi_judge_58 (sm_iload_n d_Fi_judge_58 rfl)) (
  kc_case (P := P) (kc_se c_Fi_judge_57 (sm_aload_n d_Fi_judge_57 rfl)) (
  kc_case (P := P) (kc_se c_Fi_judge_56 (sm_iconst d_Fi_judge_56 (by decide))) (
  kc_case (P := P) (kc_se c_Fi_judge_55 (sm_ri d_Fi_judge_55 rfl)) (
  kc_case (P := P) (kc_se rfl sm_no) (
  kc_case (P := P) (kc_se rfl sm_no) (
  kc_case (P := P) (kc_se c_Fi_judge_52 (sm_cv (j := 94) rfl rfl kw_o kw_g wc_Fi_judgeInner (Nat.le_of_ble_eq_true rfl) hd_Fi_judgeInner (ci := 9) (F := kF_Fi) (N := 5) rfl (kw2 214 rfl rfl) wi_Fi_judgeInner ws_Fi_judgeInner wn_Fi_judgeInner d_Fi_judge_52)) (
  kc_case (P := P) (kc_se c_Fi_judge_51 (sm_iload_n d_Fi_judge_51 rfl)) (
  kc_case (P := P) (kc_se c_Fi_judge_50 (sm_aload_n d_Fi_judge_50 rfl)) (
  kc_case (P := P) (kc_se c_Fi_judge_49 (sm_iload_n d_Fi_judge_49 rfl)) (
  kc_case (P := P) (kc_se c_Fi_judge_48 (sm_aload_n d_Fi_judge_48 rfl)) (
  kc_case (P := P) (kc_se rfl sm_no) (
  kc_case (P := P) (kc_se rfl sm_no) (
  kc_case (P := P) (kc_se rfl sm_no) (
  kc_case (P := P) (kc_se rfl sm_no) (
  kc_case (P := P) (kc_se rfl sm_no) (
  kc_case (P := P) (kc_se rfl sm_no) (
  kc_case (P := P) (kc_se rfl sm_no) (
  kc_case (P := P) (kc_se rfl sm_no) (
  kc_case (P := P) (kc_se rfl sm_no) (
  kc_case (P := P) (kc_se rfl sm_no) (
  kc_case (P := P) (kc_se rfl sm_no) (
  kc_case (P := P) (kc_se rfl sm_no) (
  kc_case (P := P) (kc_se rfl sm_no) (
  kc_case (P := P) (kc_se rfl sm_no) (
  kc_case (P := P) (kc_se rfl sm_no) (
  kc_case (P := P) (kc_se rfl sm_no) (
  kc_case (P := P) (kc_se rfl sm_no) (
  kc_case (P := P) (kc_se rfl sm_no) (
  kc_case (P := P) (kc_se rfl sm_no) (
  kc_case (P := P) (kc_se rfl sm_no) (
  kc_case (P := P) (kc_se rfl sm_no) (
  kc_case (P := P) (kc_se rfl sm_no) (
  kc_case (P := P) (kc_se rfl sm_no) (
  kc_case (P := P) (kc_se rfl sm_no) (
  kc_case (P := P) (kc_se rfl sm_no) (
  kc_case (P := P) (kc_se c_Fi_judge_22 (sm_tsw d_Fi_judge_22 (by
    intro x
    by_cases h160 : x = nI 160
    · subst h160; exact Or.inr ⟨by decide +kernel, by decide +kernel, 26, by decide +kernel, by decide +kernel⟩
    by_cases h161 : x = nI 161
    · subst h161; exact Or.inr ⟨by decide +kernel, by decide +kernel, 26, by decide +kernel, by decide +kernel⟩
    by_cases h162 : x = nI 162
    · subst h162; exact Or.inr ⟨by decide +kernel, by decide +kernel, 34, by decide +kernel, by decide +kernel⟩
    have g160 := lv_neT (a := 160) h160 (by decide +kernel)
    have g161 := lv_neT (a := 161) h161 (by decide +kernel)
    have g162 := lv_neT (a := 162) h162 (by decide +kernel)
    refine Or.inl ⟨by omega, ?_⟩
    show _ = ((if x = nI 160 then 48 else if x = nI 161 then 48 else if x = nI 162 then 56 else 70 : Nat) : Int)
    rw [if_neg h160, if_neg h161, if_neg h162]
    decide))) (
  kc_case (P := P) (kc_se c_Fi_judge_21 (sm_iald d_Fi_judge_21)) (
  kc_case (P := P) (kc_se c_Fi_judge_20 (sm_iload_n d_Fi_judge_20 rfl)) (
  kc_case (P := P) (kc_se rfl sm_no) (
  kc_case (P := P) (kc_se rfl sm_no) (
  kc_case (P := P) (kc_se c_Fi_judge_17 (sm_get (ci := 9) (C := "DirectoryDesk$Filters") (F := kF_Fi) rfl kin_Fi (Nat.le_of_ble_eq_true rfl) d_Fi_judge_17 (kw1 222 rfl rfl))) (
  kc_case (P := P) (kc_se c_Fi_judge_16 (sm_aload_n d_Fi_judge_16 rfl)) (
  kc_case (P := P) (kc_se c_Fi_judge_15 (sm_ri d_Fi_judge_15 rfl)) (
  kc_case (P := P) (kc_se c_Fi_judge_14 (sm_iconst d_Fi_judge_14 (by decide))) (
  kc_case (P := P) (kc_se rfl sm_no) (
  kc_case (P := P) (kc_se rfl sm_no) (
  kc_case (P := P) (kc_se c_Fi_judge_11 (sm_cm_le d_Fi_judge_11 (by decide))) (
  kc_case (P := P) (kc_se rfl sm_no) (
  kc_case (P := P) (kc_se c_Fi_judge_9 (sm_bipush d_Fi_judge_9 (by decide))) (
  kc_case (P := P) (kc_se c_Fi_judge_8 (sm_iload_n d_Fi_judge_8 rfl)) (
  kc_case (P := P) (kc_se rfl sm_no) (
  kc_case (P := P) (kc_se rfl sm_no) (
  kc_case (P := P) (kc_se c_Fi_judge_5 (sm_cm_ge d_Fi_judge_5 (by decide))) (
  kc_case (P := P) (kc_se rfl sm_no) (
  kc_case (P := P) (kc_se rfl sm_no) (
  kc_case (P := P) (kc_se c_Fi_judge_2 (sm_get (ci := 9) (C := "DirectoryDesk$Filters") (F := kF_Fi) rfl kin_Fi (Nat.le_of_ble_eq_true rfl) d_Fi_judge_2 (kw1 226 rfl rfl))) (
  kc_case (P := P) (kc_se c_Fi_judge_1 (sm_aload_n d_Fi_judge_1 rfl)) (
  kc_case (P := P) (kc_se c_Fi_judge_0 (sm_iload_n d_Fi_judge_0 rfl)) (
  kc_case0))))))))))))))))))))))))))))))))))))))))))))))))))))))))))))
set_option maxRecDepth 100000 in
set_option maxHeartbeats 4000000 in
theorem s_Fi_judge_77 : ∀ pc, pc < 77 → kc_Sim kt kw_A kw_N kt_cl kt_En "DirectoryDesk$Filters" prog_4_method_7_code 4 (some .int) "judge" none pc (ct_Fi_judge pc) := by
  let P : Nat → Prop := fun pc => kc_Sim kt kw_A kw_N kt_cl kt_En "DirectoryDesk$Filters" prog_4_method_7_code 4 (some .int) "judge" none pc (ct_Fi_judge pc)
  exact kc_case (P := P) (kc_se c_Fi_judge_76 (sm_ri d_Fi_judge_76 rfl)) (
  kc_case (P := P) (kc_se rfl sm_no) (
  kc_case (P := P) (kc_se rfl sm_no) (
  kc_case (P := P) (kc_se c_Fi_judge_73 (sm_cv (j := 95) rfl rfl kw_o kw_g wc_Fi_judgePair (Nat.le_of_ble_eq_true rfl) hd_Fi_judgePair (ci := 9) (F := kF_Fi) (N := 5) rfl (kw2 224 rfl rfl) wi_Fi_judgePair ws_Fi_judgePair wn_Fi_judgePair d_Fi_judge_73)) (
  kc_case (P := P) (kc_se c_Fi_judge_72 (sm_aload_n d_Fi_judge_72 rfl)) (
  kc_case (P := P) (kc_se c_Fi_judge_71 (sm_iload_n d_Fi_judge_71 rfl)) (
  kc_case (P := P) (kc_se c_Fi_judge_70 (sm_aload_n d_Fi_judge_70 rfl)) (
  kc_case (P := P) (kc_se c_Fi_judge_69 (sm_ri d_Fi_judge_69 rfl)) (
  kc_case (P := P) (kc_se c_Fi_judge_68 (sm_isub d_Fi_judge_68)) (
  kc_case (P := P) (kc_se rfl sm_no) (
  kc_case (P := P) (kc_se rfl sm_no) (
  kc_case (P := P) (kc_se c_Fi_judge_65 (sm_cv (j := 93) rfl rfl kw_o kw_g wc_Fi_judge (Nat.le_of_ble_eq_true rfl) hd_Fi_judge (ci := 9) (F := kF_Fi) (N := 5) rfl (kw2 210 rfl rfl) wi_Fi_judge ws_Fi_judge wn_Fi_judge d_Fi_judge_65)) (
  kc_case (P := P) (kc_se c_Fi_judge_64 (sm_iadd d_Fi_judge_64)) (
  kc_case (P := P) (kc_se c_Fi_judge_63 (sm_iconst d_Fi_judge_63 (by decide))) (
  kc_case (P := P) (kc_se c_Fi_judge_62 (sm_iload_n d_Fi_judge_62 rfl)) (
  kc_case (P := P) (kc_se c_Fi_judge_61 (sm_aload_n d_Fi_judge_61 rfl)) (
  kc_case (P := P) (kc_se c_Fi_judge_60 (sm_iadd d_Fi_judge_60)) (
  s_Fi_judge_60)))))))))))))))))
set_option maxRecDepth 100000 in
theorem ka_nth_no_Fi_judge (pc : Nat) (h : 77 ≤ pc) : ct_Fi_judge pc = ka_no := ka_nth_ge _ pc (Nat.le_trans (Nat.le_of_eq (by rfl)) h)
theorem s_Fi_judge (pc : Nat) : kc_Sim kt kw_A kw_N kt_cl kt_En "DirectoryDesk$Filters" prog_4_method_7_code 4 (some .int) "judge" none pc (ct_Fi_judge pc) := (Nat.lt_or_ge pc 77).elim (s_Fi_judge_77 pc) (fun h => kc_se (ka_nth_no_Fi_judge pc h) sm_no)
def cl_Fi_judgeInner_0 : List kc_A := [ka_al 0 1, ka_get 9 0, ka_no, ka_no, ka_il 1 1, ka_iald, ka_ci (nI 160) 3, ka_no, ka_no, ka_cm (fun x y => ¬ x = y) 16, ka_no, ka_no, ka_ci (nI 1) 1, ka_goto 17, ka_no, ka_no, ka_ci (nI 0) 1, ka_is 4 2, ka_no, ka_il 4 2, ka_no, ka_if (fun x => x = 0) 28, ka_no, ka_no, ka_ci (nI 2) 1, ka_goto 29, ka_no, ka_no, ka_ci (nI 0) 1, ka_is 5 2, ka_no, ka_il 1 1, ka_ci (nI 1) 1, ka_ii (fun x y => x + y), ka_is 6 2, ka_no, ka_ci (nI 0) 1, ka_is 7 2, ka_no, ka_il 7 2, ka_no, ka_ci (nI 20) 2, ka_no, ka_cm (fun x y => y ≤ x) 108, ka_no, ka_no, ka_il 6 2, ka_no, ka_al 0 1, ka_get 9 3, ka_no, ka_no, ka_il 1 1, ka_iald, ka_cm (fun x y => y ≤ x) 108, ka_no, ka_no, ka_al 0 1, ka_il 6 2, ka_no]
def cl_Fi_judgeInner_1 : List kc_A := [ka_al 2 1, ka_il 3 1, ka_ci (nI 1) 1, ka_ii (fun x y => x + y), ka_cv 93 3 9 0 0, ka_no, ka_no, ka_is 8 2, ka_no, ka_il 4 2, ka_no, ka_if (fun x => x = 0) 84, ka_no, ka_no, ka_il 5 2, ka_no, ka_il 8 2, ka_no, ka_min, ka_no, ka_no, ka_goto 91, ka_no, ka_no, ka_il 5 2, ka_no, ka_il 8 2, ka_no, ka_max, ka_no, ka_no, ka_is 5 2, ka_no, ka_al 0 1, ka_get 9 3, ka_no, ka_no, ka_il 6 2, ka_no, ka_iald, ka_is 6 2, ka_no, ka_inc 7 (nI 1), ka_no, ka_no, ka_goto 39, ka_no, ka_no, ka_il 5 2, ka_no, ka_ri]
def ct_Fi_judgeInner : Nat → kc_A := fun pc => ka_nth (cl_Fi_judgeInner_0 ++ (cl_Fi_judgeInner_1)) pc
set_option maxRecDepth 100000 in
theorem c_Fi_judgeInner_0 : ct_Fi_judgeInner 0 = ka_al 0 1 := rfl
theorem d_Fi_judgeInner_0 : decode prog_4_method_8_code 0 = .ok (.aload_n 0, 1) := by decide +kernel
set_option maxRecDepth 100000 in
theorem c_Fi_judgeInner_1 : ct_Fi_judgeInner 1 = ka_get 9 0 := rfl
theorem d_Fi_judgeInner_1 : decode prog_4_method_8_code 1 = .ok (.getfield 9, 3) := by decide +kernel
set_option maxRecDepth 100000 in
theorem c_Fi_judgeInner_4 : ct_Fi_judgeInner 4 = ka_il 1 1 := rfl
theorem d_Fi_judgeInner_4 : decode prog_4_method_8_code 4 = .ok (.iload_n 1, 1) := by decide +kernel
set_option maxRecDepth 100000 in
theorem c_Fi_judgeInner_5 : ct_Fi_judgeInner 5 = ka_iald := rfl
theorem d_Fi_judgeInner_5 : decode prog_4_method_8_code 5 = .ok (.iaload, 1) := by decide +kernel
set_option maxRecDepth 100000 in
theorem c_Fi_judgeInner_6 : ct_Fi_judgeInner 6 = ka_ci (nI 160) 3 := rfl
theorem d_Fi_judgeInner_6 : decode prog_4_method_8_code 6 = .ok (.sipush 160, 3) := by decide +kernel
set_option maxRecDepth 100000 in
theorem c_Fi_judgeInner_9 : ct_Fi_judgeInner 9 = ka_cm (fun x y => ¬ x = y) 16 := rfl
theorem d_Fi_judgeInner_9 : decode prog_4_method_8_code 9 = .ok (.if_icmp .ne 7, 3) := by decide +kernel
set_option maxRecDepth 100000 in
theorem c_Fi_judgeInner_12 : ct_Fi_judgeInner 12 = ka_ci (nI 1) 1 := rfl
theorem d_Fi_judgeInner_12 : decode prog_4_method_8_code 12 = .ok (.iconst 1, 1) := by decide +kernel
set_option maxRecDepth 100000 in
theorem c_Fi_judgeInner_13 : ct_Fi_judgeInner 13 = ka_goto 17 := rfl
theorem d_Fi_judgeInner_13 : decode prog_4_method_8_code 13 = .ok (.goto 4, 3) := by decide +kernel
set_option maxRecDepth 100000 in
theorem c_Fi_judgeInner_16 : ct_Fi_judgeInner 16 = ka_ci (nI 0) 1 := rfl
theorem d_Fi_judgeInner_16 : decode prog_4_method_8_code 16 = .ok (.iconst 0, 1) := by decide +kernel
set_option maxRecDepth 100000 in
theorem c_Fi_judgeInner_17 : ct_Fi_judgeInner 17 = ka_is 4 2 := rfl
theorem d_Fi_judgeInner_17 : decode prog_4_method_8_code 17 = .ok (.istore 4, 2) := by decide +kernel
set_option maxRecDepth 100000 in
theorem c_Fi_judgeInner_19 : ct_Fi_judgeInner 19 = ka_il 4 2 := rfl
theorem d_Fi_judgeInner_19 : decode prog_4_method_8_code 19 = .ok (.iload 4, 2) := by decide +kernel
set_option maxRecDepth 100000 in
theorem c_Fi_judgeInner_21 : ct_Fi_judgeInner 21 = ka_if (fun x => x = 0) 28 := rfl
theorem d_Fi_judgeInner_21 : decode prog_4_method_8_code 21 = .ok (.ifCond .eq 7, 3) := by decide +kernel
set_option maxRecDepth 100000 in
theorem c_Fi_judgeInner_24 : ct_Fi_judgeInner 24 = ka_ci (nI 2) 1 := rfl
theorem d_Fi_judgeInner_24 : decode prog_4_method_8_code 24 = .ok (.iconst 2, 1) := by decide +kernel
set_option maxRecDepth 100000 in
theorem c_Fi_judgeInner_25 : ct_Fi_judgeInner 25 = ka_goto 29 := rfl
theorem d_Fi_judgeInner_25 : decode prog_4_method_8_code 25 = .ok (.goto 4, 3) := by decide +kernel
set_option maxRecDepth 100000 in
theorem c_Fi_judgeInner_28 : ct_Fi_judgeInner 28 = ka_ci (nI 0) 1 := rfl
theorem d_Fi_judgeInner_28 : decode prog_4_method_8_code 28 = .ok (.iconst 0, 1) := by decide +kernel
set_option maxRecDepth 100000 in
theorem c_Fi_judgeInner_29 : ct_Fi_judgeInner 29 = ka_is 5 2 := rfl
theorem d_Fi_judgeInner_29 : decode prog_4_method_8_code 29 = .ok (.istore 5, 2) := by decide +kernel
set_option maxRecDepth 100000 in
theorem c_Fi_judgeInner_31 : ct_Fi_judgeInner 31 = ka_il 1 1 := rfl
theorem d_Fi_judgeInner_31 : decode prog_4_method_8_code 31 = .ok (.iload_n 1, 1) := by decide +kernel
set_option maxRecDepth 100000 in
theorem c_Fi_judgeInner_32 : ct_Fi_judgeInner 32 = ka_ci (nI 1) 1 := rfl
theorem d_Fi_judgeInner_32 : decode prog_4_method_8_code 32 = .ok (.iconst 1, 1) := by decide +kernel
set_option maxRecDepth 100000 in
theorem c_Fi_judgeInner_33 : ct_Fi_judgeInner 33 = ka_ii (fun x y => x + y) := rfl
theorem d_Fi_judgeInner_33 : decode prog_4_method_8_code 33 = .ok (.iadd, 1) := by decide +kernel
set_option maxRecDepth 100000 in
theorem c_Fi_judgeInner_34 : ct_Fi_judgeInner 34 = ka_is 6 2 := rfl
theorem d_Fi_judgeInner_34 : decode prog_4_method_8_code 34 = .ok (.istore 6, 2) := by decide +kernel
set_option maxRecDepth 100000 in
theorem c_Fi_judgeInner_36 : ct_Fi_judgeInner 36 = ka_ci (nI 0) 1 := rfl
theorem d_Fi_judgeInner_36 : decode prog_4_method_8_code 36 = .ok (.iconst 0, 1) := by decide +kernel
set_option maxRecDepth 100000 in
theorem c_Fi_judgeInner_37 : ct_Fi_judgeInner 37 = ka_is 7 2 := rfl
theorem d_Fi_judgeInner_37 : decode prog_4_method_8_code 37 = .ok (.istore 7, 2) := by decide +kernel
set_option maxRecDepth 100000 in
theorem c_Fi_judgeInner_39 : ct_Fi_judgeInner 39 = ka_il 7 2 := rfl
theorem d_Fi_judgeInner_39 : decode prog_4_method_8_code 39 = .ok (.iload 7, 2) := by decide +kernel
set_option maxRecDepth 100000 in
theorem c_Fi_judgeInner_41 : ct_Fi_judgeInner 41 = ka_ci (nI 20) 2 := rfl
theorem d_Fi_judgeInner_41 : decode prog_4_method_8_code 41 = .ok (.bipush 20, 2) := by decide +kernel
set_option maxRecDepth 100000 in
theorem c_Fi_judgeInner_43 : ct_Fi_judgeInner 43 = ka_cm (fun x y => y ≤ x) 108 := rfl
theorem d_Fi_judgeInner_43 : decode prog_4_method_8_code 43 = .ok (.if_icmp .ge 65, 3) := by decide +kernel
set_option maxRecDepth 100000 in
theorem c_Fi_judgeInner_46 : ct_Fi_judgeInner 46 = ka_il 6 2 := rfl
theorem d_Fi_judgeInner_46 : decode prog_4_method_8_code 46 = .ok (.iload 6, 2) := by decide +kernel
set_option maxRecDepth 100000 in
theorem c_Fi_judgeInner_48 : ct_Fi_judgeInner 48 = ka_al 0 1 := rfl
theorem d_Fi_judgeInner_48 : decode prog_4_method_8_code 48 = .ok (.aload_n 0, 1) := by decide +kernel
set_option maxRecDepth 100000 in
theorem c_Fi_judgeInner_49 : ct_Fi_judgeInner 49 = ka_get 9 3 := rfl
theorem d_Fi_judgeInner_49 : decode prog_4_method_8_code 49 = .ok (.getfield 22, 3) := by decide +kernel
set_option maxRecDepth 100000 in
theorem c_Fi_judgeInner_52 : ct_Fi_judgeInner 52 = ka_il 1 1 := rfl
theorem d_Fi_judgeInner_52 : decode prog_4_method_8_code 52 = .ok (.iload_n 1, 1) := by decide +kernel
set_option maxRecDepth 100000 in
theorem c_Fi_judgeInner_53 : ct_Fi_judgeInner 53 = ka_iald := rfl
theorem d_Fi_judgeInner_53 : decode prog_4_method_8_code 53 = .ok (.iaload, 1) := by decide +kernel
set_option maxRecDepth 100000 in
theorem c_Fi_judgeInner_54 : ct_Fi_judgeInner 54 = ka_cm (fun x y => y ≤ x) 108 := rfl
theorem d_Fi_judgeInner_54 : decode prog_4_method_8_code 54 = .ok (.if_icmp .ge 54, 3) := by decide +kernel
set_option maxRecDepth 100000 in
theorem c_Fi_judgeInner_57 : ct_Fi_judgeInner 57 = ka_al 0 1 := rfl
theorem d_Fi_judgeInner_57 : decode prog_4_method_8_code 57 = .ok (.aload_n 0, 1) := by decide +kernel
set_option maxRecDepth 100000 in
theorem c_Fi_judgeInner_58 : ct_Fi_judgeInner 58 = ka_il 6 2 := rfl
theorem d_Fi_judgeInner_58 : decode prog_4_method_8_code 58 = .ok (.iload 6, 2) := by decide +kernel
set_option maxRecDepth 100000 in
theorem c_Fi_judgeInner_60 : ct_Fi_judgeInner 60 = ka_al 2 1 := rfl
theorem d_Fi_judgeInner_60 : decode prog_4_method_8_code 60 = .ok (.aload_n 2, 1) := by decide +kernel
set_option maxRecDepth 100000 in
theorem c_Fi_judgeInner_61 : ct_Fi_judgeInner 61 = ka_il 3 1 := rfl
theorem d_Fi_judgeInner_61 : decode prog_4_method_8_code 61 = .ok (.iload_n 3, 1) := by decide +kernel
set_option maxRecDepth 100000 in
theorem c_Fi_judgeInner_62 : ct_Fi_judgeInner 62 = ka_ci (nI 1) 1 := rfl
theorem d_Fi_judgeInner_62 : decode prog_4_method_8_code 62 = .ok (.iconst 1, 1) := by decide +kernel
set_option maxRecDepth 100000 in
theorem c_Fi_judgeInner_63 : ct_Fi_judgeInner 63 = ka_ii (fun x y => x + y) := rfl
theorem d_Fi_judgeInner_63 : decode prog_4_method_8_code 63 = .ok (.iadd, 1) := by decide +kernel
set_option maxRecDepth 100000 in
theorem c_Fi_judgeInner_64 : ct_Fi_judgeInner 64 = ka_cv 93 3 9 0 0 := rfl
theorem d_Fi_judgeInner_64 : decode prog_4_method_8_code 64 = .ok (.invokevirtual 33, 3) := by decide +kernel
set_option maxRecDepth 100000 in
theorem c_Fi_judgeInner_67 : ct_Fi_judgeInner 67 = ka_is 8 2 := rfl
theorem d_Fi_judgeInner_67 : decode prog_4_method_8_code 67 = .ok (.istore 8, 2) := by decide +kernel
set_option maxRecDepth 100000 in
theorem c_Fi_judgeInner_69 : ct_Fi_judgeInner 69 = ka_il 4 2 := rfl
theorem d_Fi_judgeInner_69 : decode prog_4_method_8_code 69 = .ok (.iload 4, 2) := by decide +kernel
set_option maxRecDepth 100000 in
theorem c_Fi_judgeInner_71 : ct_Fi_judgeInner 71 = ka_if (fun x => x = 0) 84 := rfl
theorem d_Fi_judgeInner_71 : decode prog_4_method_8_code 71 = .ok (.ifCond .eq 13, 3) := by decide +kernel
set_option maxRecDepth 100000 in
theorem c_Fi_judgeInner_74 : ct_Fi_judgeInner 74 = ka_il 5 2 := rfl
theorem d_Fi_judgeInner_74 : decode prog_4_method_8_code 74 = .ok (.iload 5, 2) := by decide +kernel
set_option maxRecDepth 100000 in
theorem c_Fi_judgeInner_76 : ct_Fi_judgeInner 76 = ka_il 8 2 := rfl
theorem d_Fi_judgeInner_76 : decode prog_4_method_8_code 76 = .ok (.iload 8, 2) := by decide +kernel
set_option maxRecDepth 100000 in
theorem c_Fi_judgeInner_78 : ct_Fi_judgeInner 78 = ka_min := rfl
theorem d_Fi_judgeInner_78 : decode prog_4_method_8_code 78 = .ok (.invokestatic 83, 3) := by decide +kernel
set_option maxRecDepth 100000 in
theorem c_Fi_judgeInner_81 : ct_Fi_judgeInner 81 = ka_goto 91 := rfl
theorem d_Fi_judgeInner_81 : decode prog_4_method_8_code 81 = .ok (.goto 10, 3) := by decide +kernel
set_option maxRecDepth 100000 in
theorem c_Fi_judgeInner_84 : ct_Fi_judgeInner 84 = ka_il 5 2 := rfl
theorem d_Fi_judgeInner_84 : decode prog_4_method_8_code 84 = .ok (.iload 5, 2) := by decide +kernel
set_option maxRecDepth 100000 in
theorem c_Fi_judgeInner_86 : ct_Fi_judgeInner 86 = ka_il 8 2 := rfl
theorem d_Fi_judgeInner_86 : decode prog_4_method_8_code 86 = .ok (.iload 8, 2) := by decide +kernel
set_option maxRecDepth 100000 in
theorem c_Fi_judgeInner_88 : ct_Fi_judgeInner 88 = ka_max := rfl
theorem d_Fi_judgeInner_88 : decode prog_4_method_8_code 88 = .ok (.invokestatic 89, 3) := by decide +kernel
set_option maxRecDepth 100000 in
theorem c_Fi_judgeInner_91 : ct_Fi_judgeInner 91 = ka_is 5 2 := rfl
theorem d_Fi_judgeInner_91 : decode prog_4_method_8_code 91 = .ok (.istore 5, 2) := by decide +kernel
set_option maxRecDepth 100000 in
theorem c_Fi_judgeInner_93 : ct_Fi_judgeInner 93 = ka_al 0 1 := rfl
theorem d_Fi_judgeInner_93 : decode prog_4_method_8_code 93 = .ok (.aload_n 0, 1) := by decide +kernel
set_option maxRecDepth 100000 in
theorem c_Fi_judgeInner_94 : ct_Fi_judgeInner 94 = ka_get 9 3 := rfl
theorem d_Fi_judgeInner_94 : decode prog_4_method_8_code 94 = .ok (.getfield 22, 3) := by decide +kernel
set_option maxRecDepth 100000 in
theorem c_Fi_judgeInner_97 : ct_Fi_judgeInner 97 = ka_il 6 2 := rfl
theorem d_Fi_judgeInner_97 : decode prog_4_method_8_code 97 = .ok (.iload 6, 2) := by decide +kernel
set_option maxRecDepth 100000 in
theorem c_Fi_judgeInner_99 : ct_Fi_judgeInner 99 = ka_iald := rfl
theorem d_Fi_judgeInner_99 : decode prog_4_method_8_code 99 = .ok (.iaload, 1) := by decide +kernel
set_option maxRecDepth 100000 in
theorem c_Fi_judgeInner_100 : ct_Fi_judgeInner 100 = ka_is 6 2 := rfl
theorem d_Fi_judgeInner_100 : decode prog_4_method_8_code 100 = .ok (.istore 6, 2) := by decide +kernel
set_option maxRecDepth 100000 in
theorem c_Fi_judgeInner_102 : ct_Fi_judgeInner 102 = ka_inc 7 (nI 1) := rfl
theorem d_Fi_judgeInner_102 : decode prog_4_method_8_code 102 = .ok (.iinc 7 1, 3) := by decide +kernel
set_option maxRecDepth 100000 in
theorem c_Fi_judgeInner_105 : ct_Fi_judgeInner 105 = ka_goto 39 := rfl
theorem d_Fi_judgeInner_105 : decode prog_4_method_8_code 105 = .ok (.goto (-66), 3) := by decide +kernel
set_option maxRecDepth 100000 in
theorem c_Fi_judgeInner_108 : ct_Fi_judgeInner 108 = ka_il 5 2 := rfl
theorem d_Fi_judgeInner_108 : decode prog_4_method_8_code 108 = .ok (.iload 5, 2) := by decide +kernel
set_option maxRecDepth 100000 in
theorem c_Fi_judgeInner_110 : ct_Fi_judgeInner 110 = ka_ri := rfl
theorem d_Fi_judgeInner_110 : decode prog_4_method_8_code 110 = .ok (.ireturn, 1) := by decide +kernel
set_option maxRecDepth 100000 in
set_option maxHeartbeats 4000000 in
theorem s_Fi_judgeInner_60 : ∀ pc, pc < 60 → kc_Sim kt kw_A kw_N kt_cl kt_En "DirectoryDesk$Filters" prog_4_method_8_code 9 (some .int) "judgeInner" none pc (ct_Fi_judgeInner pc) := by
  let P : Nat → Prop := fun pc => kc_Sim kt kw_A kw_N kt_cl kt_En "DirectoryDesk$Filters" prog_4_method_8_code 9 (some .int) "judgeInner" none pc (ct_Fi_judgeInner pc)
  exact kc_case (P := P) (kc_se rfl sm_no) (
  kc_case (P := P) (kc_se c_Fi_judgeInner_58 (sm_iload d_Fi_judgeInner_58)) (
  kc_case (P := P) (kc_se c_Fi_judgeInner_57 (sm_aload_n d_Fi_judgeInner_57 rfl)) (
  kc_case (P := P) (kc_se rfl sm_no) (
  kc_case (P := P) (kc_se rfl sm_no) (
  kc_case (P := P) (kc_se c_Fi_judgeInner_54 (sm_cm_ge d_Fi_judgeInner_54 (by decide))) (
  kc_case (P := P) (kc_se c_Fi_judgeInner_53 (sm_iald d_Fi_judgeInner_53)) (
  kc_case (P := P) (kc_se c_Fi_judgeInner_52 (sm_iload_n d_Fi_judgeInner_52 rfl)) (
  kc_case (P := P) (kc_se rfl sm_no) (
  kc_case (P := P) (kc_se rfl sm_no) (
  kc_case (P := P) (kc_se c_Fi_judgeInner_49 (sm_get (ci := 9) (C := "DirectoryDesk$Filters") (F := kF_Fi) rfl kin_Fi (Nat.le_of_ble_eq_true rfl) d_Fi_judgeInner_49 (kw1 225 rfl rfl))) (
  kc_case (P := P) (kc_se c_Fi_judgeInner_48 (sm_aload_n d_Fi_judgeInner_48 rfl)) (
  kc_case (P := P) (kc_se rfl sm_no) (
  kc_case (P := P) (kc_se c_Fi_judgeInner_46 (sm_iload d_Fi_judgeInner_46)) (
  kc_case (P := P) (kc_se rfl sm_no) (
  kc_case (P := P) (kc_se rfl sm_no) (
  kc_case (P := P) (kc_se c_Fi_judgeInner_43 (sm_cm_ge d_Fi_judgeInner_43 (by decide))) (
  kc_case (P := P) (kc_se rfl sm_no) (
  kc_case (P := P) (kc_se c_Fi_judgeInner_41 (sm_bipush d_Fi_judgeInner_41 (by decide))) (
  kc_case (P := P) (kc_se rfl sm_no) (
  kc_case (P := P) (kc_se c_Fi_judgeInner_39 (sm_iload d_Fi_judgeInner_39)) (
  kc_case (P := P) (kc_se rfl sm_no) (
  kc_case (P := P) (kc_se c_Fi_judgeInner_37 (sm_istore d_Fi_judgeInner_37 (Nat.le_of_ble_eq_true rfl))) (
  kc_case (P := P) (kc_se c_Fi_judgeInner_36 (sm_iconst d_Fi_judgeInner_36 (by decide))) (
  kc_case (P := P) (kc_se rfl sm_no) (
  kc_case (P := P) (kc_se c_Fi_judgeInner_34 (sm_istore d_Fi_judgeInner_34 (Nat.le_of_ble_eq_true rfl))) (
  kc_case (P := P) (kc_se c_Fi_judgeInner_33 (sm_iadd d_Fi_judgeInner_33)) (
  kc_case (P := P) (kc_se c_Fi_judgeInner_32 (sm_iconst d_Fi_judgeInner_32 (by decide))) (
  kc_case (P := P) (kc_se c_Fi_judgeInner_31 (sm_iload_n d_Fi_judgeInner_31 rfl)) (
  kc_case (P := P) (kc_se rfl sm_no) (
  kc_case (P := P) (kc_se c_Fi_judgeInner_29 (sm_istore d_Fi_judgeInner_29 (Nat.le_of_ble_eq_true rfl))) (
  kc_case (P := P) (kc_se c_Fi_judgeInner_28 (sm_iconst d_Fi_judgeInner_28 (by decide))) (
  kc_case (P := P) (kc_se rfl sm_no) (
  kc_case (P := P) (kc_se rfl sm_no) (
  kc_case (P := P) (kc_se c_Fi_judgeInner_25 (sm_goto d_Fi_judgeInner_25 (by decide))) (
  kc_case (P := P) (kc_se c_Fi_judgeInner_24 (sm_iconst d_Fi_judgeInner_24 (by decide))) (
  kc_case (P := P) (kc_se rfl sm_no) (
  kc_case (P := P) (kc_se rfl sm_no) (
  kc_case (P := P) (kc_se c_Fi_judgeInner_21 (sm_if_eq d_Fi_judgeInner_21 (by decide))) (
  kc_case (P := P) (kc_se rfl sm_no) (
  kc_case (P := P) (kc_se c_Fi_judgeInner_19 (sm_iload d_Fi_judgeInner_19)) (
  kc_case (P := P) (kc_se rfl sm_no) (
  kc_case (P := P) (kc_se c_Fi_judgeInner_17 (sm_istore d_Fi_judgeInner_17 (Nat.le_of_ble_eq_true rfl))) (
  kc_case (P := P) (kc_se c_Fi_judgeInner_16 (sm_iconst d_Fi_judgeInner_16 (by decide))) (
  kc_case (P := P) (kc_se rfl sm_no) (
  kc_case (P := P) (kc_se rfl sm_no) (
  kc_case (P := P) (kc_se c_Fi_judgeInner_13 (sm_goto d_Fi_judgeInner_13 (by decide))) (
  kc_case (P := P) (kc_se c_Fi_judgeInner_12 (sm_iconst d_Fi_judgeInner_12 (by decide))) (
  kc_case (P := P) (kc_se rfl sm_no) (
  kc_case (P := P) (kc_se rfl sm_no) (
  kc_case (P := P) (kc_se c_Fi_judgeInner_9 (sm_cm_ne d_Fi_judgeInner_9 (by decide))) (
  kc_case (P := P) (kc_se rfl sm_no) (
  kc_case (P := P) (kc_se rfl sm_no) (
  kc_case (P := P) (kc_se c_Fi_judgeInner_6 (sm_sipush d_Fi_judgeInner_6 (by decide))) (
  kc_case (P := P) (kc_se c_Fi_judgeInner_5 (sm_iald d_Fi_judgeInner_5)) (
  kc_case (P := P) (kc_se c_Fi_judgeInner_4 (sm_iload_n d_Fi_judgeInner_4 rfl)) (
  kc_case (P := P) (kc_se rfl sm_no) (
  kc_case (P := P) (kc_se rfl sm_no) (
  kc_case (P := P) (kc_se c_Fi_judgeInner_1 (sm_get (ci := 9) (C := "DirectoryDesk$Filters") (F := kF_Fi) rfl kin_Fi (Nat.le_of_ble_eq_true rfl) d_Fi_judgeInner_1 (kw1 222 rfl rfl))) (
  kc_case (P := P) (kc_se c_Fi_judgeInner_0 (sm_aload_n d_Fi_judgeInner_0 rfl)) (
  kc_case0))))))))))))))))))))))))))))))))))))))))))))))))))))))))))))
set_option maxRecDepth 100000 in
set_option maxHeartbeats 4000000 in
theorem s_Fi_judgeInner_111 : ∀ pc, pc < 111 → kc_Sim kt kw_A kw_N kt_cl kt_En "DirectoryDesk$Filters" prog_4_method_8_code 9 (some .int) "judgeInner" none pc (ct_Fi_judgeInner pc) := by
  let P : Nat → Prop := fun pc => kc_Sim kt kw_A kw_N kt_cl kt_En "DirectoryDesk$Filters" prog_4_method_8_code 9 (some .int) "judgeInner" none pc (ct_Fi_judgeInner pc)
  exact kc_case (P := P) (kc_se c_Fi_judgeInner_110 (sm_ri d_Fi_judgeInner_110 rfl)) (
  kc_case (P := P) (kc_se rfl sm_no) (
  kc_case (P := P) (kc_se c_Fi_judgeInner_108 (sm_iload d_Fi_judgeInner_108)) (
  kc_case (P := P) (kc_se rfl sm_no) (
  kc_case (P := P) (kc_se rfl sm_no) (
  kc_case (P := P) (kc_se c_Fi_judgeInner_105 (sm_goto d_Fi_judgeInner_105 (by decide))) (
  kc_case (P := P) (kc_se rfl sm_no) (
  kc_case (P := P) (kc_se rfl sm_no) (
  kc_case (P := P) (kc_se c_Fi_judgeInner_102 (sm_inc d_Fi_judgeInner_102 (by decide) (Nat.le_of_ble_eq_true rfl))) (
  kc_case (P := P) (kc_se rfl sm_no) (
  kc_case (P := P) (kc_se c_Fi_judgeInner_100 (sm_istore d_Fi_judgeInner_100 (Nat.le_of_ble_eq_true rfl))) (
  kc_case (P := P) (kc_se c_Fi_judgeInner_99 (sm_iald d_Fi_judgeInner_99)) (
  kc_case (P := P) (kc_se rfl sm_no) (
  kc_case (P := P) (kc_se c_Fi_judgeInner_97 (sm_iload d_Fi_judgeInner_97)) (
  kc_case (P := P) (kc_se rfl sm_no) (
  kc_case (P := P) (kc_se rfl sm_no) (
  kc_case (P := P) (kc_se c_Fi_judgeInner_94 (sm_get (ci := 9) (C := "DirectoryDesk$Filters") (F := kF_Fi) rfl kin_Fi (Nat.le_of_ble_eq_true rfl) d_Fi_judgeInner_94 (kw1 225 rfl rfl))) (
  kc_case (P := P) (kc_se c_Fi_judgeInner_93 (sm_aload_n d_Fi_judgeInner_93 rfl)) (
  kc_case (P := P) (kc_se rfl sm_no) (
  kc_case (P := P) (kc_se c_Fi_judgeInner_91 (sm_istore d_Fi_judgeInner_91 (Nat.le_of_ble_eq_true rfl))) (
  kc_case (P := P) (kc_se rfl sm_no) (
  kc_case (P := P) (kc_se rfl sm_no) (
  kc_case (P := P) (kc_se c_Fi_judgeInner_88 (sm_max d_Fi_judgeInner_88 (kw2 221 rfl rfl) (kw2 222 rfl rfl) (kw1 12 rfl rfl) (kw2 223 rfl rfl))) (
  kc_case (P := P) (kc_se rfl sm_no) (
  kc_case (P := P) (kc_se c_Fi_judgeInner_86 (sm_iload d_Fi_judgeInner_86)) (
  kc_case (P := P) (kc_se rfl sm_no) (
  kc_case (P := P) (kc_se c_Fi_judgeInner_84 (sm_iload d_Fi_judgeInner_84)) (
  kc_case (P := P) (kc_se rfl sm_no) (
  kc_case (P := P) (kc_se rfl sm_no) (
  kc_case (P := P) (kc_se c_Fi_judgeInner_81 (sm_goto d_Fi_judgeInner_81 (by decide))) (
  kc_case (P := P) (kc_se rfl sm_no) (
  kc_case (P := P) (kc_se rfl sm_no) (
  kc_case (P := P) (kc_se c_Fi_judgeInner_78 (sm_min d_Fi_judgeInner_78 (kw2 218 rfl rfl) (kw2 219 rfl rfl) (kw1 12 rfl rfl) (kw2 220 rfl rfl))) (
  kc_case (P := P) (kc_se rfl sm_no) (
  kc_case (P := P) (kc_se c_Fi_judgeInner_76 (sm_iload d_Fi_judgeInner_76)) (
  kc_case (P := P) (kc_se rfl sm_no) (
  kc_case (P := P) (kc_se c_Fi_judgeInner_74 (sm_iload d_Fi_judgeInner_74)) (
  kc_case (P := P) (kc_se rfl sm_no) (
  kc_case (P := P) (kc_se rfl sm_no) (
  kc_case (P := P) (kc_se c_Fi_judgeInner_71 (sm_if_eq d_Fi_judgeInner_71 (by decide))) (
  kc_case (P := P) (kc_se rfl sm_no) (
  kc_case (P := P) (kc_se c_Fi_judgeInner_69 (sm_iload d_Fi_judgeInner_69)) (
  kc_case (P := P) (kc_se rfl sm_no) (
  kc_case (P := P) (kc_se c_Fi_judgeInner_67 (sm_istore d_Fi_judgeInner_67 (Nat.le_of_ble_eq_true rfl))) (
  kc_case (P := P) (kc_se rfl sm_no) (
  kc_case (P := P) (kc_se rfl sm_no) (
  kc_case (P := P) (kc_se c_Fi_judgeInner_64 (sm_cv (j := 93) rfl rfl kw_o kw_g wc_Fi_judge (Nat.le_of_ble_eq_true rfl) hd_Fi_judge (ci := 9) (F := kF_Fi) (N := 5) rfl (kw2 210 rfl rfl) wi_Fi_judge ws_Fi_judge wn_Fi_judge d_Fi_judgeInner_64)) (
  kc_case (P := P) (kc_se c_Fi_judgeInner_63 (sm_iadd d_Fi_judgeInner_63)) (
  kc_case (P := P) (kc_se c_Fi_judgeInner_62 (sm_iconst d_Fi_judgeInner_62 (by decide))) (
  kc_case (P := P) (kc_se c_Fi_judgeInner_61 (sm_iload_n d_Fi_judgeInner_61 rfl)) (
  kc_case (P := P) (kc_se c_Fi_judgeInner_60 (sm_aload_n d_Fi_judgeInner_60 rfl)) (
  s_Fi_judgeInner_60)))))))))))))))))))))))))))))))))))))))))))))))))))
set_option maxRecDepth 100000 in
theorem ka_nth_no_Fi_judgeInner (pc : Nat) (h : 111 ≤ pc) : ct_Fi_judgeInner pc = ka_no := ka_nth_ge _ pc (Nat.le_trans (Nat.le_of_eq (by rfl)) h)
theorem s_Fi_judgeInner (pc : Nat) : kc_Sim kt kw_A kw_N kt_cl kt_En "DirectoryDesk$Filters" prog_4_method_8_code 9 (some .int) "judgeInner" none pc (ct_Fi_judgeInner pc) := (Nat.lt_or_ge pc 111).elim (s_Fi_judgeInner_111 pc) (fun h => kc_se (ka_nth_no_Fi_judgeInner pc h) sm_no)
def cl_Fi_judgePair_0 : List kc_A := [ka_al 0 1, ka_get 9 0, ka_no, ka_no, ka_il 1 1, ka_iald, ka_is 3 1, ka_il 3 1, ka_ci (nI 165) 3, ka_no, ka_no, ka_cm (fun x y => x = y) 21, ka_no, ka_no, ka_il 3 1, ka_ci (nI 166) 3, ka_no, ka_no, ka_cm (fun x y => ¬ x = y) 25, ka_no, ka_no, ka_ci (nI 1) 1, ka_goto 26, ka_no, ka_no, ka_ci (nI 0) 1, ka_is 4 2, ka_no, ka_al 0 1, ka_get 9 1, ka_no, ka_no, ka_il 1 1, ka_iald, ka_ci (-1) 1, ka_cm (fun x y => x = y) 74, ka_no, ka_no, ka_il 3 1, ka_ci (nI 135) 3, ka_no, ka_no, ka_cm (fun x y => x = y) 58, ka_no, ka_no, ka_al 0 1, ka_get 9 2, ka_no, ka_no, ka_il 1 1, ka_lald, ka_cl (-1) 3, ka_no, ka_no, ka_lcmp, ka_if (fun x => x = 0) 74, ka_no, ka_no, ka_il 4 2, ka_no]
def cl_Fi_judgePair_1 : List kc_A := [ka_if (fun x => x = 0) 76, ka_no, ka_no, ka_al 0 1, ka_get 9 1, ka_no, ka_no, ka_il 1 1, ka_iald, ka_ci (nI 100) 2, ka_no, ka_cm (fun x y => y ≤ x) 76, ka_no, ka_no, ka_ci (nI 1) 1, ka_ri, ka_il 3 1, ka_ci (nI 163) 3, ka_no, ka_no, ka_cm (fun x y => x = y) 90, ka_no, ka_no, ka_il 3 1, ka_ci (nI 165) 3, ka_no, ka_no, ka_cm (fun x y => ¬ x = y) 99, ka_no, ka_no, ka_al 0 1, ka_get 9 2, ka_no, ka_no, ka_il 1 1, ka_lald, ka_goto 100, ka_no, ka_no, ka_cl 0 1, ka_ls 5 2, ka_no, ka_il 3 1, ka_ci (nI 163) 3, ka_no, ka_no, ka_cm (fun x y => x = y) 116, ka_no, ka_no, ka_il 3 1, ka_ci (nI 166) 3, ka_no, ka_no, ka_cm (fun x y => ¬ x = y) 125, ka_no, ka_no, ka_al 0 1, ka_get 9 2, ka_no, ka_no]
def cl_Fi_judgePair_2 : List kc_A := [ka_il 1 1, ka_lald, ka_goto 128, ka_no, ka_no, ka_cl (9223372036854775807) 3, ka_no, ka_no, ka_ls 7 2, ka_no, ka_al 2 1, ka_al 0 1, ka_get 9 1, ka_no, ka_no, ka_il 1 1, ka_iald, ka_ll 5 2, ka_no, ka_ll 7 2, ka_no, ka_cv 70 3 6 0 0, ka_no, ka_no, ka_if (fun x => x = 0) 151, ka_no, ka_no, ka_ci (nI 2) 1, ka_goto 152, ka_no, ka_no, ka_ci (nI 0) 1, ka_ri]
def ct_Fi_judgePair : Nat → kc_A := fun pc => ka_nth (cl_Fi_judgePair_0 ++ (cl_Fi_judgePair_1 ++ (cl_Fi_judgePair_2))) pc
set_option maxRecDepth 100000 in
theorem c_Fi_judgePair_0 : ct_Fi_judgePair 0 = ka_al 0 1 := rfl
theorem d_Fi_judgePair_0 : decode prog_4_method_9_code 0 = .ok (.aload_n 0, 1) := by decide +kernel
set_option maxRecDepth 100000 in
theorem c_Fi_judgePair_1 : ct_Fi_judgePair 1 = ka_get 9 0 := rfl
theorem d_Fi_judgePair_1 : decode prog_4_method_9_code 1 = .ok (.getfield 9, 3) := by decide +kernel
set_option maxRecDepth 100000 in
theorem c_Fi_judgePair_4 : ct_Fi_judgePair 4 = ka_il 1 1 := rfl
theorem d_Fi_judgePair_4 : decode prog_4_method_9_code 4 = .ok (.iload_n 1, 1) := by decide +kernel
set_option maxRecDepth 100000 in
theorem c_Fi_judgePair_5 : ct_Fi_judgePair 5 = ka_iald := rfl
theorem d_Fi_judgePair_5 : decode prog_4_method_9_code 5 = .ok (.iaload, 1) := by decide +kernel
set_option maxRecDepth 100000 in
theorem c_Fi_judgePair_6 : ct_Fi_judgePair 6 = ka_is 3 1 := rfl
theorem d_Fi_judgePair_6 : decode prog_4_method_9_code 6 = .ok (.istore_n 3, 1) := by decide +kernel
set_option maxRecDepth 100000 in
theorem c_Fi_judgePair_7 : ct_Fi_judgePair 7 = ka_il 3 1 := rfl
theorem d_Fi_judgePair_7 : decode prog_4_method_9_code 7 = .ok (.iload_n 3, 1) := by decide +kernel
set_option maxRecDepth 100000 in
theorem c_Fi_judgePair_8 : ct_Fi_judgePair 8 = ka_ci (nI 165) 3 := rfl
theorem d_Fi_judgePair_8 : decode prog_4_method_9_code 8 = .ok (.sipush 165, 3) := by decide +kernel
set_option maxRecDepth 100000 in
theorem c_Fi_judgePair_11 : ct_Fi_judgePair 11 = ka_cm (fun x y => x = y) 21 := rfl
theorem d_Fi_judgePair_11 : decode prog_4_method_9_code 11 = .ok (.if_icmp .eq 10, 3) := by decide +kernel
set_option maxRecDepth 100000 in
theorem c_Fi_judgePair_14 : ct_Fi_judgePair 14 = ka_il 3 1 := rfl
theorem d_Fi_judgePair_14 : decode prog_4_method_9_code 14 = .ok (.iload_n 3, 1) := by decide +kernel
set_option maxRecDepth 100000 in
theorem c_Fi_judgePair_15 : ct_Fi_judgePair 15 = ka_ci (nI 166) 3 := rfl
theorem d_Fi_judgePair_15 : decode prog_4_method_9_code 15 = .ok (.sipush 166, 3) := by decide +kernel
set_option maxRecDepth 100000 in
theorem c_Fi_judgePair_18 : ct_Fi_judgePair 18 = ka_cm (fun x y => ¬ x = y) 25 := rfl
theorem d_Fi_judgePair_18 : decode prog_4_method_9_code 18 = .ok (.if_icmp .ne 7, 3) := by decide +kernel
set_option maxRecDepth 100000 in
theorem c_Fi_judgePair_21 : ct_Fi_judgePair 21 = ka_ci (nI 1) 1 := rfl
theorem d_Fi_judgePair_21 : decode prog_4_method_9_code 21 = .ok (.iconst 1, 1) := by decide +kernel
set_option maxRecDepth 100000 in
theorem c_Fi_judgePair_22 : ct_Fi_judgePair 22 = ka_goto 26 := rfl
theorem d_Fi_judgePair_22 : decode prog_4_method_9_code 22 = .ok (.goto 4, 3) := by decide +kernel
set_option maxRecDepth 100000 in
theorem c_Fi_judgePair_25 : ct_Fi_judgePair 25 = ka_ci (nI 0) 1 := rfl
theorem d_Fi_judgePair_25 : decode prog_4_method_9_code 25 = .ok (.iconst 0, 1) := by decide +kernel
set_option maxRecDepth 100000 in
theorem c_Fi_judgePair_26 : ct_Fi_judgePair 26 = ka_is 4 2 := rfl
theorem d_Fi_judgePair_26 : decode prog_4_method_9_code 26 = .ok (.istore 4, 2) := by decide +kernel
set_option maxRecDepth 100000 in
theorem c_Fi_judgePair_28 : ct_Fi_judgePair 28 = ka_al 0 1 := rfl
theorem d_Fi_judgePair_28 : decode prog_4_method_9_code 28 = .ok (.aload_n 0, 1) := by decide +kernel
set_option maxRecDepth 100000 in
theorem c_Fi_judgePair_29 : ct_Fi_judgePair 29 = ka_get 9 1 := rfl
theorem d_Fi_judgePair_29 : decode prog_4_method_9_code 29 = .ok (.getfield 15, 3) := by decide +kernel
set_option maxRecDepth 100000 in
theorem c_Fi_judgePair_32 : ct_Fi_judgePair 32 = ka_il 1 1 := rfl
theorem d_Fi_judgePair_32 : decode prog_4_method_9_code 32 = .ok (.iload_n 1, 1) := by decide +kernel
set_option maxRecDepth 100000 in
theorem c_Fi_judgePair_33 : ct_Fi_judgePair 33 = ka_iald := rfl
theorem d_Fi_judgePair_33 : decode prog_4_method_9_code 33 = .ok (.iaload, 1) := by decide +kernel
set_option maxRecDepth 100000 in
theorem c_Fi_judgePair_34 : ct_Fi_judgePair 34 = ka_ci (-1) 1 := rfl
theorem d_Fi_judgePair_34 : decode prog_4_method_9_code 34 = .ok (.iconst (-1), 1) := by decide +kernel
set_option maxRecDepth 100000 in
theorem c_Fi_judgePair_35 : ct_Fi_judgePair 35 = ka_cm (fun x y => x = y) 74 := rfl
theorem d_Fi_judgePair_35 : decode prog_4_method_9_code 35 = .ok (.if_icmp .eq 39, 3) := by decide +kernel
set_option maxRecDepth 100000 in
theorem c_Fi_judgePair_38 : ct_Fi_judgePair 38 = ka_il 3 1 := rfl
theorem d_Fi_judgePair_38 : decode prog_4_method_9_code 38 = .ok (.iload_n 3, 1) := by decide +kernel
set_option maxRecDepth 100000 in
theorem c_Fi_judgePair_39 : ct_Fi_judgePair 39 = ka_ci (nI 135) 3 := rfl
theorem d_Fi_judgePair_39 : decode prog_4_method_9_code 39 = .ok (.sipush 135, 3) := by decide +kernel
set_option maxRecDepth 100000 in
theorem c_Fi_judgePair_42 : ct_Fi_judgePair 42 = ka_cm (fun x y => x = y) 58 := rfl
theorem d_Fi_judgePair_42 : decode prog_4_method_9_code 42 = .ok (.if_icmp .eq 16, 3) := by decide +kernel
set_option maxRecDepth 100000 in
theorem c_Fi_judgePair_45 : ct_Fi_judgePair 45 = ka_al 0 1 := rfl
theorem d_Fi_judgePair_45 : decode prog_4_method_9_code 45 = .ok (.aload_n 0, 1) := by decide +kernel
set_option maxRecDepth 100000 in
theorem c_Fi_judgePair_46 : ct_Fi_judgePair 46 = ka_get 9 2 := rfl
theorem d_Fi_judgePair_46 : decode prog_4_method_9_code 46 = .ok (.getfield 18, 3) := by decide +kernel
set_option maxRecDepth 100000 in
theorem c_Fi_judgePair_49 : ct_Fi_judgePair 49 = ka_il 1 1 := rfl
theorem d_Fi_judgePair_49 : decode prog_4_method_9_code 49 = .ok (.iload_n 1, 1) := by decide +kernel
set_option maxRecDepth 100000 in
theorem c_Fi_judgePair_50 : ct_Fi_judgePair 50 = ka_lald := rfl
theorem d_Fi_judgePair_50 : decode prog_4_method_9_code 50 = .ok (.laload, 1) := by decide +kernel
set_option maxRecDepth 100000 in
theorem c_Fi_judgePair_51 : ct_Fi_judgePair 51 = ka_cl (-1) 3 := rfl
theorem d_Fi_judgePair_51 : decode prog_4_method_9_code 51 = .ok (.ldc2_w 92, 3) := by decide +kernel
set_option maxRecDepth 100000 in
theorem c_Fi_judgePair_54 : ct_Fi_judgePair 54 = ka_lcmp := rfl
theorem d_Fi_judgePair_54 : decode prog_4_method_9_code 54 = .ok (.lcmp, 1) := by decide +kernel
set_option maxRecDepth 100000 in
theorem c_Fi_judgePair_55 : ct_Fi_judgePair 55 = ka_if (fun x => x = 0) 74 := rfl
theorem d_Fi_judgePair_55 : decode prog_4_method_9_code 55 = .ok (.ifCond .eq 19, 3) := by decide +kernel
set_option maxRecDepth 100000 in
theorem c_Fi_judgePair_58 : ct_Fi_judgePair 58 = ka_il 4 2 := rfl
theorem d_Fi_judgePair_58 : decode prog_4_method_9_code 58 = .ok (.iload 4, 2) := by decide +kernel
set_option maxRecDepth 100000 in
theorem c_Fi_judgePair_60 : ct_Fi_judgePair 60 = ka_if (fun x => x = 0) 76 := rfl
theorem d_Fi_judgePair_60 : decode prog_4_method_9_code 60 = .ok (.ifCond .eq 16, 3) := by decide +kernel
set_option maxRecDepth 100000 in
theorem c_Fi_judgePair_63 : ct_Fi_judgePair 63 = ka_al 0 1 := rfl
theorem d_Fi_judgePair_63 : decode prog_4_method_9_code 63 = .ok (.aload_n 0, 1) := by decide +kernel
set_option maxRecDepth 100000 in
theorem c_Fi_judgePair_64 : ct_Fi_judgePair 64 = ka_get 9 1 := rfl
theorem d_Fi_judgePair_64 : decode prog_4_method_9_code 64 = .ok (.getfield 15, 3) := by decide +kernel
set_option maxRecDepth 100000 in
theorem c_Fi_judgePair_67 : ct_Fi_judgePair 67 = ka_il 1 1 := rfl
theorem d_Fi_judgePair_67 : decode prog_4_method_9_code 67 = .ok (.iload_n 1, 1) := by decide +kernel
set_option maxRecDepth 100000 in
theorem c_Fi_judgePair_68 : ct_Fi_judgePair 68 = ka_iald := rfl
theorem d_Fi_judgePair_68 : decode prog_4_method_9_code 68 = .ok (.iaload, 1) := by decide +kernel
set_option maxRecDepth 100000 in
theorem c_Fi_judgePair_69 : ct_Fi_judgePair 69 = ka_ci (nI 100) 2 := rfl
theorem d_Fi_judgePair_69 : decode prog_4_method_9_code 69 = .ok (.bipush 100, 2) := by decide +kernel
set_option maxRecDepth 100000 in
theorem c_Fi_judgePair_71 : ct_Fi_judgePair 71 = ka_cm (fun x y => y ≤ x) 76 := rfl
theorem d_Fi_judgePair_71 : decode prog_4_method_9_code 71 = .ok (.if_icmp .ge 5, 3) := by decide +kernel
set_option maxRecDepth 100000 in
theorem c_Fi_judgePair_74 : ct_Fi_judgePair 74 = ka_ci (nI 1) 1 := rfl
theorem d_Fi_judgePair_74 : decode prog_4_method_9_code 74 = .ok (.iconst 1, 1) := by decide +kernel
set_option maxRecDepth 100000 in
theorem c_Fi_judgePair_75 : ct_Fi_judgePair 75 = ka_ri := rfl
theorem d_Fi_judgePair_75 : decode prog_4_method_9_code 75 = .ok (.ireturn, 1) := by decide +kernel
set_option maxRecDepth 100000 in
theorem c_Fi_judgePair_76 : ct_Fi_judgePair 76 = ka_il 3 1 := rfl
theorem d_Fi_judgePair_76 : decode prog_4_method_9_code 76 = .ok (.iload_n 3, 1) := by decide +kernel
set_option maxRecDepth 100000 in
theorem c_Fi_judgePair_77 : ct_Fi_judgePair 77 = ka_ci (nI 163) 3 := rfl
theorem d_Fi_judgePair_77 : decode prog_4_method_9_code 77 = .ok (.sipush 163, 3) := by decide +kernel
set_option maxRecDepth 100000 in
theorem c_Fi_judgePair_80 : ct_Fi_judgePair 80 = ka_cm (fun x y => x = y) 90 := rfl
theorem d_Fi_judgePair_80 : decode prog_4_method_9_code 80 = .ok (.if_icmp .eq 10, 3) := by decide +kernel
set_option maxRecDepth 100000 in
theorem c_Fi_judgePair_83 : ct_Fi_judgePair 83 = ka_il 3 1 := rfl
theorem d_Fi_judgePair_83 : decode prog_4_method_9_code 83 = .ok (.iload_n 3, 1) := by decide +kernel
set_option maxRecDepth 100000 in
theorem c_Fi_judgePair_84 : ct_Fi_judgePair 84 = ka_ci (nI 165) 3 := rfl
theorem d_Fi_judgePair_84 : decode prog_4_method_9_code 84 = .ok (.sipush 165, 3) := by decide +kernel
set_option maxRecDepth 100000 in
theorem c_Fi_judgePair_87 : ct_Fi_judgePair 87 = ka_cm (fun x y => ¬ x = y) 99 := rfl
theorem d_Fi_judgePair_87 : decode prog_4_method_9_code 87 = .ok (.if_icmp .ne 12, 3) := by decide +kernel
set_option maxRecDepth 100000 in
theorem c_Fi_judgePair_90 : ct_Fi_judgePair 90 = ka_al 0 1 := rfl
theorem d_Fi_judgePair_90 : decode prog_4_method_9_code 90 = .ok (.aload_n 0, 1) := by decide +kernel
set_option maxRecDepth 100000 in
theorem c_Fi_judgePair_91 : ct_Fi_judgePair 91 = ka_get 9 2 := rfl
theorem d_Fi_judgePair_91 : decode prog_4_method_9_code 91 = .ok (.getfield 18, 3) := by decide +kernel
set_option maxRecDepth 100000 in
theorem c_Fi_judgePair_94 : ct_Fi_judgePair 94 = ka_il 1 1 := rfl
theorem d_Fi_judgePair_94 : decode prog_4_method_9_code 94 = .ok (.iload_n 1, 1) := by decide +kernel
set_option maxRecDepth 100000 in
theorem c_Fi_judgePair_95 : ct_Fi_judgePair 95 = ka_lald := rfl
theorem d_Fi_judgePair_95 : decode prog_4_method_9_code 95 = .ok (.laload, 1) := by decide +kernel
set_option maxRecDepth 100000 in
theorem c_Fi_judgePair_96 : ct_Fi_judgePair 96 = ka_goto 100 := rfl
theorem d_Fi_judgePair_96 : decode prog_4_method_9_code 96 = .ok (.goto 4, 3) := by decide +kernel
set_option maxRecDepth 100000 in
theorem c_Fi_judgePair_99 : ct_Fi_judgePair 99 = ka_cl 0 1 := rfl
theorem d_Fi_judgePair_99 : decode prog_4_method_9_code 99 = .ok (.lconst 0, 1) := by decide +kernel
set_option maxRecDepth 100000 in
theorem c_Fi_judgePair_100 : ct_Fi_judgePair 100 = ka_ls 5 2 := rfl
theorem d_Fi_judgePair_100 : decode prog_4_method_9_code 100 = .ok (.lstore 5, 2) := by decide +kernel
set_option maxRecDepth 100000 in
theorem c_Fi_judgePair_102 : ct_Fi_judgePair 102 = ka_il 3 1 := rfl
theorem d_Fi_judgePair_102 : decode prog_4_method_9_code 102 = .ok (.iload_n 3, 1) := by decide +kernel
set_option maxRecDepth 100000 in
theorem c_Fi_judgePair_103 : ct_Fi_judgePair 103 = ka_ci (nI 163) 3 := rfl
theorem d_Fi_judgePair_103 : decode prog_4_method_9_code 103 = .ok (.sipush 163, 3) := by decide +kernel
set_option maxRecDepth 100000 in
theorem c_Fi_judgePair_106 : ct_Fi_judgePair 106 = ka_cm (fun x y => x = y) 116 := rfl
theorem d_Fi_judgePair_106 : decode prog_4_method_9_code 106 = .ok (.if_icmp .eq 10, 3) := by decide +kernel
set_option maxRecDepth 100000 in
theorem c_Fi_judgePair_109 : ct_Fi_judgePair 109 = ka_il 3 1 := rfl
theorem d_Fi_judgePair_109 : decode prog_4_method_9_code 109 = .ok (.iload_n 3, 1) := by decide +kernel
set_option maxRecDepth 100000 in
theorem c_Fi_judgePair_110 : ct_Fi_judgePair 110 = ka_ci (nI 166) 3 := rfl
theorem d_Fi_judgePair_110 : decode prog_4_method_9_code 110 = .ok (.sipush 166, 3) := by decide +kernel
set_option maxRecDepth 100000 in
theorem c_Fi_judgePair_113 : ct_Fi_judgePair 113 = ka_cm (fun x y => ¬ x = y) 125 := rfl
theorem d_Fi_judgePair_113 : decode prog_4_method_9_code 113 = .ok (.if_icmp .ne 12, 3) := by decide +kernel
set_option maxRecDepth 100000 in
theorem c_Fi_judgePair_116 : ct_Fi_judgePair 116 = ka_al 0 1 := rfl
theorem d_Fi_judgePair_116 : decode prog_4_method_9_code 116 = .ok (.aload_n 0, 1) := by decide +kernel
set_option maxRecDepth 100000 in
theorem c_Fi_judgePair_117 : ct_Fi_judgePair 117 = ka_get 9 2 := rfl
theorem d_Fi_judgePair_117 : decode prog_4_method_9_code 117 = .ok (.getfield 18, 3) := by decide +kernel
set_option maxRecDepth 100000 in
theorem c_Fi_judgePair_120 : ct_Fi_judgePair 120 = ka_il 1 1 := rfl
theorem d_Fi_judgePair_120 : decode prog_4_method_9_code 120 = .ok (.iload_n 1, 1) := by decide +kernel
set_option maxRecDepth 100000 in
theorem c_Fi_judgePair_121 : ct_Fi_judgePair 121 = ka_lald := rfl
theorem d_Fi_judgePair_121 : decode prog_4_method_9_code 121 = .ok (.laload, 1) := by decide +kernel
set_option maxRecDepth 100000 in
theorem c_Fi_judgePair_122 : ct_Fi_judgePair 122 = ka_goto 128 := rfl
theorem d_Fi_judgePair_122 : decode prog_4_method_9_code 122 = .ok (.goto 6, 3) := by decide +kernel
set_option maxRecDepth 100000 in
theorem c_Fi_judgePair_125 : ct_Fi_judgePair 125 = ka_cl (9223372036854775807) 3 := rfl
theorem d_Fi_judgePair_125 : decode prog_4_method_9_code 125 = .ok (.ldc2_w 94, 3) := by decide +kernel
set_option maxRecDepth 100000 in
theorem c_Fi_judgePair_128 : ct_Fi_judgePair 128 = ka_ls 7 2 := rfl
theorem d_Fi_judgePair_128 : decode prog_4_method_9_code 128 = .ok (.lstore 7, 2) := by decide +kernel
set_option maxRecDepth 100000 in
theorem c_Fi_judgePair_130 : ct_Fi_judgePair 130 = ka_al 2 1 := rfl
theorem d_Fi_judgePair_130 : decode prog_4_method_9_code 130 = .ok (.aload_n 2, 1) := by decide +kernel
set_option maxRecDepth 100000 in
theorem c_Fi_judgePair_131 : ct_Fi_judgePair 131 = ka_al 0 1 := rfl
theorem d_Fi_judgePair_131 : decode prog_4_method_9_code 131 = .ok (.aload_n 0, 1) := by decide +kernel
set_option maxRecDepth 100000 in
theorem c_Fi_judgePair_132 : ct_Fi_judgePair 132 = ka_get 9 1 := rfl
theorem d_Fi_judgePair_132 : decode prog_4_method_9_code 132 = .ok (.getfield 15, 3) := by decide +kernel
set_option maxRecDepth 100000 in
theorem c_Fi_judgePair_135 : ct_Fi_judgePair 135 = ka_il 1 1 := rfl
theorem d_Fi_judgePair_135 : decode prog_4_method_9_code 135 = .ok (.iload_n 1, 1) := by decide +kernel
set_option maxRecDepth 100000 in
theorem c_Fi_judgePair_136 : ct_Fi_judgePair 136 = ka_iald := rfl
theorem d_Fi_judgePair_136 : decode prog_4_method_9_code 136 = .ok (.iaload, 1) := by decide +kernel
set_option maxRecDepth 100000 in
theorem c_Fi_judgePair_137 : ct_Fi_judgePair 137 = ka_ll 5 2 := rfl
theorem d_Fi_judgePair_137 : decode prog_4_method_9_code 137 = .ok (.lload 5, 2) := by decide +kernel
set_option maxRecDepth 100000 in
theorem c_Fi_judgePair_139 : ct_Fi_judgePair 139 = ka_ll 7 2 := rfl
theorem d_Fi_judgePair_139 : decode prog_4_method_9_code 139 = .ok (.lload 7, 2) := by decide +kernel
set_option maxRecDepth 100000 in
theorem c_Fi_judgePair_141 : ct_Fi_judgePair 141 = ka_cv 70 3 6 0 0 := rfl
theorem d_Fi_judgePair_141 : decode prog_4_method_9_code 141 = .ok (.invokevirtual 96, 3) := by decide +kernel
set_option maxRecDepth 100000 in
theorem c_Fi_judgePair_144 : ct_Fi_judgePair 144 = ka_if (fun x => x = 0) 151 := rfl
theorem d_Fi_judgePair_144 : decode prog_4_method_9_code 144 = .ok (.ifCond .eq 7, 3) := by decide +kernel
set_option maxRecDepth 100000 in
theorem c_Fi_judgePair_147 : ct_Fi_judgePair 147 = ka_ci (nI 2) 1 := rfl
theorem d_Fi_judgePair_147 : decode prog_4_method_9_code 147 = .ok (.iconst 2, 1) := by decide +kernel
set_option maxRecDepth 100000 in
theorem c_Fi_judgePair_148 : ct_Fi_judgePair 148 = ka_goto 152 := rfl
theorem d_Fi_judgePair_148 : decode prog_4_method_9_code 148 = .ok (.goto 4, 3) := by decide +kernel
set_option maxRecDepth 100000 in
theorem c_Fi_judgePair_151 : ct_Fi_judgePair 151 = ka_ci (nI 0) 1 := rfl
theorem d_Fi_judgePair_151 : decode prog_4_method_9_code 151 = .ok (.iconst 0, 1) := by decide +kernel
set_option maxRecDepth 100000 in
theorem c_Fi_judgePair_152 : ct_Fi_judgePair 152 = ka_ri := rfl
theorem d_Fi_judgePair_152 : decode prog_4_method_9_code 152 = .ok (.ireturn, 1) := by decide +kernel
set_option maxRecDepth 100000 in
set_option maxHeartbeats 4000000 in
theorem s_Fi_judgePair_60 : ∀ pc, pc < 60 → kc_Sim kt kw_A kw_N kt_cl kt_En "DirectoryDesk$Filters" prog_4_method_9_code 9 (some .int) "judgePair" none pc (ct_Fi_judgePair pc) := by
  let P : Nat → Prop := fun pc => kc_Sim kt kw_A kw_N kt_cl kt_En "DirectoryDesk$Filters" prog_4_method_9_code 9 (some .int) "judgePair" none pc (ct_Fi_judgePair pc)
  exact kc_case (P := P) (kc_se rfl sm_no) (
  kc_case (P := P) (kc_se c_Fi_judgePair_58 (sm_iload d_Fi_judgePair_58)) (
  kc_case (P := P) (kc_se rfl sm_no) (
  kc_case (P := P) (kc_se rfl sm_no) (
  kc_case (P := P) (kc_se c_Fi_judgePair_55 (sm_if_eq d_Fi_judgePair_55 (by decide))) (
  kc_case (P := P) (kc_se c_Fi_judgePair_54 (sm_lcmp d_Fi_judgePair_54)) (
  kc_case (P := P) (kc_se rfl sm_no) (
  kc_case (P := P) (kc_se rfl sm_no) (
  kc_case (P := P) (kc_se c_Fi_judgePair_51 (sm_ldc2 d_Fi_judgePair_51 (kw2 228 rfl rfl))) (
  kc_case (P := P) (kc_se c_Fi_judgePair_50 (sm_lald d_Fi_judgePair_50)) (
  kc_case (P := P) (kc_se c_Fi_judgePair_49 (sm_iload_n d_Fi_judgePair_49 rfl)) (
  kc_case (P := P) (kc_se rfl sm_no) (
  kc_case (P := P) (kc_se rfl sm_no) (
  kc_case (P := P) (kc_se c_Fi_judgePair_46 (sm_get (ci := 9) (C := "DirectoryDesk$Filters") (F := kF_Fi) rfl kin_Fi (Nat.le_of_ble_eq_true rfl) d_Fi_judgePair_46 (kw1 224 rfl rfl))) (
  kc_case (P := P) (kc_se c_Fi_judgePair_45 (sm_aload_n d_Fi_judgePair_45 rfl)) (
  kc_case (P := P) (kc_se rfl sm_no) (
  kc_case (P := P) (kc_se rfl sm_no) (
  kc_case (P := P) (kc_se c_Fi_judgePair_42 (sm_cm_eq d_Fi_judgePair_42 (by decide))) (
  kc_case (P := P) (kc_se rfl sm_no) (
  kc_case (P := P) (kc_se rfl sm_no) (
  kc_case (P := P) (kc_se c_Fi_judgePair_39 (sm_sipush d_Fi_judgePair_39 (by decide))) (
  kc_case (P := P) (kc_se c_Fi_judgePair_38 (sm_iload_n d_Fi_judgePair_38 rfl)) (
  kc_case (P := P) (kc_se rfl sm_no) (
  kc_case (P := P) (kc_se rfl sm_no) (
  kc_case (P := P) (kc_se c_Fi_judgePair_35 (sm_cm_eq d_Fi_judgePair_35 (by decide))) (
  kc_case (P := P) (kc_se c_Fi_judgePair_34 (sm_iconst d_Fi_judgePair_34 (by decide))) (
  kc_case (P := P) (kc_se c_Fi_judgePair_33 (sm_iald d_Fi_judgePair_33)) (
  kc_case (P := P) (kc_se c_Fi_judgePair_32 (sm_iload_n d_Fi_judgePair_32 rfl)) (
  kc_case (P := P) (kc_se rfl sm_no) (
  kc_case (P := P) (kc_se rfl sm_no) (
  kc_case (P := P) (kc_se c_Fi_judgePair_29 (sm_get (ci := 9) (C := "DirectoryDesk$Filters") (F := kF_Fi) rfl kin_Fi (Nat.le_of_ble_eq_true rfl) d_Fi_judgePair_29 (kw1 223 rfl rfl))) (
  kc_case (P := P) (kc_se c_Fi_judgePair_28 (sm_aload_n d_Fi_judgePair_28 rfl)) (
  kc_case (P := P) (kc_se rfl sm_no) (
  kc_case (P := P) (kc_se c_Fi_judgePair_26 (sm_istore d_Fi_judgePair_26 (Nat.le_of_ble_eq_true rfl))) (
  kc_case (P := P) (kc_se c_Fi_judgePair_25 (sm_iconst d_Fi_judgePair_25 (by decide))) (
  kc_case (P := P) (kc_se rfl sm_no) (
  kc_case (P := P) (kc_se rfl sm_no) (
  kc_case (P := P) (kc_se c_Fi_judgePair_22 (sm_goto d_Fi_judgePair_22 (by decide))) (
  kc_case (P := P) (kc_se c_Fi_judgePair_21 (sm_iconst d_Fi_judgePair_21 (by decide))) (
  kc_case (P := P) (kc_se rfl sm_no) (
  kc_case (P := P) (kc_se rfl sm_no) (
  kc_case (P := P) (kc_se c_Fi_judgePair_18 (sm_cm_ne d_Fi_judgePair_18 (by decide))) (
  kc_case (P := P) (kc_se rfl sm_no) (
  kc_case (P := P) (kc_se rfl sm_no) (
  kc_case (P := P) (kc_se c_Fi_judgePair_15 (sm_sipush d_Fi_judgePair_15 (by decide))) (
  kc_case (P := P) (kc_se c_Fi_judgePair_14 (sm_iload_n d_Fi_judgePair_14 rfl)) (
  kc_case (P := P) (kc_se rfl sm_no) (
  kc_case (P := P) (kc_se rfl sm_no) (
  kc_case (P := P) (kc_se c_Fi_judgePair_11 (sm_cm_eq d_Fi_judgePair_11 (by decide))) (
  kc_case (P := P) (kc_se rfl sm_no) (
  kc_case (P := P) (kc_se rfl sm_no) (
  kc_case (P := P) (kc_se c_Fi_judgePair_8 (sm_sipush d_Fi_judgePair_8 (by decide))) (
  kc_case (P := P) (kc_se c_Fi_judgePair_7 (sm_iload_n d_Fi_judgePair_7 rfl)) (
  kc_case (P := P) (kc_se c_Fi_judgePair_6 (sm_istore_n d_Fi_judgePair_6 rfl (Nat.le_of_ble_eq_true rfl))) (
  kc_case (P := P) (kc_se c_Fi_judgePair_5 (sm_iald d_Fi_judgePair_5)) (
  kc_case (P := P) (kc_se c_Fi_judgePair_4 (sm_iload_n d_Fi_judgePair_4 rfl)) (
  kc_case (P := P) (kc_se rfl sm_no) (
  kc_case (P := P) (kc_se rfl sm_no) (
  kc_case (P := P) (kc_se c_Fi_judgePair_1 (sm_get (ci := 9) (C := "DirectoryDesk$Filters") (F := kF_Fi) rfl kin_Fi (Nat.le_of_ble_eq_true rfl) d_Fi_judgePair_1 (kw1 222 rfl rfl))) (
  kc_case (P := P) (kc_se c_Fi_judgePair_0 (sm_aload_n d_Fi_judgePair_0 rfl)) (
  kc_case0))))))))))))))))))))))))))))))))))))))))))))))))))))))))))))
set_option maxRecDepth 100000 in
set_option maxHeartbeats 4000000 in
theorem s_Fi_judgePair_120 : ∀ pc, pc < 120 → kc_Sim kt kw_A kw_N kt_cl kt_En "DirectoryDesk$Filters" prog_4_method_9_code 9 (some .int) "judgePair" none pc (ct_Fi_judgePair pc) := by
  let P : Nat → Prop := fun pc => kc_Sim kt kw_A kw_N kt_cl kt_En "DirectoryDesk$Filters" prog_4_method_9_code 9 (some .int) "judgePair" none pc (ct_Fi_judgePair pc)
  exact kc_case (P := P) (kc_se rfl sm_no) (
  kc_case (P := P) (kc_se rfl sm_no) (
  kc_case (P := P) (kc_se c_Fi_judgePair_117 (sm_get (ci := 9) (C := "DirectoryDesk$Filters") (F := kF_Fi) rfl kin_Fi (Nat.le_of_ble_eq_true rfl) d_Fi_judgePair_117 (kw1 224 rfl rfl))) (
  kc_case (P := P) (kc_se c_Fi_judgePair_116 (sm_aload_n d_Fi_judgePair_116 rfl)) (
  kc_case (P := P) (kc_se rfl sm_no) (
  kc_case (P := P) (kc_se rfl sm_no) (
  kc_case (P := P) (kc_se c_Fi_judgePair_113 (sm_cm_ne d_Fi_judgePair_113 (by decide))) (
  kc_case (P := P) (kc_se rfl sm_no) (
  kc_case (P := P) (kc_se rfl sm_no) (
  kc_case (P := P) (kc_se c_Fi_judgePair_110 (sm_sipush d_Fi_judgePair_110 (by decide))) (
  kc_case (P := P) (kc_se c_Fi_judgePair_109 (sm_iload_n d_Fi_judgePair_109 rfl)) (
  kc_case (P := P) (kc_se rfl sm_no) (
  kc_case (P := P) (kc_se rfl sm_no) (
  kc_case (P := P) (kc_se c_Fi_judgePair_106 (sm_cm_eq d_Fi_judgePair_106 (by decide))) (
  kc_case (P := P) (kc_se rfl sm_no) (
  kc_case (P := P) (kc_se rfl sm_no) (
  kc_case (P := P) (kc_se c_Fi_judgePair_103 (sm_sipush d_Fi_judgePair_103 (by decide))) (
  kc_case (P := P) (kc_se c_Fi_judgePair_102 (sm_iload_n d_Fi_judgePair_102 rfl)) (
  kc_case (P := P) (kc_se rfl sm_no) (
  kc_case (P := P) (kc_se c_Fi_judgePair_100 (sm_lstore d_Fi_judgePair_100 (Nat.le_of_ble_eq_true rfl))) (
  kc_case (P := P) (kc_se c_Fi_judgePair_99 (sm_lconst d_Fi_judgePair_99 (by decide))) (
  kc_case (P := P) (kc_se rfl sm_no) (
  kc_case (P := P) (kc_se rfl sm_no) (
  kc_case (P := P) (kc_se c_Fi_judgePair_96 (sm_goto d_Fi_judgePair_96 (by decide))) (
  kc_case (P := P) (kc_se c_Fi_judgePair_95 (sm_lald d_Fi_judgePair_95)) (
  kc_case (P := P) (kc_se c_Fi_judgePair_94 (sm_iload_n d_Fi_judgePair_94 rfl)) (
  kc_case (P := P) (kc_se rfl sm_no) (
  kc_case (P := P) (kc_se rfl sm_no) (
  kc_case (P := P) (kc_se c_Fi_judgePair_91 (sm_get (ci := 9) (C := "DirectoryDesk$Filters") (F := kF_Fi) rfl kin_Fi (Nat.le_of_ble_eq_true rfl) d_Fi_judgePair_91 (kw1 224 rfl rfl))) (
  kc_case (P := P) (kc_se c_Fi_judgePair_90 (sm_aload_n d_Fi_judgePair_90 rfl)) (
  kc_case (P := P) (kc_se rfl sm_no) (
  kc_case (P := P) (kc_se rfl sm_no) (
  kc_case (P := P) (kc_se c_Fi_judgePair_87 (sm_cm_ne d_Fi_judgePair_87 (by decide))) (
  kc_case (P := P) (kc_se rfl sm_no) (
  kc_case (P := P) (kc_se rfl sm_no) (
  kc_case (P := P) (kc_se c_Fi_judgePair_84 (sm_sipush d_Fi_judgePair_84 (by decide))) (
  kc_case (P := P) (kc_se c_Fi_judgePair_83 (sm_iload_n d_Fi_judgePair_83 rfl)) (
  kc_case (P := P) (kc_se rfl sm_no) (
  kc_case (P := P) (kc_se rfl sm_no) (
  kc_case (P := P) (kc_se c_Fi_judgePair_80 (sm_cm_eq d_Fi_judgePair_80 (by decide))) (
  kc_case (P := P) (kc_se rfl sm_no) (
  kc_case (P := P) (kc_se rfl sm_no) (
  kc_case (P := P) (kc_se c_Fi_judgePair_77 (sm_sipush d_Fi_judgePair_77 (by decide))) (
  kc_case (P := P) (kc_se c_Fi_judgePair_76 (sm_iload_n d_Fi_judgePair_76 rfl)) (
  kc_case (P := P) (kc_se c_Fi_judgePair_75 (sm_ri d_Fi_judgePair_75 rfl)) (
  kc_case (P := P) (kc_se c_Fi_judgePair_74 (sm_iconst d_Fi_judgePair_74 (by decide))) (
  kc_case (P := P) (kc_se rfl sm_no) (
  kc_case (P := P) (kc_se rfl sm_no) (
  kc_case (P := P) (kc_se c_Fi_judgePair_71 (sm_cm_ge d_Fi_judgePair_71 (by decide))) (
  kc_case (P := P) (kc_se rfl sm_no) (
  kc_case (P := P) (kc_se c_Fi_judgePair_69 (sm_bipush d_Fi_judgePair_69 (by decide))) (
  kc_case (P := P) (kc_se c_Fi_judgePair_68 (sm_iald d_Fi_judgePair_68)) (
  kc_case (P := P) (kc_se c_Fi_judgePair_67 (sm_iload_n d_Fi_judgePair_67 rfl)) (
  kc_case (P := P) (kc_se rfl sm_no) (
  kc_case (P := P) (kc_se rfl sm_no) (
  kc_case (P := P) (kc_se c_Fi_judgePair_64 (sm_get (ci := 9) (C := "DirectoryDesk$Filters") (F := kF_Fi) rfl kin_Fi (Nat.le_of_ble_eq_true rfl) d_Fi_judgePair_64 (kw1 223 rfl rfl))) (
  kc_case (P := P) (kc_se c_Fi_judgePair_63 (sm_aload_n d_Fi_judgePair_63 rfl)) (
  kc_case (P := P) (kc_se rfl sm_no) (
  kc_case (P := P) (kc_se rfl sm_no) (
  kc_case (P := P) (kc_se c_Fi_judgePair_60 (sm_if_eq d_Fi_judgePair_60 (by decide))) (
  s_Fi_judgePair_60))))))))))))))))))))))))))))))))))))))))))))))))))))))))))))
set_option maxRecDepth 100000 in
set_option maxHeartbeats 4000000 in
theorem s_Fi_judgePair_153 : ∀ pc, pc < 153 → kc_Sim kt kw_A kw_N kt_cl kt_En "DirectoryDesk$Filters" prog_4_method_9_code 9 (some .int) "judgePair" none pc (ct_Fi_judgePair pc) := by
  let P : Nat → Prop := fun pc => kc_Sim kt kw_A kw_N kt_cl kt_En "DirectoryDesk$Filters" prog_4_method_9_code 9 (some .int) "judgePair" none pc (ct_Fi_judgePair pc)
  exact kc_case (P := P) (kc_se c_Fi_judgePair_152 (sm_ri d_Fi_judgePair_152 rfl)) (
  kc_case (P := P) (kc_se c_Fi_judgePair_151 (sm_iconst d_Fi_judgePair_151 (by decide))) (
  kc_case (P := P) (kc_se rfl sm_no) (
  kc_case (P := P) (kc_se rfl sm_no) (
  kc_case (P := P) (kc_se c_Fi_judgePair_148 (sm_goto d_Fi_judgePair_148 (by decide))) (
  kc_case (P := P) (kc_se c_Fi_judgePair_147 (sm_iconst d_Fi_judgePair_147 (by decide))) (
  kc_case (P := P) (kc_se rfl sm_no) (
  kc_case (P := P) (kc_se rfl sm_no) (
  kc_case (P := P) (kc_se c_Fi_judgePair_144 (sm_if_eq d_Fi_judgePair_144 (by decide))) (
  kc_case (P := P) (kc_se rfl sm_no) (
  kc_case (P := P) (kc_se rfl sm_no) (
  kc_case (P := P) (kc_se c_Fi_judgePair_141 (sm_cv (j := 70) rfl rfl kw_o kw_g wc_Pa_hasBetween (Nat.le_of_ble_eq_true rfl) hd_Pa_hasBetween (ci := 6) (F := kF_Pa) (N := 3) rfl (kw2 230 rfl rfl) wi_Pa_hasBetween ws_Pa_hasBetween wn_Pa_hasBetween d_Fi_judgePair_141)) (
  kc_case (P := P) (kc_se rfl sm_no) (
  kc_case (P := P) (kc_se c_Fi_judgePair_139 (sm_lload d_Fi_judgePair_139)) (
  kc_case (P := P) (kc_se rfl sm_no) (
  kc_case (P := P) (kc_se c_Fi_judgePair_137 (sm_lload d_Fi_judgePair_137)) (
  kc_case (P := P) (kc_se c_Fi_judgePair_136 (sm_iald d_Fi_judgePair_136)) (
  kc_case (P := P) (kc_se c_Fi_judgePair_135 (sm_iload_n d_Fi_judgePair_135 rfl)) (
  kc_case (P := P) (kc_se rfl sm_no) (
  kc_case (P := P) (kc_se rfl sm_no) (
  kc_case (P := P) (kc_se c_Fi_judgePair_132 (sm_get (ci := 9) (C := "DirectoryDesk$Filters") (F := kF_Fi) rfl kin_Fi (Nat.le_of_ble_eq_true rfl) d_Fi_judgePair_132 (kw1 223 rfl rfl))) (
  kc_case (P := P) (kc_se c_Fi_judgePair_131 (sm_aload_n d_Fi_judgePair_131 rfl)) (
  kc_case (P := P) (kc_se c_Fi_judgePair_130 (sm_aload_n d_Fi_judgePair_130 rfl)) (
  kc_case (P := P) (kc_se rfl sm_no) (
  kc_case (P := P) (kc_se c_Fi_judgePair_128 (sm_lstore d_Fi_judgePair_128 (Nat.le_of_ble_eq_true rfl))) (
  kc_case (P := P) (kc_se rfl sm_no) (
  kc_case (P := P) (kc_se rfl sm_no) (
  kc_case (P := P) (kc_se c_Fi_judgePair_125 (sm_ldc2 d_Fi_judgePair_125 (kw2 229 rfl rfl))) (
  kc_case (P := P) (kc_se rfl sm_no) (
  kc_case (P := P) (kc_se rfl sm_no) (
  kc_case (P := P) (kc_se c_Fi_judgePair_122 (sm_goto d_Fi_judgePair_122 (by decide))) (
  kc_case (P := P) (kc_se c_Fi_judgePair_121 (sm_lald d_Fi_judgePair_121)) (
  kc_case (P := P) (kc_se c_Fi_judgePair_120 (sm_iload_n d_Fi_judgePair_120 rfl)) (
  s_Fi_judgePair_120)))))))))))))))))))))))))))))))))
set_option maxRecDepth 100000 in
theorem ka_nth_no_Fi_judgePair (pc : Nat) (h : 153 ≤ pc) : ct_Fi_judgePair pc = ka_no := ka_nth_ge _ pc (Nat.le_trans (Nat.le_of_eq (by rfl)) h)
theorem s_Fi_judgePair (pc : Nat) : kc_Sim kt kw_A kw_N kt_cl kt_En "DirectoryDesk$Filters" prog_4_method_9_code 9 (some .int) "judgePair" none pc (ct_Fi_judgePair pc) := (Nat.lt_or_ge pc 153).elim (s_Fi_judgePair_153 pc) (fun h => kc_se (ka_nth_no_Fi_judgePair pc h) sm_no)
def cl_Md_init_0 : List kc_A := [ka_al 0 1, ka_obj, ka_no, ka_no, ka_al 0 1, ka_ci (nI 200) 3, ka_no, ka_no, ka_newi, ka_no, ka_put 10 2 (.array .int), ka_no, ka_no, ka_al 0 1, ka_ci (nI 480) 3, ka_no, ka_no, ka_newi, ka_no, ka_put 10 4 (.array .int), ka_no, ka_no, ka_al 0 1, ka_ci (nI 16) 2, ka_no, ka_newi, ka_no, ka_put 10 7 (.array .int), ka_no, ka_no, ka_al 0 1, ka_ci (nI 64) 2, ka_no, ka_newi, ka_no, ka_put 10 8 (.array .int), ka_no, ka_no, ka_al 0 1, ka_ci (nI 64) 2, ka_no, ka_newl, ka_no, ka_put 10 9 (.array .long), ka_no, ka_no, ka_al 0 1, ka_ci (nI 16) 2, ka_no, ka_newi, ka_no, ka_put 10 10 (.array .int), ka_no, ka_no, ka_al 0 1, ka_ci (nI 96) 2, ka_no, ka_newi, ka_no, ka_put 10 11 (.array .int)]
def cl_Md_init_1 : List kc_A := [ka_no, ka_no, ka_al 0 1, ka_ci (nI 96) 2, ka_no, ka_newl, ka_no, ka_put 10 12 (.array .long), ka_no, ka_no, ka_al 0 1, ka_ci (nI 4) 1, ka_newi, ka_no, ka_put 10 21 (.array .int), ka_no, ka_no, ka_al 0 1, ka_ci (nI 4) 1, ka_newl, ka_no, ka_put 10 22 (.array .long), ka_no, ka_no, ka_al 0 1, ka_ci (nI 12) 2, ka_no, ka_newi, ka_no, ka_put 10 34 (.array .int), ka_no, ka_no, ka_al 0 1, ka_ci (nI 12) 2, ka_no, ka_newi, ka_no, ka_put 10 35 (.array .int), ka_no, ka_no, ka_al 0 1, ka_ci (nI 12) 2, ka_no, ka_newi, ka_no, ka_put 10 36 (.array .int), ka_no, ka_no, ka_al 0 1, ka_ci (nI 12) 2, ka_no, ka_newi, ka_no, ka_put 10 37 (.array .int), ka_no, ka_no, ka_al 0 1, ka_ci (nI 24) 2, ka_no, ka_newl]
def cl_Md_init_2 : List kc_A := [ka_no, ka_put 10 39 (.array .long), ka_no, ka_no, ka_al 0 1, ka_ci (nI 20) 2, ka_no, ka_newi, ka_no, ka_put 10 41 (.array .int), ka_no, ka_no, ka_al 0 1, ka_ci (nI 20) 2, ka_no, ka_newi, ka_no, ka_put 10 42 (.array .int), ka_no, ka_no, ka_al 0 1, ka_ci (nI 20) 2, ka_no, ka_newi, ka_no, ka_put 10 43 (.array .int), ka_no, ka_no, ka_al 0 1, ka_ci (nI 20) 2, ka_no, ka_newl, ka_no, ka_put 10 44 (.array .long), ka_no, ka_no, ka_al 0 1, ka_ci (nI 20) 2, ka_no, ka_newi, ka_no, ka_put 10 45 (.array .int), ka_no, ka_no, ka_al 0 1, ka_ci (nI 6) 2, ka_no, ka_newi, ka_no, ka_put 10 47 (.array .int), ka_no, ka_no, ka_al 0 1, ka_ci (nI 6) 2, ka_no, ka_newi, ka_no, ka_put 10 48 (.array .int), ka_no, ka_no]
def cl_Md_init_3 : List kc_A := [ka_al 0 1, ka_ci (nI 32) 2, ka_no, ka_newi, ka_no, ka_put 10 50 (.array .int), ka_no, ka_no, ka_al 0 1, ka_ci (nI 32) 2, ka_no, ka_newl, ka_no, ka_put 10 51 (.array .long), ka_no, ka_no, ka_al 0 1, ka_ci (nI 1) 1, ka_put 10 6 .int, ka_no, ka_no, ka_al 0 1, ka_get 10 7, ka_no, ka_no, ka_ci (nI 0) 1, ka_ci (nI 1) 1, ka_iast, ka_al 0 1, ka_get 10 8, ka_no, ka_no, ka_ci (nI 0) 1, ka_ci (nI 97) 2, ka_no, ka_iast, ka_al 0 1, ka_get 10 9, ka_no, ka_no, ka_ci (nI 0) 1, ka_cl (8214565720323784704) 3, ka_no, ka_no, ka_last, ka_al 0 1, ka_get 10 10, ka_no, ka_no, ka_ci (nI 0) 1, ka_ci (nI 2) 1, ka_iast, ka_al 0 1, ka_get 10 11, ka_no, ka_no, ka_ci (nI 0) 1, ka_ci (nI 97) 2, ka_no, ka_iast]
def cl_Md_init_4 : List kc_A := [ka_al 0 1, ka_get 10 12, ka_no, ka_no, ka_ci (nI 0) 1, ka_cl (8214565720323784704) 3, ka_no, ka_no, ka_last, ka_al 0 1, ka_get 10 11, ka_no, ka_no, ka_ci (nI 1) 1, ka_ci (nI 102) 2, ka_no, ka_iast, ka_al 0 1, ka_get 10 12, ka_no, ka_no, ka_ci (nI 1) 1, ka_cl (8646911284551352320) 3, ka_no, ka_no, ka_last, ka_ret]
def ct_Md_init : Nat → kc_A := fun pc => ka_nth (cl_Md_init_0 ++ (cl_Md_init_1 ++ (cl_Md_init_2 ++ (cl_Md_init_3 ++ (cl_Md_init_4))))) pc
set_option maxRecDepth 100000 in
theorem c_Md_init_0 : ct_Md_init 0 = ka_al 0 1 := rfl
theorem d_Md_init_0 : decode prog_12_method_1_code 0 = .ok (.aload_n 0, 1) := by decide +kernel
set_option maxRecDepth 100000 in
theorem c_Md_init_1 : ct_Md_init 1 = ka_obj := rfl
theorem d_Md_init_1 : decode prog_12_method_1_code 1 = .ok (.invokespecial 1, 3) := by decide +kernel
set_option maxRecDepth 100000 in
theorem c_Md_init_4 : ct_Md_init 4 = ka_al 0 1 := rfl
theorem d_Md_init_4 : decode prog_12_method_1_code 4 = .ok (.aload_n 0, 1) := by decide +kernel
set_option maxRecDepth 100000 in
theorem c_Md_init_5 : ct_Md_init 5 = ka_ci (nI 200) 3 := rfl
theorem d_Md_init_5 : decode prog_12_method_1_code 5 = .ok (.sipush 200, 3) := by decide +kernel
set_option maxRecDepth 100000 in
theorem c_Md_init_8 : ct_Md_init 8 = ka_newi := rfl
theorem d_Md_init_8 : decode prog_12_method_1_code 8 = .ok (.newarray .int, 2) := by decide +kernel
set_option maxRecDepth 100000 in
theorem c_Md_init_10 : ct_Md_init 10 = ka_put 10 2 (.array .int) := rfl
theorem d_Md_init_10 : decode prog_12_method_1_code 10 = .ok (.putfield 7, 3) := by decide +kernel
set_option maxRecDepth 100000 in
theorem c_Md_init_13 : ct_Md_init 13 = ka_al 0 1 := rfl
theorem d_Md_init_13 : decode prog_12_method_1_code 13 = .ok (.aload_n 0, 1) := by decide +kernel
set_option maxRecDepth 100000 in
theorem c_Md_init_14 : ct_Md_init 14 = ka_ci (nI 480) 3 := rfl
theorem d_Md_init_14 : decode prog_12_method_1_code 14 = .ok (.sipush 480, 3) := by decide +kernel
set_option maxRecDepth 100000 in
theorem c_Md_init_17 : ct_Md_init 17 = ka_newi := rfl
theorem d_Md_init_17 : decode prog_12_method_1_code 17 = .ok (.newarray .int, 2) := by decide +kernel
set_option maxRecDepth 100000 in
theorem c_Md_init_19 : ct_Md_init 19 = ka_put 10 4 (.array .int) := rfl
theorem d_Md_init_19 : decode prog_12_method_1_code 19 = .ok (.putfield 13, 3) := by decide +kernel
set_option maxRecDepth 100000 in
theorem c_Md_init_22 : ct_Md_init 22 = ka_al 0 1 := rfl
theorem d_Md_init_22 : decode prog_12_method_1_code 22 = .ok (.aload_n 0, 1) := by decide +kernel
set_option maxRecDepth 100000 in
theorem c_Md_init_23 : ct_Md_init 23 = ka_ci (nI 16) 2 := rfl
theorem d_Md_init_23 : decode prog_12_method_1_code 23 = .ok (.bipush 16, 2) := by decide +kernel
set_option maxRecDepth 100000 in
theorem c_Md_init_25 : ct_Md_init 25 = ka_newi := rfl
theorem d_Md_init_25 : decode prog_12_method_1_code 25 = .ok (.newarray .int, 2) := by decide +kernel
set_option maxRecDepth 100000 in
theorem c_Md_init_27 : ct_Md_init 27 = ka_put 10 7 (.array .int) := rfl
theorem d_Md_init_27 : decode prog_12_method_1_code 27 = .ok (.putfield 16, 3) := by decide +kernel
set_option maxRecDepth 100000 in
theorem c_Md_init_30 : ct_Md_init 30 = ka_al 0 1 := rfl
theorem d_Md_init_30 : decode prog_12_method_1_code 30 = .ok (.aload_n 0, 1) := by decide +kernel
set_option maxRecDepth 100000 in
theorem c_Md_init_31 : ct_Md_init 31 = ka_ci (nI 64) 2 := rfl
theorem d_Md_init_31 : decode prog_12_method_1_code 31 = .ok (.bipush 64, 2) := by decide +kernel
set_option maxRecDepth 100000 in
theorem c_Md_init_33 : ct_Md_init 33 = ka_newi := rfl
theorem d_Md_init_33 : decode prog_12_method_1_code 33 = .ok (.newarray .int, 2) := by decide +kernel
set_option maxRecDepth 100000 in
theorem c_Md_init_35 : ct_Md_init 35 = ka_put 10 8 (.array .int) := rfl
theorem d_Md_init_35 : decode prog_12_method_1_code 35 = .ok (.putfield 19, 3) := by decide +kernel
set_option maxRecDepth 100000 in
theorem c_Md_init_38 : ct_Md_init 38 = ka_al 0 1 := rfl
theorem d_Md_init_38 : decode prog_12_method_1_code 38 = .ok (.aload_n 0, 1) := by decide +kernel
set_option maxRecDepth 100000 in
theorem c_Md_init_39 : ct_Md_init 39 = ka_ci (nI 64) 2 := rfl
theorem d_Md_init_39 : decode prog_12_method_1_code 39 = .ok (.bipush 64, 2) := by decide +kernel
set_option maxRecDepth 100000 in
theorem c_Md_init_41 : ct_Md_init 41 = ka_newl := rfl
theorem d_Md_init_41 : decode prog_12_method_1_code 41 = .ok (.newarray .long, 2) := by decide +kernel
set_option maxRecDepth 100000 in
theorem c_Md_init_43 : ct_Md_init 43 = ka_put 10 9 (.array .long) := rfl
theorem d_Md_init_43 : decode prog_12_method_1_code 43 = .ok (.putfield 22, 3) := by decide +kernel
set_option maxRecDepth 100000 in
theorem c_Md_init_46 : ct_Md_init 46 = ka_al 0 1 := rfl
theorem d_Md_init_46 : decode prog_12_method_1_code 46 = .ok (.aload_n 0, 1) := by decide +kernel
set_option maxRecDepth 100000 in
theorem c_Md_init_47 : ct_Md_init 47 = ka_ci (nI 16) 2 := rfl
theorem d_Md_init_47 : decode prog_12_method_1_code 47 = .ok (.bipush 16, 2) := by decide +kernel
set_option maxRecDepth 100000 in
theorem c_Md_init_49 : ct_Md_init 49 = ka_newi := rfl
theorem d_Md_init_49 : decode prog_12_method_1_code 49 = .ok (.newarray .int, 2) := by decide +kernel
set_option maxRecDepth 100000 in
theorem c_Md_init_51 : ct_Md_init 51 = ka_put 10 10 (.array .int) := rfl
theorem d_Md_init_51 : decode prog_12_method_1_code 51 = .ok (.putfield 26, 3) := by decide +kernel
set_option maxRecDepth 100000 in
theorem c_Md_init_54 : ct_Md_init 54 = ka_al 0 1 := rfl
theorem d_Md_init_54 : decode prog_12_method_1_code 54 = .ok (.aload_n 0, 1) := by decide +kernel
set_option maxRecDepth 100000 in
theorem c_Md_init_55 : ct_Md_init 55 = ka_ci (nI 96) 2 := rfl
theorem d_Md_init_55 : decode prog_12_method_1_code 55 = .ok (.bipush 96, 2) := by decide +kernel
set_option maxRecDepth 100000 in
theorem c_Md_init_57 : ct_Md_init 57 = ka_newi := rfl
theorem d_Md_init_57 : decode prog_12_method_1_code 57 = .ok (.newarray .int, 2) := by decide +kernel
set_option maxRecDepth 100000 in
theorem c_Md_init_59 : ct_Md_init 59 = ka_put 10 11 (.array .int) := rfl
theorem d_Md_init_59 : decode prog_12_method_1_code 59 = .ok (.putfield 29, 3) := by decide +kernel
set_option maxRecDepth 100000 in
theorem c_Md_init_62 : ct_Md_init 62 = ka_al 0 1 := rfl
theorem d_Md_init_62 : decode prog_12_method_1_code 62 = .ok (.aload_n 0, 1) := by decide +kernel
set_option maxRecDepth 100000 in
theorem c_Md_init_63 : ct_Md_init 63 = ka_ci (nI 96) 2 := rfl
theorem d_Md_init_63 : decode prog_12_method_1_code 63 = .ok (.bipush 96, 2) := by decide +kernel
set_option maxRecDepth 100000 in
theorem c_Md_init_65 : ct_Md_init 65 = ka_newl := rfl
theorem d_Md_init_65 : decode prog_12_method_1_code 65 = .ok (.newarray .long, 2) := by decide +kernel
set_option maxRecDepth 100000 in
theorem c_Md_init_67 : ct_Md_init 67 = ka_put 10 12 (.array .long) := rfl
theorem d_Md_init_67 : decode prog_12_method_1_code 67 = .ok (.putfield 32, 3) := by decide +kernel
set_option maxRecDepth 100000 in
theorem c_Md_init_70 : ct_Md_init 70 = ka_al 0 1 := rfl
theorem d_Md_init_70 : decode prog_12_method_1_code 70 = .ok (.aload_n 0, 1) := by decide +kernel
set_option maxRecDepth 100000 in
theorem c_Md_init_71 : ct_Md_init 71 = ka_ci (nI 4) 1 := rfl
theorem d_Md_init_71 : decode prog_12_method_1_code 71 = .ok (.iconst 4, 1) := by decide +kernel
set_option maxRecDepth 100000 in
theorem c_Md_init_72 : ct_Md_init 72 = ka_newi := rfl
theorem d_Md_init_72 : decode prog_12_method_1_code 72 = .ok (.newarray .int, 2) := by decide +kernel
set_option maxRecDepth 100000 in
theorem c_Md_init_74 : ct_Md_init 74 = ka_put 10 21 (.array .int) := rfl
theorem d_Md_init_74 : decode prog_12_method_1_code 74 = .ok (.putfield 35, 3) := by decide +kernel
set_option maxRecDepth 100000 in
theorem c_Md_init_77 : ct_Md_init 77 = ka_al 0 1 := rfl
theorem d_Md_init_77 : decode prog_12_method_1_code 77 = .ok (.aload_n 0, 1) := by decide +kernel
set_option maxRecDepth 100000 in
theorem c_Md_init_78 : ct_Md_init 78 = ka_ci (nI 4) 1 := rfl
theorem d_Md_init_78 : decode prog_12_method_1_code 78 = .ok (.iconst 4, 1) := by decide +kernel
set_option maxRecDepth 100000 in
theorem c_Md_init_79 : ct_Md_init 79 = ka_newl := rfl
theorem d_Md_init_79 : decode prog_12_method_1_code 79 = .ok (.newarray .long, 2) := by decide +kernel
set_option maxRecDepth 100000 in
theorem c_Md_init_81 : ct_Md_init 81 = ka_put 10 22 (.array .long) := rfl
theorem d_Md_init_81 : decode prog_12_method_1_code 81 = .ok (.putfield 38, 3) := by decide +kernel
set_option maxRecDepth 100000 in
theorem c_Md_init_84 : ct_Md_init 84 = ka_al 0 1 := rfl
theorem d_Md_init_84 : decode prog_12_method_1_code 84 = .ok (.aload_n 0, 1) := by decide +kernel
set_option maxRecDepth 100000 in
theorem c_Md_init_85 : ct_Md_init 85 = ka_ci (nI 12) 2 := rfl
theorem d_Md_init_85 : decode prog_12_method_1_code 85 = .ok (.bipush 12, 2) := by decide +kernel
set_option maxRecDepth 100000 in
theorem c_Md_init_87 : ct_Md_init 87 = ka_newi := rfl
theorem d_Md_init_87 : decode prog_12_method_1_code 87 = .ok (.newarray .int, 2) := by decide +kernel
set_option maxRecDepth 100000 in
theorem c_Md_init_89 : ct_Md_init 89 = ka_put 10 34 (.array .int) := rfl
theorem d_Md_init_89 : decode prog_12_method_1_code 89 = .ok (.putfield 41, 3) := by decide +kernel
set_option maxRecDepth 100000 in
theorem c_Md_init_92 : ct_Md_init 92 = ka_al 0 1 := rfl
theorem d_Md_init_92 : decode prog_12_method_1_code 92 = .ok (.aload_n 0, 1) := by decide +kernel
set_option maxRecDepth 100000 in
theorem c_Md_init_93 : ct_Md_init 93 = ka_ci (nI 12) 2 := rfl
theorem d_Md_init_93 : decode prog_12_method_1_code 93 = .ok (.bipush 12, 2) := by decide +kernel
set_option maxRecDepth 100000 in
theorem c_Md_init_95 : ct_Md_init 95 = ka_newi := rfl
theorem d_Md_init_95 : decode prog_12_method_1_code 95 = .ok (.newarray .int, 2) := by decide +kernel
set_option maxRecDepth 100000 in
theorem c_Md_init_97 : ct_Md_init 97 = ka_put 10 35 (.array .int) := rfl
theorem d_Md_init_97 : decode prog_12_method_1_code 97 = .ok (.putfield 44, 3) := by decide +kernel
set_option maxRecDepth 100000 in
theorem c_Md_init_100 : ct_Md_init 100 = ka_al 0 1 := rfl
theorem d_Md_init_100 : decode prog_12_method_1_code 100 = .ok (.aload_n 0, 1) := by decide +kernel
set_option maxRecDepth 100000 in
theorem c_Md_init_101 : ct_Md_init 101 = ka_ci (nI 12) 2 := rfl
theorem d_Md_init_101 : decode prog_12_method_1_code 101 = .ok (.bipush 12, 2) := by decide +kernel
set_option maxRecDepth 100000 in
theorem c_Md_init_103 : ct_Md_init 103 = ka_newi := rfl
theorem d_Md_init_103 : decode prog_12_method_1_code 103 = .ok (.newarray .int, 2) := by decide +kernel
set_option maxRecDepth 100000 in
theorem c_Md_init_105 : ct_Md_init 105 = ka_put 10 36 (.array .int) := rfl
theorem d_Md_init_105 : decode prog_12_method_1_code 105 = .ok (.putfield 47, 3) := by decide +kernel
set_option maxRecDepth 100000 in
theorem c_Md_init_108 : ct_Md_init 108 = ka_al 0 1 := rfl
theorem d_Md_init_108 : decode prog_12_method_1_code 108 = .ok (.aload_n 0, 1) := by decide +kernel
set_option maxRecDepth 100000 in
theorem c_Md_init_109 : ct_Md_init 109 = ka_ci (nI 12) 2 := rfl
theorem d_Md_init_109 : decode prog_12_method_1_code 109 = .ok (.bipush 12, 2) := by decide +kernel
set_option maxRecDepth 100000 in
theorem c_Md_init_111 : ct_Md_init 111 = ka_newi := rfl
theorem d_Md_init_111 : decode prog_12_method_1_code 111 = .ok (.newarray .int, 2) := by decide +kernel
set_option maxRecDepth 100000 in
theorem c_Md_init_113 : ct_Md_init 113 = ka_put 10 37 (.array .int) := rfl
theorem d_Md_init_113 : decode prog_12_method_1_code 113 = .ok (.putfield 50, 3) := by decide +kernel
set_option maxRecDepth 100000 in
theorem c_Md_init_116 : ct_Md_init 116 = ka_al 0 1 := rfl
theorem d_Md_init_116 : decode prog_12_method_1_code 116 = .ok (.aload_n 0, 1) := by decide +kernel
set_option maxRecDepth 100000 in
theorem c_Md_init_117 : ct_Md_init 117 = ka_ci (nI 24) 2 := rfl
theorem d_Md_init_117 : decode prog_12_method_1_code 117 = .ok (.bipush 24, 2) := by decide +kernel
set_option maxRecDepth 100000 in
theorem c_Md_init_119 : ct_Md_init 119 = ka_newl := rfl
theorem d_Md_init_119 : decode prog_12_method_1_code 119 = .ok (.newarray .long, 2) := by decide +kernel
set_option maxRecDepth 100000 in
theorem c_Md_init_121 : ct_Md_init 121 = ka_put 10 39 (.array .long) := rfl
theorem d_Md_init_121 : decode prog_12_method_1_code 121 = .ok (.putfield 53, 3) := by decide +kernel
set_option maxRecDepth 100000 in
theorem c_Md_init_124 : ct_Md_init 124 = ka_al 0 1 := rfl
theorem d_Md_init_124 : decode prog_12_method_1_code 124 = .ok (.aload_n 0, 1) := by decide +kernel
set_option maxRecDepth 100000 in
theorem c_Md_init_125 : ct_Md_init 125 = ka_ci (nI 20) 2 := rfl
theorem d_Md_init_125 : decode prog_12_method_1_code 125 = .ok (.bipush 20, 2) := by decide +kernel
set_option maxRecDepth 100000 in
theorem c_Md_init_127 : ct_Md_init 127 = ka_newi := rfl
theorem d_Md_init_127 : decode prog_12_method_1_code 127 = .ok (.newarray .int, 2) := by decide +kernel
set_option maxRecDepth 100000 in
theorem c_Md_init_129 : ct_Md_init 129 = ka_put 10 41 (.array .int) := rfl
theorem d_Md_init_129 : decode prog_12_method_1_code 129 = .ok (.putfield 56, 3) := by decide +kernel
set_option maxRecDepth 100000 in
theorem c_Md_init_132 : ct_Md_init 132 = ka_al 0 1 := rfl
theorem d_Md_init_132 : decode prog_12_method_1_code 132 = .ok (.aload_n 0, 1) := by decide +kernel
set_option maxRecDepth 100000 in
theorem c_Md_init_133 : ct_Md_init 133 = ka_ci (nI 20) 2 := rfl
theorem d_Md_init_133 : decode prog_12_method_1_code 133 = .ok (.bipush 20, 2) := by decide +kernel
set_option maxRecDepth 100000 in
theorem c_Md_init_135 : ct_Md_init 135 = ka_newi := rfl
theorem d_Md_init_135 : decode prog_12_method_1_code 135 = .ok (.newarray .int, 2) := by decide +kernel
set_option maxRecDepth 100000 in
theorem c_Md_init_137 : ct_Md_init 137 = ka_put 10 42 (.array .int) := rfl
theorem d_Md_init_137 : decode prog_12_method_1_code 137 = .ok (.putfield 59, 3) := by decide +kernel
set_option maxRecDepth 100000 in
theorem c_Md_init_140 : ct_Md_init 140 = ka_al 0 1 := rfl
theorem d_Md_init_140 : decode prog_12_method_1_code 140 = .ok (.aload_n 0, 1) := by decide +kernel
set_option maxRecDepth 100000 in
theorem c_Md_init_141 : ct_Md_init 141 = ka_ci (nI 20) 2 := rfl
theorem d_Md_init_141 : decode prog_12_method_1_code 141 = .ok (.bipush 20, 2) := by decide +kernel
set_option maxRecDepth 100000 in
theorem c_Md_init_143 : ct_Md_init 143 = ka_newi := rfl
theorem d_Md_init_143 : decode prog_12_method_1_code 143 = .ok (.newarray .int, 2) := by decide +kernel
set_option maxRecDepth 100000 in
theorem c_Md_init_145 : ct_Md_init 145 = ka_put 10 43 (.array .int) := rfl
theorem d_Md_init_145 : decode prog_12_method_1_code 145 = .ok (.putfield 62, 3) := by decide +kernel
set_option maxRecDepth 100000 in
theorem c_Md_init_148 : ct_Md_init 148 = ka_al 0 1 := rfl
theorem d_Md_init_148 : decode prog_12_method_1_code 148 = .ok (.aload_n 0, 1) := by decide +kernel
set_option maxRecDepth 100000 in
theorem c_Md_init_149 : ct_Md_init 149 = ka_ci (nI 20) 2 := rfl
theorem d_Md_init_149 : decode prog_12_method_1_code 149 = .ok (.bipush 20, 2) := by decide +kernel
set_option maxRecDepth 100000 in
theorem c_Md_init_151 : ct_Md_init 151 = ka_newl := rfl
theorem d_Md_init_151 : decode prog_12_method_1_code 151 = .ok (.newarray .long, 2) := by decide +kernel
set_option maxRecDepth 100000 in
theorem c_Md_init_153 : ct_Md_init 153 = ka_put 10 44 (.array .long) := rfl
theorem d_Md_init_153 : decode prog_12_method_1_code 153 = .ok (.putfield 65, 3) := by decide +kernel
set_option maxRecDepth 100000 in
theorem c_Md_init_156 : ct_Md_init 156 = ka_al 0 1 := rfl
theorem d_Md_init_156 : decode prog_12_method_1_code 156 = .ok (.aload_n 0, 1) := by decide +kernel
set_option maxRecDepth 100000 in
theorem c_Md_init_157 : ct_Md_init 157 = ka_ci (nI 20) 2 := rfl
theorem d_Md_init_157 : decode prog_12_method_1_code 157 = .ok (.bipush 20, 2) := by decide +kernel
set_option maxRecDepth 100000 in
theorem c_Md_init_159 : ct_Md_init 159 = ka_newi := rfl
theorem d_Md_init_159 : decode prog_12_method_1_code 159 = .ok (.newarray .int, 2) := by decide +kernel
set_option maxRecDepth 100000 in
theorem c_Md_init_161 : ct_Md_init 161 = ka_put 10 45 (.array .int) := rfl
theorem d_Md_init_161 : decode prog_12_method_1_code 161 = .ok (.putfield 68, 3) := by decide +kernel
set_option maxRecDepth 100000 in
theorem c_Md_init_164 : ct_Md_init 164 = ka_al 0 1 := rfl
theorem d_Md_init_164 : decode prog_12_method_1_code 164 = .ok (.aload_n 0, 1) := by decide +kernel
set_option maxRecDepth 100000 in
theorem c_Md_init_165 : ct_Md_init 165 = ka_ci (nI 6) 2 := rfl
theorem d_Md_init_165 : decode prog_12_method_1_code 165 = .ok (.bipush 6, 2) := by decide +kernel
set_option maxRecDepth 100000 in
theorem c_Md_init_167 : ct_Md_init 167 = ka_newi := rfl
theorem d_Md_init_167 : decode prog_12_method_1_code 167 = .ok (.newarray .int, 2) := by decide +kernel
set_option maxRecDepth 100000 in
theorem c_Md_init_169 : ct_Md_init 169 = ka_put 10 47 (.array .int) := rfl
theorem d_Md_init_169 : decode prog_12_method_1_code 169 = .ok (.putfield 71, 3) := by decide +kernel
set_option maxRecDepth 100000 in
theorem c_Md_init_172 : ct_Md_init 172 = ka_al 0 1 := rfl
theorem d_Md_init_172 : decode prog_12_method_1_code 172 = .ok (.aload_n 0, 1) := by decide +kernel
set_option maxRecDepth 100000 in
theorem c_Md_init_173 : ct_Md_init 173 = ka_ci (nI 6) 2 := rfl
theorem d_Md_init_173 : decode prog_12_method_1_code 173 = .ok (.bipush 6, 2) := by decide +kernel
set_option maxRecDepth 100000 in
theorem c_Md_init_175 : ct_Md_init 175 = ka_newi := rfl
theorem d_Md_init_175 : decode prog_12_method_1_code 175 = .ok (.newarray .int, 2) := by decide +kernel
set_option maxRecDepth 100000 in
theorem c_Md_init_177 : ct_Md_init 177 = ka_put 10 48 (.array .int) := rfl
theorem d_Md_init_177 : decode prog_12_method_1_code 177 = .ok (.putfield 74, 3) := by decide +kernel
set_option maxRecDepth 100000 in
theorem c_Md_init_180 : ct_Md_init 180 = ka_al 0 1 := rfl
theorem d_Md_init_180 : decode prog_12_method_1_code 180 = .ok (.aload_n 0, 1) := by decide +kernel
set_option maxRecDepth 100000 in
theorem c_Md_init_181 : ct_Md_init 181 = ka_ci (nI 32) 2 := rfl
theorem d_Md_init_181 : decode prog_12_method_1_code 181 = .ok (.bipush 32, 2) := by decide +kernel
set_option maxRecDepth 100000 in
theorem c_Md_init_183 : ct_Md_init 183 = ka_newi := rfl
theorem d_Md_init_183 : decode prog_12_method_1_code 183 = .ok (.newarray .int, 2) := by decide +kernel
set_option maxRecDepth 100000 in
theorem c_Md_init_185 : ct_Md_init 185 = ka_put 10 50 (.array .int) := rfl
theorem d_Md_init_185 : decode prog_12_method_1_code 185 = .ok (.putfield 77, 3) := by decide +kernel
set_option maxRecDepth 100000 in
theorem c_Md_init_188 : ct_Md_init 188 = ka_al 0 1 := rfl
theorem d_Md_init_188 : decode prog_12_method_1_code 188 = .ok (.aload_n 0, 1) := by decide +kernel
set_option maxRecDepth 100000 in
theorem c_Md_init_189 : ct_Md_init 189 = ka_ci (nI 32) 2 := rfl
theorem d_Md_init_189 : decode prog_12_method_1_code 189 = .ok (.bipush 32, 2) := by decide +kernel
set_option maxRecDepth 100000 in
theorem c_Md_init_191 : ct_Md_init 191 = ka_newl := rfl
theorem d_Md_init_191 : decode prog_12_method_1_code 191 = .ok (.newarray .long, 2) := by decide +kernel
set_option maxRecDepth 100000 in
theorem c_Md_init_193 : ct_Md_init 193 = ka_put 10 51 (.array .long) := rfl
theorem d_Md_init_193 : decode prog_12_method_1_code 193 = .ok (.putfield 80, 3) := by decide +kernel
set_option maxRecDepth 100000 in
theorem c_Md_init_196 : ct_Md_init 196 = ka_al 0 1 := rfl
theorem d_Md_init_196 : decode prog_12_method_1_code 196 = .ok (.aload_n 0, 1) := by decide +kernel
set_option maxRecDepth 100000 in
theorem c_Md_init_197 : ct_Md_init 197 = ka_ci (nI 1) 1 := rfl
theorem d_Md_init_197 : decode prog_12_method_1_code 197 = .ok (.iconst 1, 1) := by decide +kernel
set_option maxRecDepth 100000 in
theorem c_Md_init_198 : ct_Md_init 198 = ka_put 10 6 .int := rfl
theorem d_Md_init_198 : decode prog_12_method_1_code 198 = .ok (.putfield 83, 3) := by decide +kernel
set_option maxRecDepth 100000 in
theorem c_Md_init_201 : ct_Md_init 201 = ka_al 0 1 := rfl
theorem d_Md_init_201 : decode prog_12_method_1_code 201 = .ok (.aload_n 0, 1) := by decide +kernel
set_option maxRecDepth 100000 in
theorem c_Md_init_202 : ct_Md_init 202 = ka_get 10 7 := rfl
theorem d_Md_init_202 : decode prog_12_method_1_code 202 = .ok (.getfield 16, 3) := by decide +kernel
set_option maxRecDepth 100000 in
theorem c_Md_init_205 : ct_Md_init 205 = ka_ci (nI 0) 1 := rfl
theorem d_Md_init_205 : decode prog_12_method_1_code 205 = .ok (.iconst 0, 1) := by decide +kernel
set_option maxRecDepth 100000 in
theorem c_Md_init_206 : ct_Md_init 206 = ka_ci (nI 1) 1 := rfl
theorem d_Md_init_206 : decode prog_12_method_1_code 206 = .ok (.iconst 1, 1) := by decide +kernel
set_option maxRecDepth 100000 in
theorem c_Md_init_207 : ct_Md_init 207 = ka_iast := rfl
theorem d_Md_init_207 : decode prog_12_method_1_code 207 = .ok (.iastore, 1) := by decide +kernel
set_option maxRecDepth 100000 in
theorem c_Md_init_208 : ct_Md_init 208 = ka_al 0 1 := rfl
theorem d_Md_init_208 : decode prog_12_method_1_code 208 = .ok (.aload_n 0, 1) := by decide +kernel
set_option maxRecDepth 100000 in
theorem c_Md_init_209 : ct_Md_init 209 = ka_get 10 8 := rfl
theorem d_Md_init_209 : decode prog_12_method_1_code 209 = .ok (.getfield 19, 3) := by decide +kernel
set_option maxRecDepth 100000 in
theorem c_Md_init_212 : ct_Md_init 212 = ka_ci (nI 0) 1 := rfl
theorem d_Md_init_212 : decode prog_12_method_1_code 212 = .ok (.iconst 0, 1) := by decide +kernel
set_option maxRecDepth 100000 in
theorem c_Md_init_213 : ct_Md_init 213 = ka_ci (nI 97) 2 := rfl
theorem d_Md_init_213 : decode prog_12_method_1_code 213 = .ok (.bipush 97, 2) := by decide +kernel
set_option maxRecDepth 100000 in
theorem c_Md_init_215 : ct_Md_init 215 = ka_iast := rfl
theorem d_Md_init_215 : decode prog_12_method_1_code 215 = .ok (.iastore, 1) := by decide +kernel
set_option maxRecDepth 100000 in
theorem c_Md_init_216 : ct_Md_init 216 = ka_al 0 1 := rfl
theorem d_Md_init_216 : decode prog_12_method_1_code 216 = .ok (.aload_n 0, 1) := by decide +kernel
set_option maxRecDepth 100000 in
theorem c_Md_init_217 : ct_Md_init 217 = ka_get 10 9 := rfl
theorem d_Md_init_217 : decode prog_12_method_1_code 217 = .ok (.getfield 22, 3) := by decide +kernel
set_option maxRecDepth 100000 in
theorem c_Md_init_220 : ct_Md_init 220 = ka_ci (nI 0) 1 := rfl
theorem d_Md_init_220 : decode prog_12_method_1_code 220 = .ok (.iconst 0, 1) := by decide +kernel
set_option maxRecDepth 100000 in
theorem c_Md_init_221 : ct_Md_init 221 = ka_cl (8214565720323784704) 3 := rfl
theorem d_Md_init_221 : decode prog_12_method_1_code 221 = .ok (.ldc2_w 87, 3) := by decide +kernel
set_option maxRecDepth 100000 in
theorem c_Md_init_224 : ct_Md_init 224 = ka_last := rfl
theorem d_Md_init_224 : decode prog_12_method_1_code 224 = .ok (.lastore, 1) := by decide +kernel
set_option maxRecDepth 100000 in
theorem c_Md_init_225 : ct_Md_init 225 = ka_al 0 1 := rfl
theorem d_Md_init_225 : decode prog_12_method_1_code 225 = .ok (.aload_n 0, 1) := by decide +kernel
set_option maxRecDepth 100000 in
theorem c_Md_init_226 : ct_Md_init 226 = ka_get 10 10 := rfl
theorem d_Md_init_226 : decode prog_12_method_1_code 226 = .ok (.getfield 26, 3) := by decide +kernel
set_option maxRecDepth 100000 in
theorem c_Md_init_229 : ct_Md_init 229 = ka_ci (nI 0) 1 := rfl
theorem d_Md_init_229 : decode prog_12_method_1_code 229 = .ok (.iconst 0, 1) := by decide +kernel
set_option maxRecDepth 100000 in
theorem c_Md_init_230 : ct_Md_init 230 = ka_ci (nI 2) 1 := rfl
theorem d_Md_init_230 : decode prog_12_method_1_code 230 = .ok (.iconst 2, 1) := by decide +kernel
set_option maxRecDepth 100000 in
theorem c_Md_init_231 : ct_Md_init 231 = ka_iast := rfl
theorem d_Md_init_231 : decode prog_12_method_1_code 231 = .ok (.iastore, 1) := by decide +kernel
set_option maxRecDepth 100000 in
theorem c_Md_init_232 : ct_Md_init 232 = ka_al 0 1 := rfl
theorem d_Md_init_232 : decode prog_12_method_1_code 232 = .ok (.aload_n 0, 1) := by decide +kernel
set_option maxRecDepth 100000 in
theorem c_Md_init_233 : ct_Md_init 233 = ka_get 10 11 := rfl
theorem d_Md_init_233 : decode prog_12_method_1_code 233 = .ok (.getfield 29, 3) := by decide +kernel
set_option maxRecDepth 100000 in
theorem c_Md_init_236 : ct_Md_init 236 = ka_ci (nI 0) 1 := rfl
theorem d_Md_init_236 : decode prog_12_method_1_code 236 = .ok (.iconst 0, 1) := by decide +kernel
set_option maxRecDepth 100000 in
theorem c_Md_init_237 : ct_Md_init 237 = ka_ci (nI 97) 2 := rfl
theorem d_Md_init_237 : decode prog_12_method_1_code 237 = .ok (.bipush 97, 2) := by decide +kernel
set_option maxRecDepth 100000 in
theorem c_Md_init_239 : ct_Md_init 239 = ka_iast := rfl
theorem d_Md_init_239 : decode prog_12_method_1_code 239 = .ok (.iastore, 1) := by decide +kernel
set_option maxRecDepth 100000 in
theorem c_Md_init_240 : ct_Md_init 240 = ka_al 0 1 := rfl
theorem d_Md_init_240 : decode prog_12_method_1_code 240 = .ok (.aload_n 0, 1) := by decide +kernel
set_option maxRecDepth 100000 in
theorem c_Md_init_241 : ct_Md_init 241 = ka_get 10 12 := rfl
theorem d_Md_init_241 : decode prog_12_method_1_code 241 = .ok (.getfield 32, 3) := by decide +kernel
set_option maxRecDepth 100000 in
theorem c_Md_init_244 : ct_Md_init 244 = ka_ci (nI 0) 1 := rfl
theorem d_Md_init_244 : decode prog_12_method_1_code 244 = .ok (.iconst 0, 1) := by decide +kernel
set_option maxRecDepth 100000 in
theorem c_Md_init_245 : ct_Md_init 245 = ka_cl (8214565720323784704) 3 := rfl
theorem d_Md_init_245 : decode prog_12_method_1_code 245 = .ok (.ldc2_w 87, 3) := by decide +kernel
set_option maxRecDepth 100000 in
theorem c_Md_init_248 : ct_Md_init 248 = ka_last := rfl
theorem d_Md_init_248 : decode prog_12_method_1_code 248 = .ok (.lastore, 1) := by decide +kernel
set_option maxRecDepth 100000 in
theorem c_Md_init_249 : ct_Md_init 249 = ka_al 0 1 := rfl
theorem d_Md_init_249 : decode prog_12_method_1_code 249 = .ok (.aload_n 0, 1) := by decide +kernel
set_option maxRecDepth 100000 in
theorem c_Md_init_250 : ct_Md_init 250 = ka_get 10 11 := rfl
theorem d_Md_init_250 : decode prog_12_method_1_code 250 = .ok (.getfield 29, 3) := by decide +kernel
set_option maxRecDepth 100000 in
theorem c_Md_init_253 : ct_Md_init 253 = ka_ci (nI 1) 1 := rfl
theorem d_Md_init_253 : decode prog_12_method_1_code 253 = .ok (.iconst 1, 1) := by decide +kernel
set_option maxRecDepth 100000 in
theorem c_Md_init_254 : ct_Md_init 254 = ka_ci (nI 102) 2 := rfl
theorem d_Md_init_254 : decode prog_12_method_1_code 254 = .ok (.bipush 102, 2) := by decide +kernel
set_option maxRecDepth 100000 in
theorem c_Md_init_256 : ct_Md_init 256 = ka_iast := rfl
theorem d_Md_init_256 : decode prog_12_method_1_code 256 = .ok (.iastore, 1) := by decide +kernel
set_option maxRecDepth 100000 in
theorem c_Md_init_257 : ct_Md_init 257 = ka_al 0 1 := rfl
theorem d_Md_init_257 : decode prog_12_method_1_code 257 = .ok (.aload_n 0, 1) := by decide +kernel
set_option maxRecDepth 100000 in
theorem c_Md_init_258 : ct_Md_init 258 = ka_get 10 12 := rfl
theorem d_Md_init_258 : decode prog_12_method_1_code 258 = .ok (.getfield 32, 3) := by decide +kernel
set_option maxRecDepth 100000 in
theorem c_Md_init_261 : ct_Md_init 261 = ka_ci (nI 1) 1 := rfl
theorem d_Md_init_261 : decode prog_12_method_1_code 261 = .ok (.iconst 1, 1) := by decide +kernel
set_option maxRecDepth 100000 in
theorem c_Md_init_262 : ct_Md_init 262 = ka_cl (8646911284551352320) 3 := rfl
theorem d_Md_init_262 : decode prog_12_method_1_code 262 = .ok (.ldc2_w 89, 3) := by decide +kernel
set_option maxRecDepth 100000 in
theorem c_Md_init_265 : ct_Md_init 265 = ka_last := rfl
theorem d_Md_init_265 : decode prog_12_method_1_code 265 = .ok (.lastore, 1) := by decide +kernel
set_option maxRecDepth 100000 in
theorem c_Md_init_266 : ct_Md_init 266 = ka_ret := rfl
theorem d_Md_init_266 : decode prog_12_method_1_code 266 = .ok (.return_, 1) := by decide +kernel
set_option maxRecDepth 100000 in
set_option maxHeartbeats 4000000 in
theorem s_Md_init_60 : ∀ pc, pc < 60 → kc_Sim kt kw_A kw_N kt_cl kt_En "DirectoryDeskModel" prog_12_method_1_code 1 (none) "<init>" none pc (ct_Md_init pc) := by
  let P : Nat → Prop := fun pc => kc_Sim kt kw_A kw_N kt_cl kt_En "DirectoryDeskModel" prog_12_method_1_code 1 (none) "<init>" none pc (ct_Md_init pc)
  exact kc_case (P := P) (kc_se c_Md_init_59 (sm_putF (ci := 10) (C := "DirectoryDeskModel") (F := kF_Md) rfl kin_Md kty_Md ktk_Md knm_Md (Nat.le_of_ble_eq_true rfl) (by decide +kernel) d_Md_init_59 (kw3 194 rfl rfl) rfl rfl rfl)) (
  kc_case (P := P) (kc_se rfl sm_no) (
  kc_case (P := P) (kc_se c_Md_init_57 (sm_newi rfl d_Md_init_57 (kw1 62 rfl rfl))) (
  kc_case (P := P) (kc_se rfl sm_no) (
  kc_case (P := P) (kc_se c_Md_init_55 (sm_bipush d_Md_init_55 (by decide))) (
  kc_case (P := P) (kc_se c_Md_init_54 (sm_aload_n d_Md_init_54 rfl)) (
  kc_case (P := P) (kc_se rfl sm_no) (
  kc_case (P := P) (kc_se rfl sm_no) (
  kc_case (P := P) (kc_se c_Md_init_51 (sm_putF (ci := 10) (C := "DirectoryDeskModel") (F := kF_Md) rfl kin_Md kty_Md ktk_Md knm_Md (Nat.le_of_ble_eq_true rfl) (by decide +kernel) d_Md_init_51 (kw3 193 rfl rfl) rfl rfl rfl)) (
  kc_case (P := P) (kc_se rfl sm_no) (
  kc_case (P := P) (kc_se c_Md_init_49 (sm_newi rfl d_Md_init_49 (kw1 62 rfl rfl))) (
  kc_case (P := P) (kc_se rfl sm_no) (
  kc_case (P := P) (kc_se c_Md_init_47 (sm_bipush d_Md_init_47 (by decide))) (
  kc_case (P := P) (kc_se c_Md_init_46 (sm_aload_n d_Md_init_46 rfl)) (
  kc_case (P := P) (kc_se rfl sm_no) (
  kc_case (P := P) (kc_se rfl sm_no) (
  kc_case (P := P) (kc_se c_Md_init_43 (sm_putF (ci := 10) (C := "DirectoryDeskModel") (F := kF_Md) rfl kin_Md kty_Md ktk_Md knm_Md (Nat.le_of_ble_eq_true rfl) (by decide +kernel) d_Md_init_43 (kw3 192 rfl rfl) rfl rfl rfl)) (
  kc_case (P := P) (kc_se rfl sm_no) (
  kc_case (P := P) (kc_se c_Md_init_41 (sm_newl rfl d_Md_init_41 (kw1 115 rfl rfl))) (
  kc_case (P := P) (kc_se rfl sm_no) (
  kc_case (P := P) (kc_se c_Md_init_39 (sm_bipush d_Md_init_39 (by decide))) (
  kc_case (P := P) (kc_se c_Md_init_38 (sm_aload_n d_Md_init_38 rfl)) (
  kc_case (P := P) (kc_se rfl sm_no) (
  kc_case (P := P) (kc_se rfl sm_no) (
  kc_case (P := P) (kc_se c_Md_init_35 (sm_putF (ci := 10) (C := "DirectoryDeskModel") (F := kF_Md) rfl kin_Md kty_Md ktk_Md knm_Md (Nat.le_of_ble_eq_true rfl) (by decide +kernel) d_Md_init_35 (kw3 191 rfl rfl) rfl rfl rfl)) (
  kc_case (P := P) (kc_se rfl sm_no) (
  kc_case (P := P) (kc_se c_Md_init_33 (sm_newi rfl d_Md_init_33 (kw1 62 rfl rfl))) (
  kc_case (P := P) (kc_se rfl sm_no) (
  kc_case (P := P) (kc_se c_Md_init_31 (sm_bipush d_Md_init_31 (by decide))) (
  kc_case (P := P) (kc_se c_Md_init_30 (sm_aload_n d_Md_init_30 rfl)) (
  kc_case (P := P) (kc_se rfl sm_no) (
  kc_case (P := P) (kc_se rfl sm_no) (
  kc_case (P := P) (kc_se c_Md_init_27 (sm_putF (ci := 10) (C := "DirectoryDeskModel") (F := kF_Md) rfl kin_Md kty_Md ktk_Md knm_Md (Nat.le_of_ble_eq_true rfl) (by decide +kernel) d_Md_init_27 (kw3 190 rfl rfl) rfl rfl rfl)) (
  kc_case (P := P) (kc_se rfl sm_no) (
  kc_case (P := P) (kc_se c_Md_init_25 (sm_newi rfl d_Md_init_25 (kw1 62 rfl rfl))) (
  kc_case (P := P) (kc_se rfl sm_no) (
  kc_case (P := P) (kc_se c_Md_init_23 (sm_bipush d_Md_init_23 (by decide))) (
  kc_case (P := P) (kc_se c_Md_init_22 (sm_aload_n d_Md_init_22 rfl)) (
  kc_case (P := P) (kc_se rfl sm_no) (
  kc_case (P := P) (kc_se rfl sm_no) (
  kc_case (P := P) (kc_se c_Md_init_19 (sm_putF (ci := 10) (C := "DirectoryDeskModel") (F := kF_Md) rfl kin_Md kty_Md ktk_Md knm_Md (Nat.le_of_ble_eq_true rfl) (by decide +kernel) d_Md_init_19 (kw3 187 rfl rfl) rfl rfl rfl)) (
  kc_case (P := P) (kc_se rfl sm_no) (
  kc_case (P := P) (kc_se c_Md_init_17 (sm_newi rfl d_Md_init_17 (kw1 62 rfl rfl))) (
  kc_case (P := P) (kc_se rfl sm_no) (
  kc_case (P := P) (kc_se rfl sm_no) (
  kc_case (P := P) (kc_se c_Md_init_14 (sm_sipush d_Md_init_14 (by decide))) (
  kc_case (P := P) (kc_se c_Md_init_13 (sm_aload_n d_Md_init_13 rfl)) (
  kc_case (P := P) (kc_se rfl sm_no) (
  kc_case (P := P) (kc_se rfl sm_no) (
  kc_case (P := P) (kc_se c_Md_init_10 (sm_putF (ci := 10) (C := "DirectoryDeskModel") (F := kF_Md) rfl kin_Md kty_Md ktk_Md knm_Md (Nat.le_of_ble_eq_true rfl) (by decide +kernel) d_Md_init_10 (kw3 185 rfl rfl) rfl rfl rfl)) (
  kc_case (P := P) (kc_se rfl sm_no) (
  kc_case (P := P) (kc_se c_Md_init_8 (sm_newi rfl d_Md_init_8 (kw1 62 rfl rfl))) (
  kc_case (P := P) (kc_se rfl sm_no) (
  kc_case (P := P) (kc_se rfl sm_no) (
  kc_case (P := P) (kc_se c_Md_init_5 (sm_sipush d_Md_init_5 (by decide))) (
  kc_case (P := P) (kc_se c_Md_init_4 (sm_aload_n d_Md_init_4 rfl)) (
  kc_case (P := P) (kc_se rfl sm_no) (
  kc_case (P := P) (kc_se rfl sm_no) (
  kc_case (P := P) (kc_se c_Md_init_1 (sm_obj d_Md_init_1 (kw3 180 rfl rfl) (kw1 20 rfl rfl) (kw1 21 rfl rfl))) (
  kc_case (P := P) (kc_se c_Md_init_0 (sm_aload_n d_Md_init_0 rfl)) (
  kc_case0))))))))))))))))))))))))))))))))))))))))))))))))))))))))))))
set_option maxRecDepth 100000 in
set_option maxHeartbeats 4000000 in
theorem s_Md_init_120 : ∀ pc, pc < 120 → kc_Sim kt kw_A kw_N kt_cl kt_En "DirectoryDeskModel" prog_12_method_1_code 1 (none) "<init>" none pc (ct_Md_init pc) := by
  let P : Nat → Prop := fun pc => kc_Sim kt kw_A kw_N kt_cl kt_En "DirectoryDeskModel" prog_12_method_1_code 1 (none) "<init>" none pc (ct_Md_init pc)
  exact kc_case (P := P) (kc_se c_Md_init_119 (sm_newl rfl d_Md_init_119 (kw1 115 rfl rfl))) (
  kc_case (P := P) (kc_se rfl sm_no) (
  kc_case (P := P) (kc_se c_Md_init_117 (sm_bipush d_Md_init_117 (by decide))) (
  kc_case (P := P) (kc_se c_Md_init_116 (sm_aload_n d_Md_init_116 rfl)) (
  kc_case (P := P) (kc_se rfl sm_no) (
  kc_case (P := P) (kc_se rfl sm_no) (
  kc_case (P := P) (kc_se c_Md_init_113 (sm_putF (ci := 10) (C := "DirectoryDeskModel") (F := kF_Md) rfl kin_Md kty_Md ktk_Md knm_Md (Nat.le_of_ble_eq_true rfl) (by decide +kernel) d_Md_init_113 (kw3 220 rfl rfl) rfl rfl rfl)) (
  kc_case (P := P) (kc_se rfl sm_no) (
  kc_case (P := P) (kc_se c_Md_init_111 (sm_newi rfl d_Md_init_111 (kw1 62 rfl rfl))) (
  kc_case (P := P) (kc_se rfl sm_no) (
  kc_case (P := P) (kc_se c_Md_init_109 (sm_bipush d_Md_init_109 (by decide))) (
  kc_case (P := P) (kc_se c_Md_init_108 (sm_aload_n d_Md_init_108 rfl)) (
  kc_case (P := P) (kc_se rfl sm_no) (
  kc_case (P := P) (kc_se rfl sm_no) (
  kc_case (P := P) (kc_se c_Md_init_105 (sm_putF (ci := 10) (C := "DirectoryDeskModel") (F := kF_Md) rfl kin_Md kty_Md ktk_Md knm_Md (Nat.le_of_ble_eq_true rfl) (by decide +kernel) d_Md_init_105 (kw3 219 rfl rfl) rfl rfl rfl)) (
  kc_case (P := P) (kc_se rfl sm_no) (
  kc_case (P := P) (kc_se c_Md_init_103 (sm_newi rfl d_Md_init_103 (kw1 62 rfl rfl))) (
  kc_case (P := P) (kc_se rfl sm_no) (
  kc_case (P := P) (kc_se c_Md_init_101 (sm_bipush d_Md_init_101 (by decide))) (
  kc_case (P := P) (kc_se c_Md_init_100 (sm_aload_n d_Md_init_100 rfl)) (
  kc_case (P := P) (kc_se rfl sm_no) (
  kc_case (P := P) (kc_se rfl sm_no) (
  kc_case (P := P) (kc_se c_Md_init_97 (sm_putF (ci := 10) (C := "DirectoryDeskModel") (F := kF_Md) rfl kin_Md kty_Md ktk_Md knm_Md (Nat.le_of_ble_eq_true rfl) (by decide +kernel) d_Md_init_97 (kw3 218 rfl rfl) rfl rfl rfl)) (
  kc_case (P := P) (kc_se rfl sm_no) (
  kc_case (P := P) (kc_se c_Md_init_95 (sm_newi rfl d_Md_init_95 (kw1 62 rfl rfl))) (
  kc_case (P := P) (kc_se rfl sm_no) (
  kc_case (P := P) (kc_se c_Md_init_93 (sm_bipush d_Md_init_93 (by decide))) (
  kc_case (P := P) (kc_se c_Md_init_92 (sm_aload_n d_Md_init_92 rfl)) (
  kc_case (P := P) (kc_se rfl sm_no) (
  kc_case (P := P) (kc_se rfl sm_no) (
  kc_case (P := P) (kc_se c_Md_init_89 (sm_putF (ci := 10) (C := "DirectoryDeskModel") (F := kF_Md) rfl kin_Md kty_Md ktk_Md knm_Md (Nat.le_of_ble_eq_true rfl) (by decide +kernel) d_Md_init_89 (kw3 217 rfl rfl) rfl rfl rfl)) (
  kc_case (P := P) (kc_se rfl sm_no) (
  kc_case (P := P) (kc_se c_Md_init_87 (sm_newi rfl d_Md_init_87 (kw1 62 rfl rfl))) (
  kc_case (P := P) (kc_se rfl sm_no) (
  kc_case (P := P) (kc_se c_Md_init_85 (sm_bipush d_Md_init_85 (by decide))) (
  kc_case (P := P) (kc_se c_Md_init_84 (sm_aload_n d_Md_init_84 rfl)) (
  kc_case (P := P) (kc_se rfl sm_no) (
  kc_case (P := P) (kc_se rfl sm_no) (
  kc_case (P := P) (kc_se c_Md_init_81 (sm_putF (ci := 10) (C := "DirectoryDeskModel") (F := kF_Md) rfl kin_Md kty_Md ktk_Md knm_Md (Nat.le_of_ble_eq_true rfl) (by decide +kernel) d_Md_init_81 (kw3 205 rfl rfl) rfl rfl rfl)) (
  kc_case (P := P) (kc_se rfl sm_no) (
  kc_case (P := P) (kc_se c_Md_init_79 (sm_newl rfl d_Md_init_79 (kw1 115 rfl rfl))) (
  kc_case (P := P) (kc_se c_Md_init_78 (sm_iconst d_Md_init_78 (by decide))) (
  kc_case (P := P) (kc_se c_Md_init_77 (sm_aload_n d_Md_init_77 rfl)) (
  kc_case (P := P) (kc_se rfl sm_no) (
  kc_case (P := P) (kc_se rfl sm_no) (
  kc_case (P := P) (kc_se c_Md_init_74 (sm_putF (ci := 10) (C := "DirectoryDeskModel") (F := kF_Md) rfl kin_Md kty_Md ktk_Md knm_Md (Nat.le_of_ble_eq_true rfl) (by decide +kernel) d_Md_init_74 (kw3 204 rfl rfl) rfl rfl rfl)) (
  kc_case (P := P) (kc_se rfl sm_no) (
  kc_case (P := P) (kc_se c_Md_init_72 (sm_newi rfl d_Md_init_72 (kw1 62 rfl rfl))) (
  kc_case (P := P) (kc_se c_Md_init_71 (sm_iconst d_Md_init_71 (by decide))) (
  kc_case (P := P) (kc_se c_Md_init_70 (sm_aload_n d_Md_init_70 rfl)) (
  kc_case (P := P) (kc_se rfl sm_no) (
  kc_case (P := P) (kc_se rfl sm_no) (
  kc_case (P := P) (kc_se c_Md_init_67 (sm_putF (ci := 10) (C := "DirectoryDeskModel") (F := kF_Md) rfl kin_Md kty_Md ktk_Md knm_Md (Nat.le_of_ble_eq_true rfl) (by decide +kernel) d_Md_init_67 (kw3 195 rfl rfl) rfl rfl rfl)) (
  kc_case (P := P) (kc_se rfl sm_no) (
  kc_case (P := P) (kc_se c_Md_init_65 (sm_newl rfl d_Md_init_65 (kw1 115 rfl rfl))) (
  kc_case (P := P) (kc_se rfl sm_no) (
  kc_case (P := P) (kc_se c_Md_init_63 (sm_bipush d_Md_init_63 (by decide))) (
  kc_case (P := P) (kc_se c_Md_init_62 (sm_aload_n d_Md_init_62 rfl)) (
  kc_case (P := P) (kc_se rfl sm_no) (
  kc_case (P := P) (kc_se rfl sm_no) (
  s_Md_init_60))))))))))))))))))))))))))))))))))))))))))))))))))))))))))))
set_option maxRecDepth 100000 in
set_option maxHeartbeats 4000000 in
theorem s_Md_init_180 : ∀ pc, pc < 180 → kc_Sim kt kw_A kw_N kt_cl kt_En "DirectoryDeskModel" prog_12_method_1_code 1 (none) "<init>" none pc (ct_Md_init pc) := by
  let P : Nat → Prop := fun pc => kc_Sim kt kw_A kw_N kt_cl kt_En "DirectoryDeskModel" prog_12_method_1_code 1 (none) "<init>" none pc (ct_Md_init pc)
  exact kc_case (P := P) (kc_se rfl sm_no) (
  kc_case (P := P) (kc_se rfl sm_no) (
  kc_case (P := P) (kc_se c_Md_init_177 (sm_putF (ci := 10) (C := "DirectoryDeskModel") (F := kF_Md) rfl kin_Md kty_Md ktk_Md knm_Md (Nat.le_of_ble_eq_true rfl) (by decide +kernel) d_Md_init_177 (kw3 231 rfl rfl) rfl rfl rfl)) (
  kc_case (P := P) (kc_se rfl sm_no) (
  kc_case (P := P) (kc_se c_Md_init_175 (sm_newi rfl d_Md_init_175 (kw1 62 rfl rfl))) (
  kc_case (P := P) (kc_se rfl sm_no) (
  kc_case (P := P) (kc_se c_Md_init_173 (sm_bipush d_Md_init_173 (by decide))) (
  kc_case (P := P) (kc_se c_Md_init_172 (sm_aload_n d_Md_init_172 rfl)) (
  kc_case (P := P) (kc_se rfl sm_no) (
  kc_case (P := P) (kc_se rfl sm_no) (
  kc_case (P := P) (kc_se c_Md_init_169 (sm_putF (ci := 10) (C := "DirectoryDeskModel") (F := kF_Md) rfl kin_Md kty_Md ktk_Md knm_Md (Nat.le_of_ble_eq_true rfl) (by decide +kernel) d_Md_init_169 (kw3 230 rfl rfl) rfl rfl rfl)) (
  kc_case (P := P) (kc_se rfl sm_no) (
  kc_case (P := P) (kc_se c_Md_init_167 (sm_newi rfl d_Md_init_167 (kw1 62 rfl rfl))) (
  kc_case (P := P) (kc_se rfl sm_no) (
  kc_case (P := P) (kc_se c_Md_init_165 (sm_bipush d_Md_init_165 (by decide))) (
  kc_case (P := P) (kc_se c_Md_init_164 (sm_aload_n d_Md_init_164 rfl)) (
  kc_case (P := P) (kc_se rfl sm_no) (
  kc_case (P := P) (kc_se rfl sm_no) (
  kc_case (P := P) (kc_se c_Md_init_161 (sm_putF (ci := 10) (C := "DirectoryDeskModel") (F := kF_Md) rfl kin_Md kty_Md ktk_Md knm_Md (Nat.le_of_ble_eq_true rfl) (by decide +kernel) d_Md_init_161 (kw3 228 rfl rfl) rfl rfl rfl)) (
  kc_case (P := P) (kc_se rfl sm_no) (
  kc_case (P := P) (kc_se c_Md_init_159 (sm_newi rfl d_Md_init_159 (kw1 62 rfl rfl))) (
  kc_case (P := P) (kc_se rfl sm_no) (
  kc_case (P := P) (kc_se c_Md_init_157 (sm_bipush d_Md_init_157 (by decide))) (
  kc_case (P := P) (kc_se c_Md_init_156 (sm_aload_n d_Md_init_156 rfl)) (
  kc_case (P := P) (kc_se rfl sm_no) (
  kc_case (P := P) (kc_se rfl sm_no) (
  kc_case (P := P) (kc_se c_Md_init_153 (sm_putF (ci := 10) (C := "DirectoryDeskModel") (F := kF_Md) rfl kin_Md kty_Md ktk_Md knm_Md (Nat.le_of_ble_eq_true rfl) (by decide +kernel) d_Md_init_153 (kw3 227 rfl rfl) rfl rfl rfl)) (
  kc_case (P := P) (kc_se rfl sm_no) (
  kc_case (P := P) (kc_se c_Md_init_151 (sm_newl rfl d_Md_init_151 (kw1 115 rfl rfl))) (
  kc_case (P := P) (kc_se rfl sm_no) (
  kc_case (P := P) (kc_se c_Md_init_149 (sm_bipush d_Md_init_149 (by decide))) (
  kc_case (P := P) (kc_se c_Md_init_148 (sm_aload_n d_Md_init_148 rfl)) (
  kc_case (P := P) (kc_se rfl sm_no) (
  kc_case (P := P) (kc_se rfl sm_no) (
  kc_case (P := P) (kc_se c_Md_init_145 (sm_putF (ci := 10) (C := "DirectoryDeskModel") (F := kF_Md) rfl kin_Md kty_Md ktk_Md knm_Md (Nat.le_of_ble_eq_true rfl) (by decide +kernel) d_Md_init_145 (kw3 226 rfl rfl) rfl rfl rfl)) (
  kc_case (P := P) (kc_se rfl sm_no) (
  kc_case (P := P) (kc_se c_Md_init_143 (sm_newi rfl d_Md_init_143 (kw1 62 rfl rfl))) (
  kc_case (P := P) (kc_se rfl sm_no) (
  kc_case (P := P) (kc_se c_Md_init_141 (sm_bipush d_Md_init_141 (by decide))) (
  kc_case (P := P) (kc_se c_Md_init_140 (sm_aload_n d_Md_init_140 rfl)) (
  kc_case (P := P) (kc_se rfl sm_no) (
  kc_case (P := P) (kc_se rfl sm_no) (
  kc_case (P := P) (kc_se c_Md_init_137 (sm_putF (ci := 10) (C := "DirectoryDeskModel") (F := kF_Md) rfl kin_Md kty_Md ktk_Md knm_Md (Nat.le_of_ble_eq_true rfl) (by decide +kernel) d_Md_init_137 (kw3 225 rfl rfl) rfl rfl rfl)) (
  kc_case (P := P) (kc_se rfl sm_no) (
  kc_case (P := P) (kc_se c_Md_init_135 (sm_newi rfl d_Md_init_135 (kw1 62 rfl rfl))) (
  kc_case (P := P) (kc_se rfl sm_no) (
  kc_case (P := P) (kc_se c_Md_init_133 (sm_bipush d_Md_init_133 (by decide))) (
  kc_case (P := P) (kc_se c_Md_init_132 (sm_aload_n d_Md_init_132 rfl)) (
  kc_case (P := P) (kc_se rfl sm_no) (
  kc_case (P := P) (kc_se rfl sm_no) (
  kc_case (P := P) (kc_se c_Md_init_129 (sm_putF (ci := 10) (C := "DirectoryDeskModel") (F := kF_Md) rfl kin_Md kty_Md ktk_Md knm_Md (Nat.le_of_ble_eq_true rfl) (by decide +kernel) d_Md_init_129 (kw3 224 rfl rfl) rfl rfl rfl)) (
  kc_case (P := P) (kc_se rfl sm_no) (
  kc_case (P := P) (kc_se c_Md_init_127 (sm_newi rfl d_Md_init_127 (kw1 62 rfl rfl))) (
  kc_case (P := P) (kc_se rfl sm_no) (
  kc_case (P := P) (kc_se c_Md_init_125 (sm_bipush d_Md_init_125 (by decide))) (
  kc_case (P := P) (kc_se c_Md_init_124 (sm_aload_n d_Md_init_124 rfl)) (
  kc_case (P := P) (kc_se rfl sm_no) (
  kc_case (P := P) (kc_se rfl sm_no) (
  kc_case (P := P) (kc_se c_Md_init_121 (sm_putF (ci := 10) (C := "DirectoryDeskModel") (F := kF_Md) rfl kin_Md kty_Md ktk_Md knm_Md (Nat.le_of_ble_eq_true rfl) (by decide +kernel) d_Md_init_121 (kw3 222 rfl rfl) rfl rfl rfl)) (
  kc_case (P := P) (kc_se rfl sm_no) (
  s_Md_init_120))))))))))))))))))))))))))))))))))))))))))))))))))))))))))))
set_option maxRecDepth 100000 in
set_option maxHeartbeats 4000000 in
theorem s_Md_init_240 : ∀ pc, pc < 240 → kc_Sim kt kw_A kw_N kt_cl kt_En "DirectoryDeskModel" prog_12_method_1_code 1 (none) "<init>" none pc (ct_Md_init pc) := by
  let P : Nat → Prop := fun pc => kc_Sim kt kw_A kw_N kt_cl kt_En "DirectoryDeskModel" prog_12_method_1_code 1 (none) "<init>" none pc (ct_Md_init pc)
  exact kc_case (P := P) (kc_se c_Md_init_239 (sm_iast d_Md_init_239)) (
  kc_case (P := P) (kc_se rfl sm_no) (
  kc_case (P := P) (kc_se c_Md_init_237 (sm_bipush d_Md_init_237 (by decide))) (
  kc_case (P := P) (kc_se c_Md_init_236 (sm_iconst d_Md_init_236 (by decide))) (
  kc_case (P := P) (kc_se rfl sm_no) (
  kc_case (P := P) (kc_se rfl sm_no) (
  kc_case (P := P) (kc_se c_Md_init_233 (sm_get (ci := 10) (C := "DirectoryDeskModel") (F := kF_Md) rfl kin_Md (Nat.le_of_ble_eq_true rfl) d_Md_init_233 (kw3 194 rfl rfl))) (
  kc_case (P := P) (kc_se c_Md_init_232 (sm_aload_n d_Md_init_232 rfl)) (
  kc_case (P := P) (kc_se c_Md_init_231 (sm_iast d_Md_init_231)) (
  kc_case (P := P) (kc_se c_Md_init_230 (sm_iconst d_Md_init_230 (by decide))) (
  kc_case (P := P) (kc_se c_Md_init_229 (sm_iconst d_Md_init_229 (by decide))) (
  kc_case (P := P) (kc_se rfl sm_no) (
  kc_case (P := P) (kc_se rfl sm_no) (
  kc_case (P := P) (kc_se c_Md_init_226 (sm_get (ci := 10) (C := "DirectoryDeskModel") (F := kF_Md) rfl kin_Md (Nat.le_of_ble_eq_true rfl) d_Md_init_226 (kw3 193 rfl rfl))) (
  kc_case (P := P) (kc_se c_Md_init_225 (sm_aload_n d_Md_init_225 rfl)) (
  kc_case (P := P) (kc_se c_Md_init_224 (sm_last d_Md_init_224)) (
  kc_case (P := P) (kc_se rfl sm_no) (
  kc_case (P := P) (kc_se rfl sm_no) (
  kc_case (P := P) (kc_se c_Md_init_221 (sm_ldc2 d_Md_init_221 (kw3 181 rfl rfl))) (
  kc_case (P := P) (kc_se c_Md_init_220 (sm_iconst d_Md_init_220 (by decide))) (
  kc_case (P := P) (kc_se rfl sm_no) (
  kc_case (P := P) (kc_se rfl sm_no) (
  kc_case (P := P) (kc_se c_Md_init_217 (sm_get (ci := 10) (C := "DirectoryDeskModel") (F := kF_Md) rfl kin_Md (Nat.le_of_ble_eq_true rfl) d_Md_init_217 (kw3 192 rfl rfl))) (
  kc_case (P := P) (kc_se c_Md_init_216 (sm_aload_n d_Md_init_216 rfl)) (
  kc_case (P := P) (kc_se c_Md_init_215 (sm_iast d_Md_init_215)) (
  kc_case (P := P) (kc_se rfl sm_no) (
  kc_case (P := P) (kc_se c_Md_init_213 (sm_bipush d_Md_init_213 (by decide))) (
  kc_case (P := P) (kc_se c_Md_init_212 (sm_iconst d_Md_init_212 (by decide))) (
  kc_case (P := P) (kc_se rfl sm_no) (
  kc_case (P := P) (kc_se rfl sm_no) (
  kc_case (P := P) (kc_se c_Md_init_209 (sm_get (ci := 10) (C := "DirectoryDeskModel") (F := kF_Md) rfl kin_Md (Nat.le_of_ble_eq_true rfl) d_Md_init_209 (kw3 191 rfl rfl))) (
  kc_case (P := P) (kc_se c_Md_init_208 (sm_aload_n d_Md_init_208 rfl)) (
  kc_case (P := P) (kc_se c_Md_init_207 (sm_iast d_Md_init_207)) (
  kc_case (P := P) (kc_se c_Md_init_206 (sm_iconst d_Md_init_206 (by decide))) (
  kc_case (P := P) (kc_se c_Md_init_205 (sm_iconst d_Md_init_205 (by decide))) (
  kc_case (P := P) (kc_se rfl sm_no) (
  kc_case (P := P) (kc_se rfl sm_no) (
  kc_case (P := P) (kc_se c_Md_init_202 (sm_get (ci := 10) (C := "DirectoryDeskModel") (F := kF_Md) rfl kin_Md (Nat.le_of_ble_eq_true rfl) d_Md_init_202 (kw3 190 rfl rfl))) (
  kc_case (P := P) (kc_se c_Md_init_201 (sm_aload_n d_Md_init_201 rfl)) (
  kc_case (P := P) (kc_se rfl sm_no) (
  kc_case (P := P) (kc_se rfl sm_no) (
  kc_case (P := P) (kc_se c_Md_init_198 (sm_put (ci := 10) (C := "DirectoryDeskModel") (F := kF_Md) rfl kin_Md kty_Md ktk_Md knm_Md (Nat.le_of_ble_eq_true rfl) (by decide +kernel) d_Md_init_198 (kw3 189 rfl rfl) rfl)) (
  kc_case (P := P) (kc_se c_Md_init_197 (sm_iconst d_Md_init_197 (by decide))) (
  kc_case (P := P) (kc_se c_Md_init_196 (sm_aload_n d_Md_init_196 rfl)) (
  kc_case (P := P) (kc_se rfl sm_no) (
  kc_case (P := P) (kc_se rfl sm_no) (
  kc_case (P := P) (kc_se c_Md_init_193 (sm_putF (ci := 10) (C := "DirectoryDeskModel") (F := kF_Md) rfl kin_Md kty_Md ktk_Md knm_Md (Nat.le_of_ble_eq_true rfl) (by decide +kernel) d_Md_init_193 (kw3 234 rfl rfl) rfl rfl rfl)) (
  kc_case (P := P) (kc_se rfl sm_no) (
  kc_case (P := P) (kc_se c_Md_init_191 (sm_newl rfl d_Md_init_191 (kw1 115 rfl rfl))) (
  kc_case (P := P) (kc_se rfl sm_no) (
  kc_case (P := P) (kc_se c_Md_init_189 (sm_bipush d_Md_init_189 (by decide))) (
  kc_case (P := P) (kc_se c_Md_init_188 (sm_aload_n d_Md_init_188 rfl)) (
  kc_case (P := P) (kc_se rfl sm_no) (
  kc_case (P := P) (kc_se rfl sm_no) (
  kc_case (P := P) (kc_se c_Md_init_185 (sm_putF (ci := 10) (C := "DirectoryDeskModel") (F := kF_Md) rfl kin_Md kty_Md ktk_Md knm_Md (Nat.le_of_ble_eq_true rfl) (by decide +kernel) d_Md_init_185 (kw3 233 rfl rfl) rfl rfl rfl)) (
  kc_case (P := P) (kc_se rfl sm_no) (
  kc_case (P := P) (kc_se c_Md_init_183 (sm_newi rfl d_Md_init_183 (kw1 62 rfl rfl))) (
  kc_case (P := P) (kc_se rfl sm_no) (
  kc_case (P := P) (kc_se c_Md_init_181 (sm_bipush d_Md_init_181 (by decide))) (
  kc_case (P := P) (kc_se c_Md_init_180 (sm_aload_n d_Md_init_180 rfl)) (
  s_Md_init_180))))))))))))))))))))))))))))))))))))))))))))))))))))))))))))
set_option maxRecDepth 100000 in
set_option maxHeartbeats 4000000 in
theorem s_Md_init_267 : ∀ pc, pc < 267 → kc_Sim kt kw_A kw_N kt_cl kt_En "DirectoryDeskModel" prog_12_method_1_code 1 (none) "<init>" none pc (ct_Md_init pc) := by
  let P : Nat → Prop := fun pc => kc_Sim kt kw_A kw_N kt_cl kt_En "DirectoryDeskModel" prog_12_method_1_code 1 (none) "<init>" none pc (ct_Md_init pc)
  exact kc_case (P := P) (kc_se c_Md_init_266 (sm_ret d_Md_init_266 rfl)) (
  kc_case (P := P) (kc_se c_Md_init_265 (sm_last d_Md_init_265)) (
  kc_case (P := P) (kc_se rfl sm_no) (
  kc_case (P := P) (kc_se rfl sm_no) (
  kc_case (P := P) (kc_se c_Md_init_262 (sm_ldc2 d_Md_init_262 (kw3 182 rfl rfl))) (
  kc_case (P := P) (kc_se c_Md_init_261 (sm_iconst d_Md_init_261 (by decide))) (
  kc_case (P := P) (kc_se rfl sm_no) (
  kc_case (P := P) (kc_se rfl sm_no) (
  kc_case (P := P) (kc_se c_Md_init_258 (sm_get (ci := 10) (C := "DirectoryDeskModel") (F := kF_Md) rfl kin_Md (Nat.le_of_ble_eq_true rfl) d_Md_init_258 (kw3 195 rfl rfl))) (
  kc_case (P := P) (kc_se c_Md_init_257 (sm_aload_n d_Md_init_257 rfl)) (
  kc_case (P := P) (kc_se c_Md_init_256 (sm_iast d_Md_init_256)) (
  kc_case (P := P) (kc_se rfl sm_no) (
  kc_case (P := P) (kc_se c_Md_init_254 (sm_bipush d_Md_init_254 (by decide))) (
  kc_case (P := P) (kc_se c_Md_init_253 (sm_iconst d_Md_init_253 (by decide))) (
  kc_case (P := P) (kc_se rfl sm_no) (
  kc_case (P := P) (kc_se rfl sm_no) (
  kc_case (P := P) (kc_se c_Md_init_250 (sm_get (ci := 10) (C := "DirectoryDeskModel") (F := kF_Md) rfl kin_Md (Nat.le_of_ble_eq_true rfl) d_Md_init_250 (kw3 194 rfl rfl))) (
  kc_case (P := P) (kc_se c_Md_init_249 (sm_aload_n d_Md_init_249 rfl)) (
  kc_case (P := P) (kc_se c_Md_init_248 (sm_last d_Md_init_248)) (
  kc_case (P := P) (kc_se rfl sm_no) (
  kc_case (P := P) (kc_se rfl sm_no) (
  kc_case (P := P) (kc_se c_Md_init_245 (sm_ldc2 d_Md_init_245 (kw3 181 rfl rfl))) (
  kc_case (P := P) (kc_se c_Md_init_244 (sm_iconst d_Md_init_244 (by decide))) (
  kc_case (P := P) (kc_se rfl sm_no) (
  kc_case (P := P) (kc_se rfl sm_no) (
  kc_case (P := P) (kc_se c_Md_init_241 (sm_get (ci := 10) (C := "DirectoryDeskModel") (F := kF_Md) rfl kin_Md (Nat.le_of_ble_eq_true rfl) d_Md_init_241 (kw3 195 rfl rfl))) (
  kc_case (P := P) (kc_se c_Md_init_240 (sm_aload_n d_Md_init_240 rfl)) (
  s_Md_init_240)))))))))))))))))))))))))))
set_option maxRecDepth 100000 in
theorem ka_nth_no_Md_init (pc : Nat) (h : 267 ≤ pc) : ct_Md_init pc = ka_no := ka_nth_ge _ pc (Nat.le_trans (Nat.le_of_eq (by rfl)) h)
theorem s_Md_init (pc : Nat) : kc_Sim kt kw_A kw_N kt_cl kt_En "DirectoryDeskModel" prog_12_method_1_code 1 (none) "<init>" none pc (ct_Md_init pc) := (Nat.lt_or_ge pc 267).elim (s_Md_init_267 pc) (fun h => kc_se (ka_nth_no_Md_init pc h) sm_no)
def cl_Md_connect_0 : List kc_A := [ka_al 0 1, ka_ci (nI 0) 1, ka_put 10 0 .boolean, ka_no, ka_no, ka_al 0 1, ka_ci (nI 0) 1, ka_put 10 1 .boolean, ka_no, ka_no, ka_al 0 1, ka_ci (nI 0) 1, ka_put 10 3 .int, ka_no, ka_no, ka_ret]
def ct_Md_connect : Nat → kc_A := fun pc => ka_nth (cl_Md_connect_0) pc
set_option maxRecDepth 100000 in
theorem c_Md_connect_0 : ct_Md_connect 0 = ka_al 0 1 := rfl
theorem d_Md_connect_0 : decode prog_12_method_2_code 0 = .ok (.aload_n 0, 1) := by decide +kernel
set_option maxRecDepth 100000 in
theorem c_Md_connect_1 : ct_Md_connect 1 = ka_ci (nI 0) 1 := rfl
theorem d_Md_connect_1 : decode prog_12_method_2_code 1 = .ok (.iconst 0, 1) := by decide +kernel
set_option maxRecDepth 100000 in
theorem c_Md_connect_2 : ct_Md_connect 2 = ka_put 10 0 .boolean := rfl
theorem d_Md_connect_2 : decode prog_12_method_2_code 2 = .ok (.putfield 91, 3) := by decide +kernel
set_option maxRecDepth 100000 in
theorem c_Md_connect_5 : ct_Md_connect 5 = ka_al 0 1 := rfl
theorem d_Md_connect_5 : decode prog_12_method_2_code 5 = .ok (.aload_n 0, 1) := by decide +kernel
set_option maxRecDepth 100000 in
theorem c_Md_connect_6 : ct_Md_connect 6 = ka_ci (nI 0) 1 := rfl
theorem d_Md_connect_6 : decode prog_12_method_2_code 6 = .ok (.iconst 0, 1) := by decide +kernel
set_option maxRecDepth 100000 in
theorem c_Md_connect_7 : ct_Md_connect 7 = ka_put 10 1 .boolean := rfl
theorem d_Md_connect_7 : decode prog_12_method_2_code 7 = .ok (.putfield 95, 3) := by decide +kernel
set_option maxRecDepth 100000 in
theorem c_Md_connect_10 : ct_Md_connect 10 = ka_al 0 1 := rfl
theorem d_Md_connect_10 : decode prog_12_method_2_code 10 = .ok (.aload_n 0, 1) := by decide +kernel
set_option maxRecDepth 100000 in
theorem c_Md_connect_11 : ct_Md_connect 11 = ka_ci (nI 0) 1 := rfl
theorem d_Md_connect_11 : decode prog_12_method_2_code 11 = .ok (.iconst 0, 1) := by decide +kernel
set_option maxRecDepth 100000 in
theorem c_Md_connect_12 : ct_Md_connect 12 = ka_put 10 3 .int := rfl
theorem d_Md_connect_12 : decode prog_12_method_2_code 12 = .ok (.putfield 98, 3) := by decide +kernel
set_option maxRecDepth 100000 in
theorem c_Md_connect_15 : ct_Md_connect 15 = ka_ret := rfl
theorem d_Md_connect_15 : decode prog_12_method_2_code 15 = .ok (.return_, 1) := by decide +kernel
set_option maxRecDepth 100000 in
set_option maxHeartbeats 4000000 in
theorem s_Md_connect_16 : ∀ pc, pc < 16 → kc_Sim kt kw_A kw_N kt_cl kt_En "DirectoryDeskModel" prog_12_method_2_code 1 (none) "connect" none pc (ct_Md_connect pc) := by
  let P : Nat → Prop := fun pc => kc_Sim kt kw_A kw_N kt_cl kt_En "DirectoryDeskModel" prog_12_method_2_code 1 (none) "connect" none pc (ct_Md_connect pc)
  exact kc_case (P := P) (kc_se c_Md_connect_15 (sm_ret d_Md_connect_15 rfl)) (
  kc_case (P := P) (kc_se rfl sm_no) (
  kc_case (P := P) (kc_se rfl sm_no) (
  kc_case (P := P) (kc_se c_Md_connect_12 (sm_put (ci := 10) (C := "DirectoryDeskModel") (F := kF_Md) rfl kin_Md kty_Md ktk_Md knm_Md (Nat.le_of_ble_eq_true rfl) (by decide +kernel) d_Md_connect_12 (kw3 186 rfl rfl) rfl)) (
  kc_case (P := P) (kc_se c_Md_connect_11 (sm_iconst d_Md_connect_11 (by decide))) (
  kc_case (P := P) (kc_se c_Md_connect_10 (sm_aload_n d_Md_connect_10 rfl)) (
  kc_case (P := P) (kc_se rfl sm_no) (
  kc_case (P := P) (kc_se rfl sm_no) (
  kc_case (P := P) (kc_se c_Md_connect_7 (sm_put (ci := 10) (C := "DirectoryDeskModel") (F := kF_Md) rfl kin_Md kty_Md ktk_Md knm_Md (Nat.le_of_ble_eq_true rfl) (by decide +kernel) d_Md_connect_7 (kw3 184 rfl rfl) rfl)) (
  kc_case (P := P) (kc_se c_Md_connect_6 (sm_iconst d_Md_connect_6 (by decide))) (
  kc_case (P := P) (kc_se c_Md_connect_5 (sm_aload_n d_Md_connect_5 rfl)) (
  kc_case (P := P) (kc_se rfl sm_no) (
  kc_case (P := P) (kc_se rfl sm_no) (
  kc_case (P := P) (kc_se c_Md_connect_2 (sm_put (ci := 10) (C := "DirectoryDeskModel") (F := kF_Md) rfl kin_Md kty_Md ktk_Md knm_Md (Nat.le_of_ble_eq_true rfl) (by decide +kernel) d_Md_connect_2 (kw3 183 rfl rfl) rfl)) (
  kc_case (P := P) (kc_se c_Md_connect_1 (sm_iconst d_Md_connect_1 (by decide))) (
  kc_case (P := P) (kc_se c_Md_connect_0 (sm_aload_n d_Md_connect_0 rfl)) (
  kc_case0))))))))))))))))
set_option maxRecDepth 100000 in
theorem ka_nth_no_Md_connect (pc : Nat) (h : 16 ≤ pc) : ct_Md_connect pc = ka_no := ka_nth_ge _ pc (Nat.le_trans (Nat.le_of_eq (by rfl)) h)
theorem s_Md_connect (pc : Nat) : kc_Sim kt kw_A kw_N kt_cl kt_En "DirectoryDeskModel" prog_12_method_2_code 1 (none) "connect" none pc (ct_Md_connect pc) := (Nat.lt_or_ge pc 16).elim (s_Md_connect_16 pc) (fun h => kc_se (ka_nth_no_Md_connect pc h) sm_no)
def cl_Md_type_0 : List kc_A := [ka_al 0 1, ka_get 10 0, ka_no, ka_no, ka_if (fun x => x = 0) 9, ka_no, ka_no, ka_ci (-1) 1, ka_ri, ka_il 3 1, ka_ci (nI 1) 1, ka_cm (fun x y => x < y) 32, ka_no, ka_no, ka_il 3 1, ka_ci (nI 8) 2, ka_no, ka_cm (fun x y => y < x) 32, ka_no, ka_no, ka_al 0 1, ka_get 10 3, ka_no, ka_no, ka_il 3 1, ka_ii (fun x y => x + y), ka_ci (nI 200) 3, ka_no, ka_no, ka_cm (fun x y => x ≤ y) 35, ka_no, ka_no, ka_ci (-2) 2, ka_no, ka_ri, ka_il 3 1, ka_ci (nI 1) 1, ka_ii (fun x y => x - y), ka_is 4 2, ka_no, ka_il 4 2, ka_no, ka_if (fun x => x < 0) 82, ka_no, ka_no, ka_al 0 1, ka_get 10 2, ka_no, ka_no, ka_al 0 1, ka_get 10 3, ka_no, ka_no, ka_ll 1 1, ka_ci (nI 8) 2, ka_no, ka_il 4 2, ka_no, ka_ii (fun x y => x * y), ka_lsh (fun x y => x >>> (y.toInt64 &&& 63))]
def cl_Md_type_1 : List kc_A := [ka_cl (255) 3, ka_no, ka_no, ka_ll2 (fun x y => x &&& y), ka_l2i, ka_iast, ka_al 0 1, ka_dup, ka_get 10 3, ka_no, ka_no, ka_ci (nI 1) 1, ka_ii (fun x y => x + y), ka_put 10 3 .int, ka_no, ka_no, ka_inc 4 (-1), ka_no, ka_no, ka_goto 40, ka_no, ka_no, ka_al 0 1, ka_get 10 3, ka_no, ka_no, ka_ri]
def ct_Md_type : Nat → kc_A := fun pc => ka_nth (cl_Md_type_0 ++ (cl_Md_type_1)) pc
set_option maxRecDepth 100000 in
theorem c_Md_type_0 : ct_Md_type 0 = ka_al 0 1 := rfl
theorem d_Md_type_0 : decode prog_12_method_3_code 0 = .ok (.aload_n 0, 1) := by decide +kernel
set_option maxRecDepth 100000 in
theorem c_Md_type_1 : ct_Md_type 1 = ka_get 10 0 := rfl
theorem d_Md_type_1 : decode prog_12_method_3_code 1 = .ok (.getfield 91, 3) := by decide +kernel
set_option maxRecDepth 100000 in
theorem c_Md_type_4 : ct_Md_type 4 = ka_if (fun x => x = 0) 9 := rfl
theorem d_Md_type_4 : decode prog_12_method_3_code 4 = .ok (.ifCond .eq 5, 3) := by decide +kernel
set_option maxRecDepth 100000 in
theorem c_Md_type_7 : ct_Md_type 7 = ka_ci (-1) 1 := rfl
theorem d_Md_type_7 : decode prog_12_method_3_code 7 = .ok (.iconst (-1), 1) := by decide +kernel
set_option maxRecDepth 100000 in
theorem c_Md_type_8 : ct_Md_type 8 = ka_ri := rfl
theorem d_Md_type_8 : decode prog_12_method_3_code 8 = .ok (.ireturn, 1) := by decide +kernel
set_option maxRecDepth 100000 in
theorem c_Md_type_9 : ct_Md_type 9 = ka_il 3 1 := rfl
theorem d_Md_type_9 : decode prog_12_method_3_code 9 = .ok (.iload_n 3, 1) := by decide +kernel
set_option maxRecDepth 100000 in
theorem c_Md_type_10 : ct_Md_type 10 = ka_ci (nI 1) 1 := rfl
theorem d_Md_type_10 : decode prog_12_method_3_code 10 = .ok (.iconst 1, 1) := by decide +kernel
set_option maxRecDepth 100000 in
theorem c_Md_type_11 : ct_Md_type 11 = ka_cm (fun x y => x < y) 32 := rfl
theorem d_Md_type_11 : decode prog_12_method_3_code 11 = .ok (.if_icmp .lt 21, 3) := by decide +kernel
set_option maxRecDepth 100000 in
theorem c_Md_type_14 : ct_Md_type 14 = ka_il 3 1 := rfl
theorem d_Md_type_14 : decode prog_12_method_3_code 14 = .ok (.iload_n 3, 1) := by decide +kernel
set_option maxRecDepth 100000 in
theorem c_Md_type_15 : ct_Md_type 15 = ka_ci (nI 8) 2 := rfl
theorem d_Md_type_15 : decode prog_12_method_3_code 15 = .ok (.bipush 8, 2) := by decide +kernel
set_option maxRecDepth 100000 in
theorem c_Md_type_17 : ct_Md_type 17 = ka_cm (fun x y => y < x) 32 := rfl
theorem d_Md_type_17 : decode prog_12_method_3_code 17 = .ok (.if_icmp .gt 15, 3) := by decide +kernel
set_option maxRecDepth 100000 in
theorem c_Md_type_20 : ct_Md_type 20 = ka_al 0 1 := rfl
theorem d_Md_type_20 : decode prog_12_method_3_code 20 = .ok (.aload_n 0, 1) := by decide +kernel
set_option maxRecDepth 100000 in
theorem c_Md_type_21 : ct_Md_type 21 = ka_get 10 3 := rfl
theorem d_Md_type_21 : decode prog_12_method_3_code 21 = .ok (.getfield 98, 3) := by decide +kernel
set_option maxRecDepth 100000 in
theorem c_Md_type_24 : ct_Md_type 24 = ka_il 3 1 := rfl
theorem d_Md_type_24 : decode prog_12_method_3_code 24 = .ok (.iload_n 3, 1) := by decide +kernel
set_option maxRecDepth 100000 in
theorem c_Md_type_25 : ct_Md_type 25 = ka_ii (fun x y => x + y) := rfl
theorem d_Md_type_25 : decode prog_12_method_3_code 25 = .ok (.iadd, 1) := by decide +kernel
set_option maxRecDepth 100000 in
theorem c_Md_type_26 : ct_Md_type 26 = ka_ci (nI 200) 3 := rfl
theorem d_Md_type_26 : decode prog_12_method_3_code 26 = .ok (.sipush 200, 3) := by decide +kernel
set_option maxRecDepth 100000 in
theorem c_Md_type_29 : ct_Md_type 29 = ka_cm (fun x y => x ≤ y) 35 := rfl
theorem d_Md_type_29 : decode prog_12_method_3_code 29 = .ok (.if_icmp .le 6, 3) := by decide +kernel
set_option maxRecDepth 100000 in
theorem c_Md_type_32 : ct_Md_type 32 = ka_ci (-2) 2 := rfl
theorem d_Md_type_32 : decode prog_12_method_3_code 32 = .ok (.bipush (-2), 2) := by decide +kernel
set_option maxRecDepth 100000 in
theorem c_Md_type_34 : ct_Md_type 34 = ka_ri := rfl
theorem d_Md_type_34 : decode prog_12_method_3_code 34 = .ok (.ireturn, 1) := by decide +kernel
set_option maxRecDepth 100000 in
theorem c_Md_type_35 : ct_Md_type 35 = ka_il 3 1 := rfl
theorem d_Md_type_35 : decode prog_12_method_3_code 35 = .ok (.iload_n 3, 1) := by decide +kernel
set_option maxRecDepth 100000 in
theorem c_Md_type_36 : ct_Md_type 36 = ka_ci (nI 1) 1 := rfl
theorem d_Md_type_36 : decode prog_12_method_3_code 36 = .ok (.iconst 1, 1) := by decide +kernel
set_option maxRecDepth 100000 in
theorem c_Md_type_37 : ct_Md_type 37 = ka_ii (fun x y => x - y) := rfl
theorem d_Md_type_37 : decode prog_12_method_3_code 37 = .ok (.isub, 1) := by decide +kernel
set_option maxRecDepth 100000 in
theorem c_Md_type_38 : ct_Md_type 38 = ka_is 4 2 := rfl
theorem d_Md_type_38 : decode prog_12_method_3_code 38 = .ok (.istore 4, 2) := by decide +kernel
set_option maxRecDepth 100000 in
theorem c_Md_type_40 : ct_Md_type 40 = ka_il 4 2 := rfl
theorem d_Md_type_40 : decode prog_12_method_3_code 40 = .ok (.iload 4, 2) := by decide +kernel
set_option maxRecDepth 100000 in
theorem c_Md_type_42 : ct_Md_type 42 = ka_if (fun x => x < 0) 82 := rfl
theorem d_Md_type_42 : decode prog_12_method_3_code 42 = .ok (.ifCond .lt 40, 3) := by decide +kernel
set_option maxRecDepth 100000 in
theorem c_Md_type_45 : ct_Md_type 45 = ka_al 0 1 := rfl
theorem d_Md_type_45 : decode prog_12_method_3_code 45 = .ok (.aload_n 0, 1) := by decide +kernel
set_option maxRecDepth 100000 in
theorem c_Md_type_46 : ct_Md_type 46 = ka_get 10 2 := rfl
theorem d_Md_type_46 : decode prog_12_method_3_code 46 = .ok (.getfield 7, 3) := by decide +kernel
set_option maxRecDepth 100000 in
theorem c_Md_type_49 : ct_Md_type 49 = ka_al 0 1 := rfl
theorem d_Md_type_49 : decode prog_12_method_3_code 49 = .ok (.aload_n 0, 1) := by decide +kernel
set_option maxRecDepth 100000 in
theorem c_Md_type_50 : ct_Md_type 50 = ka_get 10 3 := rfl
theorem d_Md_type_50 : decode prog_12_method_3_code 50 = .ok (.getfield 98, 3) := by decide +kernel
set_option maxRecDepth 100000 in
theorem c_Md_type_53 : ct_Md_type 53 = ka_ll 1 1 := rfl
theorem d_Md_type_53 : decode prog_12_method_3_code 53 = .ok (.lload_n 1, 1) := by decide +kernel
set_option maxRecDepth 100000 in
theorem c_Md_type_54 : ct_Md_type 54 = ka_ci (nI 8) 2 := rfl
theorem d_Md_type_54 : decode prog_12_method_3_code 54 = .ok (.bipush 8, 2) := by decide +kernel
set_option maxRecDepth 100000 in
theorem c_Md_type_56 : ct_Md_type 56 = ka_il 4 2 := rfl
theorem d_Md_type_56 : decode prog_12_method_3_code 56 = .ok (.iload 4, 2) := by decide +kernel
set_option maxRecDepth 100000 in
theorem c_Md_type_58 : ct_Md_type 58 = ka_ii (fun x y => x * y) := rfl
theorem d_Md_type_58 : decode prog_12_method_3_code 58 = .ok (.imul, 1) := by decide +kernel
set_option maxRecDepth 100000 in
theorem c_Md_type_59 : ct_Md_type 59 = ka_lsh (fun x y => x >>> (y.toInt64 &&& 63)) := rfl
theorem d_Md_type_59 : decode prog_12_method_3_code 59 = .ok (.lshr, 1) := by decide +kernel
set_option maxRecDepth 100000 in
theorem c_Md_type_60 : ct_Md_type 60 = ka_cl (255) 3 := rfl
theorem d_Md_type_60 : decode prog_12_method_3_code 60 = .ok (.ldc2_w 101, 3) := by decide +kernel
set_option maxRecDepth 100000 in
theorem c_Md_type_63 : ct_Md_type 63 = ka_ll2 (fun x y => x &&& y) := rfl
theorem d_Md_type_63 : decode prog_12_method_3_code 63 = .ok (.land, 1) := by decide +kernel
set_option maxRecDepth 100000 in
theorem c_Md_type_64 : ct_Md_type 64 = ka_l2i := rfl
theorem d_Md_type_64 : decode prog_12_method_3_code 64 = .ok (.l2i, 1) := by decide +kernel
set_option maxRecDepth 100000 in
theorem c_Md_type_65 : ct_Md_type 65 = ka_iast := rfl
theorem d_Md_type_65 : decode prog_12_method_3_code 65 = .ok (.iastore, 1) := by decide +kernel
set_option maxRecDepth 100000 in
theorem c_Md_type_66 : ct_Md_type 66 = ka_al 0 1 := rfl
theorem d_Md_type_66 : decode prog_12_method_3_code 66 = .ok (.aload_n 0, 1) := by decide +kernel
set_option maxRecDepth 100000 in
theorem c_Md_type_67 : ct_Md_type 67 = ka_dup := rfl
theorem d_Md_type_67 : decode prog_12_method_3_code 67 = .ok (.dup, 1) := by decide +kernel
set_option maxRecDepth 100000 in
theorem c_Md_type_68 : ct_Md_type 68 = ka_get 10 3 := rfl
theorem d_Md_type_68 : decode prog_12_method_3_code 68 = .ok (.getfield 98, 3) := by decide +kernel
set_option maxRecDepth 100000 in
theorem c_Md_type_71 : ct_Md_type 71 = ka_ci (nI 1) 1 := rfl
theorem d_Md_type_71 : decode prog_12_method_3_code 71 = .ok (.iconst 1, 1) := by decide +kernel
set_option maxRecDepth 100000 in
theorem c_Md_type_72 : ct_Md_type 72 = ka_ii (fun x y => x + y) := rfl
theorem d_Md_type_72 : decode prog_12_method_3_code 72 = .ok (.iadd, 1) := by decide +kernel
set_option maxRecDepth 100000 in
theorem c_Md_type_73 : ct_Md_type 73 = ka_put 10 3 .int := rfl
theorem d_Md_type_73 : decode prog_12_method_3_code 73 = .ok (.putfield 98, 3) := by decide +kernel
set_option maxRecDepth 100000 in
theorem c_Md_type_76 : ct_Md_type 76 = ka_inc 4 (-1) := rfl
theorem d_Md_type_76 : decode prog_12_method_3_code 76 = .ok (.iinc 4 (-1), 3) := by decide +kernel
set_option maxRecDepth 100000 in
theorem c_Md_type_79 : ct_Md_type 79 = ka_goto 40 := rfl
theorem d_Md_type_79 : decode prog_12_method_3_code 79 = .ok (.goto (-39), 3) := by decide +kernel
set_option maxRecDepth 100000 in
theorem c_Md_type_82 : ct_Md_type 82 = ka_al 0 1 := rfl
theorem d_Md_type_82 : decode prog_12_method_3_code 82 = .ok (.aload_n 0, 1) := by decide +kernel
set_option maxRecDepth 100000 in
theorem c_Md_type_83 : ct_Md_type 83 = ka_get 10 3 := rfl
theorem d_Md_type_83 : decode prog_12_method_3_code 83 = .ok (.getfield 98, 3) := by decide +kernel
set_option maxRecDepth 100000 in
theorem c_Md_type_86 : ct_Md_type 86 = ka_ri := rfl
theorem d_Md_type_86 : decode prog_12_method_3_code 86 = .ok (.ireturn, 1) := by decide +kernel
set_option maxRecDepth 100000 in
set_option maxHeartbeats 4000000 in
theorem s_Md_type_60 : ∀ pc, pc < 60 → kc_Sim kt kw_A kw_N kt_cl kt_En "DirectoryDeskModel" prog_12_method_3_code 5 (some .int) "type" none pc (ct_Md_type pc) := by
  let P : Nat → Prop := fun pc => kc_Sim kt kw_A kw_N kt_cl kt_En "DirectoryDeskModel" prog_12_method_3_code 5 (some .int) "type" none pc (ct_Md_type pc)
  exact kc_case (P := P) (kc_se c_Md_type_59 (sm_lshr d_Md_type_59)) (
  kc_case (P := P) (kc_se c_Md_type_58 (sm_imul d_Md_type_58)) (
  kc_case (P := P) (kc_se rfl sm_no) (
  kc_case (P := P) (kc_se c_Md_type_56 (sm_iload d_Md_type_56)) (
  kc_case (P := P) (kc_se rfl sm_no) (
  kc_case (P := P) (kc_se c_Md_type_54 (sm_bipush d_Md_type_54 (by decide))) (
  kc_case (P := P) (kc_se c_Md_type_53 (sm_lload_n d_Md_type_53 rfl)) (
  kc_case (P := P) (kc_se rfl sm_no) (
  kc_case (P := P) (kc_se rfl sm_no) (
  kc_case (P := P) (kc_se c_Md_type_50 (sm_get (ci := 10) (C := "DirectoryDeskModel") (F := kF_Md) rfl kin_Md (Nat.le_of_ble_eq_true rfl) d_Md_type_50 (kw3 186 rfl rfl))) (
  kc_case (P := P) (kc_se c_Md_type_49 (sm_aload_n d_Md_type_49 rfl)) (
  kc_case (P := P) (kc_se rfl sm_no) (
  kc_case (P := P) (kc_se rfl sm_no) (
  kc_case (P := P) (kc_se c_Md_type_46 (sm_get (ci := 10) (C := "DirectoryDeskModel") (F := kF_Md) rfl kin_Md (Nat.le_of_ble_eq_true rfl) d_Md_type_46 (kw3 185 rfl rfl))) (
  kc_case (P := P) (kc_se c_Md_type_45 (sm_aload_n d_Md_type_45 rfl)) (
  kc_case (P := P) (kc_se rfl sm_no) (
  kc_case (P := P) (kc_se rfl sm_no) (
  kc_case (P := P) (kc_se c_Md_type_42 (sm_if_lt d_Md_type_42 (by decide))) (
  kc_case (P := P) (kc_se rfl sm_no) (
  kc_case (P := P) (kc_se c_Md_type_40 (sm_iload d_Md_type_40)) (
  kc_case (P := P) (kc_se rfl sm_no) (
  kc_case (P := P) (kc_se c_Md_type_38 (sm_istore d_Md_type_38 (Nat.le_of_ble_eq_true rfl))) (
  kc_case (P := P) (kc_se c_Md_type_37 (sm_isub d_Md_type_37)) (
  kc_case (P := P) (kc_se c_Md_type_36 (sm_iconst d_Md_type_36 (by decide))) (
  kc_case (P := P) (kc_se c_Md_type_35 (sm_iload_n d_Md_type_35 rfl)) (
  kc_case (P := P) (kc_se c_Md_type_34 (sm_ri d_Md_type_34 rfl)) (
  kc_case (P := P) (kc_se rfl sm_no) (
  kc_case (P := P) (kc_se c_Md_type_32 (sm_bipush d_Md_type_32 (by decide))) (
  kc_case (P := P) (kc_se rfl sm_no) (
  kc_case (P := P) (kc_se rfl sm_no) (
  kc_case (P := P) (kc_se c_Md_type_29 (sm_cm_le d_Md_type_29 (by decide))) (
  kc_case (P := P) (kc_se rfl sm_no) (
  kc_case (P := P) (kc_se rfl sm_no) (
  kc_case (P := P) (kc_se c_Md_type_26 (sm_sipush d_Md_type_26 (by decide))) (
  kc_case (P := P) (kc_se c_Md_type_25 (sm_iadd d_Md_type_25)) (
  kc_case (P := P) (kc_se c_Md_type_24 (sm_iload_n d_Md_type_24 rfl)) (
  kc_case (P := P) (kc_se rfl sm_no) (
  kc_case (P := P) (kc_se rfl sm_no) (
  kc_case (P := P) (kc_se c_Md_type_21 (sm_get (ci := 10) (C := "DirectoryDeskModel") (F := kF_Md) rfl kin_Md (Nat.le_of_ble_eq_true rfl) d_Md_type_21 (kw3 186 rfl rfl))) (
  kc_case (P := P) (kc_se c_Md_type_20 (sm_aload_n d_Md_type_20 rfl)) (
  kc_case (P := P) (kc_se rfl sm_no) (
  kc_case (P := P) (kc_se rfl sm_no) (
  kc_case (P := P) (kc_se c_Md_type_17 (sm_cm_gt d_Md_type_17 (by decide))) (
  kc_case (P := P) (kc_se rfl sm_no) (
  kc_case (P := P) (kc_se c_Md_type_15 (sm_bipush d_Md_type_15 (by decide))) (
  kc_case (P := P) (kc_se c_Md_type_14 (sm_iload_n d_Md_type_14 rfl)) (
  kc_case (P := P) (kc_se rfl sm_no) (
  kc_case (P := P) (kc_se rfl sm_no) (
  kc_case (P := P) (kc_se c_Md_type_11 (sm_cm_lt d_Md_type_11 (by decide))) (
  kc_case (P := P) (kc_se c_Md_type_10 (sm_iconst d_Md_type_10 (by decide))) (
  kc_case (P := P) (kc_se c_Md_type_9 (sm_iload_n d_Md_type_9 rfl)) (
  kc_case (P := P) (kc_se c_Md_type_8 (sm_ri d_Md_type_8 rfl)) (
  kc_case (P := P) (kc_se c_Md_type_7 (sm_iconst d_Md_type_7 (by decide))) (
  kc_case (P := P) (kc_se rfl sm_no) (
  kc_case (P := P) (kc_se rfl sm_no) (
  kc_case (P := P) (kc_se c_Md_type_4 (sm_if_eq d_Md_type_4 (by decide))) (
  kc_case (P := P) (kc_se rfl sm_no) (
  kc_case (P := P) (kc_se rfl sm_no) (
  kc_case (P := P) (kc_se c_Md_type_1 (sm_get (ci := 10) (C := "DirectoryDeskModel") (F := kF_Md) rfl kin_Md (Nat.le_of_ble_eq_true rfl) d_Md_type_1 (kw3 183 rfl rfl))) (
  kc_case (P := P) (kc_se c_Md_type_0 (sm_aload_n d_Md_type_0 rfl)) (
  kc_case0))))))))))))))))))))))))))))))))))))))))))))))))))))))))))))
set_option maxRecDepth 100000 in
set_option maxHeartbeats 4000000 in
theorem s_Md_type_87 : ∀ pc, pc < 87 → kc_Sim kt kw_A kw_N kt_cl kt_En "DirectoryDeskModel" prog_12_method_3_code 5 (some .int) "type" none pc (ct_Md_type pc) := by
  let P : Nat → Prop := fun pc => kc_Sim kt kw_A kw_N kt_cl kt_En "DirectoryDeskModel" prog_12_method_3_code 5 (some .int) "type" none pc (ct_Md_type pc)
  exact kc_case (P := P) (kc_se c_Md_type_86 (sm_ri d_Md_type_86 rfl)) (
  kc_case (P := P) (kc_se rfl sm_no) (
  kc_case (P := P) (kc_se rfl sm_no) (
  kc_case (P := P) (kc_se c_Md_type_83 (sm_get (ci := 10) (C := "DirectoryDeskModel") (F := kF_Md) rfl kin_Md (Nat.le_of_ble_eq_true rfl) d_Md_type_83 (kw3 186 rfl rfl))) (
  kc_case (P := P) (kc_se c_Md_type_82 (sm_aload_n d_Md_type_82 rfl)) (
  kc_case (P := P) (kc_se rfl sm_no) (
  kc_case (P := P) (kc_se rfl sm_no) (
  kc_case (P := P) (kc_se c_Md_type_79 (sm_goto d_Md_type_79 (by decide))) (
  kc_case (P := P) (kc_se rfl sm_no) (
  kc_case (P := P) (kc_se rfl sm_no) (
  kc_case (P := P) (kc_se c_Md_type_76 (sm_inc d_Md_type_76 (by decide) (Nat.le_of_ble_eq_true rfl))) (
  kc_case (P := P) (kc_se rfl sm_no) (
  kc_case (P := P) (kc_se rfl sm_no) (
  kc_case (P := P) (kc_se c_Md_type_73 (sm_put (ci := 10) (C := "DirectoryDeskModel") (F := kF_Md) rfl kin_Md kty_Md ktk_Md knm_Md (Nat.le_of_ble_eq_true rfl) (by decide +kernel) d_Md_type_73 (kw3 186 rfl rfl) rfl)) (
  kc_case (P := P) (kc_se c_Md_type_72 (sm_iadd d_Md_type_72)) (
  kc_case (P := P) (kc_se c_Md_type_71 (sm_iconst d_Md_type_71 (by decide))) (
  kc_case (P := P) (kc_se rfl sm_no) (
  kc_case (P := P) (kc_se rfl sm_no) (
  kc_case (P := P) (kc_se c_Md_type_68 (sm_get (ci := 10) (C := "DirectoryDeskModel") (F := kF_Md) rfl kin_Md (Nat.le_of_ble_eq_true rfl) d_Md_type_68 (kw3 186 rfl rfl))) (
  kc_case (P := P) (kc_se c_Md_type_67 (sm_dup d_Md_type_67)) (
  kc_case (P := P) (kc_se c_Md_type_66 (sm_aload_n d_Md_type_66 rfl)) (
  kc_case (P := P) (kc_se c_Md_type_65 (sm_iast d_Md_type_65)) (
  kc_case (P := P) (kc_se c_Md_type_64 (sm_l2i d_Md_type_64)) (
  kc_case (P := P) (kc_se c_Md_type_63 (sm_land d_Md_type_63)) (
  kc_case (P := P) (kc_se rfl sm_no) (
  kc_case (P := P) (kc_se rfl sm_no) (
  kc_case (P := P) (kc_se c_Md_type_60 (sm_ldc2 d_Md_type_60 (kw4 108 rfl rfl))) (
  s_Md_type_60)))))))))))))))))))))))))))
set_option maxRecDepth 100000 in
theorem ka_nth_no_Md_type (pc : Nat) (h : 87 ≤ pc) : ct_Md_type pc = ka_no := ka_nth_ge _ pc (Nat.le_trans (Nat.le_of_eq (by rfl)) h)
theorem s_Md_type (pc : Nat) : kc_Sim kt kw_A kw_N kt_cl kt_En "DirectoryDeskModel" prog_12_method_3_code 5 (some .int) "type" none pc (ct_Md_type pc) := (Nat.lt_or_ge pc 87).elim (s_Md_type_87 pc) (fun h => kc_se (ka_nth_no_Md_type pc h) sm_no)
