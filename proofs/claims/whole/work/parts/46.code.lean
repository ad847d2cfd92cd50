/-! code of methods, decode rows, and that the JVM follows (by program) -/
def cl_Lw_law_0 (b N : Nat) (xs : Nat → Int32) : List kc_A := [ka_new 0 10 [.null, .null, .null, .null, .null, .null, .null, .null, .int 0, .int 0], ka_no, ka_no, ka_dup, ka_cx 0 0 135 2133, ka_no, ka_no, ka_as 1 1, ka_new 10 52 [.int 0, .int 0, .null, .int 0, .null, .int 0, .int 0, .null, .null, .null, .null, .null, .null, .int 0, .int 0, .int 0, .int 0, .int 0, .int 0, .int 0, .int 0, .null, .null, .int 0, .int 0, .int 0, .int 0, .int 0, .int 0, .int 0, .int 0, .int 0, .int 0, .int 0, .null, .null, .null, .null, .int 0, .null, .int 0, .null, .null, .null, .null, .null, .int 0, .null, .null, .int 0, .null, .null], ka_no, ka_no, ka_dup, ka_cx 96 0 24 1288, ka_no, ka_no, ka_as 2 1, ka_ci (nI 0) 1, ka_is 3 1, ka_il 3 1, ka_sl 0 1, ka_sln b N, ka_ci (nI 4) 1, ka_ii (fun x y => x - y), ka_cm (fun x y => y < x) 351, ka_no, ka_no, ka_sl 0 1, ka_il 3 1, ka_sld b N xs, ka_ci (nI 15) 2, ka_no, ka_ii (fun x y => x &&& y), ka_sw (fun x => if x = nI 0 then 92 else if x = nI 1 then 103 else if x = nI 2 then 166 else if x = nI 3 then 179 else if x = nI 4 then 192 else if x = nI 5 then 216 else if x = nI 6 then 229 else if x = nI 7 then 252 else if x = nI 8 then 285 else if x = nI 9 then 319 else if x = nI 10 then 332 else 345), ka_no, ka_no, ka_no, ka_no, ka_no, ka_no, ka_no, ka_no, ka_no, ka_no, ka_no, ka_no, ka_no, ka_no, ka_no, ka_no, ka_no, ka_no, ka_no, ka_no, ka_no, ka_no, ka_no, ka_no, ka_no, ka_no, ka_no]
def cl_Lw_law_1 (b N : Nat) (xs : Nat → Int32) : List kc_A := [ka_no, ka_no, ka_no, ka_no, ka_no, ka_no, ka_no, ka_no, ka_no, ka_no, ka_no, ka_no, ka_no, ka_no, ka_no, ka_no, ka_no, ka_no, ka_no, ka_no, ka_no, ka_no, ka_no, ka_no, ka_no, ka_no, ka_no, ka_no, ka_no, ka_no, ka_no, ka_no, ka_al 1 1, ka_cv 1 0 0 0 0, ka_no, ka_no, ka_al 2 1, ka_cv 97 0 10 0 0, ka_no, ka_no, ka_goto 345, ka_no, ka_no, ka_al 1 1, ka_sl 0 1, ka_il 3 1, ka_ci (nI 1) 1, ka_ii (fun x y => x + y), ka_sld b N xs, ka_i2l, ka_ci (nI 32) 2, ka_no, ka_lsh (fun x y => x <<< (y.toInt64 &&& 63)), ka_sl 0 1, ka_il 3 1, ka_ci (nI 2) 1, ka_ii (fun x y => x + y), ka_sld b N xs, ka_i2l, ka_cl (4294967295) 3]
def cl_Lw_law_2 (b N : Nat) (xs : Nat → Int32) : List kc_A := [ka_no, ka_no, ka_ll2 (fun x y => x &&& y), ka_ll2 (fun x y => x ||| y), ka_sl 0 1, ka_il 3 1, ka_ci (nI 3) 1, ka_ii (fun x y => x + y), ka_sld b N xs, ka_cv 2 2 0 0 0, ka_no, ka_no, ka_al 2 1, ka_sl 0 1, ka_il 3 1, ka_ci (nI 1) 1, ka_ii (fun x y => x + y), ka_sld b N xs, ka_i2l, ka_ci (nI 32) 2, ka_no, ka_lsh (fun x y => x <<< (y.toInt64 &&& 63)), ka_sl 0 1, ka_il 3 1, ka_ci (nI 2) 1, ka_ii (fun x y => x + y), ka_sld b N xs, ka_i2l, ka_cl (4294967295) 3, ka_no, ka_no, ka_ll2 (fun x y => x &&& y), ka_ll2 (fun x y => x ||| y), ka_sl 0 1, ka_il 3 1, ka_ci (nI 3) 1, ka_ii (fun x y => x + y), ka_sld b N xs, ka_cv 98 2 10 0 0, ka_no, ka_no, ka_cm (fun x y => x = y) 345, ka_no, ka_no, ka_ci (nI 0) 1, ka_rz, ka_al 1 1, ka_cv 3 0 0 0 0, ka_no, ka_no, ka_al 2 1, ka_cv 150 0 10 0 0, ka_no, ka_no, ka_cm (fun x y => x = y) 345, ka_no, ka_no, ka_ci (nI 0) 1, ka_rz, ka_al 1 1]
def cl_Lw_law_3 (b N : Nat) (xs : Nat → Int32) : List kc_A := [ka_cv 4 0 0 0 0, ka_no, ka_no, ka_al 2 1, ka_cv 151 0 10 0 0, ka_no, ka_no, ka_cm (fun x y => x = y) 345, ka_no, ka_no, ka_ci (nI 0) 1, ka_rz, ka_al 1 1, ka_sl 0 1, ka_il 3 1, ka_ci (nI 1) 1, ka_ii (fun x y => x + y), ka_sld b N xs, ka_cv 5 1 0 0 0, ka_no, ka_no, ka_al 2 1, ka_sl 0 1, ka_il 3 1, ka_ci (nI 1) 1, ka_ii (fun x y => x + y), ka_sld b N xs, ka_cv 152 1 10 0 0, ka_no, ka_no, ka_lcmp, ka_if (fun x => x = 0) 345, ka_no, ka_no, ka_ci (nI 0) 1, ka_rz, ka_al 1 1, ka_cv 6 0 0 0 0, ka_no, ka_no, ka_al 2 1, ka_cv 153 0 10 0 0, ka_no, ka_no, ka_cm (fun x y => x = y) 345, ka_no, ka_no, ka_ci (nI 0) 1, ka_rz, ka_al 1 1, ka_sl 0 1, ka_il 3 1, ka_ci (nI 1) 1, ka_ii (fun x y => x + y), ka_sld b N xs, ka_cv 7 1 0 0 0, ka_no, ka_no, ka_al 2 1, ka_sl 0 1]
def cl_Lw_law_4 (b N : Nat) (xs : Nat → Int32) : List kc_A := [ka_il 3 1, ka_ci (nI 1) 1, ka_ii (fun x y => x + y), ka_sld b N xs, ka_cv 154 1 10 0 0, ka_no, ka_no, ka_cm (fun x y => x = y) 345, ka_no, ka_no, ka_ci (nI 0) 1, ka_rz, ka_al 1 1, ka_sl 0 1, ka_il 3 1, ka_ci (nI 1) 1, ka_ii (fun x y => x + y), ka_sld b N xs, ka_sl 0 1, ka_il 3 1, ka_ci (nI 2) 1, ka_ii (fun x y => x + y), ka_sld b N xs, ka_cv 8 2 0 0 0, ka_no, ka_no, ka_al 2 1, ka_sl 0 1, ka_il 3 1, ka_ci (nI 1) 1, ka_ii (fun x y => x + y), ka_sld b N xs, ka_sl 0 1, ka_il 3 1, ka_ci (nI 2) 1, ka_ii (fun x y => x + y), ka_sld b N xs, ka_cv 156 2 10 0 0, ka_no, ka_no, ka_cm (fun x y => x = y) 345, ka_no, ka_no, ka_ci (nI 0) 1, ka_rz, ka_al 1 1, ka_sl 0 1, ka_il 3 1, ka_ci (nI 1) 1, ka_ii (fun x y => x + y), ka_sld b N xs, ka_sl 0 1, ka_il 3 1, ka_ci (nI 2) 1, ka_ii (fun x y => x + y), ka_sld b N xs, ka_cv 9 2 0 0 0, ka_no, ka_no, ka_al 2 1]
def cl_Lw_law_5 (b N : Nat) (xs : Nat → Int32) : List kc_A := [ka_sl 0 1, ka_il 3 1, ka_ci (nI 1) 1, ka_ii (fun x y => x + y), ka_sld b N xs, ka_sl 0 1, ka_il 3 1, ka_ci (nI 2) 1, ka_ii (fun x y => x + y), ka_sld b N xs, ka_cv 157 2 10 0 0, ka_no, ka_no, ka_lcmp, ka_if (fun x => x = 0) 345, ka_no, ka_no, ka_ci (nI 0) 1, ka_rz, ka_al 1 1, ka_cv 10 0 0 0 0, ka_no, ka_no, ka_al 2 1, ka_cv 158 0 10 0 0, ka_no, ka_no, ka_cm (fun x y => x = y) 345, ka_no, ka_no, ka_ci (nI 0) 1, ka_rz, ka_al 1 1, ka_cv 11 0 0 0 0, ka_no, ka_no, ka_al 2 1, ka_cv 159 0 10 0 0, ka_no, ka_no, ka_cm (fun x y => x = y) 345, ka_no, ka_no, ka_ci (nI 0) 1, ka_rz, ka_inc 3 (nI 4), ka_no, ka_no, ka_goto 18, ka_no, ka_no, ka_ci (nI 1) 1, ka_rz]
def ct_Lw_law (b N : Nat) (xs : Nat → Int32) : Nat → kc_A := fun pc => ka_nth (cl_Lw_law_0 b N xs ++ (cl_Lw_law_1 b N xs ++ (cl_Lw_law_2 b N xs ++ (cl_Lw_law_3 b N xs ++ (cl_Lw_law_4 b N xs ++ (cl_Lw_law_5 b N xs)))))) pc
set_option maxRecDepth 100000 in
theorem c_Lw_law_0 {b N : Nat} {xs : Nat → Int32} : ct_Lw_law b N xs 0 = ka_new 0 10 [.null, .null, .null, .null, .null, .null, .null, .null, .int 0, .int 0] := rfl
theorem d_Lw_law_0 : decode code 0 = .ok (.new 7, 3) := by decide +kernel
set_option maxRecDepth 100000 in
theorem c_Lw_law_3 {b N : Nat} {xs : Nat → Int32} : ct_Lw_law b N xs 3 = ka_dup := rfl
theorem d_Lw_law_3 : decode code 3 = .ok (.dup, 1) := by decide +kernel
set_option maxRecDepth 100000 in
theorem c_Lw_law_4 {b N : Nat} {xs : Nat → Int32} : ct_Lw_law b N xs 4 = ka_cx 0 0 135 2133 := rfl
theorem d_Lw_law_4 : decode code 4 = .ok (.invokespecial 9, 3) := by decide +kernel
set_option maxRecDepth 100000 in
theorem c_Lw_law_7 {b N : Nat} {xs : Nat → Int32} : ct_Lw_law b N xs 7 = ka_as 1 1 := rfl
theorem d_Lw_law_7 : decode code 7 = .ok (.astore_n 1, 1) := by decide +kernel
set_option maxRecDepth 100000 in
theorem c_Lw_law_8 {b N : Nat} {xs : Nat → Int32} : ct_Lw_law b N xs 8 = ka_new 10 52 [.int 0, .int 0, .null, .int 0, .null, .int 0, .int 0, .null, .null, .null, .null, .null, .null, .int 0, .int 0, .int 0, .int 0, .int 0, .int 0, .int 0, .int 0, .null, .null, .int 0, .int 0, .int 0, .int 0, .int 0, .int 0, .int 0, .int 0, .int 0, .int 0, .int 0, .null, .null, .null, .null, .int 0, .null, .int 0, .null, .null, .null, .null, .null, .int 0, .null, .null, .int 0, .null, .null] := rfl
theorem d_Lw_law_8 : decode code 8 = .ok (.new 10, 3) := by decide +kernel
set_option maxRecDepth 100000 in
theorem c_Lw_law_11 {b N : Nat} {xs : Nat → Int32} : ct_Lw_law b N xs 11 = ka_dup := rfl
theorem d_Lw_law_11 : decode code 11 = .ok (.dup, 1) := by decide +kernel
set_option maxRecDepth 100000 in
theorem c_Lw_law_12 {b N : Nat} {xs : Nat → Int32} : ct_Lw_law b N xs 12 = ka_cx 96 0 24 1288 := rfl
theorem d_Lw_law_12 : decode code 12 = .ok (.invokespecial 12, 3) := by decide +kernel
set_option maxRecDepth 100000 in
theorem c_Lw_law_15 {b N : Nat} {xs : Nat → Int32} : ct_Lw_law b N xs 15 = ka_as 2 1 := rfl
theorem d_Lw_law_15 : decode code 15 = .ok (.astore_n 2, 1) := by decide +kernel
set_option maxRecDepth 100000 in
theorem c_Lw_law_16 {b N : Nat} {xs : Nat → Int32} : ct_Lw_law b N xs 16 = ka_ci (nI 0) 1 := rfl
theorem d_Lw_law_16 : decode code 16 = .ok (.iconst 0, 1) := by decide +kernel
set_option maxRecDepth 100000 in
theorem c_Lw_law_17 {b N : Nat} {xs : Nat → Int32} : ct_Lw_law b N xs 17 = ka_is 3 1 := rfl
theorem d_Lw_law_17 : decode code 17 = .ok (.istore_n 3, 1) := by decide +kernel
set_option maxRecDepth 100000 in
theorem c_Lw_law_18 {b N : Nat} {xs : Nat → Int32} : ct_Lw_law b N xs 18 = ka_il 3 1 := rfl
theorem d_Lw_law_18 : decode code 18 = .ok (.iload_n 3, 1) := by decide +kernel
set_option maxRecDepth 100000 in
theorem c_Lw_law_19 {b N : Nat} {xs : Nat → Int32} : ct_Lw_law b N xs 19 = ka_sl 0 1 := rfl
theorem d_Lw_law_19 : decode code 19 = .ok (.aload_n 0, 1) := by decide +kernel
set_option maxRecDepth 100000 in
theorem c_Lw_law_20 {b N : Nat} {xs : Nat → Int32} : ct_Lw_law b N xs 20 = ka_sln b N := rfl
theorem d_Lw_law_20 : decode code 20 = .ok (.arraylength, 1) := by decide +kernel
set_option maxRecDepth 100000 in
theorem c_Lw_law_21 {b N : Nat} {xs : Nat → Int32} : ct_Lw_law b N xs 21 = ka_ci (nI 4) 1 := rfl
theorem d_Lw_law_21 : decode code 21 = .ok (.iconst 4, 1) := by decide +kernel
set_option maxRecDepth 100000 in
theorem c_Lw_law_22 {b N : Nat} {xs : Nat → Int32} : ct_Lw_law b N xs 22 = ka_ii (fun x y => x - y) := rfl
theorem d_Lw_law_22 : decode code 22 = .ok (.isub, 1) := by decide +kernel
set_option maxRecDepth 100000 in
theorem c_Lw_law_23 {b N : Nat} {xs : Nat → Int32} : ct_Lw_law b N xs 23 = ka_cm (fun x y => y < x) 351 := rfl
theorem d_Lw_law_23 : decode code 23 = .ok (.if_icmp .gt 328, 3) := by decide +kernel
set_option maxRecDepth 100000 in
theorem c_Lw_law_26 {b N : Nat} {xs : Nat → Int32} : ct_Lw_law b N xs 26 = ka_sl 0 1 := rfl
theorem d_Lw_law_26 : decode code 26 = .ok (.aload_n 0, 1) := by decide +kernel
set_option maxRecDepth 100000 in
theorem c_Lw_law_27 {b N : Nat} {xs : Nat → Int32} : ct_Lw_law b N xs 27 = ka_il 3 1 := rfl
theorem d_Lw_law_27 : decode code 27 = .ok (.iload_n 3, 1) := by decide +kernel
set_option maxRecDepth 100000 in
theorem c_Lw_law_28 {b N : Nat} {xs : Nat → Int32} : ct_Lw_law b N xs 28 = ka_sld b N xs := rfl
theorem d_Lw_law_28 : decode code 28 = .ok (.iaload, 1) := by decide +kernel
set_option maxRecDepth 100000 in
theorem c_Lw_law_29 {b N : Nat} {xs : Nat → Int32} : ct_Lw_law b N xs 29 = ka_ci (nI 15) 2 := rfl
theorem d_Lw_law_29 : decode code 29 = .ok (.bipush 15, 2) := by decide +kernel
set_option maxRecDepth 100000 in
theorem c_Lw_law_31 {b N : Nat} {xs : Nat → Int32} : ct_Lw_law b N xs 31 = ka_ii (fun x y => x &&& y) := rfl
theorem d_Lw_law_31 : decode code 31 = .ok (.iand, 1) := by decide +kernel
set_option maxRecDepth 100000 in
theorem c_Lw_law_32 {b N : Nat} {xs : Nat → Int32} : ct_Lw_law b N xs 32 = ka_sw (fun x => if x = nI 0 then 92 else if x = nI 1 then 103 else if x = nI 2 then 166 else if x = nI 3 then 179 else if x = nI 4 then 192 else if x = nI 5 then 216 else if x = nI 6 then 229 else if x = nI 7 then 252 else if x = nI 8 then 285 else if x = nI 9 then 319 else if x = nI 10 then 332 else 345) := rfl
theorem d_Lw_law_32 : decode code 32 = .ok (.tableswitch 313 0 10 #[60, 71, 134, 147, 160, 184, 197, 220, 253, 287, 300], 60) := by decide +kernel
set_option maxRecDepth 100000 in
theorem c_Lw_law_92 {b N : Nat} {xs : Nat → Int32} : ct_Lw_law b N xs 92 = ka_al 1 1 := rfl
theorem d_Lw_law_92 : decode code 92 = .ok (.aload_n 1, 1) := by decide +kernel
set_option maxRecDepth 100000 in
theorem c_Lw_law_93 {b N : Nat} {xs : Nat → Int32} : ct_Lw_law b N xs 93 = ka_cv 1 0 0 0 0 := rfl
theorem d_Lw_law_93 : decode code 93 = .ok (.invokevirtual 13, 3) := by decide +kernel
set_option maxRecDepth 100000 in
theorem c_Lw_law_96 {b N : Nat} {xs : Nat → Int32} : ct_Lw_law b N xs 96 = ka_al 2 1 := rfl
theorem d_Lw_law_96 : decode code 96 = .ok (.aload_n 2, 1) := by decide +kernel
set_option maxRecDepth 100000 in
theorem c_Lw_law_97 {b N : Nat} {xs : Nat → Int32} : ct_Lw_law b N xs 97 = ka_cv 97 0 10 0 0 := rfl
theorem d_Lw_law_97 : decode code 97 = .ok (.invokevirtual 16, 3) := by decide +kernel
set_option maxRecDepth 100000 in
theorem c_Lw_law_100 {b N : Nat} {xs : Nat → Int32} : ct_Lw_law b N xs 100 = ka_goto 345 := rfl
theorem d_Lw_law_100 : decode code 100 = .ok (.goto 245, 3) := by decide +kernel
set_option maxRecDepth 100000 in
theorem c_Lw_law_103 {b N : Nat} {xs : Nat → Int32} : ct_Lw_law b N xs 103 = ka_al 1 1 := rfl
theorem d_Lw_law_103 : decode code 103 = .ok (.aload_n 1, 1) := by decide +kernel
set_option maxRecDepth 100000 in
theorem c_Lw_law_104 {b N : Nat} {xs : Nat → Int32} : ct_Lw_law b N xs 104 = ka_sl 0 1 := rfl
theorem d_Lw_law_104 : decode code 104 = .ok (.aload_n 0, 1) := by decide +kernel
set_option maxRecDepth 100000 in
theorem c_Lw_law_105 {b N : Nat} {xs : Nat → Int32} : ct_Lw_law b N xs 105 = ka_il 3 1 := rfl
theorem d_Lw_law_105 : decode code 105 = .ok (.iload_n 3, 1) := by decide +kernel
set_option maxRecDepth 100000 in
theorem c_Lw_law_106 {b N : Nat} {xs : Nat → Int32} : ct_Lw_law b N xs 106 = ka_ci (nI 1) 1 := rfl
theorem d_Lw_law_106 : decode code 106 = .ok (.iconst 1, 1) := by decide +kernel
set_option maxRecDepth 100000 in
theorem c_Lw_law_107 {b N : Nat} {xs : Nat → Int32} : ct_Lw_law b N xs 107 = ka_ii (fun x y => x + y) := rfl
theorem d_Lw_law_107 : decode code 107 = .ok (.iadd, 1) := by decide +kernel
set_option maxRecDepth 100000 in
theorem c_Lw_law_108 {b N : Nat} {xs : Nat → Int32} : ct_Lw_law b N xs 108 = ka_sld b N xs := rfl
theorem d_Lw_law_108 : decode code 108 = .ok (.iaload, 1) := by decide +kernel
set_option maxRecDepth 100000 in
theorem c_Lw_law_109 {b N : Nat} {xs : Nat → Int32} : ct_Lw_law b N xs 109 = ka_i2l := rfl
theorem d_Lw_law_109 : decode code 109 = .ok (.i2l, 1) := by decide +kernel
set_option maxRecDepth 100000 in
theorem c_Lw_law_110 {b N : Nat} {xs : Nat → Int32} : ct_Lw_law b N xs 110 = ka_ci (nI 32) 2 := rfl
theorem d_Lw_law_110 : decode code 110 = .ok (.bipush 32, 2) := by decide +kernel
set_option maxRecDepth 100000 in
theorem c_Lw_law_112 {b N : Nat} {xs : Nat → Int32} : ct_Lw_law b N xs 112 = ka_lsh (fun x y => x <<< (y.toInt64 &&& 63)) := rfl
theorem d_Lw_law_112 : decode code 112 = .ok (.lshl, 1) := by decide +kernel
set_option maxRecDepth 100000 in
theorem c_Lw_law_113 {b N : Nat} {xs : Nat → Int32} : ct_Lw_law b N xs 113 = ka_sl 0 1 := rfl
theorem d_Lw_law_113 : decode code 113 = .ok (.aload_n 0, 1) := by decide +kernel
set_option maxRecDepth 100000 in
theorem c_Lw_law_114 {b N : Nat} {xs : Nat → Int32} : ct_Lw_law b N xs 114 = ka_il 3 1 := rfl
theorem d_Lw_law_114 : decode code 114 = .ok (.iload_n 3, 1) := by decide +kernel
set_option maxRecDepth 100000 in
theorem c_Lw_law_115 {b N : Nat} {xs : Nat → Int32} : ct_Lw_law b N xs 115 = ka_ci (nI 2) 1 := rfl
theorem d_Lw_law_115 : decode code 115 = .ok (.iconst 2, 1) := by decide +kernel
set_option maxRecDepth 100000 in
theorem c_Lw_law_116 {b N : Nat} {xs : Nat → Int32} : ct_Lw_law b N xs 116 = ka_ii (fun x y => x + y) := rfl
theorem d_Lw_law_116 : decode code 116 = .ok (.iadd, 1) := by decide +kernel
set_option maxRecDepth 100000 in
theorem c_Lw_law_117 {b N : Nat} {xs : Nat → Int32} : ct_Lw_law b N xs 117 = ka_sld b N xs := rfl
theorem d_Lw_law_117 : decode code 117 = .ok (.iaload, 1) := by decide +kernel
set_option maxRecDepth 100000 in
theorem c_Lw_law_118 {b N : Nat} {xs : Nat → Int32} : ct_Lw_law b N xs 118 = ka_i2l := rfl
theorem d_Lw_law_118 : decode code 118 = .ok (.i2l, 1) := by decide +kernel
set_option maxRecDepth 100000 in
theorem c_Lw_law_119 {b N : Nat} {xs : Nat → Int32} : ct_Lw_law b N xs 119 = ka_cl (4294967295) 3 := rfl
theorem d_Lw_law_119 : decode code 119 = .ok (.ldc2_w 17, 3) := by decide +kernel
set_option maxRecDepth 100000 in
theorem c_Lw_law_122 {b N : Nat} {xs : Nat → Int32} : ct_Lw_law b N xs 122 = ka_ll2 (fun x y => x &&& y) := rfl
theorem d_Lw_law_122 : decode code 122 = .ok (.land, 1) := by decide +kernel
set_option maxRecDepth 100000 in
theorem c_Lw_law_123 {b N : Nat} {xs : Nat → Int32} : ct_Lw_law b N xs 123 = ka_ll2 (fun x y => x ||| y) := rfl
theorem d_Lw_law_123 : decode code 123 = .ok (.lor, 1) := by decide +kernel
set_option maxRecDepth 100000 in
theorem c_Lw_law_124 {b N : Nat} {xs : Nat → Int32} : ct_Lw_law b N xs 124 = ka_sl 0 1 := rfl
theorem d_Lw_law_124 : decode code 124 = .ok (.aload_n 0, 1) := by decide +kernel
set_option maxRecDepth 100000 in
theorem c_Lw_law_125 {b N : Nat} {xs : Nat → Int32} : ct_Lw_law b N xs 125 = ka_il 3 1 := rfl
theorem d_Lw_law_125 : decode code 125 = .ok (.iload_n 3, 1) := by decide +kernel
set_option maxRecDepth 100000 in
theorem c_Lw_law_126 {b N : Nat} {xs : Nat → Int32} : ct_Lw_law b N xs 126 = ka_ci (nI 3) 1 := rfl
theorem d_Lw_law_126 : decode code 126 = .ok (.iconst 3, 1) := by decide +kernel
set_option maxRecDepth 100000 in
theorem c_Lw_law_127 {b N : Nat} {xs : Nat → Int32} : ct_Lw_law b N xs 127 = ka_ii (fun x y => x + y) := rfl
theorem d_Lw_law_127 : decode code 127 = .ok (.iadd, 1) := by decide +kernel
set_option maxRecDepth 100000 in
theorem c_Lw_law_128 {b N : Nat} {xs : Nat → Int32} : ct_Lw_law b N xs 128 = ka_sld b N xs := rfl
theorem d_Lw_law_128 : decode code 128 = .ok (.iaload, 1) := by decide +kernel
set_option maxRecDepth 100000 in
theorem c_Lw_law_129 {b N : Nat} {xs : Nat → Int32} : ct_Lw_law b N xs 129 = ka_cv 2 2 0 0 0 := rfl
theorem d_Lw_law_129 : decode code 129 = .ok (.invokevirtual 19, 3) := by decide +kernel
set_option maxRecDepth 100000 in
theorem c_Lw_law_132 {b N : Nat} {xs : Nat → Int32} : ct_Lw_law b N xs 132 = ka_al 2 1 := rfl
theorem d_Lw_law_132 : decode code 132 = .ok (.aload_n 2, 1) := by decide +kernel
set_option maxRecDepth 100000 in
theorem c_Lw_law_133 {b N : Nat} {xs : Nat → Int32} : ct_Lw_law b N xs 133 = ka_sl 0 1 := rfl
theorem d_Lw_law_133 : decode code 133 = .ok (.aload_n 0, 1) := by decide +kernel
set_option maxRecDepth 100000 in
theorem c_Lw_law_134 {b N : Nat} {xs : Nat → Int32} : ct_Lw_law b N xs 134 = ka_il 3 1 := rfl
theorem d_Lw_law_134 : decode code 134 = .ok (.iload_n 3, 1) := by decide +kernel
set_option maxRecDepth 100000 in
theorem c_Lw_law_135 {b N : Nat} {xs : Nat → Int32} : ct_Lw_law b N xs 135 = ka_ci (nI 1) 1 := rfl
theorem d_Lw_law_135 : decode code 135 = .ok (.iconst 1, 1) := by decide +kernel
set_option maxRecDepth 100000 in
theorem c_Lw_law_136 {b N : Nat} {xs : Nat → Int32} : ct_Lw_law b N xs 136 = ka_ii (fun x y => x + y) := rfl
theorem d_Lw_law_136 : decode code 136 = .ok (.iadd, 1) := by decide +kernel
set_option maxRecDepth 100000 in
theorem c_Lw_law_137 {b N : Nat} {xs : Nat → Int32} : ct_Lw_law b N xs 137 = ka_sld b N xs := rfl
theorem d_Lw_law_137 : decode code 137 = .ok (.iaload, 1) := by decide +kernel
set_option maxRecDepth 100000 in
theorem c_Lw_law_138 {b N : Nat} {xs : Nat → Int32} : ct_Lw_law b N xs 138 = ka_i2l := rfl
theorem d_Lw_law_138 : decode code 138 = .ok (.i2l, 1) := by decide +kernel
set_option maxRecDepth 100000 in
theorem c_Lw_law_139 {b N : Nat} {xs : Nat → Int32} : ct_Lw_law b N xs 139 = ka_ci (nI 32) 2 := rfl
theorem d_Lw_law_139 : decode code 139 = .ok (.bipush 32, 2) := by decide +kernel
set_option maxRecDepth 100000 in
theorem c_Lw_law_141 {b N : Nat} {xs : Nat → Int32} : ct_Lw_law b N xs 141 = ka_lsh (fun x y => x <<< (y.toInt64 &&& 63)) := rfl
theorem d_Lw_law_141 : decode code 141 = .ok (.lshl, 1) := by decide +kernel
set_option maxRecDepth 100000 in
theorem c_Lw_law_142 {b N : Nat} {xs : Nat → Int32} : ct_Lw_law b N xs 142 = ka_sl 0 1 := rfl
theorem d_Lw_law_142 : decode code 142 = .ok (.aload_n 0, 1) := by decide +kernel
set_option maxRecDepth 100000 in
theorem c_Lw_law_143 {b N : Nat} {xs : Nat → Int32} : ct_Lw_law b N xs 143 = ka_il 3 1 := rfl
theorem d_Lw_law_143 : decode code 143 = .ok (.iload_n 3, 1) := by decide +kernel
set_option maxRecDepth 100000 in
theorem c_Lw_law_144 {b N : Nat} {xs : Nat → Int32} : ct_Lw_law b N xs 144 = ka_ci (nI 2) 1 := rfl
theorem d_Lw_law_144 : decode code 144 = .ok (.iconst 2, 1) := by decide +kernel
set_option maxRecDepth 100000 in
theorem c_Lw_law_145 {b N : Nat} {xs : Nat → Int32} : ct_Lw_law b N xs 145 = ka_ii (fun x y => x + y) := rfl
theorem d_Lw_law_145 : decode code 145 = .ok (.iadd, 1) := by decide +kernel
set_option maxRecDepth 100000 in
theorem c_Lw_law_146 {b N : Nat} {xs : Nat → Int32} : ct_Lw_law b N xs 146 = ka_sld b N xs := rfl
theorem d_Lw_law_146 : decode code 146 = .ok (.iaload, 1) := by decide +kernel
set_option maxRecDepth 100000 in
theorem c_Lw_law_147 {b N : Nat} {xs : Nat → Int32} : ct_Lw_law b N xs 147 = ka_i2l := rfl
theorem d_Lw_law_147 : decode code 147 = .ok (.i2l, 1) := by decide +kernel
set_option maxRecDepth 100000 in
theorem c_Lw_law_148 {b N : Nat} {xs : Nat → Int32} : ct_Lw_law b N xs 148 = ka_cl (4294967295) 3 := rfl
theorem d_Lw_law_148 : decode code 148 = .ok (.ldc2_w 17, 3) := by decide +kernel
set_option maxRecDepth 100000 in
theorem c_Lw_law_151 {b N : Nat} {xs : Nat → Int32} : ct_Lw_law b N xs 151 = ka_ll2 (fun x y => x &&& y) := rfl
theorem d_Lw_law_151 : decode code 151 = .ok (.land, 1) := by decide +kernel
set_option maxRecDepth 100000 in
theorem c_Lw_law_152 {b N : Nat} {xs : Nat → Int32} : ct_Lw_law b N xs 152 = ka_ll2 (fun x y => x ||| y) := rfl
theorem d_Lw_law_152 : decode code 152 = .ok (.lor, 1) := by decide +kernel
set_option maxRecDepth 100000 in
theorem c_Lw_law_153 {b N : Nat} {xs : Nat → Int32} : ct_Lw_law b N xs 153 = ka_sl 0 1 := rfl
theorem d_Lw_law_153 : decode code 153 = .ok (.aload_n 0, 1) := by decide +kernel
set_option maxRecDepth 100000 in
theorem c_Lw_law_154 {b N : Nat} {xs : Nat → Int32} : ct_Lw_law b N xs 154 = ka_il 3 1 := rfl
theorem d_Lw_law_154 : decode code 154 = .ok (.iload_n 3, 1) := by decide +kernel
set_option maxRecDepth 100000 in
theorem c_Lw_law_155 {b N : Nat} {xs : Nat → Int32} : ct_Lw_law b N xs 155 = ka_ci (nI 3) 1 := rfl
theorem d_Lw_law_155 : decode code 155 = .ok (.iconst 3, 1) := by decide +kernel
set_option maxRecDepth 100000 in
theorem c_Lw_law_156 {b N : Nat} {xs : Nat → Int32} : ct_Lw_law b N xs 156 = ka_ii (fun x y => x + y) := rfl
theorem d_Lw_law_156 : decode code 156 = .ok (.iadd, 1) := by decide +kernel
set_option maxRecDepth 100000 in
theorem c_Lw_law_157 {b N : Nat} {xs : Nat → Int32} : ct_Lw_law b N xs 157 = ka_sld b N xs := rfl
theorem d_Lw_law_157 : decode code 157 = .ok (.iaload, 1) := by decide +kernel
set_option maxRecDepth 100000 in
theorem c_Lw_law_158 {b N : Nat} {xs : Nat → Int32} : ct_Lw_law b N xs 158 = ka_cv 98 2 10 0 0 := rfl
theorem d_Lw_law_158 : decode code 158 = .ok (.invokevirtual 23, 3) := by decide +kernel
set_option maxRecDepth 100000 in
theorem c_Lw_law_161 {b N : Nat} {xs : Nat → Int32} : ct_Lw_law b N xs 161 = ka_cm (fun x y => x = y) 345 := rfl
theorem d_Lw_law_161 : decode code 161 = .ok (.if_icmp .eq 184, 3) := by decide +kernel
set_option maxRecDepth 100000 in
theorem c_Lw_law_164 {b N : Nat} {xs : Nat → Int32} : ct_Lw_law b N xs 164 = ka_ci (nI 0) 1 := rfl
theorem d_Lw_law_164 : decode code 164 = .ok (.iconst 0, 1) := by decide +kernel
set_option maxRecDepth 100000 in
theorem c_Lw_law_165 {b N : Nat} {xs : Nat → Int32} : ct_Lw_law b N xs 165 = ka_rz := rfl
theorem d_Lw_law_165 : decode code 165 = .ok (.ireturn, 1) := by decide +kernel
set_option maxRecDepth 100000 in
theorem c_Lw_law_166 {b N : Nat} {xs : Nat → Int32} : ct_Lw_law b N xs 166 = ka_al 1 1 := rfl
theorem d_Lw_law_166 : decode code 166 = .ok (.aload_n 1, 1) := by decide +kernel
set_option maxRecDepth 100000 in
theorem c_Lw_law_167 {b N : Nat} {xs : Nat → Int32} : ct_Lw_law b N xs 167 = ka_cv 3 0 0 0 0 := rfl
theorem d_Lw_law_167 : decode code 167 = .ok (.invokevirtual 24, 3) := by decide +kernel
set_option maxRecDepth 100000 in
theorem c_Lw_law_170 {b N : Nat} {xs : Nat → Int32} : ct_Lw_law b N xs 170 = ka_al 2 1 := rfl
theorem d_Lw_law_170 : decode code 170 = .ok (.aload_n 2, 1) := by decide +kernel
set_option maxRecDepth 100000 in
theorem c_Lw_law_171 {b N : Nat} {xs : Nat → Int32} : ct_Lw_law b N xs 171 = ka_cv 150 0 10 0 0 := rfl
theorem d_Lw_law_171 : decode code 171 = .ok (.invokevirtual 28, 3) := by decide +kernel
set_option maxRecDepth 100000 in
theorem c_Lw_law_174 {b N : Nat} {xs : Nat → Int32} : ct_Lw_law b N xs 174 = ka_cm (fun x y => x = y) 345 := rfl
theorem d_Lw_law_174 : decode code 174 = .ok (.if_icmp .eq 171, 3) := by decide +kernel
set_option maxRecDepth 100000 in
theorem c_Lw_law_177 {b N : Nat} {xs : Nat → Int32} : ct_Lw_law b N xs 177 = ka_ci (nI 0) 1 := rfl
theorem d_Lw_law_177 : decode code 177 = .ok (.iconst 0, 1) := by decide +kernel
set_option maxRecDepth 100000 in
theorem c_Lw_law_178 {b N : Nat} {xs : Nat → Int32} : ct_Lw_law b N xs 178 = ka_rz := rfl
theorem d_Lw_law_178 : decode code 178 = .ok (.ireturn, 1) := by decide +kernel
set_option maxRecDepth 100000 in
theorem c_Lw_law_179 {b N : Nat} {xs : Nat → Int32} : ct_Lw_law b N xs 179 = ka_al 1 1 := rfl
theorem d_Lw_law_179 : decode code 179 = .ok (.aload_n 1, 1) := by decide +kernel
set_option maxRecDepth 100000 in
theorem c_Lw_law_180 {b N : Nat} {xs : Nat → Int32} : ct_Lw_law b N xs 180 = ka_cv 4 0 0 0 0 := rfl
theorem d_Lw_law_180 : decode code 180 = .ok (.invokevirtual 29, 3) := by decide +kernel
set_option maxRecDepth 100000 in
theorem c_Lw_law_183 {b N : Nat} {xs : Nat → Int32} : ct_Lw_law b N xs 183 = ka_al 2 1 := rfl
theorem d_Lw_law_183 : decode code 183 = .ok (.aload_n 2, 1) := by decide +kernel
set_option maxRecDepth 100000 in
theorem c_Lw_law_184 {b N : Nat} {xs : Nat → Int32} : ct_Lw_law b N xs 184 = ka_cv 151 0 10 0 0 := rfl
theorem d_Lw_law_184 : decode code 184 = .ok (.invokevirtual 32, 3) := by decide +kernel
set_option maxRecDepth 100000 in
theorem c_Lw_law_187 {b N : Nat} {xs : Nat → Int32} : ct_Lw_law b N xs 187 = ka_cm (fun x y => x = y) 345 := rfl
theorem d_Lw_law_187 : decode code 187 = .ok (.if_icmp .eq 158, 3) := by decide +kernel
set_option maxRecDepth 100000 in
theorem c_Lw_law_190 {b N : Nat} {xs : Nat → Int32} : ct_Lw_law b N xs 190 = ka_ci (nI 0) 1 := rfl
theorem d_Lw_law_190 : decode code 190 = .ok (.iconst 0, 1) := by decide +kernel
set_option maxRecDepth 100000 in
theorem c_Lw_law_191 {b N : Nat} {xs : Nat → Int32} : ct_Lw_law b N xs 191 = ka_rz := rfl
theorem d_Lw_law_191 : decode code 191 = .ok (.ireturn, 1) := by decide +kernel
set_option maxRecDepth 100000 in
theorem c_Lw_law_192 {b N : Nat} {xs : Nat → Int32} : ct_Lw_law b N xs 192 = ka_al 1 1 := rfl
theorem d_Lw_law_192 : decode code 192 = .ok (.aload_n 1, 1) := by decide +kernel
set_option maxRecDepth 100000 in
theorem c_Lw_law_193 {b N : Nat} {xs : Nat → Int32} : ct_Lw_law b N xs 193 = ka_sl 0 1 := rfl
theorem d_Lw_law_193 : decode code 193 = .ok (.aload_n 0, 1) := by decide +kernel
set_option maxRecDepth 100000 in
theorem c_Lw_law_194 {b N : Nat} {xs : Nat → Int32} : ct_Lw_law b N xs 194 = ka_il 3 1 := rfl
theorem d_Lw_law_194 : decode code 194 = .ok (.iload_n 3, 1) := by decide +kernel
set_option maxRecDepth 100000 in
theorem c_Lw_law_195 {b N : Nat} {xs : Nat → Int32} : ct_Lw_law b N xs 195 = ka_ci (nI 1) 1 := rfl
theorem d_Lw_law_195 : decode code 195 = .ok (.iconst 1, 1) := by decide +kernel
set_option maxRecDepth 100000 in
theorem c_Lw_law_196 {b N : Nat} {xs : Nat → Int32} : ct_Lw_law b N xs 196 = ka_ii (fun x y => x + y) := rfl
theorem d_Lw_law_196 : decode code 196 = .ok (.iadd, 1) := by decide +kernel
set_option maxRecDepth 100000 in
theorem c_Lw_law_197 {b N : Nat} {xs : Nat → Int32} : ct_Lw_law b N xs 197 = ka_sld b N xs := rfl
theorem d_Lw_law_197 : decode code 197 = .ok (.iaload, 1) := by decide +kernel
set_option maxRecDepth 100000 in
theorem c_Lw_law_198 {b N : Nat} {xs : Nat → Int32} : ct_Lw_law b N xs 198 = ka_cv 5 1 0 0 0 := rfl
theorem d_Lw_law_198 : decode code 198 = .ok (.invokevirtual 33, 3) := by decide +kernel
set_option maxRecDepth 100000 in
theorem c_Lw_law_201 {b N : Nat} {xs : Nat → Int32} : ct_Lw_law b N xs 201 = ka_al 2 1 := rfl
theorem d_Lw_law_201 : decode code 201 = .ok (.aload_n 2, 1) := by decide +kernel
set_option maxRecDepth 100000 in
theorem c_Lw_law_202 {b N : Nat} {xs : Nat → Int32} : ct_Lw_law b N xs 202 = ka_sl 0 1 := rfl
theorem d_Lw_law_202 : decode code 202 = .ok (.aload_n 0, 1) := by decide +kernel
set_option maxRecDepth 100000 in
theorem c_Lw_law_203 {b N : Nat} {xs : Nat → Int32} : ct_Lw_law b N xs 203 = ka_il 3 1 := rfl
theorem d_Lw_law_203 : decode code 203 = .ok (.iload_n 3, 1) := by decide +kernel
set_option maxRecDepth 100000 in
theorem c_Lw_law_204 {b N : Nat} {xs : Nat → Int32} : ct_Lw_law b N xs 204 = ka_ci (nI 1) 1 := rfl
theorem d_Lw_law_204 : decode code 204 = .ok (.iconst 1, 1) := by decide +kernel
set_option maxRecDepth 100000 in
theorem c_Lw_law_205 {b N : Nat} {xs : Nat → Int32} : ct_Lw_law b N xs 205 = ka_ii (fun x y => x + y) := rfl
theorem d_Lw_law_205 : decode code 205 = .ok (.iadd, 1) := by decide +kernel
set_option maxRecDepth 100000 in
theorem c_Lw_law_206 {b N : Nat} {xs : Nat → Int32} : ct_Lw_law b N xs 206 = ka_sld b N xs := rfl
theorem d_Lw_law_206 : decode code 206 = .ok (.iaload, 1) := by decide +kernel
set_option maxRecDepth 100000 in
theorem c_Lw_law_207 {b N : Nat} {xs : Nat → Int32} : ct_Lw_law b N xs 207 = ka_cv 152 1 10 0 0 := rfl
theorem d_Lw_law_207 : decode code 207 = .ok (.invokevirtual 37, 3) := by decide +kernel
set_option maxRecDepth 100000 in
theorem c_Lw_law_210 {b N : Nat} {xs : Nat → Int32} : ct_Lw_law b N xs 210 = ka_lcmp := rfl
theorem d_Lw_law_210 : decode code 210 = .ok (.lcmp, 1) := by decide +kernel
set_option maxRecDepth 100000 in
theorem c_Lw_law_211 {b N : Nat} {xs : Nat → Int32} : ct_Lw_law b N xs 211 = ka_if (fun x => x = 0) 345 := rfl
theorem d_Lw_law_211 : decode code 211 = .ok (.ifCond .eq 134, 3) := by decide +kernel
set_option maxRecDepth 100000 in
theorem c_Lw_law_214 {b N : Nat} {xs : Nat → Int32} : ct_Lw_law b N xs 214 = ka_ci (nI 0) 1 := rfl
theorem d_Lw_law_214 : decode code 214 = .ok (.iconst 0, 1) := by decide +kernel
set_option maxRecDepth 100000 in
theorem c_Lw_law_215 {b N : Nat} {xs : Nat → Int32} : ct_Lw_law b N xs 215 = ka_rz := rfl
theorem d_Lw_law_215 : decode code 215 = .ok (.ireturn, 1) := by decide +kernel
set_option maxRecDepth 100000 in
theorem c_Lw_law_216 {b N : Nat} {xs : Nat → Int32} : ct_Lw_law b N xs 216 = ka_al 1 1 := rfl
theorem d_Lw_law_216 : decode code 216 = .ok (.aload_n 1, 1) := by decide +kernel
set_option maxRecDepth 100000 in
theorem c_Lw_law_217 {b N : Nat} {xs : Nat → Int32} : ct_Lw_law b N xs 217 = ka_cv 6 0 0 0 0 := rfl
theorem d_Lw_law_217 : decode code 217 = .ok (.invokevirtual 38, 3) := by decide +kernel
set_option maxRecDepth 100000 in
theorem c_Lw_law_220 {b N : Nat} {xs : Nat → Int32} : ct_Lw_law b N xs 220 = ka_al 2 1 := rfl
theorem d_Lw_law_220 : decode code 220 = .ok (.aload_n 2, 1) := by decide +kernel
set_option maxRecDepth 100000 in
theorem c_Lw_law_221 {b N : Nat} {xs : Nat → Int32} : ct_Lw_law b N xs 221 = ka_cv 153 0 10 0 0 := rfl
theorem d_Lw_law_221 : decode code 221 = .ok (.invokevirtual 41, 3) := by decide +kernel
set_option maxRecDepth 100000 in
theorem c_Lw_law_224 {b N : Nat} {xs : Nat → Int32} : ct_Lw_law b N xs 224 = ka_cm (fun x y => x = y) 345 := rfl
theorem d_Lw_law_224 : decode code 224 = .ok (.if_icmp .eq 121, 3) := by decide +kernel
set_option maxRecDepth 100000 in
theorem c_Lw_law_227 {b N : Nat} {xs : Nat → Int32} : ct_Lw_law b N xs 227 = ka_ci (nI 0) 1 := rfl
theorem d_Lw_law_227 : decode code 227 = .ok (.iconst 0, 1) := by decide +kernel
set_option maxRecDepth 100000 in
theorem c_Lw_law_228 {b N : Nat} {xs : Nat → Int32} : ct_Lw_law b N xs 228 = ka_rz := rfl
theorem d_Lw_law_228 : decode code 228 = .ok (.ireturn, 1) := by decide +kernel
set_option maxRecDepth 100000 in
theorem c_Lw_law_229 {b N : Nat} {xs : Nat → Int32} : ct_Lw_law b N xs 229 = ka_al 1 1 := rfl
theorem d_Lw_law_229 : decode code 229 = .ok (.aload_n 1, 1) := by decide +kernel
set_option maxRecDepth 100000 in
theorem c_Lw_law_230 {b N : Nat} {xs : Nat → Int32} : ct_Lw_law b N xs 230 = ka_sl 0 1 := rfl
theorem d_Lw_law_230 : decode code 230 = .ok (.aload_n 0, 1) := by decide +kernel
set_option maxRecDepth 100000 in
theorem c_Lw_law_231 {b N : Nat} {xs : Nat → Int32} : ct_Lw_law b N xs 231 = ka_il 3 1 := rfl
theorem d_Lw_law_231 : decode code 231 = .ok (.iload_n 3, 1) := by decide +kernel
set_option maxRecDepth 100000 in
theorem c_Lw_law_232 {b N : Nat} {xs : Nat → Int32} : ct_Lw_law b N xs 232 = ka_ci (nI 1) 1 := rfl
theorem d_Lw_law_232 : decode code 232 = .ok (.iconst 1, 1) := by decide +kernel
set_option maxRecDepth 100000 in
theorem c_Lw_law_233 {b N : Nat} {xs : Nat → Int32} : ct_Lw_law b N xs 233 = ka_ii (fun x y => x + y) := rfl
theorem d_Lw_law_233 : decode code 233 = .ok (.iadd, 1) := by decide +kernel
set_option maxRecDepth 100000 in
theorem c_Lw_law_234 {b N : Nat} {xs : Nat → Int32} : ct_Lw_law b N xs 234 = ka_sld b N xs := rfl
theorem d_Lw_law_234 : decode code 234 = .ok (.iaload, 1) := by decide +kernel
set_option maxRecDepth 100000 in
theorem c_Lw_law_235 {b N : Nat} {xs : Nat → Int32} : ct_Lw_law b N xs 235 = ka_cv 7 1 0 0 0 := rfl
theorem d_Lw_law_235 : decode code 235 = .ok (.invokevirtual 42, 3) := by decide +kernel
set_option maxRecDepth 100000 in
theorem c_Lw_law_238 {b N : Nat} {xs : Nat → Int32} : ct_Lw_law b N xs 238 = ka_al 2 1 := rfl
theorem d_Lw_law_238 : decode code 238 = .ok (.aload_n 2, 1) := by decide +kernel
set_option maxRecDepth 100000 in
theorem c_Lw_law_239 {b N : Nat} {xs : Nat → Int32} : ct_Lw_law b N xs 239 = ka_sl 0 1 := rfl
theorem d_Lw_law_239 : decode code 239 = .ok (.aload_n 0, 1) := by decide +kernel
set_option maxRecDepth 100000 in
theorem c_Lw_law_240 {b N : Nat} {xs : Nat → Int32} : ct_Lw_law b N xs 240 = ka_il 3 1 := rfl
theorem d_Lw_law_240 : decode code 240 = .ok (.iload_n 3, 1) := by decide +kernel
set_option maxRecDepth 100000 in
theorem c_Lw_law_241 {b N : Nat} {xs : Nat → Int32} : ct_Lw_law b N xs 241 = ka_ci (nI 1) 1 := rfl
theorem d_Lw_law_241 : decode code 241 = .ok (.iconst 1, 1) := by decide +kernel
set_option maxRecDepth 100000 in
theorem c_Lw_law_242 {b N : Nat} {xs : Nat → Int32} : ct_Lw_law b N xs 242 = ka_ii (fun x y => x + y) := rfl
theorem d_Lw_law_242 : decode code 242 = .ok (.iadd, 1) := by decide +kernel
set_option maxRecDepth 100000 in
theorem c_Lw_law_243 {b N : Nat} {xs : Nat → Int32} : ct_Lw_law b N xs 243 = ka_sld b N xs := rfl
theorem d_Lw_law_243 : decode code 243 = .ok (.iaload, 1) := by decide +kernel
set_option maxRecDepth 100000 in
theorem c_Lw_law_244 {b N : Nat} {xs : Nat → Int32} : ct_Lw_law b N xs 244 = ka_cv 154 1 10 0 0 := rfl
theorem d_Lw_law_244 : decode code 244 = .ok (.invokevirtual 46, 3) := by decide +kernel
set_option maxRecDepth 100000 in
theorem c_Lw_law_247 {b N : Nat} {xs : Nat → Int32} : ct_Lw_law b N xs 247 = ka_cm (fun x y => x = y) 345 := rfl
theorem d_Lw_law_247 : decode code 247 = .ok (.if_icmp .eq 98, 3) := by decide +kernel
set_option maxRecDepth 100000 in
theorem c_Lw_law_250 {b N : Nat} {xs : Nat → Int32} : ct_Lw_law b N xs 250 = ka_ci (nI 0) 1 := rfl
theorem d_Lw_law_250 : decode code 250 = .ok (.iconst 0, 1) := by decide +kernel
set_option maxRecDepth 100000 in
theorem c_Lw_law_251 {b N : Nat} {xs : Nat → Int32} : ct_Lw_law b N xs 251 = ka_rz := rfl
theorem d_Lw_law_251 : decode code 251 = .ok (.ireturn, 1) := by decide +kernel
set_option maxRecDepth 100000 in
theorem c_Lw_law_252 {b N : Nat} {xs : Nat → Int32} : ct_Lw_law b N xs 252 = ka_al 1 1 := rfl
theorem d_Lw_law_252 : decode code 252 = .ok (.aload_n 1, 1) := by decide +kernel
set_option maxRecDepth 100000 in
theorem c_Lw_law_253 {b N : Nat} {xs : Nat → Int32} : ct_Lw_law b N xs 253 = ka_sl 0 1 := rfl
theorem d_Lw_law_253 : decode code 253 = .ok (.aload_n 0, 1) := by decide +kernel
set_option maxRecDepth 100000 in
theorem c_Lw_law_254 {b N : Nat} {xs : Nat → Int32} : ct_Lw_law b N xs 254 = ka_il 3 1 := rfl
theorem d_Lw_law_254 : decode code 254 = .ok (.iload_n 3, 1) := by decide +kernel
set_option maxRecDepth 100000 in
theorem c_Lw_law_255 {b N : Nat} {xs : Nat → Int32} : ct_Lw_law b N xs 255 = ka_ci (nI 1) 1 := rfl
theorem d_Lw_law_255 : decode code 255 = .ok (.iconst 1, 1) := by decide +kernel
set_option maxRecDepth 100000 in
theorem c_Lw_law_256 {b N : Nat} {xs : Nat → Int32} : ct_Lw_law b N xs 256 = ka_ii (fun x y => x + y) := rfl
theorem d_Lw_law_256 : decode code 256 = .ok (.iadd, 1) := by decide +kernel
set_option maxRecDepth 100000 in
theorem c_Lw_law_257 {b N : Nat} {xs : Nat → Int32} : ct_Lw_law b N xs 257 = ka_sld b N xs := rfl
theorem d_Lw_law_257 : decode code 257 = .ok (.iaload, 1) := by decide +kernel
set_option maxRecDepth 100000 in
theorem c_Lw_law_258 {b N : Nat} {xs : Nat → Int32} : ct_Lw_law b N xs 258 = ka_sl 0 1 := rfl
theorem d_Lw_law_258 : decode code 258 = .ok (.aload_n 0, 1) := by decide +kernel
set_option maxRecDepth 100000 in
theorem c_Lw_law_259 {b N : Nat} {xs : Nat → Int32} : ct_Lw_law b N xs 259 = ka_il 3 1 := rfl
theorem d_Lw_law_259 : decode code 259 = .ok (.iload_n 3, 1) := by decide +kernel
set_option maxRecDepth 100000 in
theorem c_Lw_law_260 {b N : Nat} {xs : Nat → Int32} : ct_Lw_law b N xs 260 = ka_ci (nI 2) 1 := rfl
theorem d_Lw_law_260 : decode code 260 = .ok (.iconst 2, 1) := by decide +kernel
set_option maxRecDepth 100000 in
theorem c_Lw_law_261 {b N : Nat} {xs : Nat → Int32} : ct_Lw_law b N xs 261 = ka_ii (fun x y => x + y) := rfl
theorem d_Lw_law_261 : decode code 261 = .ok (.iadd, 1) := by decide +kernel
set_option maxRecDepth 100000 in
theorem c_Lw_law_262 {b N : Nat} {xs : Nat → Int32} : ct_Lw_law b N xs 262 = ka_sld b N xs := rfl
theorem d_Lw_law_262 : decode code 262 = .ok (.iaload, 1) := by decide +kernel
set_option maxRecDepth 100000 in
theorem c_Lw_law_263 {b N : Nat} {xs : Nat → Int32} : ct_Lw_law b N xs 263 = ka_cv 8 2 0 0 0 := rfl
theorem d_Lw_law_263 : decode code 263 = .ok (.invokevirtual 47, 3) := by decide +kernel
set_option maxRecDepth 100000 in
theorem c_Lw_law_266 {b N : Nat} {xs : Nat → Int32} : ct_Lw_law b N xs 266 = ka_al 2 1 := rfl
theorem d_Lw_law_266 : decode code 266 = .ok (.aload_n 2, 1) := by decide +kernel
set_option maxRecDepth 100000 in
theorem c_Lw_law_267 {b N : Nat} {xs : Nat → Int32} : ct_Lw_law b N xs 267 = ka_sl 0 1 := rfl
theorem d_Lw_law_267 : decode code 267 = .ok (.aload_n 0, 1) := by decide +kernel
set_option maxRecDepth 100000 in
theorem c_Lw_law_268 {b N : Nat} {xs : Nat → Int32} : ct_Lw_law b N xs 268 = ka_il 3 1 := rfl
theorem d_Lw_law_268 : decode code 268 = .ok (.iload_n 3, 1) := by decide +kernel
set_option maxRecDepth 100000 in
theorem c_Lw_law_269 {b N : Nat} {xs : Nat → Int32} : ct_Lw_law b N xs 269 = ka_ci (nI 1) 1 := rfl
theorem d_Lw_law_269 : decode code 269 = .ok (.iconst 1, 1) := by decide +kernel
set_option maxRecDepth 100000 in
theorem c_Lw_law_270 {b N : Nat} {xs : Nat → Int32} : ct_Lw_law b N xs 270 = ka_ii (fun x y => x + y) := rfl
theorem d_Lw_law_270 : decode code 270 = .ok (.iadd, 1) := by decide +kernel
set_option maxRecDepth 100000 in
theorem c_Lw_law_271 {b N : Nat} {xs : Nat → Int32} : ct_Lw_law b N xs 271 = ka_sld b N xs := rfl
theorem d_Lw_law_271 : decode code 271 = .ok (.iaload, 1) := by decide +kernel
set_option maxRecDepth 100000 in
theorem c_Lw_law_272 {b N : Nat} {xs : Nat → Int32} : ct_Lw_law b N xs 272 = ka_sl 0 1 := rfl
theorem d_Lw_law_272 : decode code 272 = .ok (.aload_n 0, 1) := by decide +kernel
set_option maxRecDepth 100000 in
theorem c_Lw_law_273 {b N : Nat} {xs : Nat → Int32} : ct_Lw_law b N xs 273 = ka_il 3 1 := rfl
theorem d_Lw_law_273 : decode code 273 = .ok (.iload_n 3, 1) := by decide +kernel
set_option maxRecDepth 100000 in
theorem c_Lw_law_274 {b N : Nat} {xs : Nat → Int32} : ct_Lw_law b N xs 274 = ka_ci (nI 2) 1 := rfl
theorem d_Lw_law_274 : decode code 274 = .ok (.iconst 2, 1) := by decide +kernel
set_option maxRecDepth 100000 in
theorem c_Lw_law_275 {b N : Nat} {xs : Nat → Int32} : ct_Lw_law b N xs 275 = ka_ii (fun x y => x + y) := rfl
theorem d_Lw_law_275 : decode code 275 = .ok (.iadd, 1) := by decide +kernel
set_option maxRecDepth 100000 in
theorem c_Lw_law_276 {b N : Nat} {xs : Nat → Int32} : ct_Lw_law b N xs 276 = ka_sld b N xs := rfl
theorem d_Lw_law_276 : decode code 276 = .ok (.iaload, 1) := by decide +kernel
set_option maxRecDepth 100000 in
theorem c_Lw_law_277 {b N : Nat} {xs : Nat → Int32} : ct_Lw_law b N xs 277 = ka_cv 156 2 10 0 0 := rfl
theorem d_Lw_law_277 : decode code 277 = .ok (.invokevirtual 51, 3) := by decide +kernel
set_option maxRecDepth 100000 in
theorem c_Lw_law_280 {b N : Nat} {xs : Nat → Int32} : ct_Lw_law b N xs 280 = ka_cm (fun x y => x = y) 345 := rfl
theorem d_Lw_law_280 : decode code 280 = .ok (.if_icmp .eq 65, 3) := by decide +kernel
set_option maxRecDepth 100000 in
theorem c_Lw_law_283 {b N : Nat} {xs : Nat → Int32} : ct_Lw_law b N xs 283 = ka_ci (nI 0) 1 := rfl
theorem d_Lw_law_283 : decode code 283 = .ok (.iconst 0, 1) := by decide +kernel
set_option maxRecDepth 100000 in
theorem c_Lw_law_284 {b N : Nat} {xs : Nat → Int32} : ct_Lw_law b N xs 284 = ka_rz := rfl
theorem d_Lw_law_284 : decode code 284 = .ok (.ireturn, 1) := by decide +kernel
set_option maxRecDepth 100000 in
theorem c_Lw_law_285 {b N : Nat} {xs : Nat → Int32} : ct_Lw_law b N xs 285 = ka_al 1 1 := rfl
theorem d_Lw_law_285 : decode code 285 = .ok (.aload_n 1, 1) := by decide +kernel
set_option maxRecDepth 100000 in
theorem c_Lw_law_286 {b N : Nat} {xs : Nat → Int32} : ct_Lw_law b N xs 286 = ka_sl 0 1 := rfl
theorem d_Lw_law_286 : decode code 286 = .ok (.aload_n 0, 1) := by decide +kernel
set_option maxRecDepth 100000 in
theorem c_Lw_law_287 {b N : Nat} {xs : Nat → Int32} : ct_Lw_law b N xs 287 = ka_il 3 1 := rfl
theorem d_Lw_law_287 : decode code 287 = .ok (.iload_n 3, 1) := by decide +kernel
set_option maxRecDepth 100000 in
theorem c_Lw_law_288 {b N : Nat} {xs : Nat → Int32} : ct_Lw_law b N xs 288 = ka_ci (nI 1) 1 := rfl
theorem d_Lw_law_288 : decode code 288 = .ok (.iconst 1, 1) := by decide +kernel
set_option maxRecDepth 100000 in
theorem c_Lw_law_289 {b N : Nat} {xs : Nat → Int32} : ct_Lw_law b N xs 289 = ka_ii (fun x y => x + y) := rfl
theorem d_Lw_law_289 : decode code 289 = .ok (.iadd, 1) := by decide +kernel
set_option maxRecDepth 100000 in
theorem c_Lw_law_290 {b N : Nat} {xs : Nat → Int32} : ct_Lw_law b N xs 290 = ka_sld b N xs := rfl
theorem d_Lw_law_290 : decode code 290 = .ok (.iaload, 1) := by decide +kernel
set_option maxRecDepth 100000 in
theorem c_Lw_law_291 {b N : Nat} {xs : Nat → Int32} : ct_Lw_law b N xs 291 = ka_sl 0 1 := rfl
theorem d_Lw_law_291 : decode code 291 = .ok (.aload_n 0, 1) := by decide +kernel
set_option maxRecDepth 100000 in
theorem c_Lw_law_292 {b N : Nat} {xs : Nat → Int32} : ct_Lw_law b N xs 292 = ka_il 3 1 := rfl
theorem d_Lw_law_292 : decode code 292 = .ok (.iload_n 3, 1) := by decide +kernel
set_option maxRecDepth 100000 in
theorem c_Lw_law_293 {b N : Nat} {xs : Nat → Int32} : ct_Lw_law b N xs 293 = ka_ci (nI 2) 1 := rfl
theorem d_Lw_law_293 : decode code 293 = .ok (.iconst 2, 1) := by decide +kernel
set_option maxRecDepth 100000 in
theorem c_Lw_law_294 {b N : Nat} {xs : Nat → Int32} : ct_Lw_law b N xs 294 = ka_ii (fun x y => x + y) := rfl
theorem d_Lw_law_294 : decode code 294 = .ok (.iadd, 1) := by decide +kernel
set_option maxRecDepth 100000 in
theorem c_Lw_law_295 {b N : Nat} {xs : Nat → Int32} : ct_Lw_law b N xs 295 = ka_sld b N xs := rfl
theorem d_Lw_law_295 : decode code 295 = .ok (.iaload, 1) := by decide +kernel
set_option maxRecDepth 100000 in
theorem c_Lw_law_296 {b N : Nat} {xs : Nat → Int32} : ct_Lw_law b N xs 296 = ka_cv 9 2 0 0 0 := rfl
theorem d_Lw_law_296 : decode code 296 = .ok (.invokevirtual 52, 3) := by decide +kernel
set_option maxRecDepth 100000 in
theorem c_Lw_law_299 {b N : Nat} {xs : Nat → Int32} : ct_Lw_law b N xs 299 = ka_al 2 1 := rfl
theorem d_Lw_law_299 : decode code 299 = .ok (.aload_n 2, 1) := by decide +kernel
set_option maxRecDepth 100000 in
theorem c_Lw_law_300 {b N : Nat} {xs : Nat → Int32} : ct_Lw_law b N xs 300 = ka_sl 0 1 := rfl
theorem d_Lw_law_300 : decode code 300 = .ok (.aload_n 0, 1) := by decide +kernel
set_option maxRecDepth 100000 in
theorem c_Lw_law_301 {b N : Nat} {xs : Nat → Int32} : ct_Lw_law b N xs 301 = ka_il 3 1 := rfl
theorem d_Lw_law_301 : decode code 301 = .ok (.iload_n 3, 1) := by decide +kernel
set_option maxRecDepth 100000 in
theorem c_Lw_law_302 {b N : Nat} {xs : Nat → Int32} : ct_Lw_law b N xs 302 = ka_ci (nI 1) 1 := rfl
theorem d_Lw_law_302 : decode code 302 = .ok (.iconst 1, 1) := by decide +kernel
set_option maxRecDepth 100000 in
theorem c_Lw_law_303 {b N : Nat} {xs : Nat → Int32} : ct_Lw_law b N xs 303 = ka_ii (fun x y => x + y) := rfl
theorem d_Lw_law_303 : decode code 303 = .ok (.iadd, 1) := by decide +kernel
set_option maxRecDepth 100000 in
theorem c_Lw_law_304 {b N : Nat} {xs : Nat → Int32} : ct_Lw_law b N xs 304 = ka_sld b N xs := rfl
theorem d_Lw_law_304 : decode code 304 = .ok (.iaload, 1) := by decide +kernel
set_option maxRecDepth 100000 in
theorem c_Lw_law_305 {b N : Nat} {xs : Nat → Int32} : ct_Lw_law b N xs 305 = ka_sl 0 1 := rfl
theorem d_Lw_law_305 : decode code 305 = .ok (.aload_n 0, 1) := by decide +kernel
set_option maxRecDepth 100000 in
theorem c_Lw_law_306 {b N : Nat} {xs : Nat → Int32} : ct_Lw_law b N xs 306 = ka_il 3 1 := rfl
theorem d_Lw_law_306 : decode code 306 = .ok (.iload_n 3, 1) := by decide +kernel
set_option maxRecDepth 100000 in
theorem c_Lw_law_307 {b N : Nat} {xs : Nat → Int32} : ct_Lw_law b N xs 307 = ka_ci (nI 2) 1 := rfl
theorem d_Lw_law_307 : decode code 307 = .ok (.iconst 2, 1) := by decide +kernel
set_option maxRecDepth 100000 in
theorem c_Lw_law_308 {b N : Nat} {xs : Nat → Int32} : ct_Lw_law b N xs 308 = ka_ii (fun x y => x + y) := rfl
theorem d_Lw_law_308 : decode code 308 = .ok (.iadd, 1) := by decide +kernel
set_option maxRecDepth 100000 in
theorem c_Lw_law_309 {b N : Nat} {xs : Nat → Int32} : ct_Lw_law b N xs 309 = ka_sld b N xs := rfl
theorem d_Lw_law_309 : decode code 309 = .ok (.iaload, 1) := by decide +kernel
set_option maxRecDepth 100000 in
theorem c_Lw_law_310 {b N : Nat} {xs : Nat → Int32} : ct_Lw_law b N xs 310 = ka_cv 157 2 10 0 0 := rfl
theorem d_Lw_law_310 : decode code 310 = .ok (.invokevirtual 56, 3) := by decide +kernel
set_option maxRecDepth 100000 in
theorem c_Lw_law_313 {b N : Nat} {xs : Nat → Int32} : ct_Lw_law b N xs 313 = ka_lcmp := rfl
theorem d_Lw_law_313 : decode code 313 = .ok (.lcmp, 1) := by decide +kernel
set_option maxRecDepth 100000 in
theorem c_Lw_law_314 {b N : Nat} {xs : Nat → Int32} : ct_Lw_law b N xs 314 = ka_if (fun x => x = 0) 345 := rfl
theorem d_Lw_law_314 : decode code 314 = .ok (.ifCond .eq 31, 3) := by decide +kernel
set_option maxRecDepth 100000 in
theorem c_Lw_law_317 {b N : Nat} {xs : Nat → Int32} : ct_Lw_law b N xs 317 = ka_ci (nI 0) 1 := rfl
theorem d_Lw_law_317 : decode code 317 = .ok (.iconst 0, 1) := by decide +kernel
set_option maxRecDepth 100000 in
theorem c_Lw_law_318 {b N : Nat} {xs : Nat → Int32} : ct_Lw_law b N xs 318 = ka_rz := rfl
theorem d_Lw_law_318 : decode code 318 = .ok (.ireturn, 1) := by decide +kernel
set_option maxRecDepth 100000 in
theorem c_Lw_law_319 {b N : Nat} {xs : Nat → Int32} : ct_Lw_law b N xs 319 = ka_al 1 1 := rfl
theorem d_Lw_law_319 : decode code 319 = .ok (.aload_n 1, 1) := by decide +kernel
set_option maxRecDepth 100000 in
theorem c_Lw_law_320 {b N : Nat} {xs : Nat → Int32} : ct_Lw_law b N xs 320 = ka_cv 10 0 0 0 0 := rfl
theorem d_Lw_law_320 : decode code 320 = .ok (.invokevirtual 57, 3) := by decide +kernel
set_option maxRecDepth 100000 in
theorem c_Lw_law_323 {b N : Nat} {xs : Nat → Int32} : ct_Lw_law b N xs 323 = ka_al 2 1 := rfl
theorem d_Lw_law_323 : decode code 323 = .ok (.aload_n 2, 1) := by decide +kernel
set_option maxRecDepth 100000 in
theorem c_Lw_law_324 {b N : Nat} {xs : Nat → Int32} : ct_Lw_law b N xs 324 = ka_cv 158 0 10 0 0 := rfl
theorem d_Lw_law_324 : decode code 324 = .ok (.invokevirtual 61, 3) := by decide +kernel
set_option maxRecDepth 100000 in
theorem c_Lw_law_327 {b N : Nat} {xs : Nat → Int32} : ct_Lw_law b N xs 327 = ka_cm (fun x y => x = y) 345 := rfl
theorem d_Lw_law_327 : decode code 327 = .ok (.if_icmp .eq 18, 3) := by decide +kernel
set_option maxRecDepth 100000 in
theorem c_Lw_law_330 {b N : Nat} {xs : Nat → Int32} : ct_Lw_law b N xs 330 = ka_ci (nI 0) 1 := rfl
theorem d_Lw_law_330 : decode code 330 = .ok (.iconst 0, 1) := by decide +kernel
set_option maxRecDepth 100000 in
theorem c_Lw_law_331 {b N : Nat} {xs : Nat → Int32} : ct_Lw_law b N xs 331 = ka_rz := rfl
theorem d_Lw_law_331 : decode code 331 = .ok (.ireturn, 1) := by decide +kernel
set_option maxRecDepth 100000 in
theorem c_Lw_law_332 {b N : Nat} {xs : Nat → Int32} : ct_Lw_law b N xs 332 = ka_al 1 1 := rfl
theorem d_Lw_law_332 : decode code 332 = .ok (.aload_n 1, 1) := by decide +kernel
set_option maxRecDepth 100000 in
theorem c_Lw_law_333 {b N : Nat} {xs : Nat → Int32} : ct_Lw_law b N xs 333 = ka_cv 11 0 0 0 0 := rfl
theorem d_Lw_law_333 : decode code 333 = .ok (.invokevirtual 62, 3) := by decide +kernel
set_option maxRecDepth 100000 in
theorem c_Lw_law_336 {b N : Nat} {xs : Nat → Int32} : ct_Lw_law b N xs 336 = ka_al 2 1 := rfl
theorem d_Lw_law_336 : decode code 336 = .ok (.aload_n 2, 1) := by decide +kernel
set_option maxRecDepth 100000 in
theorem c_Lw_law_337 {b N : Nat} {xs : Nat → Int32} : ct_Lw_law b N xs 337 = ka_cv 159 0 10 0 0 := rfl
theorem d_Lw_law_337 : decode code 337 = .ok (.invokevirtual 65, 3) := by decide +kernel
set_option maxRecDepth 100000 in
theorem c_Lw_law_340 {b N : Nat} {xs : Nat → Int32} : ct_Lw_law b N xs 340 = ka_cm (fun x y => x = y) 345 := rfl
theorem d_Lw_law_340 : decode code 340 = .ok (.if_icmp .eq 5, 3) := by decide +kernel
set_option maxRecDepth 100000 in
theorem c_Lw_law_343 {b N : Nat} {xs : Nat → Int32} : ct_Lw_law b N xs 343 = ka_ci (nI 0) 1 := rfl
theorem d_Lw_law_343 : decode code 343 = .ok (.iconst 0, 1) := by decide +kernel
set_option maxRecDepth 100000 in
theorem c_Lw_law_344 {b N : Nat} {xs : Nat → Int32} : ct_Lw_law b N xs 344 = ka_rz := rfl
theorem d_Lw_law_344 : decode code 344 = .ok (.ireturn, 1) := by decide +kernel
set_option maxRecDepth 100000 in
theorem c_Lw_law_345 {b N : Nat} {xs : Nat → Int32} : ct_Lw_law b N xs 345 = ka_inc 3 (nI 4) := rfl
theorem d_Lw_law_345 : decode code 345 = .ok (.iinc 3 4, 3) := by decide +kernel
set_option maxRecDepth 100000 in
theorem c_Lw_law_348 {b N : Nat} {xs : Nat → Int32} : ct_Lw_law b N xs 348 = ka_goto 18 := rfl
theorem d_Lw_law_348 : decode code 348 = .ok (.goto (-330), 3) := by decide +kernel
set_option maxRecDepth 100000 in
theorem c_Lw_law_351 {b N : Nat} {xs : Nat → Int32} : ct_Lw_law b N xs 351 = ka_ci (nI 1) 1 := rfl
theorem d_Lw_law_351 : decode code 351 = .ok (.iconst 1, 1) := by decide +kernel
set_option maxRecDepth 100000 in
theorem c_Lw_law_352 {b N : Nat} {xs : Nat → Int32} : ct_Lw_law b N xs 352 = ka_rz := rfl
theorem d_Lw_law_352 : decode code 352 = .ok (.ireturn, 1) := by decide +kernel
set_option maxRecDepth 100000 in
set_option maxHeartbeats 4000000 in
theorem s_Lw_law_60 (b N : Nat) (xs : Nat → Int32) (nm : String) : ∀ pc, pc < 60 → kc_Sim kt kw_A kw_N kt_cl kt_En "DirectoryDeskLaw" code 4 (some .boolean) nm (some (b, N, xs)) pc (ct_Lw_law b N xs pc) := by
  let P : Nat → Prop := fun pc => kc_Sim kt kw_A kw_N kt_cl kt_En "DirectoryDeskLaw" code 4 (some .boolean) nm (some (b, N, xs)) pc (ct_Lw_law b N xs pc)
  exact kc_case (P := P) (kc_se rfl sm_no) (
  kc_case (P := P) (kc_se rfl sm_no) (
  kc_case (P := P) (kc_se rfl sm_no) (
  kc_case (P := P) (kc_se rfl sm_no) (
  kc_case (P := P) (kc_se rfl sm_no) (
  kc_case (P := P) (kc_se rfl sm_no) (
  kc_case (P := P) (kc_se rfl sm_no) (
  kc_case (P := P) (kc_se rfl sm_no) (
  kc_case (P := P) (kc_se rfl sm_no) (
  kc_case (P := P) (kc_se rfl sm_no) (
  kc_case (P := P) (kc_se rfl sm_no) (
  kc_case (P := P) (kc_se rfl sm_no) (
  kc_case (P := P) (kc_se rfl sm_no) (
  kc_case (P := P) (kc_se rfl sm_no) (
  kc_case (P := P) (kc_se rfl sm_no) (
  kc_case (P := P) (kc_se rfl sm_no) (
  kc_case (P := P) (kc_se rfl sm_no) (
  kc_case (P := P) (kc_se rfl sm_no) (
  kc_case (P := P) (kc_se rfl sm_no) (
  kc_case (P := P) (kc_se rfl sm_no) (
  kc_case (P := P) (kc_se rfl sm_no) (
  kc_case (P := P) (kc_se rfl sm_no) (
  kc_case (P := P) (kc_se rfl sm_no) (
  kc_case (P := P) (kc_se rfl sm_no) (
  kc_case (P := P) (kc_se rfl sm_no) (
  kc_case (P := P) (kc_se rfl sm_no) (
  kc_case (P := P) (kc_se rfl sm_no) (
  kc_case (P := P) (kc_se c_Lw_law_32 (sm_tsw d_Lw_law_32 (by
    intro x
    by_cases h0 : x = nI 0
    · subst h0; exact Or.inr ⟨by decide +kernel, by decide +kernel, 60, by decide +kernel, by decide +kernel⟩
    by_cases h1 : x = nI 1
    · subst h1; exact Or.inr ⟨by decide +kernel, by decide +kernel, 71, by decide +kernel, by decide +kernel⟩
    by_cases h2 : x = nI 2
    · subst h2; exact Or.inr ⟨by decide +kernel, by decide +kernel, 134, by decide +kernel, by decide +kernel⟩
    by_cases h3 : x = nI 3
    · subst h3; exact Or.inr ⟨by decide +kernel, by decide +kernel, 147, by decide +kernel, by decide +kernel⟩
    by_cases h4 : x = nI 4
    · subst h4; exact Or.inr ⟨by decide +kernel, by decide +kernel, 160, by decide +kernel, by decide +kernel⟩
    by_cases h5 : x = nI 5
    · subst h5; exact Or.inr ⟨by decide +kernel, by decide +kernel, 184, by decide +kernel, by decide +kernel⟩
    by_cases h6 : x = nI 6
    · subst h6; exact Or.inr ⟨by decide +kernel, by decide +kernel, 197, by decide +kernel, by decide +kernel⟩
    by_cases h7 : x = nI 7
    · subst h7; exact Or.inr ⟨by decide +kernel, by decide +kernel, 220, by decide +kernel, by decide +kernel⟩
    by_cases h8 : x = nI 8
    · subst h8; exact Or.inr ⟨by decide +kernel, by decide +kernel, 253, by decide +kernel, by decide +kernel⟩
    by_cases h9 : x = nI 9
    · subst h9; exact Or.inr ⟨by decide +kernel, by decide +kernel, 287, by decide +kernel, by decide +kernel⟩
    by_cases h10 : x = nI 10
    · subst h10; exact Or.inr ⟨by decide +kernel, by decide +kernel, 300, by decide +kernel, by decide +kernel⟩
    have g0 := lv_neT (a := 0) h0 (by decide +kernel)
    have g1 := lv_neT (a := 1) h1 (by decide +kernel)
    have g2 := lv_neT (a := 2) h2 (by decide +kernel)
    have g3 := lv_neT (a := 3) h3 (by decide +kernel)
    have g4 := lv_neT (a := 4) h4 (by decide +kernel)
    have g5 := lv_neT (a := 5) h5 (by decide +kernel)
    have g6 := lv_neT (a := 6) h6 (by decide +kernel)
    have g7 := lv_neT (a := 7) h7 (by decide +kernel)
    have g8 := lv_neT (a := 8) h8 (by decide +kernel)
    have g9 := lv_neT (a := 9) h9 (by decide +kernel)
    have g10 := lv_neT (a := 10) h10 (by decide +kernel)
    refine Or.inl ⟨by omega, ?_⟩
    show _ = ((if x = nI 0 then 92 else if x = nI 1 then 103 else if x = nI 2 then 166 else if x = nI 3 then 179 else if x = nI 4 then 192 else if x = nI 5 then 216 else if x = nI 6 then 229 else if x = nI 7 then 252 else if x = nI 8 then 285 else if x = nI 9 then 319 else if x = nI 10 then 332 else 345 : Nat) : Int)
    rw [if_neg h0, if_neg h1, if_neg h2, if_neg h3, if_neg h4, if_neg h5, if_neg h6, if_neg h7, if_neg h8, if_neg h9, if_neg h10]
    decide))) (
  kc_case (P := P) (kc_se c_Lw_law_31 (sm_iand d_Lw_law_31)) (
  kc_case (P := P) (kc_se rfl sm_no) (
  kc_case (P := P) (kc_se c_Lw_law_29 (sm_bipush d_Lw_law_29 (by decide))) (
  kc_case (P := P) (kc_se c_Lw_law_28 (sm_sld rfl d_Lw_law_28)) (
  kc_case (P := P) (kc_se c_Lw_law_27 (sm_iload_n d_Lw_law_27 rfl)) (
  kc_case (P := P) (kc_se c_Lw_law_26 (sm_sload_n d_Lw_law_26 rfl)) (
  kc_case (P := P) (kc_se rfl sm_no) (
  kc_case (P := P) (kc_se rfl sm_no) (
  kc_case (P := P) (kc_se c_Lw_law_23 (sm_cm_gt d_Lw_law_23 (by decide))) (
  kc_case (P := P) (kc_se c_Lw_law_22 (sm_isub d_Lw_law_22)) (
  kc_case (P := P) (kc_se c_Lw_law_21 (sm_iconst d_Lw_law_21 (by decide))) (
  kc_case (P := P) (kc_se c_Lw_law_20 (sm_sln rfl d_Lw_law_20)) (
  kc_case (P := P) (kc_se c_Lw_law_19 (sm_sload_n d_Lw_law_19 rfl)) (
  kc_case (P := P) (kc_se c_Lw_law_18 (sm_iload_n d_Lw_law_18 rfl)) (
  kc_case (P := P) (kc_se c_Lw_law_17 (sm_istore_n d_Lw_law_17 rfl (Nat.le_of_ble_eq_true rfl))) (
  kc_case (P := P) (kc_se c_Lw_law_16 (sm_iconst d_Lw_law_16 (by decide))) (
  kc_case (P := P) (kc_se c_Lw_law_15 (sm_astore_n d_Lw_law_15 rfl (Nat.le_of_ble_eq_true rfl))) (
  kc_case (P := P) (kc_se rfl sm_no) (
  kc_case (P := P) (kc_se rfl sm_no) (
  kc_case (P := P) (kc_se c_Lw_law_12 (sm_cx (j := 96) rfl rfl kw_o kw_g wc_Md_init (Nat.le_of_ble_eq_true rfl) hd_Md_init rfl rfl (kw3 177 rfl rfl) wi_Md_init wn_Md_init d_Lw_law_12)) (
  kc_case (P := P) (kc_se c_Lw_law_11 (sm_dup d_Lw_law_11)) (
  kc_case (P := P) (kc_se rfl sm_no) (
  kc_case (P := P) (kc_se rfl sm_no) (
  kc_case (P := P) (kc_se c_Lw_law_8 (sm_new (ci := 10) (C := "DirectoryDeskModel") (F := kF_Md) rfl kin_Md kty_Md ktk_Md (fun b0 j hj => kdf_Md b0 j hj) d_Lw_law_8 (kw3 175 rfl rfl) (kw3 176 rfl rfl) (kw1 11 rfl rfl))) (
  kc_case (P := P) (kc_se c_Lw_law_7 (sm_astore_n d_Lw_law_7 rfl (Nat.le_of_ble_eq_true rfl))) (
  kc_case (P := P) (kc_se rfl sm_no) (
  kc_case (P := P) (kc_se rfl sm_no) (
  kc_case (P := P) (kc_se c_Lw_law_4 (sm_cx (j := 0) rfl rfl kw_o kw_g wc_Dk_init (Nat.le_of_ble_eq_true rfl) hd_Dk_init rfl rfl (kw1 16 rfl rfl) wi_Dk_init wn_Dk_init d_Lw_law_4)) (
  kc_case (P := P) (kc_se c_Lw_law_3 (sm_dup d_Lw_law_3)) (
  kc_case (P := P) (kc_se rfl sm_no) (
  kc_case (P := P) (kc_se rfl sm_no) (
  kc_case (P := P) (kc_se c_Lw_law_0 (sm_new (ci := 0) (C := "DirectoryDesk") (F := kF_Dk) rfl kin_Dk kty_Dk ktk_Dk (fun b0 j hj => kdf_Dk b0 j hj) d_Lw_law_0 (kw1 14 rfl rfl) (kw1 15 rfl rfl) (kw1 1 rfl rfl))) (
  kc_case0))))))))))))))))))))))))))))))))))))))))))))))))))))))))))))
set_option maxRecDepth 100000 in
set_option maxHeartbeats 4000000 in
theorem s_Lw_law_120 (b N : Nat) (xs : Nat → Int32) (nm : String) : ∀ pc, pc < 120 → kc_Sim kt kw_A kw_N kt_cl kt_En "DirectoryDeskLaw" code 4 (some .boolean) nm (some (b, N, xs)) pc (ct_Lw_law b N xs pc) := by
  let P : Nat → Prop := fun pc => kc_Sim kt kw_A kw_N kt_cl kt_En "DirectoryDeskLaw" code 4 (some .boolean) nm (some (b, N, xs)) pc (ct_Lw_law b N xs pc)
  exact kc_case (P := P) (kc_se c_Lw_law_119 (sm_ldc2 d_Lw_law_119 (kw5 112 rfl rfl))) (
  kc_case (P := P) (kc_se c_Lw_law_118 (sm_i2l d_Lw_law_118)) (
  kc_case (P := P) (kc_se c_Lw_law_117 (sm_sld rfl d_Lw_law_117)) (
  kc_case (P := P) (kc_se c_Lw_law_116 (sm_iadd d_Lw_law_116)) (
  kc_case (P := P) (kc_se c_Lw_law_115 (sm_iconst d_Lw_law_115 (by decide))) (
  kc_case (P := P) (kc_se c_Lw_law_114 (sm_iload_n d_Lw_law_114 rfl)) (
  kc_case (P := P) (kc_se c_Lw_law_113 (sm_sload_n d_Lw_law_113 rfl)) (
  kc_case (P := P) (kc_se c_Lw_law_112 (sm_lshl d_Lw_law_112)) (
  kc_case (P := P) (kc_se rfl sm_no) (
  kc_case (P := P) (kc_se c_Lw_law_110 (sm_bipush d_Lw_law_110 (by decide))) (
  kc_case (P := P) (kc_se c_Lw_law_109 (sm_i2l d_Lw_law_109)) (
  kc_case (P := P) (kc_se c_Lw_law_108 (sm_sld rfl d_Lw_law_108)) (
  kc_case (P := P) (kc_se c_Lw_law_107 (sm_iadd d_Lw_law_107)) (
  kc_case (P := P) (kc_se c_Lw_law_106 (sm_iconst d_Lw_law_106 (by decide))) (
  kc_case (P := P) (kc_se c_Lw_law_105 (sm_iload_n d_Lw_law_105 rfl)) (
  kc_case (P := P) (kc_se c_Lw_law_104 (sm_sload_n d_Lw_law_104 rfl)) (
  kc_case (P := P) (kc_se c_Lw_law_103 (sm_aload_n d_Lw_law_103 rfl)) (
  kc_case (P := P) (kc_se rfl sm_no) (
  kc_case (P := P) (kc_se rfl sm_no) (
  kc_case (P := P) (kc_se c_Lw_law_100 (sm_goto d_Lw_law_100 (by decide))) (
  kc_case (P := P) (kc_se rfl sm_no) (
  kc_case (P := P) (kc_se rfl sm_no) (
  kc_case (P := P) (kc_se c_Lw_law_97 (sm_cv (j := 97) rfl rfl kw_o kw_g wc_Md_connect (Nat.le_of_ble_eq_true rfl) hd_Md_connect (ci := 10) (F := kF_Md) (N := 52) rfl (kw4 100 rfl rfl) wi_Md_connect ws_Md_connect wn_Md_connect d_Lw_law_97)) (
  kc_case (P := P) (kc_se c_Lw_law_96 (sm_aload_n d_Lw_law_96 rfl)) (
  kc_case (P := P) (kc_se rfl sm_no) (
  kc_case (P := P) (kc_se rfl sm_no) (
  kc_case (P := P) (kc_se c_Lw_law_93 (sm_cv (j := 1) rfl rfl kw_o kw_g wc_Dk_connect (Nat.le_of_ble_eq_true rfl) hd_Dk_connect (ci := 0) (F := kF_Dk) (N := 10) rfl (kw2 31 rfl rfl) wi_Dk_connect ws_Dk_connect wn_Dk_connect d_Lw_law_93)) (
  kc_case (P := P) (kc_se c_Lw_law_92 (sm_aload_n d_Lw_law_92 rfl)) (
  kc_case (P := P) (kc_se rfl sm_no) (
  kc_case (P := P) (kc_se rfl sm_no) (
  kc_case (P := P) (kc_se rfl sm_no) (
  kc_case (P := P) (kc_se rfl sm_no) (
  kc_case (P := P) (kc_se rfl sm_no) (
  kc_case (P := P) (kc_se rfl sm_no) (
  kc_case (P := P) (kc_se rfl sm_no) (
  kc_case (P := P) (kc_se rfl sm_no) (
  kc_case (P := P) (kc_se rfl sm_no) (
  kc_case (P := P) (kc_se rfl sm_no) (
  kc_case (P := P) (kc_se rfl sm_no) (
  kc_case (P := P) (kc_se rfl sm_no) (
  kc_case (P := P) (kc_se rfl sm_no) (
  kc_case (P := P) (kc_se rfl sm_no) (
  kc_case (P := P) (kc_se rfl sm_no) (
  kc_case (P := P) (kc_se rfl sm_no) (
  kc_case (P := P) (kc_se rfl sm_no) (
  kc_case (P := P) (kc_se rfl sm_no) (
  kc_case (P := P) (kc_se rfl sm_no) (
  kc_case (P := P) (kc_se rfl sm_no) (
  kc_case (P := P) (kc_se rfl sm_no) (
  kc_case (P := P) (kc_se rfl sm_no) (
  kc_case (P := P) (kc_se rfl sm_no) (
  kc_case (P := P) (kc_se rfl sm_no) (
  kc_case (P := P) (kc_se rfl sm_no) (
  kc_case (P := P) (kc_se rfl sm_no) (
  kc_case (P := P) (kc_se rfl sm_no) (
  kc_case (P := P) (kc_se rfl sm_no) (
  kc_case (P := P) (kc_se rfl sm_no) (
  kc_case (P := P) (kc_se rfl sm_no) (
  kc_case (P := P) (kc_se rfl sm_no) (
  kc_case (P := P) (kc_se rfl sm_no) (
  s_Lw_law_60 b N xs nm))))))))))))))))))))))))))))))))))))))))))))))))))))))))))))
set_option maxRecDepth 100000 in
set_option maxHeartbeats 4000000 in
theorem s_Lw_law_180 (b N : Nat) (xs : Nat → Int32) (nm : String) : ∀ pc, pc < 180 → kc_Sim kt kw_A kw_N kt_cl kt_En "DirectoryDeskLaw" code 4 (some .boolean) nm (some (b, N, xs)) pc (ct_Lw_law b N xs pc) := by
  let P : Nat → Prop := fun pc => kc_Sim kt kw_A kw_N kt_cl kt_En "DirectoryDeskLaw" code 4 (some .boolean) nm (some (b, N, xs)) pc (ct_Lw_law b N xs pc)
  exact kc_case (P := P) (kc_se c_Lw_law_179 (sm_aload_n d_Lw_law_179 rfl)) (
  kc_case (P := P) (kc_se c_Lw_law_178 (sm_rz d_Lw_law_178 rfl)) (
  kc_case (P := P) (kc_se c_Lw_law_177 (sm_iconst d_Lw_law_177 (by decide))) (
  kc_case (P := P) (kc_se rfl sm_no) (
  kc_case (P := P) (kc_se rfl sm_no) (
  kc_case (P := P) (kc_se c_Lw_law_174 (sm_cm_eq d_Lw_law_174 (by decide))) (
  kc_case (P := P) (kc_se rfl sm_no) (
  kc_case (P := P) (kc_se rfl sm_no) (
  kc_case (P := P) (kc_se c_Lw_law_171 (sm_cv (j := 150) rfl rfl kw_o kw_g wc_Md_handle (Nat.le_of_ble_eq_true rfl) hd_Md_handle (ci := 10) (F := kF_Md) (N := 52) rfl (kw4 109 rfl rfl) wi_Md_handle ws_Md_handle wn_Md_handle d_Lw_law_171)) (
  kc_case (P := P) (kc_se c_Lw_law_170 (sm_aload_n d_Lw_law_170 rfl)) (
  kc_case (P := P) (kc_se rfl sm_no) (
  kc_case (P := P) (kc_se rfl sm_no) (
  kc_case (P := P) (kc_se c_Lw_law_167 (sm_cv (j := 3) rfl rfl kw_o kw_g wc_Dk_handle (Nat.le_of_ble_eq_true rfl) hd_Dk_handle (ci := 0) (F := kF_Dk) (N := 10) rfl (kw2 47 rfl rfl) wi_Dk_handle ws_Dk_handle wn_Dk_handle d_Lw_law_167)) (
  kc_case (P := P) (kc_se c_Lw_law_166 (sm_aload_n d_Lw_law_166 rfl)) (
  kc_case (P := P) (kc_se c_Lw_law_165 (sm_rz d_Lw_law_165 rfl)) (
  kc_case (P := P) (kc_se c_Lw_law_164 (sm_iconst d_Lw_law_164 (by decide))) (
  kc_case (P := P) (kc_se rfl sm_no) (
  kc_case (P := P) (kc_se rfl sm_no) (
  kc_case (P := P) (kc_se c_Lw_law_161 (sm_cm_eq d_Lw_law_161 (by decide))) (
  kc_case (P := P) (kc_se rfl sm_no) (
  kc_case (P := P) (kc_se rfl sm_no) (
  kc_case (P := P) (kc_se c_Lw_law_158 (sm_cv (j := 98) rfl rfl kw_o kw_g wc_Md_type (Nat.le_of_ble_eq_true rfl) hd_Md_type (ci := 10) (F := kF_Md) (N := 52) rfl (kw4 104 rfl rfl) wi_Md_type ws_Md_type wn_Md_type d_Lw_law_158)) (
  kc_case (P := P) (kc_se c_Lw_law_157 (sm_sld rfl d_Lw_law_157)) (
  kc_case (P := P) (kc_se c_Lw_law_156 (sm_iadd d_Lw_law_156)) (
  kc_case (P := P) (kc_se c_Lw_law_155 (sm_iconst d_Lw_law_155 (by decide))) (
  kc_case (P := P) (kc_se c_Lw_law_154 (sm_iload_n d_Lw_law_154 rfl)) (
  kc_case (P := P) (kc_se c_Lw_law_153 (sm_sload_n d_Lw_law_153 rfl)) (
  kc_case (P := P) (kc_se c_Lw_law_152 (sm_lor d_Lw_law_152)) (
  kc_case (P := P) (kc_se c_Lw_law_151 (sm_land d_Lw_law_151)) (
  kc_case (P := P) (kc_se rfl sm_no) (
  kc_case (P := P) (kc_se rfl sm_no) (
  kc_case (P := P) (kc_se c_Lw_law_148 (sm_ldc2 d_Lw_law_148 (kw5 112 rfl rfl))) (
  kc_case (P := P) (kc_se c_Lw_law_147 (sm_i2l d_Lw_law_147)) (
  kc_case (P := P) (kc_se c_Lw_law_146 (sm_sld rfl d_Lw_law_146)) (
  kc_case (P := P) (kc_se c_Lw_law_145 (sm_iadd d_Lw_law_145)) (
  kc_case (P := P) (kc_se c_Lw_law_144 (sm_iconst d_Lw_law_144 (by decide))) (
  kc_case (P := P) (kc_se c_Lw_law_143 (sm_iload_n d_Lw_law_143 rfl)) (
  kc_case (P := P) (kc_se c_Lw_law_142 (sm_sload_n d_Lw_law_142 rfl)) (
  kc_case (P := P) (kc_se c_Lw_law_141 (sm_lshl d_Lw_law_141)) (
  kc_case (P := P) (kc_se rfl sm_no) (
  kc_case (P := P) (kc_se c_Lw_law_139 (sm_bipush d_Lw_law_139 (by decide))) (
  kc_case (P := P) (kc_se c_Lw_law_138 (sm_i2l d_Lw_law_138)) (
  kc_case (P := P) (kc_se c_Lw_law_137 (sm_sld rfl d_Lw_law_137)) (
  kc_case (P := P) (kc_se c_Lw_law_136 (sm_iadd d_Lw_law_136)) (
  kc_case (P := P) (kc_se c_Lw_law_135 (sm_iconst d_Lw_law_135 (by decide))) (
  kc_case (P := P) (kc_se c_Lw_law_134 (sm_iload_n d_Lw_law_134 rfl)) (
  kc_case (P := P) (kc_se c_Lw_law_133 (sm_sload_n d_Lw_law_133 rfl)) (
  kc_case (P := P) (kc_se c_Lw_law_132 (sm_aload_n d_Lw_law_132 rfl)) (
  kc_case (P := P) (kc_se rfl sm_no) (
  kc_case (P := P) (kc_se rfl sm_no) (
  kc_case (P := P) (kc_se c_Lw_law_129 (sm_cv (j := 2) rfl rfl kw_o kw_g wc_Dk_type (Nat.le_of_ble_eq_true rfl) hd_Dk_type (ci := 0) (F := kF_Dk) (N := 10) rfl (kw2 39 rfl rfl) wi_Dk_type ws_Dk_type wn_Dk_type d_Lw_law_129)) (
  kc_case (P := P) (kc_se c_Lw_law_128 (sm_sld rfl d_Lw_law_128)) (
  kc_case (P := P) (kc_se c_Lw_law_127 (sm_iadd d_Lw_law_127)) (
  kc_case (P := P) (kc_se c_Lw_law_126 (sm_iconst d_Lw_law_126 (by decide))) (
  kc_case (P := P) (kc_se c_Lw_law_125 (sm_iload_n d_Lw_law_125 rfl)) (
  kc_case (P := P) (kc_se c_Lw_law_124 (sm_sload_n d_Lw_law_124 rfl)) (
  kc_case (P := P) (kc_se c_Lw_law_123 (sm_lor d_Lw_law_123)) (
  kc_case (P := P) (kc_se c_Lw_law_122 (sm_land d_Lw_law_122)) (
  kc_case (P := P) (kc_se rfl sm_no) (
  kc_case (P := P) (kc_se rfl sm_no) (
  s_Lw_law_120 b N xs nm))))))))))))))))))))))))))))))))))))))))))))))))))))))))))))
set_option maxRecDepth 100000 in
set_option maxHeartbeats 4000000 in
theorem s_Lw_law_240 (b N : Nat) (xs : Nat → Int32) (nm : String) : ∀ pc, pc < 240 → kc_Sim kt kw_A kw_N kt_cl kt_En "DirectoryDeskLaw" code 4 (some .boolean) nm (some (b, N, xs)) pc (ct_Lw_law b N xs pc) := by
  let P : Nat → Prop := fun pc => kc_Sim kt kw_A kw_N kt_cl kt_En "DirectoryDeskLaw" code 4 (some .boolean) nm (some (b, N, xs)) pc (ct_Lw_law b N xs pc)
  exact kc_case (P := P) (kc_se c_Lw_law_239 (sm_sload_n d_Lw_law_239 rfl)) (
  kc_case (P := P) (kc_se c_Lw_law_238 (sm_aload_n d_Lw_law_238 rfl)) (
  kc_case (P := P) (kc_se rfl sm_no) (
  kc_case (P := P) (kc_se rfl sm_no) (
  kc_case (P := P) (kc_se c_Lw_law_235 (sm_cv (j := 7) rfl rfl kw_o kw_g wc_Dk_entry (Nat.le_of_ble_eq_true rfl) hd_Dk_entry (ci := 0) (F := kF_Dk) (N := 10) rfl (kw3 151 rfl rfl) wi_Dk_entry ws_Dk_entry wn_Dk_entry d_Lw_law_235)) (
  kc_case (P := P) (kc_se c_Lw_law_234 (sm_sld rfl d_Lw_law_234)) (
  kc_case (P := P) (kc_se c_Lw_law_233 (sm_iadd d_Lw_law_233)) (
  kc_case (P := P) (kc_se c_Lw_law_232 (sm_iconst d_Lw_law_232 (by decide))) (
  kc_case (P := P) (kc_se c_Lw_law_231 (sm_iload_n d_Lw_law_231 rfl)) (
  kc_case (P := P) (kc_se c_Lw_law_230 (sm_sload_n d_Lw_law_230 rfl)) (
  kc_case (P := P) (kc_se c_Lw_law_229 (sm_aload_n d_Lw_law_229 rfl)) (
  kc_case (P := P) (kc_se c_Lw_law_228 (sm_rz d_Lw_law_228 rfl)) (
  kc_case (P := P) (kc_se c_Lw_law_227 (sm_iconst d_Lw_law_227 (by decide))) (
  kc_case (P := P) (kc_se rfl sm_no) (
  kc_case (P := P) (kc_se rfl sm_no) (
  kc_case (P := P) (kc_se c_Lw_law_224 (sm_cm_eq d_Lw_law_224 (by decide))) (
  kc_case (P := P) (kc_se rfl sm_no) (
  kc_case (P := P) (kc_se rfl sm_no) (
  kc_case (P := P) (kc_se c_Lw_law_221 (sm_cv (j := 153) rfl rfl kw_o kw_g wc_Md_entries (Nat.le_of_ble_eq_true rfl) hd_Md_entries (ci := 10) (F := kF_Md) (N := 52) rfl (kw5 84 rfl rfl) wi_Md_entries ws_Md_entries wn_Md_entries d_Lw_law_221)) (
  kc_case (P := P) (kc_se c_Lw_law_220 (sm_aload_n d_Lw_law_220 rfl)) (
  kc_case (P := P) (kc_se rfl sm_no) (
  kc_case (P := P) (kc_se rfl sm_no) (
  kc_case (P := P) (kc_se c_Lw_law_217 (sm_cv (j := 6) rfl rfl kw_o kw_g wc_Dk_entries (Nat.le_of_ble_eq_true rfl) hd_Dk_entries (ci := 0) (F := kF_Dk) (N := 10) rfl (kw3 147 rfl rfl) wi_Dk_entries ws_Dk_entries wn_Dk_entries d_Lw_law_217)) (
  kc_case (P := P) (kc_se c_Lw_law_216 (sm_aload_n d_Lw_law_216 rfl)) (
  kc_case (P := P) (kc_se c_Lw_law_215 (sm_rz d_Lw_law_215 rfl)) (
  kc_case (P := P) (kc_se c_Lw_law_214 (sm_iconst d_Lw_law_214 (by decide))) (
  kc_case (P := P) (kc_se rfl sm_no) (
  kc_case (P := P) (kc_se rfl sm_no) (
  kc_case (P := P) (kc_se c_Lw_law_211 (sm_if_eq d_Lw_law_211 (by decide))) (
  kc_case (P := P) (kc_se c_Lw_law_210 (sm_lcmp d_Lw_law_210)) (
  kc_case (P := P) (kc_se rfl sm_no) (
  kc_case (P := P) (kc_se rfl sm_no) (
  kc_case (P := P) (kc_se c_Lw_law_207 (sm_cv (j := 152) rfl rfl kw_o kw_g wc_Md_answer (Nat.le_of_ble_eq_true rfl) hd_Md_answer (ci := 10) (F := kF_Md) (N := 52) rfl (kw5 80 rfl rfl) wi_Md_answer ws_Md_answer wn_Md_answer d_Lw_law_207)) (
  kc_case (P := P) (kc_se c_Lw_law_206 (sm_sld rfl d_Lw_law_206)) (
  kc_case (P := P) (kc_se c_Lw_law_205 (sm_iadd d_Lw_law_205)) (
  kc_case (P := P) (kc_se c_Lw_law_204 (sm_iconst d_Lw_law_204 (by decide))) (
  kc_case (P := P) (kc_se c_Lw_law_203 (sm_iload_n d_Lw_law_203 rfl)) (
  kc_case (P := P) (kc_se c_Lw_law_202 (sm_sload_n d_Lw_law_202 rfl)) (
  kc_case (P := P) (kc_se c_Lw_law_201 (sm_aload_n d_Lw_law_201 rfl)) (
  kc_case (P := P) (kc_se rfl sm_no) (
  kc_case (P := P) (kc_se rfl sm_no) (
  kc_case (P := P) (kc_se c_Lw_law_198 (sm_cv (j := 5) rfl rfl kw_o kw_g wc_Dk_answer (Nat.le_of_ble_eq_true rfl) hd_Dk_answer (ci := 0) (F := kF_Dk) (N := 10) rfl (kw3 142 rfl rfl) wi_Dk_answer ws_Dk_answer wn_Dk_answer d_Lw_law_198)) (
  kc_case (P := P) (kc_se c_Lw_law_197 (sm_sld rfl d_Lw_law_197)) (
  kc_case (P := P) (kc_se c_Lw_law_196 (sm_iadd d_Lw_law_196)) (
  kc_case (P := P) (kc_se c_Lw_law_195 (sm_iconst d_Lw_law_195 (by decide))) (
  kc_case (P := P) (kc_se c_Lw_law_194 (sm_iload_n d_Lw_law_194 rfl)) (
  kc_case (P := P) (kc_se c_Lw_law_193 (sm_sload_n d_Lw_law_193 rfl)) (
  kc_case (P := P) (kc_se c_Lw_law_192 (sm_aload_n d_Lw_law_192 rfl)) (
  kc_case (P := P) (kc_se c_Lw_law_191 (sm_rz d_Lw_law_191 rfl)) (
  kc_case (P := P) (kc_se c_Lw_law_190 (sm_iconst d_Lw_law_190 (by decide))) (
  kc_case (P := P) (kc_se rfl sm_no) (
  kc_case (P := P) (kc_se rfl sm_no) (
  kc_case (P := P) (kc_se c_Lw_law_187 (sm_cm_eq d_Lw_law_187 (by decide))) (
  kc_case (P := P) (kc_se rfl sm_no) (
  kc_case (P := P) (kc_se rfl sm_no) (
  kc_case (P := P) (kc_se c_Lw_law_184 (sm_cv (j := 151) rfl rfl kw_o kw_g wc_Md_answered (Nat.le_of_ble_eq_true rfl) hd_Md_answered (ci := 10) (F := kF_Md) (N := 52) rfl (kw5 76 rfl rfl) wi_Md_answered ws_Md_answered wn_Md_answered d_Lw_law_184)) (
  kc_case (P := P) (kc_se c_Lw_law_183 (sm_aload_n d_Lw_law_183 rfl)) (
  kc_case (P := P) (kc_se rfl sm_no) (
  kc_case (P := P) (kc_se rfl sm_no) (
  kc_case (P := P) (kc_se c_Lw_law_180 (sm_cv (j := 4) rfl rfl kw_o kw_g wc_Dk_answered (Nat.le_of_ble_eq_true rfl) hd_Dk_answered (ci := 0) (F := kF_Dk) (N := 10) rfl (kw3 138 rfl rfl) wi_Dk_answered ws_Dk_answered wn_Dk_answered d_Lw_law_180)) (
  s_Lw_law_180 b N xs nm))))))))))))))))))))))))))))))))))))))))))))))))))))))))))))
set_option maxRecDepth 100000 in
set_option maxHeartbeats 4000000 in
theorem s_Lw_law_300 (b N : Nat) (xs : Nat → Int32) (nm : String) : ∀ pc, pc < 300 → kc_Sim kt kw_A kw_N kt_cl kt_En "DirectoryDeskLaw" code 4 (some .boolean) nm (some (b, N, xs)) pc (ct_Lw_law b N xs pc) := by
  let P : Nat → Prop := fun pc => kc_Sim kt kw_A kw_N kt_cl kt_En "DirectoryDeskLaw" code 4 (some .boolean) nm (some (b, N, xs)) pc (ct_Lw_law b N xs pc)
  exact kc_case (P := P) (kc_se c_Lw_law_299 (sm_aload_n d_Lw_law_299 rfl)) (
  kc_case (P := P) (kc_se rfl sm_no) (
  kc_case (P := P) (kc_se rfl sm_no) (
  kc_case (P := P) (kc_se c_Lw_law_296 (sm_cv (j := 9) rfl rfl kw_o kw_g wc_Dk_pairValue (Nat.le_of_ble_eq_true rfl) hd_Dk_pairValue (ci := 0) (F := kF_Dk) (N := 10) rfl (kw3 163 rfl rfl) wi_Dk_pairValue ws_Dk_pairValue wn_Dk_pairValue d_Lw_law_296)) (
  kc_case (P := P) (kc_se c_Lw_law_295 (sm_sld rfl d_Lw_law_295)) (
  kc_case (P := P) (kc_se c_Lw_law_294 (sm_iadd d_Lw_law_294)) (
  kc_case (P := P) (kc_se c_Lw_law_293 (sm_iconst d_Lw_law_293 (by decide))) (
  kc_case (P := P) (kc_se c_Lw_law_292 (sm_iload_n d_Lw_law_292 rfl)) (
  kc_case (P := P) (kc_se c_Lw_law_291 (sm_sload_n d_Lw_law_291 rfl)) (
  kc_case (P := P) (kc_se c_Lw_law_290 (sm_sld rfl d_Lw_law_290)) (
  kc_case (P := P) (kc_se c_Lw_law_289 (sm_iadd d_Lw_law_289)) (
  kc_case (P := P) (kc_se c_Lw_law_288 (sm_iconst d_Lw_law_288 (by decide))) (
  kc_case (P := P) (kc_se c_Lw_law_287 (sm_iload_n d_Lw_law_287 rfl)) (
  kc_case (P := P) (kc_se c_Lw_law_286 (sm_sload_n d_Lw_law_286 rfl)) (
  kc_case (P := P) (kc_se c_Lw_law_285 (sm_aload_n d_Lw_law_285 rfl)) (
  kc_case (P := P) (kc_se c_Lw_law_284 (sm_rz d_Lw_law_284 rfl)) (
  kc_case (P := P) (kc_se c_Lw_law_283 (sm_iconst d_Lw_law_283 (by decide))) (
  kc_case (P := P) (kc_se rfl sm_no) (
  kc_case (P := P) (kc_se rfl sm_no) (
  kc_case (P := P) (kc_se c_Lw_law_280 (sm_cm_eq d_Lw_law_280 (by decide))) (
  kc_case (P := P) (kc_se rfl sm_no) (
  kc_case (P := P) (kc_se rfl sm_no) (
  kc_case (P := P) (kc_se c_Lw_law_277 (sm_cv (j := 156) rfl rfl kw_o kw_g wc_Md_pairType (Nat.le_of_ble_eq_true rfl) hd_Md_pairType (ci := 10) (F := kF_Md) (N := 52) rfl (kw5 92 rfl rfl) wi_Md_pairType ws_Md_pairType wn_Md_pairType d_Lw_law_277)) (
  kc_case (P := P) (kc_se c_Lw_law_276 (sm_sld rfl d_Lw_law_276)) (
  kc_case (P := P) (kc_se c_Lw_law_275 (sm_iadd d_Lw_law_275)) (
  kc_case (P := P) (kc_se c_Lw_law_274 (sm_iconst d_Lw_law_274 (by decide))) (
  kc_case (P := P) (kc_se c_Lw_law_273 (sm_iload_n d_Lw_law_273 rfl)) (
  kc_case (P := P) (kc_se c_Lw_law_272 (sm_sload_n d_Lw_law_272 rfl)) (
  kc_case (P := P) (kc_se c_Lw_law_271 (sm_sld rfl d_Lw_law_271)) (
  kc_case (P := P) (kc_se c_Lw_law_270 (sm_iadd d_Lw_law_270)) (
  kc_case (P := P) (kc_se c_Lw_law_269 (sm_iconst d_Lw_law_269 (by decide))) (
  kc_case (P := P) (kc_se c_Lw_law_268 (sm_iload_n d_Lw_law_268 rfl)) (
  kc_case (P := P) (kc_se c_Lw_law_267 (sm_sload_n d_Lw_law_267 rfl)) (
  kc_case (P := P) (kc_se c_Lw_law_266 (sm_aload_n d_Lw_law_266 rfl)) (
  kc_case (P := P) (kc_se rfl sm_no) (
  kc_case (P := P) (kc_se rfl sm_no) (
  kc_case (P := P) (kc_se c_Lw_law_263 (sm_cv (j := 8) rfl rfl kw_o kw_g wc_Dk_pairType (Nat.le_of_ble_eq_true rfl) hd_Dk_pairType (ci := 0) (F := kF_Dk) (N := 10) rfl (kw3 155 rfl rfl) wi_Dk_pairType ws_Dk_pairType wn_Dk_pairType d_Lw_law_263)) (
  kc_case (P := P) (kc_se c_Lw_law_262 (sm_sld rfl d_Lw_law_262)) (
  kc_case (P := P) (kc_se c_Lw_law_261 (sm_iadd d_Lw_law_261)) (
  kc_case (P := P) (kc_se c_Lw_law_260 (sm_iconst d_Lw_law_260 (by decide))) (
  kc_case (P := P) (kc_se c_Lw_law_259 (sm_iload_n d_Lw_law_259 rfl)) (
  kc_case (P := P) (kc_se c_Lw_law_258 (sm_sload_n d_Lw_law_258 rfl)) (
  kc_case (P := P) (kc_se c_Lw_law_257 (sm_sld rfl d_Lw_law_257)) (
  kc_case (P := P) (kc_se c_Lw_law_256 (sm_iadd d_Lw_law_256)) (
  kc_case (P := P) (kc_se c_Lw_law_255 (sm_iconst d_Lw_law_255 (by decide))) (
  kc_case (P := P) (kc_se c_Lw_law_254 (sm_iload_n d_Lw_law_254 rfl)) (
  kc_case (P := P) (kc_se c_Lw_law_253 (sm_sload_n d_Lw_law_253 rfl)) (
  kc_case (P := P) (kc_se c_Lw_law_252 (sm_aload_n d_Lw_law_252 rfl)) (
  kc_case (P := P) (kc_se c_Lw_law_251 (sm_rz d_Lw_law_251 rfl)) (
  kc_case (P := P) (kc_se c_Lw_law_250 (sm_iconst d_Lw_law_250 (by decide))) (
  kc_case (P := P) (kc_se rfl sm_no) (
  kc_case (P := P) (kc_se rfl sm_no) (
  kc_case (P := P) (kc_se c_Lw_law_247 (sm_cm_eq d_Lw_law_247 (by decide))) (
  kc_case (P := P) (kc_se rfl sm_no) (
  kc_case (P := P) (kc_se rfl sm_no) (
  kc_case (P := P) (kc_se c_Lw_law_244 (sm_cv (j := 154) rfl rfl kw_o kw_g wc_Md_entry (Nat.le_of_ble_eq_true rfl) hd_Md_entry (ci := 10) (F := kF_Md) (N := 52) rfl (kw5 88 rfl rfl) wi_Md_entry ws_Md_entry wn_Md_entry d_Lw_law_244)) (
  kc_case (P := P) (kc_se c_Lw_law_243 (sm_sld rfl d_Lw_law_243)) (
  kc_case (P := P) (kc_se c_Lw_law_242 (sm_iadd d_Lw_law_242)) (
  kc_case (P := P) (kc_se c_Lw_law_241 (sm_iconst d_Lw_law_241 (by decide))) (
  kc_case (P := P) (kc_se c_Lw_law_240 (sm_iload_n d_Lw_law_240 rfl)) (
  s_Lw_law_240 b N xs nm))))))))))))))))))))))))))))))))))))))))))))))))))))))))))))
set_option maxRecDepth 100000 in
set_option maxHeartbeats 4000000 in
theorem s_Lw_law_353 (b N : Nat) (xs : Nat → Int32) (nm : String) : ∀ pc, pc < 353 → kc_Sim kt kw_A kw_N kt_cl kt_En "DirectoryDeskLaw" code 4 (some .boolean) nm (some (b, N, xs)) pc (ct_Lw_law b N xs pc) := by
  let P : Nat → Prop := fun pc => kc_Sim kt kw_A kw_N kt_cl kt_En "DirectoryDeskLaw" code 4 (some .boolean) nm (some (b, N, xs)) pc (ct_Lw_law b N xs pc)
  exact kc_case (P := P) (kc_se c_Lw_law_352 (sm_rz d_Lw_law_352 rfl)) (
  kc_case (P := P) (kc_se c_Lw_law_351 (sm_iconst d_Lw_law_351 (by decide))) (
  kc_case (P := P) (kc_se rfl sm_no) (
  kc_case (P := P) (kc_se rfl sm_no) (
  kc_case (P := P) (kc_se c_Lw_law_348 (sm_goto d_Lw_law_348 (by decide))) (
  kc_case (P := P) (kc_se rfl sm_no) (
  kc_case (P := P) (kc_se rfl sm_no) (
  kc_case (P := P) (kc_se c_Lw_law_345 (sm_inc d_Lw_law_345 (by decide) (Nat.le_of_ble_eq_true rfl))) (
  kc_case (P := P) (kc_se c_Lw_law_344 (sm_rz d_Lw_law_344 rfl)) (
  kc_case (P := P) (kc_se c_Lw_law_343 (sm_iconst d_Lw_law_343 (by decide))) (
  kc_case (P := P) (kc_se rfl sm_no) (
  kc_case (P := P) (kc_se rfl sm_no) (
  kc_case (P := P) (kc_se c_Lw_law_340 (sm_cm_eq d_Lw_law_340 (by decide))) (
  kc_case (P := P) (kc_se rfl sm_no) (
  kc_case (P := P) (kc_se rfl sm_no) (
  kc_case (P := P) (kc_se c_Lw_law_337 (sm_cv (j := 159) rfl rfl kw_o kw_g wc_Md_open (Nat.le_of_ble_eq_true rfl) hd_Md_open (ci := 10) (F := kF_Md) (N := 52) rfl (kw5 108 rfl rfl) wi_Md_open ws_Md_open wn_Md_open d_Lw_law_337)) (
  kc_case (P := P) (kc_se c_Lw_law_336 (sm_aload_n d_Lw_law_336 rfl)) (
  kc_case (P := P) (kc_se rfl sm_no) (
  kc_case (P := P) (kc_se rfl sm_no) (
  kc_case (P := P) (kc_se c_Lw_law_333 (sm_cv (j := 11) rfl rfl kw_o kw_g wc_Dk_open (Nat.le_of_ble_eq_true rfl) hd_Dk_open (ci := 0) (F := kF_Dk) (N := 10) rfl (kw3 171 rfl rfl) wi_Dk_open ws_Dk_open wn_Dk_open d_Lw_law_333)) (
  kc_case (P := P) (kc_se c_Lw_law_332 (sm_aload_n d_Lw_law_332 rfl)) (
  kc_case (P := P) (kc_se c_Lw_law_331 (sm_rz d_Lw_law_331 rfl)) (
  kc_case (P := P) (kc_se c_Lw_law_330 (sm_iconst d_Lw_law_330 (by decide))) (
  kc_case (P := P) (kc_se rfl sm_no) (
  kc_case (P := P) (kc_se rfl sm_no) (
  kc_case (P := P) (kc_se c_Lw_law_327 (sm_cm_eq d_Lw_law_327 (by decide))) (
  kc_case (P := P) (kc_se rfl sm_no) (
  kc_case (P := P) (kc_se rfl sm_no) (
  kc_case (P := P) (kc_se c_Lw_law_324 (sm_cv (j := 158) rfl rfl kw_o kw_g wc_Md_signed (Nat.le_of_ble_eq_true rfl) hd_Md_signed (ci := 10) (F := kF_Md) (N := 52) rfl (kw5 104 rfl rfl) wi_Md_signed ws_Md_signed wn_Md_signed d_Lw_law_324)) (
  kc_case (P := P) (kc_se c_Lw_law_323 (sm_aload_n d_Lw_law_323 rfl)) (
  kc_case (P := P) (kc_se rfl sm_no) (
  kc_case (P := P) (kc_se rfl sm_no) (
  kc_case (P := P) (kc_se c_Lw_law_320 (sm_cv (j := 10) rfl rfl kw_o kw_g wc_Dk_signed (Nat.le_of_ble_eq_true rfl) hd_Dk_signed (ci := 0) (F := kF_Dk) (N := 10) rfl (kw3 167 rfl rfl) wi_Dk_signed ws_Dk_signed wn_Dk_signed d_Lw_law_320)) (
  kc_case (P := P) (kc_se c_Lw_law_319 (sm_aload_n d_Lw_law_319 rfl)) (
  kc_case (P := P) (kc_se c_Lw_law_318 (sm_rz d_Lw_law_318 rfl)) (
  kc_case (P := P) (kc_se c_Lw_law_317 (sm_iconst d_Lw_law_317 (by decide))) (
  kc_case (P := P) (kc_se rfl sm_no) (
  kc_case (P := P) (kc_se rfl sm_no) (
  kc_case (P := P) (kc_se c_Lw_law_314 (sm_if_eq d_Lw_law_314 (by decide))) (
  kc_case (P := P) (kc_se c_Lw_law_313 (sm_lcmp d_Lw_law_313)) (
  kc_case (P := P) (kc_se rfl sm_no) (
  kc_case (P := P) (kc_se rfl sm_no) (
  kc_case (P := P) (kc_se c_Lw_law_310 (sm_cv (j := 157) rfl rfl kw_o kw_g wc_Md_pairValue (Nat.le_of_ble_eq_true rfl) hd_Md_pairValue (ci := 10) (F := kF_Md) (N := 52) rfl (kw5 100 rfl rfl) wi_Md_pairValue ws_Md_pairValue wn_Md_pairValue d_Lw_law_310)) (
  kc_case (P := P) (kc_se c_Lw_law_309 (sm_sld rfl d_Lw_law_309)) (
  kc_case (P := P) (kc_se c_Lw_law_308 (sm_iadd d_Lw_law_308)) (
  kc_case (P := P) (kc_se c_Lw_law_307 (sm_iconst d_Lw_law_307 (by decide))) (
  kc_case (P := P) (kc_se c_Lw_law_306 (sm_iload_n d_Lw_law_306 rfl)) (
  kc_case (P := P) (kc_se c_Lw_law_305 (sm_sload_n d_Lw_law_305 rfl)) (
  kc_case (P := P) (kc_se c_Lw_law_304 (sm_sld rfl d_Lw_law_304)) (
  kc_case (P := P) (kc_se c_Lw_law_303 (sm_iadd d_Lw_law_303)) (
  kc_case (P := P) (kc_se c_Lw_law_302 (sm_iconst d_Lw_law_302 (by decide))) (
  kc_case (P := P) (kc_se c_Lw_law_301 (sm_iload_n d_Lw_law_301 rfl)) (
  kc_case (P := P) (kc_se c_Lw_law_300 (sm_sload_n d_Lw_law_300 rfl)) (
  s_Lw_law_300 b N xs nm)))))))))))))))))))))))))))))))))))))))))))))))))))))
set_option maxRecDepth 100000 in
theorem ka_nth_no_Lw_law (b N : Nat) (xs : Nat → Int32) (pc : Nat) (h : 353 ≤ pc) : ct_Lw_law b N xs pc = ka_no := ka_nth_ge _ pc (Nat.le_trans (Nat.le_of_eq (by rfl)) h)
theorem s_Lw_law (b N : Nat) (xs : Nat → Int32) (nm : String) (pc : Nat) : kc_Sim kt kw_A kw_N kt_cl kt_En "DirectoryDeskLaw" code 4 (some .boolean) nm (some (b, N, xs)) pc (ct_Lw_law b N xs pc) := (Nat.lt_or_ge pc 353).elim (s_Lw_law_353 b N xs nm pc) (fun h => kc_se (ka_nth_no_Lw_law b N xs pc h) sm_no)
