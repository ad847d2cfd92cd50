/-! the last constructors of the class -/
set_option maxRecDepth 100000 in
set_option maxHeartbeats 2000000 in
theorem y_Ch_init (d : Nat) {μ : kc_M} (hn : μ.2 = some 123) (hm : μ.1 122 = some (.inl (7, [.null, .null, .null, .null, .int 0, .int 0]))) : kc_Y kt kC (d + 1) j_Ch_init [.ref 122] μ (fun v μ' => v = none ∧ μ'.2 = some 127 ∧ μ'.1 122 = some (ce_Ch 0 0) ∧ μ'.1 123 = some (ce_I 12 (fun _ => 0)) ∧ μ'.1 124 = some (ce_I 12 (fun _ => 0)) ∧ μ'.1 125 = some (ce_I 12 (fun _ => 0)) ∧ μ'.1 126 = some (ce_L 24 (fun _ => 0)) ∧ ∀ q, q < 122 ∨ 127 ≤ q → μ'.1 q = μ.1 q) := by
  refine ⟨Nat.le_of_ble_eq_true rfl, ?_⟩
  refine x_al c_Ch_init_0 rfl ?_
  refine x_obj c_Ch_init_1 (Nat.le_of_ble_eq_true rfl) ?_
  refine x_al c_Ch_init_4 rfl ?_
  refine x_ci c_Ch_init_5 ?_
  refine x_newi 12 c_Ch_init_7 (by first | rfl | exact hn) ⟨by decide, by decide, by decide⟩ ⟨Nat.le_of_ble_eq_true rfl, Nat.le_of_ble_eq_true rfl⟩ ?_
  refine x_put [_, _, _, _, _, _] c_Ch_init_9 (by first | rfl | exact hm) ⟨Nat.le_of_ble_eq_true rfl, rfl, rfl⟩ rfl ?_
  refine x_al c_Ch_init_12 rfl ?_
  refine x_ci c_Ch_init_13 ?_
  refine x_newi 12 c_Ch_init_15 (by first | rfl | exact hn) ⟨by decide, by decide, by decide⟩ ⟨Nat.le_of_ble_eq_true rfl, Nat.le_of_ble_eq_true rfl⟩ ?_
  refine x_put [_, _, _, _, _, _] c_Ch_init_17 (by first | rfl | exact hm) ⟨Nat.le_of_ble_eq_true rfl, rfl, rfl⟩ rfl ?_
  refine x_al c_Ch_init_20 rfl ?_
  refine x_ci c_Ch_init_21 ?_
  refine x_newi 12 c_Ch_init_23 (by first | rfl | exact hn) ⟨by decide, by decide, by decide⟩ ⟨Nat.le_of_ble_eq_true rfl, Nat.le_of_ble_eq_true rfl⟩ ?_
  refine x_put [_, _, _, _, _, _] c_Ch_init_25 (by first | rfl | exact hm) ⟨Nat.le_of_ble_eq_true rfl, rfl, rfl⟩ rfl ?_
  refine x_al c_Ch_init_28 rfl ?_
  refine x_ci c_Ch_init_29 ?_
  refine x_newl 24 c_Ch_init_31 (by first | rfl | exact hn) ⟨by decide, by decide, by decide⟩ ⟨Nat.le_of_ble_eq_true rfl, Nat.le_of_ble_eq_true rfl⟩ ?_
  refine x_put [_, _, _, _, _, _] c_Ch_init_33 (by first | rfl | exact hm) ⟨Nat.le_of_ble_eq_true rfl, rfl, rfl⟩ rfl ?_
  refine x_ret c_Ch_init_36 ?_
  refine ⟨rfl, rfl, rfl, rfl, rfl, rfl, rfl, fun q hq => ?_⟩
  rw [kc_gf (by omega)]
  refine kc_nn (by omega) ?_
  rw [kc_gf (by omega)]
  refine kc_nn (by omega) ?_
  rw [kc_gf (by omega)]
  refine kc_nn (by omega) ?_
  rw [kc_gf (by omega)]
  exact kc_nn (by omega) rfl
set_option maxRecDepth 100000 in
set_option maxHeartbeats 2000000 in
theorem y_Fi_init (d : Nat) {μ : kc_M} (hn : μ.2 = some 129) (hm : μ.1 128 = some (.inl (9, [.null, .null, .null, .null, .int 0]))) : kc_Y kt kC (d + 1) j_Fi_init [.ref 128] μ (fun v μ' => v = none ∧ μ'.2 = some 133 ∧ μ'.1 128 = some (ce_Fi 0) ∧ μ'.1 129 = some (ce_I 20 (fun _ => 0)) ∧ μ'.1 130 = some (ce_I 20 (fun _ => 0)) ∧ μ'.1 131 = some (ce_L 20 (fun _ => 0)) ∧ μ'.1 132 = some (ce_I 20 (fun _ => 0)) ∧ ∀ q, q < 128 ∨ 133 ≤ q → μ'.1 q = μ.1 q) := by
  refine ⟨Nat.le_of_ble_eq_true rfl, ?_⟩
  refine x_al c_Fi_init_0 rfl ?_
  refine x_obj c_Fi_init_1 (Nat.le_of_ble_eq_true rfl) ?_
  refine x_al c_Fi_init_4 rfl ?_
  refine x_ci c_Fi_init_5 ?_
  refine x_newi 20 c_Fi_init_7 (by first | rfl | exact hn) ⟨by decide, by decide, by decide⟩ ⟨Nat.le_of_ble_eq_true rfl, Nat.le_of_ble_eq_true rfl⟩ ?_
  refine x_put [_, _, _, _, _] c_Fi_init_9 (by first | rfl | exact hm) ⟨Nat.le_of_ble_eq_true rfl, rfl, rfl⟩ rfl ?_
  refine x_al c_Fi_init_12 rfl ?_
  refine x_ci c_Fi_init_13 ?_
  refine x_newi 20 c_Fi_init_15 (by first | rfl | exact hn) ⟨by decide, by decide, by decide⟩ ⟨Nat.le_of_ble_eq_true rfl, Nat.le_of_ble_eq_true rfl⟩ ?_
  refine x_put [_, _, _, _, _] c_Fi_init_17 (by first | rfl | exact hm) ⟨Nat.le_of_ble_eq_true rfl, rfl, rfl⟩ rfl ?_
  refine x_al c_Fi_init_20 rfl ?_
  refine x_ci c_Fi_init_21 ?_
  refine x_newl 20 c_Fi_init_23 (by first | rfl | exact hn) ⟨by decide, by decide, by decide⟩ ⟨Nat.le_of_ble_eq_true rfl, Nat.le_of_ble_eq_true rfl⟩ ?_
  refine x_put [_, _, _, _, _] c_Fi_init_25 (by first | rfl | exact hm) ⟨Nat.le_of_ble_eq_true rfl, rfl, rfl⟩ rfl ?_
  refine x_al c_Fi_init_28 rfl ?_
  refine x_ci c_Fi_init_29 ?_
  refine x_newi 20 c_Fi_init_31 (by first | rfl | exact hn) ⟨by decide, by decide, by decide⟩ ⟨Nat.le_of_ble_eq_true rfl, Nat.le_of_ble_eq_true rfl⟩ ?_
  refine x_put [_, _, _, _, _] c_Fi_init_33 (by first | rfl | exact hm) ⟨Nat.le_of_ble_eq_true rfl, rfl, rfl⟩ rfl ?_
  refine x_ret c_Fi_init_36 ?_
  refine ⟨rfl, rfl, rfl, rfl, rfl, rfl, rfl, fun q hq => ?_⟩
  rw [kc_gf (by omega)]
  refine kc_nn (by omega) ?_
  rw [kc_gf (by omega)]
  refine kc_nn (by omega) ?_
  rw [kc_gf (by omega)]
  refine kc_nn (by omega) ?_
  rw [kc_gf (by omega)]
  exact kc_nn (by omega) rfl
set_option maxRecDepth 100000 in
set_option maxHeartbeats 2000000 in
theorem y_Qu_init (d : Nat) {μ : kc_M} : kc_Y kt kC (d + 1) j_Qu_init [.ref 127] μ (fun v μ' => v = none ∧ μ' = μ) := by
  refine ⟨Nat.le_of_ble_eq_true rfl, ?_⟩
  refine x_al c_Qu_init_0 rfl ?_
  refine x_obj c_Qu_init_1 (Nat.le_of_ble_eq_true rfl) ?_
  refine x_ret c_Qu_init_4 ?_
  exact ⟨rfl, rfl⟩
theorem tr_k {μ μ' : kc_M} {n : Nat} {ad : Nat → Nat} {nm pr : Nat → List tv} (h : tr_at μ n ad nm pr) (hk : ∀ q, 5 ≤ q → q < 119 → μ'.1 q = μ.1 q) : tr_at μ' n ad nm pr := by
  obtain ⟨h1, ⟨rf, h2, h3⟩, h4, h5, h6, h7⟩ := h
  refine ⟨(hk 5 (by omega) (by omega)).trans h1, ⟨rf, (hk 6 (by omega) (by omega)).trans h2, h3⟩, fun e he => en_k (h4 e he) (fun q q1 q2 => ?_), h5, h6, h7⟩
  obtain ⟨k, k1, k2⟩ := h5 e he
  exact hk q (by omega) (by omega)
/-- the reader: tb is what is typed, and what was; the writer: w is what it wrote -/
def rd_at (μ : kc_M) (tb : Nat → Nat) (sz at_ en : Nat) (wr : Bool) (id : Int32) (sf st : Nat) : Prop := μ.1 1 = some (ce_Rd sz at_ en wr id sf st) ∧ μ.1 2 = some (ce_I 200 (fun j => nI (tb j)))
def wr_at (μ : kc_M) (w : Nat → Int32) (n : Nat) : Prop := μ.1 3 = some (ce_Wr n) ∧ μ.1 4 = some (ce_I 460 w)
/-- what a call uses and leaves: any contents -/
def sc_at (μ : kc_M) : Prop := (∃ p f g, μ.1 119 = some (ce_Nm 120 121 p) ∧ μ.1 120 = some (ce_I 4 f) ∧ μ.1 121 = some (ce_L 4 g)) ∧ (∃ c vc f g h k, μ.1 122 = some (ce_Ch c vc) ∧ μ.1 123 = some (ce_I 12 f) ∧ μ.1 124 = some (ce_I 12 g) ∧ μ.1 125 = some (ce_I 12 h) ∧ μ.1 126 = some (ce_L 24 k)) ∧ (∃ sc li ta wt, μ.1 127 = some (ce_Qu sc li ta wt)) ∧ (∃ c f g h k, μ.1 128 = some (ce_Fi c) ∧ μ.1 129 = some (ce_I 20 f) ∧ μ.1 130 = some (ce_I 20 g) ∧ μ.1 131 = some (ce_L 20 h) ∧ μ.1 132 = some (ce_I 20 k)) ∧ (∃ n f g, μ.1 133 = some (ce_Pa 134 135 n) ∧ μ.1 134 = some (ce_I 30 f) ∧ μ.1 135 = some (ce_L 30 g))
set_option maxRecDepth 100000 in
set_option maxHeartbeats 2000000 in
theorem y_Dk_init (d : Nat) {μ : kc_M} (hn : μ.2 = some 1) (hm : μ.1 0 = some (.inl (0, [.null, .null, .null, .null, .null, .null, .null, .null, .int 0, .int 0]) : kc_C)) : kc_Y kt kC (d + 6) j_Dk_init [.ref 0] μ (fun v μ' => v = none ∧ μ'.2 = some 136 ∧ μ'.1 0 = some (ce_Dk true false) ∧ rd_at μ' (fun _ => 0) 0 0 0 false 0 0 0 ∧ wr_at μ' (fun _ => 0) 0 ∧ tr_at μ' 1 (fun e => 7 + 7 * e) (fun e => if e = 0 then [(nI 97, v_r)] else []) (fun e => if e = 0 then [(nI 97, v_r), (nI 102, v_x)] else []) ∧ sc_at μ' ∧ ∀ q, 136 ≤ q → μ'.1 q = μ.1 q) := by
  refine ⟨Nat.le_of_ble_eq_true rfl, ?_⟩
  refine x_al c_Dk_init_0 rfl ?_
  refine x_obj c_Dk_init_1 (Nat.le_of_ble_eq_true rfl) ?_
  refine x_al c_Dk_init_4 rfl ?_
  refine x_new c_Dk_init_5 (by first | exact hn | exact n1 | exact n2 | exact n3 | exact n4 | exact n5 | exact n6 | exact n7) ⟨Nat.le_of_ble_eq_true rfl, Nat.le_of_ble_eq_true rfl⟩ ?_
  refine x_dup c_Dk_init_8 rfl ?_
  refine x_cx0 _ c_Dk_init_9 (Nat.le_of_ble_eq_true rfl) ⟨Nat.le_of_ble_eq_true rfl, Nat.le_of_ble_eq_true rfl⟩ (y_Rd_init (d + 4) (a := 1) (n := 2) (by omega) rfl rfl) ?_
  rintro _ μ1 ⟨rfl, n1, a1, b1, f1⟩
  show kc_X _ _ _ _ _ [.ref 1, .ref 0] _ _
  have k1 : μ1.1 0 = some (.inl (0, [.null, .null, .null, .null, .null, .null, .null, .null, .int 0, .int 0]) : kc_C) := (f1 0 (by omega) (by omega)).trans hm
  refine x_put [_, _, _, _, _, _, _, _, _, _] c_Dk_init_12 (by first | rfl | exact hm | exact k1 | exact k2 | exact k3 | exact k4 | exact k5 | exact k6 | exact k7 | exact k8) ⟨Nat.le_of_ble_eq_true rfl, rfl, rfl⟩ rfl ?_
  refine x_al c_Dk_init_15 rfl ?_
  refine x_new c_Dk_init_16 (by first | exact hn | exact n1 | exact n2 | exact n3 | exact n4 | exact n5 | exact n6 | exact n7) ⟨Nat.le_of_ble_eq_true rfl, Nat.le_of_ble_eq_true rfl⟩ ?_
  refine x_dup c_Dk_init_19 rfl ?_
  refine x_cx0 _ c_Dk_init_20 (Nat.le_of_ble_eq_true rfl) ⟨Nat.le_of_ble_eq_true rfl, Nat.le_of_ble_eq_true rfl⟩ (y_Wr_init (d + 4) (a := 3) (n := 4) (by omega) rfl rfl) ?_
  rintro _ μ2 ⟨rfl, n2, a2, b2, f2⟩
  show kc_X _ _ _ _ _ [.ref 3, .ref 0] _ _
  have k2 : μ2.1 0 = some (.inl (0, [.ref 1, .null, .null, .null, .null, .null, .null, .null, .int 0, .int 0]) : kc_C) := (f2 0 (by omega) (by omega)).trans rfl
  refine x_put [_, _, _, _, _, _, _, _, _, _] c_Dk_init_23 (by first | rfl | exact hm | exact k1 | exact k2 | exact k3 | exact k4 | exact k5 | exact k6 | exact k7 | exact k8) ⟨Nat.le_of_ble_eq_true rfl, rfl, rfl⟩ rfl ?_
  refine x_al c_Dk_init_26 rfl ?_
  refine x_new c_Dk_init_27 (by first | exact hn | exact n1 | exact n2 | exact n3 | exact n4 | exact n5 | exact n6 | exact n7) ⟨Nat.le_of_ble_eq_true rfl, Nat.le_of_ble_eq_true rfl⟩ ?_
  refine x_dup c_Dk_init_30 rfl ?_
  refine x_cx0 _ c_Dk_init_31 (Nat.le_of_ble_eq_true rfl) ⟨Nat.le_of_ble_eq_true rfl, Nat.le_of_ble_eq_true rfl⟩ (y_Tr_init (d + 1) rfl rfl) ?_
  rintro _ μ3 ⟨rfl, n3, t3, f3⟩
  show kc_X _ _ _ _ _ [.ref 5, .ref 0] _ _
  have k3 : μ3.1 0 = some (.inl (0, [.ref 1, .ref 3, .null, .null, .null, .null, .null, .null, .int 0, .int 0]) : kc_C) := (f3 0 (by omega)).trans rfl
  refine x_put [_, _, _, _, _, _, _, _, _, _] c_Dk_init_34 (by first | rfl | exact hm | exact k1 | exact k2 | exact k3 | exact k4 | exact k5 | exact k6 | exact k7 | exact k8) ⟨Nat.le_of_ble_eq_true rfl, rfl, rfl⟩ rfl ?_
  refine x_al c_Dk_init_37 rfl ?_
  refine x_new c_Dk_init_38 (by first | exact hn | exact n1 | exact n2 | exact n3 | exact n4 | exact n5 | exact n6 | exact n7) ⟨Nat.le_of_ble_eq_true rfl, Nat.le_of_ble_eq_true rfl⟩ ?_
  refine x_dup c_Dk_init_41 rfl ?_
  refine x_cx0 _ c_Dk_init_42 (Nat.le_of_ble_eq_true rfl) ⟨Nat.le_of_ble_eq_true rfl, Nat.le_of_ble_eq_true rfl⟩ (y_Nm_init (d + 4) (a := 119) (n := 120) (by omega) rfl rfl) ?_
  rintro _ μ4 ⟨rfl, n4, a4, b4, c4', f4⟩
  show kc_X _ _ _ _ _ [.ref 119, .ref 0] _ _
  have k4 : μ4.1 0 = some (.inl (0, [.ref 1, .ref 3, .ref 5, .null, .null, .null, .null, .null, .int 0, .int 0]) : kc_C) := (f4 0 (by omega) (by omega) (by omega)).trans rfl
  refine x_put [_, _, _, _, _, _, _, _, _, _] c_Dk_init_45 (by first | rfl | exact hm | exact k1 | exact k2 | exact k3 | exact k4 | exact k5 | exact k6 | exact k7 | exact k8) ⟨Nat.le_of_ble_eq_true rfl, rfl, rfl⟩ rfl ?_
  refine x_al c_Dk_init_48 rfl ?_
  refine x_new c_Dk_init_49 (by first | exact hn | exact n1 | exact n2 | exact n3 | exact n4 | exact n5 | exact n6 | exact n7) ⟨Nat.le_of_ble_eq_true rfl, Nat.le_of_ble_eq_true rfl⟩ ?_
  refine x_dup c_Dk_init_52 rfl ?_
  refine x_cx0 _ c_Dk_init_53 (Nat.le_of_ble_eq_true rfl) ⟨Nat.le_of_ble_eq_true rfl, Nat.le_of_ble_eq_true rfl⟩ (y_Ch_init (d + 4) rfl rfl) ?_
  rintro _ μ5 ⟨rfl, n5, a5, b5, c5', d5, e5, f5⟩
  show kc_X _ _ _ _ _ [.ref 122, .ref 0] _ _
  have k5 : μ5.1 0 = some (.inl (0, [.ref 1, .ref 3, .ref 5, .ref 119, .null, .null, .null, .null, .int 0, .int 0]) : kc_C) := (f5 0 (by omega)).trans rfl
  refine x_put [_, _, _, _, _, _, _, _, _, _] c_Dk_init_56 (by first | rfl | exact hm | exact k1 | exact k2 | exact k3 | exact k4 | exact k5 | exact k6 | exact k7 | exact k8) ⟨Nat.le_of_ble_eq_true rfl, rfl, rfl⟩ rfl ?_
  refine x_al c_Dk_init_59 rfl ?_
  refine x_new c_Dk_init_60 (by first | exact hn | exact n1 | exact n2 | exact n3 | exact n4 | exact n5 | exact n6 | exact n7) ⟨Nat.le_of_ble_eq_true rfl, Nat.le_of_ble_eq_true rfl⟩ ?_
  refine x_dup c_Dk_init_63 rfl ?_
  refine x_cx0z _ c_Dk_init_64 (Nat.le_of_ble_eq_true rfl) (y_Qu_init (d + 4)) ?_
  rintro _ μ6 ⟨rfl, h6⟩
  show kc_X _ _ _ _ _ [.ref 127, .ref 0] _ _
  have k6 : μ6.1 0 = some (.inl (0, [.ref 1, .ref 3, .ref 5, .ref 119, .ref 122, .null, .null, .null, .int 0, .int 0]) : kc_C) := by rw [h6]; rfl
  have n6 : μ6.2 = some 128 := by rw [h6]; rfl
  refine x_put [_, _, _, _, _, _, _, _, _, _] c_Dk_init_67 (by first | rfl | exact hm | exact k1 | exact k2 | exact k3 | exact k4 | exact k5 | exact k6 | exact k7 | exact k8) ⟨Nat.le_of_ble_eq_true rfl, rfl, rfl⟩ rfl ?_
  refine x_al c_Dk_init_70 rfl ?_
  refine x_new c_Dk_init_71 (by first | exact hn | exact n1 | exact n2 | exact n3 | exact n4 | exact n5 | exact n6 | exact n7) ⟨Nat.le_of_ble_eq_true rfl, Nat.le_of_ble_eq_true rfl⟩ ?_
  refine x_dup c_Dk_init_74 rfl ?_
  refine x_cx0 _ c_Dk_init_75 (Nat.le_of_ble_eq_true rfl) ⟨Nat.le_of_ble_eq_true rfl, Nat.le_of_ble_eq_true rfl⟩ (y_Fi_init (d + 4) rfl rfl) ?_
  rintro _ μ7 ⟨rfl, n7, a7, b7, c7', d7, e7, f7⟩
  show kc_X _ _ _ _ _ [.ref 128, .ref 0] _ _
  have k7 : μ7.1 0 = some (.inl (0, [.ref 1, .ref 3, .ref 5, .ref 119, .ref 122, .ref 127, .null, .null, .int 0, .int 0]) : kc_C) := (f7 0 (by omega)).trans rfl
  refine x_put [_, _, _, _, _, _, _, _, _, _] c_Dk_init_78 (by first | rfl | exact hm | exact k1 | exact k2 | exact k3 | exact k4 | exact k5 | exact k6 | exact k7 | exact k8) ⟨Nat.le_of_ble_eq_true rfl, rfl, rfl⟩ rfl ?_
  refine x_al c_Dk_init_81 rfl ?_
  refine x_new c_Dk_init_82 (by first | exact hn | exact n1 | exact n2 | exact n3 | exact n4 | exact n5 | exact n6 | exact n7) ⟨Nat.le_of_ble_eq_true rfl, Nat.le_of_ble_eq_true rfl⟩ ?_
  refine x_dup c_Dk_init_85 rfl ?_
  refine x_ci c_Dk_init_86 ?_
  refine x_cx1 _ c_Dk_init_88 (Nat.le_of_ble_eq_true rfl) ⟨Nat.le_of_ble_eq_true rfl, Nat.le_of_ble_eq_true rfl⟩ (y_Pa_init (d + 4) (a := 133) (n := 134) (k := 30) (by omega) (by omega) rfl rfl) ?_
  rintro _ μ8 ⟨rfl, n8, a8, b8, c8, f8⟩
  show kc_X _ _ _ _ _ [.ref 133, .ref 0] _ _
  have k8 : μ8.1 0 = some (.inl (0, [.ref 1, .ref 3, .ref 5, .ref 119, .ref 122, .ref 127, .ref 128, .null, .int 0, .int 0]) : kc_C) := (f8 0 (by omega) (by omega) (by omega)).trans rfl
  refine x_put [_, _, _, _, _, _, _, _, _, _] c_Dk_init_91 (by first | rfl | exact hm | exact k1 | exact k2 | exact k3 | exact k4 | exact k5 | exact k6 | exact k7 | exact k8) ⟨Nat.le_of_ble_eq_true rfl, rfl, rfl⟩ rfl ?_
  refine x_al c_Dk_init_94 rfl ?_
  refine x_ci c_Dk_init_95 ?_
  refine x_put [_, _, _, _, _, _, _, _, _, _] c_Dk_init_96 (by first | rfl | exact hm | exact k1 | exact k2 | exact k3 | exact k4 | exact k5 | exact k6 | exact k7 | exact k8) ⟨Nat.le_of_ble_eq_true rfl, by first | decide | exact kz_n _, by first | decide | exact kz_f _⟩ rfl ?_
  refine x_ret c_Dk_init_99 ?_
  have g8 : ∀ q, q ≠ 0 → q ≠ 133 → q ≠ 134 → q ≠ 135 → μ8.1 q = μ7.1 q := fun q q0 q1 q2 q3 => (f8 q q1 q2 q3).trans (kc_nn q1 (kc_gf q0))
  have g7 : ∀ q, q ≠ 0 → q < 128 ∨ 133 ≤ q → μ7.1 q = μ6.1 q := fun q q0 q1 => (f7 q q1).trans (kc_nn (by omega) (kc_gf q0))
  have g6 : ∀ q, q ≠ 0 → q ≠ 127 → μ6.1 q = μ5.1 q := fun q q0 q1 => by rw [h6]; exact kc_nn q1 (kc_gf q0)
  have g5 : ∀ q, q ≠ 0 → q < 122 ∨ 127 ≤ q → μ5.1 q = μ4.1 q := fun q q0 q1 => (f5 q q1).trans (kc_nn (by omega) (kc_gf q0))
  have g4 : ∀ q, q ≠ 0 → q ≠ 119 → q ≠ 120 → q ≠ 121 → μ4.1 q = μ3.1 q := fun q q0 q1 q2 q3 => (f4 q q1 q2 q3).trans (kc_nn q1 (kc_gf q0))
  have g3 : ∀ q, q ≠ 0 → q < 5 ∨ 119 ≤ q → μ3.1 q = μ2.1 q := fun q q0 q1 => (f3 q q1).trans (kc_nn (by omega) (kc_gf q0))
  have g2 : ∀ q, q ≠ 0 → q ≠ 3 → q ≠ 4 → μ2.1 q = μ1.1 q := fun q q0 q1 q2 => (f2 q q1 q2).trans (kc_nn q1 (kc_gf q0))
  have g1 : ∀ q, q ≠ 0 → q ≠ 1 → q ≠ 2 → μ1.1 q = μ.1 q := fun q q0 q1 q2 => (f1 q q1 q2).trans (kc_nn q1 rfl)
  have c7 : ∀ q, q ≠ 0 → 128 ≤ q → q < 133 → μ8.1 q = μ7.1 q := fun q q0 q1 q2 => g8 q q0 (by omega) (by omega) (by omega)
  have c6 : ∀ q, q ≠ 0 → q < 128 → μ8.1 q = μ6.1 q := fun q q0 q1 => (g8 q q0 (by omega) (by omega) (by omega)).trans (g7 q q0 (by omega))
  have c5 : ∀ q, q ≠ 0 → q < 127 → μ8.1 q = μ5.1 q := fun q q0 q1 => (c6 q q0 (by omega)).trans (g6 q q0 (by omega))
  have c4 : ∀ q, q ≠ 0 → q < 122 → μ8.1 q = μ4.1 q := fun q q0 q1 => (c5 q q0 (by omega)).trans (g5 q q0 (by omega))
  have c3 : ∀ q, q ≠ 0 → q < 119 → μ8.1 q = μ3.1 q := fun q q0 q1 => (c4 q q0 (by omega)).trans (g4 q q0 (by omega) (by omega) (by omega))
  have c2 : ∀ q, q ≠ 0 → q < 5 → μ8.1 q = μ2.1 q := fun q q0 q1 => (c3 q q0 (by omega)).trans (g3 q q0 (by omega))
  have c1 : ∀ q, q ≠ 0 → q < 3 → μ8.1 q = μ1.1 q := fun q q0 q1 => (c2 q q0 (by omega)).trans (g2 q q0 (by omega) (by omega))
  refine ⟨rfl, n8, rfl, ⟨(c1 1 (by omega) (by omega)).trans a1, (c1 2 (by omega) (by omega)).trans b1⟩, ⟨(c2 3 (by omega) (by omega)).trans a2, (c2 4 (by omega) (by omega)).trans b2⟩, tr_k t3 (fun q q1 q2 => (kc_gf (by omega)).trans ((kc_gf (by omega)).trans (c3 q (by omega) q2))), ⟨⟨_, _, _, (c4 119 (by omega) (by omega)).trans a4, (c4 120 (by omega) (by omega)).trans b4, (c4 121 (by omega) (by omega)).trans c4'⟩, ⟨_, _, _, _, _, _, (c5 122 (by omega) (by omega)).trans a5, (c5 123 (by omega) (by omega)).trans b5, (c5 124 (by omega) (by omega)).trans c5', (c5 125 (by omega) (by omega)).trans d5, (c5 126 (by omega) (by omega)).trans e5⟩, ⟨0, 0, false, 0, (c6 127 (by omega) (by omega)).trans (by rw [h6]; rfl)⟩, ⟨_, _, _, _, _, (c7 128 (by omega) (by omega) (by omega)).trans a7, (c7 129 (by omega) (by omega) (by omega)).trans b7, (c7 130 (by omega) (by omega) (by omega)).trans c7', (c7 131 (by omega) (by omega) (by omega)).trans d7, (c7 132 (by omega) (by omega) (by omega)).trans e7⟩, ⟨0, _, _, a8, b8, c8⟩⟩, fun q hq => ?_⟩
  rw [kc_gf (by omega), kc_gf (by omega), g8 q (by omega) (by omega) (by omega) (by omega), g7 q (by omega) (by omega), g6 q (by omega) (by omega), g5 q (by omega) (by omega), g4 q (by omega) (by omega) (by omega) (by omega), g3 q (by omega) (by omega), g2 q (by omega) (by omega) (by omega), g1 q (by omega) (by omega) (by omega)]
