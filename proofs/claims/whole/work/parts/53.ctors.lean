/-! cells of the system; small constructors -/
abbrev ce_I (n : Nat) (f : Nat → Int32) : kc_C := .inr (n, .inl f)
abbrev ce_L (n : Nat) (f : Nat → Int64) : kc_C := .inr (n, .inr (.inl f))
abbrev ce_Q (n : Nat) (f : Nat → Option Nat) : kc_C := .inr (n, .inr (.inr (.inr (.inr f))))
abbrev ce_Rd (sz at_ en : Nat) (wr : Bool) (id : Int32) (sf st : Nat) : kc_C := .inl (1, [.ref 2, .int (nI sz), .int (nI at_), .int (nI en), .int (bI wr), .int id, .int (nI sf), .int (nI st)])
abbrev ce_Wr (sz : Nat) : kc_C := .inl (2, [.ref 4, .int (nI sz)])
abbrev ce_Tr (n : Nat) : kc_C := .inl (3, [.ref 6, .int (nI n)])
abbrev ce_En (a b : Nat) : kc_C := .inl (4, [.ref a, .ref b])
abbrev ce_Nm (t v : Nat) (n : Int32) : kc_C := .inl (5, [.ref t, .ref v, .int n])
abbrev ce_Pa (t v : Nat) (n : Nat) : kc_C := .inl (6, [.ref t, .ref v, .int (nI n)])
abbrev ce_Ch (c vc : Nat) : kc_C := .inl (7, [.ref 123, .ref 124, .ref 125, .ref 126, .int (nI c), .int (nI vc)])
abbrev ce_Qu (sc li : Int32) (ta : Bool) (wt : Int32) : kc_C := .inl (8, [.int sc, .int li, .int (bI ta), .int wt])
abbrev ce_Fi (c : Nat) : kc_C := .inl (9, [.ref 129, .ref 130, .ref 131, .ref 132, .int (nI c)])
abbrev ce_Dk (lo so : Bool) : kc_C := .inl (0, [.ref 1, .ref 3, .ref 5, .ref 119, .ref 122, .ref 127, .ref 128, .ref 133, .int (bI lo), .int (bI so)])
set_option maxRecDepth 100000 in
set_option maxHeartbeats 1000000 in
theorem y_Rd_init (d : Nat) {μ : kc_M} {a n : Nat} (ha : a < n) (hn : μ.2 = some n) (hm : μ.1 a = some (.inl (1, [.null, .int 0, .int 0, .int 0, .int 0, .int 0, .int 0, .int 0]))) : kc_Y kt kC (d + 1) j_Rd_init [.ref a] μ (fun v μ' => v = none ∧ μ'.2 = some (n + 1) ∧ μ'.1 a = some (.inl (1, [.ref n, .int 0, .int 0, .int 0, .int 0, .int 0, .int 0, .int 0])) ∧ μ'.1 n = some (ce_I 200 (fun _ => 0)) ∧ ∀ q, q ≠ a → q ≠ n → μ'.1 q = μ.1 q) := by
  refine ⟨Nat.le_of_ble_eq_true rfl, ?_⟩
  refine x_al c_Rd_init_0 rfl ?_
  refine x_obj c_Rd_init_1 (Nat.le_of_ble_eq_true rfl) ?_
  refine x_al c_Rd_init_4 rfl ?_
  refine x_ci c_Rd_init_5 ?_
  refine x_newi 200 c_Rd_init_8 (by first | rfl | exact hn) ⟨by decide, by decide, by decide⟩ ⟨Nat.le_of_ble_eq_true rfl, Nat.le_of_ble_eq_true rfl⟩ ?_
  refine x_put [_, _, _, _, _, _, _, _] c_Rd_init_10 (by first | rfl | exact hm | exact (kc_nn (Nat.ne_of_lt ha) hm)) ⟨Nat.le_of_ble_eq_true rfl, rfl, rfl⟩ rfl ?_
  refine x_ret c_Rd_init_13 ?_
  have g3 : ¬ n = a := by omega
  refine ⟨rfl, rfl, ?_⟩
  simp only [kc_u, kc_n]
  refine ⟨by simp, by simp [g3], fun q h1 h2 => by simp [h1, h2]⟩
set_option maxRecDepth 100000 in
set_option maxHeartbeats 1000000 in
theorem y_Wr_init (d : Nat) {μ : kc_M} {a n : Nat} (ha : a < n) (hn : μ.2 = some n) (hm : μ.1 a = some (.inl (2, [.null, .int 0]))) : kc_Y kt kC (d + 1) j_Wr_init [.ref a] μ (fun v μ' => v = none ∧ μ'.2 = some (n + 1) ∧ μ'.1 a = some (.inl (2, [.ref n, .int 0])) ∧ μ'.1 n = some (ce_I 460 (fun _ => 0)) ∧ ∀ q, q ≠ a → q ≠ n → μ'.1 q = μ.1 q) := by
  refine ⟨Nat.le_of_ble_eq_true rfl, ?_⟩
  refine x_al c_Wr_init_0 rfl ?_
  refine x_obj c_Wr_init_1 (Nat.le_of_ble_eq_true rfl) ?_
  refine x_al c_Wr_init_4 rfl ?_
  refine x_ci c_Wr_init_5 ?_
  refine x_newi 460 c_Wr_init_8 (by first | rfl | exact hn) ⟨by decide, by decide, by decide⟩ ⟨Nat.le_of_ble_eq_true rfl, Nat.le_of_ble_eq_true rfl⟩ ?_
  refine x_put [_, _] c_Wr_init_10 (by first | rfl | exact hm | exact (kc_nn (Nat.ne_of_lt ha) hm)) ⟨Nat.le_of_ble_eq_true rfl, rfl, rfl⟩ rfl ?_
  refine x_ret c_Wr_init_13 ?_
  have g3 : ¬ n = a := by omega
  refine ⟨rfl, rfl, ?_⟩
  simp only [kc_u, kc_n]
  refine ⟨by simp, by simp [g3], fun q h1 h2 => by simp [h1, h2]⟩
set_option maxRecDepth 100000 in
set_option maxHeartbeats 1000000 in
theorem y_Nm_init (d : Nat) {μ : kc_M} {a n : Nat} (ha : a < n) (hn : μ.2 = some n) (hm : μ.1 a = some (.inl (5, [.null, .null, .int 0]))) : kc_Y kt kC (d + 1) j_Nm_init [.ref a] μ (fun v μ' => v = none ∧ μ'.2 = some (n + 2) ∧ μ'.1 a = some (.inl (5, [.ref n, .ref (n + 1), .int 0])) ∧ μ'.1 n = some (ce_I 4 (fun _ => 0)) ∧ μ'.1 (n + 1) = some (ce_L 4 (fun _ => 0)) ∧ ∀ q, q ≠ a → q ≠ n → q ≠ n + 1 → μ'.1 q = μ.1 q) := by
  refine ⟨Nat.le_of_ble_eq_true rfl, ?_⟩
  refine x_al c_Nm_init_0 rfl ?_
  refine x_obj c_Nm_init_1 (Nat.le_of_ble_eq_true rfl) ?_
  refine x_al c_Nm_init_4 rfl ?_
  refine x_ci c_Nm_init_5 ?_
  refine x_newi 4 c_Nm_init_6 (by first | rfl | exact hn) ⟨by decide, by decide, by decide⟩ ⟨Nat.le_of_ble_eq_true rfl, Nat.le_of_ble_eq_true rfl⟩ ?_
  refine x_put [_, _, _] c_Nm_init_8 (by first | rfl | exact hm | exact (kc_nn (Nat.ne_of_lt ha) hm) | exact (kc_nn (Nat.ne_of_lt (Nat.lt_succ_of_lt ha)) kc_gs)) ⟨Nat.le_of_ble_eq_true rfl, rfl, rfl⟩ rfl ?_
  refine x_al c_Nm_init_11 rfl ?_
  refine x_ci c_Nm_init_12 ?_
  refine x_newl 4 c_Nm_init_13 (by first | rfl | exact hn) ⟨by decide, by decide, by decide⟩ ⟨Nat.le_of_ble_eq_true rfl, Nat.le_of_ble_eq_true rfl⟩ ?_
  refine x_put [_, _, _] c_Nm_init_15 (by first | rfl | exact hm | exact (kc_nn (Nat.ne_of_lt ha) hm) | exact (kc_nn (Nat.ne_of_lt (Nat.lt_succ_of_lt ha)) kc_gs)) ⟨Nat.le_of_ble_eq_true rfl, rfl, rfl⟩ rfl ?_
  refine x_ret c_Nm_init_18 ?_
  have g1 : ¬ a = n := by omega
  have g2 : ¬ a = n + 1 := by omega
  have g3 : ¬ n = a := by omega
  have g4 : ¬ n + 1 = a := by omega
  refine ⟨rfl, rfl, ?_⟩
  simp only [kc_u, kc_n]
  refine ⟨by simp, by simp [g3], by simp [g4], fun q h1 h2 h3 => by simp [h1, h2, h3]⟩
set_option maxRecDepth 100000 in
set_option maxHeartbeats 1000000 in
theorem y_Pa_init (d : Nat) {μ : kc_M} {a n : Nat} {k : Nat} (hk : k ≤ 30) (ha : a < n) (hn : μ.2 = some n) (hm : μ.1 a = some (.inl (6, [.null, .null, .int 0]))) : kc_Y kt kC (d + 1) j_Pa_init [.ref a, .int (nI k)] μ (fun v μ' => v = none ∧ μ'.2 = some (n + 2) ∧ μ'.1 a = some (.inl (6, [.ref n, .ref (n + 1), .int 0])) ∧ μ'.1 n = some (ce_I k (fun _ => 0)) ∧ μ'.1 (n + 1) = some (ce_L k (fun _ => 0)) ∧ ∀ q, q ≠ a → q ≠ n → q ≠ n + 1 → μ'.1 q = μ.1 q) := by
  refine ⟨Nat.le_of_ble_eq_true rfl, ?_⟩
  refine x_al c_Pa_init_0 rfl ?_
  refine x_obj c_Pa_init_1 (Nat.le_of_ble_eq_true rfl) ?_
  refine x_al c_Pa_init_4 rfl ?_
  refine x_il c_Pa_init_5 rfl ?_
  refine x_newi k c_Pa_init_6 (by first | rfl | exact hn) ⟨nI_pos (by omega), nI_clamp (by omega), by omega⟩ ⟨Nat.le_of_ble_eq_true rfl, by show k ≤ 60; omega⟩ ?_
  refine x_put [_, _, _] c_Pa_init_8 (by first | rfl | exact hm | exact (kc_nn (Nat.ne_of_lt ha) hm) | exact (kc_nn (Nat.ne_of_lt (Nat.lt_succ_of_lt ha)) kc_gs)) ⟨Nat.le_of_ble_eq_true rfl, rfl, rfl⟩ rfl ?_
  refine x_al c_Pa_init_11 rfl ?_
  refine x_il c_Pa_init_12 rfl ?_
  refine x_newl k c_Pa_init_13 (by first | rfl | exact hn) ⟨nI_pos (by omega), nI_clamp (by omega), by omega⟩ ⟨Nat.le_of_ble_eq_true rfl, by show k ≤ 60 - k; omega⟩ ?_
  refine x_put [_, _, _] c_Pa_init_15 (by first | rfl | exact hm | exact (kc_nn (Nat.ne_of_lt ha) hm) | exact (kc_nn (Nat.ne_of_lt (Nat.lt_succ_of_lt ha)) kc_gs)) ⟨Nat.le_of_ble_eq_true rfl, rfl, rfl⟩ rfl ?_
  refine x_ret c_Pa_init_18 ?_
  have g1 : ¬ a = n := by omega
  have g2 : ¬ a = n + 1 := by omega
  have g3 : ¬ n = a := by omega
  have g4 : ¬ n + 1 = a := by omega
  refine ⟨rfl, rfl, ?_⟩
  simp only [kc_u, kc_n]
  refine ⟨by simp, by simp [g3], by simp [g4], fun q h1 h2 h3 => by simp [h1, h2, h3]⟩
/-- an entry's seven cells, at e -/
def en_at (μ : kc_M) (e : Nat) (np : Int32) (nt : Nat → Int32) (nv : Nat → Int64) (pn : Nat) (pt : Nat → Int32) (pv : Nat → Int64) : Prop :=
  μ.1 e = some (ce_En (e + 1) (e + 4)) ∧ μ.1 (e + 1) = some (ce_Nm (e + 2) (e + 3) np) ∧ μ.1 (e + 2) = some (ce_I 4 nt) ∧ μ.1 (e + 3) = some (ce_L 4 nv) ∧ μ.1 (e + 4) = some (ce_Pa (e + 5) (e + 6) pn) ∧ μ.1 (e + 5) = some (ce_I 6 pt) ∧ μ.1 (e + 6) = some (ce_L 6 pv)
set_option maxRecDepth 100000 in
set_option maxHeartbeats 1000000 in
theorem y_En_init (d : Nat) {μ : kc_M} {e : Nat} (hn : μ.2 = some (e + 1)) (hm : μ.1 e = some (.inl (4, [.null, .null]))) : kc_Y kt kC (d + 2) j_En_init [.ref e] μ (fun v μ' => v = none ∧ μ'.2 = some (e + 7) ∧ en_at μ' e 0 (fun _ => 0) (fun _ => 0) 0 (fun _ => 0) (fun _ => 0) ∧ ∀ q, q < e ∨ e + 7 ≤ q → μ'.1 q = μ.1 q) := by
  refine ⟨Nat.le_of_ble_eq_true rfl, ?_⟩
  refine x_al c_En_init_0 rfl ?_
  refine x_obj c_En_init_1 (Nat.le_of_ble_eq_true rfl) ?_
  refine x_al c_En_init_4 rfl ?_
  refine x_new c_En_init_5 (by first | rfl | exact hn | exact n1) ⟨Nat.le_of_ble_eq_true rfl, Nat.le_of_ble_eq_true rfl⟩ ?_
  refine x_dup c_En_init_8 rfl ?_
  refine x_cx0 _ c_En_init_9 (Nat.le_of_ble_eq_true rfl) ⟨Nat.le_of_ble_eq_true rfl, Nat.le_of_ble_eq_true rfl⟩ (y_Nm_init d (a := e + 1) (n := e + 2) (by omega) rfl kc_ns) ?_
  rintro v μ1 ⟨rfl, n1, f1, f2, f3, f4⟩
  show kc_X _ _ _ _ _ [.ref (e + 1), .ref e] _ _
  have m1 : μ1.1 e = some (.inl (4, [.null, .null])) := by rw [f4 e (by omega) (by omega) (by omega)]; exact kc_nn (by omega) hm
  refine x_put [_, _] c_En_init_12 (by first | rfl | exact hm | exact (kc_nn (by omega) hm) | exact m1 | exact m2 | exact (kc_nn (by omega) m1)) ⟨Nat.le_of_ble_eq_true rfl, rfl, rfl⟩ rfl ?_
  refine x_al c_En_init_15 rfl ?_
  refine x_new c_En_init_16 (by first | rfl | exact hn | exact n1) ⟨Nat.le_of_ble_eq_true rfl, Nat.le_of_ble_eq_true rfl⟩ ?_
  refine x_dup c_En_init_19 rfl ?_
  refine x_ci c_En_init_20 ?_
  refine x_cx1 _ c_En_init_22 (Nat.le_of_ble_eq_true rfl) ⟨Nat.le_of_ble_eq_true rfl, Nat.le_of_ble_eq_true rfl⟩ (y_Pa_init d (a := e + 4) (n := e + 5) (k := 6) (by omega) (by omega) rfl kc_ns) ?_
  rintro v μ2 ⟨rfl, n2, k1, k2, k3, k4⟩
  show kc_X _ _ _ _ _ [.ref (e + 4), .ref e] _ _
  have m2 : μ2.1 e = some (.inl (4, [.ref (e + 1), .null])) := by rw [k4 e (by omega) (by omega) (by omega)]; exact kc_nn (by omega) kc_gs
  refine x_put [_, _] c_En_init_25 (by first | rfl | exact hm | exact (kc_nn (by omega) hm) | exact m1 | exact m2 | exact (kc_nn (by omega) m1)) ⟨Nat.le_of_ble_eq_true rfl, rfl, rfl⟩ rfl ?_
  refine x_ret c_En_init_28 ?_
  refine ⟨rfl, n2, ⟨?_, ?_, ?_, ?_, ?_, ?_, ?_⟩, fun q hq => ?_⟩
  · exact kc_gs
  · rw [kc_gf (by omega), k4 _ (by omega) (by omega) (by omega)]; exact kc_nn (by omega) (kc_gn (by omega) f1)
  · rw [kc_gf (by omega), k4 _ (by omega) (by omega) (by omega)]; exact kc_nn (by omega) (kc_gn (by omega) f2)
  · rw [kc_gf (by omega), k4 _ (by omega) (by omega) (by omega)]; exact kc_nn (by omega) (kc_gn (by omega) f3)
  · rw [kc_gf (by omega)]; exact k1
  · rw [kc_gf (by omega)]; exact k2
  · rw [kc_gf (by omega)]; exact k3
  · have hq1 : q < e ∨ e + 7 ≤ q := hq
    rw [kc_gf (by omega), k4 _ (by omega) (by omega) (by omega)]
    refine kc_nn (by omega) (kc_gn (by omega) ?_)
    rw [f4 _ (by omega) (by omega) (by omega)]
    exact kc_nn (by omega) rfl
