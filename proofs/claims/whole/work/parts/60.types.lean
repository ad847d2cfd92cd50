/-! connect and type, of class and reference; all pairs of calls but handle -/
theorem x_putM {C : Nat → kc_A} {R : kc_R} {Q : Option Value → kc_M → Prop} {pc : Nat} {L : kc_L} {μ : kc_M} {B : Nat × Nat} {i : Nat} {ty : FieldType} {s : Nat → Int32} {v : Int32} {r : List Value} (hC : C pc = ka_put 10 i ty) (hm : μ.1 136 = some (ce_Md s)) (hf : i < 52 ∧ narrow ty (.int v) = .int v ∧ fits ty (.int v) = true) (hs : (mdF s).set i (.int v) = mdF (upd s i v)) (h : kc_X C R Q (pc + 3) L r (kc_u μ 136 (ce_Md (upd s i v))) B) : kc_X C R Q pc L (.int v :: .ref 136 :: r) μ B :=
  x_put (mdF (upd s i v)) hC hm ⟨hf.1, hf.2⟩ hs h
def b8 (x : Int64) (k : Nat) : Nat := (x >>> ((nI (8 * k)).toInt64 &&& 63)).toBitVec.toNat % 256
theorem b8_lt (x : Int64) (k : Nat) : b8 x k < 256 := Nat.mod_lt _ (by decide)
theorem l2i_and (y : Int64) : y.toInt32 &&& nI 255 = nI (y.toBitVec.toNat % 256) := by
  rw [pk_and y.toInt32 (m := nI 255) 8 (by decide)]
  congr 1
  have h : y.toInt32.toBitVec.toNat = y.toBitVec.toNat % 2 ^ 32 := by
    rw [Int64.toBitVec_toInt32]
    simp [BitVec.toNat_signExtend, BitVec.toNat_setWidth, BitVec.signExtend_eq_setWidth_of_le]
  rw [h]
  omega
theorem and_l2i (y : Int64) : (y &&& 255).toInt32 = nI (y.toBitVec.toNat % 256) := by
  apply Int32.toBitVec_inj.mp
  have h1 : (y &&& 255).toBitVec = BitVec.ofNat 64 (y.toBitVec.toNat % 256) := by
    apply BitVec.eq_of_toNat_eq
    rw [Int64.toBitVec_and, BitVec.toNat_and]
    have : (255 : Int64).toBitVec.toNat = 2 ^ 8 - 1 := by decide
    rw [this, Nat.and_two_pow_sub_one_eq_mod, BitVec.toNat_ofNat]
    have := y.toBitVec.isLt
    omega
  rw [Int64.toBitVec_toInt32, h1]
  apply BitVec.eq_of_toNat_eq
  have h2 : (nI (y.toBitVec.toNat % 256)).toBitVec.toNat = y.toBitVec.toNat % 256 := pk_tn (by omega)
  rw [h2]
  rw [BitVec.signExtend_eq_setWidth_of_le _ (by decide)]
  simp
  omega
/-- m bytes of x more, behind sz: what is typed then -/
def ty8 (x : Int64) : Nat → (Nat → Nat) → Nat → Nat → Nat
  | 0, tb, _ => tb
  | m + 1, tb, sz => ty8 x m (va_up tb sz (b8 x m)) (sz + 1)
theorem ty8_lt (x : Int64) : ∀ (m : Nat) (tb : Nat → Nat) (sz : Nat), (∀ j, tb j < 256) → ∀ j, ty8 x m tb sz j < 256
  | 0, _, _, h, j => h j
  | m + 1, tb, sz, h, j => by
    unfold ty8
    refine ty8_lt x m _ _ (fun i => ?_) j
    unfold va_up
    split
    · exact b8_lt x m
    · exact h i
theorem upd_up (tb : Nat → Nat) (k b : Nat) : upd (fun j => nI (tb j)) k (nI b) = fun j => nI (va_up tb k b j) := by
  funext j
  by_cases h : j = k <;> simp [upd, va_up, h]
theorem n8 (n : Int32) : n < nI 1 ∨ nI 8 < n ∨ ∃ k, 1 ≤ k ∧ k ≤ 8 ∧ n = nI k := by
  rcases pk_ix n (n := 9) (by omega) with h | h | ⟨j, hj, rfl⟩
  · left
    rw [Int32.lt_iff_toInt_lt] at h ⊢
    have : (nI 1).toInt = 1 := by decide
    have : (0 : Int32).toInt = 0 := by decide
    omega
  · right; left
    rw [Int32.le_iff_toInt_le] at h
    rw [Int32.lt_iff_toInt_lt]
    have : (nI 9).toInt = 9 := by decide
    have : (nI 8).toInt = 8 := by decide
    omega
  · by_cases h0 : j = 0
    · left; subst h0; decide
    · exact Or.inr (Or.inr ⟨j, by omega, by omega, rfl⟩)
set_option maxRecDepth 100000 in
set_option maxHeartbeats 2000000 in
theorem y_Rd_clear (d : Nat) {μ : kc_M} {sz at_ en : Nat} {wr : Bool} {id : Int32} {sf st : Nat} (h1 : μ.1 1 = some (ce_Rd sz at_ en wr id sf st)) : kc_Y kt kC (d + 1) j_Rd_clear [.ref 1] μ (fun v μ' => v = none ∧ μ'.1 1 = some (ce_Rd 0 at_ en wr id sf st) ∧ ∀ q, q ≠ 1 → μ'.1 q = μ.1 q) := by
  refine ⟨Nat.le_of_ble_eq_true rfl, ?_⟩
  refine x_al c_Rd_clear_0 rfl ?_
  refine x_ci c_Rd_clear_1 ?_
  refine x_put [_, _, _, _, _, _, _, _] c_Rd_clear_2 (by first | rfl | exact h1) ⟨Nat.le_of_ble_eq_true rfl, rfl, rfl⟩ rfl ?_
  refine x_ret c_Rd_clear_5 ?_
  exact ⟨rfl, rfl, fun q hq => kc_gf hq⟩
set_option maxRecDepth 100000 in
set_option maxHeartbeats 2000000 in
theorem y_Rd_take (d : Nat) {μ : kc_M} {tb : Nat → Nat} {sz at_ en : Nat} {wr : Bool} {id : Int32} {sf st : Nat} {x : Int64} {n : Nat} (hr : rd_at μ tb sz at_ en wr id sf st) (hn : 1 ≤ n ∧ sz + n ≤ 200) : kc_Y kt kC (d + 1) j_Rd_take [.ref 1, .long x, .int (nI n)] μ (fun v μ' => v = none ∧ rd_at μ' (ty8 x n tb sz) (sz + n) at_ en wr id sf st ∧ ∀ q, q ≠ 1 → q ≠ 2 → μ'.1 q = μ.1 q) := by
  refine ⟨Nat.le_of_ble_eq_true rfl, ?_⟩
  have loop : ∀ m : Nat, ∀ (tb1 : Nat → Nat) (sz1 : Nat) (μ1 : kc_M), sz1 + m ≤ 200 → sz1 + m = sz + n → ty8 x m tb1 sz1 = ty8 x n tb sz → rd_at μ1 tb1 sz1 at_ en wr id sf st → (∀ q, q ≠ 1 → q ≠ 2 → μ1.1 q = μ.1 q) → kc_X (kC j_Rd_take) (kc_Y kt kC d) (fun v μ' => v = none ∧ rd_at μ' (ty8 x n tb sz) (sz + n) at_ en wr id sf st ∧ ∀ q, q ≠ 1 → q ≠ 2 → μ'.1 q = μ.1 q) 5 [some (.ref 1), some (.long x), none, some (.int (nI n)), some (.int (nI m + (-1)))] [] μ1 (0, 0) := by
    intro m
    induction m with
    | zero =>
      intro tb1 sz1 μ1 hz hs hty hr hf
      refine x_il c_Rd_take_5 rfl ?_
      refine x_if_lt c_Rd_take_7 (fun _ => ?_) (fun h => absurd (by decide) h)
      refine x_ret c_Rd_take_59 ?_
      exact ⟨rfl, by rw [← hs, ← hty]; exact hr, hf⟩
    | succ m ih =>
      intro tb1 sz1 μ1 hz hs hty ⟨h1, h2⟩ hf
      rw [pk_m1]
      refine x_il c_Rd_take_5 rfl ?_
      refine x_if_lt c_Rd_take_7 (fun h => absurd h (nI_pos (by omega))) (fun _ => ?_)
      refine x_al c_Rd_take_10 rfl ?_
      refine x_get c_Rd_take_11 (by first | rfl | exact h1 | exact h2) rfl ?_
      refine x_al c_Rd_take_14 rfl ?_
      refine x_get c_Rd_take_15 (by first | rfl | exact h1 | exact h2) rfl ?_
      refine x_alenN c_Rd_take_18 (by first | rfl | exact h1 | exact h2) ?_
      refine x_cm_ge c_Rd_take_19 (fun h => absurd h (nI_ge (by omega) (by omega))) (fun _ => ?_)
      refine x_al c_Rd_take_22 rfl ?_
      refine x_get c_Rd_take_23 (by first | rfl | exact h1 | exact h2) rfl ?_
      refine x_al c_Rd_take_26 rfl ?_
      refine x_get c_Rd_take_27 (by first | rfl | exact h1 | exact h2) rfl ?_
      refine x_ll c_Rd_take_30 rfl ?_
      refine x_ci c_Rd_take_31 ?_
      refine x_il c_Rd_take_33 rfl ?_
      first | refine x_imulN c_Rd_take_35 ?_ | refine x_imul c_Rd_take_35 ?_
      refine x_lshr c_Rd_take_36 ?_
      refine x_l2i c_Rd_take_37 ?_
      refine x_ci c_Rd_take_38 ?_
      refine x_iand c_Rd_take_41 ?_
      rw [show (x >>> ((nI (8 * m)).toInt64 &&& 63)).toInt32 &&& nI 255 = nI (b8 x m) from l2i_and _]
      refine x_iastN c_Rd_take_42 (by first | rfl | exact h1 | exact h2) (by omega) (by omega) ?_
      refine x_al c_Rd_take_43 rfl ?_
      refine x_dup c_Rd_take_44 rfl ?_
      refine x_get c_Rd_take_45 (by first | rfl | exact h1 | exact h2) rfl ?_
      refine x_ci c_Rd_take_48 ?_
      first | refine x_iaddN c_Rd_take_49 ?_ | refine x_iadd c_Rd_take_49 ?_
      refine x_put [_, _, _, _, _, _, _, _] c_Rd_take_50 (by first | rfl | exact h1 | exact h2) ⟨Nat.le_of_ble_eq_true rfl, rfl, rfl⟩ rfl ?_
      first | refine x_decN [_, _, _, _, _] c_Rd_take_53 rfl (by omega) rfl ?_ | refine x_inc [_, _, _, _, _] c_Rd_take_53 rfl rfl ?_
      refine x_goto c_Rd_take_56 ?_
      refine ih (va_up tb1 sz1 (b8 x m)) (sz1 + 1) _ (by omega) (by omega) hty ⟨kc_gs, ?_⟩ (fun q q1 q2 => ?_)
      · rw [kc_gf (by omega), kc_gs, upd_up]
      · rw [kc_gf q1, kc_gf q2]; exact hf q q1 q2
  refine x_il c_Rd_take_0 rfl ?_
  refine x_ci c_Rd_take_1 ?_
  first | refine x_isubN c_Rd_take_2 (by omega) ?_ | refine x_isub c_Rd_take_2 ?_
  refine x_is [_, _, _, _, _] c_Rd_take_3 rfl ?_
  rw [← sb_m1 (p := n) (by omega)]
  exact loop n tb sz μ (by omega) rfl rfl hr (fun _ _ _ => rfl)
set_option maxRecDepth 100000 in
set_option maxHeartbeats 2000000 in
theorem y_Dk_connect (d : Nat) {μ : kc_M} {lo so : Bool} {tb : Nat → Nat} {sz : Nat} {w : Nat → Int32} {wn n : Nat} {ad : Nat → Nat} {nm pr : Nat → List tv} (h : CI μ lo so tb sz w wn n ad nm pr) : kc_Y kt kC (d + 2) j_Dk_connect [.ref 0] μ (fun v μ' => v = none ∧ CI μ' true false tb 0 w wn n ad nm pr ∧ ∀ q, 136 ≤ q → μ'.1 q = μ.1 q) := by
  obtain ⟨h0, ⟨x1, x2, x3, x4, x5, x6, h1, h2⟩, h3, h4, h5⟩ := h
  refine ⟨Nat.le_of_ble_eq_true rfl, ?_⟩
  refine x_al c_Dk_connect_0 rfl ?_
  refine x_ci c_Dk_connect_1 ?_
  refine x_put [_, _, _, _, _, _, _, _, _, _] c_Dk_connect_2 (by first | rfl | exact h0 | exact h1) ⟨Nat.le_of_ble_eq_true rfl, by first | decide | exact kz_n _, by first | decide | exact kz_f _⟩ rfl ?_
  refine x_al c_Dk_connect_5 rfl ?_
  refine x_ci c_Dk_connect_6 ?_
  refine x_put [_, _, _, _, _, _, _, _, _, _] c_Dk_connect_7 (by first | rfl | exact h0 | exact h1) ⟨Nat.le_of_ble_eq_true rfl, by first | decide | exact kz_n _, by first | decide | exact kz_f _⟩ rfl ?_
  refine x_al c_Dk_connect_10 rfl ?_
  refine x_get c_Dk_connect_11 (by first | rfl | exact h0 | exact h1) rfl ?_
  refine x_cv0z _ c_Dk_connect_14 (by first | rfl | exact h0 | exact h1) (Nat.le_of_ble_eq_true rfl) (y_Rd_clear d (μ := kc_u (kc_u μ 0 _) 0 _) h1) ?_
  rintro _ μ1 ⟨rfl, g1, gf⟩
  show kc_X _ _ _ _ _ [] _ _
  refine x_ret c_Dk_connect_17 ?_
  have fr : ∀ q, q ≠ 0 → q ≠ 1 → μ1.1 q = μ.1 q := fun q q0 q1 => by rw [gf q q1, kc_gf q0, kc_gf q0]
  exact ⟨rfl, ⟨(gf 0 (by omega)).trans rfl, ⟨x1, x2, x3, x4, x5, x6, g1, (fr 2 (by omega) (by omega)).trans h2⟩, ⟨(fr 3 (by omega) (by omega)).trans h3.1, (fr 4 (by omega) (by omega)).trans h3.2⟩, tr_k h4 (fun q _ _ => fr q (by omega) (by omega)), sc_k h5 (fun q _ _ => fr q (by omega) (by omega))⟩, fun q hq => fr q (by omega) (by omega)⟩
set_option maxRecDepth 100000 in
set_option maxHeartbeats 2000000 in
theorem y_Dk_type_c (d : Nat) {μ : kc_M} {so : Bool} {x : Int64} {m : Int32} (h0 : μ.1 0 = some (ce_Dk false so)) : kc_Y kt kC (d + 2) j_Dk_type [.ref 0, .long x, .int m] μ (fun v μ' => v = some (.int (-1)) ∧ μ' = μ) := by
  refine ⟨Nat.le_of_ble_eq_true rfl, ?_⟩
  refine x_al c_Dk_type_0 rfl ?_
  refine x_get c_Dk_type_1 (by first | rfl | exact h0) rfl ?_
  refine x_if_ne c_Dk_type_4 (fun h => absurd (by decide) h) (fun _ => ?_)
  refine x_ci c_Dk_type_7 ?_
  refine x_ri c_Dk_type_8 ?_
  exact ⟨rfl, rfl⟩
set_option maxRecDepth 100000 in
set_option maxHeartbeats 2000000 in
theorem y_Dk_type_b (d : Nat) {μ : kc_M} {so : Bool} {x : Int64} {m : Int32} {sz at_ en : Nat} {wr : Bool} {id : Int32} {sf st : Nat} (h0 : μ.1 0 = some (ce_Dk true so)) (h1 : μ.1 1 = some (ce_Rd sz at_ en wr id sf st)) (hz : sz ≤ 200) (hb : m < nI 1 ∨ nI 8 < m ∨ ∃ k, 1 ≤ k ∧ k ≤ 8 ∧ m = nI k ∧ 200 < sz + k) : kc_Y kt kC (d + 2) j_Dk_type [.ref 0, .long x, .int m] μ (fun v μ' => v = some (.int (-2)) ∧ μ' = μ) := by
  refine ⟨Nat.le_of_ble_eq_true rfl, ?_⟩
  by_cases g1 : m < nI 1
  · skip
    refine x_al c_Dk_type_0 rfl ?_
    refine x_get c_Dk_type_1 (by first | rfl | exact h0 | exact h1) rfl ?_
    refine x_if_ne c_Dk_type_4 (fun _ => ?_) (fun h => absurd h (by decide))
    refine x_il c_Dk_type_9 rfl ?_
    refine x_ci c_Dk_type_10 ?_
    refine x_cm_lt c_Dk_type_11 (fun _ => ?_) (fun h => absurd (g1) h)
    refine x_ci c_Dk_type_35 ?_
    refine x_ri c_Dk_type_37 ?_
    exact ⟨rfl, rfl⟩
  · by_cases g2 : nI 8 < m
    · skip
      refine x_al c_Dk_type_0 rfl ?_
      refine x_get c_Dk_type_1 (by first | rfl | exact h0 | exact h1) rfl ?_
      refine x_if_ne c_Dk_type_4 (fun _ => ?_) (fun h => absurd h (by decide))
      refine x_il c_Dk_type_9 rfl ?_
      refine x_ci c_Dk_type_10 ?_
      refine x_cm_lt c_Dk_type_11 (fun h => absurd h (g1)) (fun _ => ?_)
      refine x_il c_Dk_type_14 rfl ?_
      refine x_ci c_Dk_type_15 ?_
      refine x_cm_gt c_Dk_type_17 (fun _ => ?_) (fun h => absurd (g2) h)
      refine x_ci c_Dk_type_35 ?_
      refine x_ri c_Dk_type_37 ?_
      exact ⟨rfl, rfl⟩
    · obtain ⟨k, k1, k2, rfl, k3⟩ := (hb.resolve_left g1).resolve_left g2
      refine x_al c_Dk_type_0 rfl ?_
      refine x_get c_Dk_type_1 (by first | rfl | exact h0 | exact h1) rfl ?_
      refine x_if_ne c_Dk_type_4 (fun _ => ?_) (fun h => absurd h (by decide))
      refine x_il c_Dk_type_9 rfl ?_
      refine x_ci c_Dk_type_10 ?_
      refine x_cm_lt c_Dk_type_11 (fun h => absurd h (g1)) (fun _ => ?_)
      refine x_il c_Dk_type_14 rfl ?_
      refine x_ci c_Dk_type_15 ?_
      refine x_cm_gt c_Dk_type_17 (fun h => absurd h (g2)) (fun _ => ?_)
      refine x_al c_Dk_type_20 rfl ?_
      refine x_get c_Dk_type_21 (by first | rfl | exact h0 | exact h1) rfl ?_
      refine x_get c_Dk_type_24 (by first | rfl | exact h0 | exact h1) rfl ?_
      refine x_il c_Dk_type_27 rfl ?_
      first | refine x_iaddN c_Dk_type_28 ?_ | refine x_iadd c_Dk_type_28 ?_
      refine x_ci c_Dk_type_29 ?_
      refine x_cm_le c_Dk_type_32 (fun h => absurd h (nI_ge (by omega) (by omega))) (fun _ => ?_)
      refine x_ci c_Dk_type_35 ?_
      refine x_ri c_Dk_type_37 ?_
      exact ⟨rfl, rfl⟩
set_option maxRecDepth 100000 in
set_option maxHeartbeats 2000000 in
theorem y_Dk_type (d : Nat) {μ : kc_M} {so : Bool} {tb : Nat → Nat} {sz : Nat} {w : Nat → Int32} {wn n : Nat} {ad : Nat → Nat} {nm pr : Nat → List tv} {x : Int64} {k : Nat} (h : CI μ true so tb sz w wn n ad nm pr) (hk : 1 ≤ k ∧ k ≤ 8) (hz : sz + k ≤ 200) : kc_Y kt kC (d + 2) j_Dk_type [.ref 0, .long x, .int (nI k)] μ (fun v μ' => v = some (.int (nI (sz + k))) ∧ CI μ' true so (ty8 x k tb sz) (sz + k) w wn n ad nm pr ∧ ∀ q, 136 ≤ q → μ'.1 q = μ.1 q) := by
  obtain ⟨h0, ⟨x1, x2, x3, x4, x5, x6, hr⟩, h3, h4, h5⟩ := h
  refine ⟨Nat.le_of_ble_eq_true rfl, ?_⟩
  refine x_al c_Dk_type_0 rfl ?_
  refine x_get c_Dk_type_1 (by first | rfl | exact h0 | exact hr.1 | exact g1.1 | exact ((gf 0 (by omega) (by omega)).trans h0)) rfl ?_
  refine x_if_ne c_Dk_type_4 (fun _ => ?_) (fun h => absurd h (by decide))
  refine x_il c_Dk_type_9 rfl ?_
  refine x_ci c_Dk_type_10 ?_
  refine x_cm_lt c_Dk_type_11 (fun h => absurd h (nI_nlt (by omega) (by omega))) (fun _ => ?_)
  refine x_il c_Dk_type_14 rfl ?_
  refine x_ci c_Dk_type_15 ?_
  refine x_cm_gt c_Dk_type_17 (fun h => absurd h (nI_nlt (by omega) (by omega))) (fun _ => ?_)
  refine x_al c_Dk_type_20 rfl ?_
  refine x_get c_Dk_type_21 (by first | rfl | exact h0 | exact hr.1 | exact g1.1 | exact ((gf 0 (by omega) (by omega)).trans h0)) rfl ?_
  refine x_get c_Dk_type_24 (by first | rfl | exact h0 | exact hr.1 | exact g1.1 | exact ((gf 0 (by omega) (by omega)).trans h0)) rfl ?_
  refine x_il c_Dk_type_27 rfl ?_
  first | refine x_iaddN c_Dk_type_28 ?_ | refine x_iadd c_Dk_type_28 ?_
  refine x_ci c_Dk_type_29 ?_
  refine x_cm_le c_Dk_type_32 (fun _ => ?_) (fun h => absurd (nI_le (by omega) (by omega)) h)
  refine x_al c_Dk_type_38 rfl ?_
  refine x_get c_Dk_type_39 (by first | rfl | exact h0 | exact hr.1 | exact g1.1 | exact ((gf 0 (by omega) (by omega)).trans h0)) rfl ?_
  refine x_ll c_Dk_type_42 rfl ?_
  refine x_il c_Dk_type_43 rfl ?_
  refine x_cv2z _ c_Dk_type_44 (by first | rfl | exact h0 | exact hr.1 | exact g1.1 | exact ((gf 0 (by omega) (by omega)).trans h0)) (Nat.le_of_ble_eq_true rfl) (y_Rd_take d hr ⟨hk.1, hz⟩) ?_
  rintro _ μ1 ⟨rfl, g1, gf⟩
  show kc_X _ _ _ _ _ [] _ _
  refine x_al c_Dk_type_47 rfl ?_
  refine x_get c_Dk_type_48 (by first | rfl | exact h0 | exact hr.1 | exact g1.1 | exact ((gf 0 (by omega) (by omega)).trans h0)) rfl ?_
  refine x_get c_Dk_type_51 (by first | rfl | exact h0 | exact hr.1 | exact g1.1 | exact ((gf 0 (by omega) (by omega)).trans h0)) rfl ?_
  refine x_ri c_Dk_type_54 ?_
  exact ⟨rfl, ⟨(gf 0 (by omega) (by omega)).trans h0, ⟨x1, x2, x3, x4, x5, x6, g1⟩, ⟨(gf 3 (by omega) (by omega)).trans h3.1, (gf 4 (by omega) (by omega)).trans h3.2⟩, tr_k h4 (fun q _ _ => gf q (by omega) (by omega)), sc_k h5 (fun q _ _ => gf q (by omega) (by omega))⟩, fun q hq => gf q (by omega) (by omega)⟩
set_option maxRecDepth 100000 in
set_option maxHeartbeats 2000000 in
theorem y_Md_connect (d : Nat) {μ : kc_M} {lo so : Bool} {tb : Nat → Nat} {sz : Nat} {w : Nat → Int32} {wn n : Nat} {nm pr : Nat → List tv} (h : MI μ lo so tb sz w wn n nm pr) : kc_Y kt kC (d + 2) j_Md_connect [.ref 136] μ (fun v μ' => v = none ∧ MI μ' true false tb 0 w wn n nm pr ∧ ∀ q, q < 136 → μ'.1 q = μ.1 q) := by
  obtain ⟨s, ou, pa, pt, pv, pn, qt, qv, a1, a2, a3, a4, a5, a6, a7, a8, a9, a10⟩ := h
  refine ⟨Nat.le_of_ble_eq_true rfl, ?_⟩
  refine x_al c_Md_connect_0 rfl ?_
  refine x_ci c_Md_connect_1 ?_
  refine x_putM c_Md_connect_2 (by first | rfl | exact a1) ⟨by decide, by first | decide | exact kz_n _, by first | decide | exact kz_f _⟩ rfl ?_
  refine x_al c_Md_connect_5 rfl ?_
  refine x_ci c_Md_connect_6 ?_
  refine x_putM c_Md_connect_7 (by first | rfl | exact a1) ⟨by decide, by first | decide | exact kz_n _, by first | decide | exact kz_f _⟩ rfl ?_
  refine x_al c_Md_connect_10 rfl ?_
  refine x_ci c_Md_connect_11 ?_
  refine x_putM c_Md_connect_12 (by first | rfl | exact a1) ⟨by decide, rfl, rfl⟩ rfl ?_
  refine x_ret c_Md_connect_15 ?_
  have fr : ∀ q, q ≠ 136 → (kc_u (kc_u (kc_u μ 136 (ce_Md (upd s 0 (nI 0)))) 136 (ce_Md (upd (upd s 0 (nI 0)) 1 (nI 0)))) 136 (ce_Md (upd (upd (upd s 0 (nI 0)) 1 (nI 0)) 3 (nI 0)))).1 q = μ.1 q := fun q hq => by rw [kc_gf hq, kc_gf hq, kc_gf hq]
  exact ⟨rfl, ⟨_, ou, pa, pt, pv, pn, qt, qv, kc_gs, rfl, rfl, rfl, a5, a6, mr_k a7 (fun q hq => fr q (by omega)), a8, (by obtain ⟨⟨f1, h1⟩, ⟨f2, h2⟩, ⟨f3, h3⟩, ⟨f4, h4⟩, ⟨f5, h5⟩, ⟨f6, h6⟩, ⟨f7, h7⟩, ⟨f8, h8⟩, ⟨f9, h9⟩, ⟨f10, h10⟩, ⟨f11, h11⟩, ⟨f12, h12⟩, ⟨f13, h13⟩, ⟨f14, h14⟩, ⟨f15, h15⟩, ⟨f16, h16⟩⟩ := a9; exact ⟨⟨f1, h1⟩, ⟨f2, h2⟩, ⟨f3, h3⟩, ⟨f4, h4⟩, ⟨f5, h5⟩, ⟨f6, h6⟩, ⟨f7, h7⟩, ⟨f8, h8⟩, ⟨f9, h9⟩, ⟨f10, h10⟩, ⟨f11, h11⟩, ⟨f12, h12⟩, ⟨f13, h13⟩, ⟨f14, h14⟩, ⟨f15, h15⟩, ⟨f16, h16⟩⟩), a10⟩, fun q hq => fr q (by omega)⟩
set_option maxRecDepth 100000 in
set_option maxHeartbeats 2000000 in
theorem y_Md_type_c (d : Nat) {μ : kc_M} {s : Nat → Int32} {x : Int64} {m : Int32} (h0 : μ.1 136 = some (ce_Md s)) (hs : s 0 = bI true) : kc_Y kt kC (d + 2) j_Md_type [.ref 136, .long x, .int m] μ (fun v μ' => v = some (.int (-1)) ∧ μ' = μ) := by
  refine ⟨Nat.le_of_ble_eq_true rfl, ?_⟩
  refine x_al c_Md_type_0 rfl ?_
  refine x_getE c_Md_type_1 (by first | rfl | exact h0) rfl (by first | exact hs | rfl) ?_
  refine x_if_eq c_Md_type_4 (fun h => absurd h (by decide)) (fun _ => ?_)
  refine x_ci c_Md_type_7 ?_
  refine x_ri c_Md_type_8 ?_
  exact ⟨rfl, rfl⟩
set_option maxRecDepth 100000 in
set_option maxHeartbeats 2000000 in
theorem y_Md_type_b (d : Nat) {μ : kc_M} {s : Nat → Int32} {x : Int64} {m : Int32} {sz : Nat} (h0 : μ.1 136 = some (ce_Md s)) (hs : s 0 = bI false) (hs3 : s 3 = nI sz) (hz : sz ≤ 200) (hb : m < nI 1 ∨ nI 8 < m ∨ ∃ k, 1 ≤ k ∧ k ≤ 8 ∧ m = nI k ∧ 200 < sz + k) : kc_Y kt kC (d + 2) j_Md_type [.ref 136, .long x, .int m] μ (fun v μ' => v = some (.int (-2)) ∧ μ' = μ) := by
  refine ⟨Nat.le_of_ble_eq_true rfl, ?_⟩
  by_cases g1 : m < nI 1
  · skip
    refine x_al c_Md_type_0 rfl ?_
    refine x_getE c_Md_type_1 (by first | rfl | exact h0) rfl (by first | exact hs | exact hs3 | rfl) ?_
    refine x_if_eq c_Md_type_4 (fun _ => ?_) (fun h => absurd (by decide) h)
    refine x_il c_Md_type_9 rfl ?_
    refine x_ci c_Md_type_10 ?_
    refine x_cm_lt c_Md_type_11 (fun _ => ?_) (fun h => absurd (g1) h)
    refine x_ci c_Md_type_32 ?_
    refine x_ri c_Md_type_34 ?_
    exact ⟨rfl, rfl⟩
  · by_cases g2 : nI 8 < m
    · skip
      refine x_al c_Md_type_0 rfl ?_
      refine x_getE c_Md_type_1 (by first | rfl | exact h0) rfl (by first | exact hs | exact hs3 | rfl) ?_
      refine x_if_eq c_Md_type_4 (fun _ => ?_) (fun h => absurd (by decide) h)
      refine x_il c_Md_type_9 rfl ?_
      refine x_ci c_Md_type_10 ?_
      refine x_cm_lt c_Md_type_11 (fun h => absurd h (g1)) (fun _ => ?_)
      refine x_il c_Md_type_14 rfl ?_
      refine x_ci c_Md_type_15 ?_
      refine x_cm_gt c_Md_type_17 (fun _ => ?_) (fun h => absurd (g2) h)
      refine x_ci c_Md_type_32 ?_
      refine x_ri c_Md_type_34 ?_
      exact ⟨rfl, rfl⟩
    · obtain ⟨k, k1, k2, rfl, k3⟩ := (hb.resolve_left g1).resolve_left g2
      refine x_al c_Md_type_0 rfl ?_
      refine x_getE c_Md_type_1 (by first | rfl | exact h0) rfl (by first | exact hs | exact hs3 | rfl) ?_
      refine x_if_eq c_Md_type_4 (fun _ => ?_) (fun h => absurd (by decide) h)
      refine x_il c_Md_type_9 rfl ?_
      refine x_ci c_Md_type_10 ?_
      refine x_cm_lt c_Md_type_11 (fun h => absurd h (g1)) (fun _ => ?_)
      refine x_il c_Md_type_14 rfl ?_
      refine x_ci c_Md_type_15 ?_
      refine x_cm_gt c_Md_type_17 (fun h => absurd h (g2)) (fun _ => ?_)
      refine x_al c_Md_type_20 rfl ?_
      refine x_getE c_Md_type_21 (by first | rfl | exact h0) rfl (by first | exact hs | exact hs3 | rfl) ?_
      refine x_il c_Md_type_24 rfl ?_
      first | refine x_iaddN c_Md_type_25 ?_ | refine x_iadd c_Md_type_25 ?_
      refine x_ci c_Md_type_26 ?_
      refine x_cm_le c_Md_type_29 (fun h => absurd h (nI_ge (by omega) (by omega))) (fun _ => ?_)
      refine x_ci c_Md_type_32 ?_
      refine x_ri c_Md_type_34 ?_
      exact ⟨rfl, rfl⟩
set_option maxRecDepth 100000 in
set_option maxHeartbeats 2000000 in
theorem y_Md_type (d : Nat) {μ : kc_M} {s : Nat → Int32} {tb : Nat → Nat} {sz n : Nat} {x : Int64} (h0 : μ.1 136 = some (ce_Md s)) (hs : s 0 = bI false) (hs3 : s 3 = nI sz) (ht : μ.1 137 = some (ce_I 200 (fun j => nI (tb j)))) (hk : 1 ≤ n ∧ n ≤ 8) (hz : sz + n ≤ 200) : kc_Y kt kC (d + 2) j_Md_type [.ref 136, .long x, .int (nI n)] μ (fun v μ' => v = some (.int (nI (sz + n))) ∧ (∃ s', μ'.1 136 = some (ce_Md s') ∧ s' 3 = nI (sz + n) ∧ ∀ i, i ≠ 3 → s' i = s i) ∧ μ'.1 137 = some (ce_I 200 (fun j => nI (ty8 x n tb sz j))) ∧ ∀ q, q ≠ 136 → q ≠ 137 → μ'.1 q = μ.1 q) := by
  refine ⟨Nat.le_of_ble_eq_true rfl, ?_⟩
  have loop : ∀ m : Nat, ∀ (tb1 : Nat → Nat) (sz1 : Nat) (s1 : Nat → Int32) (μ1 : kc_M), sz1 + m ≤ 200 → sz1 + m = sz + n → ty8 x m tb1 sz1 = ty8 x n tb sz → μ1.1 136 = some (ce_Md s1) → s1 3 = nI sz1 → (∀ i, i ≠ 3 → s1 i = s i) → μ1.1 137 = some (ce_I 200 (fun j => nI (tb1 j))) → (∀ q, q ≠ 136 → q ≠ 137 → μ1.1 q = μ.1 q) → kc_X (kC j_Md_type) (kc_Y kt kC (d + 1)) (fun v μ' => v = some (.int (nI (sz + n))) ∧ (∃ s', μ'.1 136 = some (ce_Md s') ∧ s' 3 = nI (sz + n) ∧ ∀ i, i ≠ 3 → s' i = s i) ∧ μ'.1 137 = some (ce_I 200 (fun j => nI (ty8 x n tb sz j))) ∧ ∀ q, q ≠ 136 → q ≠ 137 → μ'.1 q = μ.1 q) 40 [some (.ref 136), some (.long x), none, some (.int (nI n)), some (.int (nI m + (-1)))] [] μ1 (0, 0) := by
    intro m
    induction m with
    | zero =>
      intro tb1 sz1 s1 μ1 hz hs hty h0 hs3 hso ht hf
      refine x_il c_Md_type_40 rfl ?_
      refine x_if_lt c_Md_type_42 (fun _ => ?_) (fun h => absurd (by decide) h)
      refine x_al c_Md_type_82 rfl ?_
      refine x_getE c_Md_type_83 (by first | rfl | exact h0) rfl (by first | exact hs3 | rfl) ?_
      refine x_ri c_Md_type_86 ?_
      exact ⟨by rw [← hs]; rfl, ⟨s1, h0, by rw [← hs]; exact hs3, hso⟩, by rw [← hty]; exact ht, hf⟩
    | succ m ih =>
      intro tb1 sz1 s1 μ1 hz hs hty h0 hs3 hso ht hf
      rw [pk_m1]
      refine x_il c_Md_type_40 rfl ?_
      refine x_if_lt c_Md_type_42 (fun h => absurd h (nI_pos (by omega))) (fun _ => ?_)
      refine x_al c_Md_type_45 rfl ?_
      refine x_get c_Md_type_46 (by first | rfl | exact h0 | exact ht) rfl ?_
      refine x_al c_Md_type_49 rfl ?_
      refine x_getE c_Md_type_50 (by first | rfl | exact h0 | exact ht) rfl (by first | exact hs3 | rfl) ?_
      refine x_ll c_Md_type_53 rfl ?_
      refine x_ci c_Md_type_54 ?_
      refine x_il c_Md_type_56 rfl ?_
      first | refine x_imulN c_Md_type_58 ?_ | refine x_imul c_Md_type_58 ?_
      refine x_lshr c_Md_type_59 ?_
      refine x_cl c_Md_type_60 ?_
      refine x_land c_Md_type_63 ?_
      refine x_l2i c_Md_type_64 ?_
      rw [show ((x >>> ((nI (8 * m)).toInt64 &&& 63)) &&& 255).toInt32 = nI (b8 x m) from and_l2i _]
      refine x_iastN c_Md_type_65 (by first | rfl | exact h0 | exact ht) (by omega) (by omega) ?_
      refine x_al c_Md_type_66 rfl ?_
      refine x_dup c_Md_type_67 rfl ?_
      refine x_getE c_Md_type_68 (by first | rfl | exact h0 | exact ht) rfl (by first | exact hs3 | rfl) ?_
      refine x_ci c_Md_type_71 ?_
      first | refine x_iaddN c_Md_type_72 ?_ | refine x_iadd c_Md_type_72 ?_
      refine x_putM c_Md_type_73 (by first | rfl | exact h0 | exact ht) ⟨by decide, rfl, rfl⟩ rfl ?_
      first | refine x_decN [_, _, _, _, _] c_Md_type_76 rfl (by omega) rfl ?_ | refine x_inc [_, _, _, _, _] c_Md_type_76 rfl rfl ?_
      refine x_goto c_Md_type_79 ?_
      refine ih (va_up tb1 sz1 (b8 x m)) (sz1 + 1) _ _ (by omega) (by omega) hty kc_gs rfl (fun i hi => (pk_un hi).trans (hso i hi)) ?_ (fun q q1 q2 => ?_)
      · rw [kc_gf (by omega), kc_gs, upd_up]
      · rw [kc_gf q1, kc_gf q2]; exact hf q q1 q2
  refine x_al c_Md_type_0 rfl ?_
  refine x_getE c_Md_type_1 (by first | rfl | exact h0) rfl (by first | exact hs | exact hs3 | rfl) ?_
  refine x_if_eq c_Md_type_4 (fun _ => ?_) (fun h => absurd (by decide) h)
  refine x_il c_Md_type_9 rfl ?_
  refine x_ci c_Md_type_10 ?_
  refine x_cm_lt c_Md_type_11 (fun h => absurd h (nI_nlt (by omega) (by omega))) (fun _ => ?_)
  refine x_il c_Md_type_14 rfl ?_
  refine x_ci c_Md_type_15 ?_
  refine x_cm_gt c_Md_type_17 (fun h => absurd h (nI_nlt (by omega) (by omega))) (fun _ => ?_)
  refine x_al c_Md_type_20 rfl ?_
  refine x_getE c_Md_type_21 (by first | rfl | exact h0) rfl (by first | exact hs | exact hs3 | rfl) ?_
  refine x_il c_Md_type_24 rfl ?_
  first | refine x_iaddN c_Md_type_25 ?_ | refine x_iadd c_Md_type_25 ?_
  refine x_ci c_Md_type_26 ?_
  refine x_cm_le c_Md_type_29 (fun _ => ?_) (fun h => absurd (nI_le (by omega) (by omega)) h)
  refine x_il c_Md_type_35 rfl ?_
  refine x_ci c_Md_type_36 ?_
  first | refine x_isubN c_Md_type_37 (by omega) ?_ | refine x_isub c_Md_type_37 ?_
  refine x_is [_, _, _, _, _] c_Md_type_38 rfl ?_
  rw [← sb_m1 (p := n) (by omega)]
  exact loop n tb sz s μ (by omega) rfl rfl h0 hs3 (fun _ _ => rfl) ht (fun _ _ _ => rfl)
