/-! changes read, the class -/
theorem vaN_b {tb : Nat → Nat} (htb : ∀ j, tb j < 256) {s : Nat} (h : tb s ≤ 122) : ∀ k, k ≤ 7 → vaN tb s (k + 1) + 256 ^ (7 - k) ≤ 123 * 256 ^ 7
  | 0, _ => by
    show 0 + tb (s + 0) * 256 ^ 7 + 256 ^ 7 ≤ 123 * 256 ^ 7
    have := Nat.mul_le_mul_right (256 ^ 7) (show tb (s + 0) ≤ 122 from h)
    omega
  | k + 1, hk => by
    have ih := vaN_b htb h k (by omega)
    have e : (256 : Nat) ^ (7 - k) = 256 * 256 ^ (7 - (k + 1)) := by rw [show 7 - k = (7 - (k + 1)) + 1 by omega, Nat.pow_succ, Nat.mul_comm]
    rw [vaN_s]
    have := Nat.mul_le_mul_right (256 ^ (7 - (k + 1))) (Nat.le_of_lt_succ (htb (s + (k + 1))))
    omega
theorem vlS_nn {tb : Nat → Nat} (htb : ∀ j, tb j < 256) (s e : Nat) : vlS tb s e = -1 ∨ 0 ≤ vlS tb s e := by
  unfold vlS
  split
  · rename_i h
    right
    obtain ⟨h1, h2, h3⟩ := h
    have hL : isL (tb (s + 0)) = true := by
      cases h4 : isL (tb (s + 0)) with
      | true => rfl
      | false => rw [allB_f (by omega) h4] at h3; cases h3
    have hb : tb s ≤ 122 := by
      rw [Nat.add_zero] at hL
      unfold isL at hL
      simp only [Bool.or_eq_true, Bool.and_eq_true, decide_eq_true_eq] at hL
      omega
    have h5 := vaN_b htb hb (e - s - 1) (by omega)
    rw [show e - s - 1 + 1 = e - s by omega] at h5
    have h6 : (123 : Nat) * 256 ^ 7 < 2 ^ 63 := by decide
    generalize (256 : Nat) ^ (7 - (e - s - 1)) = c at h5
    have h7 : vaN tb s (e - s) < 2 ^ 63 := by omega
    rw [Int64.le_iff_toInt_le, lN_ti (by omega), if_pos h7]
    have h0 : (0 : Int64).toInt = 0 := by decide
    rw [h0]
    omega
  · exact Or.inl rfl
theorem rok_L {sz ar : Nat} {r : RS} (h : rok sz r) (h1 : r.2.1 ≤ ar) (h2 : ar ≤ sz) : rok sz (rL ar r) := ⟨by have := h.1; show r.1 ≤ ar; omega, h2, h.2.2⟩
/-- at most m values read -/
def rsV (tb : Nat → Nat) : Nat → RS → RS × List Int64
  | 0, r => (r, [])
  | m + 1, r => if rM r = true then ((rsV tb m (rS tb (nI 4) r)).1, vlS tb (rS tb (nI 4) r).2.2.2.1 (rS tb (nI 4) r).2.2.2.2 :: (rsV tb m (rS tb (nI 4) r)).2) else (r, [])
theorem rsV_s (tb : Nat → Nat) (m : Nat) (r : RS) : rsV tb (m + 1) r = if rM r = true then ((rsV tb m (rS tb (nI 4) r)).1, vlS tb (rS tb (nI 4) r).2.2.2.1 (rS tb (nI 4) r).2.2.2.2 :: (rsV tb m (rS tb (nI 4) r)).2) else (r, []) := rfl
theorem rsV_ok {tb : Nat → Nat} (htb : ∀ j, tb j < 256) {sz : Nat} : ∀ (m : Nat) (r : RS), rok sz r → rok sz (rsV tb m r).1 ∧ (rsV tb m r).1.2.1 = r.2.1 ∧ (rsV tb m r).2.length ≤ m ∧ ∀ v ∈ (rsV tb m r).2, v = -1 ∨ 0 ≤ v
  | 0, r, h => ⟨h, rfl, Nat.le_refl _, fun v hv => by cases hv⟩
  | m + 1, r, h => by
    rw [rsV_s]
    split
    · have h1 := rok_S (tb := tb) (tag := nI 4) h
      have := rsV_ok htb m _ h1.1
      refine ⟨this.1, this.2.1.trans h1.2.1, by have := this.2.2.1; rw [List.length_cons]; omega, fun v hv => ?_⟩
      rcases List.mem_cons.mp hv with rfl | hv
      · exact vlS_nn htb _ _
      · exact this.2.2.2 v hv
    · exact ⟨h, rfl, Nat.zero_le _, fun v hv => by cases hv⟩
def raA (tb : Nat → Nat) (m : Nat) (r : RS) : RS × Int32 × List Int64 :=
  (rL r.2.1 (rL (rS tb (nI 4) (rE tb (nI 48) r)).2.1 (rsV tb m (rE tb (nI 49) (rS tb (nI 4) (rE tb (nI 48) r)))).1), tyS tb (rS tb (nI 4) (rE tb (nI 48) r)).2.2.2.1 (rS tb (nI 4) (rE tb (nI 48) r)).2.2.2.2, (rsV tb m (rE tb (nI 49) (rS tb (nI 4) (rE tb (nI 48) r)))).2)
theorem raA_ok {tb : Nat → Nat} (htb : ∀ j, tb j < 256) {sz m : Nat} {r : RS} (h : rok sz r) : rok sz (raA tb m r).1 ∧ (raA tb m r).1.2.1 = r.2.1 ∧ (raA tb m r).2.2.length ≤ m ∧ ∀ v ∈ (raA tb m r).2.2, v = -1 ∨ 0 ≤ v := by
  have h1 := rok_E (tb := tb) (tag := nI 48) h
  have h2 := rok_S (tb := tb) (tag := nI 4) h1.1
  have h3 := rok_E (tb := tb) (tag := nI 49) h2.1
  have h4 := rsV_ok htb m _ h3.1
  have h5 := h.2.1
  refine ⟨rok_L (rok_L h4.1 (by rw [h4.2.1]; exact h3.2.1) (by have := h2.2.1; omega)) (by show (rS tb (nI 4) (rE tb (nI 48) r)).2.1 ≤ r.2.1; have := h2.2.1; omega) h5, rfl, h4.2.2.1, h4.2.2.2⟩
set_option maxRecDepth 100000 in
set_option maxHeartbeats 4000000 in
theorem y_Ch_readAttribute (d : Nat) {μ : kc_M} {tb : Nat → Nat} {sz : Nat} {id : Int32} {r : RS} (hr : rd_r μ tb sz id r) (h : rok sz r) (htb : ∀ j, tb j < 256) {c vc : Nat} {kf tf ef : Nat → Int32} {vf : Nat → Int64} (hA : chA μ c vc kf tf ef vf) {i : Nat} (hi : i < 12) (hvc : vc ≤ 24) : kc_Y kt kC (d + 4) j_Ch_readAttribute [.ref 122, .ref 1, .int (nI i)] μ (fun w μ' => w = none ∧ rd_r μ' tb sz id (raA tb (24 - vc) r).1 ∧ (∃ vf', chA μ' c (vc + (raA tb (24 - vc) r).2.2.length) kf (upd tf i (raA tb (24 - vc) r).2.1) (upd ef i (nI (vc + (raA tb (24 - vc) r).2.2.length))) vf' ∧ (∀ j, j < vc → vf' j = vf j) ∧ ∀ j, j < (raA tb (24 - vc) r).2.2.length → (raA tb (24 - vc) r).2.2[j]? = some (vf' (vc + j))) ∧ ∀ q, q ≠ 1 → q < 122 ∨ 126 < q → μ'.1 q = μ.1 q) := by
  refine ⟨Nat.le_of_ble_eq_true rfl, ?_⟩
  have h1 := rok_E (tb := tb) (tag := nI 48) h
  have h2 := rok_S (tb := tb) (tag := nI 4) h1.1
  have h3 := rok_E (tb := tb) (tag := nI 49) h2.1
  have hz := h.2.2
  have loop : ∀ m (V : List Int64) (x1 : RS) (μ1 : kc_M) (vf1 : Nat → Int64), 24 - (vc + V.length) = m → vc + V.length ≤ 24 → rsV tb (24 - vc) (rE tb (nI 49) (rS tb (nI 4) (rE tb (nI 48) r))) = ((rsV tb m x1).1, V ++ (rsV tb m x1).2) → rd_r μ1 tb sz id x1 → rok sz x1 → x1.2.1 = (rE tb (nI 49) (rS tb (nI 4) (rE tb (nI 48) r))).2.1 → chA μ1 c (vc + V.length) kf (upd tf i (tyS tb (rS tb (nI 4) (rE tb (nI 48) r)).2.2.2.1 (rS tb (nI 4) (rE tb (nI 48) r)).2.2.2.2)) ef vf1 → (∀ j, j < vc → vf1 j = vf j) → (∀ j, j < V.length → V[j]? = some (vf1 (vc + j))) → (∀ q, q ≠ 1 → q < 122 ∨ 126 < q → μ1.1 q = μ.1 q) → kc_X (kC j_Ch_readAttribute) (kc_Y kt kC (d + 3)) (fun w μ' => w = none ∧ rd_r μ' tb sz id (raA tb (24 - vc) r).1 ∧ (∃ vf', chA μ' c (vc + (raA tb (24 - vc) r).2.2.length) kf (upd tf i (raA tb (24 - vc) r).2.1) (upd ef i (nI (vc + (raA tb (24 - vc) r).2.2.length))) vf' ∧ (∀ j, j < vc → vf' j = vf j) ∧ ∀ j, j < (raA tb (24 - vc) r).2.2.length → (raA tb (24 - vc) r).2.2[j]? = some (vf' (vc + j))) ∧ ∀ q, q ≠ 1 → q < 122 ∨ 126 < q → μ'.1 q = μ.1 q) 36 [some (.ref 122), some (.ref 1), some (.int (nI i)), some (.int (nI r.2.1)), some (.int (nI (rS tb (nI 4) (rE tb (nI 48) r)).2.1)), some (.int (nI (vc + V.length)))] [] μ1 (0, 0) := by
    intro m
    induction m with
    | zero =>
      intro V x1 μ1 vf1 hm hV hR hr4 hk1 hx21 k hv0 hv1 hf
      refine x_il c_Ch_readAttribute_36 rfl ?_
      refine x_ci c_Ch_readAttribute_38 ?_
      refine x_cmN_ge c_Ch_readAttribute_40 (by omega) (by omega) (fun _ => ?_) (fun h => (by exfalso; omega))
      have hend : rsV tb 0 x1 = (x1, []) := rfl
      have hx : rd_r μ1 tb sz id x1 := hr4
      have hk6 : rok sz (rL (rS tb (nI 4) (rE tb (nI 48) r)).2.1 x1) := rok_L hk1 (by rw [hx21]; exact h3.2.1) (by have := h2.2.1; have := h.2.1; omega)
      refine x_al c_Ch_readAttribute_80 rfl ?_
      refine x_get c_Ch_readAttribute_81 (by first | rfl | exact hA.1 | exact hA.2.2.1 | exact hr.1 | exact a1 | exact hr1.1 | exact a2.1 | exact a2.2.2.1 | exact hr2.1 | exact hr3.1 | exact k.1 | exact k.2.2.2.2 | exact k.2.2.2.1 | exact k5.1 | exact k5.2.2.2.2 | exact hr5.1 | exact hr4.1 | exact hr6.1 | exact kc_gs) rfl ?_
      refine x_il c_Ch_readAttribute_84 rfl ?_
      refine x_al c_Ch_readAttribute_85 rfl ?_
      refine x_get c_Ch_readAttribute_86 (by first | rfl | exact hA.1 | exact hA.2.2.1 | exact hr.1 | exact a1 | exact hr1.1 | exact a2.1 | exact a2.2.2.1 | exact hr2.1 | exact hr3.1 | exact k.1 | exact k.2.2.2.2 | exact k.2.2.2.1 | exact k5.1 | exact k5.2.2.2.2 | exact hr5.1 | exact hr4.1 | exact hr6.1 | exact kc_gs) rfl ?_
      refine x_iastN c_Ch_readAttribute_89 (by first | rfl | exact hA.1 | exact hA.2.2.1 | exact hr.1 | exact a1 | exact hr1.1 | exact a2.1 | exact a2.2.2.1 | exact hr2.1 | exact hr3.1 | exact k.1 | exact k.2.2.2.2 | exact k.2.2.2.1 | exact k5.1 | exact k5.2.2.2.2 | exact hr5.1 | exact hr4.1 | exact hr6.1 | exact kc_gs) (by omega) (by omega) ?_
      refine x_al c_Ch_readAttribute_90 rfl ?_
      refine x_il c_Ch_readAttribute_91 rfl ?_
      refine x_cv1z _ c_Ch_readAttribute_93 (by first | rfl | exact hA.1 | exact hA.2.2.1 | exact hr.1 | exact a1 | exact hr1.1 | exact a2.1 | exact a2.2.2.1 | exact hr2.1 | exact hr3.1 | exact k.1 | exact k.2.2.2.2 | exact k.2.2.2.1 | exact k5.1 | exact k5.2.2.2.2 | exact hr5.1 | exact hr4.1 | exact hr6.1 | exact kc_gs) (Nat.le_of_ble_eq_true rfl) (y_Rd_leave (d + 2) (r := x1) (by exact ⟨hx.1, hx.2⟩) hk1 htb) ?_
      rintro _ μ6 ⟨rfl, hr6, f6⟩
      show kc_X _ _ _ _ _ [] _ _
      refine x_al c_Ch_readAttribute_96 rfl ?_
      refine x_il c_Ch_readAttribute_97 rfl ?_
      refine x_cv1z _ c_Ch_readAttribute_98 (by first | rfl | exact hA.1 | exact hA.2.2.1 | exact hr.1 | exact a1 | exact hr1.1 | exact a2.1 | exact a2.2.2.1 | exact hr2.1 | exact hr3.1 | exact k.1 | exact k.2.2.2.2 | exact k.2.2.2.1 | exact k5.1 | exact k5.2.2.2.2 | exact hr5.1 | exact hr4.1 | exact hr6.1 | exact kc_gs) (Nat.le_of_ble_eq_true rfl) (y_Rd_leave (d + 2) hr6 hk6 htb) ?_
      rintro _ μ7 ⟨rfl, hr7, f7⟩
      show kc_X _ _ _ _ _ [] _ _
      refine x_ret c_Ch_readAttribute_101 ?_
      refine ⟨rfl, ?_, ?_, fun q q1 q2 => (f7 q q1).trans ((f6 q q1).trans ((kc_gf (by omega)).trans (hf q q1 q2)))⟩
      · have e9 : (raA tb (24 - vc) r).1 = rL r.2.1 (rL (rS tb (nI 4) (rE tb (nI 48) r)).2.1 x1) := by unfold raA; rw [hR, hend]
        rw [e9]; exact hr7
      · have e9 : (raA tb (24 - vc) r).2.2 = V := by unfold raA; rw [hR, hend]; simp
        rw [e9]
        have kk : ∀ q, q ≠ 1 → q ≠ 125 → μ7.1 q = μ1.1 q := fun q q1 q2 => (f7 q q1).trans ((f6 q q1).trans (kc_gf q2))
        exact ⟨vf1, ⟨(kk 122 (by decide) (by decide)).trans k.1, (kk 123 (by decide) (by decide)).trans k.2.1, (kk 124 (by decide) (by decide)).trans k.2.2.1, (f7 125 (by decide)).trans ((f6 125 (by decide)).trans kc_gs), (kk 126 (by decide) (by decide)).trans k.2.2.2.2⟩, hv0, hv1⟩
    | succ m ih =>
      intro V x1 μ1 vf1 hm hV hR hr4 hk1 hx21 k hv0 hv1 hf
      refine x_il c_Ch_readAttribute_36 rfl ?_
      refine x_ci c_Ch_readAttribute_38 ?_
      refine x_cmN_ge c_Ch_readAttribute_40 (by omega) (by omega) (fun h => (by exfalso; omega)) (fun _ => ?_)
      refine x_al c_Ch_readAttribute_43 rfl ?_
      refine x_cv0z _ c_Ch_readAttribute_44 (by first | rfl | exact hA.1 | exact hA.2.2.1 | exact hr.1 | exact a1 | exact hr1.1 | exact a2.1 | exact a2.2.2.1 | exact hr2.1 | exact hr3.1 | exact k.1 | exact k.2.2.2.2 | exact k.2.2.2.1 | exact k5.1 | exact k5.2.2.2.2 | exact hr5.1 | exact hr4.1 | exact hr6.1 | exact kc_gs) (Nat.le_of_ble_eq_true rfl) (y_Rd_hasMore (d + 2) hr4 hk1 htb) ?_
      rintro _ μx ⟨rfl, hμx⟩
      have hμx := hμx.symm
      subst hμx
      show kc_X _ _ _ _ _ [.int (bI (rM x1))] _ _
      refine x_ifB_eq c_Ch_readAttribute_47 (fun h47 => ?_) (fun h47 => ?_)
      · have hend : rsV tb (m + 1) x1 = (x1, []) := by rw [rsV_s, if_neg (by rw [h47]; decide)]
        have hx : rd_r μ1 tb sz id x1 := hr4
        have hk6 : rok sz (rL (rS tb (nI 4) (rE tb (nI 48) r)).2.1 x1) := rok_L hk1 (by rw [hx21]; exact h3.2.1) (by have := h2.2.1; have := h.2.1; omega)
        refine x_al c_Ch_readAttribute_80 rfl ?_
        refine x_get c_Ch_readAttribute_81 (by first | rfl | exact hA.1 | exact hA.2.2.1 | exact hr.1 | exact a1 | exact hr1.1 | exact a2.1 | exact a2.2.2.1 | exact hr2.1 | exact hr3.1 | exact k.1 | exact k.2.2.2.2 | exact k.2.2.2.1 | exact k5.1 | exact k5.2.2.2.2 | exact hr5.1 | exact hr4.1 | exact hr6.1 | exact kc_gs) rfl ?_
        refine x_il c_Ch_readAttribute_84 rfl ?_
        refine x_al c_Ch_readAttribute_85 rfl ?_
        refine x_get c_Ch_readAttribute_86 (by first | rfl | exact hA.1 | exact hA.2.2.1 | exact hr.1 | exact a1 | exact hr1.1 | exact a2.1 | exact a2.2.2.1 | exact hr2.1 | exact hr3.1 | exact k.1 | exact k.2.2.2.2 | exact k.2.2.2.1 | exact k5.1 | exact k5.2.2.2.2 | exact hr5.1 | exact hr4.1 | exact hr6.1 | exact kc_gs) rfl ?_
        refine x_iastN c_Ch_readAttribute_89 (by first | rfl | exact hA.1 | exact hA.2.2.1 | exact hr.1 | exact a1 | exact hr1.1 | exact a2.1 | exact a2.2.2.1 | exact hr2.1 | exact hr3.1 | exact k.1 | exact k.2.2.2.2 | exact k.2.2.2.1 | exact k5.1 | exact k5.2.2.2.2 | exact hr5.1 | exact hr4.1 | exact hr6.1 | exact kc_gs) (by omega) (by omega) ?_
        refine x_al c_Ch_readAttribute_90 rfl ?_
        refine x_il c_Ch_readAttribute_91 rfl ?_
        refine x_cv1z _ c_Ch_readAttribute_93 (by first | rfl | exact hA.1 | exact hA.2.2.1 | exact hr.1 | exact a1 | exact hr1.1 | exact a2.1 | exact a2.2.2.1 | exact hr2.1 | exact hr3.1 | exact k.1 | exact k.2.2.2.2 | exact k.2.2.2.1 | exact k5.1 | exact k5.2.2.2.2 | exact hr5.1 | exact hr4.1 | exact hr6.1 | exact kc_gs) (Nat.le_of_ble_eq_true rfl) (y_Rd_leave (d + 2) (r := x1) (by exact ⟨hx.1, hx.2⟩) hk1 htb) ?_
        rintro _ μ6 ⟨rfl, hr6, f6⟩
        show kc_X _ _ _ _ _ [] _ _
        refine x_al c_Ch_readAttribute_96 rfl ?_
        refine x_il c_Ch_readAttribute_97 rfl ?_
        refine x_cv1z _ c_Ch_readAttribute_98 (by first | rfl | exact hA.1 | exact hA.2.2.1 | exact hr.1 | exact a1 | exact hr1.1 | exact a2.1 | exact a2.2.2.1 | exact hr2.1 | exact hr3.1 | exact k.1 | exact k.2.2.2.2 | exact k.2.2.2.1 | exact k5.1 | exact k5.2.2.2.2 | exact hr5.1 | exact hr4.1 | exact hr6.1 | exact kc_gs) (Nat.le_of_ble_eq_true rfl) (y_Rd_leave (d + 2) hr6 hk6 htb) ?_
        rintro _ μ7 ⟨rfl, hr7, f7⟩
        show kc_X _ _ _ _ _ [] _ _
        refine x_ret c_Ch_readAttribute_101 ?_
        refine ⟨rfl, ?_, ?_, fun q q1 q2 => (f7 q q1).trans ((f6 q q1).trans ((kc_gf (by omega)).trans (hf q q1 q2)))⟩
        · have e9 : (raA tb (24 - vc) r).1 = rL r.2.1 (rL (rS tb (nI 4) (rE tb (nI 48) r)).2.1 x1) := by unfold raA; rw [hR, hend]
          rw [e9]; exact hr7
        · have e9 : (raA tb (24 - vc) r).2.2 = V := by unfold raA; rw [hR, hend]; simp
          rw [e9]
          have kk : ∀ q, q ≠ 1 → q ≠ 125 → μ7.1 q = μ1.1 q := fun q q1 q2 => (f7 q q1).trans ((f6 q q1).trans (kc_gf q2))
          exact ⟨vf1, ⟨(kk 122 (by decide) (by decide)).trans k.1, (kk 123 (by decide) (by decide)).trans k.2.1, (kk 124 (by decide) (by decide)).trans k.2.2.1, (f7 125 (by decide)).trans ((f6 125 (by decide)).trans kc_gs), (kk 126 (by decide) (by decide)).trans k.2.2.2.2⟩, hv0, hv1⟩
      · refine x_al c_Ch_readAttribute_50 rfl ?_
        refine x_ci c_Ch_readAttribute_51 ?_
        refine x_cv1z _ c_Ch_readAttribute_52 (by first | rfl | exact hA.1 | exact hA.2.2.1 | exact hr.1 | exact a1 | exact hr1.1 | exact a2.1 | exact a2.2.2.1 | exact hr2.1 | exact hr3.1 | exact k.1 | exact k.2.2.2.2 | exact k.2.2.2.1 | exact k5.1 | exact k5.2.2.2.2 | exact hr5.1 | exact hr4.1 | exact hr6.1 | exact kc_gs) (Nat.le_of_ble_eq_true rfl) (y_Rd_span (d + 1) hr4 hk1 htb (tag := nI 4)) ?_
        rintro _ μ5 ⟨rfl, hr5, f5⟩
        have hk5 := rok_S (tb := tb) (tag := nI 4) hk1
        have k5 := chA_k k (μ' := μ5) (fun q h1 h2 => f5 q (by omega))
        have hz := hk1.2.2
        show kc_X _ _ _ _ _ [] _ _
        refine x_al c_Ch_readAttribute_55 rfl ?_
        refine x_get c_Ch_readAttribute_56 (by first | rfl | exact hA.1 | exact hA.2.2.1 | exact hr.1 | exact a1 | exact hr1.1 | exact a2.1 | exact a2.2.2.1 | exact hr2.1 | exact hr3.1 | exact k.1 | exact k.2.2.2.2 | exact k.2.2.2.1 | exact k5.1 | exact k5.2.2.2.2 | exact hr5.1 | exact hr4.1 | exact hr6.1 | exact kc_gs) rfl ?_
        refine x_il c_Ch_readAttribute_59 rfl ?_
        refine x_al c_Ch_readAttribute_61 rfl ?_
        refine x_cv0z _ c_Ch_readAttribute_62 (by first | rfl | exact hA.1 | exact hA.2.2.1 | exact hr.1 | exact a1 | exact hr1.1 | exact a2.1 | exact a2.2.2.1 | exact hr2.1 | exact hr3.1 | exact k.1 | exact k.2.2.2.2 | exact k.2.2.2.1 | exact k5.1 | exact k5.2.2.2.2 | exact hr5.1 | exact hr4.1 | exact hr6.1 | exact kc_gs) (Nat.le_of_ble_eq_true rfl) (y_Rd_spanValue d hr5 htb hk5.2.2.1 (by have := hk5.2.2.2.1; omega)) ?_
        rintro _ μx ⟨rfl, hμx⟩
        have hμx := hμx.symm
        subst hμx
        show kc_X _ _ _ _ _ (.long (vlS tb (rS tb (nI 4) x1).2.2.2.1 (rS tb (nI 4) x1).2.2.2.2) :: _) _ _
        refine x_lastN c_Ch_readAttribute_65 (by first | rfl | exact hA.1 | exact hA.2.2.1 | exact hr.1 | exact a1 | exact hr1.1 | exact a2.1 | exact a2.2.2.1 | exact hr2.1 | exact hr3.1 | exact k.1 | exact k.2.2.2.2 | exact k.2.2.2.1 | exact k5.1 | exact k5.2.2.2.2 | exact hr5.1 | exact hr4.1 | exact hr6.1 | exact kc_gs) (by omega) (by omega) ?_
        refine x_al c_Ch_readAttribute_66 rfl ?_
        refine x_il c_Ch_readAttribute_67 rfl ?_
        refine x_ci c_Ch_readAttribute_69 ?_
        first | refine x_iaddN c_Ch_readAttribute_70 ?_ | refine x_iadd c_Ch_readAttribute_70 ?_
        refine x_put [_, _, _, _, _, _] c_Ch_readAttribute_71 (by first | rfl | exact hA.1 | exact hA.2.2.1 | exact hr.1 | exact a1 | exact hr1.1 | exact a2.1 | exact a2.2.2.1 | exact hr2.1 | exact hr3.1 | exact k.1 | exact k.2.2.2.2 | exact k.2.2.2.1 | exact k5.1 | exact k5.2.2.2.2 | exact hr5.1 | exact hr4.1 | exact hr6.1 | exact kc_gs) ⟨Nat.le_of_ble_eq_true rfl, rfl, rfl⟩ rfl ?_
        first | refine x_incN [_, _, _, _, _, _] c_Ch_readAttribute_74 rfl rfl ?_ | refine x_inc [_, _, _, _, _, _] c_Ch_readAttribute_74 rfl rfl ?_
        refine x_goto c_Ch_readAttribute_77 ?_
        have e9 := rsV_s tb m x1
        rw [if_pos h47] at e9
        have e8 : vc + V.length + 1 = vc + (V ++ [(vlS tb (rS tb (nI 4) x1).2.2.2.1 (rS tb (nI 4) x1).2.2.2.2)]).length := by rw [List.length_append]; rfl
        rw [e8]
        refine ih (V ++ [(vlS tb (rS tb (nI 4) x1).2.2.2.1 (rS tb (nI 4) x1).2.2.2.2)]) _ (kc_u (kc_u μ5 126 (ce_L 24 (vp_updL vf1 (vc + V.length) (vlS tb (rS tb (nI 4) x1).2.2.2.1 (rS tb (nI 4) x1).2.2.2.2)))) 122 (ce_Ch c (vc + (V ++ [(vlS tb (rS tb (nI 4) x1).2.2.2.1 (rS tb (nI 4) x1).2.2.2.2)]).length))) (vp_updL vf1 (vc + V.length) (vlS tb (rS tb (nI 4) x1).2.2.2.1 (rS tb (nI 4) x1).2.2.2.2)) (by rw [List.length_append]; show 24 - (vc + (V.length + 1)) = m; omega) (by rw [List.length_append]; show vc + (V.length + 1) ≤ 24; omega) (by rw [hR, e9]; simp) (by exact ⟨hr5.1, hr5.2⟩) hk5.1 (hk5.2.1.trans hx21) ⟨kc_gs, (kc_gf (by decide)).trans ((kc_gf (by decide)).trans k5.2.1), (kc_gf (by decide)).trans ((kc_gf (by decide)).trans k5.2.2.1), (kc_gf (by decide)).trans ((kc_gf (by decide)).trans k5.2.2.2.1), (kc_gf (by decide)).trans kc_gs⟩ (fun j hj => (if_neg (by omega)).trans (hv0 j hj)) (fun j hj => ?_) (fun q q1 q2 => (kc_gf (by omega)).trans ((kc_gf (by omega)).trans ((f5 q q1).trans (hf q q1 q2))))
        rw [List.length_append] at hj
        have hj : j < V.length + 1 := hj
        show _ = some (if vc + j = vc + V.length then _ else vf1 (vc + j))
        by_cases hjl : j = V.length
        · rw [if_pos (by omega), hjl, List.getElem?_append_right (Nat.le_refl _), Nat.sub_self]; rfl
        · rw [if_neg (by omega), List.getElem?_append_left (by omega)]; exact hv1 j (by omega)
  refine x_al c_Ch_readAttribute_0 rfl ?_
  refine x_ci c_Ch_readAttribute_1 ?_
  refine x_cv1z _ c_Ch_readAttribute_3 (by first | rfl | exact hA.1 | exact hA.2.2.1 | exact hr.1 | exact a1 | exact hr1.1 | exact a2.1 | exact a2.2.2.1 | exact hr2.1 | exact hr3.1 | exact k.1 | exact k.2.2.2.2 | exact k.2.2.2.1 | exact k5.1 | exact k5.2.2.2.2 | exact hr5.1 | exact hr4.1 | exact hr6.1 | exact kc_gs) (Nat.le_of_ble_eq_true rfl) (y_Rd_enter (d + 2) hr h htb (tag := nI 48)) ?_
  rintro _ μ1 ⟨rfl, hr1, f1⟩
  have a1 := (f1 122 (by decide)).trans hA.1
  show kc_X _ _ _ _ _ [.int (nI r.2.1)] _ _
  refine x_is [_, _, _, _, _, _] c_Ch_readAttribute_6 rfl ?_
  refine x_al c_Ch_readAttribute_7 rfl ?_
  refine x_ci c_Ch_readAttribute_8 ?_
  refine x_cv1z _ c_Ch_readAttribute_9 (by first | rfl | exact hA.1 | exact hA.2.2.1 | exact hr.1 | exact a1 | exact hr1.1 | exact a2.1 | exact a2.2.2.1 | exact hr2.1 | exact hr3.1 | exact k.1 | exact k.2.2.2.2 | exact k.2.2.2.1 | exact k5.1 | exact k5.2.2.2.2 | exact hr5.1 | exact hr4.1 | exact hr6.1 | exact kc_gs) (Nat.le_of_ble_eq_true rfl) (y_Rd_span (d + 1) hr1 h1.1 htb (tag := nI 4)) ?_
  rintro _ μ2 ⟨rfl, hr2, f2⟩
  have a2 := chA_k hA (μ' := μ2) (fun q q1 q2 => (f2 q (by omega)).trans (f1 q (by omega)))
  show kc_X _ _ _ _ _ [] _ _
  refine x_al c_Ch_readAttribute_12 rfl ?_
  refine x_get c_Ch_readAttribute_13 (by first | rfl | exact hA.1 | exact hA.2.2.1 | exact hr.1 | exact a1 | exact hr1.1 | exact a2.1 | exact a2.2.2.1 | exact hr2.1 | exact hr3.1 | exact k.1 | exact k.2.2.2.2 | exact k.2.2.2.1 | exact k5.1 | exact k5.2.2.2.2 | exact hr5.1 | exact hr4.1 | exact hr6.1 | exact kc_gs) rfl ?_
  refine x_il c_Ch_readAttribute_16 rfl ?_
  refine x_al c_Ch_readAttribute_17 rfl ?_
  refine x_cv0z _ c_Ch_readAttribute_18 (by first | rfl | exact hA.1 | exact hA.2.2.1 | exact hr.1 | exact a1 | exact hr1.1 | exact a2.1 | exact a2.2.2.1 | exact hr2.1 | exact hr3.1 | exact k.1 | exact k.2.2.2.2 | exact k.2.2.2.1 | exact k5.1 | exact k5.2.2.2.2 | exact hr5.1 | exact hr4.1 | exact hr6.1 | exact kc_gs) (Nat.le_of_ble_eq_true rfl) (y_Rd_spanType (d + 1) hr2 htb h2.2.2.1 (by have := h2.2.2.2.1; omega)) ?_
  rintro _ μx ⟨rfl, hμx⟩
  have hμx := hμx.symm
  subst hμx
  show kc_X _ _ _ _ _ (.int (tyS tb (rS tb (nI 4) (rE tb (nI 48) r)).2.2.2.1 (rS tb (nI 4) (rE tb (nI 48) r)).2.2.2.2) :: _) _ _
  refine x_iastN c_Ch_readAttribute_21 (by first | rfl | exact hA.1 | exact hA.2.2.1 | exact hr.1 | exact a1 | exact hr1.1 | exact a2.1 | exact a2.2.2.1 | exact hr2.1 | exact hr3.1 | exact k.1 | exact k.2.2.2.2 | exact k.2.2.2.1 | exact k5.1 | exact k5.2.2.2.2 | exact hr5.1 | exact hr4.1 | exact hr6.1 | exact kc_gs) (by omega) (by omega) ?_
  refine x_al c_Ch_readAttribute_22 rfl ?_
  refine x_ci c_Ch_readAttribute_23 ?_
  refine x_cv1z _ c_Ch_readAttribute_25 (by first | rfl | exact hA.1 | exact hA.2.2.1 | exact hr.1 | exact a1 | exact hr1.1 | exact a2.1 | exact a2.2.2.1 | exact hr2.1 | exact hr3.1 | exact k.1 | exact k.2.2.2.2 | exact k.2.2.2.1 | exact k5.1 | exact k5.2.2.2.2 | exact hr5.1 | exact hr4.1 | exact hr6.1 | exact kc_gs) (Nat.le_of_ble_eq_true rfl) (y_Rd_enter (d + 2) (r := (rS tb (nI 4) (rE tb (nI 48) r))) (by exact ⟨hr2.1, hr2.2⟩) h2.1 htb (tag := nI 49)) ?_
  rintro _ μ3 ⟨rfl, hr3, f3⟩
  have k : chA μ3 c vc kf (upd tf i (tyS tb (rS tb (nI 4) (rE tb (nI 48) r)).2.2.2.1 (rS tb (nI 4) (rE tb (nI 48) r)).2.2.2.2)) ef vf := ⟨(f3 122 (by decide)).trans ((kc_gf (by decide)).trans a2.1), (f3 123 (by decide)).trans ((kc_gf (by decide)).trans a2.2.1), (f3 124 (by decide)).trans kc_gs, (f3 125 (by decide)).trans ((kc_gf (by decide)).trans a2.2.2.2.1), (f3 126 (by decide)).trans ((kc_gf (by decide)).trans a2.2.2.2.2)⟩
  show kc_X _ _ _ _ _ [.int (nI (rS tb (nI 4) (rE tb (nI 48) r)).2.1)] _ _
  refine x_is [_, _, _, _, _, _] c_Ch_readAttribute_28 rfl ?_
  refine x_al c_Ch_readAttribute_30 rfl ?_
  refine x_get c_Ch_readAttribute_31 (by first | rfl | exact hA.1 | exact hA.2.2.1 | exact hr.1 | exact a1 | exact hr1.1 | exact a2.1 | exact a2.2.2.1 | exact hr2.1 | exact hr3.1 | exact k.1 | exact k.2.2.2.2 | exact k.2.2.2.1 | exact k5.1 | exact k5.2.2.2.2 | exact hr5.1 | exact hr4.1 | exact hr6.1 | exact kc_gs) rfl ?_
  refine x_is [_, _, _, _, _, _] c_Ch_readAttribute_34 rfl ?_
  exact loop _ [] _ μ3 vf rfl hvc (by simp) hr3 h3.1 rfl k (fun _ _ => rfl) (fun j hj => by cases hj) (fun q q1 q2 => (f3 q q1).trans ((kc_gf (by omega)).trans ((f2 q q1).trans (f1 q q1))))
