/-! the reference reads values -/
/-- nothing but tag, start, end, the values and their number has changed -/
def mV (μ μ' : kc_M) (s s' : Nat → Int32) : Prop := μ'.1 136 = some (ce_Md s') ∧ (∀ i, i ∉ [13, 14, 15, 38] → s' i = s i) ∧ (∀ q, q ≠ 136 → q ≠ 151 → μ'.1 q = μ.1 q)
theorem nin {i : Nat} (h : i ∉ [13, 14, 15, 38]) : i ∉ [13, 14, 15] ∧ i ≠ 38 := by
  simp only [List.mem_cons, List.not_mem_nil, or_false, not_or] at h ⊢
  omega
set_option maxRecDepth 100000 in
set_option maxHeartbeats 4000000 in
theorem y_Md_readValues (d : Nat) {μ : kc_M} {s : Nat → Int32} {tb : Nat → Nat} (h0 : μ.1 136 = some (ce_Md s)) (h1 : μ.1 137 = some (ce_I 200 (fun j => nI (tb j)))) (htb : ∀ j, tb j < 256) {nv : Nat} (h38 : s 38 = nI nv) (hnv : nv ≤ 24) {vf : Nat → Int64} (h151 : μ.1 151 = some (ce_L 24 vf)) {p e : Nat} (hpe : p ≤ e) (he : e ≤ 200) : kc_Y kt kC (d + 3) j_Md_readValues [.ref 136, .int (nI p), .int (nI e)] μ (fun v μ' => ∃ s', mV μ μ' s s' ∧ ((∃ V vf', vsS tb (24 - nv) p e = some V ∧ v = some (.int (bI true)) ∧ s' 38 = nI (nv + V.length) ∧ nv + V.length ≤ 24 ∧ μ'.1 151 = some (ce_L 24 vf') ∧ (∀ j, j < nv → vf' j = vf j) ∧ ∀ j, j < V.length → V[j]? = some (vf' (nv + j))) ∨ (vsS tb (24 - nv) p e = none ∧ v = some (.int (bI false)) ∧ ∃ vf', μ'.1 151 = some (ce_L 24 vf')))) := by
  refine ⟨Nat.le_of_ble_eq_true rfl, ?_⟩
  have loop : ∀ m (V : List Int64) (p1 : Nat) (μ1 : kc_M) (s1 : Nat → Int32) (vf1 : Nat → Int64), 24 - (nv + V.length) = m → nv + V.length ≤ 24 → p1 ≤ e → vsS tb (24 - nv) p e = (vsS tb m p1 e).map (fun l => V ++ l) → mV μ μ1 s s1 → s1 38 = nI (nv + V.length) → μ1.1 151 = some (ce_L 24 vf1) → (∀ j, j < nv → vf1 j = vf j) → (∀ j, j < V.length → V[j]? = some (vf1 (nv + j))) → kc_X (kC j_Md_readValues) (kc_Y kt kC (d + 2)) (fun v μ' => ∃ s', mV μ μ' s s' ∧ ((∃ V vf', vsS tb (24 - nv) p e = some V ∧ v = some (.int (bI true)) ∧ s' 38 = nI (nv + V.length) ∧ nv + V.length ≤ 24 ∧ μ'.1 151 = some (ce_L 24 vf') ∧ (∀ j, j < nv → vf' j = vf j) ∧ ∀ j, j < V.length → V[j]? = some (vf' (nv + j))) ∨ (vsS tb (24 - nv) p e = none ∧ v = some (.int (bI false)) ∧ ∃ vf', μ'.1 151 = some (ce_L 24 vf')))) 2 [some (.ref 136), some (.int (nI p)), some (.int (nI e)), some (.int (nI p1))] [] μ1 (0, 0) := by
    intro m
    induction m with
    | zero =>
      intro V p1 μ1 s1 vf1 hm hV hpe hR hC c0 k5 hv0 hv1
      have k0 := hC.1
      have k1 : μ1.1 137 = some (ce_I 200 (fun j => nI (tb j))) := (hC.2.2 137 (by decide) (by decide)).trans h1
      by_cases hp : p1 < e
      · have hn : vsS tb 0 p1 e = none := by unfold vsS; rw [if_pos hp]
        refine x_il c_Md_readValues_2 rfl ?_
        refine x_il c_Md_readValues_3 rfl ?_
        refine x_cmN_ge c_Md_readValues_4 (by omega) (by omega) (fun h => (by exfalso; omega)) (fun _ => ?_)
        refine x_al c_Md_readValues_7 rfl ?_
        refine x_getE c_Md_readValues_8 (by first | rfl | exact k0 | exact k1 | exact k5) rfl (by first | exact c0 | rfl) ?_
        refine x_ci c_Md_readValues_11 ?_
        refine x_cmN_eq c_Md_readValues_13 (by omega) (by omega) (fun _ => ?_) (fun h => (by exfalso; omega))
        refine x_ci c_Md_readValues_26 ?_
        refine x_rz c_Md_readValues_27 (by first | decide | exact kz_n _) ?_
        exact ⟨s1, hC, Or.inr ⟨by rw [hR, hn]; rfl, rfl, _, k5⟩⟩
      · have hn : vsS tb 0 p1 e = some [] := by unfold vsS; rw [if_neg hp]
        refine x_il c_Md_readValues_2 rfl ?_
        refine x_il c_Md_readValues_3 rfl ?_
        refine x_cmN_ge c_Md_readValues_4 (by omega) (by omega) (fun _ => ?_) (fun h => (by exfalso; omega))
        refine x_ci c_Md_readValues_67 ?_
        refine x_rz c_Md_readValues_68 (by first | decide | exact kz_n _) ?_
        exact ⟨s1, hC, Or.inl ⟨V, vf1, by rw [hR, hn]; simp, rfl, c0, hV, k5, hv0, hv1⟩⟩
    | succ m ih =>
      intro V p1 μ1 s1 vf1 hm hV hpe hR hC c0 k5 hv0 hv1
      have k0 := hC.1
      have k1 : μ1.1 137 = some (ce_I 200 (fun j => nI (tb j))) := (hC.2.2 137 (by decide) (by decide)).trans h1
      by_cases hp : p1 < e
      · skip
        refine x_il c_Md_readValues_2 rfl ?_
        refine x_il c_Md_readValues_3 rfl ?_
        refine x_cmN_ge c_Md_readValues_4 (by omega) (by omega) (fun h => (by exfalso; omega)) (fun _ => ?_)
        refine x_al c_Md_readValues_7 rfl ?_
        refine x_getE c_Md_readValues_8 (by first | rfl | exact k0 | exact k1 | exact k5) rfl (by first | exact c0 | rfl) ?_
        refine x_ci c_Md_readValues_11 ?_
        refine x_cmN_eq c_Md_readValues_13 (by omega) (by omega) (fun h => (by exfalso; omega)) (fun _ => ?_)
        refine x_al c_Md_readValues_16 rfl ?_
        refine x_il c_Md_readValues_17 rfl ?_
        refine x_il c_Md_readValues_18 rfl ?_
        refine x_ci c_Md_readValues_19 ?_
        refine x_cv3z _ c_Md_readValues_20 (by first | rfl | exact k0 | exact k1 | exact k5) (Nat.le_of_ble_eq_true rfl) (y_Md_tagged (d := d) k0 k1 htb (p := p1) (e := e) (by omega) he (t := 4) (by omega)) ?_
        rintro v μ2 ⟨s2, hc2, ⟨x, y, r2, rfl, a2, b2, d2⟩ | ⟨r2, rfl⟩⟩
        · show kc_X _ _ _ _ _ [.int (bI true)] _ _
          have k12 : μ2.1 137 = some (ce_I 200 (fun j => nI (tb j))) := (hc2.2.2 137 (by omega)).trans k1
          have k52 := (hc2.2.2 151 (by omega)).trans k5
          have i2 := tl_in r2
          have c2 : s2 38 = nI (nv + V.length) := (hc2.2.1 38 (by decide)).trans c0
          refine x_if_ne c_Md_readValues_23 (fun _ => ?_) (fun h => absurd h (by decide))
          refine x_al c_Md_readValues_28 rfl ?_
          refine x_get c_Md_readValues_29 (by first | rfl | exact hc2.1 | exact k12 | exact k52) rfl ?_
          refine x_al c_Md_readValues_32 rfl ?_
          refine x_getE c_Md_readValues_33 (by first | rfl | exact hc2.1 | exact k12 | exact k52) rfl (by first | exact c2 | exact b2 | exact d2 | rfl) ?_
          refine x_al c_Md_readValues_36 rfl ?_
          refine x_al c_Md_readValues_37 rfl ?_
          refine x_getE c_Md_readValues_38 (by first | rfl | exact hc2.1 | exact k12 | exact k52) rfl (by first | exact c2 | exact b2 | exact d2 | rfl) ?_
          refine x_al c_Md_readValues_41 rfl ?_
          refine x_getE c_Md_readValues_42 (by first | rfl | exact hc2.1 | exact k12 | exact k52) rfl (by first | exact c2 | exact b2 | exact d2 | rfl) ?_
          refine x_cv2z _ c_Md_readValues_45 (by first | rfl | exact hc2.1 | exact k12 | exact k52) (Nat.le_of_ble_eq_true rfl) (y_Md_valueIn d hc2.1 k12 htb (p := x) (e := y) (by omega) (by omega)) ?_
          rintro _ μx ⟨rfl, hμx⟩
          have hμx := hμx.symm
          subst hμx
          show kc_X _ _ _ _ _ (.long (vlS tb x y) :: _) _ _
          refine x_lastN c_Md_readValues_48 (by first | rfl | exact hc2.1 | exact k12 | exact k52) (by omega) (by omega) ?_
          refine x_al c_Md_readValues_49 rfl ?_
          refine x_dup c_Md_readValues_50 rfl ?_
          refine x_getE c_Md_readValues_51 (by first | rfl | exact hc2.1 | exact k12 | exact k52) rfl (by first | exact c2 | exact b2 | exact d2 | rfl) ?_
          refine x_ci c_Md_readValues_54 ?_
          first | refine x_iaddN c_Md_readValues_55 ?_ | refine x_iadd c_Md_readValues_55 ?_
          refine x_putM c_Md_readValues_56 (by first | rfl | exact hc2.1 | exact k12 | exact k52) ⟨by decide, rfl, rfl⟩ rfl ?_
          refine x_al c_Md_readValues_59 rfl ?_
          refine x_getE c_Md_readValues_60 (by first | rfl | exact hc2.1 | exact k12 | exact k52) rfl (by first | exact c2 | exact b2 | exact d2 | rfl) ?_
          refine x_is [_, _, _, _] c_Md_readValues_63 rfl ?_
          refine x_goto c_Md_readValues_64 ?_
          have e8 : nv + V.length + 1 = nv + (V ++ [(vlS tb x y)]).length := by rw [List.length_append]; rfl
          exact ih (V ++ [(vlS tb x y)]) y (kc_u (kc_u μ2 151 (ce_L 24 (vp_updL vf1 (nv + V.length) (vlS tb x y)))) 136 (ce_Md (upd s2 38 (nI (nv + V.length + 1))))) (upd s2 38 (nI (nv + V.length + 1))) (vp_updL vf1 (nv + V.length) (vlS tb x y)) (by rw [List.length_append]; show 24 - (nv + (V.length + 1)) = m; omega) (by rw [← e8]; omega) i2.2.2 (by rw [hR, vsS_s, if_pos hp, r2]; dsimp only; rw [Option.map_map]; congr 1; funext z; simp) ⟨kc_gs, fun i hi => (if_neg (nin hi).2).trans ((hc2.2.1 i (nin hi).1).trans (hC.2.1 i hi)), fun q q1 q2 => (kc_gf q1).trans ((kc_gf q2).trans ((hc2.2.2 q q1).trans (hC.2.2 q q1 q2)))⟩ (by rw [← e8]; rfl) rfl (fun j hj => (if_neg (by omega)).trans (hv0 j hj)) (fun j hj => by rw [List.length_append] at hj; have hj : j < V.length + 1 := hj; show _ = some (if nv + j = nv + V.length then _ else vf1 (nv + j)); (by_cases hjl : j = V.length; (rw [if_pos (by omega), hjl, List.getElem?_append_right (Nat.le_refl _), Nat.sub_self]; rfl); (rw [if_neg (by omega), List.getElem?_append_left (by omega)]; exact hv1 j (by omega))))
        · show kc_X _ _ _ _ _ [.int (bI false)] _ _
          refine x_if_ne c_Md_readValues_23 (fun h => absurd (rfl) h) (fun _ => ?_)
          refine x_ci c_Md_readValues_26 ?_
          refine x_rz c_Md_readValues_27 (by first | decide | exact kz_n _) ?_
          exact ⟨s2, ⟨hc2.1, fun i hi => (hc2.2.1 i (nin hi).1).trans (hC.2.1 i hi), fun q q1 q2 => (hc2.2.2 q q1).trans (hC.2.2 q q1 q2)⟩, Or.inr ⟨by rw [hR, vsS_s, if_pos hp, r2]; rfl, rfl, _, (hc2.2.2 151 (by omega)).trans k5⟩⟩
      · have hn : vsS tb (m + 1) p1 e = some [] := by rw [vsS_s, if_neg hp]
        refine x_il c_Md_readValues_2 rfl ?_
        refine x_il c_Md_readValues_3 rfl ?_
        refine x_cmN_ge c_Md_readValues_4 (by omega) (by omega) (fun _ => ?_) (fun h => (by exfalso; omega))
        refine x_ci c_Md_readValues_67 ?_
        refine x_rz c_Md_readValues_68 (by first | decide | exact kz_n _) ?_
        exact ⟨s1, hC, Or.inl ⟨V, vf1, by rw [hR, hn]; simp, rfl, c0, hV, k5, hv0, hv1⟩⟩
  refine x_il c_Md_readValues_0 rfl ?_
  refine x_is [_, _, _, _] c_Md_readValues_1 rfl ?_
  exact loop _ [] p μ s vf rfl hnv hpe (by show _ = Option.map (fun l => [] ++ l) _; simp) ⟨h0, fun _ _ => rfl, fun _ _ _ => rfl⟩ h38 h151 (fun _ _ => rfl) (fun j hj => by cases hj)
