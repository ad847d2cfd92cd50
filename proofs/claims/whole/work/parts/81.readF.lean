/-! all changes read, the class -/
def rc1 (tb : Nat → Nat) (kb : Bool) (nv : Nat) (r : RS) : RS × cg := if kb = true then (rL r.2.1 (raA tb (24 - nv) (rC tb 2 (rE tb (nI 48) r))).1, (vO tb (nI 10) (rE tb (nI 48) r), (raA tb (24 - nv) (rC tb 2 (rE tb (nI 48) r))).2)) else ((raA tb (24 - nv) r).1, (0, (raA tb (24 - nv) r).2))
theorem rc1_t (tb : Nat → Nat) (nv : Nat) (r : RS) : rc1 tb true nv r = (rL r.2.1 (raA tb (24 - nv) (rC tb 2 (rE tb (nI 48) r))).1, (vO tb (nI 10) (rE tb (nI 48) r), (raA tb (24 - nv) (rC tb 2 (rE tb (nI 48) r))).2)) := rfl
theorem rc1_f (tb : Nat → Nat) (nv : Nat) (r : RS) : rc1 tb false nv r = ((raA tb (24 - nv) r).1, (0, (raA tb (24 - nv) r).2)) := rfl
theorem rc1_ok {tb : Nat → Nat} (htb : ∀ j, tb j < 256) {kb : Bool} {sz nv : Nat} {r : RS} (h : rok sz r) : rok sz (rc1 tb kb nv r).1 ∧ (rc1 tb kb nv r).1.2.1 = r.2.1 ∧ (rc1 tb kb nv r).2.2.2.length ≤ 24 - nv ∧ (rc1 tb kb nv r).2.1 < 256 ∧ ∀ v ∈ (rc1 tb kb nv r).2.2.2, v = -1 ∨ 0 ≤ v := by
  cases kb with
  | true =>
    have h1 := rok_E (tb := tb) (tag := nI 48) h
    have h2 := rok_C (tb := tb) (most := 2) h1.1
    have h3 := raA_ok htb (m := 24 - nv) h2.1
    rw [rc1_t]
    exact ⟨rok_L h3.1 (by rw [h3.2.1, h2.2.1]; exact h1.2.1) h.2.1, rfl, h3.2.2.1, vO_lt htb _ _, h3.2.2.2⟩
  | false =>
    have h3 := raA_ok htb (m := 24 - nv) h
    rw [rc1_f]
    exact ⟨h3.1, h3.2.1, h3.2.2.1, by show 0 < 256; omega, h3.2.2.2⟩
def raL (tb : Nat → Nat) (kb : Bool) : Nat → Nat → RS → RS × List cg
  | 0, _, r => (r, [])
  | m + 1, nv, r => if rM r = true then ((raL tb kb m (nv + (rc1 tb kb nv r).2.2.2.length) (rc1 tb kb nv r).1).1, (rc1 tb kb nv r).2 :: (raL tb kb m (nv + (rc1 tb kb nv r).2.2.2.length) (rc1 tb kb nv r).1).2) else (r, [])
theorem raL_s (tb : Nat → Nat) (kb : Bool) (m nv : Nat) (r : RS) : raL tb kb (m + 1) nv r = if rM r = true then ((raL tb kb m (nv + (rc1 tb kb nv r).2.2.2.length) (rc1 tb kb nv r).1).1, (rc1 tb kb nv r).2 :: (raL tb kb m (nv + (rc1 tb kb nv r).2.2.2.length) (rc1 tb kb nv r).1).2) else (r, []) := rfl
def rcF (tb : Nat → Nat) (kb : Bool) (r : RS) : RS × List cg := (rL r.2.1 (raL tb kb 12 0 (rE tb (nI 48) r)).1, (raL tb kb 12 0 (rE tb (nI 48) r)).2)
set_option maxRecDepth 100000 in
set_option maxHeartbeats 4000000 in
theorem y_Ch_readFrom (d : Nat) {μ : kc_M} {tb : Nat → Nat} {sz : Nat} {id : Int32} {r : RS} (hr : rd_r μ tb sz id r) (h : rok sz r) (htb : ∀ j, tb j < 256) (hsc : sc_at μ) (kb : Bool) : kc_Y kt kC (d + 5) j_Ch_readFrom [.ref 122, .ref 1, .int (bI kb)] μ (fun w μ' => w = none ∧ rd_r μ' tb sz id (rcF tb kb r).1 ∧ rok sz (rcF tb kb r).1 ∧ (∃ kf tf ef vf, chA μ' (rcF tb kb r).2.length (tot (rcF tb kb r).2) kf tf ef vf ∧ chL kf tf ef vf (rcF tb kb r).2 0 0) ∧ (rcF tb kb r).2.length ≤ 12 ∧ tot (rcF tb kb r).2 ≤ 24 ∧ ∀ q, q ≠ 1 → q < 122 ∨ 126 < q → μ'.1 q = μ.1 q) := by
  refine ⟨Nat.le_of_ble_eq_true rfl, ?_⟩
  have h1 := rok_E (tb := tb) (tag := nI 48) h
  have loop : ∀ m (cs : List cg) (x1 : RS) (μ1 : kc_M) (kf tf ef : Nat → Int32) (vf : Nat → Int64) (jk : Option Value), 12 - cs.length = m → cs.length ≤ 12 → tot cs ≤ 24 → raL tb kb 12 0 (rE tb (nI 48) r) = ((raL tb kb m (tot cs) x1).1, cs ++ (raL tb kb m (tot cs) x1).2) → rd_r μ1 tb sz id x1 → rok sz x1 → x1.2.1 = (rE tb (nI 48) r).2.1 → chA μ1 cs.length (tot cs) kf tf ef vf → chL kf tf ef vf cs 0 0 → (∀ q, q ≠ 1 → q < 122 ∨ 126 < q → μ1.1 q = μ.1 q) → kc_X (kC j_Ch_readFrom) (kc_Y kt kC (d + 4)) (fun w μ' => w = none ∧ rd_r μ' tb sz id (rcF tb kb r).1 ∧ rok sz (rcF tb kb r).1 ∧ (∃ kf tf ef vf, chA μ' (rcF tb kb r).2.length (tot (rcF tb kb r).2) kf tf ef vf ∧ chL kf tf ef vf (rcF tb kb r).2 0 0) ∧ (rcF tb kb r).2.length ≤ 12 ∧ tot (rcF tb kb r).2 ≤ 24 ∧ ∀ q, q ≠ 1 → q < 122 ∨ 126 < q → μ'.1 q = μ.1 q) 20 [some (.ref 122), some (.ref 1), some (.int (bI kb)), some (.int (nI r.2.1)), some (.int (nI cs.length)), jk] [] μ1 (0, 0) := by
    intro m
    induction m with
    | zero =>
      intro cs x1 μ1 kf tf ef vf jk hm h12 h24 hR hr4 hk1 hx21 k hcs hf
      have hend : raL tb kb 0 (tot cs) x1 = (x1, []) := rfl
      refine x_il c_Ch_readFrom_20 rfl ?_
      refine x_ci c_Ch_readFrom_22 ?_
      refine x_cmN_ge c_Ch_readFrom_24 (by omega) (by omega) (fun _ => ?_) (fun h => (by exfalso; omega))
      refine x_al c_Ch_readFrom_103 rfl ?_
      refine x_il c_Ch_readFrom_104 rfl ?_
      refine x_cv1z _ c_Ch_readFrom_105 (by first | rfl | exact k.1 | exact k.2.1 | exact hr4.1 | exact k2.1 | exact k2.2.1 | exact hr2.1 | exact hr3.1 | exact hr6.1 | exact k6.1 | exact kc_gs) (Nat.le_of_ble_eq_true rfl) (y_Rd_leave (d + 3) hr4 hk1 htb) ?_
      rintro _ μ7 ⟨rfl, hr7, f7⟩
      show kc_X _ _ _ _ _ [] _ _
      refine x_ret c_Ch_readFrom_108 ?_
      have e9 : rcF tb kb r = (rL r.2.1 x1, cs) := by unfold rcF; rw [hR, hend]; simp
      rw [e9]
      exact ⟨rfl, hr7, rok_L hk1 (by rw [hx21]; exact h1.2.1) h.2.1, ⟨kf, tf, ef, vf, chA_k k (fun q q1 q2 => f7 q (by omega)), hcs⟩, h12, h24, fun q q1 q2 => (f7 q q1).trans (hf q q1 q2)⟩
    | succ m ih =>
      intro cs x1 μ1 kf tf ef vf jk hm h12 h24 hR hr4 hk1 hx21 k hcs hf
      cases kb with
      | true =>
        refine x_il c_Ch_readFrom_20 rfl ?_
        refine x_ci c_Ch_readFrom_22 ?_
        refine x_cmN_ge c_Ch_readFrom_24 (by omega) (by omega) (fun h => (by exfalso; omega)) (fun _ => ?_)
        refine x_al c_Ch_readFrom_27 rfl ?_
        refine x_cv0z _ c_Ch_readFrom_28 (by first | rfl | exact k.1 | exact k.2.1 | exact hr4.1 | exact k2.1 | exact k2.2.1 | exact hr2.1 | exact hr3.1 | exact hr6.1 | exact k6.1 | exact kc_gs | exact hr5.1 | exact kc1) (Nat.le_of_ble_eq_true rfl) (y_Rd_hasMore (d + 3) hr4 hk1 htb) ?_
        rintro _ μx ⟨rfl, hμx⟩
        have hμx := hμx.symm
        subst hμx
        show kc_X _ _ _ _ _ [.int (bI (rM x1))] _ _
        refine x_ifB_eq c_Ch_readFrom_31 (fun h31 => ?_) (fun h31 => ?_)
        · have hend : raL tb true (m + 1) (tot cs) x1 = (x1, []) := by rw [raL_s, if_neg (by rw [h31]; decide)]
          refine x_al c_Ch_readFrom_103 rfl ?_
          refine x_il c_Ch_readFrom_104 rfl ?_
          refine x_cv1z _ c_Ch_readFrom_105 (by first | rfl | exact k.1 | exact k.2.1 | exact hr4.1 | exact k2.1 | exact k2.2.1 | exact hr2.1 | exact hr3.1 | exact hr6.1 | exact k6.1 | exact kc_gs | exact hr5.1 | exact kc1) (Nat.le_of_ble_eq_true rfl) (y_Rd_leave (d + 3) hr4 hk1 htb) ?_
          rintro _ μ7 ⟨rfl, hr7, f7⟩
          show kc_X _ _ _ _ _ [] _ _
          refine x_ret c_Ch_readFrom_108 ?_
          have e9 : rcF tb true r = (rL r.2.1 x1, cs) := by unfold rcF; rw [hR, hend]; simp
          rw [e9]
          exact ⟨rfl, hr7, rok_L hk1 (by rw [hx21]; exact h1.2.1) h.2.1, ⟨kf, tf, ef, vf, chA_k k (fun q q1 q2 => f7 q (by omega)), hcs⟩, h12, h24, fun q q1 q2 => (f7 q q1).trans (hf q q1 q2)⟩
        · refine x_il c_Ch_readFrom_34 rfl ?_
          refine x_if_eq c_Ch_readFrom_35 (fun h => absurd h (by decide)) (fun _ => ?_)
          refine x_al c_Ch_readFrom_38 rfl ?_
          refine x_ci c_Ch_readFrom_39 ?_
          refine x_cv1z _ c_Ch_readFrom_41 (by first | rfl | exact k.1 | exact k.2.1 | exact hr4.1 | exact k2.1 | exact k2.2.1 | exact hr2.1 | exact hr3.1 | exact hr6.1 | exact k6.1 | exact kc_gs | exact hr5.1 | exact kc1) (Nat.le_of_ble_eq_true rfl) (y_Rd_enter (d + 3) hr4 hk1 htb (tag := nI 48)) ?_
          rintro _ μ2 ⟨rfl, hr2, f2⟩
          have h2 := rok_E (tb := tb) (tag := nI 48) hk1
          have k2 := chA_k k (μ' := μ2) (fun q q1 q2 => f2 q (by omega))
          show kc_X _ _ _ _ _ [.int (nI x1.2.1)] _ _
          refine x_is [_, _, _, _, _, _] c_Ch_readFrom_44 rfl ?_
          refine x_al c_Ch_readFrom_46 rfl ?_
          refine x_get c_Ch_readFrom_47 (by first | rfl | exact k.1 | exact k.2.1 | exact hr4.1 | exact k2.1 | exact k2.2.1 | exact hr2.1 | exact hr3.1 | exact hr6.1 | exact k6.1 | exact kc_gs | exact hr5.1 | exact kc1) rfl ?_
          refine x_il c_Ch_readFrom_50 rfl ?_
          refine x_al c_Ch_readFrom_52 rfl ?_
          refine x_ci c_Ch_readFrom_53 ?_
          refine x_cv1z _ c_Ch_readFrom_54 (by first | rfl | exact k.1 | exact k.2.1 | exact hr4.1 | exact k2.1 | exact k2.2.1 | exact hr2.1 | exact hr3.1 | exact hr6.1 | exact k6.1 | exact kc_gs | exact hr5.1 | exact kc1) (Nat.le_of_ble_eq_true rfl) (y_Rd_choice d hr2 h2.1 htb (most := 2) (by omega)) ?_
          rintro _ μ3 ⟨rfl, hr3, f3⟩
          have h3 := rok_C (tb := tb) (most := 2) h2.1
          have k2 := chA_k k2 (μ' := μ3) (fun q q1 q2 => f3 q (by omega))
          show kc_X _ _ _ _ _ (.int (nI (vO tb (nI 10) (rE tb (nI 48) x1))) :: _) _ _
          refine x_iastN c_Ch_readFrom_57 (by first | rfl | exact k.1 | exact k.2.1 | exact hr4.1 | exact k2.1 | exact k2.2.1 | exact hr2.1 | exact hr3.1 | exact hr6.1 | exact k6.1 | exact kc_gs | exact hr5.1 | exact kc1) (by omega) (by omega) ?_
          refine x_al c_Ch_readFrom_58 rfl ?_
          refine x_al c_Ch_readFrom_59 rfl ?_
          refine x_il c_Ch_readFrom_60 rfl ?_
          refine x_cv2z _ c_Ch_readFrom_62 (by first | rfl | exact k.1 | exact k.2.1 | exact hr4.1 | exact k2.1 | exact k2.2.1 | exact hr2.1 | exact hr3.1 | exact hr6.1 | exact k6.1 | exact kc_gs | exact hr5.1 | exact kc1) (Nat.le_of_ble_eq_true rfl) (y_Ch_readAttribute d (kf := upd kf cs.length (nI (vO tb (nI 10) (rE tb (nI 48) x1)))) (by exact ⟨hr3.1, hr3.2⟩) h3.1 htb (by exact ⟨k2.1, rfl, k2.2.2.1, k2.2.2.2.1, k2.2.2.2.2⟩) (by omega) h24) ?_
          rintro _ μ5 ⟨rfl, hr5, k6, f5⟩
          have h5 := raA_ok htb (m := 24 - tot cs) h3.1
          show kc_X _ _ _ _ _ [] _ _
          refine x_al c_Ch_readFrom_65 rfl ?_
          refine x_il c_Ch_readFrom_66 rfl ?_
          refine x_cv1z _ c_Ch_readFrom_68 (by first | rfl | exact k.1 | exact k.2.1 | exact hr4.1 | exact k2.1 | exact k2.2.1 | exact hr2.1 | exact hr3.1 | exact hr6.1 | exact k6.1 | exact kc_gs | exact hr5.1 | exact kc1) (Nat.le_of_ble_eq_true rfl) (y_Rd_leave (d + 3) hr5 h5.1 htb) ?_
          rintro _ μ6 ⟨rfl, hr6, f6⟩
          have k6 : ∃ vf', chA μ6 cs.length (tot cs + (raA tb (24 - tot cs) (rC tb 2 (rE tb (nI 48) x1))).2.2.length) (upd kf cs.length (nI (vO tb (nI 10) (rE tb (nI 48) x1)))) (upd tf cs.length (raA tb (24 - tot cs) (rC tb 2 (rE tb (nI 48) x1))).2.1) (upd ef cs.length (nI (tot cs + (raA tb (24 - tot cs) (rC tb 2 (rE tb (nI 48) x1))).2.2.length))) vf' ∧ (∀ j, j < tot cs → vf' j = vf j) ∧ ∀ j, j < (raA tb (24 - tot cs) (rC tb 2 (rE tb (nI 48) x1))).2.2.length → (raA tb (24 - tot cs) (rC tb 2 (rE tb (nI 48) x1))).2.2[j]? = some (vf' (tot cs + j)) := by obtain ⟨vf', k61, k62⟩ := k6; exact ⟨vf', chA_k k61 (fun q q1 q2 => f6 q (by omega)), k62⟩
          have k6c := k6
          obtain ⟨_, ⟨kc1, _⟩, _⟩ := k6c
          show kc_X _ _ _ _ _ [] _ _
          refine x_goto c_Ch_readFrom_71 ?_
          refine x_al c_Ch_readFrom_89 rfl ?_
          refine x_il c_Ch_readFrom_90 rfl ?_
          refine x_ci c_Ch_readFrom_92 ?_
          first | refine x_iaddN c_Ch_readFrom_93 ?_ | refine x_iadd c_Ch_readFrom_93 ?_
          refine x_put [_, _, _, _, _, _] c_Ch_readFrom_94 (by first | rfl | exact k.1 | exact k.2.1 | exact hr4.1 | exact k2.1 | exact k2.2.1 | exact hr2.1 | exact hr3.1 | exact hr6.1 | exact k6.1 | exact kc_gs | exact hr5.1 | exact kc1) ⟨Nat.le_of_ble_eq_true rfl, rfl, rfl⟩ rfl ?_
          first | refine x_incN [_, _, _, _, _, _] c_Ch_readFrom_97 rfl rfl ?_ | refine x_inc [_, _, _, _, _, _] c_Ch_readFrom_97 rfl rfl ?_
          refine x_goto c_Ch_readFrom_100 ?_
          have hok := rc1_ok htb (kb := true) (nv := tot cs) hk1
          have hC : (rc1 tb true (tot cs) x1).2.2 = (raA tb (24 - tot cs) (rC tb 2 (rE tb (nI 48) x1))).2 := rfl
          rw [raL_s tb true m (tot cs) x1, if_pos h31] at hR
          have e8 : cs.length + 1 = (cs ++ [(rc1 tb true (tot cs) x1).2]).length := by rw [List.length_append]; rfl
          have e7 : tot cs + (raA tb (24 - tot cs) (rC tb 2 (rE tb (nI 48) x1))).2.2.length = tot (cs ++ [(rc1 tb true (tot cs) x1).2]) := by rw [tot_a]; rfl
          obtain ⟨vf', k6', hv0, hv1⟩ := k6
          have hcs' : chL (upd kf cs.length (nI (vO tb (nI 10) (rE tb (nI 48) x1)))) (upd tf cs.length (raA tb (24 - tot cs) (rC tb 2 (rE tb (nI 48) x1))).2.1) (upd ef cs.length (nI (tot cs + (raA tb (24 - tot cs) (rC tb 2 (rE tb (nI 48) x1))).2.2.length))) vf' (cs ++ [(rc1 tb true (tot cs) x1).2]) 0 0 := by
            refine chL_a cs 0 0 (chL_k cs 0 0 hcs (fun j hj => ⟨if_neg (by omega), if_neg (by omega), if_neg (by omega)⟩) (fun j hj => hv0 j (by omega))) ?_
            rw [Nat.zero_add, Nat.zero_add]
            exact ⟨if_pos rfl, if_pos rfl, if_pos rfl, hok.2.2.2.1, fun j hj => hv1 j hj, hok.2.2.2.2, by have := hok.2.2.1; omega⟩
          rw [e7] at k6'
          rw [e7] at hcs'
          rw [e7, e8]
          exact ih (cs ++ [(rc1 tb true (tot cs) x1).2]) (rc1 tb true (tot cs) x1).1 (kc_u μ6 122 (ce_Ch (cs ++ [(rc1 tb true (tot cs) x1).2]).length (tot (cs ++ [(rc1 tb true (tot cs) x1).2])))) (upd kf cs.length (nI (vO tb (nI 10) (rE tb (nI 48) x1)))) (upd tf cs.length (raA tb (24 - tot cs) (rC tb 2 (rE tb (nI 48) x1))).2.1) (upd ef cs.length (nI (tot (cs ++ [(rc1 tb true (tot cs) x1).2])))) vf' _ (by rw [List.length_append]; show 12 - (cs.length + 1) = m; omega) (by rw [List.length_append]; show cs.length + 1 ≤ 12; omega) (by rw [← e7]; have := hok.2.2.1; show tot cs + (rc1 tb true (tot cs) x1).2.2.2.length ≤ 24; omega) (by rw [hR, ← e7]; show (_, _) = (_, cs ++ [(rc1 tb true (tot cs) x1).2] ++ _); rw [List.append_assoc]; rfl) (by exact ⟨hr6.1, hr6.2⟩) hok.1 (hok.2.1.trans hx21) ⟨kc_gs, (kc_gf (by decide)).trans k6'.2.1, (kc_gf (by decide)).trans k6'.2.2.1, (kc_gf (by decide)).trans k6'.2.2.2.1, (kc_gf (by decide)).trans k6'.2.2.2.2⟩ hcs' (fun q q1 q2 => (kc_gf (by omega)).trans ((f6 q q1).trans ((f5 q q1 q2).trans ((kc_gf (by omega)).trans ((f3 q q1).trans ((f2 q q1).trans (hf q q1 q2)))))))
      | false =>
        refine x_il c_Ch_readFrom_20 rfl ?_
        refine x_ci c_Ch_readFrom_22 ?_
        refine x_cmN_ge c_Ch_readFrom_24 (by omega) (by omega) (fun h => (by exfalso; omega)) (fun _ => ?_)
        refine x_al c_Ch_readFrom_27 rfl ?_
        refine x_cv0z _ c_Ch_readFrom_28 (by first | rfl | exact k.1 | exact k.2.1 | exact hr4.1 | exact k2.1 | exact k2.2.1 | exact hr2.1 | exact hr3.1 | exact hr6.1 | exact k6.1 | exact kc_gs | exact hr5.1 | exact kc1) (Nat.le_of_ble_eq_true rfl) (y_Rd_hasMore (d + 3) hr4 hk1 htb) ?_
        rintro _ μx ⟨rfl, hμx⟩
        have hμx := hμx.symm
        subst hμx
        show kc_X _ _ _ _ _ [.int (bI (rM x1))] _ _
        refine x_ifB_eq c_Ch_readFrom_31 (fun h31 => ?_) (fun h31 => ?_)
        · have hend : raL tb false (m + 1) (tot cs) x1 = (x1, []) := by rw [raL_s, if_neg (by rw [h31]; decide)]
          refine x_al c_Ch_readFrom_103 rfl ?_
          refine x_il c_Ch_readFrom_104 rfl ?_
          refine x_cv1z _ c_Ch_readFrom_105 (by first | rfl | exact k.1 | exact k.2.1 | exact hr4.1 | exact k2.1 | exact k2.2.1 | exact hr2.1 | exact hr3.1 | exact hr6.1 | exact k6.1 | exact kc_gs | exact hr5.1 | exact kc1) (Nat.le_of_ble_eq_true rfl) (y_Rd_leave (d + 3) hr4 hk1 htb) ?_
          rintro _ μ7 ⟨rfl, hr7, f7⟩
          show kc_X _ _ _ _ _ [] _ _
          refine x_ret c_Ch_readFrom_108 ?_
          have e9 : rcF tb false r = (rL r.2.1 x1, cs) := by unfold rcF; rw [hR, hend]; simp
          rw [e9]
          exact ⟨rfl, hr7, rok_L hk1 (by rw [hx21]; exact h1.2.1) h.2.1, ⟨kf, tf, ef, vf, chA_k k (fun q q1 q2 => f7 q (by omega)), hcs⟩, h12, h24, fun q q1 q2 => (f7 q q1).trans (hf q q1 q2)⟩
        · refine x_il c_Ch_readFrom_34 rfl ?_
          refine x_if_eq c_Ch_readFrom_35 (fun _ => ?_) (fun h => absurd (rfl) h)
          refine x_al c_Ch_readFrom_74 rfl ?_
          refine x_get c_Ch_readFrom_75 (by first | rfl | exact k.1 | exact k.2.1 | exact hr4.1 | exact k2.1 | exact k2.2.1 | exact hr2.1 | exact hr3.1 | exact hr6.1 | exact k6.1 | exact kc_gs | exact hr5.1 | exact kc1) rfl ?_
          refine x_il c_Ch_readFrom_78 rfl ?_
          refine x_ci c_Ch_readFrom_80 ?_
          refine x_iastN c_Ch_readFrom_81 (by first | rfl | exact k.1 | exact k.2.1 | exact hr4.1 | exact k2.1 | exact k2.2.1 | exact hr2.1 | exact hr3.1 | exact hr6.1 | exact k6.1 | exact kc_gs | exact hr5.1 | exact kc1) (by omega) (by omega) ?_
          refine x_al c_Ch_readFrom_82 rfl ?_
          refine x_al c_Ch_readFrom_83 rfl ?_
          refine x_il c_Ch_readFrom_84 rfl ?_
          refine x_cv2z _ c_Ch_readFrom_86 (by first | rfl | exact k.1 | exact k.2.1 | exact hr4.1 | exact k2.1 | exact k2.2.1 | exact hr2.1 | exact hr3.1 | exact hr6.1 | exact k6.1 | exact kc_gs | exact hr5.1 | exact kc1) (Nat.le_of_ble_eq_true rfl) (y_Ch_readAttribute d (kf := upd kf cs.length (nI 0)) (by exact ⟨hr4.1, hr4.2⟩) hk1 htb (by exact ⟨k.1, rfl, k.2.2.1, k.2.2.2.1, k.2.2.2.2⟩) (by omega) h24) ?_
          rintro _ μ5 ⟨rfl, hr5, k6, f5⟩
          have k6c := k6
          obtain ⟨_, ⟨kc1, _⟩, _⟩ := k6c
          show kc_X _ _ _ _ _ [] _ _
          refine x_al c_Ch_readFrom_89 rfl ?_
          refine x_il c_Ch_readFrom_90 rfl ?_
          refine x_ci c_Ch_readFrom_92 ?_
          first | refine x_iaddN c_Ch_readFrom_93 ?_ | refine x_iadd c_Ch_readFrom_93 ?_
          refine x_put [_, _, _, _, _, _] c_Ch_readFrom_94 (by first | rfl | exact k.1 | exact k.2.1 | exact hr4.1 | exact k2.1 | exact k2.2.1 | exact hr2.1 | exact hr3.1 | exact hr6.1 | exact k6.1 | exact kc_gs | exact hr5.1 | exact kc1) ⟨Nat.le_of_ble_eq_true rfl, rfl, rfl⟩ rfl ?_
          first | refine x_incN [_, _, _, _, _, _] c_Ch_readFrom_97 rfl rfl ?_ | refine x_inc [_, _, _, _, _, _] c_Ch_readFrom_97 rfl rfl ?_
          refine x_goto c_Ch_readFrom_100 ?_
          have hok := rc1_ok htb (kb := false) (nv := tot cs) hk1
          have hC : (rc1 tb false (tot cs) x1).2.2 = (raA tb (24 - tot cs) x1).2 := rfl
          rw [raL_s tb false m (tot cs) x1, if_pos h31] at hR
          have e8 : cs.length + 1 = (cs ++ [(rc1 tb false (tot cs) x1).2]).length := by rw [List.length_append]; rfl
          have e7 : tot cs + (raA tb (24 - tot cs) x1).2.2.length = tot (cs ++ [(rc1 tb false (tot cs) x1).2]) := by rw [tot_a]; rfl
          obtain ⟨vf', k6', hv0, hv1⟩ := k6
          have hcs' : chL (upd kf cs.length (nI 0)) (upd tf cs.length (raA tb (24 - tot cs) x1).2.1) (upd ef cs.length (nI (tot cs + (raA tb (24 - tot cs) x1).2.2.length))) vf' (cs ++ [(rc1 tb false (tot cs) x1).2]) 0 0 := by
            refine chL_a cs 0 0 (chL_k cs 0 0 hcs (fun j hj => ⟨if_neg (by omega), if_neg (by omega), if_neg (by omega)⟩) (fun j hj => hv0 j (by omega))) ?_
            rw [Nat.zero_add, Nat.zero_add]
            exact ⟨if_pos rfl, if_pos rfl, if_pos rfl, hok.2.2.2.1, fun j hj => hv1 j hj, hok.2.2.2.2, by have := hok.2.2.1; omega⟩
          rw [e7] at k6'
          rw [e7] at hcs'
          rw [e7, e8]
          exact ih (cs ++ [(rc1 tb false (tot cs) x1).2]) (rc1 tb false (tot cs) x1).1 (kc_u μ5 122 (ce_Ch (cs ++ [(rc1 tb false (tot cs) x1).2]).length (tot (cs ++ [(rc1 tb false (tot cs) x1).2])))) (upd kf cs.length (nI 0)) (upd tf cs.length (raA tb (24 - tot cs) x1).2.1) (upd ef cs.length (nI (tot (cs ++ [(rc1 tb false (tot cs) x1).2])))) vf' _ (by rw [List.length_append]; show 12 - (cs.length + 1) = m; omega) (by rw [List.length_append]; show cs.length + 1 ≤ 12; omega) (by rw [← e7]; have := hok.2.2.1; show tot cs + (rc1 tb false (tot cs) x1).2.2.2.length ≤ 24; omega) (by rw [hR, ← e7]; show (_, _) = (_, cs ++ [(rc1 tb false (tot cs) x1).2] ++ _); rw [List.append_assoc]; rfl) (by exact ⟨hr5.1, hr5.2⟩) hok.1 (hok.2.1.trans hx21) ⟨kc_gs, (kc_gf (by decide)).trans k6'.2.1, (kc_gf (by decide)).trans k6'.2.2.1, (kc_gf (by decide)).trans k6'.2.2.2.1, (kc_gf (by decide)).trans k6'.2.2.2.2⟩ hcs' (fun q q1 q2 => (kc_gf (by omega)).trans ((f5 q q1 q2).trans ((kc_gf (by omega)).trans (hf q q1 q2))))
  obtain ⟨_, ⟨c0, vc0, kf0, tf0, ef0, vf0, b1, b2, b3, b4, b5⟩, _⟩ := hsc
  refine x_al c_Ch_readFrom_0 rfl ?_
  refine x_ci c_Ch_readFrom_1 ?_
  refine x_put [_, _, _, _, _, _] c_Ch_readFrom_2 (by first | rfl | exact b1 | exact kc_gs | exact hr.1) ⟨Nat.le_of_ble_eq_true rfl, rfl, rfl⟩ rfl ?_
  refine x_al c_Ch_readFrom_5 rfl ?_
  refine x_ci c_Ch_readFrom_6 ?_
  refine x_put [_, _, _, _, _, _] c_Ch_readFrom_7 (by first | rfl | exact b1 | exact kc_gs | exact hr.1) ⟨Nat.le_of_ble_eq_true rfl, rfl, rfl⟩ rfl ?_
  refine x_al c_Ch_readFrom_10 rfl ?_
  refine x_ci c_Ch_readFrom_11 ?_
  refine x_cv1z _ c_Ch_readFrom_13 (by first | rfl | exact b1 | exact kc_gs | exact hr.1) (Nat.le_of_ble_eq_true rfl) (y_Rd_enter (d + 3) (r := r) (by exact ⟨hr.1, hr.2⟩) h htb (tag := nI 48)) ?_
  rintro _ μ2 ⟨rfl, hr2, f2⟩
  show kc_X _ _ _ _ _ [.int (nI r.2.1)] _ _
  refine x_is [_, _, _, _, _, _] c_Ch_readFrom_16 rfl ?_
  refine x_ci c_Ch_readFrom_17 ?_
  refine x_is [_, _, _, _, _, _] c_Ch_readFrom_18 rfl ?_
  exact loop 12 [] _ μ2 kf0 tf0 ef0 vf0 _ rfl (Nat.zero_le _) (Nat.zero_le _) (Prod.ext rfl rfl) hr2 h1.1 rfl ⟨(f2 122 (by decide)).trans kc_gs, (f2 123 (by decide)).trans b2, (f2 124 (by decide)).trans b3, (f2 125 (by decide)).trans b4, (f2 126 (by decide)).trans b5⟩ trivial (fun q q1 q2 => (f2 q q1).trans ((kc_gf (by omega)).trans (kc_gf (by omega))))
