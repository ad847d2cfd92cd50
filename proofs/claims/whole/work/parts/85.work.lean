/-! the reference's work rows -/
def wk (μ : kc_M) (s : Nat → Int32) (l : List tv) : Prop := s 49 = nI l.length ∧ l.length ≤ 32 ∧ ∃ f g, μ.1 159 = some (ce_I 32 f) ∧ μ.1 160 = some (ce_L 32 g) ∧ ho l f g
/-- nothing but the work rows has changed -/
def wkC (μ μ' : kc_M) (s s' : Nat → Int32) (l : List tv) : Prop := μ'.1 136 = some (ce_Md s') ∧ (∀ i, i ≠ 49 → s' i = s i) ∧ (∀ q, q ≠ 136 → q ≠ 159 → q ≠ 160 → μ'.1 q = μ.1 q) ∧ wk μ' s' l
theorem wkC.to {μ μ1 μ2 : kc_M} {s s1 s2 : Nat → Int32} {l l' : List tv} (h1 : wkC μ μ1 s s1 l) (h2 : wkC μ1 μ2 s1 s2 l') : wkC μ μ2 s s2 l' := ⟨h2.1, fun i hi => (h2.2.1 i hi).trans (h1.2.1 i hi), fun q q1 q2 q3 => (h2.2.2.1 q q1 q2 q3).trans (h1.2.2.1 q q1 q2 q3), h2.2.2.2⟩
theorem ho_er {l : List tv} {f : Nat → Int32} {g : Nat → Int64} {i : Nat} (h : ho l f g) (hi : i < l.length) : ho (l.eraseIdx i) (sh 1 i (l.length - 1) f) (sh 1 i (l.length - 1) g) := by
  intro k hk
  rw [List.length_eraseIdx, if_pos hi] at hk
  rw [List.getElem?_eraseIdx]
  by_cases hki : k < i
  · rw [if_pos hki, sh_o (by omega), sh_o (by omega)]
    exact h k (by omega)
  · rw [if_neg hki, sh_i (by omega), sh_i (by omega)]
    exact h (k + 1) (by omega)
set_option maxRecDepth 100000 in
set_option maxHeartbeats 4000000 in
theorem y_Md_workAt (d : Nat) {μ : kc_M} {s : Nat → Int32} {l : List tv} (h0 : μ.1 136 = some (ce_Md s)) (hw : wk μ s l) {ty : Int32} {x : Int64} : kc_Y kt kC (d + 1) j_Md_workAt [.ref 136, .int ty, .long x] μ (fun v μ' => v = some (.int (fi (ty, x) l 0)) ∧ μ' = μ) := by
  refine ⟨Nat.le_of_ble_eq_true rfl, ?_⟩
  obtain ⟨c0, c4, f, g, c1, c2, c3⟩ := hw
  have loop : ∀ m k : Nat, l.length - k = m → k ≤ l.length → fi (ty, x) (l.drop k) k = fi (ty, x) l 0 → kc_X (kC j_Md_workAt) (kc_Y kt kC d) (fun v μ' => v = some (.int (fi (ty, x) l 0)) ∧ μ' = μ) 3 [some (.ref 136), some (.int ty), some (.long x), none, some (.int (nI k))] [] μ (0, 0) := by
    intro m
    induction m with
    | zero =>
      intro k hm hk hf
      rw [List.drop_eq_nil_of_le (by omega)] at hf
      refine x_il c_Md_workAt_3 rfl ?_
      refine x_al c_Md_workAt_5 rfl ?_
      refine x_getE c_Md_workAt_6 (by first | rfl | exact h0 | exact c1 | exact c2) rfl (by first | exact c0 | rfl) ?_
      refine x_cmN_ge c_Md_workAt_9 (by omega) (by omega) (fun _ => ?_) (fun h => (by exfalso; omega))
      refine x_ci c_Md_workAt_44 ?_
      refine x_ri c_Md_workAt_45 ?_
      exact ⟨by rw [← hf]; rfl, rfl⟩
    | succ m ih =>
      intro k hm hk hf
      rw [ho_drop c3 (by omega), fi_cons] at hf
      refine x_il c_Md_workAt_3 rfl ?_
      refine x_al c_Md_workAt_5 rfl ?_
      refine x_getE c_Md_workAt_6 (by first | rfl | exact h0 | exact c1 | exact c2) rfl (by first | exact c0 | rfl) ?_
      refine x_cmN_ge c_Md_workAt_9 (by omega) (by omega) (fun h => (by exfalso; omega)) (fun _ => ?_)
      refine x_al c_Md_workAt_12 rfl ?_
      refine x_get c_Md_workAt_13 (by first | rfl | exact h0 | exact c1 | exact c2) rfl ?_
      refine x_il c_Md_workAt_16 rfl ?_
      refine x_ialdN c_Md_workAt_18 (by first | rfl | exact h0 | exact c1 | exact c2) (by omega) (by omega) ?_
      refine x_il c_Md_workAt_19 rfl ?_
      refine x_cm_ne c_Md_workAt_20 (fun h20 => ?_) (fun h20 => ?_)
      · first | refine x_incN [_, _, _, _, _] c_Md_workAt_38 rfl rfl ?_ | refine x_inc [_, _, _, _, _] c_Md_workAt_38 rfl rfl ?_
        refine x_goto c_Md_workAt_41 ?_
        rw [if_neg (fun q => by first | exact h20 (congrArg Prod.fst q) | exact h32 (congrArg Prod.snd q))] at hf
        exact ih (k + 1) (by omega) (by omega) hf
      · refine x_al c_Md_workAt_23 rfl ?_
        refine x_get c_Md_workAt_24 (by first | rfl | exact h0 | exact c1 | exact c2) rfl ?_
        refine x_il c_Md_workAt_27 rfl ?_
        refine x_laldN c_Md_workAt_29 (by first | rfl | exact h0 | exact c1 | exact c2) (by omega) (by omega) ?_
        refine x_ll c_Md_workAt_30 rfl ?_
        refine x_lcmp c_Md_workAt_31 ?_
        refine x_ifL_ne c_Md_workAt_32 (fun h32 => ?_) (fun h32 => ?_)
        · first | refine x_incN [_, _, _, _, _] c_Md_workAt_38 rfl rfl ?_ | refine x_inc [_, _, _, _, _] c_Md_workAt_38 rfl rfl ?_
          refine x_goto c_Md_workAt_41 ?_
          rw [if_neg (fun q => by first | exact h20 (congrArg Prod.fst q) | exact h32 (congrArg Prod.snd q))] at hf
          exact ih (k + 1) (by omega) (by omega) hf
        · refine x_il c_Md_workAt_35 rfl ?_
          refine x_ri c_Md_workAt_37 ?_
          rw [if_pos (by rw [h20, h32])] at hf
          exact ⟨by rw [← hf], rfl⟩
  refine x_ci c_Md_workAt_0 ?_
  refine x_is [_, _, _, _, _] c_Md_workAt_1 rfl ?_
  exact loop _ 0 rfl (by omega) rfl
set_option maxRecDepth 100000 in
set_option maxHeartbeats 4000000 in
theorem y_Md_work (d : Nat) {μ : kc_M} {s : Nat → Int32} {l : List tv} (h0 : μ.1 136 = some (ce_Md s)) (hw : wk μ s l) (hl : l.length < 32) {ty : Int32} {x : Int64} : kc_Y kt kC (d + 1) j_Md_work [.ref 136, .int ty, .long x] μ (fun v μ' => v = none ∧ ∃ s', wkC μ μ' s s' (l ++ [(ty, x)])) := by
  refine ⟨Nat.le_of_ble_eq_true rfl, ?_⟩
  obtain ⟨c0, c4, f, g, c1, c2, c3⟩ := hw
  refine x_al c_Md_work_0 rfl ?_
  refine x_get c_Md_work_1 (by first | rfl | exact h0 | exact c1 | exact c2) rfl ?_
  refine x_al c_Md_work_4 rfl ?_
  refine x_getE c_Md_work_5 (by first | rfl | exact h0 | exact c1 | exact c2) rfl (by first | exact c0 | rfl) ?_
  refine x_il c_Md_work_8 rfl ?_
  refine x_iastN c_Md_work_9 (by first | rfl | exact h0 | exact c1 | exact c2) (by omega) (by omega) ?_
  refine x_al c_Md_work_10 rfl ?_
  refine x_get c_Md_work_11 (by first | rfl | exact h0 | exact c1 | exact c2) rfl ?_
  refine x_al c_Md_work_14 rfl ?_
  refine x_getE c_Md_work_15 (by first | rfl | exact h0 | exact c1 | exact c2) rfl (by first | exact c0 | rfl) ?_
  refine x_ll c_Md_work_18 rfl ?_
  refine x_lastN c_Md_work_19 (by first | rfl | exact h0 | exact c1 | exact c2) (by omega) (by omega) ?_
  refine x_al c_Md_work_20 rfl ?_
  refine x_dup c_Md_work_21 rfl ?_
  refine x_getE c_Md_work_22 (by first | rfl | exact h0 | exact c1 | exact c2) rfl (by first | exact c0 | rfl) ?_
  refine x_ci c_Md_work_25 ?_
  first | refine x_iaddN c_Md_work_26 ?_ | refine x_iadd c_Md_work_26 ?_
  refine x_putM c_Md_work_27 (by first | rfl | exact h0 | exact c1 | exact c2) ⟨by decide, rfl, rfl⟩ rfl ?_
  refine x_ret c_Md_work_30 ?_
  exact ⟨rfl, _, kc_gs, fun i hi => if_neg hi, fun q q1 q2 q3 => (kc_gf q1).trans ((kc_gf q3).trans (kc_gf q2)), by rw [List.length_append]; exact if_pos rfl, by rw [List.length_append]; show l.length + 1 ≤ 32; omega, _, _, rfl, rfl, ho_app c3 _ _⟩
set_option maxRecDepth 100000 in
set_option maxHeartbeats 4000000 in
theorem y_Md_unwork (d : Nat) {μ : kc_M} {s : Nat → Int32} {l : List tv} (h0 : μ.1 136 = some (ce_Md s)) (hw : wk μ s l) {i : Nat} (hi : i < l.length) : kc_Y kt kC (d + 1) j_Md_unwork [.ref 136, .int (nI i)] μ (fun v μ' => v = none ∧ ∃ s', wkC μ μ' s s' (l.eraseIdx i)) := by
  refine ⟨Nat.le_of_ble_eq_true rfl, ?_⟩
  obtain ⟨c0, c4, f, g, c1, c2, c3⟩ := hw
  have loop : ∀ m k (μ1 : kc_M), l.length - 1 - k = m → i ≤ k → k ≤ l.length - 1 → μ1.1 136 = some (ce_Md (upd s 49 (nI (l.length - 1)))) → μ1.1 159 = some (ce_I 32 (sh 1 i k f)) → μ1.1 160 = some (ce_L 32 (sh 1 i k g)) → (∀ q, q ≠ 136 → q ≠ 159 → q ≠ 160 → μ1.1 q = μ.1 q) → kc_X (kC j_Md_unwork) (kc_Y kt kC d) (fun v μ' => v = none ∧ ∃ s', wkC μ μ' s s' (l.eraseIdx i)) 12 [some (.ref 136), some (.int (nI i)), some (.int (nI k))] [] μ1 (0, 0) := by
    intro m
    induction m with
    | zero =>
      intro k μ1 hm hik hk h0 c1 c2 hf
      have hk : k = l.length - 1 := by omega
      subst hk
      refine x_il c_Md_unwork_12 rfl ?_
      refine x_al c_Md_unwork_13 rfl ?_
      refine x_getE c_Md_unwork_14 (by first | rfl | exact h0 | exact c1 | exact c2) rfl (by first | exact (show (upd s 49 (nI (l.length - 1))) 49 = nI (l.length - 1) from rfl) | rfl) ?_
      refine x_cmN_ge c_Md_unwork_17 (by omega) (by omega) (fun _ => ?_) (fun h => (by exfalso; omega))
      refine x_ret c_Md_unwork_54 ?_
      exact ⟨rfl, _, h0, fun j hj => if_neg hj, hf, by rw [List.length_eraseIdx, if_pos hi]; rfl, by rw [List.length_eraseIdx, if_pos hi]; omega, _, _, c1, c2, ho_er c3 hi⟩
    | succ m ih =>
      intro k μ1 hm hik hk h0 c1 c2 hf
      refine x_il c_Md_unwork_12 rfl ?_
      refine x_al c_Md_unwork_13 rfl ?_
      refine x_getE c_Md_unwork_14 (by first | rfl | exact h0 | exact c1 | exact c2) rfl (by first | exact (show (upd s 49 (nI (l.length - 1))) 49 = nI (l.length - 1) from rfl) | rfl) ?_
      refine x_cmN_ge c_Md_unwork_17 (by omega) (by omega) (fun h => (by exfalso; omega)) (fun _ => ?_)
      refine x_al c_Md_unwork_20 rfl ?_
      refine x_get c_Md_unwork_21 (by first | rfl | exact h0 | exact c1 | exact c2) rfl ?_
      refine x_il c_Md_unwork_24 rfl ?_
      refine x_al c_Md_unwork_25 rfl ?_
      refine x_get c_Md_unwork_26 (by first | rfl | exact h0 | exact c1 | exact c2) rfl ?_
      refine x_il c_Md_unwork_29 rfl ?_
      refine x_ci c_Md_unwork_30 ?_
      first | refine x_iaddN c_Md_unwork_31 ?_ | refine x_iadd c_Md_unwork_31 ?_
      refine x_ialdE c_Md_unwork_32 (by first | rfl | exact h0 | exact c1 | exact c2) (by omega) (by omega) ((sh_o (by omega))) ?_
      refine x_iastN c_Md_unwork_33 (by first | rfl | exact h0 | exact c1 | exact c2) (by omega) (by omega) ?_
      refine x_al c_Md_unwork_34 rfl ?_
      refine x_get c_Md_unwork_35 (by first | rfl | exact h0 | exact c1 | exact c2) rfl ?_
      refine x_il c_Md_unwork_38 rfl ?_
      refine x_al c_Md_unwork_39 rfl ?_
      refine x_get c_Md_unwork_40 (by first | rfl | exact h0 | exact c1 | exact c2) rfl ?_
      refine x_il c_Md_unwork_43 rfl ?_
      refine x_ci c_Md_unwork_44 ?_
      first | refine x_iaddN c_Md_unwork_45 ?_ | refine x_iadd c_Md_unwork_45 ?_
      refine x_laldE c_Md_unwork_46 (by first | rfl | exact h0 | exact c1 | exact c2) (by omega) (by omega) ((sh_o (by omega))) ?_
      refine x_lastN c_Md_unwork_47 (by first | rfl | exact h0 | exact c1 | exact c2) (by omega) (by omega) ?_
      first | refine x_incN [_, _, _] c_Md_unwork_48 rfl rfl ?_ | refine x_inc [_, _, _] c_Md_unwork_48 rfl rfl ?_
      refine x_goto c_Md_unwork_51 ?_
      exact ih (k + 1) _ (by omega) (by omega) (by omega) h0 (congrArg (fun f => some (ce_I 32 f)) (sh_u (w := 1) hik)) (congrArg (fun f => some (ce_L 32 f)) (sh_uL (w := 1) hik)) (fun q q1 q2 q3 => (kc_gf q3).trans ((kc_gf q2).trans (hf q q1 q2 q3)))
  refine x_al c_Md_unwork_0 rfl ?_
  refine x_dup c_Md_unwork_1 rfl ?_
  refine x_getE c_Md_unwork_2 (by first | rfl | exact h0 | exact c1 | exact c2) rfl (by first | exact c0 | rfl) ?_
  refine x_ci c_Md_unwork_5 ?_
  first | refine x_isubN c_Md_unwork_6 (by omega) ?_ | refine x_isub c_Md_unwork_6 ?_
  refine x_putM c_Md_unwork_7 (by first | rfl | exact h0 | exact c1 | exact c2) ⟨by decide, rfl, rfl⟩ rfl ?_
  refine x_il c_Md_unwork_10 rfl ?_
  refine x_is [_, _, _] c_Md_unwork_11 rfl ?_
  exact loop _ i _ rfl (by omega) (by omega) kc_gs (by rw [sh_0]; exact c1) (by rw [sh_0]; exact c2) (fun q q1 q2 q3 => kc_gf q1)
