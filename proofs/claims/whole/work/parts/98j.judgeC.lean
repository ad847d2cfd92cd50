/-! the class judges -/
def JgO (D h : Nat) : Prop := ∀ (μ : kc_M) (c : Nat) (kf tf : Nat → Int32) (vf : Nat → Int64) (ef : Nat → Int32) (a x y : Nat) (P : List tv) (i dp t : Nat) (p : Int32 × Int64) (F : Fo), fiA μ c kf tf vf ef → c ≤ 20 → pa_at μ a x y 6 P → i + 1 + fsz F ≤ c → (kf i = nI t ∧ (lft t = true → tf i = p.1 ∧ (t ≠ 135 → vf i = p.2)) ∧ ef i = nI (i + 1 + fsz F)) → enC kf tf vf ef F (i + 1) → (t < 256 ∧ ((lft t = true ∧ F = .leaf) ∨ (lft t = false ∧ 160 ≤ t ∧ t ≤ 162 ∧ ¬ (t = 162 ∧ fln F ≠ 1)))) → flW F → fht F ≤ h → dp + fht F ≤ 6 → kc_Y kt kC D j_Fi_judge [.ref 128, .int (nI i), .ref a, .int (nI dp)] μ (fun w μ' => w = some (.int (nI (ev1 P t p (evF P F)))) ∧ μ' = μ)
theorem fht_0 {F : Fo} (h : fht F = 0) : F = .leaf := by
  cases F with
  | leaf => rfl
  | inner n t p F R => exfalso; have : max (1 + fht F) (fht R) = 0 := h; omega
theorem fln_1 {F : Fo} (h : fln F = 1) : ∃ n t p G, F = .inner n t p G .leaf := by
  cases F with
  | leaf => cases h
  | inner n t p G R =>
    have h : 1 + fln R = 1 := h
    cases R with
    | leaf => exact ⟨n, t, p, G, rfl⟩
    | inner n' t' p' G' R' => exfalso; have : fln (.inner n' t' p' G' R' : Fo) = 1 + fln R' := rfl; omega
set_option maxRecDepth 100000 in
set_option maxHeartbeats 4000000 in
theorem y_Fi_judgeInner160 (D : Nat) {μ : kc_M} {c : Nat} {kf tf : Nat → Int32} {vf : Nat → Int64} {ef : Nat → Int32} {a x y : Nat} {P : List tv} {i dp t : Nat} {p : Int32 × Int64} {F : Fo} (hJ : ∀ h, fht F = h + 1 → JgO D h) (hA : fiA μ c kf tf vf ef) (hc : c ≤ 20) (hp : pa_at μ a x y 6 P) (hi : i + 1 + fsz F ≤ c) (hN : (kf i = nI t ∧ (lft t = true → tf i = p.1 ∧ (t ≠ 135 → vf i = p.2)) ∧ ef i = nI (i + 1 + fsz F))) (hen : enC kf tf vf ef F (i + 1)) (hW : flW F) (ht : t = 160) (hdp : dp + fht F ≤ 6) : kc_Y kt kC (D + 1) j_Fi_judgeInner [.ref 128, .int (nI i), .ref a, .int (nI dp)] μ (fun w μ' => w = some (.int (nI ((evF P F).foldl min 2))) ∧ μ' = μ) := by
  refine ⟨Nat.le_of_ble_eq_true rfl, ?_⟩
  have loop : ∀ (R : Fo) (j res k : Nat) (jk : Option Value), enC kf tf vf ef R j → flW R → fht R ≤ fht F → j + fsz R = i + 1 + fsz F → k + (i + 1) ≤ j → res ≤ 2 → (evF P R).foldl min res = (evF P F).foldl min 2 → kc_X (kC j_Fi_judgeInner) (kc_Y kt kC D) (fun w μ' => w = some (.int (nI ((evF P F).foldl min 2))) ∧ μ' = μ) 39 [some (.ref 128), some (.int (nI i)), some (.ref a), some (.int (nI dp)), some (.int (nI 1)), some (.int (nI res)), some (.int (nI j)), some (.int (nI k)), jk] [] μ (0, 0) := by
    intro R
    induction R with
    | leaf =>
      intro j res k jk hen hW hh hj hk hres hR
      have hj : j = i + 1 + fsz F := hj
      have hR : res = (evF P F).foldl min 2 := hR
      refine x_il c_Fi_judgeInner_39 rfl ?_
      refine x_ci c_Fi_judgeInner_41 ?_
      refine x_cmN_ge c_Fi_judgeInner_43 (by omega) (by omega) (fun h => (by exfalso; omega)) (fun _ => ?_)
      refine x_il c_Fi_judgeInner_46 rfl ?_
      refine x_al c_Fi_judgeInner_48 rfl ?_
      refine x_get c_Fi_judgeInner_49 (by first | rfl | exact hA.1 | exact hA.2.1 | exact hA.2.2.2.2) rfl ?_
      refine x_il c_Fi_judgeInner_52 rfl ?_
      refine x_ialdE c_Fi_judgeInner_53 (by first | rfl | exact hA.1 | exact hA.2.1 | exact hA.2.2.2.2) (by omega) (by omega) (hN.2.2) ?_
      refine x_cmN_ge c_Fi_judgeInner_54 (by omega) (by omega) (fun _ => ?_) (fun h => (by exfalso; omega))
      refine x_il c_Fi_judgeInner_108 rfl ?_
      refine x_ri c_Fi_judgeInner_110 ?_
      exact ⟨by rw [hR], rfl⟩
    | inner n t' p' G R' ihG ih =>
      intro j res k jk hen hW hh hj hk hres hR
      rw [fsz_i] at hj
      have hh' : max (1 + fht G) (fht R') ≤ fht F := hh
      obtain ⟨v1, hv1⟩ : ∃ v1, v1 = ev1 P t' p' (evF P G) := ⟨_, rfl⟩
      have hle : v1 ≤ 2 := by rw [hv1]; exact ev1_le P t' p' _ (evF_le P G)
      have hR : (evF P R').foldl min (min res v1) = (evF P F).foldl min 2 := by rw [hv1]; exact hR
      have hjd := hJ (fht F - 1) (by omega) μ c kf tf vf ef a x y P j (dp + 1) t' p' G hA hc hp (by omega) hen.1 hen.2.1 hW.1 hW.2.1 (by omega) (by omega)
      rw [← hv1] at hjd
      refine x_il c_Fi_judgeInner_39 rfl ?_
      refine x_ci c_Fi_judgeInner_41 ?_
      refine x_cmN_ge c_Fi_judgeInner_43 (by omega) (by omega) (fun h => (by exfalso; omega)) (fun _ => ?_)
      refine x_il c_Fi_judgeInner_46 rfl ?_
      refine x_al c_Fi_judgeInner_48 rfl ?_
      refine x_get c_Fi_judgeInner_49 (by first | rfl | exact hA.1 | exact hA.2.1 | exact hA.2.2.2.2) rfl ?_
      refine x_il c_Fi_judgeInner_52 rfl ?_
      refine x_ialdE c_Fi_judgeInner_53 (by first | rfl | exact hA.1 | exact hA.2.1 | exact hA.2.2.2.2) (by omega) (by omega) (hN.2.2) ?_
      refine x_cmN_ge c_Fi_judgeInner_54 (by omega) (by omega) (fun h => (by exfalso; omega)) (fun _ => ?_)
      refine x_al c_Fi_judgeInner_57 rfl ?_
      refine x_il c_Fi_judgeInner_58 rfl ?_
      refine x_al c_Fi_judgeInner_60 rfl ?_
      refine x_il c_Fi_judgeInner_61 rfl ?_
      refine x_ci c_Fi_judgeInner_62 ?_
      first | refine x_iaddN c_Fi_judgeInner_63 ?_ | refine x_iadd c_Fi_judgeInner_63 ?_
      refine x_cv3z _ c_Fi_judgeInner_64 (by first | rfl | exact hA.1 | exact hA.2.1 | exact hA.2.2.2.2) (Nat.le_of_ble_eq_true rfl) (hjd) ?_
      rintro _ μx ⟨rfl, hμx⟩
      have hμx := hμx.symm
      subst hμx
      show kc_X _ _ _ _ _ [.int (nI v1)] _ _
      refine x_is [_, _, _, _, _, _, _, _, _] c_Fi_judgeInner_67 rfl ?_
      refine x_il c_Fi_judgeInner_69 rfl ?_
      refine x_if_eq c_Fi_judgeInner_71 (fun h => absurd h (by decide)) (fun _ => ?_)
      refine x_il c_Fi_judgeInner_74 rfl ?_
      refine x_il c_Fi_judgeInner_76 rfl ?_
      refine x_min c_Fi_judgeInner_78 (Nat.le_of_ble_eq_true rfl) ?_
      show kc_X _ _ _ _ _ [.int (if nI v1 < nI res then nI v1 else nI res)] _ _
      rw [nI_min (by omega) (by omega)]
      refine x_goto c_Fi_judgeInner_81 ?_
      refine x_is [_, _, _, _, _, _, _, _, _] c_Fi_judgeInner_91 rfl ?_
      refine x_al c_Fi_judgeInner_93 rfl ?_
      refine x_get c_Fi_judgeInner_94 (by first | rfl | exact hA.1 | exact hA.2.1 | exact hA.2.2.2.2) rfl ?_
      refine x_il c_Fi_judgeInner_97 rfl ?_
      refine x_ialdE c_Fi_judgeInner_99 (by first | rfl | exact hA.1 | exact hA.2.1 | exact hA.2.2.2.2) (by omega) (by omega) (hen.1.2.2) ?_
      refine x_is [_, _, _, _, _, _, _, _, _] c_Fi_judgeInner_100 rfl ?_
      first | refine x_incN [_, _, _, _, _, _, _, _, _] c_Fi_judgeInner_102 rfl rfl ?_ | refine x_inc [_, _, _, _, _, _, _, _, _] c_Fi_judgeInner_102 rfl rfl ?_
      refine x_goto c_Fi_judgeInner_105 ?_
      exact ih _ _ (k + 1) _ hen.2.2 hW.2.2 (by omega) (by omega) (by omega) (by omega) hR
  refine x_al c_Fi_judgeInner_0 rfl ?_
  refine x_get c_Fi_judgeInner_1 (by first | rfl | exact hA.1 | exact hA.2.1 | exact hA.2.2.2.2) rfl ?_
  refine x_il c_Fi_judgeInner_4 rfl ?_
  refine x_ialdE c_Fi_judgeInner_5 (by first | rfl | exact hA.1 | exact hA.2.1 | exact hA.2.2.2.2) (by omega) (by omega) (hN.1) ?_
  refine x_ci c_Fi_judgeInner_6 ?_
  refine x_cmN_ne c_Fi_judgeInner_9 (by omega) (by omega) (fun h => (by exfalso; omega)) (fun _ => ?_)
  refine x_ci c_Fi_judgeInner_12 ?_
  refine x_goto c_Fi_judgeInner_13 ?_
  refine x_is [_, _, _, _, _, _, _, _, _] c_Fi_judgeInner_17 rfl ?_
  refine x_il c_Fi_judgeInner_19 rfl ?_
  refine x_if_eq c_Fi_judgeInner_21 (fun h => absurd h (by decide)) (fun _ => ?_)
  refine x_ci c_Fi_judgeInner_24 ?_
  refine x_goto c_Fi_judgeInner_25 ?_
  refine x_is [_, _, _, _, _, _, _, _, _] c_Fi_judgeInner_29 rfl ?_
  refine x_il c_Fi_judgeInner_31 rfl ?_
  refine x_ci c_Fi_judgeInner_32 ?_
  first | refine x_iaddN c_Fi_judgeInner_33 ?_ | refine x_iadd c_Fi_judgeInner_33 ?_
  refine x_is [_, _, _, _, _, _, _, _, _] c_Fi_judgeInner_34 rfl ?_
  refine x_ci c_Fi_judgeInner_36 ?_
  refine x_is [_, _, _, _, _, _, _, _, _] c_Fi_judgeInner_37 rfl ?_
  exact loop F (i + 1) 2 0 _ hen hW (Nat.le_refl _) rfl (by omega) (by omega) rfl
set_option maxRecDepth 100000 in
set_option maxHeartbeats 4000000 in
theorem y_Fi_judgeInner161 (D : Nat) {μ : kc_M} {c : Nat} {kf tf : Nat → Int32} {vf : Nat → Int64} {ef : Nat → Int32} {a x y : Nat} {P : List tv} {i dp t : Nat} {p : Int32 × Int64} {F : Fo} (hJ : ∀ h, fht F = h + 1 → JgO D h) (hA : fiA μ c kf tf vf ef) (hc : c ≤ 20) (hp : pa_at μ a x y 6 P) (hi : i + 1 + fsz F ≤ c) (hN : (kf i = nI t ∧ (lft t = true → tf i = p.1 ∧ (t ≠ 135 → vf i = p.2)) ∧ ef i = nI (i + 1 + fsz F))) (hen : enC kf tf vf ef F (i + 1)) (hW : flW F) (ht : t = 161) (hdp : dp + fht F ≤ 6) : kc_Y kt kC (D + 1) j_Fi_judgeInner [.ref 128, .int (nI i), .ref a, .int (nI dp)] μ (fun w μ' => w = some (.int (nI ((evF P F).foldl max 0))) ∧ μ' = μ) := by
  refine ⟨Nat.le_of_ble_eq_true rfl, ?_⟩
  have loop : ∀ (R : Fo) (j res k : Nat) (jk : Option Value), enC kf tf vf ef R j → flW R → fht R ≤ fht F → j + fsz R = i + 1 + fsz F → k + (i + 1) ≤ j → res ≤ 2 → (evF P R).foldl max res = (evF P F).foldl max 0 → kc_X (kC j_Fi_judgeInner) (kc_Y kt kC D) (fun w μ' => w = some (.int (nI ((evF P F).foldl max 0))) ∧ μ' = μ) 39 [some (.ref 128), some (.int (nI i)), some (.ref a), some (.int (nI dp)), some (.int (nI 0)), some (.int (nI res)), some (.int (nI j)), some (.int (nI k)), jk] [] μ (0, 0) := by
    intro R
    induction R with
    | leaf =>
      intro j res k jk hen hW hh hj hk hres hR
      have hj : j = i + 1 + fsz F := hj
      have hR : res = (evF P F).foldl max 0 := hR
      refine x_il c_Fi_judgeInner_39 rfl ?_
      refine x_ci c_Fi_judgeInner_41 ?_
      refine x_cmN_ge c_Fi_judgeInner_43 (by omega) (by omega) (fun h => (by exfalso; omega)) (fun _ => ?_)
      refine x_il c_Fi_judgeInner_46 rfl ?_
      refine x_al c_Fi_judgeInner_48 rfl ?_
      refine x_get c_Fi_judgeInner_49 (by first | rfl | exact hA.1 | exact hA.2.1 | exact hA.2.2.2.2) rfl ?_
      refine x_il c_Fi_judgeInner_52 rfl ?_
      refine x_ialdE c_Fi_judgeInner_53 (by first | rfl | exact hA.1 | exact hA.2.1 | exact hA.2.2.2.2) (by omega) (by omega) (hN.2.2) ?_
      refine x_cmN_ge c_Fi_judgeInner_54 (by omega) (by omega) (fun _ => ?_) (fun h => (by exfalso; omega))
      refine x_il c_Fi_judgeInner_108 rfl ?_
      refine x_ri c_Fi_judgeInner_110 ?_
      exact ⟨by rw [hR], rfl⟩
    | inner n t' p' G R' ihG ih =>
      intro j res k jk hen hW hh hj hk hres hR
      rw [fsz_i] at hj
      have hh' : max (1 + fht G) (fht R') ≤ fht F := hh
      obtain ⟨v1, hv1⟩ : ∃ v1, v1 = ev1 P t' p' (evF P G) := ⟨_, rfl⟩
      have hle : v1 ≤ 2 := by rw [hv1]; exact ev1_le P t' p' _ (evF_le P G)
      have hR : (evF P R').foldl max (max res v1) = (evF P F).foldl max 0 := by rw [hv1]; exact hR
      have hjd := hJ (fht F - 1) (by omega) μ c kf tf vf ef a x y P j (dp + 1) t' p' G hA hc hp (by omega) hen.1 hen.2.1 hW.1 hW.2.1 (by omega) (by omega)
      rw [← hv1] at hjd
      refine x_il c_Fi_judgeInner_39 rfl ?_
      refine x_ci c_Fi_judgeInner_41 ?_
      refine x_cmN_ge c_Fi_judgeInner_43 (by omega) (by omega) (fun h => (by exfalso; omega)) (fun _ => ?_)
      refine x_il c_Fi_judgeInner_46 rfl ?_
      refine x_al c_Fi_judgeInner_48 rfl ?_
      refine x_get c_Fi_judgeInner_49 (by first | rfl | exact hA.1 | exact hA.2.1 | exact hA.2.2.2.2) rfl ?_
      refine x_il c_Fi_judgeInner_52 rfl ?_
      refine x_ialdE c_Fi_judgeInner_53 (by first | rfl | exact hA.1 | exact hA.2.1 | exact hA.2.2.2.2) (by omega) (by omega) (hN.2.2) ?_
      refine x_cmN_ge c_Fi_judgeInner_54 (by omega) (by omega) (fun h => (by exfalso; omega)) (fun _ => ?_)
      refine x_al c_Fi_judgeInner_57 rfl ?_
      refine x_il c_Fi_judgeInner_58 rfl ?_
      refine x_al c_Fi_judgeInner_60 rfl ?_
      refine x_il c_Fi_judgeInner_61 rfl ?_
      refine x_ci c_Fi_judgeInner_62 ?_
      first | refine x_iaddN c_Fi_judgeInner_63 ?_ | refine x_iadd c_Fi_judgeInner_63 ?_
      refine x_cv3z _ c_Fi_judgeInner_64 (by first | rfl | exact hA.1 | exact hA.2.1 | exact hA.2.2.2.2) (Nat.le_of_ble_eq_true rfl) (hjd) ?_
      rintro _ μx ⟨rfl, hμx⟩
      have hμx := hμx.symm
      subst hμx
      show kc_X _ _ _ _ _ [.int (nI v1)] _ _
      refine x_is [_, _, _, _, _, _, _, _, _] c_Fi_judgeInner_67 rfl ?_
      refine x_il c_Fi_judgeInner_69 rfl ?_
      refine x_if_eq c_Fi_judgeInner_71 (fun _ => ?_) (fun h => absurd (by decide) h)
      refine x_il c_Fi_judgeInner_84 rfl ?_
      refine x_il c_Fi_judgeInner_86 rfl ?_
      refine x_max c_Fi_judgeInner_88 (Nat.le_of_ble_eq_true rfl) ?_
      show kc_X _ _ _ _ _ [.int (if nI res < nI v1 then nI v1 else nI res)] _ _
      rw [nI_max (by omega) (by omega)]
      refine x_is [_, _, _, _, _, _, _, _, _] c_Fi_judgeInner_91 rfl ?_
      refine x_al c_Fi_judgeInner_93 rfl ?_
      refine x_get c_Fi_judgeInner_94 (by first | rfl | exact hA.1 | exact hA.2.1 | exact hA.2.2.2.2) rfl ?_
      refine x_il c_Fi_judgeInner_97 rfl ?_
      refine x_ialdE c_Fi_judgeInner_99 (by first | rfl | exact hA.1 | exact hA.2.1 | exact hA.2.2.2.2) (by omega) (by omega) (hen.1.2.2) ?_
      refine x_is [_, _, _, _, _, _, _, _, _] c_Fi_judgeInner_100 rfl ?_
      first | refine x_incN [_, _, _, _, _, _, _, _, _] c_Fi_judgeInner_102 rfl rfl ?_ | refine x_inc [_, _, _, _, _, _, _, _, _] c_Fi_judgeInner_102 rfl rfl ?_
      refine x_goto c_Fi_judgeInner_105 ?_
      exact ih _ _ (k + 1) _ hen.2.2 hW.2.2 (by omega) (by omega) (by omega) (by omega) hR
  refine x_al c_Fi_judgeInner_0 rfl ?_
  refine x_get c_Fi_judgeInner_1 (by first | rfl | exact hA.1 | exact hA.2.1 | exact hA.2.2.2.2) rfl ?_
  refine x_il c_Fi_judgeInner_4 rfl ?_
  refine x_ialdE c_Fi_judgeInner_5 (by first | rfl | exact hA.1 | exact hA.2.1 | exact hA.2.2.2.2) (by omega) (by omega) (hN.1) ?_
  refine x_ci c_Fi_judgeInner_6 ?_
  refine x_cmN_ne c_Fi_judgeInner_9 (by omega) (by omega) (fun _ => ?_) (fun h => (by exfalso; omega))
  refine x_ci c_Fi_judgeInner_16 ?_
  refine x_is [_, _, _, _, _, _, _, _, _] c_Fi_judgeInner_17 rfl ?_
  refine x_il c_Fi_judgeInner_19 rfl ?_
  refine x_if_eq c_Fi_judgeInner_21 (fun _ => ?_) (fun h => absurd (by decide) h)
  refine x_ci c_Fi_judgeInner_28 ?_
  refine x_is [_, _, _, _, _, _, _, _, _] c_Fi_judgeInner_29 rfl ?_
  refine x_il c_Fi_judgeInner_31 rfl ?_
  refine x_ci c_Fi_judgeInner_32 ?_
  first | refine x_iaddN c_Fi_judgeInner_33 ?_ | refine x_iadd c_Fi_judgeInner_33 ?_
  refine x_is [_, _, _, _, _, _, _, _, _] c_Fi_judgeInner_34 rfl ?_
  refine x_ci c_Fi_judgeInner_36 ?_
  refine x_is [_, _, _, _, _, _, _, _, _] c_Fi_judgeInner_37 rfl ?_
  exact loop F (i + 1) 0 0 _ hen hW (Nat.le_refl _) rfl (by omega) (by omega) rfl
set_option maxRecDepth 100000 in
set_option maxHeartbeats 4000000 in
theorem y_Fi_judge : ∀ h d, JgO (d + 3 + 2 * h) h := by
  intro h
  induction h with
  | zero =>
    intro d μ c kf tf vf ef a x y P i dp t p F hA hc hp hi hN hen hW hWF hht hdp
    have hF0 := fht_0 (Nat.le_zero.mp hht)
    subst hF0
    have hi' : i + 1 ≤ c := hi
    obtain ⟨h256, hcase⟩ := hW
    refine ⟨Nat.le_of_ble_eq_true rfl, ?_⟩
    rcases hcase with ⟨hlf, hF⟩ | ⟨hlf, h1, h2, hnot⟩
    · have ht4 : t = 163 ∨ t = 165 ∨ t = 166 ∨ t = 135 := by unfold lft at hlf; simp only [Bool.or_eq_true, decide_eq_true_eq] at hlf; omega
      have hne : ∀ k, k < 2 ^ 31 → t ≠ k → ¬ nI t = nI k := fun k hk hh q => hh ((nI_eq (by omega) hk).mp q)
      have hev : ev1 P t p (evF P .leaf) = lv1 P t p.1 p.2 := by unfold ev1; rw [if_neg (by omega), if_neg (by omega), if_neg (by omega)]
      refine x_il c_Fi_judge_0 rfl ?_
      refine x_al c_Fi_judge_1 rfl ?_
      refine x_get c_Fi_judge_2 (by first | rfl | exact hA.1 | exact hA.2.1 | exact hA.2.2.2.2) rfl ?_
      refine x_cmN_ge c_Fi_judge_5 (by omega) (by omega) (fun h => (by exfalso; omega)) (fun _ => ?_)
      refine x_il c_Fi_judge_8 rfl ?_
      refine x_ci c_Fi_judge_9 ?_
      refine x_cmN_le c_Fi_judge_11 (by omega) (by omega) (fun _ => ?_) (fun h => (by exfalso; omega))
      refine x_al c_Fi_judge_16 rfl ?_
      refine x_get c_Fi_judge_17 (by first | rfl | exact hA.1 | exact hA.2.1 | exact hA.2.2.2.2) rfl ?_
      refine x_il c_Fi_judge_20 rfl ?_
      refine x_ialdE c_Fi_judge_21 (by first | rfl | exact hA.1 | exact hA.2.1 | exact hA.2.2.2.2) (by omega) (by omega) (hN.1) ?_
      refine x_sw 70 c_Fi_judge_22 ((if_neg (hne 160 (by decide) (by omega))).trans ((if_neg (hne 161 (by decide) (by omega))).trans (if_neg (hne 162 (by decide) (by omega))))) ?_
      refine x_al c_Fi_judge_70 rfl ?_
      refine x_il c_Fi_judge_71 rfl ?_
      refine x_al c_Fi_judge_72 rfl ?_
      refine x_cv2z _ c_Fi_judge_73 (by first | rfl | exact hA.1 | exact hA.2.1 | exact hA.2.2.2.2) (Nat.le_of_ble_eq_true rfl) (y_Fi_judgePair d hA hp (by omega) (i := i) (t := t) (by omega) hN.1 ht4 (hN.2.1 hlf).1 (hN.2.1 hlf).2) ?_
      rintro _ μx ⟨rfl, hμx⟩
      have hμx := hμx.symm
      subst hμx
      show kc_X _ _ _ _ _ [.int (nI (lv1 P t p.1 p.2))] _ _
      refine x_ri c_Fi_judge_76 ?_
      exact ⟨by rw [hev], rfl⟩
    · rcases (by omega : t = 160 ∨ t = 161 ∨ t = 162) with rfl | rfl | rfl
      · skip
        refine x_il c_Fi_judge_0 rfl ?_
        refine x_al c_Fi_judge_1 rfl ?_
        refine x_get c_Fi_judge_2 (by first | rfl | exact hA.1 | exact hA.2.1 | exact hA.2.2.2.2) rfl ?_
        refine x_cmN_ge c_Fi_judge_5 (by omega) (by omega) (fun h => (by exfalso; omega)) (fun _ => ?_)
        refine x_il c_Fi_judge_8 rfl ?_
        refine x_ci c_Fi_judge_9 ?_
        refine x_cmN_le c_Fi_judge_11 (by omega) (by omega) (fun _ => ?_) (fun h => (by exfalso; omega))
        refine x_al c_Fi_judge_16 rfl ?_
        refine x_get c_Fi_judge_17 (by first | rfl | exact hA.1 | exact hA.2.1 | exact hA.2.2.2.2) rfl ?_
        refine x_il c_Fi_judge_20 rfl ?_
        refine x_ialdE c_Fi_judge_21 (by first | rfl | exact hA.1 | exact hA.2.1 | exact hA.2.2.2.2) (by omega) (by omega) (hN.1) ?_
        refine x_sw 48 c_Fi_judge_22 (rfl) ?_
        refine x_al c_Fi_judge_48 rfl ?_
        refine x_il c_Fi_judge_49 rfl ?_
        refine x_al c_Fi_judge_50 rfl ?_
        refine x_il c_Fi_judge_51 rfl ?_
        refine x_cv3z _ c_Fi_judge_52 (by first | rfl | exact hA.1 | exact hA.2.1 | exact hA.2.2.2.2) (Nat.le_of_ble_eq_true rfl) (y_Fi_judgeInner160 (d + 1) (p := p) (fun h' q => absurd q (by show ¬ 0 = h' + 1; omega)) hA hc hp hi hN hen hWF rfl (by show dp + 0 ≤ 6; omega)) ?_
        rintro _ μx ⟨rfl, hμx⟩
        have hμx := hμx.symm
        subst hμx
        show kc_X _ _ _ _ _ [.int (nI ((evF P .leaf).foldl min 2))] _ _
        refine x_ri c_Fi_judge_55 ?_
        exact ⟨rfl, rfl⟩
      · skip
        refine x_il c_Fi_judge_0 rfl ?_
        refine x_al c_Fi_judge_1 rfl ?_
        refine x_get c_Fi_judge_2 (by first | rfl | exact hA.1 | exact hA.2.1 | exact hA.2.2.2.2) rfl ?_
        refine x_cmN_ge c_Fi_judge_5 (by omega) (by omega) (fun h => (by exfalso; omega)) (fun _ => ?_)
        refine x_il c_Fi_judge_8 rfl ?_
        refine x_ci c_Fi_judge_9 ?_
        refine x_cmN_le c_Fi_judge_11 (by omega) (by omega) (fun _ => ?_) (fun h => (by exfalso; omega))
        refine x_al c_Fi_judge_16 rfl ?_
        refine x_get c_Fi_judge_17 (by first | rfl | exact hA.1 | exact hA.2.1 | exact hA.2.2.2.2) rfl ?_
        refine x_il c_Fi_judge_20 rfl ?_
        refine x_ialdE c_Fi_judge_21 (by first | rfl | exact hA.1 | exact hA.2.1 | exact hA.2.2.2.2) (by omega) (by omega) (hN.1) ?_
        refine x_sw 48 c_Fi_judge_22 (rfl) ?_
        refine x_al c_Fi_judge_48 rfl ?_
        refine x_il c_Fi_judge_49 rfl ?_
        refine x_al c_Fi_judge_50 rfl ?_
        refine x_il c_Fi_judge_51 rfl ?_
        refine x_cv3z _ c_Fi_judge_52 (by first | rfl | exact hA.1 | exact hA.2.1 | exact hA.2.2.2.2) (Nat.le_of_ble_eq_true rfl) (y_Fi_judgeInner161 (d + 1) (p := p) (fun h' q => absurd q (by show ¬ 0 = h' + 1; omega)) hA hc hp hi hN hen hWF rfl (by show dp + 0 ≤ 6; omega)) ?_
        rintro _ μx ⟨rfl, hμx⟩
        have hμx := hμx.symm
        subst hμx
        show kc_X _ _ _ _ _ [.int (nI ((evF P .leaf).foldl max 0))] _ _
        refine x_ri c_Fi_judge_55 ?_
        exact ⟨rfl, rfl⟩
      · have hl1 : fln .leaf = 1 := Classical.not_not.mp (fun q => hnot ⟨rfl, q⟩)
        cases hl1
  | succ h ih =>
    intro d μ c kf tf vf ef a x y P i dp t p F hA hc hp hi hN hen hW hWF hht hdp
    obtain ⟨h256, hcase⟩ := hW
    obtain ⟨E, hE⟩ : ∃ E, E = d + 2 * (h + 1) := ⟨_, rfl⟩
    rw [show d + 3 + 2 * (h + 1) = E + 2 + 1 by omega]
    have HJ : ∀ h', fht F = h' + 1 → JgO (E + 1) h' := by
      intro h' q μ c kf tf vf ef a x y P i dp t p F hA hc hp hi hN hen hW hWF hht' hdp'
      have := ih d μ c kf tf vf ef a x y P i dp t p F hA hc hp hi hN hen hW hWF (by omega) hdp'
      rw [show d + 3 + 2 * h = E + 1 by omega] at this
      exact this
    refine ⟨Nat.le_of_ble_eq_true rfl, ?_⟩
    rcases hcase with ⟨hlf, hF⟩ | ⟨hlf, h1, h2, hnot⟩
    · have ht4 : t = 163 ∨ t = 165 ∨ t = 166 ∨ t = 135 := by unfold lft at hlf; simp only [Bool.or_eq_true, decide_eq_true_eq] at hlf; omega
      have hne : ∀ k, k < 2 ^ 31 → t ≠ k → ¬ nI t = nI k := fun k hk hh q => hh ((nI_eq (by omega) hk).mp q)
      have hev : ev1 P t p (evF P F) = lv1 P t p.1 p.2 := by unfold ev1; rw [if_neg (by omega), if_neg (by omega), if_neg (by omega)]
      refine x_il c_Fi_judge_0 rfl ?_
      refine x_al c_Fi_judge_1 rfl ?_
      refine x_get c_Fi_judge_2 (by first | rfl | exact hA.1 | exact hA.2.1 | exact hA.2.2.2.2) rfl ?_
      refine x_cmN_ge c_Fi_judge_5 (by omega) (by omega) (fun h => (by exfalso; omega)) (fun _ => ?_)
      refine x_il c_Fi_judge_8 rfl ?_
      refine x_ci c_Fi_judge_9 ?_
      refine x_cmN_le c_Fi_judge_11 (by omega) (by omega) (fun _ => ?_) (fun h => (by exfalso; omega))
      refine x_al c_Fi_judge_16 rfl ?_
      refine x_get c_Fi_judge_17 (by first | rfl | exact hA.1 | exact hA.2.1 | exact hA.2.2.2.2) rfl ?_
      refine x_il c_Fi_judge_20 rfl ?_
      refine x_ialdE c_Fi_judge_21 (by first | rfl | exact hA.1 | exact hA.2.1 | exact hA.2.2.2.2) (by omega) (by omega) (hN.1) ?_
      refine x_sw 70 c_Fi_judge_22 ((if_neg (hne 160 (by decide) (by omega))).trans ((if_neg (hne 161 (by decide) (by omega))).trans (if_neg (hne 162 (by decide) (by omega))))) ?_
      refine x_al c_Fi_judge_70 rfl ?_
      refine x_il c_Fi_judge_71 rfl ?_
      refine x_al c_Fi_judge_72 rfl ?_
      refine x_cv2z _ c_Fi_judge_73 (by first | rfl | exact hA.1 | exact hA.2.1 | exact hA.2.2.2.2) (Nat.le_of_ble_eq_true rfl) (y_Fi_judgePair E hA hp (by omega) (i := i) (t := t) (by omega) hN.1 ht4 (hN.2.1 hlf).1 (hN.2.1 hlf).2) ?_
      rintro _ μx ⟨rfl, hμx⟩
      have hμx := hμx.symm
      subst hμx
      show kc_X _ _ _ _ _ [.int (nI (lv1 P t p.1 p.2))] _ _
      refine x_ri c_Fi_judge_76 ?_
      exact ⟨by rw [hev], rfl⟩
    · rcases (by omega : t = 160 ∨ t = 161 ∨ t = 162) with rfl | rfl | rfl
      · skip
        refine x_il c_Fi_judge_0 rfl ?_
        refine x_al c_Fi_judge_1 rfl ?_
        refine x_get c_Fi_judge_2 (by first | rfl | exact hA.1 | exact hA.2.1 | exact hA.2.2.2.2) rfl ?_
        refine x_cmN_ge c_Fi_judge_5 (by omega) (by omega) (fun h => (by exfalso; omega)) (fun _ => ?_)
        refine x_il c_Fi_judge_8 rfl ?_
        refine x_ci c_Fi_judge_9 ?_
        refine x_cmN_le c_Fi_judge_11 (by omega) (by omega) (fun _ => ?_) (fun h => (by exfalso; omega))
        refine x_al c_Fi_judge_16 rfl ?_
        refine x_get c_Fi_judge_17 (by first | rfl | exact hA.1 | exact hA.2.1 | exact hA.2.2.2.2) rfl ?_
        refine x_il c_Fi_judge_20 rfl ?_
        refine x_ialdE c_Fi_judge_21 (by first | rfl | exact hA.1 | exact hA.2.1 | exact hA.2.2.2.2) (by omega) (by omega) (hN.1) ?_
        refine x_sw 48 c_Fi_judge_22 (rfl) ?_
        refine x_al c_Fi_judge_48 rfl ?_
        refine x_il c_Fi_judge_49 rfl ?_
        refine x_al c_Fi_judge_50 rfl ?_
        refine x_il c_Fi_judge_51 rfl ?_
        refine x_cv3z _ c_Fi_judge_52 (by first | rfl | exact hA.1 | exact hA.2.1 | exact hA.2.2.2.2) (Nat.le_of_ble_eq_true rfl) (y_Fi_judgeInner160 (E + 1) (p := p) (fun h' q => HJ h' q) hA hc hp hi hN hen hWF rfl (by omega)) ?_
        rintro _ μx ⟨rfl, hμx⟩
        have hμx := hμx.symm
        subst hμx
        show kc_X _ _ _ _ _ [.int (nI ((evF P F).foldl min 2))] _ _
        refine x_ri c_Fi_judge_55 ?_
        exact ⟨rfl, rfl⟩
      · skip
        refine x_il c_Fi_judge_0 rfl ?_
        refine x_al c_Fi_judge_1 rfl ?_
        refine x_get c_Fi_judge_2 (by first | rfl | exact hA.1 | exact hA.2.1 | exact hA.2.2.2.2) rfl ?_
        refine x_cmN_ge c_Fi_judge_5 (by omega) (by omega) (fun h => (by exfalso; omega)) (fun _ => ?_)
        refine x_il c_Fi_judge_8 rfl ?_
        refine x_ci c_Fi_judge_9 ?_
        refine x_cmN_le c_Fi_judge_11 (by omega) (by omega) (fun _ => ?_) (fun h => (by exfalso; omega))
        refine x_al c_Fi_judge_16 rfl ?_
        refine x_get c_Fi_judge_17 (by first | rfl | exact hA.1 | exact hA.2.1 | exact hA.2.2.2.2) rfl ?_
        refine x_il c_Fi_judge_20 rfl ?_
        refine x_ialdE c_Fi_judge_21 (by first | rfl | exact hA.1 | exact hA.2.1 | exact hA.2.2.2.2) (by omega) (by omega) (hN.1) ?_
        refine x_sw 48 c_Fi_judge_22 (rfl) ?_
        refine x_al c_Fi_judge_48 rfl ?_
        refine x_il c_Fi_judge_49 rfl ?_
        refine x_al c_Fi_judge_50 rfl ?_
        refine x_il c_Fi_judge_51 rfl ?_
        refine x_cv3z _ c_Fi_judge_52 (by first | rfl | exact hA.1 | exact hA.2.1 | exact hA.2.2.2.2) (Nat.le_of_ble_eq_true rfl) (y_Fi_judgeInner161 (E + 1) (p := p) (fun h' q => HJ h' q) hA hc hp hi hN hen hWF rfl (by omega)) ?_
        rintro _ μx ⟨rfl, hμx⟩
        have hμx := hμx.symm
        subst hμx
        show kc_X _ _ _ _ _ [.int (nI ((evF P F).foldl max 0))] _ _
        refine x_ri c_Fi_judge_55 ?_
        exact ⟨rfl, rfl⟩
      · have hl1 : fln F = 1 := Classical.not_not.mp (fun q => hnot ⟨rfl, q⟩)
        obtain ⟨n', t', p', G, rfl⟩ := fln_1 hl1
        obtain ⟨v1, hv1⟩ : ∃ v1, v1 = ev1 P t' p' (evF P G) := ⟨_, rfl⟩
        have hle : v1 ≤ 2 := by rw [hv1]; exact ev1_le P t' p' _ (evF_le P G)
        have hhG : 1 + fht G ≤ h + 1 ∧ dp + (1 + fht G) ≤ 6 := by have h1 : max (1 + fht G) (fht .leaf) ≤ h + 1 := hht; have h2 : dp + max (1 + fht G) (fht .leaf) ≤ 6 := hdp; omega
        rw [fsz_i] at hi
        have hjd := ih (d + 1) μ c kf tf vf ef a x y P (i + 1) (dp + 1) t' p' G hA hc hp (by omega) hen.1 hen.2.1 hWF.1 hWF.2.1 (by omega) (by omega)
        rw [← hv1, show d + 1 + 3 + 2 * h = E + 2 by omega] at hjd
        have hev : ev1 P 162 p (evF P (.inner n' t' p' G .leaf)) = 2 - v1 := by rw [hv1]; rfl
        refine x_il c_Fi_judge_0 rfl ?_
        refine x_al c_Fi_judge_1 rfl ?_
        refine x_get c_Fi_judge_2 (by first | rfl | exact hA.1 | exact hA.2.1 | exact hA.2.2.2.2) rfl ?_
        refine x_cmN_ge c_Fi_judge_5 (by omega) (by omega) (fun h => (by exfalso; omega)) (fun _ => ?_)
        refine x_il c_Fi_judge_8 rfl ?_
        refine x_ci c_Fi_judge_9 ?_
        refine x_cmN_le c_Fi_judge_11 (by omega) (by omega) (fun _ => ?_) (fun h => (by exfalso; omega))
        refine x_al c_Fi_judge_16 rfl ?_
        refine x_get c_Fi_judge_17 (by first | rfl | exact hA.1 | exact hA.2.1 | exact hA.2.2.2.2) rfl ?_
        refine x_il c_Fi_judge_20 rfl ?_
        refine x_ialdE c_Fi_judge_21 (by first | rfl | exact hA.1 | exact hA.2.1 | exact hA.2.2.2.2) (by omega) (by omega) (hN.1) ?_
        refine x_sw 56 c_Fi_judge_22 (rfl) ?_
        refine x_ci c_Fi_judge_56 ?_
        refine x_al c_Fi_judge_57 rfl ?_
        refine x_il c_Fi_judge_58 rfl ?_
        refine x_ci c_Fi_judge_59 ?_
        first | refine x_iaddN c_Fi_judge_60 ?_ | refine x_iadd c_Fi_judge_60 ?_
        refine x_al c_Fi_judge_61 rfl ?_
        refine x_il c_Fi_judge_62 rfl ?_
        refine x_ci c_Fi_judge_63 ?_
        first | refine x_iaddN c_Fi_judge_64 ?_ | refine x_iadd c_Fi_judge_64 ?_
        refine x_cv3z _ c_Fi_judge_65 (by first | rfl | exact hA.1 | exact hA.2.1 | exact hA.2.2.2.2) (Nat.le_of_ble_eq_true rfl) (hjd) ?_
        rintro _ μx ⟨rfl, hμx⟩
        have hμx := hμx.symm
        subst hμx
        show kc_X _ _ _ _ _ [.int (nI v1), .int (nI 2)] _ _
        first | refine x_isubN c_Fi_judge_68 (by omega) ?_ | refine x_isub c_Fi_judge_68 ?_
        refine x_ri c_Fi_judge_69 ?_
        exact ⟨by rw [hev], rfl⟩
