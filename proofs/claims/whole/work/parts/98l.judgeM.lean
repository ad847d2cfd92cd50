/-! the reference judges: having, judge, matches -/
/-- one of those right inside f has that verdict -/
def hvG (af vr : Nat → Int32) (x y : Int32) (lo hi : Nat) : Prop := ∃ g, lo ≤ g ∧ g < hi ∧ af g = x ∧ vr g = y
/-- the verdicts of a forest's filters, not of those inside them -/
def vgF (P : List tv) (vr : Nat → Int32) : Fo → Nat → Prop
  | .leaf, _ => True
  | .inner _ t p G R, i => vr i = nI (cvt (ev1 P t p (evF P G))) ∧ vgF P vr R (i + 1 + fsz G)
theorem vgF_k {P : List tv} {vr vr' : Nat → Int32} : ∀ (F : Fo) (i : Nat), vgF P vr F i → (∀ j, i ≤ j → j < i + fsz F → vr' j = vr j) → vgF P vr' F i
  | .leaf, _, _, _ => trivial
  | .inner n t p G R, i, h, hk => by
    rw [fsz_i] at hk
    exact ⟨(hk i (by omega) (by omega)).trans h.1, vgF_k R _ h.2 (fun j j1 j2 => hk j (by omega) (by omega))⟩
theorem hvG_F {P : List tv} {wf af tf vr : Nat → Int32} {vf : Nat → Int64} {v : Nat} (hv : v ≤ 2) : ∀ (F : Fo) (f i : Nat), f < i → i + fsz F ≤ 20 → enM wf af tf vf F (nI f) i → vgF P vr F i → (hvG af vr (nI f) (nI v) i (i + fsz F) ↔ ∃ x ∈ evF P F, cvt x = v)
  | .leaf, f, i, _, _, _, _ => by
    constructor
    · rintro ⟨g, g1, g2, _⟩; have : fsz (.leaf : Fo) = 0 := rfl; omega
    · rintro ⟨x, hx, _⟩; cases hx
  | .inner n t p G R, f, i, hf, h20, hen, hvg => by
    rw [fsz_i] at h20 ⊢
    have ih := hvG_F hv R f (i + 1 + fsz G) (by omega) (by omega) hen.2.2 hvg.2
    have hc := cvt_le (ev1 P t p (evF P G))
    constructor
    · rintro ⟨g, g1, g2, g3, g4⟩
      by_cases hg : g = i
      · subst hg
        refine ⟨_, List.mem_cons_self .., ?_⟩
        exact (nI_eq (by omega) (by omega)).mp (hvg.1.symm.trans g4)
      · by_cases hg2 : g < i + 1 + fsz G
        · rcases enM_ar G _ (i + 1) hen.2.1 g (by omega) hg2 with a | ⟨k, k1, k2, a⟩
          · have := (nI_eq (by omega) (by omega)).mp (a.symm.trans g3); omega
          · have := (nI_eq (by omega) (by omega)).mp (a.symm.trans g3); omega
        · obtain ⟨x, hx, hxv⟩ := ih.mp ⟨g, by omega, by omega, g3, g4⟩
          exact ⟨x, List.mem_cons_of_mem _ hx, hxv⟩
    · rintro ⟨x, hx, hxv⟩
      rcases List.mem_cons.mp hx with q | q
      · exact ⟨i, by omega, by omega, hen.1.2.1, by rw [hvg.1, ← q, hxv]⟩
      · obtain ⟨g, g1, g2, g3, g4⟩ := ih.mpr ⟨x, q, hxv⟩
        exact ⟨g, by omega, by omega, g3, g4⟩
theorem fmin_0 : ∀ (l : List Nat) (a : Nat), a ≤ 2 → (∀ x ∈ l, x ≤ 2) → l.foldl min a = if a = 0 ∨ 0 ∈ l then 0 else if a = 1 ∨ 1 ∈ l then 1 else 2
  | [], a, h, _ => by
    show a = _
    simp only [List.not_mem_nil, or_false]
    split
    · assumption
    · split <;> omega
  | x :: l, a, h, hx => by
    have hx1 := hx x (List.mem_cons_self ..)
    show l.foldl min (min a x) = _
    rw [fmin_0 l (min a x) (by omega) (fun y hy => hx y (List.mem_cons_of_mem _ hy))]
    simp only [List.mem_cons]
    have e0 : (min a x = 0 ∨ 0 ∈ l) ↔ (a = 0 ∨ 0 = x ∨ 0 ∈ l) := by
      by_cases q : 0 ∈ l
      · simp [q]
      · simp only [q, or_false]; omega
    by_cases h0 : a = 0 ∨ 0 = x ∨ 0 ∈ l
    · rw [if_pos (e0.mpr h0), if_pos h0]
    · rw [if_neg (fun q => h0 (e0.mp q)), if_neg h0]
      have h0' : ¬ a = 0 ∧ ¬ x = 0 := ⟨fun q => h0 (Or.inl q), fun q => h0 (Or.inr (Or.inl q.symm))⟩
      have e1 : (min a x = 1 ∨ 1 ∈ l) ↔ (a = 1 ∨ 1 = x ∨ 1 ∈ l) := by
        by_cases q : 1 ∈ l
        · simp [q]
        · simp only [q, or_false]; omega
      by_cases h1 : a = 1 ∨ 1 = x ∨ 1 ∈ l
      · rw [if_pos (e1.mpr h1), if_pos h1]
      · rw [if_neg (fun q => h1 (e1.mp q)), if_neg h1]
theorem fmax_0 : ∀ (l : List Nat) (a : Nat), a ≤ 2 → (∀ x ∈ l, x ≤ 2) → l.foldl max a = if a = 2 ∨ 2 ∈ l then 2 else if a = 1 ∨ 1 ∈ l then 1 else 0
  | [], a, h, _ => by
    show a = _
    simp only [List.not_mem_nil, or_false]
    split
    · assumption
    · split <;> omega
  | x :: l, a, h, hx => by
    have hx1 := hx x (List.mem_cons_self ..)
    show l.foldl max (max a x) = _
    rw [fmax_0 l (max a x) (by omega) (fun y hy => hx y (List.mem_cons_of_mem _ hy))]
    simp only [List.mem_cons]
    have e0 : (max a x = 2 ∨ 2 ∈ l) ↔ (a = 2 ∨ 2 = x ∨ 2 ∈ l) := by
      by_cases q : 2 ∈ l
      · simp [q]
      · simp only [q, or_false]; omega
    by_cases h0 : a = 2 ∨ 2 = x ∨ 2 ∈ l
    · rw [if_pos (e0.mpr h0), if_pos h0]
    · rw [if_neg (fun q => h0 (e0.mp q)), if_neg h0]
      have h0' : ¬ a = 2 ∧ ¬ x = 2 := ⟨fun q => h0 (Or.inl q), fun q => h0 (Or.inr (Or.inl q.symm))⟩
      have e1 : (max a x = 1 ∨ 1 ∈ l) ↔ (a = 1 ∨ 1 = x ∨ 1 ∈ l) := by
        by_cases q : 1 ∈ l
        · simp [q]
        · simp only [q, or_false]; omega
      by_cases h1 : a = 1 ∨ 1 = x ∨ 1 ∈ l
      · rw [if_pos (e1.mpr h1), if_pos h1]
      · rw [if_neg (fun q => h1 (e1.mp q)), if_neg h1]
theorem cvt_i {x v : Nat} (hx : x ≤ 2) (hv : v ≤ 2) : cvt x = v ↔ x = cvt v := by
  rcases (by omega : x = 0 ∨ x = 1 ∨ x = 2) with rfl | rfl | rfl <;> rcases (by omega : v = 0 ∨ v = 1 ∨ v = 2) with rfl | rfl | rfl <;> decide
theorem ex_cvt {l : List Nat} (hl : ∀ x ∈ l, x ≤ 2) {v : Nat} (hv : v ≤ 2) : (∃ x ∈ l, cvt x = v) ↔ cvt v ∈ l := by
  constructor
  · rintro ⟨x, hx, q⟩; rw [← (cvt_i (hl x hx) hv).mp q]; exact hx
  · intro h; exact ⟨_, h, (cvt_i (hl _ h) hv).mpr rfl⟩
set_option maxRecDepth 100000 in
set_option maxHeartbeats 4000000 in
theorem y_Md_having (d : Nat) {μ : kc_M} {s : Nat → Int32} (h0 : μ.1 136 = some (ce_Md s)) {wf af tf : Nat → Int32} {vf : Nat → Int64} (hA : fmA μ wf af tf vf) {vr : Nat → Int32} (hV : μ.1 156 = some (ce_I 20 vr)) {N f v : Nat} (h40 : s 40 = nI N) (hN : N ≤ 20) (hf : f < N) : kc_Y kt kC (d + 1) j_Md_having [.ref 136, .int (nI f), .int (nI v)] μ (fun w μ' => (∃ k, w = some (.int (nI k)) ∧ k ≤ 20 ∧ (0 < k ↔ hvG af vr (nI f) (nI v) (f + 1) N)) ∧ μ' = μ) := by
  refine ⟨Nat.le_of_ble_eq_true rfl, ?_⟩
  have loop : ∀ m g k, N - g = m → g ≤ N → f + 1 ≤ g → k + m ≤ 20 → ((0 < k ∨ hvG af vr (nI f) (nI v) g N) ↔ hvG af vr (nI f) (nI v) (f + 1) N) → kc_X (kC j_Md_having) (kc_Y kt kC d) (fun w μ' => (∃ k, w = some (.int (nI k)) ∧ k ≤ 20 ∧ (0 < k ↔ hvG af vr (nI f) (nI v) (f + 1) N)) ∧ μ' = μ) 7 [some (.ref 136), some (.int (nI f)), some (.int (nI v)), some (.int (nI k)), some (.int (nI g))] [] μ (0, 0) := by
    intro m
    induction m with
    | zero =>
      intro g k hm hg hfg hk hR
      have hno : ¬ hvG af vr (nI f) (nI v) g N := by rintro ⟨x, x1, x2, _⟩; omega
      refine x_il c_Md_having_7 rfl ?_
      refine x_al c_Md_having_9 rfl ?_
      refine x_getE c_Md_having_10 (by first | rfl | exact h0) rfl (by first | exact h40 | rfl) ?_
      refine x_cmN_ge c_Md_having_13 (by omega) (by omega) (fun _ => ?_) (fun h => (by exfalso; omega))
      refine x_il c_Md_having_52 rfl ?_
      refine x_ri c_Md_having_53 ?_
      exact ⟨⟨k, rfl, by omega, by rw [← hR]; simp [hno]⟩, rfl⟩
    | succ m ih =>
      intro g k hm hg hfg hk hR
      have hsp : hvG af vr (nI f) (nI v) g N ↔ ((af g = nI f ∧ vr g = nI v) ∨ hvG af vr (nI f) (nI v) (g + 1) N) := by
        constructor
        · rintro ⟨x, x1, x2, x3, x4⟩
          by_cases hx : x = g
          · subst hx; exact Or.inl ⟨x3, x4⟩
          · exact Or.inr ⟨x, by omega, x2, x3, x4⟩
        · rintro (⟨x3, x4⟩ | ⟨x, x1, x2, x3, x4⟩)
          · exact ⟨g, Nat.le_refl _, by omega, x3, x4⟩
          · exact ⟨x, by omega, x2, x3, x4⟩
      rw [hsp] at hR
      refine x_il c_Md_having_7 rfl ?_
      refine x_al c_Md_having_9 rfl ?_
      refine x_getE c_Md_having_10 (by first | rfl | exact h0 | exact hA.2.1 | exact hV) rfl (by first | exact h40 | rfl) ?_
      refine x_cmN_ge c_Md_having_13 (by omega) (by omega) (fun h => (by exfalso; omega)) (fun _ => ?_)
      refine x_al c_Md_having_16 rfl ?_
      refine x_get c_Md_having_17 (by first | rfl | exact h0 | exact hA.2.1 | exact hV) rfl ?_
      refine x_il c_Md_having_20 rfl ?_
      refine x_ialdN c_Md_having_22 (by first | rfl | exact h0 | exact hA.2.1 | exact hV) (by omega) (by omega) ?_
      refine x_il c_Md_having_23 rfl ?_
      refine x_cm_ne c_Md_having_24 (fun h24 => ?_) (fun h24 => ?_)
      · refine x_il c_Md_having_44 rfl ?_
        refine x_is [_, _, _, _, _] c_Md_having_45 rfl ?_
        first | refine x_incN [_, _, _, _, _] c_Md_having_46 rfl rfl ?_ | refine x_inc [_, _, _, _, _] c_Md_having_46 rfl rfl ?_
        refine x_goto c_Md_having_49 ?_
        first | (refine ih (g + 1) (k + 1) (by omega) (by omega) (by omega) (by omega) ?_; rw [← hR]; simp [h24, h35]; done) | (refine ih (g + 1) k (by omega) (by omega) (by omega) (by omega) ?_; rw [← hR]; simp [h24, h35]; done) | (refine ih (g + 1) k (by omega) (by omega) (by omega) (by omega) ?_; rw [← hR]; simp [h24]; done)
      · refine x_al c_Md_having_27 rfl ?_
        refine x_get c_Md_having_28 (by first | rfl | exact h0 | exact hA.2.1 | exact hV) rfl ?_
        refine x_il c_Md_having_31 rfl ?_
        refine x_ialdN c_Md_having_33 (by first | rfl | exact h0 | exact hA.2.1 | exact hV) (by omega) (by omega) ?_
        refine x_il c_Md_having_34 rfl ?_
        refine x_cm_ne c_Md_having_35 (fun h35 => ?_) (fun h35 => ?_)
        · refine x_il c_Md_having_44 rfl ?_
          refine x_is [_, _, _, _, _] c_Md_having_45 rfl ?_
          first | refine x_incN [_, _, _, _, _] c_Md_having_46 rfl rfl ?_ | refine x_inc [_, _, _, _, _] c_Md_having_46 rfl rfl ?_
          refine x_goto c_Md_having_49 ?_
          first | (refine ih (g + 1) (k + 1) (by omega) (by omega) (by omega) (by omega) ?_; rw [← hR]; simp [h24, h35]; done) | (refine ih (g + 1) k (by omega) (by omega) (by omega) (by omega) ?_; rw [← hR]; simp [h24, h35]; done) | (refine ih (g + 1) k (by omega) (by omega) (by omega) (by omega) ?_; rw [← hR]; simp [h24]; done)
        · refine x_il c_Md_having_38 rfl ?_
          refine x_ci c_Md_having_39 ?_
          first | refine x_iaddN c_Md_having_40 ?_ | refine x_iadd c_Md_having_40 ?_
          refine x_goto c_Md_having_41 ?_
          refine x_is [_, _, _, _, _] c_Md_having_45 rfl ?_
          first | refine x_incN [_, _, _, _, _] c_Md_having_46 rfl rfl ?_ | refine x_inc [_, _, _, _, _] c_Md_having_46 rfl rfl ?_
          refine x_goto c_Md_having_49 ?_
          first | (refine ih (g + 1) (k + 1) (by omega) (by omega) (by omega) (by omega) ?_; rw [← hR]; simp [h24, h35]; done) | (refine ih (g + 1) k (by omega) (by omega) (by omega) (by omega) ?_; rw [← hR]; simp [h24, h35]; done) | (refine ih (g + 1) k (by omega) (by omega) (by omega) (by omega) ?_; rw [← hR]; simp [h24]; done)
  refine x_ci c_Md_having_0 ?_
  refine x_is [_, _, _, _, _] c_Md_having_1 rfl ?_
  refine x_il c_Md_having_2 rfl ?_
  refine x_ci c_Md_having_3 ?_
  first | refine x_iaddN c_Md_having_4 ?_ | refine x_iadd c_Md_having_4 ?_
  refine x_is [_, _, _, _, _] c_Md_having_5 rfl ?_
  exact loop _ (f + 1) 0 rfl (by omega) (Nat.le_refl _) (by omega) (by simp)
set_option maxRecDepth 100000 in
set_option maxHeartbeats 4000000 in
theorem y_Md_judge (d : Nat) {μ : kc_M} {s : Nat → Int32} (h0 : μ.1 136 = some (ce_Md s)) {wf af tf : Nat → Int32} {vf : Nat → Int64} (hA : fmA μ wf af tf vf) {tb : Nat → Nat} {ou : Nat → Int32} {n : Nat} {nm pr : Nat → List tv} (hE : mE μ tb ou n nm pr) {e : Nat} (he : e < n) (hgd : gd (pr e)) {vr : Nat → Int32} (hV : μ.1 156 = some (ce_I 20 vr)) {N i : Nat} (h40 : s 40 = nI N) (hN : N ≤ 20) {t : Nat} {p : Int32 × Int64} {G : Fo} (hi : i + 1 + fsz G ≤ N) {n' : Nat} {par : Int32} {R : Fo} (hen : enM wf af tf vf (.inner n' t p G R) par i) (hvg : vgF (pr e) vr G (i + 1)) (hout : ∀ g, i + 1 + fsz G ≤ g → g < N → af g ≠ nI i) (hW : (t < 256 ∧ ((lft t = true ∧ G = .leaf) ∨ (lft t = false ∧ 160 ≤ t ∧ t ≤ 162 ∧ ¬ (t = 162 ∧ fln G ≠ 1))))) : kc_Y kt kC (d + 2) j_Md_judge [.ref 136, .int (nI i), .int (nI e)] μ (fun w μ' => w = some (.int (nI (cvt (ev1 (pr e) t p (evF (pr e) G))))) ∧ μ' = μ) := by
  refine ⟨Nat.le_of_ble_eq_true rfl, ?_⟩
  have hin : ∀ v, v ≤ 2 → (hvG af vr (nI i) (nI v) (i + 1) N ↔ cvt v ∈ evF (pr e) G) := by
    intro v hv
    rw [← ex_cvt (evF_le _ G) hv, ← hvG_F (P := pr e) hv G i (i + 1) (by omega) (by omega) hen.2.1 hvg]
    constructor
    · rintro ⟨g, g1, g2, g3, g4⟩
      by_cases hg : g < i + 1 + fsz G
      · exact ⟨g, g1, hg, g3, g4⟩
      · exact absurd g3 (hout g (by omega) g2)
    · rintro ⟨g, g1, g2, g3, g4⟩
      exact ⟨g, g1, by omega, g3, g4⟩
  obtain ⟨h256, hcase⟩ := hW
  rcases hcase with ⟨hlf, hF⟩ | ⟨hlf, h1, h2, hnot⟩
  · have ht4 : t = 163 ∨ t = 165 ∨ t = 166 ∨ t = 135 := by unfold lft at hlf; simp only [Bool.or_eq_true, decide_eq_true_eq] at hlf; omega
    have hne : ∀ k, k < 2 ^ 31 → t ≠ k → ¬ nI t = nI k := fun k hk hh q => hh ((nI_eq (by omega) hk).mp q)
    have hev : ev1 (pr e) t p (evF (pr e) G) = lv1 (pr e) t p.1 p.2 := by unfold ev1; rw [if_neg (by omega), if_neg (by omega), if_neg (by omega)]
    refine x_al c_Md_judge_0 rfl ?_
    refine x_get c_Md_judge_1 (by first | rfl | exact h0 | exact hA.1) rfl ?_
    refine x_il c_Md_judge_4 rfl ?_
    refine x_ialdE c_Md_judge_5 (by first | rfl | exact h0 | exact hA.1) (by omega) (by omega) (hen.1.1) ?_
    refine x_sw 116 c_Md_judge_6 ((if_neg (hne 160 (by decide) (by omega))).trans ((if_neg (hne 161 (by decide) (by omega))).trans (if_neg (hne 162 (by decide) (by omega))))) ?_
    refine x_al c_Md_judge_116 rfl ?_
    refine x_il c_Md_judge_117 rfl ?_
    refine x_il c_Md_judge_118 rfl ?_
    refine x_cv2z _ c_Md_judge_119 (by first | rfl | exact h0 | exact hA.1) (Nat.le_of_ble_eq_true rfl) (y_Md_judgeLeaf d h0 hA hE he hgd (f := i) (t := t) (by omega) hen.1.1 ht4 (hen.1.2.2 hlf).1 (hen.1.2.2 hlf).2) ?_
    rintro _ μx ⟨rfl, hμx⟩
    have hμx := hμx.symm
    subst hμx
    show kc_X _ _ _ _ _ [.int (nI (cvt (lv1 (pr e) t p.1 p.2)))] _ _
    refine x_ri c_Md_judge_122 ?_
    exact ⟨by rw [hev], rfl⟩
  · rcases (by omega : t = 160 ∨ t = 161 ∨ t = 162) with rfl | rfl | rfl
    · skip
      have hev : ev1 (pr e) 160 p (evF (pr e) G) = (if (2 : Nat) = 0 ∨ 0 ∈ evF (pr e) G then 0 else if (2 : Nat) = 1 ∨ 1 ∈ evF (pr e) G then 1 else 2) := fmin_0 _ 2 (by omega) (evF_le _ G)
      refine x_al c_Md_judge_0 rfl ?_
      refine x_get c_Md_judge_1 (by first | rfl | exact h0 | exact hA.1) rfl ?_
      refine x_il c_Md_judge_4 rfl ?_
      refine x_ialdE c_Md_judge_5 (by first | rfl | exact h0 | exact hA.1) (by omega) (by omega) (hen.1.1) ?_
      refine x_sw 32 c_Md_judge_6 (rfl) ?_
      refine x_al c_Md_judge_32 rfl ?_
      refine x_il c_Md_judge_33 rfl ?_
      refine x_ci c_Md_judge_34 ?_
      refine x_cv2z _ c_Md_judge_35 (by first | rfl | exact h0 | exact hA.1) (Nat.le_of_ble_eq_true rfl) (y_Md_having d h0 hA hV h40 hN (f := i) (v := 0) (by omega)) ?_
      rintro _ μx ⟨⟨k1, rfl, hk1, hh1⟩, hμx⟩
      have hμx := hμx.symm
      subst hμx
      rw [hin 0 (by omega)] at hh1
      have hh1 : 0 < k1 ↔ 0 ∈ evF (pr e) G := hh1
      show kc_X _ _ _ _ _ [.int (nI k1)] _ _
      refine x_ifN_le c_Md_judge_38 (by omega) (fun h38 => ?_) (fun h38 => ?_)
      · refine x_al c_Md_judge_45 rfl ?_
        refine x_il c_Md_judge_46 rfl ?_
        refine x_ci c_Md_judge_47 ?_
        refine x_cv2z _ c_Md_judge_48 (by first | rfl | exact h0 | exact hA.1) (Nat.le_of_ble_eq_true rfl) (y_Md_having d h0 hA hV h40 hN (f := i) (v := 2) (by omega)) ?_
        rintro _ μx ⟨⟨k2, rfl, hk2, hh2⟩, hμx⟩
        have hμx := hμx.symm
        subst hμx
        rw [hin 2 (by omega)] at hh2
        have hh2 : 0 < k2 ↔ 1 ∈ evF (pr e) G := hh2
        show kc_X _ _ _ _ _ [.int (nI k2)] _ _
        refine x_ifN_le c_Md_judge_51 (by omega) (fun h51 => ?_) (fun h51 => ?_)
        · refine x_ci c_Md_judge_58 ?_
          refine x_ri c_Md_judge_59 ?_
          first | (have q1 : 0 < k1 := (by omega); exact ⟨by rw [hev, if_pos (Or.inr (hh1.mp q1))] <;> rfl, rfl⟩) | (have q1 : ¬ 0 < k1 := (by omega); have q2 : 0 < k2 := (by omega); exact ⟨by rw [hev, if_neg (fun q => q.elim (by decide) (fun q => q1 (hh1.mpr q))), if_pos (Or.inr (hh2.mp q2))] <;> rfl, rfl⟩) | (have q1 : ¬ 0 < k1 := (by omega); have q2 : ¬ 0 < k2 := (by omega); exact ⟨by rw [hev, if_neg (fun q => q.elim (by decide) (fun q => q1 (hh1.mpr q))), if_neg (fun q => q.elim (by decide) (fun q => q2 (hh2.mpr q)))] <;> rfl, rfl⟩)
        · refine x_ci c_Md_judge_54 ?_
          refine x_goto c_Md_judge_55 ?_
          refine x_ri c_Md_judge_59 ?_
          first | (have q1 : 0 < k1 := (by omega); exact ⟨by rw [hev, if_pos (Or.inr (hh1.mp q1))] <;> rfl, rfl⟩) | (have q1 : ¬ 0 < k1 := (by omega); have q2 : 0 < k2 := (by omega); exact ⟨by rw [hev, if_neg (fun q => q.elim (by decide) (fun q => q1 (hh1.mpr q))), if_pos (Or.inr (hh2.mp q2))] <;> rfl, rfl⟩) | (have q1 : ¬ 0 < k1 := (by omega); have q2 : ¬ 0 < k2 := (by omega); exact ⟨by rw [hev, if_neg (fun q => q.elim (by decide) (fun q => q1 (hh1.mpr q))), if_neg (fun q => q.elim (by decide) (fun q => q2 (hh2.mpr q)))] <;> rfl, rfl⟩)
      · refine x_ci c_Md_judge_41 ?_
        refine x_goto c_Md_judge_42 ?_
        refine x_ri c_Md_judge_59 ?_
        first | (have q1 : 0 < k1 := (by omega); exact ⟨by rw [hev, if_pos (Or.inr (hh1.mp q1))] <;> rfl, rfl⟩) | (have q1 : ¬ 0 < k1 := (by omega); have q2 : 0 < k2 := (by omega); exact ⟨by rw [hev, if_neg (fun q => q.elim (by decide) (fun q => q1 (hh1.mpr q))), if_pos (Or.inr (hh2.mp q2))] <;> rfl, rfl⟩) | (have q1 : ¬ 0 < k1 := (by omega); have q2 : ¬ 0 < k2 := (by omega); exact ⟨by rw [hev, if_neg (fun q => q.elim (by decide) (fun q => q1 (hh1.mpr q))), if_neg (fun q => q.elim (by decide) (fun q => q2 (hh2.mpr q)))] <;> rfl, rfl⟩)
    · skip
      have hev : ev1 (pr e) 161 p (evF (pr e) G) = (if (0 : Nat) = 2 ∨ 2 ∈ evF (pr e) G then 2 else if (0 : Nat) = 1 ∨ 1 ∈ evF (pr e) G then 1 else 0) := fmax_0 _ 0 (by omega) (evF_le _ G)
      refine x_al c_Md_judge_0 rfl ?_
      refine x_get c_Md_judge_1 (by first | rfl | exact h0 | exact hA.1) rfl ?_
      refine x_il c_Md_judge_4 rfl ?_
      refine x_ialdE c_Md_judge_5 (by first | rfl | exact h0 | exact hA.1) (by omega) (by omega) (hen.1.1) ?_
      refine x_sw 60 c_Md_judge_6 (rfl) ?_
      refine x_al c_Md_judge_60 rfl ?_
      refine x_il c_Md_judge_61 rfl ?_
      refine x_ci c_Md_judge_62 ?_
      refine x_cv2z _ c_Md_judge_63 (by first | rfl | exact h0 | exact hA.1) (Nat.le_of_ble_eq_true rfl) (y_Md_having d h0 hA hV h40 hN (f := i) (v := 1) (by omega)) ?_
      rintro _ μx ⟨⟨k1, rfl, hk1, hh1⟩, hμx⟩
      have hμx := hμx.symm
      subst hμx
      rw [hin 1 (by omega)] at hh1
      have hh1 : 0 < k1 ↔ 2 ∈ evF (pr e) G := hh1
      show kc_X _ _ _ _ _ [.int (nI k1)] _ _
      refine x_ifN_le c_Md_judge_66 (by omega) (fun h66 => ?_) (fun h66 => ?_)
      · refine x_al c_Md_judge_73 rfl ?_
        refine x_il c_Md_judge_74 rfl ?_
        refine x_ci c_Md_judge_75 ?_
        refine x_cv2z _ c_Md_judge_76 (by first | rfl | exact h0 | exact hA.1) (Nat.le_of_ble_eq_true rfl) (y_Md_having d h0 hA hV h40 hN (f := i) (v := 2) (by omega)) ?_
        rintro _ μx ⟨⟨k2, rfl, hk2, hh2⟩, hμx⟩
        have hμx := hμx.symm
        subst hμx
        rw [hin 2 (by omega)] at hh2
        have hh2 : 0 < k2 ↔ 1 ∈ evF (pr e) G := hh2
        show kc_X _ _ _ _ _ [.int (nI k2)] _ _
        refine x_ifN_le c_Md_judge_79 (by omega) (fun h79 => ?_) (fun h79 => ?_)
        · refine x_ci c_Md_judge_86 ?_
          refine x_ri c_Md_judge_87 ?_
          first | (have q1 : 0 < k1 := (by omega); exact ⟨by rw [hev, if_pos (Or.inr (hh1.mp q1))] <;> rfl, rfl⟩) | (have q1 : ¬ 0 < k1 := (by omega); have q2 : 0 < k2 := (by omega); exact ⟨by rw [hev, if_neg (fun q => q.elim (by decide) (fun q => q1 (hh1.mpr q))), if_pos (Or.inr (hh2.mp q2))] <;> rfl, rfl⟩) | (have q1 : ¬ 0 < k1 := (by omega); have q2 : ¬ 0 < k2 := (by omega); exact ⟨by rw [hev, if_neg (fun q => q.elim (by decide) (fun q => q1 (hh1.mpr q))), if_neg (fun q => q.elim (by decide) (fun q => q2 (hh2.mpr q)))] <;> rfl, rfl⟩)
        · refine x_ci c_Md_judge_82 ?_
          refine x_goto c_Md_judge_83 ?_
          refine x_ri c_Md_judge_87 ?_
          first | (have q1 : 0 < k1 := (by omega); exact ⟨by rw [hev, if_pos (Or.inr (hh1.mp q1))] <;> rfl, rfl⟩) | (have q1 : ¬ 0 < k1 := (by omega); have q2 : 0 < k2 := (by omega); exact ⟨by rw [hev, if_neg (fun q => q.elim (by decide) (fun q => q1 (hh1.mpr q))), if_pos (Or.inr (hh2.mp q2))] <;> rfl, rfl⟩) | (have q1 : ¬ 0 < k1 := (by omega); have q2 : ¬ 0 < k2 := (by omega); exact ⟨by rw [hev, if_neg (fun q => q.elim (by decide) (fun q => q1 (hh1.mpr q))), if_neg (fun q => q.elim (by decide) (fun q => q2 (hh2.mpr q)))] <;> rfl, rfl⟩)
      · refine x_ci c_Md_judge_69 ?_
        refine x_goto c_Md_judge_70 ?_
        refine x_ri c_Md_judge_87 ?_
        first | (have q1 : 0 < k1 := (by omega); exact ⟨by rw [hev, if_pos (Or.inr (hh1.mp q1))] <;> rfl, rfl⟩) | (have q1 : ¬ 0 < k1 := (by omega); have q2 : 0 < k2 := (by omega); exact ⟨by rw [hev, if_neg (fun q => q.elim (by decide) (fun q => q1 (hh1.mpr q))), if_pos (Or.inr (hh2.mp q2))] <;> rfl, rfl⟩) | (have q1 : ¬ 0 < k1 := (by omega); have q2 : ¬ 0 < k2 := (by omega); exact ⟨by rw [hev, if_neg (fun q => q.elim (by decide) (fun q => q1 (hh1.mpr q))), if_neg (fun q => q.elim (by decide) (fun q => q2 (hh2.mpr q)))] <;> rfl, rfl⟩)
    · skip
      have hl1 : fln G = 1 := Classical.not_not.mp (fun q => hnot ⟨rfl, q⟩)
      obtain ⟨n', t', p', G', rfl⟩ := fln_1 hl1
      obtain ⟨x, hx⟩ : ∃ x, evF (pr e) (.inner n' t' p' G' .leaf) = [x] := ⟨_, rfl⟩
      have hx2 : x ≤ 2 := evF_le (pr e) (.inner n' t' p' G' .leaf) x (by rw [hx]; exact List.mem_cons_self ..)
      have hev : ev1 (pr e) 162 p (evF (pr e) (.inner n' t' p' G' .leaf)) = 2 - x := by rw [hx]; rfl
      rw [hx] at hin
      simp only [List.mem_singleton] at hin
      refine x_al c_Md_judge_0 rfl ?_
      refine x_get c_Md_judge_1 (by first | rfl | exact h0 | exact hA.1) rfl ?_
      refine x_il c_Md_judge_4 rfl ?_
      refine x_ialdE c_Md_judge_5 (by first | rfl | exact h0 | exact hA.1) (by omega) (by omega) (hen.1.1) ?_
      refine x_sw 88 c_Md_judge_6 (rfl) ?_
      refine x_al c_Md_judge_88 rfl ?_
      refine x_il c_Md_judge_89 rfl ?_
      refine x_ci c_Md_judge_90 ?_
      refine x_cv2z _ c_Md_judge_91 (by first | rfl | exact h0 | exact hA.1) (Nat.le_of_ble_eq_true rfl) (y_Md_having d h0 hA hV h40 hN (f := i) (v := 2) (by omega)) ?_
      rintro _ μx ⟨⟨k1, rfl, hk1, hh1⟩, hμx⟩
      have hμx := hμx.symm
      subst hμx
      rw [hin 2 (by omega)] at hh1
      show kc_X _ _ _ _ _ [.int (nI k1)] _ _
      refine x_ifN_le c_Md_judge_94 (by omega) (fun h94 => ?_) (fun h94 => ?_)
      · refine x_al c_Md_judge_101 rfl ?_
        refine x_il c_Md_judge_102 rfl ?_
        refine x_ci c_Md_judge_103 ?_
        refine x_cv2z _ c_Md_judge_104 (by first | rfl | exact h0 | exact hA.1) (Nat.le_of_ble_eq_true rfl) (y_Md_having d h0 hA hV h40 hN (f := i) (v := 0) (by omega)) ?_
        rintro _ μx ⟨⟨k2, rfl, hk2, hh2⟩, hμx⟩
        have hμx := hμx.symm
        subst hμx
        rw [hin 0 (by omega)] at hh2
        show kc_X _ _ _ _ _ [.int (nI k2)] _ _
        refine x_ifN_le c_Md_judge_107 (by omega) (fun h107 => ?_) (fun h107 => ?_)
        · refine x_ci c_Md_judge_114 ?_
          refine x_ri c_Md_judge_115 ?_
          first | (have q1 : 0 < k1 := (by omega); have q9 := hh1.mp q1; have h9 : cvt 2 = 1 := rfl; exact ⟨by rw [hev, show x = 1 by omega] <;> rfl, rfl⟩) | (have q1 : ¬ 0 < k1 := (by omega); have q2 : 0 < k2 := (by omega); have q9 := hh2.mp q2; have h9 : cvt 0 = 0 := rfl; exact ⟨by rw [hev, show x = 0 by omega] <;> rfl, rfl⟩) | (have q1 : ¬ 0 < k1 := (by omega); have q2 : ¬ 0 < k2 := (by omega); have h9 : cvt 2 = 1 := rfl; have h8 : cvt 0 = 0 := rfl; have q3 : ¬ cvt 2 = x := fun q => q1 (hh1.mpr q); have q4 : ¬ cvt 0 = x := fun q => q2 (hh2.mpr q); exact ⟨by rw [hev, show x = 2 by omega] <;> rfl, rfl⟩)
        · refine x_ci c_Md_judge_110 ?_
          refine x_goto c_Md_judge_111 ?_
          refine x_ri c_Md_judge_115 ?_
          first | (have q1 : 0 < k1 := (by omega); have q9 := hh1.mp q1; have h9 : cvt 2 = 1 := rfl; exact ⟨by rw [hev, show x = 1 by omega] <;> rfl, rfl⟩) | (have q1 : ¬ 0 < k1 := (by omega); have q2 : 0 < k2 := (by omega); have q9 := hh2.mp q2; have h9 : cvt 0 = 0 := rfl; exact ⟨by rw [hev, show x = 0 by omega] <;> rfl, rfl⟩) | (have q1 : ¬ 0 < k1 := (by omega); have q2 : ¬ 0 < k2 := (by omega); have h9 : cvt 2 = 1 := rfl; have h8 : cvt 0 = 0 := rfl; have q3 : ¬ cvt 2 = x := fun q => q1 (hh1.mpr q); have q4 : ¬ cvt 0 = x := fun q => q2 (hh2.mpr q); exact ⟨by rw [hev, show x = 2 by omega] <;> rfl, rfl⟩)
      · refine x_ci c_Md_judge_97 ?_
        refine x_goto c_Md_judge_98 ?_
        refine x_ri c_Md_judge_115 ?_
        first | (have q1 : 0 < k1 := (by omega); have q9 := hh1.mp q1; have h9 : cvt 2 = 1 := rfl; exact ⟨by rw [hev, show x = 1 by omega] <;> rfl, rfl⟩) | (have q1 : ¬ 0 < k1 := (by omega); have q2 : 0 < k2 := (by omega); have q9 := hh2.mp q2; have h9 : cvt 0 = 0 := rfl; exact ⟨by rw [hev, show x = 0 by omega] <;> rfl, rfl⟩) | (have q1 : ¬ 0 < k1 := (by omega); have q2 : ¬ 0 < k2 := (by omega); have h9 : cvt 2 = 1 := rfl; have h8 : cvt 0 = 0 := rfl; have q3 : ¬ cvt 2 = x := fun q => q1 (hh1.mpr q); have q4 : ¬ cvt 0 = x := fun q => q2 (hh2.mpr q); exact ⟨by rw [hev, show x = 2 by omega] <;> rfl, rfl⟩)
set_option maxRecDepth 100000 in
set_option maxHeartbeats 4000000 in
theorem y_Md_matches (d : Nat) {μ : kc_M} {s : Nat → Int32} (h0 : μ.1 136 = some (ce_Md s)) {wf af tf : Nat → Int32} {vf : Nat → Int64} (hA : fmA μ wf af tf vf) {tb : Nat → Nat} {ou : Nat → Int32} {n : Nat} {nm pr : Nat → List tv} (hE : mE μ tb ou n nm pr) {e : Nat} (he : e < n) (hgd : gd (pr e)) {vr : Nat → Int32} (hV : μ.1 156 = some (ce_I 20 vr)) {G : Fo} (h40 : s 40 = nI (fsz G)) (hN20 : fsz G ≤ 20) (hG : ∃ t ty v F, G = Fo.cons t ty v F Fo.nil) (hen : enM wf af tf vf G (-1) 0) (hW : flW G) : kc_Y kt kC (d + 3) j_Md_matches [.ref 136, .int (nI e)] μ (fun w μ' => w = some (.int (bI (decide ((evF (pr e) G).headD 0 = 2)))) ∧ (∃ vr', μ'.1 156 = some (ce_I 20 vr')) ∧ ∀ q, q ≠ 156 → μ'.1 q = μ.1 q) := by
  refine ⟨Nat.le_of_ble_eq_true rfl, ?_⟩
  have walk : ∀ (F : Fo) (par : Int32) (i : Nat) (μ1 : kc_M) (vr1 : Nat → Int32), enM wf af tf vf F par i → flW F → i + fsz F ≤ fsz G → (∀ g, i + fsz F ≤ g → g < fsz G → ∀ k, i ≤ k → k < i + fsz F → af g ≠ nI k) → (∀ k, i ≤ k → k < i + fsz F → par ≠ nI k) → μ1.1 156 = some (ce_I 20 vr1) → (∀ q, q ≠ 156 → μ1.1 q = μ.1 q) → (∀ (μ2 : kc_M) (vr2 : Nat → Int32), μ2.1 156 = some (ce_I 20 vr2) → (∀ q, q ≠ 156 → μ2.1 q = μ.1 q) → (∀ j, i + fsz F ≤ j → vr2 j = vr1 j) → vgF (pr e) vr2 F i → kc_X (kC j_Md_matches) (kc_Y kt kC (d + 2)) (fun w μ' => w = some (.int (bI (decide ((evF (pr e) G).headD 0 = 2)))) ∧ (∃ vr', μ'.1 156 = some (ce_I 20 vr')) ∧ ∀ q, q ≠ 156 → μ'.1 q = μ.1 q) 7 [some (.ref 136), some (.int (nI e)), some (.int (nI (i) + (-1)))] [] μ2 (0, 0)) → kc_X (kC j_Md_matches) (kc_Y kt kC (d + 2)) (fun w μ' => w = some (.int (bI (decide ((evF (pr e) G).headD 0 = 2)))) ∧ (∃ vr', μ'.1 156 = some (ce_I 20 vr')) ∧ ∀ q, q ≠ 156 → μ'.1 q = μ.1 q) 7 [some (.ref 136), some (.int (nI e)), some (.int (nI (i + fsz F) + (-1)))] [] μ1 (0, 0) := by
    intro F
    induction F with
    | leaf =>
      intro par i μ1 vr1 hen hW hN hout hpar k6 hf hK
      exact hK μ1 vr1 k6 hf (fun _ _ => rfl) trivial
    | inner n' t p Gi R ihG ihR =>
      intro par i μ1 vr1 hen hW hN hout hpar k6 hf hK
      rw [fsz_i] at hN hout hpar hK ⊢
      have hoG : ∀ g, i + 1 + fsz Gi ≤ g → g < fsz G → ∀ k, i ≤ k → k < i + 1 + fsz Gi → af g ≠ nI k := by
        intro g g1 g2 k k1 k2 q
        by_cases hg : g < i + 1 + fsz Gi + fsz R
        · rcases enM_ar R _ _ hen.2.2 g g1 hg with a | ⟨k', k1', k2', a⟩
          · exact hpar k k1 (by omega) (a.symm.trans q)
          · have := (nI_eq (by omega) (by omega)).mp (a.symm.trans q); omega
        · exact hout g (by omega) g2 k k1 (by omega) q
      have key := ihR par (i + 1 + fsz Gi) μ1 vr1 hen.2.2 hW.2.2 (by omega) (fun g g1 g2 k k1 k2 => hout g (by omega) g2 k (by omega) (by omega)) (fun k k1 k2 => hpar k (by omega) (by omega)) k6 hf (fun μ2 vr2 m6 mf mk mg => ?_)
      · rw [show i + (1 + fsz Gi + fsz R) = i + 1 + fsz Gi + fsz R by omega]
        exact key
      refine ihG (nI i) (i + 1) μ2 vr2 hen.2.1 hW.2.1 (by omega) (fun g g1 g2 k k1 k2 => hoG g g1 g2 k (by omega) k2) (fun k k1 k2 q => by have := (nI_eq (by omega) (by omega)).mp q; omega) m6 mf (fun μ3 vr3 n6 nf nk ng => ?_)
      have j0 := (nf 136 (by decide)).trans h0
      have jA := fmA_k hA (μ' := μ3) (fun q q1 q2 => nf q (by omega))
      have jE := mE_k hE (μ' := μ3) (fun q q1 q2 => nf q (by omega))
      rw [pk_m1]
      have hjd := y_Md_judge d j0 jA jE he hgd n6 h40 hN20 (i := i) (by omega) hen ng (fun g g1 g2 => hoG g g1 g2 i (Nat.le_refl _) (by omega)) hW.1
      refine x_il c_Md_matches_7 rfl ?_
      refine x_ifN_lt c_Md_matches_8 (by omega) (fun h => (by exfalso; omega)) (fun _ => ?_)
      refine x_al c_Md_matches_11 rfl ?_
      refine x_get c_Md_matches_12 (by first | rfl | exact j0 | exact n6) rfl ?_
      refine x_il c_Md_matches_15 rfl ?_
      refine x_al c_Md_matches_16 rfl ?_
      refine x_il c_Md_matches_17 rfl ?_
      refine x_il c_Md_matches_18 rfl ?_
      refine x_cv2z _ c_Md_matches_19 (by first | rfl | exact j0 | exact n6) (Nat.le_of_ble_eq_true rfl) (hjd) ?_
      rintro _ μx ⟨rfl, hμx⟩
      have hμx := hμx.symm
      subst hμx
      show kc_X _ _ _ _ _ (.int (nI (cvt (ev1 (pr e) t p (evF (pr e) Gi)))) :: _) _ _
      refine x_iastN c_Md_matches_22 (by first | rfl | exact j0 | exact n6) (by omega) (by omega) ?_
      refine x_inc [_, _, _] c_Md_matches_23 rfl rfl ?_
      refine x_goto c_Md_matches_26 ?_
      exact hK _ _ kc_gs (fun q q1 => (kc_gf q1).trans (nf q q1)) (fun j hj => (if_neg (by omega)).trans ((nk j (by omega)).trans (mk j (by omega)))) ⟨if_pos rfl, vgF_k R _ mg (fun j j1 j2 => (if_neg (by omega)).trans (nk j (by omega)))⟩
  have hsz : 1 ≤ fsz G := by obtain ⟨t, ty, v, F, rfl⟩ := hG; rw [fsz_c]; omega
  have fin : ∀ (μ2 : kc_M) (vr2 : Nat → Int32), μ2.1 156 = some (ce_I 20 vr2) → (∀ q, q ≠ 156 → μ2.1 q = μ.1 q) → (∀ j, 0 + fsz G ≤ j → vr2 j = vr j) → vgF (pr e) vr2 G 0 → kc_X (kC j_Md_matches) (kc_Y kt kC (d + 2)) (fun w μ' => w = some (.int (bI (decide ((evF (pr e) G).headD 0 = 2)))) ∧ (∃ vr', μ'.1 156 = some (ce_I 20 vr')) ∧ ∀ q, q ≠ 156 → μ'.1 q = μ.1 q) 7 [some (.ref 136), some (.int (nI e)), some (.int (nI (0) + (-1)))] [] μ2 (0, 0) := by
    intro μ2 vr2 m6 mf _ mg
    have j0 := (mf 136 (by decide)).trans h0
    obtain ⟨t, ty, v, F, rfl⟩ := hG
    obtain ⟨x, hx⟩ : ∃ x, ev1 (pr e) t (ty, v) (evF (pr e) F) = x := ⟨_, rfl⟩
    have hv0 : vr2 0 = nI (cvt x) := by rw [← hx]; exact mg.1
    have hx2 : x ≤ 2 := by rw [← hx]; exact ev1_le _ _ _ _ (evF_le _ F)
    have hcl := cvt_le x
    have hres : (evF (pr e) (Fo.cons t ty v F Fo.nil)).headD 0 = x := hx
    rw [hres]
    refine x_il c_Md_matches_7 rfl ?_
    refine x_if_lt c_Md_matches_8 (fun _ => ?_) (fun h => absurd (by decide) h)
    refine x_al c_Md_matches_29 rfl ?_
    refine x_get c_Md_matches_30 (by first | rfl | exact j0 | exact m6) rfl ?_
    refine x_ci c_Md_matches_33 ?_
    refine x_ialdE c_Md_matches_34 (by first | rfl | exact j0 | exact m6) (by omega) (by omega) (hv0) ?_
    refine x_ci c_Md_matches_35 ?_
    refine x_cmN_ne c_Md_matches_36 (by omega) (by omega) (fun h36 => ?_) (fun h36 => ?_)
    · refine x_ci c_Md_matches_43 ?_
      refine x_rz c_Md_matches_44 (by first | decide | exact kz_n _) ?_
      first | exact ⟨by rw [decide_eq_true (show x = 2 by rcases (by omega : x = 0 ∨ x = 1 ∨ x = 2) with rfl | rfl | rfl; exact absurd h36 (by decide); exact absurd h36 (by decide); rfl)] <;> rfl, ⟨vr2, m6⟩, mf⟩ | exact ⟨by rw [decide_eq_false (show ¬ x = 2 by rintro rfl; exact h36 rfl)] <;> rfl, ⟨vr2, m6⟩, mf⟩
    · refine x_ci c_Md_matches_39 ?_
      refine x_goto c_Md_matches_40 ?_
      refine x_rz c_Md_matches_44 (by first | decide | exact kz_n _) ?_
      first | exact ⟨by rw [decide_eq_true (show x = 2 by rcases (by omega : x = 0 ∨ x = 1 ∨ x = 2) with rfl | rfl | rfl; exact absurd h36 (by decide); exact absurd h36 (by decide); rfl)] <;> rfl, ⟨vr2, m6⟩, mf⟩ | exact ⟨by rw [decide_eq_false (show ¬ x = 2 by rintro rfl; exact h36 rfl)] <;> rfl, ⟨vr2, m6⟩, mf⟩
  have go := walk G (-1) 0 μ vr hen hW (by omega) (fun g g1 g2 => absurd g2 (by omega)) (fun k k1 k2 q => nI_nm1 (by omega) q.symm) hV (fun _ _ => rfl) fin
  obtain ⟨N, hNN⟩ : ∃ N, fsz G = N + 1 := ⟨fsz G - 1, by omega⟩
  rw [Nat.zero_add, hNN, pk_m1] at go
  rw [hNN] at h40
  refine x_al c_Md_matches_0 rfl ?_
  refine x_getE c_Md_matches_1 (by first | rfl | exact h0) rfl (by first | exact h40 | rfl) ?_
  refine x_ci c_Md_matches_4 ?_
  first | refine x_isubN c_Md_matches_5 (by omega) ?_ | refine x_isub c_Md_matches_5 ?_
  refine x_is [_, _, _] c_Md_matches_6 rfl ?_
  exact go
