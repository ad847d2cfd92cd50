/-! the reference judges -/
def cvt (n : Nat) : Nat := if n = 1 then 2 else if n = 2 then 1 else 0
theorem cvt_le (n : Nat) : cvt n ≤ 2 := by
  unfold cvt
  split
  · omega
  · split <;> omega
def ftt (t : Nat) (v x : Int64) : Bool := if t = 135 then true else if t = 163 then decide (x = v) else if t = 165 then decide (v ≤ x) else decide (x ≤ v)
def fph (t : Nat) (ty : Int32) (v : Int64) (q : tv) : Bool := decide (q.1 = ty) && ftt t v q.2
theorem i64_max (x : Int64) : x ≤ 9223372036854775807 := le_mx x
theorem fph_b {t : Nat} {ty : Int32} {v : Int64} (ht : t = 163 ∨ t = 165 ∨ t = 166 ∨ t = 135) {q : tv} (hq : 0 ≤ q.2) : fph t ty v q = btw ty (if t = 163 ∨ t = 165 then v else 0) (if t = 163 ∨ t = 166 then v else 9223372036854775807) q := by
  unfold fph btw ftt
  rcases ht with rfl | rfl | rfl | rfl
  · rw [if_neg (by decide), if_pos rfl, if_pos (Or.inl rfl), if_pos (Or.inl rfl)]
    congr 1
    by_cases h : q.2 = v
    · rw [decide_eq_true h, decide_eq_true (show v ≤ q.2 by rw [h]; exact Int64.le_refl _), decide_eq_true (show q.2 ≤ v by rw [h]; exact Int64.le_refl _)]; rfl
    · rw [decide_eq_false h]
      symm
      rw [Bool.and_eq_false_iff]
      by_cases h2 : v ≤ q.2
      · right; exact decide_eq_false (fun h3 => h (Int64.le_antisymm h3 h2))
      · left; exact decide_eq_false h2
  · rw [if_neg (by decide), if_neg (by decide), if_pos rfl, if_pos (Or.inr rfl), if_neg (by decide), decide_eq_true (i64_max q.2), Bool.and_true]
  · rw [if_neg (by decide), if_neg (by decide), if_neg (by decide), if_neg (by decide), if_pos (Or.inr rfl), decide_eq_true hq, Bool.true_and]
  · rw [if_pos rfl, if_neg (by decide), if_neg (by decide), decide_eq_true hq, decide_eq_true (i64_max q.2)]; rfl
theorem any_b {t : Nat} {ty : Int32} {v : Int64} (ht : t = 163 ∨ t = 165 ∨ t = 166 ∨ t = 135) : ∀ P : List tv, (∀ q ∈ P, 0 ≤ q.2) → P.any (fph t ty v) = hbw ty (if t = 163 ∨ t = 165 then v else 0) (if t = 163 ∨ t = 166 then v else 9223372036854775807) P
  | [], _ => rfl
  | q :: P, h => by
    show (fph t ty v q || P.any (fph t ty v)) = (btw _ _ _ q || hbw _ _ _ P)
    rw [fph_b ht (h q (List.mem_cons_self ..)), any_b ht P (fun p hp => h p (List.mem_cons_of_mem _ hp))]
theorem any_s {φ : tv → Bool} {l : List tv} {k : Nat} {q : tv} (h : l[k]? = some q) : (l.drop k).any φ = (φ q || (l.drop (k + 1)).any φ) := by
  obtain ⟨h1, h2⟩ := List.getElem?_eq_some_iff.mp h
  rw [List.drop_eq_getElem_cons h1, h2]; rfl
theorem cv_1 {P : List tv} {t : Nat} {ty : Int32} {v : Int64} (h : undf t ty v) : cvt (lv1 P t ty v) = 2 := by
  unfold undf at h
  unfold lv1; rw [if_pos h]; rfl
theorem cv_0 {P : List tv} {t : Nat} {ty : Int32} {v : Int64} (h : ¬ undf t ty v) : cvt (lv1 P t ty v) = if hbw ty (if t = 163 ∨ t = 165 then v else 0) (if t = 163 ∨ t = 166 then v else 9223372036854775807) P = true then 1 else 0 := by
  unfold undf at h
  unfold lv1; rw [if_neg h]
  by_cases h2 : hbw ty (if t = 163 ∨ t = 165 then v else 0) (if t = 163 ∨ t = 166 then v else 9223372036854775807) P = true
  · rw [if_pos h2, if_pos h2]; rfl
  · rw [if_neg h2, if_neg h2]; rfl
set_option maxRecDepth 100000 in
set_option maxHeartbeats 4000000 in
theorem y_Md_judgeLeaf (d : Nat) {μ : kc_M} {s : Nat → Int32} (h0 : μ.1 136 = some (ce_Md s)) {wf af tf : Nat → Int32} {vf : Nat → Int64} (hA : fmA μ wf af tf vf) {tb : Nat → Nat} {ou : Nat → Int32} {n : Nat} {nm pr : Nat → List tv} (hE : mE μ tb ou n nm pr) {e : Nat} (he : e < n) (hgd : gd (pr e)) {f t : Nat} {ty : Int32} {v : Int64} (hf : f < 20) (hk : wf f = nI t) (ht4 : t = 163 ∨ t = 165 ∨ t = 166 ∨ t = 135) (ht : tf f = ty) (hv : t ≠ 135 → vf f = v) : kc_Y kt kC (d + 1) j_Md_judgeLeaf [.ref 136, .int (nI f), .int (nI e)] μ (fun w μ' => w = some (.int (nI (cvt (lv1 (pr e) t ty v)))) ∧ μ' = μ) := by
  refine ⟨Nat.le_of_ble_eq_true rfl, ?_⟩
  obtain ⟨pa, pt, pv, pn, qt, qv, ⟨r1, r2, r3, r4, r5, r6, r7, r8⟩, m2, hn16, hw⟩ := id hE
  have hme := m2 e he
  have hwe := hw e he
  have h256 : t < 256 := by omega
  rcases ht4 with rfl | rfl | rfl | rfl
  · skip
    by_cases hm1 : ty = -1
    · skip
      refine x_al c_Md_judgeLeaf_0 rfl ?_
      refine x_get c_Md_judgeLeaf_1 (by first | rfl | exact h0 | exact hA.1 | exact hA.2.2.1 | exact hA.2.2.2 | exact r6 | exact r7 | exact r8) rfl ?_
      refine x_il c_Md_judgeLeaf_4 rfl ?_
      refine x_ialdE c_Md_judgeLeaf_5 (by first | rfl | exact h0 | exact hA.1 | exact hA.2.2.1 | exact hA.2.2.2 | exact r6 | exact r7 | exact r8) (by omega) (by omega) (ht) ?_
      refine x_is [_, _, _, _, _, _, _, _, _, _] c_Md_judgeLeaf_6 rfl ?_
      refine x_al c_Md_judgeLeaf_7 rfl ?_
      refine x_get c_Md_judgeLeaf_8 (by first | rfl | exact h0 | exact hA.1 | exact hA.2.2.1 | exact hA.2.2.2 | exact r6 | exact r7 | exact r8) rfl ?_
      refine x_il c_Md_judgeLeaf_11 rfl ?_
      refine x_ialdE c_Md_judgeLeaf_12 (by first | rfl | exact h0 | exact hA.1 | exact hA.2.2.1 | exact hA.2.2.2 | exact r6 | exact r7 | exact r8) (by omega) (by omega) (hk) ?_
      refine x_ci c_Md_judgeLeaf_13 ?_
      refine x_cmN_eq c_Md_judgeLeaf_16 (by omega) (by omega) (fun h => (by exfalso; omega)) (fun _ => ?_)
      refine x_al c_Md_judgeLeaf_19 rfl ?_
      refine x_get c_Md_judgeLeaf_20 (by first | rfl | exact h0 | exact hA.1 | exact hA.2.2.1 | exact hA.2.2.2 | exact r6 | exact r7 | exact r8) rfl ?_
      refine x_il c_Md_judgeLeaf_23 rfl ?_
      refine x_ialdE c_Md_judgeLeaf_24 (by first | rfl | exact h0 | exact hA.1 | exact hA.2.2.1 | exact hA.2.2.2 | exact r6 | exact r7 | exact r8) (by omega) (by omega) (hk) ?_
      refine x_ci c_Md_judgeLeaf_25 ?_
      refine x_cmN_ne c_Md_judgeLeaf_28 (by omega) (by omega) (fun _ => ?_) (fun h => (by exfalso; omega))
      refine x_ci c_Md_judgeLeaf_35 ?_
      refine x_is [_, _, _, _, _, _, _, _, _, _] c_Md_judgeLeaf_36 rfl ?_
      refine x_il c_Md_judgeLeaf_38 rfl ?_
      refine x_ci c_Md_judgeLeaf_39 ?_
      refine x_cm_eq c_Md_judgeLeaf_40 (fun _ => ?_) (fun h => absurd (hm1) h)
      refine x_ci c_Md_judgeLeaf_79 ?_
      refine x_ri c_Md_judgeLeaf_80 ?_
      exact ⟨by rw [cv_1 (Or.inl hm1)] <;> rfl, rfl⟩
    · skip
      by_cases hvm : v = -1
      · skip
        refine x_al c_Md_judgeLeaf_0 rfl ?_
        refine x_get c_Md_judgeLeaf_1 (by first | rfl | exact h0 | exact hA.1 | exact hA.2.2.1 | exact hA.2.2.2 | exact r6 | exact r7 | exact r8) rfl ?_
        refine x_il c_Md_judgeLeaf_4 rfl ?_
        refine x_ialdE c_Md_judgeLeaf_5 (by first | rfl | exact h0 | exact hA.1 | exact hA.2.2.1 | exact hA.2.2.2 | exact r6 | exact r7 | exact r8) (by omega) (by omega) (ht) ?_
        refine x_is [_, _, _, _, _, _, _, _, _, _] c_Md_judgeLeaf_6 rfl ?_
        refine x_al c_Md_judgeLeaf_7 rfl ?_
        refine x_get c_Md_judgeLeaf_8 (by first | rfl | exact h0 | exact hA.1 | exact hA.2.2.1 | exact hA.2.2.2 | exact r6 | exact r7 | exact r8) rfl ?_
        refine x_il c_Md_judgeLeaf_11 rfl ?_
        refine x_ialdE c_Md_judgeLeaf_12 (by first | rfl | exact h0 | exact hA.1 | exact hA.2.2.1 | exact hA.2.2.2 | exact r6 | exact r7 | exact r8) (by omega) (by omega) (hk) ?_
        refine x_ci c_Md_judgeLeaf_13 ?_
        refine x_cmN_eq c_Md_judgeLeaf_16 (by omega) (by omega) (fun h => (by exfalso; omega)) (fun _ => ?_)
        refine x_al c_Md_judgeLeaf_19 rfl ?_
        refine x_get c_Md_judgeLeaf_20 (by first | rfl | exact h0 | exact hA.1 | exact hA.2.2.1 | exact hA.2.2.2 | exact r6 | exact r7 | exact r8) rfl ?_
        refine x_il c_Md_judgeLeaf_23 rfl ?_
        refine x_ialdE c_Md_judgeLeaf_24 (by first | rfl | exact h0 | exact hA.1 | exact hA.2.2.1 | exact hA.2.2.2 | exact r6 | exact r7 | exact r8) (by omega) (by omega) (hk) ?_
        refine x_ci c_Md_judgeLeaf_25 ?_
        refine x_cmN_ne c_Md_judgeLeaf_28 (by omega) (by omega) (fun _ => ?_) (fun h => (by exfalso; omega))
        refine x_ci c_Md_judgeLeaf_35 ?_
        refine x_is [_, _, _, _, _, _, _, _, _, _] c_Md_judgeLeaf_36 rfl ?_
        refine x_il c_Md_judgeLeaf_38 rfl ?_
        refine x_ci c_Md_judgeLeaf_39 ?_
        refine x_cm_eq c_Md_judgeLeaf_40 (fun h => absurd h (hm1)) (fun _ => ?_)
        refine x_al c_Md_judgeLeaf_43 rfl ?_
        refine x_get c_Md_judgeLeaf_44 (by first | rfl | exact h0 | exact hA.1 | exact hA.2.2.1 | exact hA.2.2.2 | exact r6 | exact r7 | exact r8) rfl ?_
        refine x_il c_Md_judgeLeaf_47 rfl ?_
        refine x_ialdE c_Md_judgeLeaf_48 (by first | rfl | exact h0 | exact hA.1 | exact hA.2.2.1 | exact hA.2.2.2 | exact r6 | exact r7 | exact r8) (by omega) (by omega) (hk) ?_
        refine x_ci c_Md_judgeLeaf_49 ?_
        refine x_cmN_eq c_Md_judgeLeaf_52 (by omega) (by omega) (fun h => (by exfalso; omega)) (fun _ => ?_)
        refine x_al c_Md_judgeLeaf_55 rfl ?_
        refine x_get c_Md_judgeLeaf_56 (by first | rfl | exact h0 | exact hA.1 | exact hA.2.2.1 | exact hA.2.2.2 | exact r6 | exact r7 | exact r8) rfl ?_
        refine x_il c_Md_judgeLeaf_59 rfl ?_
        refine x_laldE c_Md_judgeLeaf_60 (by first | rfl | exact h0 | exact hA.1 | exact hA.2.2.1 | exact hA.2.2.2 | exact r6 | exact r7 | exact r8) (by omega) (by omega) (hv (by decide)) ?_
        refine x_cl c_Md_judgeLeaf_61 ?_
        refine x_lcmp c_Md_judgeLeaf_64 ?_
        refine x_ifL_eq c_Md_judgeLeaf_65 (fun _ => ?_) (fun h => absurd (hvm) h)
        refine x_ci c_Md_judgeLeaf_79 ?_
        refine x_ri c_Md_judgeLeaf_80 ?_
        exact ⟨by rw [cv_1 (Or.inr (Or.inl ⟨by decide, hvm⟩))] <;> rfl, rfl⟩
      · skip
        have hU : ¬ undf 163 ty v := by
          intro q
          rcases q with q | q | q
          · exact hm1 q
          · exact hvm q.2
          · exact absurd q.1 (by decide)
        have loop : ∀ m k (b : Bool) (jo j7 j8 j9 : Option Value), (pr e).length - k = m → k ≤ (pr e).length → (b || ((pr e).drop k).any (fph 163 ty v)) = (pr e).any (fph 163 ty v) → kc_X (kC j_Md_judgeLeaf) (kc_Y kt kC d) (fun w μ' => w = some (.int (nI (cvt (lv1 (pr e) 163 ty v)))) ∧ μ' = μ) 90 [some (.ref 136), some (.int (nI f)), some (.int (nI e)), some (.int ty), jo, some (.int (bI b)), some (.int (nI (6 * e + k))), j7, j8, j9] [] μ (0, 0) := by
          intro m
          induction m with
          | zero =>
            intro k b jo j7 j8 j9 hm hk2 hR
            rw [List.drop_eq_nil_of_le (by omega), show (b || ([] : List tv).any (fph 163 ty v)) = b from Bool.or_false b] at hR
            refine x_il c_Md_judgeLeaf_90 rfl ?_
            refine x_ci c_Md_judgeLeaf_92 ?_
            refine x_il c_Md_judgeLeaf_94 rfl ?_
            first | refine x_imulN c_Md_judgeLeaf_95 ?_ | refine x_imul c_Md_judgeLeaf_95 ?_
            refine x_al c_Md_judgeLeaf_96 rfl ?_
            refine x_get c_Md_judgeLeaf_97 (by first | rfl | exact h0 | exact hA.1 | exact hA.2.2.1 | exact hA.2.2.2 | exact r6 | exact r7 | exact r8) rfl ?_
            refine x_il c_Md_judgeLeaf_100 rfl ?_
            refine x_ialdE c_Md_judgeLeaf_101 (by first | rfl | exact h0 | exact hA.1 | exact hA.2.2.1 | exact hA.2.2.2 | exact r6 | exact r7 | exact r8) (by omega) (by omega) (hme.2.2.1) ?_
            first | refine x_iaddN c_Md_judgeLeaf_102 ?_ | refine x_iadd c_Md_judgeLeaf_102 ?_
            refine x_cmN_ge c_Md_judgeLeaf_103 (by omega) (by omega) (fun _ => ?_) (fun h => (by exfalso; omega))
            refine x_il c_Md_judgeLeaf_234 rfl ?_
            refine x_ifB_eq c_Md_judgeLeaf_236 (fun h236 => ?_) (fun h236 => ?_)
            · refine x_ci c_Md_judgeLeaf_243 ?_
              refine x_ri c_Md_judgeLeaf_244 ?_
              first | exact ⟨by rw [cv_0 hU, ← any_b (by decide) _ hgd.2, ← hR, h236] <;> rfl, rfl⟩
            · refine x_ci c_Md_judgeLeaf_239 ?_
              refine x_goto c_Md_judgeLeaf_240 ?_
              refine x_ri c_Md_judgeLeaf_244 ?_
              first | exact ⟨by rw [cv_0 hU, ← any_b (by decide) _ hgd.2, ← hR, h236] <;> rfl, rfl⟩
          | succ m ih =>
            intro k b jo j7 j8 j9 hm hk2 hR
            have hq := hme.2.2.2 k (by omega)
            rw [any_s hq] at hR
            have hn : ¬ qt (6 * e + k) = ty → fph 163 ty v (qt (6 * e + k), qv (6 * e + k)) = false := fun q => by unfold fph; rw [decide_eq_false q]; rfl
            have hy : qt (6 * e + k) = ty → fph 163 ty v (qt (6 * e + k), qv (6 * e + k)) = ftt 163 v (qv (6 * e + k)) := fun q => by unfold fph; rw [decide_eq_true q]; rfl
            by_cases hc : qv (6 * e + k) = v
            · have hfit : ftt 163 v (qv (6 * e + k)) = true := decide_eq_true hc
              refine x_il c_Md_judgeLeaf_90 rfl ?_
              refine x_ci c_Md_judgeLeaf_92 ?_
              refine x_il c_Md_judgeLeaf_94 rfl ?_
              first | refine x_imulN c_Md_judgeLeaf_95 ?_ | refine x_imul c_Md_judgeLeaf_95 ?_
              refine x_al c_Md_judgeLeaf_96 rfl ?_
              refine x_get c_Md_judgeLeaf_97 (by first | rfl | exact h0 | exact hA.1 | exact hA.2.2.1 | exact hA.2.2.2 | exact r6 | exact r7 | exact r8) rfl ?_
              refine x_il c_Md_judgeLeaf_100 rfl ?_
              refine x_ialdE c_Md_judgeLeaf_101 (by first | rfl | exact h0 | exact hA.1 | exact hA.2.2.1 | exact hA.2.2.2 | exact r6 | exact r7 | exact r8) (by omega) (by omega) (hme.2.2.1) ?_
              first | refine x_iaddN c_Md_judgeLeaf_102 ?_ | refine x_iadd c_Md_judgeLeaf_102 ?_
              refine x_cmN_ge c_Md_judgeLeaf_103 (by omega) (by omega) (fun h => (by exfalso; omega)) (fun _ => ?_)
              refine x_al c_Md_judgeLeaf_106 rfl ?_
              refine x_get c_Md_judgeLeaf_107 (by first | rfl | exact h0 | exact hA.1 | exact hA.2.2.1 | exact hA.2.2.2 | exact r6 | exact r7 | exact r8) rfl ?_
              refine x_il c_Md_judgeLeaf_110 rfl ?_
              refine x_laldN c_Md_judgeLeaf_112 (by first | rfl | exact h0 | exact hA.1 | exact hA.2.2.1 | exact hA.2.2.2 | exact r6 | exact r7 | exact r8) (by omega) (by omega) ?_
              refine x_ls [_, _, _, _, _, _, _, _, _, _] c_Md_judgeLeaf_113 rfl ?_
              refine x_al c_Md_judgeLeaf_115 rfl ?_
              refine x_get c_Md_judgeLeaf_116 (by first | rfl | exact h0 | exact hA.1 | exact hA.2.2.1 | exact hA.2.2.2 | exact r6 | exact r7 | exact r8) rfl ?_
              refine x_il c_Md_judgeLeaf_119 rfl ?_
              refine x_ialdE c_Md_judgeLeaf_120 (by first | rfl | exact h0 | exact hA.1 | exact hA.2.2.1 | exact hA.2.2.2 | exact r6 | exact r7 | exact r8) (by omega) (by omega) (hk) ?_
              refine x_ci c_Md_judgeLeaf_121 ?_
              refine x_cmN_eq c_Md_judgeLeaf_124 (by omega) (by omega) (fun h => (by exfalso; omega)) (fun _ => ?_)
              refine x_al c_Md_judgeLeaf_127 rfl ?_
              refine x_get c_Md_judgeLeaf_128 (by first | rfl | exact h0 | exact hA.1 | exact hA.2.2.1 | exact hA.2.2.2 | exact r6 | exact r7 | exact r8) rfl ?_
              refine x_il c_Md_judgeLeaf_131 rfl ?_
              refine x_ialdE c_Md_judgeLeaf_132 (by first | rfl | exact h0 | exact hA.1 | exact hA.2.2.1 | exact hA.2.2.2 | exact r6 | exact r7 | exact r8) (by omega) (by omega) (hk) ?_
              refine x_ci c_Md_judgeLeaf_133 ?_
              refine x_cmN_ne c_Md_judgeLeaf_136 (by omega) (by omega) (fun h => (by exfalso; omega)) (fun _ => ?_)
              refine x_ll c_Md_judgeLeaf_139 rfl ?_
              refine x_al c_Md_judgeLeaf_141 rfl ?_
              refine x_get c_Md_judgeLeaf_142 (by first | rfl | exact h0 | exact hA.1 | exact hA.2.2.1 | exact hA.2.2.2 | exact r6 | exact r7 | exact r8) rfl ?_
              refine x_il c_Md_judgeLeaf_145 rfl ?_
              refine x_laldE c_Md_judgeLeaf_146 (by first | rfl | exact h0 | exact hA.1 | exact hA.2.2.1 | exact hA.2.2.2 | exact r6 | exact r7 | exact r8) (by omega) (by omega) (hv (by decide)) ?_
              refine x_lcmp c_Md_judgeLeaf_147 ?_
              refine x_ifL_ne c_Md_judgeLeaf_148 (fun h => absurd (hc) h) (fun _ => ?_)
              refine x_goto c_Md_judgeLeaf_151 ?_
              refine x_ci c_Md_judgeLeaf_193 ?_
              refine x_goto c_Md_judgeLeaf_194 ?_
              refine x_is [_, _, _, _, _, _, _, _, _, _] c_Md_judgeLeaf_198 rfl ?_
              refine x_il c_Md_judgeLeaf_200 rfl ?_
              refine x_ifB_ne c_Md_judgeLeaf_202 (fun h202 => ?_) (fun h202 => ?_)
              · refine x_ci c_Md_judgeLeaf_221 ?_
                refine x_goto c_Md_judgeLeaf_222 ?_
                refine x_is [_, _, _, _, _, _, _, _, _, _] c_Md_judgeLeaf_226 rfl ?_
                first | refine x_incN [_, _, _, _, _, _, _, _, _, _] c_Md_judgeLeaf_228 rfl rfl ?_ | refine x_inc [_, _, _, _, _, _, _, _, _, _] c_Md_judgeLeaf_228 rfl rfl ?_
                refine x_goto c_Md_judgeLeaf_231 ?_
                first | exact ih (k + 1) true _ _ _ _ (by omega) (by omega) (by rw [← hR, h202]; rfl) | exact ih (k + 1) false _ _ _ _ (by omega) (by omega) (by rw [← hR, h202, hn h213]; rfl) | exact ih (k + 1) true _ _ _ _ (by omega) (by omega) (by rw [← hR, h202, hy h213, hfit]; rfl)
              · refine x_al c_Md_judgeLeaf_205 rfl ?_
                refine x_get c_Md_judgeLeaf_206 (by first | rfl | exact h0 | exact hA.1 | exact hA.2.2.1 | exact hA.2.2.2 | exact r6 | exact r7 | exact r8) rfl ?_
                refine x_il c_Md_judgeLeaf_209 rfl ?_
                refine x_ialdN c_Md_judgeLeaf_211 (by first | rfl | exact h0 | exact hA.1 | exact hA.2.2.1 | exact hA.2.2.2 | exact r6 | exact r7 | exact r8) (by omega) (by omega) ?_
                refine x_il c_Md_judgeLeaf_212 rfl ?_
                refine x_cm_ne c_Md_judgeLeaf_213 (fun h213 => ?_) (fun h213 => ?_)
                · refine x_ci c_Md_judgeLeaf_225 ?_
                  refine x_is [_, _, _, _, _, _, _, _, _, _] c_Md_judgeLeaf_226 rfl ?_
                  first | refine x_incN [_, _, _, _, _, _, _, _, _, _] c_Md_judgeLeaf_228 rfl rfl ?_ | refine x_inc [_, _, _, _, _, _, _, _, _, _] c_Md_judgeLeaf_228 rfl rfl ?_
                  refine x_goto c_Md_judgeLeaf_231 ?_
                  first | exact ih (k + 1) true _ _ _ _ (by omega) (by omega) (by rw [← hR, h202]; rfl) | exact ih (k + 1) false _ _ _ _ (by omega) (by omega) (by rw [← hR, h202, hn h213]; rfl) | exact ih (k + 1) true _ _ _ _ (by omega) (by omega) (by rw [← hR, h202, hy h213, hfit]; rfl)
                · refine x_il c_Md_judgeLeaf_216 rfl ?_
                  refine x_ifN_eq c_Md_judgeLeaf_218 (by omega) (fun h => (by exfalso; omega)) (fun _ => ?_)
                  refine x_ci c_Md_judgeLeaf_221 ?_
                  refine x_goto c_Md_judgeLeaf_222 ?_
                  refine x_is [_, _, _, _, _, _, _, _, _, _] c_Md_judgeLeaf_226 rfl ?_
                  first | refine x_incN [_, _, _, _, _, _, _, _, _, _] c_Md_judgeLeaf_228 rfl rfl ?_ | refine x_inc [_, _, _, _, _, _, _, _, _, _] c_Md_judgeLeaf_228 rfl rfl ?_
                  refine x_goto c_Md_judgeLeaf_231 ?_
                  first | exact ih (k + 1) true _ _ _ _ (by omega) (by omega) (by rw [← hR, h202]; rfl) | exact ih (k + 1) false _ _ _ _ (by omega) (by omega) (by rw [← hR, h202, hn h213]; rfl) | exact ih (k + 1) true _ _ _ _ (by omega) (by omega) (by rw [← hR, h202, hy h213, hfit]; rfl)
            · have hfit : ftt 163 v (qv (6 * e + k)) = false := decide_eq_false hc
              refine x_il c_Md_judgeLeaf_90 rfl ?_
              refine x_ci c_Md_judgeLeaf_92 ?_
              refine x_il c_Md_judgeLeaf_94 rfl ?_
              first | refine x_imulN c_Md_judgeLeaf_95 ?_ | refine x_imul c_Md_judgeLeaf_95 ?_
              refine x_al c_Md_judgeLeaf_96 rfl ?_
              refine x_get c_Md_judgeLeaf_97 (by first | rfl | exact h0 | exact hA.1 | exact hA.2.2.1 | exact hA.2.2.2 | exact r6 | exact r7 | exact r8) rfl ?_
              refine x_il c_Md_judgeLeaf_100 rfl ?_
              refine x_ialdE c_Md_judgeLeaf_101 (by first | rfl | exact h0 | exact hA.1 | exact hA.2.2.1 | exact hA.2.2.2 | exact r6 | exact r7 | exact r8) (by omega) (by omega) (hme.2.2.1) ?_
              first | refine x_iaddN c_Md_judgeLeaf_102 ?_ | refine x_iadd c_Md_judgeLeaf_102 ?_
              refine x_cmN_ge c_Md_judgeLeaf_103 (by omega) (by omega) (fun h => (by exfalso; omega)) (fun _ => ?_)
              refine x_al c_Md_judgeLeaf_106 rfl ?_
              refine x_get c_Md_judgeLeaf_107 (by first | rfl | exact h0 | exact hA.1 | exact hA.2.2.1 | exact hA.2.2.2 | exact r6 | exact r7 | exact r8) rfl ?_
              refine x_il c_Md_judgeLeaf_110 rfl ?_
              refine x_laldN c_Md_judgeLeaf_112 (by first | rfl | exact h0 | exact hA.1 | exact hA.2.2.1 | exact hA.2.2.2 | exact r6 | exact r7 | exact r8) (by omega) (by omega) ?_
              refine x_ls [_, _, _, _, _, _, _, _, _, _] c_Md_judgeLeaf_113 rfl ?_
              refine x_al c_Md_judgeLeaf_115 rfl ?_
              refine x_get c_Md_judgeLeaf_116 (by first | rfl | exact h0 | exact hA.1 | exact hA.2.2.1 | exact hA.2.2.2 | exact r6 | exact r7 | exact r8) rfl ?_
              refine x_il c_Md_judgeLeaf_119 rfl ?_
              refine x_ialdE c_Md_judgeLeaf_120 (by first | rfl | exact h0 | exact hA.1 | exact hA.2.2.1 | exact hA.2.2.2 | exact r6 | exact r7 | exact r8) (by omega) (by omega) (hk) ?_
              refine x_ci c_Md_judgeLeaf_121 ?_
              refine x_cmN_eq c_Md_judgeLeaf_124 (by omega) (by omega) (fun h => (by exfalso; omega)) (fun _ => ?_)
              refine x_al c_Md_judgeLeaf_127 rfl ?_
              refine x_get c_Md_judgeLeaf_128 (by first | rfl | exact h0 | exact hA.1 | exact hA.2.2.1 | exact hA.2.2.2 | exact r6 | exact r7 | exact r8) rfl ?_
              refine x_il c_Md_judgeLeaf_131 rfl ?_
              refine x_ialdE c_Md_judgeLeaf_132 (by first | rfl | exact h0 | exact hA.1 | exact hA.2.2.1 | exact hA.2.2.2 | exact r6 | exact r7 | exact r8) (by omega) (by omega) (hk) ?_
              refine x_ci c_Md_judgeLeaf_133 ?_
              refine x_cmN_ne c_Md_judgeLeaf_136 (by omega) (by omega) (fun h => (by exfalso; omega)) (fun _ => ?_)
              refine x_ll c_Md_judgeLeaf_139 rfl ?_
              refine x_al c_Md_judgeLeaf_141 rfl ?_
              refine x_get c_Md_judgeLeaf_142 (by first | rfl | exact h0 | exact hA.1 | exact hA.2.2.1 | exact hA.2.2.2 | exact r6 | exact r7 | exact r8) rfl ?_
              refine x_il c_Md_judgeLeaf_145 rfl ?_
              refine x_laldE c_Md_judgeLeaf_146 (by first | rfl | exact h0 | exact hA.1 | exact hA.2.2.1 | exact hA.2.2.2 | exact r6 | exact r7 | exact r8) (by omega) (by omega) (hv (by decide)) ?_
              refine x_lcmp c_Md_judgeLeaf_147 ?_
              refine x_ifL_ne c_Md_judgeLeaf_148 (fun _ => ?_) (fun h => absurd h (hc))
              refine x_ci c_Md_judgeLeaf_197 ?_
              refine x_is [_, _, _, _, _, _, _, _, _, _] c_Md_judgeLeaf_198 rfl ?_
              refine x_il c_Md_judgeLeaf_200 rfl ?_
              refine x_ifB_ne c_Md_judgeLeaf_202 (fun h202 => ?_) (fun h202 => ?_)
              · refine x_ci c_Md_judgeLeaf_221 ?_
                refine x_goto c_Md_judgeLeaf_222 ?_
                refine x_is [_, _, _, _, _, _, _, _, _, _] c_Md_judgeLeaf_226 rfl ?_
                first | refine x_incN [_, _, _, _, _, _, _, _, _, _] c_Md_judgeLeaf_228 rfl rfl ?_ | refine x_inc [_, _, _, _, _, _, _, _, _, _] c_Md_judgeLeaf_228 rfl rfl ?_
                refine x_goto c_Md_judgeLeaf_231 ?_
                first | exact ih (k + 1) true _ _ _ _ (by omega) (by omega) (by rw [← hR, h202]; rfl) | exact ih (k + 1) false _ _ _ _ (by omega) (by omega) (by rw [← hR, h202, hn h213]; rfl) | exact ih (k + 1) false _ _ _ _ (by omega) (by omega) (by rw [← hR, h202, hy h213, hfit]; rfl)
              · refine x_al c_Md_judgeLeaf_205 rfl ?_
                refine x_get c_Md_judgeLeaf_206 (by first | rfl | exact h0 | exact hA.1 | exact hA.2.2.1 | exact hA.2.2.2 | exact r6 | exact r7 | exact r8) rfl ?_
                refine x_il c_Md_judgeLeaf_209 rfl ?_
                refine x_ialdN c_Md_judgeLeaf_211 (by first | rfl | exact h0 | exact hA.1 | exact hA.2.2.1 | exact hA.2.2.2 | exact r6 | exact r7 | exact r8) (by omega) (by omega) ?_
                refine x_il c_Md_judgeLeaf_212 rfl ?_
                refine x_cm_ne c_Md_judgeLeaf_213 (fun h213 => ?_) (fun h213 => ?_)
                · refine x_ci c_Md_judgeLeaf_225 ?_
                  refine x_is [_, _, _, _, _, _, _, _, _, _] c_Md_judgeLeaf_226 rfl ?_
                  first | refine x_incN [_, _, _, _, _, _, _, _, _, _] c_Md_judgeLeaf_228 rfl rfl ?_ | refine x_inc [_, _, _, _, _, _, _, _, _, _] c_Md_judgeLeaf_228 rfl rfl ?_
                  refine x_goto c_Md_judgeLeaf_231 ?_
                  first | exact ih (k + 1) true _ _ _ _ (by omega) (by omega) (by rw [← hR, h202]; rfl) | exact ih (k + 1) false _ _ _ _ (by omega) (by omega) (by rw [← hR, h202, hn h213]; rfl) | exact ih (k + 1) false _ _ _ _ (by omega) (by omega) (by rw [← hR, h202, hy h213, hfit]; rfl)
                · refine x_il c_Md_judgeLeaf_216 rfl ?_
                  refine x_ifN_eq c_Md_judgeLeaf_218 (by omega) (fun _ => ?_) (fun h => (by exfalso; omega))
                  refine x_ci c_Md_judgeLeaf_225 ?_
                  refine x_is [_, _, _, _, _, _, _, _, _, _] c_Md_judgeLeaf_226 rfl ?_
                  first | refine x_incN [_, _, _, _, _, _, _, _, _, _] c_Md_judgeLeaf_228 rfl rfl ?_ | refine x_inc [_, _, _, _, _, _, _, _, _, _] c_Md_judgeLeaf_228 rfl rfl ?_
                  refine x_goto c_Md_judgeLeaf_231 ?_
                  first | exact ih (k + 1) true _ _ _ _ (by omega) (by omega) (by rw [← hR, h202]; rfl) | exact ih (k + 1) false _ _ _ _ (by omega) (by omega) (by rw [← hR, h202, hn h213]; rfl) | exact ih (k + 1) false _ _ _ _ (by omega) (by omega) (by rw [← hR, h202, hy h213, hfit]; rfl)
        refine x_al c_Md_judgeLeaf_0 rfl ?_
        refine x_get c_Md_judgeLeaf_1 (by first | rfl | exact h0 | exact hA.1 | exact hA.2.2.1 | exact hA.2.2.2 | exact r6 | exact r7 | exact r8) rfl ?_
        refine x_il c_Md_judgeLeaf_4 rfl ?_
        refine x_ialdE c_Md_judgeLeaf_5 (by first | rfl | exact h0 | exact hA.1 | exact hA.2.2.1 | exact hA.2.2.2 | exact r6 | exact r7 | exact r8) (by omega) (by omega) (ht) ?_
        refine x_is [_, _, _, _, _, _, _, _, _, _] c_Md_judgeLeaf_6 rfl ?_
        refine x_al c_Md_judgeLeaf_7 rfl ?_
        refine x_get c_Md_judgeLeaf_8 (by first | rfl | exact h0 | exact hA.1 | exact hA.2.2.1 | exact hA.2.2.2 | exact r6 | exact r7 | exact r8) rfl ?_
        refine x_il c_Md_judgeLeaf_11 rfl ?_
        refine x_ialdE c_Md_judgeLeaf_12 (by first | rfl | exact h0 | exact hA.1 | exact hA.2.2.1 | exact hA.2.2.2 | exact r6 | exact r7 | exact r8) (by omega) (by omega) (hk) ?_
        refine x_ci c_Md_judgeLeaf_13 ?_
        refine x_cmN_eq c_Md_judgeLeaf_16 (by omega) (by omega) (fun h => (by exfalso; omega)) (fun _ => ?_)
        refine x_al c_Md_judgeLeaf_19 rfl ?_
        refine x_get c_Md_judgeLeaf_20 (by first | rfl | exact h0 | exact hA.1 | exact hA.2.2.1 | exact hA.2.2.2 | exact r6 | exact r7 | exact r8) rfl ?_
        refine x_il c_Md_judgeLeaf_23 rfl ?_
        refine x_ialdE c_Md_judgeLeaf_24 (by first | rfl | exact h0 | exact hA.1 | exact hA.2.2.1 | exact hA.2.2.2 | exact r6 | exact r7 | exact r8) (by omega) (by omega) (hk) ?_
        refine x_ci c_Md_judgeLeaf_25 ?_
        refine x_cmN_ne c_Md_judgeLeaf_28 (by omega) (by omega) (fun _ => ?_) (fun h => (by exfalso; omega))
        refine x_ci c_Md_judgeLeaf_35 ?_
        refine x_is [_, _, _, _, _, _, _, _, _, _] c_Md_judgeLeaf_36 rfl ?_
        refine x_il c_Md_judgeLeaf_38 rfl ?_
        refine x_ci c_Md_judgeLeaf_39 ?_
        refine x_cm_eq c_Md_judgeLeaf_40 (fun h => absurd h (hm1)) (fun _ => ?_)
        refine x_al c_Md_judgeLeaf_43 rfl ?_
        refine x_get c_Md_judgeLeaf_44 (by first | rfl | exact h0 | exact hA.1 | exact hA.2.2.1 | exact hA.2.2.2 | exact r6 | exact r7 | exact r8) rfl ?_
        refine x_il c_Md_judgeLeaf_47 rfl ?_
        refine x_ialdE c_Md_judgeLeaf_48 (by first | rfl | exact h0 | exact hA.1 | exact hA.2.2.1 | exact hA.2.2.2 | exact r6 | exact r7 | exact r8) (by omega) (by omega) (hk) ?_
        refine x_ci c_Md_judgeLeaf_49 ?_
        refine x_cmN_eq c_Md_judgeLeaf_52 (by omega) (by omega) (fun h => (by exfalso; omega)) (fun _ => ?_)
        refine x_al c_Md_judgeLeaf_55 rfl ?_
        refine x_get c_Md_judgeLeaf_56 (by first | rfl | exact h0 | exact hA.1 | exact hA.2.2.1 | exact hA.2.2.2 | exact r6 | exact r7 | exact r8) rfl ?_
        refine x_il c_Md_judgeLeaf_59 rfl ?_
        refine x_laldE c_Md_judgeLeaf_60 (by first | rfl | exact h0 | exact hA.1 | exact hA.2.2.1 | exact hA.2.2.2 | exact r6 | exact r7 | exact r8) (by omega) (by omega) (hv (by decide)) ?_
        refine x_cl c_Md_judgeLeaf_61 ?_
        refine x_lcmp c_Md_judgeLeaf_64 ?_
        refine x_ifL_eq c_Md_judgeLeaf_65 (fun h => absurd h (hvm)) (fun _ => ?_)
        refine x_il c_Md_judgeLeaf_68 rfl ?_
        refine x_if_eq c_Md_judgeLeaf_70 (fun _ => ?_) (fun h => absurd (by decide) h)
        refine x_ci c_Md_judgeLeaf_81 ?_
        refine x_is [_, _, _, _, _, _, _, _, _, _] c_Md_judgeLeaf_82 rfl ?_
        refine x_ci c_Md_judgeLeaf_84 ?_
        refine x_il c_Md_judgeLeaf_86 rfl ?_
        first | refine x_imulN c_Md_judgeLeaf_87 ?_ | refine x_imul c_Md_judgeLeaf_87 ?_
        refine x_is [_, _, _, _, _, _, _, _, _, _] c_Md_judgeLeaf_88 rfl ?_
        exact loop _ 0 false _ _ _ _ rfl (Nat.zero_le _) rfl
  · skip
    by_cases hm1 : ty = -1
    · skip
      refine x_al c_Md_judgeLeaf_0 rfl ?_
      refine x_get c_Md_judgeLeaf_1 (by first | rfl | exact h0 | exact hA.1 | exact hA.2.2.1 | exact hA.2.2.2 | exact r6 | exact r7 | exact r8) rfl ?_
      refine x_il c_Md_judgeLeaf_4 rfl ?_
      refine x_ialdE c_Md_judgeLeaf_5 (by first | rfl | exact h0 | exact hA.1 | exact hA.2.2.1 | exact hA.2.2.2 | exact r6 | exact r7 | exact r8) (by omega) (by omega) (ht) ?_
      refine x_is [_, _, _, _, _, _, _, _, _, _] c_Md_judgeLeaf_6 rfl ?_
      refine x_al c_Md_judgeLeaf_7 rfl ?_
      refine x_get c_Md_judgeLeaf_8 (by first | rfl | exact h0 | exact hA.1 | exact hA.2.2.1 | exact hA.2.2.2 | exact r6 | exact r7 | exact r8) rfl ?_
      refine x_il c_Md_judgeLeaf_11 rfl ?_
      refine x_ialdE c_Md_judgeLeaf_12 (by first | rfl | exact h0 | exact hA.1 | exact hA.2.2.1 | exact hA.2.2.2 | exact r6 | exact r7 | exact r8) (by omega) (by omega) (hk) ?_
      refine x_ci c_Md_judgeLeaf_13 ?_
      refine x_cmN_eq c_Md_judgeLeaf_16 (by omega) (by omega) (fun _ => ?_) (fun h => (by exfalso; omega))
      refine x_ci c_Md_judgeLeaf_31 ?_
      refine x_goto c_Md_judgeLeaf_32 ?_
      refine x_is [_, _, _, _, _, _, _, _, _, _] c_Md_judgeLeaf_36 rfl ?_
      refine x_il c_Md_judgeLeaf_38 rfl ?_
      refine x_ci c_Md_judgeLeaf_39 ?_
      refine x_cm_eq c_Md_judgeLeaf_40 (fun _ => ?_) (fun h => absurd (hm1) h)
      refine x_ci c_Md_judgeLeaf_79 ?_
      refine x_ri c_Md_judgeLeaf_80 ?_
      exact ⟨by rw [cv_1 (Or.inl hm1)] <;> rfl, rfl⟩
    · skip
      by_cases hvm : v = -1
      · skip
        refine x_al c_Md_judgeLeaf_0 rfl ?_
        refine x_get c_Md_judgeLeaf_1 (by first | rfl | exact h0 | exact hA.1 | exact hA.2.2.1 | exact hA.2.2.2 | exact r6 | exact r7 | exact r8) rfl ?_
        refine x_il c_Md_judgeLeaf_4 rfl ?_
        refine x_ialdE c_Md_judgeLeaf_5 (by first | rfl | exact h0 | exact hA.1 | exact hA.2.2.1 | exact hA.2.2.2 | exact r6 | exact r7 | exact r8) (by omega) (by omega) (ht) ?_
        refine x_is [_, _, _, _, _, _, _, _, _, _] c_Md_judgeLeaf_6 rfl ?_
        refine x_al c_Md_judgeLeaf_7 rfl ?_
        refine x_get c_Md_judgeLeaf_8 (by first | rfl | exact h0 | exact hA.1 | exact hA.2.2.1 | exact hA.2.2.2 | exact r6 | exact r7 | exact r8) rfl ?_
        refine x_il c_Md_judgeLeaf_11 rfl ?_
        refine x_ialdE c_Md_judgeLeaf_12 (by first | rfl | exact h0 | exact hA.1 | exact hA.2.2.1 | exact hA.2.2.2 | exact r6 | exact r7 | exact r8) (by omega) (by omega) (hk) ?_
        refine x_ci c_Md_judgeLeaf_13 ?_
        refine x_cmN_eq c_Md_judgeLeaf_16 (by omega) (by omega) (fun _ => ?_) (fun h => (by exfalso; omega))
        refine x_ci c_Md_judgeLeaf_31 ?_
        refine x_goto c_Md_judgeLeaf_32 ?_
        refine x_is [_, _, _, _, _, _, _, _, _, _] c_Md_judgeLeaf_36 rfl ?_
        refine x_il c_Md_judgeLeaf_38 rfl ?_
        refine x_ci c_Md_judgeLeaf_39 ?_
        refine x_cm_eq c_Md_judgeLeaf_40 (fun h => absurd h (hm1)) (fun _ => ?_)
        refine x_al c_Md_judgeLeaf_43 rfl ?_
        refine x_get c_Md_judgeLeaf_44 (by first | rfl | exact h0 | exact hA.1 | exact hA.2.2.1 | exact hA.2.2.2 | exact r6 | exact r7 | exact r8) rfl ?_
        refine x_il c_Md_judgeLeaf_47 rfl ?_
        refine x_ialdE c_Md_judgeLeaf_48 (by first | rfl | exact h0 | exact hA.1 | exact hA.2.2.1 | exact hA.2.2.2 | exact r6 | exact r7 | exact r8) (by omega) (by omega) (hk) ?_
        refine x_ci c_Md_judgeLeaf_49 ?_
        refine x_cmN_eq c_Md_judgeLeaf_52 (by omega) (by omega) (fun h => (by exfalso; omega)) (fun _ => ?_)
        refine x_al c_Md_judgeLeaf_55 rfl ?_
        refine x_get c_Md_judgeLeaf_56 (by first | rfl | exact h0 | exact hA.1 | exact hA.2.2.1 | exact hA.2.2.2 | exact r6 | exact r7 | exact r8) rfl ?_
        refine x_il c_Md_judgeLeaf_59 rfl ?_
        refine x_laldE c_Md_judgeLeaf_60 (by first | rfl | exact h0 | exact hA.1 | exact hA.2.2.1 | exact hA.2.2.2 | exact r6 | exact r7 | exact r8) (by omega) (by omega) (hv (by decide)) ?_
        refine x_cl c_Md_judgeLeaf_61 ?_
        refine x_lcmp c_Md_judgeLeaf_64 ?_
        refine x_ifL_eq c_Md_judgeLeaf_65 (fun _ => ?_) (fun h => absurd (hvm) h)
        refine x_ci c_Md_judgeLeaf_79 ?_
        refine x_ri c_Md_judgeLeaf_80 ?_
        exact ⟨by rw [cv_1 (Or.inr (Or.inl ⟨by decide, hvm⟩))] <;> rfl, rfl⟩
      · skip
        by_cases ho : ty < nI 100
        · skip
          refine x_al c_Md_judgeLeaf_0 rfl ?_
          refine x_get c_Md_judgeLeaf_1 (by first | rfl | exact h0 | exact hA.1 | exact hA.2.2.1 | exact hA.2.2.2 | exact r6 | exact r7 | exact r8) rfl ?_
          refine x_il c_Md_judgeLeaf_4 rfl ?_
          refine x_ialdE c_Md_judgeLeaf_5 (by first | rfl | exact h0 | exact hA.1 | exact hA.2.2.1 | exact hA.2.2.2 | exact r6 | exact r7 | exact r8) (by omega) (by omega) (ht) ?_
          refine x_is [_, _, _, _, _, _, _, _, _, _] c_Md_judgeLeaf_6 rfl ?_
          refine x_al c_Md_judgeLeaf_7 rfl ?_
          refine x_get c_Md_judgeLeaf_8 (by first | rfl | exact h0 | exact hA.1 | exact hA.2.2.1 | exact hA.2.2.2 | exact r6 | exact r7 | exact r8) rfl ?_
          refine x_il c_Md_judgeLeaf_11 rfl ?_
          refine x_ialdE c_Md_judgeLeaf_12 (by first | rfl | exact h0 | exact hA.1 | exact hA.2.2.1 | exact hA.2.2.2 | exact r6 | exact r7 | exact r8) (by omega) (by omega) (hk) ?_
          refine x_ci c_Md_judgeLeaf_13 ?_
          refine x_cmN_eq c_Md_judgeLeaf_16 (by omega) (by omega) (fun _ => ?_) (fun h => (by exfalso; omega))
          refine x_ci c_Md_judgeLeaf_31 ?_
          refine x_goto c_Md_judgeLeaf_32 ?_
          refine x_is [_, _, _, _, _, _, _, _, _, _] c_Md_judgeLeaf_36 rfl ?_
          refine x_il c_Md_judgeLeaf_38 rfl ?_
          refine x_ci c_Md_judgeLeaf_39 ?_
          refine x_cm_eq c_Md_judgeLeaf_40 (fun h => absurd h (hm1)) (fun _ => ?_)
          refine x_al c_Md_judgeLeaf_43 rfl ?_
          refine x_get c_Md_judgeLeaf_44 (by first | rfl | exact h0 | exact hA.1 | exact hA.2.2.1 | exact hA.2.2.2 | exact r6 | exact r7 | exact r8) rfl ?_
          refine x_il c_Md_judgeLeaf_47 rfl ?_
          refine x_ialdE c_Md_judgeLeaf_48 (by first | rfl | exact h0 | exact hA.1 | exact hA.2.2.1 | exact hA.2.2.2 | exact r6 | exact r7 | exact r8) (by omega) (by omega) (hk) ?_
          refine x_ci c_Md_judgeLeaf_49 ?_
          refine x_cmN_eq c_Md_judgeLeaf_52 (by omega) (by omega) (fun h => (by exfalso; omega)) (fun _ => ?_)
          refine x_al c_Md_judgeLeaf_55 rfl ?_
          refine x_get c_Md_judgeLeaf_56 (by first | rfl | exact h0 | exact hA.1 | exact hA.2.2.1 | exact hA.2.2.2 | exact r6 | exact r7 | exact r8) rfl ?_
          refine x_il c_Md_judgeLeaf_59 rfl ?_
          refine x_laldE c_Md_judgeLeaf_60 (by first | rfl | exact h0 | exact hA.1 | exact hA.2.2.1 | exact hA.2.2.2 | exact r6 | exact r7 | exact r8) (by omega) (by omega) (hv (by decide)) ?_
          refine x_cl c_Md_judgeLeaf_61 ?_
          refine x_lcmp c_Md_judgeLeaf_64 ?_
          refine x_ifL_eq c_Md_judgeLeaf_65 (fun h => absurd h (hvm)) (fun _ => ?_)
          refine x_il c_Md_judgeLeaf_68 rfl ?_
          refine x_if_eq c_Md_judgeLeaf_70 (fun h => absurd h (by decide)) (fun _ => ?_)
          refine x_il c_Md_judgeLeaf_73 rfl ?_
          refine x_ci c_Md_judgeLeaf_74 ?_
          refine x_cm_ge c_Md_judgeLeaf_76 (fun h => absurd h (Int32.not_le.mpr ho)) (fun _ => ?_)
          refine x_ci c_Md_judgeLeaf_79 ?_
          refine x_ri c_Md_judgeLeaf_80 ?_
          exact ⟨by rw [cv_1 (Or.inr (Or.inr ⟨by decide, ho⟩))] <;> rfl, rfl⟩
        · skip
          have hU : ¬ undf 165 ty v := by
            intro q
            rcases q with q | q | q
            · exact hm1 q
            · exact hvm q.2
            · exact ho q.2
          have loop : ∀ m k (b : Bool) (jo j7 j8 j9 : Option Value), (pr e).length - k = m → k ≤ (pr e).length → (b || ((pr e).drop k).any (fph 165 ty v)) = (pr e).any (fph 165 ty v) → kc_X (kC j_Md_judgeLeaf) (kc_Y kt kC d) (fun w μ' => w = some (.int (nI (cvt (lv1 (pr e) 165 ty v)))) ∧ μ' = μ) 90 [some (.ref 136), some (.int (nI f)), some (.int (nI e)), some (.int ty), jo, some (.int (bI b)), some (.int (nI (6 * e + k))), j7, j8, j9] [] μ (0, 0) := by
            intro m
            induction m with
            | zero =>
              intro k b jo j7 j8 j9 hm hk2 hR
              rw [List.drop_eq_nil_of_le (by omega), show (b || ([] : List tv).any (fph 165 ty v)) = b from Bool.or_false b] at hR
              refine x_il c_Md_judgeLeaf_90 rfl ?_
              refine x_ci c_Md_judgeLeaf_92 ?_
              refine x_il c_Md_judgeLeaf_94 rfl ?_
              first | refine x_imulN c_Md_judgeLeaf_95 ?_ | refine x_imul c_Md_judgeLeaf_95 ?_
              refine x_al c_Md_judgeLeaf_96 rfl ?_
              refine x_get c_Md_judgeLeaf_97 (by first | rfl | exact h0 | exact hA.1 | exact hA.2.2.1 | exact hA.2.2.2 | exact r6 | exact r7 | exact r8) rfl ?_
              refine x_il c_Md_judgeLeaf_100 rfl ?_
              refine x_ialdE c_Md_judgeLeaf_101 (by first | rfl | exact h0 | exact hA.1 | exact hA.2.2.1 | exact hA.2.2.2 | exact r6 | exact r7 | exact r8) (by omega) (by omega) (hme.2.2.1) ?_
              first | refine x_iaddN c_Md_judgeLeaf_102 ?_ | refine x_iadd c_Md_judgeLeaf_102 ?_
              refine x_cmN_ge c_Md_judgeLeaf_103 (by omega) (by omega) (fun _ => ?_) (fun h => (by exfalso; omega))
              refine x_il c_Md_judgeLeaf_234 rfl ?_
              refine x_ifB_eq c_Md_judgeLeaf_236 (fun h236 => ?_) (fun h236 => ?_)
              · refine x_ci c_Md_judgeLeaf_243 ?_
                refine x_ri c_Md_judgeLeaf_244 ?_
                first | exact ⟨by rw [cv_0 hU, ← any_b (by decide) _ hgd.2, ← hR, h236] <;> rfl, rfl⟩
              · refine x_ci c_Md_judgeLeaf_239 ?_
                refine x_goto c_Md_judgeLeaf_240 ?_
                refine x_ri c_Md_judgeLeaf_244 ?_
                first | exact ⟨by rw [cv_0 hU, ← any_b (by decide) _ hgd.2, ← hR, h236] <;> rfl, rfl⟩
            | succ m ih =>
              intro k b jo j7 j8 j9 hm hk2 hR
              have hq := hme.2.2.2 k (by omega)
              rw [any_s hq] at hR
              have hn : ¬ qt (6 * e + k) = ty → fph 165 ty v (qt (6 * e + k), qv (6 * e + k)) = false := fun q => by unfold fph; rw [decide_eq_false q]; rfl
              have hy : qt (6 * e + k) = ty → fph 165 ty v (qt (6 * e + k), qv (6 * e + k)) = ftt 165 v (qv (6 * e + k)) := fun q => by unfold fph; rw [decide_eq_true q]; rfl
              by_cases hc : v ≤ qv (6 * e + k)
              · have hfit : ftt 165 v (qv (6 * e + k)) = true := decide_eq_true hc
                refine x_il c_Md_judgeLeaf_90 rfl ?_
                refine x_ci c_Md_judgeLeaf_92 ?_
                refine x_il c_Md_judgeLeaf_94 rfl ?_
                first | refine x_imulN c_Md_judgeLeaf_95 ?_ | refine x_imul c_Md_judgeLeaf_95 ?_
                refine x_al c_Md_judgeLeaf_96 rfl ?_
                refine x_get c_Md_judgeLeaf_97 (by first | rfl | exact h0 | exact hA.1 | exact hA.2.2.1 | exact hA.2.2.2 | exact r6 | exact r7 | exact r8) rfl ?_
                refine x_il c_Md_judgeLeaf_100 rfl ?_
                refine x_ialdE c_Md_judgeLeaf_101 (by first | rfl | exact h0 | exact hA.1 | exact hA.2.2.1 | exact hA.2.2.2 | exact r6 | exact r7 | exact r8) (by omega) (by omega) (hme.2.2.1) ?_
                first | refine x_iaddN c_Md_judgeLeaf_102 ?_ | refine x_iadd c_Md_judgeLeaf_102 ?_
                refine x_cmN_ge c_Md_judgeLeaf_103 (by omega) (by omega) (fun h => (by exfalso; omega)) (fun _ => ?_)
                refine x_al c_Md_judgeLeaf_106 rfl ?_
                refine x_get c_Md_judgeLeaf_107 (by first | rfl | exact h0 | exact hA.1 | exact hA.2.2.1 | exact hA.2.2.2 | exact r6 | exact r7 | exact r8) rfl ?_
                refine x_il c_Md_judgeLeaf_110 rfl ?_
                refine x_laldN c_Md_judgeLeaf_112 (by first | rfl | exact h0 | exact hA.1 | exact hA.2.2.1 | exact hA.2.2.2 | exact r6 | exact r7 | exact r8) (by omega) (by omega) ?_
                refine x_ls [_, _, _, _, _, _, _, _, _, _] c_Md_judgeLeaf_113 rfl ?_
                refine x_al c_Md_judgeLeaf_115 rfl ?_
                refine x_get c_Md_judgeLeaf_116 (by first | rfl | exact h0 | exact hA.1 | exact hA.2.2.1 | exact hA.2.2.2 | exact r6 | exact r7 | exact r8) rfl ?_
                refine x_il c_Md_judgeLeaf_119 rfl ?_
                refine x_ialdE c_Md_judgeLeaf_120 (by first | rfl | exact h0 | exact hA.1 | exact hA.2.2.1 | exact hA.2.2.2 | exact r6 | exact r7 | exact r8) (by omega) (by omega) (hk) ?_
                refine x_ci c_Md_judgeLeaf_121 ?_
                refine x_cmN_eq c_Md_judgeLeaf_124 (by omega) (by omega) (fun h => (by exfalso; omega)) (fun _ => ?_)
                refine x_al c_Md_judgeLeaf_127 rfl ?_
                refine x_get c_Md_judgeLeaf_128 (by first | rfl | exact h0 | exact hA.1 | exact hA.2.2.1 | exact hA.2.2.2 | exact r6 | exact r7 | exact r8) rfl ?_
                refine x_il c_Md_judgeLeaf_131 rfl ?_
                refine x_ialdE c_Md_judgeLeaf_132 (by first | rfl | exact h0 | exact hA.1 | exact hA.2.2.1 | exact hA.2.2.2 | exact r6 | exact r7 | exact r8) (by omega) (by omega) (hk) ?_
                refine x_ci c_Md_judgeLeaf_133 ?_
                refine x_cmN_ne c_Md_judgeLeaf_136 (by omega) (by omega) (fun _ => ?_) (fun h => (by exfalso; omega))
                refine x_al c_Md_judgeLeaf_154 rfl ?_
                refine x_get c_Md_judgeLeaf_155 (by first | rfl | exact h0 | exact hA.1 | exact hA.2.2.1 | exact hA.2.2.2 | exact r6 | exact r7 | exact r8) rfl ?_
                refine x_il c_Md_judgeLeaf_158 rfl ?_
                refine x_ialdE c_Md_judgeLeaf_159 (by first | rfl | exact h0 | exact hA.1 | exact hA.2.2.1 | exact hA.2.2.2 | exact r6 | exact r7 | exact r8) (by omega) (by omega) (hk) ?_
                refine x_ci c_Md_judgeLeaf_160 ?_
                refine x_cmN_ne c_Md_judgeLeaf_163 (by omega) (by omega) (fun h => (by exfalso; omega)) (fun _ => ?_)
                refine x_ll c_Md_judgeLeaf_166 rfl ?_
                refine x_al c_Md_judgeLeaf_168 rfl ?_
                refine x_get c_Md_judgeLeaf_169 (by first | rfl | exact h0 | exact hA.1 | exact hA.2.2.1 | exact hA.2.2.2 | exact r6 | exact r7 | exact r8) rfl ?_
                refine x_il c_Md_judgeLeaf_172 rfl ?_
                refine x_laldE c_Md_judgeLeaf_173 (by first | rfl | exact h0 | exact hA.1 | exact hA.2.2.1 | exact hA.2.2.2 | exact r6 | exact r7 | exact r8) (by omega) (by omega) (hv (by decide)) ?_
                refine x_lcmp c_Md_judgeLeaf_174 ?_
                refine x_ifL_lt c_Md_judgeLeaf_175 (fun h => absurd h (Int64.not_lt.mpr hc)) (fun _ => ?_)
                refine x_goto c_Md_judgeLeaf_178 ?_
                refine x_ci c_Md_judgeLeaf_193 ?_
                refine x_goto c_Md_judgeLeaf_194 ?_
                refine x_is [_, _, _, _, _, _, _, _, _, _] c_Md_judgeLeaf_198 rfl ?_
                refine x_il c_Md_judgeLeaf_200 rfl ?_
                refine x_ifB_ne c_Md_judgeLeaf_202 (fun h202 => ?_) (fun h202 => ?_)
                · refine x_ci c_Md_judgeLeaf_221 ?_
                  refine x_goto c_Md_judgeLeaf_222 ?_
                  refine x_is [_, _, _, _, _, _, _, _, _, _] c_Md_judgeLeaf_226 rfl ?_
                  first | refine x_incN [_, _, _, _, _, _, _, _, _, _] c_Md_judgeLeaf_228 rfl rfl ?_ | refine x_inc [_, _, _, _, _, _, _, _, _, _] c_Md_judgeLeaf_228 rfl rfl ?_
                  refine x_goto c_Md_judgeLeaf_231 ?_
                  first | exact ih (k + 1) true _ _ _ _ (by omega) (by omega) (by rw [← hR, h202]; rfl) | exact ih (k + 1) false _ _ _ _ (by omega) (by omega) (by rw [← hR, h202, hn h213]; rfl) | exact ih (k + 1) true _ _ _ _ (by omega) (by omega) (by rw [← hR, h202, hy h213, hfit]; rfl)
                · refine x_al c_Md_judgeLeaf_205 rfl ?_
                  refine x_get c_Md_judgeLeaf_206 (by first | rfl | exact h0 | exact hA.1 | exact hA.2.2.1 | exact hA.2.2.2 | exact r6 | exact r7 | exact r8) rfl ?_
                  refine x_il c_Md_judgeLeaf_209 rfl ?_
                  refine x_ialdN c_Md_judgeLeaf_211 (by first | rfl | exact h0 | exact hA.1 | exact hA.2.2.1 | exact hA.2.2.2 | exact r6 | exact r7 | exact r8) (by omega) (by omega) ?_
                  refine x_il c_Md_judgeLeaf_212 rfl ?_
                  refine x_cm_ne c_Md_judgeLeaf_213 (fun h213 => ?_) (fun h213 => ?_)
                  · refine x_ci c_Md_judgeLeaf_225 ?_
                    refine x_is [_, _, _, _, _, _, _, _, _, _] c_Md_judgeLeaf_226 rfl ?_
                    first | refine x_incN [_, _, _, _, _, _, _, _, _, _] c_Md_judgeLeaf_228 rfl rfl ?_ | refine x_inc [_, _, _, _, _, _, _, _, _, _] c_Md_judgeLeaf_228 rfl rfl ?_
                    refine x_goto c_Md_judgeLeaf_231 ?_
                    first | exact ih (k + 1) true _ _ _ _ (by omega) (by omega) (by rw [← hR, h202]; rfl) | exact ih (k + 1) false _ _ _ _ (by omega) (by omega) (by rw [← hR, h202, hn h213]; rfl) | exact ih (k + 1) true _ _ _ _ (by omega) (by omega) (by rw [← hR, h202, hy h213, hfit]; rfl)
                  · refine x_il c_Md_judgeLeaf_216 rfl ?_
                    refine x_ifN_eq c_Md_judgeLeaf_218 (by omega) (fun h => (by exfalso; omega)) (fun _ => ?_)
                    refine x_ci c_Md_judgeLeaf_221 ?_
                    refine x_goto c_Md_judgeLeaf_222 ?_
                    refine x_is [_, _, _, _, _, _, _, _, _, _] c_Md_judgeLeaf_226 rfl ?_
                    first | refine x_incN [_, _, _, _, _, _, _, _, _, _] c_Md_judgeLeaf_228 rfl rfl ?_ | refine x_inc [_, _, _, _, _, _, _, _, _, _] c_Md_judgeLeaf_228 rfl rfl ?_
                    refine x_goto c_Md_judgeLeaf_231 ?_
                    first | exact ih (k + 1) true _ _ _ _ (by omega) (by omega) (by rw [← hR, h202]; rfl) | exact ih (k + 1) false _ _ _ _ (by omega) (by omega) (by rw [← hR, h202, hn h213]; rfl) | exact ih (k + 1) true _ _ _ _ (by omega) (by omega) (by rw [← hR, h202, hy h213, hfit]; rfl)
              · have hfit : ftt 165 v (qv (6 * e + k)) = false := decide_eq_false hc
                refine x_il c_Md_judgeLeaf_90 rfl ?_
                refine x_ci c_Md_judgeLeaf_92 ?_
                refine x_il c_Md_judgeLeaf_94 rfl ?_
                first | refine x_imulN c_Md_judgeLeaf_95 ?_ | refine x_imul c_Md_judgeLeaf_95 ?_
                refine x_al c_Md_judgeLeaf_96 rfl ?_
                refine x_get c_Md_judgeLeaf_97 (by first | rfl | exact h0 | exact hA.1 | exact hA.2.2.1 | exact hA.2.2.2 | exact r6 | exact r7 | exact r8) rfl ?_
                refine x_il c_Md_judgeLeaf_100 rfl ?_
                refine x_ialdE c_Md_judgeLeaf_101 (by first | rfl | exact h0 | exact hA.1 | exact hA.2.2.1 | exact hA.2.2.2 | exact r6 | exact r7 | exact r8) (by omega) (by omega) (hme.2.2.1) ?_
                first | refine x_iaddN c_Md_judgeLeaf_102 ?_ | refine x_iadd c_Md_judgeLeaf_102 ?_
                refine x_cmN_ge c_Md_judgeLeaf_103 (by omega) (by omega) (fun h => (by exfalso; omega)) (fun _ => ?_)
                refine x_al c_Md_judgeLeaf_106 rfl ?_
                refine x_get c_Md_judgeLeaf_107 (by first | rfl | exact h0 | exact hA.1 | exact hA.2.2.1 | exact hA.2.2.2 | exact r6 | exact r7 | exact r8) rfl ?_
                refine x_il c_Md_judgeLeaf_110 rfl ?_
                refine x_laldN c_Md_judgeLeaf_112 (by first | rfl | exact h0 | exact hA.1 | exact hA.2.2.1 | exact hA.2.2.2 | exact r6 | exact r7 | exact r8) (by omega) (by omega) ?_
                refine x_ls [_, _, _, _, _, _, _, _, _, _] c_Md_judgeLeaf_113 rfl ?_
                refine x_al c_Md_judgeLeaf_115 rfl ?_
                refine x_get c_Md_judgeLeaf_116 (by first | rfl | exact h0 | exact hA.1 | exact hA.2.2.1 | exact hA.2.2.2 | exact r6 | exact r7 | exact r8) rfl ?_
                refine x_il c_Md_judgeLeaf_119 rfl ?_
                refine x_ialdE c_Md_judgeLeaf_120 (by first | rfl | exact h0 | exact hA.1 | exact hA.2.2.1 | exact hA.2.2.2 | exact r6 | exact r7 | exact r8) (by omega) (by omega) (hk) ?_
                refine x_ci c_Md_judgeLeaf_121 ?_
                refine x_cmN_eq c_Md_judgeLeaf_124 (by omega) (by omega) (fun h => (by exfalso; omega)) (fun _ => ?_)
                refine x_al c_Md_judgeLeaf_127 rfl ?_
                refine x_get c_Md_judgeLeaf_128 (by first | rfl | exact h0 | exact hA.1 | exact hA.2.2.1 | exact hA.2.2.2 | exact r6 | exact r7 | exact r8) rfl ?_
                refine x_il c_Md_judgeLeaf_131 rfl ?_
                refine x_ialdE c_Md_judgeLeaf_132 (by first | rfl | exact h0 | exact hA.1 | exact hA.2.2.1 | exact hA.2.2.2 | exact r6 | exact r7 | exact r8) (by omega) (by omega) (hk) ?_
                refine x_ci c_Md_judgeLeaf_133 ?_
                refine x_cmN_ne c_Md_judgeLeaf_136 (by omega) (by omega) (fun _ => ?_) (fun h => (by exfalso; omega))
                refine x_al c_Md_judgeLeaf_154 rfl ?_
                refine x_get c_Md_judgeLeaf_155 (by first | rfl | exact h0 | exact hA.1 | exact hA.2.2.1 | exact hA.2.2.2 | exact r6 | exact r7 | exact r8) rfl ?_
                refine x_il c_Md_judgeLeaf_158 rfl ?_
                refine x_ialdE c_Md_judgeLeaf_159 (by first | rfl | exact h0 | exact hA.1 | exact hA.2.2.1 | exact hA.2.2.2 | exact r6 | exact r7 | exact r8) (by omega) (by omega) (hk) ?_
                refine x_ci c_Md_judgeLeaf_160 ?_
                refine x_cmN_ne c_Md_judgeLeaf_163 (by omega) (by omega) (fun h => (by exfalso; omega)) (fun _ => ?_)
                refine x_ll c_Md_judgeLeaf_166 rfl ?_
                refine x_al c_Md_judgeLeaf_168 rfl ?_
                refine x_get c_Md_judgeLeaf_169 (by first | rfl | exact h0 | exact hA.1 | exact hA.2.2.1 | exact hA.2.2.2 | exact r6 | exact r7 | exact r8) rfl ?_
                refine x_il c_Md_judgeLeaf_172 rfl ?_
                refine x_laldE c_Md_judgeLeaf_173 (by first | rfl | exact h0 | exact hA.1 | exact hA.2.2.1 | exact hA.2.2.2 | exact r6 | exact r7 | exact r8) (by omega) (by omega) (hv (by decide)) ?_
                refine x_lcmp c_Md_judgeLeaf_174 ?_
                refine x_ifL_lt c_Md_judgeLeaf_175 (fun _ => ?_) (fun h => absurd (Int64.not_le.mp hc) h)
                refine x_ci c_Md_judgeLeaf_197 ?_
                refine x_is [_, _, _, _, _, _, _, _, _, _] c_Md_judgeLeaf_198 rfl ?_
                refine x_il c_Md_judgeLeaf_200 rfl ?_
                refine x_ifB_ne c_Md_judgeLeaf_202 (fun h202 => ?_) (fun h202 => ?_)
                · refine x_ci c_Md_judgeLeaf_221 ?_
                  refine x_goto c_Md_judgeLeaf_222 ?_
                  refine x_is [_, _, _, _, _, _, _, _, _, _] c_Md_judgeLeaf_226 rfl ?_
                  first | refine x_incN [_, _, _, _, _, _, _, _, _, _] c_Md_judgeLeaf_228 rfl rfl ?_ | refine x_inc [_, _, _, _, _, _, _, _, _, _] c_Md_judgeLeaf_228 rfl rfl ?_
                  refine x_goto c_Md_judgeLeaf_231 ?_
                  first | exact ih (k + 1) true _ _ _ _ (by omega) (by omega) (by rw [← hR, h202]; rfl) | exact ih (k + 1) false _ _ _ _ (by omega) (by omega) (by rw [← hR, h202, hn h213]; rfl) | exact ih (k + 1) false _ _ _ _ (by omega) (by omega) (by rw [← hR, h202, hy h213, hfit]; rfl)
                · refine x_al c_Md_judgeLeaf_205 rfl ?_
                  refine x_get c_Md_judgeLeaf_206 (by first | rfl | exact h0 | exact hA.1 | exact hA.2.2.1 | exact hA.2.2.2 | exact r6 | exact r7 | exact r8) rfl ?_
                  refine x_il c_Md_judgeLeaf_209 rfl ?_
                  refine x_ialdN c_Md_judgeLeaf_211 (by first | rfl | exact h0 | exact hA.1 | exact hA.2.2.1 | exact hA.2.2.2 | exact r6 | exact r7 | exact r8) (by omega) (by omega) ?_
                  refine x_il c_Md_judgeLeaf_212 rfl ?_
                  refine x_cm_ne c_Md_judgeLeaf_213 (fun h213 => ?_) (fun h213 => ?_)
                  · refine x_ci c_Md_judgeLeaf_225 ?_
                    refine x_is [_, _, _, _, _, _, _, _, _, _] c_Md_judgeLeaf_226 rfl ?_
                    first | refine x_incN [_, _, _, _, _, _, _, _, _, _] c_Md_judgeLeaf_228 rfl rfl ?_ | refine x_inc [_, _, _, _, _, _, _, _, _, _] c_Md_judgeLeaf_228 rfl rfl ?_
                    refine x_goto c_Md_judgeLeaf_231 ?_
                    first | exact ih (k + 1) true _ _ _ _ (by omega) (by omega) (by rw [← hR, h202]; rfl) | exact ih (k + 1) false _ _ _ _ (by omega) (by omega) (by rw [← hR, h202, hn h213]; rfl) | exact ih (k + 1) false _ _ _ _ (by omega) (by omega) (by rw [← hR, h202, hy h213, hfit]; rfl)
                  · refine x_il c_Md_judgeLeaf_216 rfl ?_
                    refine x_ifN_eq c_Md_judgeLeaf_218 (by omega) (fun _ => ?_) (fun h => (by exfalso; omega))
                    refine x_ci c_Md_judgeLeaf_225 ?_
                    refine x_is [_, _, _, _, _, _, _, _, _, _] c_Md_judgeLeaf_226 rfl ?_
                    first | refine x_incN [_, _, _, _, _, _, _, _, _, _] c_Md_judgeLeaf_228 rfl rfl ?_ | refine x_inc [_, _, _, _, _, _, _, _, _, _] c_Md_judgeLeaf_228 rfl rfl ?_
                    refine x_goto c_Md_judgeLeaf_231 ?_
                    first | exact ih (k + 1) true _ _ _ _ (by omega) (by omega) (by rw [← hR, h202]; rfl) | exact ih (k + 1) false _ _ _ _ (by omega) (by omega) (by rw [← hR, h202, hn h213]; rfl) | exact ih (k + 1) false _ _ _ _ (by omega) (by omega) (by rw [← hR, h202, hy h213, hfit]; rfl)
          refine x_al c_Md_judgeLeaf_0 rfl ?_
          refine x_get c_Md_judgeLeaf_1 (by first | rfl | exact h0 | exact hA.1 | exact hA.2.2.1 | exact hA.2.2.2 | exact r6 | exact r7 | exact r8) rfl ?_
          refine x_il c_Md_judgeLeaf_4 rfl ?_
          refine x_ialdE c_Md_judgeLeaf_5 (by first | rfl | exact h0 | exact hA.1 | exact hA.2.2.1 | exact hA.2.2.2 | exact r6 | exact r7 | exact r8) (by omega) (by omega) (ht) ?_
          refine x_is [_, _, _, _, _, _, _, _, _, _] c_Md_judgeLeaf_6 rfl ?_
          refine x_al c_Md_judgeLeaf_7 rfl ?_
          refine x_get c_Md_judgeLeaf_8 (by first | rfl | exact h0 | exact hA.1 | exact hA.2.2.1 | exact hA.2.2.2 | exact r6 | exact r7 | exact r8) rfl ?_
          refine x_il c_Md_judgeLeaf_11 rfl ?_
          refine x_ialdE c_Md_judgeLeaf_12 (by first | rfl | exact h0 | exact hA.1 | exact hA.2.2.1 | exact hA.2.2.2 | exact r6 | exact r7 | exact r8) (by omega) (by omega) (hk) ?_
          refine x_ci c_Md_judgeLeaf_13 ?_
          refine x_cmN_eq c_Md_judgeLeaf_16 (by omega) (by omega) (fun _ => ?_) (fun h => (by exfalso; omega))
          refine x_ci c_Md_judgeLeaf_31 ?_
          refine x_goto c_Md_judgeLeaf_32 ?_
          refine x_is [_, _, _, _, _, _, _, _, _, _] c_Md_judgeLeaf_36 rfl ?_
          refine x_il c_Md_judgeLeaf_38 rfl ?_
          refine x_ci c_Md_judgeLeaf_39 ?_
          refine x_cm_eq c_Md_judgeLeaf_40 (fun h => absurd h (hm1)) (fun _ => ?_)
          refine x_al c_Md_judgeLeaf_43 rfl ?_
          refine x_get c_Md_judgeLeaf_44 (by first | rfl | exact h0 | exact hA.1 | exact hA.2.2.1 | exact hA.2.2.2 | exact r6 | exact r7 | exact r8) rfl ?_
          refine x_il c_Md_judgeLeaf_47 rfl ?_
          refine x_ialdE c_Md_judgeLeaf_48 (by first | rfl | exact h0 | exact hA.1 | exact hA.2.2.1 | exact hA.2.2.2 | exact r6 | exact r7 | exact r8) (by omega) (by omega) (hk) ?_
          refine x_ci c_Md_judgeLeaf_49 ?_
          refine x_cmN_eq c_Md_judgeLeaf_52 (by omega) (by omega) (fun h => (by exfalso; omega)) (fun _ => ?_)
          refine x_al c_Md_judgeLeaf_55 rfl ?_
          refine x_get c_Md_judgeLeaf_56 (by first | rfl | exact h0 | exact hA.1 | exact hA.2.2.1 | exact hA.2.2.2 | exact r6 | exact r7 | exact r8) rfl ?_
          refine x_il c_Md_judgeLeaf_59 rfl ?_
          refine x_laldE c_Md_judgeLeaf_60 (by first | rfl | exact h0 | exact hA.1 | exact hA.2.2.1 | exact hA.2.2.2 | exact r6 | exact r7 | exact r8) (by omega) (by omega) (hv (by decide)) ?_
          refine x_cl c_Md_judgeLeaf_61 ?_
          refine x_lcmp c_Md_judgeLeaf_64 ?_
          refine x_ifL_eq c_Md_judgeLeaf_65 (fun h => absurd h (hvm)) (fun _ => ?_)
          refine x_il c_Md_judgeLeaf_68 rfl ?_
          refine x_if_eq c_Md_judgeLeaf_70 (fun h => absurd h (by decide)) (fun _ => ?_)
          refine x_il c_Md_judgeLeaf_73 rfl ?_
          refine x_ci c_Md_judgeLeaf_74 ?_
          refine x_cm_ge c_Md_judgeLeaf_76 (fun _ => ?_) (fun h => absurd (Int32.not_lt.mp ho) h)
          refine x_ci c_Md_judgeLeaf_81 ?_
          refine x_is [_, _, _, _, _, _, _, _, _, _] c_Md_judgeLeaf_82 rfl ?_
          refine x_ci c_Md_judgeLeaf_84 ?_
          refine x_il c_Md_judgeLeaf_86 rfl ?_
          first | refine x_imulN c_Md_judgeLeaf_87 ?_ | refine x_imul c_Md_judgeLeaf_87 ?_
          refine x_is [_, _, _, _, _, _, _, _, _, _] c_Md_judgeLeaf_88 rfl ?_
          exact loop _ 0 false _ _ _ _ rfl (Nat.zero_le _) rfl
  · skip
    by_cases hm1 : ty = -1
    · skip
      refine x_al c_Md_judgeLeaf_0 rfl ?_
      refine x_get c_Md_judgeLeaf_1 (by first | rfl | exact h0 | exact hA.1 | exact hA.2.2.1 | exact hA.2.2.2 | exact r6 | exact r7 | exact r8) rfl ?_
      refine x_il c_Md_judgeLeaf_4 rfl ?_
      refine x_ialdE c_Md_judgeLeaf_5 (by first | rfl | exact h0 | exact hA.1 | exact hA.2.2.1 | exact hA.2.2.2 | exact r6 | exact r7 | exact r8) (by omega) (by omega) (ht) ?_
      refine x_is [_, _, _, _, _, _, _, _, _, _] c_Md_judgeLeaf_6 rfl ?_
      refine x_al c_Md_judgeLeaf_7 rfl ?_
      refine x_get c_Md_judgeLeaf_8 (by first | rfl | exact h0 | exact hA.1 | exact hA.2.2.1 | exact hA.2.2.2 | exact r6 | exact r7 | exact r8) rfl ?_
      refine x_il c_Md_judgeLeaf_11 rfl ?_
      refine x_ialdE c_Md_judgeLeaf_12 (by first | rfl | exact h0 | exact hA.1 | exact hA.2.2.1 | exact hA.2.2.2 | exact r6 | exact r7 | exact r8) (by omega) (by omega) (hk) ?_
      refine x_ci c_Md_judgeLeaf_13 ?_
      refine x_cmN_eq c_Md_judgeLeaf_16 (by omega) (by omega) (fun h => (by exfalso; omega)) (fun _ => ?_)
      refine x_al c_Md_judgeLeaf_19 rfl ?_
      refine x_get c_Md_judgeLeaf_20 (by first | rfl | exact h0 | exact hA.1 | exact hA.2.2.1 | exact hA.2.2.2 | exact r6 | exact r7 | exact r8) rfl ?_
      refine x_il c_Md_judgeLeaf_23 rfl ?_
      refine x_ialdE c_Md_judgeLeaf_24 (by first | rfl | exact h0 | exact hA.1 | exact hA.2.2.1 | exact hA.2.2.2 | exact r6 | exact r7 | exact r8) (by omega) (by omega) (hk) ?_
      refine x_ci c_Md_judgeLeaf_25 ?_
      refine x_cmN_ne c_Md_judgeLeaf_28 (by omega) (by omega) (fun h => (by exfalso; omega)) (fun _ => ?_)
      refine x_ci c_Md_judgeLeaf_31 ?_
      refine x_goto c_Md_judgeLeaf_32 ?_
      refine x_is [_, _, _, _, _, _, _, _, _, _] c_Md_judgeLeaf_36 rfl ?_
      refine x_il c_Md_judgeLeaf_38 rfl ?_
      refine x_ci c_Md_judgeLeaf_39 ?_
      refine x_cm_eq c_Md_judgeLeaf_40 (fun _ => ?_) (fun h => absurd (hm1) h)
      refine x_ci c_Md_judgeLeaf_79 ?_
      refine x_ri c_Md_judgeLeaf_80 ?_
      exact ⟨by rw [cv_1 (Or.inl hm1)] <;> rfl, rfl⟩
    · skip
      by_cases hvm : v = -1
      · skip
        refine x_al c_Md_judgeLeaf_0 rfl ?_
        refine x_get c_Md_judgeLeaf_1 (by first | rfl | exact h0 | exact hA.1 | exact hA.2.2.1 | exact hA.2.2.2 | exact r6 | exact r7 | exact r8) rfl ?_
        refine x_il c_Md_judgeLeaf_4 rfl ?_
        refine x_ialdE c_Md_judgeLeaf_5 (by first | rfl | exact h0 | exact hA.1 | exact hA.2.2.1 | exact hA.2.2.2 | exact r6 | exact r7 | exact r8) (by omega) (by omega) (ht) ?_
        refine x_is [_, _, _, _, _, _, _, _, _, _] c_Md_judgeLeaf_6 rfl ?_
        refine x_al c_Md_judgeLeaf_7 rfl ?_
        refine x_get c_Md_judgeLeaf_8 (by first | rfl | exact h0 | exact hA.1 | exact hA.2.2.1 | exact hA.2.2.2 | exact r6 | exact r7 | exact r8) rfl ?_
        refine x_il c_Md_judgeLeaf_11 rfl ?_
        refine x_ialdE c_Md_judgeLeaf_12 (by first | rfl | exact h0 | exact hA.1 | exact hA.2.2.1 | exact hA.2.2.2 | exact r6 | exact r7 | exact r8) (by omega) (by omega) (hk) ?_
        refine x_ci c_Md_judgeLeaf_13 ?_
        refine x_cmN_eq c_Md_judgeLeaf_16 (by omega) (by omega) (fun h => (by exfalso; omega)) (fun _ => ?_)
        refine x_al c_Md_judgeLeaf_19 rfl ?_
        refine x_get c_Md_judgeLeaf_20 (by first | rfl | exact h0 | exact hA.1 | exact hA.2.2.1 | exact hA.2.2.2 | exact r6 | exact r7 | exact r8) rfl ?_
        refine x_il c_Md_judgeLeaf_23 rfl ?_
        refine x_ialdE c_Md_judgeLeaf_24 (by first | rfl | exact h0 | exact hA.1 | exact hA.2.2.1 | exact hA.2.2.2 | exact r6 | exact r7 | exact r8) (by omega) (by omega) (hk) ?_
        refine x_ci c_Md_judgeLeaf_25 ?_
        refine x_cmN_ne c_Md_judgeLeaf_28 (by omega) (by omega) (fun h => (by exfalso; omega)) (fun _ => ?_)
        refine x_ci c_Md_judgeLeaf_31 ?_
        refine x_goto c_Md_judgeLeaf_32 ?_
        refine x_is [_, _, _, _, _, _, _, _, _, _] c_Md_judgeLeaf_36 rfl ?_
        refine x_il c_Md_judgeLeaf_38 rfl ?_
        refine x_ci c_Md_judgeLeaf_39 ?_
        refine x_cm_eq c_Md_judgeLeaf_40 (fun h => absurd h (hm1)) (fun _ => ?_)
        refine x_al c_Md_judgeLeaf_43 rfl ?_
        refine x_get c_Md_judgeLeaf_44 (by first | rfl | exact h0 | exact hA.1 | exact hA.2.2.1 | exact hA.2.2.2 | exact r6 | exact r7 | exact r8) rfl ?_
        refine x_il c_Md_judgeLeaf_47 rfl ?_
        refine x_ialdE c_Md_judgeLeaf_48 (by first | rfl | exact h0 | exact hA.1 | exact hA.2.2.1 | exact hA.2.2.2 | exact r6 | exact r7 | exact r8) (by omega) (by omega) (hk) ?_
        refine x_ci c_Md_judgeLeaf_49 ?_
        refine x_cmN_eq c_Md_judgeLeaf_52 (by omega) (by omega) (fun h => (by exfalso; omega)) (fun _ => ?_)
        refine x_al c_Md_judgeLeaf_55 rfl ?_
        refine x_get c_Md_judgeLeaf_56 (by first | rfl | exact h0 | exact hA.1 | exact hA.2.2.1 | exact hA.2.2.2 | exact r6 | exact r7 | exact r8) rfl ?_
        refine x_il c_Md_judgeLeaf_59 rfl ?_
        refine x_laldE c_Md_judgeLeaf_60 (by first | rfl | exact h0 | exact hA.1 | exact hA.2.2.1 | exact hA.2.2.2 | exact r6 | exact r7 | exact r8) (by omega) (by omega) (hv (by decide)) ?_
        refine x_cl c_Md_judgeLeaf_61 ?_
        refine x_lcmp c_Md_judgeLeaf_64 ?_
        refine x_ifL_eq c_Md_judgeLeaf_65 (fun _ => ?_) (fun h => absurd (hvm) h)
        refine x_ci c_Md_judgeLeaf_79 ?_
        refine x_ri c_Md_judgeLeaf_80 ?_
        exact ⟨by rw [cv_1 (Or.inr (Or.inl ⟨by decide, hvm⟩))] <;> rfl, rfl⟩
      · skip
        by_cases ho : ty < nI 100
        · skip
          refine x_al c_Md_judgeLeaf_0 rfl ?_
          refine x_get c_Md_judgeLeaf_1 (by first | rfl | exact h0 | exact hA.1 | exact hA.2.2.1 | exact hA.2.2.2 | exact r6 | exact r7 | exact r8) rfl ?_
          refine x_il c_Md_judgeLeaf_4 rfl ?_
          refine x_ialdE c_Md_judgeLeaf_5 (by first | rfl | exact h0 | exact hA.1 | exact hA.2.2.1 | exact hA.2.2.2 | exact r6 | exact r7 | exact r8) (by omega) (by omega) (ht) ?_
          refine x_is [_, _, _, _, _, _, _, _, _, _] c_Md_judgeLeaf_6 rfl ?_
          refine x_al c_Md_judgeLeaf_7 rfl ?_
          refine x_get c_Md_judgeLeaf_8 (by first | rfl | exact h0 | exact hA.1 | exact hA.2.2.1 | exact hA.2.2.2 | exact r6 | exact r7 | exact r8) rfl ?_
          refine x_il c_Md_judgeLeaf_11 rfl ?_
          refine x_ialdE c_Md_judgeLeaf_12 (by first | rfl | exact h0 | exact hA.1 | exact hA.2.2.1 | exact hA.2.2.2 | exact r6 | exact r7 | exact r8) (by omega) (by omega) (hk) ?_
          refine x_ci c_Md_judgeLeaf_13 ?_
          refine x_cmN_eq c_Md_judgeLeaf_16 (by omega) (by omega) (fun h => (by exfalso; omega)) (fun _ => ?_)
          refine x_al c_Md_judgeLeaf_19 rfl ?_
          refine x_get c_Md_judgeLeaf_20 (by first | rfl | exact h0 | exact hA.1 | exact hA.2.2.1 | exact hA.2.2.2 | exact r6 | exact r7 | exact r8) rfl ?_
          refine x_il c_Md_judgeLeaf_23 rfl ?_
          refine x_ialdE c_Md_judgeLeaf_24 (by first | rfl | exact h0 | exact hA.1 | exact hA.2.2.1 | exact hA.2.2.2 | exact r6 | exact r7 | exact r8) (by omega) (by omega) (hk) ?_
          refine x_ci c_Md_judgeLeaf_25 ?_
          refine x_cmN_ne c_Md_judgeLeaf_28 (by omega) (by omega) (fun h => (by exfalso; omega)) (fun _ => ?_)
          refine x_ci c_Md_judgeLeaf_31 ?_
          refine x_goto c_Md_judgeLeaf_32 ?_
          refine x_is [_, _, _, _, _, _, _, _, _, _] c_Md_judgeLeaf_36 rfl ?_
          refine x_il c_Md_judgeLeaf_38 rfl ?_
          refine x_ci c_Md_judgeLeaf_39 ?_
          refine x_cm_eq c_Md_judgeLeaf_40 (fun h => absurd h (hm1)) (fun _ => ?_)
          refine x_al c_Md_judgeLeaf_43 rfl ?_
          refine x_get c_Md_judgeLeaf_44 (by first | rfl | exact h0 | exact hA.1 | exact hA.2.2.1 | exact hA.2.2.2 | exact r6 | exact r7 | exact r8) rfl ?_
          refine x_il c_Md_judgeLeaf_47 rfl ?_
          refine x_ialdE c_Md_judgeLeaf_48 (by first | rfl | exact h0 | exact hA.1 | exact hA.2.2.1 | exact hA.2.2.2 | exact r6 | exact r7 | exact r8) (by omega) (by omega) (hk) ?_
          refine x_ci c_Md_judgeLeaf_49 ?_
          refine x_cmN_eq c_Md_judgeLeaf_52 (by omega) (by omega) (fun h => (by exfalso; omega)) (fun _ => ?_)
          refine x_al c_Md_judgeLeaf_55 rfl ?_
          refine x_get c_Md_judgeLeaf_56 (by first | rfl | exact h0 | exact hA.1 | exact hA.2.2.1 | exact hA.2.2.2 | exact r6 | exact r7 | exact r8) rfl ?_
          refine x_il c_Md_judgeLeaf_59 rfl ?_
          refine x_laldE c_Md_judgeLeaf_60 (by first | rfl | exact h0 | exact hA.1 | exact hA.2.2.1 | exact hA.2.2.2 | exact r6 | exact r7 | exact r8) (by omega) (by omega) (hv (by decide)) ?_
          refine x_cl c_Md_judgeLeaf_61 ?_
          refine x_lcmp c_Md_judgeLeaf_64 ?_
          refine x_ifL_eq c_Md_judgeLeaf_65 (fun h => absurd h (hvm)) (fun _ => ?_)
          refine x_il c_Md_judgeLeaf_68 rfl ?_
          refine x_if_eq c_Md_judgeLeaf_70 (fun h => absurd h (by decide)) (fun _ => ?_)
          refine x_il c_Md_judgeLeaf_73 rfl ?_
          refine x_ci c_Md_judgeLeaf_74 ?_
          refine x_cm_ge c_Md_judgeLeaf_76 (fun h => absurd h (Int32.not_le.mpr ho)) (fun _ => ?_)
          refine x_ci c_Md_judgeLeaf_79 ?_
          refine x_ri c_Md_judgeLeaf_80 ?_
          exact ⟨by rw [cv_1 (Or.inr (Or.inr ⟨by decide, ho⟩))] <;> rfl, rfl⟩
        · skip
          have hU : ¬ undf 166 ty v := by
            intro q
            rcases q with q | q | q
            · exact hm1 q
            · exact hvm q.2
            · exact ho q.2
          have loop : ∀ m k (b : Bool) (jo j7 j8 j9 : Option Value), (pr e).length - k = m → k ≤ (pr e).length → (b || ((pr e).drop k).any (fph 166 ty v)) = (pr e).any (fph 166 ty v) → kc_X (kC j_Md_judgeLeaf) (kc_Y kt kC d) (fun w μ' => w = some (.int (nI (cvt (lv1 (pr e) 166 ty v)))) ∧ μ' = μ) 90 [some (.ref 136), some (.int (nI f)), some (.int (nI e)), some (.int ty), jo, some (.int (bI b)), some (.int (nI (6 * e + k))), j7, j8, j9] [] μ (0, 0) := by
            intro m
            induction m with
            | zero =>
              intro k b jo j7 j8 j9 hm hk2 hR
              rw [List.drop_eq_nil_of_le (by omega), show (b || ([] : List tv).any (fph 166 ty v)) = b from Bool.or_false b] at hR
              refine x_il c_Md_judgeLeaf_90 rfl ?_
              refine x_ci c_Md_judgeLeaf_92 ?_
              refine x_il c_Md_judgeLeaf_94 rfl ?_
              first | refine x_imulN c_Md_judgeLeaf_95 ?_ | refine x_imul c_Md_judgeLeaf_95 ?_
              refine x_al c_Md_judgeLeaf_96 rfl ?_
              refine x_get c_Md_judgeLeaf_97 (by first | rfl | exact h0 | exact hA.1 | exact hA.2.2.1 | exact hA.2.2.2 | exact r6 | exact r7 | exact r8) rfl ?_
              refine x_il c_Md_judgeLeaf_100 rfl ?_
              refine x_ialdE c_Md_judgeLeaf_101 (by first | rfl | exact h0 | exact hA.1 | exact hA.2.2.1 | exact hA.2.2.2 | exact r6 | exact r7 | exact r8) (by omega) (by omega) (hme.2.2.1) ?_
              first | refine x_iaddN c_Md_judgeLeaf_102 ?_ | refine x_iadd c_Md_judgeLeaf_102 ?_
              refine x_cmN_ge c_Md_judgeLeaf_103 (by omega) (by omega) (fun _ => ?_) (fun h => (by exfalso; omega))
              refine x_il c_Md_judgeLeaf_234 rfl ?_
              refine x_ifB_eq c_Md_judgeLeaf_236 (fun h236 => ?_) (fun h236 => ?_)
              · refine x_ci c_Md_judgeLeaf_243 ?_
                refine x_ri c_Md_judgeLeaf_244 ?_
                first | exact ⟨by rw [cv_0 hU, ← any_b (by decide) _ hgd.2, ← hR, h236] <;> rfl, rfl⟩
              · refine x_ci c_Md_judgeLeaf_239 ?_
                refine x_goto c_Md_judgeLeaf_240 ?_
                refine x_ri c_Md_judgeLeaf_244 ?_
                first | exact ⟨by rw [cv_0 hU, ← any_b (by decide) _ hgd.2, ← hR, h236] <;> rfl, rfl⟩
            | succ m ih =>
              intro k b jo j7 j8 j9 hm hk2 hR
              have hq := hme.2.2.2 k (by omega)
              rw [any_s hq] at hR
              have hn : ¬ qt (6 * e + k) = ty → fph 166 ty v (qt (6 * e + k), qv (6 * e + k)) = false := fun q => by unfold fph; rw [decide_eq_false q]; rfl
              have hy : qt (6 * e + k) = ty → fph 166 ty v (qt (6 * e + k), qv (6 * e + k)) = ftt 166 v (qv (6 * e + k)) := fun q => by unfold fph; rw [decide_eq_true q]; rfl
              by_cases hc : qv (6 * e + k) ≤ v
              · have hfit : ftt 166 v (qv (6 * e + k)) = true := decide_eq_true hc
                refine x_il c_Md_judgeLeaf_90 rfl ?_
                refine x_ci c_Md_judgeLeaf_92 ?_
                refine x_il c_Md_judgeLeaf_94 rfl ?_
                first | refine x_imulN c_Md_judgeLeaf_95 ?_ | refine x_imul c_Md_judgeLeaf_95 ?_
                refine x_al c_Md_judgeLeaf_96 rfl ?_
                refine x_get c_Md_judgeLeaf_97 (by first | rfl | exact h0 | exact hA.1 | exact hA.2.2.1 | exact hA.2.2.2 | exact r6 | exact r7 | exact r8) rfl ?_
                refine x_il c_Md_judgeLeaf_100 rfl ?_
                refine x_ialdE c_Md_judgeLeaf_101 (by first | rfl | exact h0 | exact hA.1 | exact hA.2.2.1 | exact hA.2.2.2 | exact r6 | exact r7 | exact r8) (by omega) (by omega) (hme.2.2.1) ?_
                first | refine x_iaddN c_Md_judgeLeaf_102 ?_ | refine x_iadd c_Md_judgeLeaf_102 ?_
                refine x_cmN_ge c_Md_judgeLeaf_103 (by omega) (by omega) (fun h => (by exfalso; omega)) (fun _ => ?_)
                refine x_al c_Md_judgeLeaf_106 rfl ?_
                refine x_get c_Md_judgeLeaf_107 (by first | rfl | exact h0 | exact hA.1 | exact hA.2.2.1 | exact hA.2.2.2 | exact r6 | exact r7 | exact r8) rfl ?_
                refine x_il c_Md_judgeLeaf_110 rfl ?_
                refine x_laldN c_Md_judgeLeaf_112 (by first | rfl | exact h0 | exact hA.1 | exact hA.2.2.1 | exact hA.2.2.2 | exact r6 | exact r7 | exact r8) (by omega) (by omega) ?_
                refine x_ls [_, _, _, _, _, _, _, _, _, _] c_Md_judgeLeaf_113 rfl ?_
                refine x_al c_Md_judgeLeaf_115 rfl ?_
                refine x_get c_Md_judgeLeaf_116 (by first | rfl | exact h0 | exact hA.1 | exact hA.2.2.1 | exact hA.2.2.2 | exact r6 | exact r7 | exact r8) rfl ?_
                refine x_il c_Md_judgeLeaf_119 rfl ?_
                refine x_ialdE c_Md_judgeLeaf_120 (by first | rfl | exact h0 | exact hA.1 | exact hA.2.2.1 | exact hA.2.2.2 | exact r6 | exact r7 | exact r8) (by omega) (by omega) (hk) ?_
                refine x_ci c_Md_judgeLeaf_121 ?_
                refine x_cmN_eq c_Md_judgeLeaf_124 (by omega) (by omega) (fun h => (by exfalso; omega)) (fun _ => ?_)
                refine x_al c_Md_judgeLeaf_127 rfl ?_
                refine x_get c_Md_judgeLeaf_128 (by first | rfl | exact h0 | exact hA.1 | exact hA.2.2.1 | exact hA.2.2.2 | exact r6 | exact r7 | exact r8) rfl ?_
                refine x_il c_Md_judgeLeaf_131 rfl ?_
                refine x_ialdE c_Md_judgeLeaf_132 (by first | rfl | exact h0 | exact hA.1 | exact hA.2.2.1 | exact hA.2.2.2 | exact r6 | exact r7 | exact r8) (by omega) (by omega) (hk) ?_
                refine x_ci c_Md_judgeLeaf_133 ?_
                refine x_cmN_ne c_Md_judgeLeaf_136 (by omega) (by omega) (fun _ => ?_) (fun h => (by exfalso; omega))
                refine x_al c_Md_judgeLeaf_154 rfl ?_
                refine x_get c_Md_judgeLeaf_155 (by first | rfl | exact h0 | exact hA.1 | exact hA.2.2.1 | exact hA.2.2.2 | exact r6 | exact r7 | exact r8) rfl ?_
                refine x_il c_Md_judgeLeaf_158 rfl ?_
                refine x_ialdE c_Md_judgeLeaf_159 (by first | rfl | exact h0 | exact hA.1 | exact hA.2.2.1 | exact hA.2.2.2 | exact r6 | exact r7 | exact r8) (by omega) (by omega) (hk) ?_
                refine x_ci c_Md_judgeLeaf_160 ?_
                refine x_cmN_ne c_Md_judgeLeaf_163 (by omega) (by omega) (fun _ => ?_) (fun h => (by exfalso; omega))
                refine x_ll c_Md_judgeLeaf_181 rfl ?_
                refine x_al c_Md_judgeLeaf_183 rfl ?_
                refine x_get c_Md_judgeLeaf_184 (by first | rfl | exact h0 | exact hA.1 | exact hA.2.2.1 | exact hA.2.2.2 | exact r6 | exact r7 | exact r8) rfl ?_
                refine x_il c_Md_judgeLeaf_187 rfl ?_
                refine x_laldE c_Md_judgeLeaf_188 (by first | rfl | exact h0 | exact hA.1 | exact hA.2.2.1 | exact hA.2.2.2 | exact r6 | exact r7 | exact r8) (by omega) (by omega) (hv (by decide)) ?_
                refine x_lcmp c_Md_judgeLeaf_189 ?_
                refine x_ifL_gt c_Md_judgeLeaf_190 (fun h => absurd h (Int64.not_lt.mpr hc)) (fun _ => ?_)
                refine x_ci c_Md_judgeLeaf_193 ?_
                refine x_goto c_Md_judgeLeaf_194 ?_
                refine x_is [_, _, _, _, _, _, _, _, _, _] c_Md_judgeLeaf_198 rfl ?_
                refine x_il c_Md_judgeLeaf_200 rfl ?_
                refine x_ifB_ne c_Md_judgeLeaf_202 (fun h202 => ?_) (fun h202 => ?_)
                · refine x_ci c_Md_judgeLeaf_221 ?_
                  refine x_goto c_Md_judgeLeaf_222 ?_
                  refine x_is [_, _, _, _, _, _, _, _, _, _] c_Md_judgeLeaf_226 rfl ?_
                  first | refine x_incN [_, _, _, _, _, _, _, _, _, _] c_Md_judgeLeaf_228 rfl rfl ?_ | refine x_inc [_, _, _, _, _, _, _, _, _, _] c_Md_judgeLeaf_228 rfl rfl ?_
                  refine x_goto c_Md_judgeLeaf_231 ?_
                  first | exact ih (k + 1) true _ _ _ _ (by omega) (by omega) (by rw [← hR, h202]; rfl) | exact ih (k + 1) false _ _ _ _ (by omega) (by omega) (by rw [← hR, h202, hn h213]; rfl) | exact ih (k + 1) true _ _ _ _ (by omega) (by omega) (by rw [← hR, h202, hy h213, hfit]; rfl)
                · refine x_al c_Md_judgeLeaf_205 rfl ?_
                  refine x_get c_Md_judgeLeaf_206 (by first | rfl | exact h0 | exact hA.1 | exact hA.2.2.1 | exact hA.2.2.2 | exact r6 | exact r7 | exact r8) rfl ?_
                  refine x_il c_Md_judgeLeaf_209 rfl ?_
                  refine x_ialdN c_Md_judgeLeaf_211 (by first | rfl | exact h0 | exact hA.1 | exact hA.2.2.1 | exact hA.2.2.2 | exact r6 | exact r7 | exact r8) (by omega) (by omega) ?_
                  refine x_il c_Md_judgeLeaf_212 rfl ?_
                  refine x_cm_ne c_Md_judgeLeaf_213 (fun h213 => ?_) (fun h213 => ?_)
                  · refine x_ci c_Md_judgeLeaf_225 ?_
                    refine x_is [_, _, _, _, _, _, _, _, _, _] c_Md_judgeLeaf_226 rfl ?_
                    first | refine x_incN [_, _, _, _, _, _, _, _, _, _] c_Md_judgeLeaf_228 rfl rfl ?_ | refine x_inc [_, _, _, _, _, _, _, _, _, _] c_Md_judgeLeaf_228 rfl rfl ?_
                    refine x_goto c_Md_judgeLeaf_231 ?_
                    first | exact ih (k + 1) true _ _ _ _ (by omega) (by omega) (by rw [← hR, h202]; rfl) | exact ih (k + 1) false _ _ _ _ (by omega) (by omega) (by rw [← hR, h202, hn h213]; rfl) | exact ih (k + 1) true _ _ _ _ (by omega) (by omega) (by rw [← hR, h202, hy h213, hfit]; rfl)
                  · refine x_il c_Md_judgeLeaf_216 rfl ?_
                    refine x_ifN_eq c_Md_judgeLeaf_218 (by omega) (fun h => (by exfalso; omega)) (fun _ => ?_)
                    refine x_ci c_Md_judgeLeaf_221 ?_
                    refine x_goto c_Md_judgeLeaf_222 ?_
                    refine x_is [_, _, _, _, _, _, _, _, _, _] c_Md_judgeLeaf_226 rfl ?_
                    first | refine x_incN [_, _, _, _, _, _, _, _, _, _] c_Md_judgeLeaf_228 rfl rfl ?_ | refine x_inc [_, _, _, _, _, _, _, _, _, _] c_Md_judgeLeaf_228 rfl rfl ?_
                    refine x_goto c_Md_judgeLeaf_231 ?_
                    first | exact ih (k + 1) true _ _ _ _ (by omega) (by omega) (by rw [← hR, h202]; rfl) | exact ih (k + 1) false _ _ _ _ (by omega) (by omega) (by rw [← hR, h202, hn h213]; rfl) | exact ih (k + 1) true _ _ _ _ (by omega) (by omega) (by rw [← hR, h202, hy h213, hfit]; rfl)
              · have hfit : ftt 166 v (qv (6 * e + k)) = false := decide_eq_false hc
                refine x_il c_Md_judgeLeaf_90 rfl ?_
                refine x_ci c_Md_judgeLeaf_92 ?_
                refine x_il c_Md_judgeLeaf_94 rfl ?_
                first | refine x_imulN c_Md_judgeLeaf_95 ?_ | refine x_imul c_Md_judgeLeaf_95 ?_
                refine x_al c_Md_judgeLeaf_96 rfl ?_
                refine x_get c_Md_judgeLeaf_97 (by first | rfl | exact h0 | exact hA.1 | exact hA.2.2.1 | exact hA.2.2.2 | exact r6 | exact r7 | exact r8) rfl ?_
                refine x_il c_Md_judgeLeaf_100 rfl ?_
                refine x_ialdE c_Md_judgeLeaf_101 (by first | rfl | exact h0 | exact hA.1 | exact hA.2.2.1 | exact hA.2.2.2 | exact r6 | exact r7 | exact r8) (by omega) (by omega) (hme.2.2.1) ?_
                first | refine x_iaddN c_Md_judgeLeaf_102 ?_ | refine x_iadd c_Md_judgeLeaf_102 ?_
                refine x_cmN_ge c_Md_judgeLeaf_103 (by omega) (by omega) (fun h => (by exfalso; omega)) (fun _ => ?_)
                refine x_al c_Md_judgeLeaf_106 rfl ?_
                refine x_get c_Md_judgeLeaf_107 (by first | rfl | exact h0 | exact hA.1 | exact hA.2.2.1 | exact hA.2.2.2 | exact r6 | exact r7 | exact r8) rfl ?_
                refine x_il c_Md_judgeLeaf_110 rfl ?_
                refine x_laldN c_Md_judgeLeaf_112 (by first | rfl | exact h0 | exact hA.1 | exact hA.2.2.1 | exact hA.2.2.2 | exact r6 | exact r7 | exact r8) (by omega) (by omega) ?_
                refine x_ls [_, _, _, _, _, _, _, _, _, _] c_Md_judgeLeaf_113 rfl ?_
                refine x_al c_Md_judgeLeaf_115 rfl ?_
                refine x_get c_Md_judgeLeaf_116 (by first | rfl | exact h0 | exact hA.1 | exact hA.2.2.1 | exact hA.2.2.2 | exact r6 | exact r7 | exact r8) rfl ?_
                refine x_il c_Md_judgeLeaf_119 rfl ?_
                refine x_ialdE c_Md_judgeLeaf_120 (by first | rfl | exact h0 | exact hA.1 | exact hA.2.2.1 | exact hA.2.2.2 | exact r6 | exact r7 | exact r8) (by omega) (by omega) (hk) ?_
                refine x_ci c_Md_judgeLeaf_121 ?_
                refine x_cmN_eq c_Md_judgeLeaf_124 (by omega) (by omega) (fun h => (by exfalso; omega)) (fun _ => ?_)
                refine x_al c_Md_judgeLeaf_127 rfl ?_
                refine x_get c_Md_judgeLeaf_128 (by first | rfl | exact h0 | exact hA.1 | exact hA.2.2.1 | exact hA.2.2.2 | exact r6 | exact r7 | exact r8) rfl ?_
                refine x_il c_Md_judgeLeaf_131 rfl ?_
                refine x_ialdE c_Md_judgeLeaf_132 (by first | rfl | exact h0 | exact hA.1 | exact hA.2.2.1 | exact hA.2.2.2 | exact r6 | exact r7 | exact r8) (by omega) (by omega) (hk) ?_
                refine x_ci c_Md_judgeLeaf_133 ?_
                refine x_cmN_ne c_Md_judgeLeaf_136 (by omega) (by omega) (fun _ => ?_) (fun h => (by exfalso; omega))
                refine x_al c_Md_judgeLeaf_154 rfl ?_
                refine x_get c_Md_judgeLeaf_155 (by first | rfl | exact h0 | exact hA.1 | exact hA.2.2.1 | exact hA.2.2.2 | exact r6 | exact r7 | exact r8) rfl ?_
                refine x_il c_Md_judgeLeaf_158 rfl ?_
                refine x_ialdE c_Md_judgeLeaf_159 (by first | rfl | exact h0 | exact hA.1 | exact hA.2.2.1 | exact hA.2.2.2 | exact r6 | exact r7 | exact r8) (by omega) (by omega) (hk) ?_
                refine x_ci c_Md_judgeLeaf_160 ?_
                refine x_cmN_ne c_Md_judgeLeaf_163 (by omega) (by omega) (fun _ => ?_) (fun h => (by exfalso; omega))
                refine x_ll c_Md_judgeLeaf_181 rfl ?_
                refine x_al c_Md_judgeLeaf_183 rfl ?_
                refine x_get c_Md_judgeLeaf_184 (by first | rfl | exact h0 | exact hA.1 | exact hA.2.2.1 | exact hA.2.2.2 | exact r6 | exact r7 | exact r8) rfl ?_
                refine x_il c_Md_judgeLeaf_187 rfl ?_
                refine x_laldE c_Md_judgeLeaf_188 (by first | rfl | exact h0 | exact hA.1 | exact hA.2.2.1 | exact hA.2.2.2 | exact r6 | exact r7 | exact r8) (by omega) (by omega) (hv (by decide)) ?_
                refine x_lcmp c_Md_judgeLeaf_189 ?_
                refine x_ifL_gt c_Md_judgeLeaf_190 (fun _ => ?_) (fun h => absurd (Int64.not_le.mp hc) h)
                refine x_ci c_Md_judgeLeaf_197 ?_
                refine x_is [_, _, _, _, _, _, _, _, _, _] c_Md_judgeLeaf_198 rfl ?_
                refine x_il c_Md_judgeLeaf_200 rfl ?_
                refine x_ifB_ne c_Md_judgeLeaf_202 (fun h202 => ?_) (fun h202 => ?_)
                · refine x_ci c_Md_judgeLeaf_221 ?_
                  refine x_goto c_Md_judgeLeaf_222 ?_
                  refine x_is [_, _, _, _, _, _, _, _, _, _] c_Md_judgeLeaf_226 rfl ?_
                  first | refine x_incN [_, _, _, _, _, _, _, _, _, _] c_Md_judgeLeaf_228 rfl rfl ?_ | refine x_inc [_, _, _, _, _, _, _, _, _, _] c_Md_judgeLeaf_228 rfl rfl ?_
                  refine x_goto c_Md_judgeLeaf_231 ?_
                  first | exact ih (k + 1) true _ _ _ _ (by omega) (by omega) (by rw [← hR, h202]; rfl) | exact ih (k + 1) false _ _ _ _ (by omega) (by omega) (by rw [← hR, h202, hn h213]; rfl) | exact ih (k + 1) false _ _ _ _ (by omega) (by omega) (by rw [← hR, h202, hy h213, hfit]; rfl)
                · refine x_al c_Md_judgeLeaf_205 rfl ?_
                  refine x_get c_Md_judgeLeaf_206 (by first | rfl | exact h0 | exact hA.1 | exact hA.2.2.1 | exact hA.2.2.2 | exact r6 | exact r7 | exact r8) rfl ?_
                  refine x_il c_Md_judgeLeaf_209 rfl ?_
                  refine x_ialdN c_Md_judgeLeaf_211 (by first | rfl | exact h0 | exact hA.1 | exact hA.2.2.1 | exact hA.2.2.2 | exact r6 | exact r7 | exact r8) (by omega) (by omega) ?_
                  refine x_il c_Md_judgeLeaf_212 rfl ?_
                  refine x_cm_ne c_Md_judgeLeaf_213 (fun h213 => ?_) (fun h213 => ?_)
                  · refine x_ci c_Md_judgeLeaf_225 ?_
                    refine x_is [_, _, _, _, _, _, _, _, _, _] c_Md_judgeLeaf_226 rfl ?_
                    first | refine x_incN [_, _, _, _, _, _, _, _, _, _] c_Md_judgeLeaf_228 rfl rfl ?_ | refine x_inc [_, _, _, _, _, _, _, _, _, _] c_Md_judgeLeaf_228 rfl rfl ?_
                    refine x_goto c_Md_judgeLeaf_231 ?_
                    first | exact ih (k + 1) true _ _ _ _ (by omega) (by omega) (by rw [← hR, h202]; rfl) | exact ih (k + 1) false _ _ _ _ (by omega) (by omega) (by rw [← hR, h202, hn h213]; rfl) | exact ih (k + 1) false _ _ _ _ (by omega) (by omega) (by rw [← hR, h202, hy h213, hfit]; rfl)
                  · refine x_il c_Md_judgeLeaf_216 rfl ?_
                    refine x_ifN_eq c_Md_judgeLeaf_218 (by omega) (fun _ => ?_) (fun h => (by exfalso; omega))
                    refine x_ci c_Md_judgeLeaf_225 ?_
                    refine x_is [_, _, _, _, _, _, _, _, _, _] c_Md_judgeLeaf_226 rfl ?_
                    first | refine x_incN [_, _, _, _, _, _, _, _, _, _] c_Md_judgeLeaf_228 rfl rfl ?_ | refine x_inc [_, _, _, _, _, _, _, _, _, _] c_Md_judgeLeaf_228 rfl rfl ?_
                    refine x_goto c_Md_judgeLeaf_231 ?_
                    first | exact ih (k + 1) true _ _ _ _ (by omega) (by omega) (by rw [← hR, h202]; rfl) | exact ih (k + 1) false _ _ _ _ (by omega) (by omega) (by rw [← hR, h202, hn h213]; rfl) | exact ih (k + 1) false _ _ _ _ (by omega) (by omega) (by rw [← hR, h202, hy h213, hfit]; rfl)
          refine x_al c_Md_judgeLeaf_0 rfl ?_
          refine x_get c_Md_judgeLeaf_1 (by first | rfl | exact h0 | exact hA.1 | exact hA.2.2.1 | exact hA.2.2.2 | exact r6 | exact r7 | exact r8) rfl ?_
          refine x_il c_Md_judgeLeaf_4 rfl ?_
          refine x_ialdE c_Md_judgeLeaf_5 (by first | rfl | exact h0 | exact hA.1 | exact hA.2.2.1 | exact hA.2.2.2 | exact r6 | exact r7 | exact r8) (by omega) (by omega) (ht) ?_
          refine x_is [_, _, _, _, _, _, _, _, _, _] c_Md_judgeLeaf_6 rfl ?_
          refine x_al c_Md_judgeLeaf_7 rfl ?_
          refine x_get c_Md_judgeLeaf_8 (by first | rfl | exact h0 | exact hA.1 | exact hA.2.2.1 | exact hA.2.2.2 | exact r6 | exact r7 | exact r8) rfl ?_
          refine x_il c_Md_judgeLeaf_11 rfl ?_
          refine x_ialdE c_Md_judgeLeaf_12 (by first | rfl | exact h0 | exact hA.1 | exact hA.2.2.1 | exact hA.2.2.2 | exact r6 | exact r7 | exact r8) (by omega) (by omega) (hk) ?_
          refine x_ci c_Md_judgeLeaf_13 ?_
          refine x_cmN_eq c_Md_judgeLeaf_16 (by omega) (by omega) (fun h => (by exfalso; omega)) (fun _ => ?_)
          refine x_al c_Md_judgeLeaf_19 rfl ?_
          refine x_get c_Md_judgeLeaf_20 (by first | rfl | exact h0 | exact hA.1 | exact hA.2.2.1 | exact hA.2.2.2 | exact r6 | exact r7 | exact r8) rfl ?_
          refine x_il c_Md_judgeLeaf_23 rfl ?_
          refine x_ialdE c_Md_judgeLeaf_24 (by first | rfl | exact h0 | exact hA.1 | exact hA.2.2.1 | exact hA.2.2.2 | exact r6 | exact r7 | exact r8) (by omega) (by omega) (hk) ?_
          refine x_ci c_Md_judgeLeaf_25 ?_
          refine x_cmN_ne c_Md_judgeLeaf_28 (by omega) (by omega) (fun h => (by exfalso; omega)) (fun _ => ?_)
          refine x_ci c_Md_judgeLeaf_31 ?_
          refine x_goto c_Md_judgeLeaf_32 ?_
          refine x_is [_, _, _, _, _, _, _, _, _, _] c_Md_judgeLeaf_36 rfl ?_
          refine x_il c_Md_judgeLeaf_38 rfl ?_
          refine x_ci c_Md_judgeLeaf_39 ?_
          refine x_cm_eq c_Md_judgeLeaf_40 (fun h => absurd h (hm1)) (fun _ => ?_)
          refine x_al c_Md_judgeLeaf_43 rfl ?_
          refine x_get c_Md_judgeLeaf_44 (by first | rfl | exact h0 | exact hA.1 | exact hA.2.2.1 | exact hA.2.2.2 | exact r6 | exact r7 | exact r8) rfl ?_
          refine x_il c_Md_judgeLeaf_47 rfl ?_
          refine x_ialdE c_Md_judgeLeaf_48 (by first | rfl | exact h0 | exact hA.1 | exact hA.2.2.1 | exact hA.2.2.2 | exact r6 | exact r7 | exact r8) (by omega) (by omega) (hk) ?_
          refine x_ci c_Md_judgeLeaf_49 ?_
          refine x_cmN_eq c_Md_judgeLeaf_52 (by omega) (by omega) (fun h => (by exfalso; omega)) (fun _ => ?_)
          refine x_al c_Md_judgeLeaf_55 rfl ?_
          refine x_get c_Md_judgeLeaf_56 (by first | rfl | exact h0 | exact hA.1 | exact hA.2.2.1 | exact hA.2.2.2 | exact r6 | exact r7 | exact r8) rfl ?_
          refine x_il c_Md_judgeLeaf_59 rfl ?_
          refine x_laldE c_Md_judgeLeaf_60 (by first | rfl | exact h0 | exact hA.1 | exact hA.2.2.1 | exact hA.2.2.2 | exact r6 | exact r7 | exact r8) (by omega) (by omega) (hv (by decide)) ?_
          refine x_cl c_Md_judgeLeaf_61 ?_
          refine x_lcmp c_Md_judgeLeaf_64 ?_
          refine x_ifL_eq c_Md_judgeLeaf_65 (fun h => absurd h (hvm)) (fun _ => ?_)
          refine x_il c_Md_judgeLeaf_68 rfl ?_
          refine x_if_eq c_Md_judgeLeaf_70 (fun h => absurd h (by decide)) (fun _ => ?_)
          refine x_il c_Md_judgeLeaf_73 rfl ?_
          refine x_ci c_Md_judgeLeaf_74 ?_
          refine x_cm_ge c_Md_judgeLeaf_76 (fun _ => ?_) (fun h => absurd (Int32.not_lt.mp ho) h)
          refine x_ci c_Md_judgeLeaf_81 ?_
          refine x_is [_, _, _, _, _, _, _, _, _, _] c_Md_judgeLeaf_82 rfl ?_
          refine x_ci c_Md_judgeLeaf_84 ?_
          refine x_il c_Md_judgeLeaf_86 rfl ?_
          first | refine x_imulN c_Md_judgeLeaf_87 ?_ | refine x_imul c_Md_judgeLeaf_87 ?_
          refine x_is [_, _, _, _, _, _, _, _, _, _] c_Md_judgeLeaf_88 rfl ?_
          exact loop _ 0 false _ _ _ _ rfl (Nat.zero_le _) rfl
  · skip
    by_cases hm1 : ty = -1
    · skip
      refine x_al c_Md_judgeLeaf_0 rfl ?_
      refine x_get c_Md_judgeLeaf_1 (by first | rfl | exact h0 | exact hA.1 | exact hA.2.2.1 | exact hA.2.2.2 | exact r6 | exact r7 | exact r8) rfl ?_
      refine x_il c_Md_judgeLeaf_4 rfl ?_
      refine x_ialdE c_Md_judgeLeaf_5 (by first | rfl | exact h0 | exact hA.1 | exact hA.2.2.1 | exact hA.2.2.2 | exact r6 | exact r7 | exact r8) (by omega) (by omega) (ht) ?_
      refine x_is [_, _, _, _, _, _, _, _, _, _] c_Md_judgeLeaf_6 rfl ?_
      refine x_al c_Md_judgeLeaf_7 rfl ?_
      refine x_get c_Md_judgeLeaf_8 (by first | rfl | exact h0 | exact hA.1 | exact hA.2.2.1 | exact hA.2.2.2 | exact r6 | exact r7 | exact r8) rfl ?_
      refine x_il c_Md_judgeLeaf_11 rfl ?_
      refine x_ialdE c_Md_judgeLeaf_12 (by first | rfl | exact h0 | exact hA.1 | exact hA.2.2.1 | exact hA.2.2.2 | exact r6 | exact r7 | exact r8) (by omega) (by omega) (hk) ?_
      refine x_ci c_Md_judgeLeaf_13 ?_
      refine x_cmN_eq c_Md_judgeLeaf_16 (by omega) (by omega) (fun h => (by exfalso; omega)) (fun _ => ?_)
      refine x_al c_Md_judgeLeaf_19 rfl ?_
      refine x_get c_Md_judgeLeaf_20 (by first | rfl | exact h0 | exact hA.1 | exact hA.2.2.1 | exact hA.2.2.2 | exact r6 | exact r7 | exact r8) rfl ?_
      refine x_il c_Md_judgeLeaf_23 rfl ?_
      refine x_ialdE c_Md_judgeLeaf_24 (by first | rfl | exact h0 | exact hA.1 | exact hA.2.2.1 | exact hA.2.2.2 | exact r6 | exact r7 | exact r8) (by omega) (by omega) (hk) ?_
      refine x_ci c_Md_judgeLeaf_25 ?_
      refine x_cmN_ne c_Md_judgeLeaf_28 (by omega) (by omega) (fun _ => ?_) (fun h => (by exfalso; omega))
      refine x_ci c_Md_judgeLeaf_35 ?_
      refine x_is [_, _, _, _, _, _, _, _, _, _] c_Md_judgeLeaf_36 rfl ?_
      refine x_il c_Md_judgeLeaf_38 rfl ?_
      refine x_ci c_Md_judgeLeaf_39 ?_
      refine x_cm_eq c_Md_judgeLeaf_40 (fun _ => ?_) (fun h => absurd (hm1) h)
      refine x_ci c_Md_judgeLeaf_79 ?_
      refine x_ri c_Md_judgeLeaf_80 ?_
      exact ⟨by rw [cv_1 (Or.inl hm1)] <;> rfl, rfl⟩
    · skip
      have hU : ¬ undf 135 ty v := by
        intro q
        rcases q with q | q | q
        · exact hm1 q
        · exact q.1 rfl
        · exact absurd q.1 (by decide)
      have loop : ∀ m k (b : Bool) (jo j7 j8 j9 : Option Value), (pr e).length - k = m → k ≤ (pr e).length → (b || ((pr e).drop k).any (fph 135 ty v)) = (pr e).any (fph 135 ty v) → kc_X (kC j_Md_judgeLeaf) (kc_Y kt kC d) (fun w μ' => w = some (.int (nI (cvt (lv1 (pr e) 135 ty v)))) ∧ μ' = μ) 90 [some (.ref 136), some (.int (nI f)), some (.int (nI e)), some (.int ty), jo, some (.int (bI b)), some (.int (nI (6 * e + k))), j7, j8, j9] [] μ (0, 0) := by
        intro m
        induction m with
        | zero =>
          intro k b jo j7 j8 j9 hm hk2 hR
          rw [List.drop_eq_nil_of_le (by omega), show (b || ([] : List tv).any (fph 135 ty v)) = b from Bool.or_false b] at hR
          refine x_il c_Md_judgeLeaf_90 rfl ?_
          refine x_ci c_Md_judgeLeaf_92 ?_
          refine x_il c_Md_judgeLeaf_94 rfl ?_
          first | refine x_imulN c_Md_judgeLeaf_95 ?_ | refine x_imul c_Md_judgeLeaf_95 ?_
          refine x_al c_Md_judgeLeaf_96 rfl ?_
          refine x_get c_Md_judgeLeaf_97 (by first | rfl | exact h0 | exact hA.1 | exact hA.2.2.1 | exact hA.2.2.2 | exact r6 | exact r7 | exact r8) rfl ?_
          refine x_il c_Md_judgeLeaf_100 rfl ?_
          refine x_ialdE c_Md_judgeLeaf_101 (by first | rfl | exact h0 | exact hA.1 | exact hA.2.2.1 | exact hA.2.2.2 | exact r6 | exact r7 | exact r8) (by omega) (by omega) (hme.2.2.1) ?_
          first | refine x_iaddN c_Md_judgeLeaf_102 ?_ | refine x_iadd c_Md_judgeLeaf_102 ?_
          refine x_cmN_ge c_Md_judgeLeaf_103 (by omega) (by omega) (fun _ => ?_) (fun h => (by exfalso; omega))
          refine x_il c_Md_judgeLeaf_234 rfl ?_
          refine x_ifB_eq c_Md_judgeLeaf_236 (fun h236 => ?_) (fun h236 => ?_)
          · refine x_ci c_Md_judgeLeaf_243 ?_
            refine x_ri c_Md_judgeLeaf_244 ?_
            first | exact ⟨by rw [cv_0 hU, ← any_b (by decide) _ hgd.2, ← hR, h236] <;> rfl, rfl⟩
          · refine x_ci c_Md_judgeLeaf_239 ?_
            refine x_goto c_Md_judgeLeaf_240 ?_
            refine x_ri c_Md_judgeLeaf_244 ?_
            first | exact ⟨by rw [cv_0 hU, ← any_b (by decide) _ hgd.2, ← hR, h236] <;> rfl, rfl⟩
        | succ m ih =>
          intro k b jo j7 j8 j9 hm hk2 hR
          have hq := hme.2.2.2 k (by omega)
          rw [any_s hq] at hR
          have hn : ¬ qt (6 * e + k) = ty → fph 135 ty v (qt (6 * e + k), qv (6 * e + k)) = false := fun q => by unfold fph; rw [decide_eq_false q]; rfl
          have hy : qt (6 * e + k) = ty → fph 135 ty v (qt (6 * e + k), qv (6 * e + k)) = ftt 135 v (qv (6 * e + k)) := fun q => by unfold fph; rw [decide_eq_true q]; rfl
          have hfit : ftt 135 v (qv (6 * e + k)) = true := rfl
          refine x_il c_Md_judgeLeaf_90 rfl ?_
          refine x_ci c_Md_judgeLeaf_92 ?_
          refine x_il c_Md_judgeLeaf_94 rfl ?_
          first | refine x_imulN c_Md_judgeLeaf_95 ?_ | refine x_imul c_Md_judgeLeaf_95 ?_
          refine x_al c_Md_judgeLeaf_96 rfl ?_
          refine x_get c_Md_judgeLeaf_97 (by first | rfl | exact h0 | exact hA.1 | exact hA.2.2.1 | exact hA.2.2.2 | exact r6 | exact r7 | exact r8) rfl ?_
          refine x_il c_Md_judgeLeaf_100 rfl ?_
          refine x_ialdE c_Md_judgeLeaf_101 (by first | rfl | exact h0 | exact hA.1 | exact hA.2.2.1 | exact hA.2.2.2 | exact r6 | exact r7 | exact r8) (by omega) (by omega) (hme.2.2.1) ?_
          first | refine x_iaddN c_Md_judgeLeaf_102 ?_ | refine x_iadd c_Md_judgeLeaf_102 ?_
          refine x_cmN_ge c_Md_judgeLeaf_103 (by omega) (by omega) (fun h => (by exfalso; omega)) (fun _ => ?_)
          refine x_al c_Md_judgeLeaf_106 rfl ?_
          refine x_get c_Md_judgeLeaf_107 (by first | rfl | exact h0 | exact hA.1 | exact hA.2.2.1 | exact hA.2.2.2 | exact r6 | exact r7 | exact r8) rfl ?_
          refine x_il c_Md_judgeLeaf_110 rfl ?_
          refine x_laldN c_Md_judgeLeaf_112 (by first | rfl | exact h0 | exact hA.1 | exact hA.2.2.1 | exact hA.2.2.2 | exact r6 | exact r7 | exact r8) (by omega) (by omega) ?_
          refine x_ls [_, _, _, _, _, _, _, _, _, _] c_Md_judgeLeaf_113 rfl ?_
          refine x_al c_Md_judgeLeaf_115 rfl ?_
          refine x_get c_Md_judgeLeaf_116 (by first | rfl | exact h0 | exact hA.1 | exact hA.2.2.1 | exact hA.2.2.2 | exact r6 | exact r7 | exact r8) rfl ?_
          refine x_il c_Md_judgeLeaf_119 rfl ?_
          refine x_ialdE c_Md_judgeLeaf_120 (by first | rfl | exact h0 | exact hA.1 | exact hA.2.2.1 | exact hA.2.2.2 | exact r6 | exact r7 | exact r8) (by omega) (by omega) (hk) ?_
          refine x_ci c_Md_judgeLeaf_121 ?_
          refine x_cmN_eq c_Md_judgeLeaf_124 (by omega) (by omega) (fun _ => ?_) (fun h => (by exfalso; omega))
          refine x_ci c_Md_judgeLeaf_193 ?_
          refine x_goto c_Md_judgeLeaf_194 ?_
          refine x_is [_, _, _, _, _, _, _, _, _, _] c_Md_judgeLeaf_198 rfl ?_
          refine x_il c_Md_judgeLeaf_200 rfl ?_
          refine x_ifB_ne c_Md_judgeLeaf_202 (fun h202 => ?_) (fun h202 => ?_)
          · refine x_ci c_Md_judgeLeaf_221 ?_
            refine x_goto c_Md_judgeLeaf_222 ?_
            refine x_is [_, _, _, _, _, _, _, _, _, _] c_Md_judgeLeaf_226 rfl ?_
            first | refine x_incN [_, _, _, _, _, _, _, _, _, _] c_Md_judgeLeaf_228 rfl rfl ?_ | refine x_inc [_, _, _, _, _, _, _, _, _, _] c_Md_judgeLeaf_228 rfl rfl ?_
            refine x_goto c_Md_judgeLeaf_231 ?_
            first | exact ih (k + 1) true _ _ _ _ (by omega) (by omega) (by rw [← hR, h202]; rfl) | exact ih (k + 1) false _ _ _ _ (by omega) (by omega) (by rw [← hR, h202, hn h213]; rfl) | exact ih (k + 1) true _ _ _ _ (by omega) (by omega) (by rw [← hR, h202, hy h213, hfit]; rfl)
          · refine x_al c_Md_judgeLeaf_205 rfl ?_
            refine x_get c_Md_judgeLeaf_206 (by first | rfl | exact h0 | exact hA.1 | exact hA.2.2.1 | exact hA.2.2.2 | exact r6 | exact r7 | exact r8) rfl ?_
            refine x_il c_Md_judgeLeaf_209 rfl ?_
            refine x_ialdN c_Md_judgeLeaf_211 (by first | rfl | exact h0 | exact hA.1 | exact hA.2.2.1 | exact hA.2.2.2 | exact r6 | exact r7 | exact r8) (by omega) (by omega) ?_
            refine x_il c_Md_judgeLeaf_212 rfl ?_
            refine x_cm_ne c_Md_judgeLeaf_213 (fun h213 => ?_) (fun h213 => ?_)
            · refine x_ci c_Md_judgeLeaf_225 ?_
              refine x_is [_, _, _, _, _, _, _, _, _, _] c_Md_judgeLeaf_226 rfl ?_
              first | refine x_incN [_, _, _, _, _, _, _, _, _, _] c_Md_judgeLeaf_228 rfl rfl ?_ | refine x_inc [_, _, _, _, _, _, _, _, _, _] c_Md_judgeLeaf_228 rfl rfl ?_
              refine x_goto c_Md_judgeLeaf_231 ?_
              first | exact ih (k + 1) true _ _ _ _ (by omega) (by omega) (by rw [← hR, h202]; rfl) | exact ih (k + 1) false _ _ _ _ (by omega) (by omega) (by rw [← hR, h202, hn h213]; rfl) | exact ih (k + 1) true _ _ _ _ (by omega) (by omega) (by rw [← hR, h202, hy h213, hfit]; rfl)
            · refine x_il c_Md_judgeLeaf_216 rfl ?_
              refine x_ifN_eq c_Md_judgeLeaf_218 (by omega) (fun h => (by exfalso; omega)) (fun _ => ?_)
              refine x_ci c_Md_judgeLeaf_221 ?_
              refine x_goto c_Md_judgeLeaf_222 ?_
              refine x_is [_, _, _, _, _, _, _, _, _, _] c_Md_judgeLeaf_226 rfl ?_
              first | refine x_incN [_, _, _, _, _, _, _, _, _, _] c_Md_judgeLeaf_228 rfl rfl ?_ | refine x_inc [_, _, _, _, _, _, _, _, _, _] c_Md_judgeLeaf_228 rfl rfl ?_
              refine x_goto c_Md_judgeLeaf_231 ?_
              first | exact ih (k + 1) true _ _ _ _ (by omega) (by omega) (by rw [← hR, h202]; rfl) | exact ih (k + 1) false _ _ _ _ (by omega) (by omega) (by rw [← hR, h202, hn h213]; rfl) | exact ih (k + 1) true _ _ _ _ (by omega) (by omega) (by rw [← hR, h202, hy h213, hfit]; rfl)
      refine x_al c_Md_judgeLeaf_0 rfl ?_
      refine x_get c_Md_judgeLeaf_1 (by first | rfl | exact h0 | exact hA.1 | exact hA.2.2.1 | exact hA.2.2.2 | exact r6 | exact r7 | exact r8) rfl ?_
      refine x_il c_Md_judgeLeaf_4 rfl ?_
      refine x_ialdE c_Md_judgeLeaf_5 (by first | rfl | exact h0 | exact hA.1 | exact hA.2.2.1 | exact hA.2.2.2 | exact r6 | exact r7 | exact r8) (by omega) (by omega) (ht) ?_
      refine x_is [_, _, _, _, _, _, _, _, _, _] c_Md_judgeLeaf_6 rfl ?_
      refine x_al c_Md_judgeLeaf_7 rfl ?_
      refine x_get c_Md_judgeLeaf_8 (by first | rfl | exact h0 | exact hA.1 | exact hA.2.2.1 | exact hA.2.2.2 | exact r6 | exact r7 | exact r8) rfl ?_
      refine x_il c_Md_judgeLeaf_11 rfl ?_
      refine x_ialdE c_Md_judgeLeaf_12 (by first | rfl | exact h0 | exact hA.1 | exact hA.2.2.1 | exact hA.2.2.2 | exact r6 | exact r7 | exact r8) (by omega) (by omega) (hk) ?_
      refine x_ci c_Md_judgeLeaf_13 ?_
      refine x_cmN_eq c_Md_judgeLeaf_16 (by omega) (by omega) (fun h => (by exfalso; omega)) (fun _ => ?_)
      refine x_al c_Md_judgeLeaf_19 rfl ?_
      refine x_get c_Md_judgeLeaf_20 (by first | rfl | exact h0 | exact hA.1 | exact hA.2.2.1 | exact hA.2.2.2 | exact r6 | exact r7 | exact r8) rfl ?_
      refine x_il c_Md_judgeLeaf_23 rfl ?_
      refine x_ialdE c_Md_judgeLeaf_24 (by first | rfl | exact h0 | exact hA.1 | exact hA.2.2.1 | exact hA.2.2.2 | exact r6 | exact r7 | exact r8) (by omega) (by omega) (hk) ?_
      refine x_ci c_Md_judgeLeaf_25 ?_
      refine x_cmN_ne c_Md_judgeLeaf_28 (by omega) (by omega) (fun _ => ?_) (fun h => (by exfalso; omega))
      refine x_ci c_Md_judgeLeaf_35 ?_
      refine x_is [_, _, _, _, _, _, _, _, _, _] c_Md_judgeLeaf_36 rfl ?_
      refine x_il c_Md_judgeLeaf_38 rfl ?_
      refine x_ci c_Md_judgeLeaf_39 ?_
      refine x_cm_eq c_Md_judgeLeaf_40 (fun h => absurd h (hm1)) (fun _ => ?_)
      refine x_al c_Md_judgeLeaf_43 rfl ?_
      refine x_get c_Md_judgeLeaf_44 (by first | rfl | exact h0 | exact hA.1 | exact hA.2.2.1 | exact hA.2.2.2 | exact r6 | exact r7 | exact r8) rfl ?_
      refine x_il c_Md_judgeLeaf_47 rfl ?_
      refine x_ialdE c_Md_judgeLeaf_48 (by first | rfl | exact h0 | exact hA.1 | exact hA.2.2.1 | exact hA.2.2.2 | exact r6 | exact r7 | exact r8) (by omega) (by omega) (hk) ?_
      refine x_ci c_Md_judgeLeaf_49 ?_
      refine x_cmN_eq c_Md_judgeLeaf_52 (by omega) (by omega) (fun _ => ?_) (fun h => (by exfalso; omega))
      refine x_il c_Md_judgeLeaf_68 rfl ?_
      refine x_if_eq c_Md_judgeLeaf_70 (fun _ => ?_) (fun h => absurd (by decide) h)
      refine x_ci c_Md_judgeLeaf_81 ?_
      refine x_is [_, _, _, _, _, _, _, _, _, _] c_Md_judgeLeaf_82 rfl ?_
      refine x_ci c_Md_judgeLeaf_84 ?_
      refine x_il c_Md_judgeLeaf_86 rfl ?_
      first | refine x_imulN c_Md_judgeLeaf_87 ?_ | refine x_imul c_Md_judgeLeaf_87 ?_
      refine x_is [_, _, _, _, _, _, _, _, _, _] c_Md_judgeLeaf_88 rfl ?_
      exact loop _ 0 false _ _ _ _ rfl (Nat.zero_le _) rfl
