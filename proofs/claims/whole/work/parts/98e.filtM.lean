/-! the reference reads filters -/
/-- how many of the m from g on have x -/
def cnt (af : Nat → Int32) (x : Int32) : Nat → Nat → Nat
  | 0, _ => 0
  | m + 1, g => (if af g = x then 1 else 0) + cnt af x m (g + 1)
theorem cnt_s (af : Nat → Int32) (x : Int32) (m g : Nat) : cnt af x (m + 1) g = (if af g = x then 1 else 0) + cnt af x m (g + 1) := rfl
theorem cnt_le (af : Nat → Int32) (x : Int32) : ∀ m g, cnt af x m g ≤ m
  | 0, _ => Nat.le_refl _
  | m + 1, g => by
    rw [cnt_s]
    have := cnt_le af x m (g + 1)
    split <;> omega
theorem cnt_add (af : Nat → Int32) (x : Int32) : ∀ m k g, cnt af x (m + k) g = cnt af x m g + cnt af x k (g + m)
  | 0, k, g => by rw [Nat.zero_add]; show _ = 0 + cnt af x k (g + 0); rw [Nat.zero_add, Nat.add_zero]
  | m + 1, k, g => by
    rw [show m + 1 + k = (m + k) + 1 by omega, cnt_s, cnt_s, cnt_add af x m k (g + 1), show g + 1 + m = g + (m + 1) by omega]
    omega
theorem cnt_k {af af' : Nat → Int32} {x : Int32} : ∀ m g, (∀ j, g ≤ j → j < g + m → af' j = af j) → cnt af' x m g = cnt af x m g
  | 0, _, _ => rfl
  | m + 1, g, h => by
    rw [cnt_s, cnt_s, h g (by omega) (by omega), cnt_k m (g + 1) (fun j j1 j2 => h j (by omega) (by omega))]
theorem cnt_0 {af : Nat → Int32} {x : Int32} : ∀ m g, (∀ j, g ≤ j → j < g + m → af j ≠ x) → cnt af x m g = 0
  | 0, _, _ => rfl
  | m + 1, g, h => by
    rw [cnt_s, if_neg (h g (by omega) (by omega)), cnt_0 m (g + 1) (fun j j1 j2 => h j (by omega) (by omega))]
/-- the reference's rows of filters hold a forest from i on, around it par -/
def enM (wf af tf : Nat → Int32) (vf : Nat → Int64) : Fo → Int32 → Nat → Prop
  | .leaf, _, _ => True
  | .inner _ t p F R, par, i => (wf i = nI t ∧ af i = par ∧ (lft t = true → tf i = p.1 ∧ (t ≠ 135 → vf i = p.2))) ∧ enM wf af tf vf F (nI i) (i + 1) ∧ enM wf af tf vf R par (i + 1 + fsz F)
theorem enM_k {wf af tf : Nat → Int32} {vf : Nat → Int64} {wf' af' tf' : Nat → Int32} {vf' : Nat → Int64} : ∀ (F : Fo) (par : Int32) (i : Nat), enM wf af tf vf F par i → (∀ j, i ≤ j → j < i + fsz F → wf' j = wf j ∧ af' j = af j ∧ tf' j = tf j ∧ vf' j = vf j) → enM wf' af' tf' vf' F par i
  | .leaf, _, _, _, _ => trivial
  | .inner n t p F R, par, i, h, hk => by
    rw [fsz_i] at hk
    obtain ⟨a, b, c, d⟩ := hk i (by omega) (by omega)
    exact ⟨⟨a.trans h.1.1, b.trans h.1.2.1, fun q => ⟨c.trans (h.1.2.2 q).1, fun q2 => d.trans ((h.1.2.2 q).2 q2)⟩⟩, enM_k F _ (i + 1) h.2.1 (fun j j1 j2 => hk j (by omega) (by omega)), enM_k R _ (i + 1 + fsz F) h.2.2 (fun j j1 j2 => hk j (by omega) (by omega))⟩
/-- around what a row of the forest lies: around the forest, or in it -/
theorem enM_ar {wf af tf : Nat → Int32} {vf : Nat → Int64} : ∀ (F : Fo) (par : Int32) (i : Nat), enM wf af tf vf F par i → ∀ j, i ≤ j → j < i + fsz F → af j = par ∨ ∃ k, i ≤ k ∧ k < i + fsz F ∧ af j = nI k
  | .leaf, _, i, _, j, h1, h2 => by have : fsz .leaf = 0 := rfl; omega
  | .inner n t p F R, par, i, h, j, h1, h2 => by
    rw [fsz_i] at h2 ⊢
    by_cases hj : j = i
    · subst hj; exact Or.inl h.1.2.1
    · by_cases hj2 : j < i + 1 + fsz F
      · rcases enM_ar F _ (i + 1) h.2.1 j (by omega) hj2 with q | ⟨k, k1, k2, q⟩
        · exact Or.inr ⟨i, by omega, by omega, q⟩
        · exact Or.inr ⟨k, by omega, by omega, q⟩
      · rcases enM_ar R _ (i + 1 + fsz F) h.2.2 j (by omega) (by omega) with q | ⟨k, k1, k2, q⟩
        · exact Or.inl q
        · exact Or.inr ⟨k, by omega, by omega, q⟩
/-- those right inside are counted -/
theorem enM_cnt {wf af tf : Nat → Int32} {vf : Nat → Int64} : ∀ (F : Fo) (f i : Nat), f < i → i + fsz F ≤ 20 → enM wf af tf vf F (nI f) i → cnt af (nI f) (fsz F) i = fln F
  | .leaf, _, _, _, _, _ => rfl
  | .inner n t p F R, f, i, hf, h20, h => by
    rw [fsz_i] at h20 ⊢
    have h1 : cnt af (nI f) (fsz F) (i + 1) = 0 := by
      refine cnt_0 _ _ (fun j j1 j2 q => ?_)
      rcases enM_ar F _ (i + 1) h.2.1 j j1 j2 with a | ⟨k, k1, k2, a⟩
      · have := (nI_eq (by omega) (by omega)).mp (a.symm.trans q); omega
      · have := (nI_eq (by omega) (by omega)).mp (a.symm.trans q); omega
    have h2 := enM_cnt R f (i + 1 + fsz F) (by omega) (by omega) h.2.2
    rw [show 1 + fsz F + fsz R = (fsz F + fsz R) + 1 by omega, cnt_s, if_pos h.1.2.1, cnt_add, h1, h2]
    show 1 + (0 + fln R) = 1 + fln R
    omega
/-- the reference's rows, while filters are read -/
def fmA (μ : kc_M) (wf af tf : Nat → Int32) (vf : Nat → Int64) : Prop := μ.1 152 = some (ce_I 20 wf) ∧ μ.1 153 = some (ce_I 20 af) ∧ μ.1 154 = some (ce_I 20 tf) ∧ μ.1 155 = some (ce_L 20 vf)
theorem fmA_k {μ μ' : kc_M} {wf af tf : Nat → Int32} {vf : Nat → Int64} (h : fmA μ wf af tf vf) (hk : ∀ q, 152 ≤ q → q ≤ 155 → μ'.1 q = μ.1 q) : fmA μ' wf af tf vf :=
  ⟨(hk _ (by omega) (by omega)).trans h.1, (hk _ (by omega) (by omega)).trans h.2.1, (hk _ (by omega) (by omega)).trans h.2.2.1, (hk _ (by omega) (by omega)).trans h.2.2.2⟩
/-- the open filters, the innermost first -/
def stK (oe of : Nat → Int32) : List (Nat × Nat) → Prop
  | [] => True
  | q :: S => oe S.length = nI q.1 ∧ of S.length = nI q.2 ∧ stK oe of S
theorem stK_k {oe of oe' of' : Nat → Int32} : ∀ S, stK oe of S → (∀ j, j < S.length → oe' j = oe j ∧ of' j = of j) → stK oe' of' S
  | [], _, _ => trivial
  | q :: S, h, hk => ⟨(hk S.length (by rw [List.length_cons]; omega)).1.trans h.1, (hk S.length (by rw [List.length_cons]; omega)).2.trans h.2.1, stK_k S h.2.2 (fun j hj => hk j (by rw [List.length_cons]; omega))⟩
def badF (wf af : Nat → Int32) (c f : Nat) : Prop := wf f = nI 162 ∧ cnt af (nI f) (c - (f + 1)) (f + 1) ≠ 1
/-- closing at p: what stays open, or none if it must not be closed -/
def clR (wf af : Nat → Int32) (c p : Nat) : List (Nat × Nat) → Option (List (Nat × Nat)) → Prop
  | [], r => r = some []
  | q :: S, r => if q.1 = p then (badF wf af c q.2 ∧ r = none) ∨ (¬ badF wf af c q.2 ∧ clR wf af c p S r) else r = some (q :: S)
/-- what reading filters changes -/
def mF (μ μ' : kc_M) (s s' : Nat → Int32) : Prop := μ'.1 136 = some (ce_Md s') ∧ (∀ i, i ∉ [13, 14, 15, 40, 46] → s' i = s i) ∧ (∀ q, q ≠ 136 → q < 152 ∨ 158 < q ∨ q = 156 → μ'.1 q = μ.1 q)
theorem nin9 {i : Nat} (h : i ∉ [13, 14, 15, 40, 46]) : i ∉ [13, 14, 15] ∧ i ≠ 40 ∧ i ≠ 46 := by
  simp only [List.mem_cons, List.not_mem_nil, or_false, not_or] at h ⊢
  omega
theorem mF.re {μ : kc_M} {s : Nat → Int32} (h : μ.1 136 = some (ce_Md s)) : mF μ μ s s := ⟨h, fun _ _ => rfl, fun _ _ _ => rfl⟩
theorem mF.to {μ μ1 μ2 : kc_M} {s s1 s2 : Nat → Int32} (h1 : mF μ μ1 s s1) (h2 : mF μ1 μ2 s1 s2) : mF μ μ2 s s2 := ⟨h2.1, fun i hi => (h2.2.1 i hi).trans (h1.2.1 i hi), fun q q1 q2 => (h2.2.2 q q1 q2).trans (h1.2.2 q q1 q2)⟩
theorem mF.C {μ μ1 μ2 : kc_M} {s s1 s2 : Nat → Int32} (h : mF μ μ1 s s1) (h2 : mdC μ1 μ2 s1 s2 [13, 14, 15]) : mF μ μ2 s s2 := ⟨h2.1, fun i hi => (h2.2.1 i (nin9 hi).1).trans (h.2.1 i hi), fun q q1 q2 => (h2.2.2 q q1).trans (h.2.2 q q1 q2)⟩
theorem mF.q {μ μ1 : kc_M} {s s1 : Nat → Int32} {a : Nat} {c : kc_C} (h : mF μ μ1 s s1) (ha : 152 ≤ a ∧ a ≤ 158 ∧ a ≠ 156) : mF μ (kc_u μ1 a c) s s1 := ⟨(kc_gf (by omega)).trans h.1, h.2.1, fun q q1 q2 => (kc_gf (by omega)).trans (h.2.2 q q1 q2)⟩
theorem mF.p {μ μ1 : kc_M} {s s1 : Nat → Int32} {k : Nat} {v : Int32} (h : mF μ μ1 s s1) (hk : k = 40 ∨ k = 46) : mF μ (kc_u μ1 136 (ce_Md (upd s1 k v))) s (upd s1 k v) := ⟨kc_gs, fun i hi => (if_neg (by have := (nin9 hi).2; omega)).trans (h.2.1 i hi), fun q q1 q2 => (kc_gf q1).trans (h.2.2 q q1 q2)⟩
set_option maxRecDepth 100000 in
set_option maxHeartbeats 4000000 in
theorem y_Md_isLeaf (d : Nat) {μ : kc_M} {t : Nat} (ht : t < 256) : kc_Y kt kC (d + 1) j_Md_isLeaf [.int (nI t)] μ (fun v μ' => v = some (.int (bI (lft t))) ∧ μ' = μ) := by
  refine ⟨Nat.le_of_ble_eq_true rfl, ?_⟩
  refine x_il c_Md_isLeaf_0 rfl ?_
  refine x_ci c_Md_isLeaf_1 ?_
  refine x_cmN_eq c_Md_isLeaf_4 (by omega) (by omega) (fun h4 => ?_) (fun h4 => ?_)
  · refine x_ci c_Md_isLeaf_28 ?_
    refine x_goto c_Md_isLeaf_29 ?_
    refine x_rz c_Md_isLeaf_33 (by first | decide | exact kz_n _) ?_
    first | exact ⟨by rw [show lft t = true by rw [h4]; rfl] <;> rfl, rfl⟩ | exact ⟨by rw [show lft t = true by rw [h11]; rfl] <;> rfl, rfl⟩ | exact ⟨by rw [show lft t = true by rw [h18]; rfl] <;> rfl, rfl⟩ | exact ⟨by rw [show lft t = true by rw [h25]; rfl] <;> rfl, rfl⟩ | exact ⟨by rw [show lft t = false by unfold lft; rw [decide_eq_false h4, decide_eq_false h11, decide_eq_false h18, decide_eq_false h25]; rfl] <;> rfl, rfl⟩
  · refine x_il c_Md_isLeaf_7 rfl ?_
    refine x_ci c_Md_isLeaf_8 ?_
    refine x_cmN_eq c_Md_isLeaf_11 (by omega) (by omega) (fun h11 => ?_) (fun h11 => ?_)
    · refine x_ci c_Md_isLeaf_28 ?_
      refine x_goto c_Md_isLeaf_29 ?_
      refine x_rz c_Md_isLeaf_33 (by first | decide | exact kz_n _) ?_
      first | exact ⟨by rw [show lft t = true by rw [h4]; rfl] <;> rfl, rfl⟩ | exact ⟨by rw [show lft t = true by rw [h11]; rfl] <;> rfl, rfl⟩ | exact ⟨by rw [show lft t = true by rw [h18]; rfl] <;> rfl, rfl⟩ | exact ⟨by rw [show lft t = true by rw [h25]; rfl] <;> rfl, rfl⟩ | exact ⟨by rw [show lft t = false by unfold lft; rw [decide_eq_false h4, decide_eq_false h11, decide_eq_false h18, decide_eq_false h25]; rfl] <;> rfl, rfl⟩
    · refine x_il c_Md_isLeaf_14 rfl ?_
      refine x_ci c_Md_isLeaf_15 ?_
      refine x_cmN_eq c_Md_isLeaf_18 (by omega) (by omega) (fun h18 => ?_) (fun h18 => ?_)
      · refine x_ci c_Md_isLeaf_28 ?_
        refine x_goto c_Md_isLeaf_29 ?_
        refine x_rz c_Md_isLeaf_33 (by first | decide | exact kz_n _) ?_
        first | exact ⟨by rw [show lft t = true by rw [h4]; rfl] <;> rfl, rfl⟩ | exact ⟨by rw [show lft t = true by rw [h11]; rfl] <;> rfl, rfl⟩ | exact ⟨by rw [show lft t = true by rw [h18]; rfl] <;> rfl, rfl⟩ | exact ⟨by rw [show lft t = true by rw [h25]; rfl] <;> rfl, rfl⟩ | exact ⟨by rw [show lft t = false by unfold lft; rw [decide_eq_false h4, decide_eq_false h11, decide_eq_false h18, decide_eq_false h25]; rfl] <;> rfl, rfl⟩
      · refine x_il c_Md_isLeaf_21 rfl ?_
        refine x_ci c_Md_isLeaf_22 ?_
        refine x_cmN_ne c_Md_isLeaf_25 (by omega) (by omega) (fun h25 => ?_) (fun h25 => ?_)
        · refine x_ci c_Md_isLeaf_32 ?_
          refine x_rz c_Md_isLeaf_33 (by first | decide | exact kz_n _) ?_
          first | exact ⟨by rw [show lft t = true by rw [h4]; rfl] <;> rfl, rfl⟩ | exact ⟨by rw [show lft t = true by rw [h11]; rfl] <;> rfl, rfl⟩ | exact ⟨by rw [show lft t = true by rw [h18]; rfl] <;> rfl, rfl⟩ | exact ⟨by rw [show lft t = true by rw [h25]; rfl] <;> rfl, rfl⟩ | exact ⟨by rw [show lft t = false by unfold lft; rw [decide_eq_false h4, decide_eq_false h11, decide_eq_false h18, decide_eq_false h25]; rfl] <;> rfl, rfl⟩
        · refine x_ci c_Md_isLeaf_28 ?_
          refine x_goto c_Md_isLeaf_29 ?_
          refine x_rz c_Md_isLeaf_33 (by first | decide | exact kz_n _) ?_
          first | exact ⟨by rw [show lft t = true by rw [h4]; rfl] <;> rfl, rfl⟩ | exact ⟨by rw [show lft t = true by rw [h11]; rfl] <;> rfl, rfl⟩ | exact ⟨by rw [show lft t = true by rw [h18]; rfl] <;> rfl, rfl⟩ | exact ⟨by rw [show lft t = true by rw [h25]; rfl] <;> rfl, rfl⟩ | exact ⟨by rw [show lft t = false by unfold lft; rw [decide_eq_false h4, decide_eq_false h11, decide_eq_false h18, decide_eq_false h25]; rfl] <;> rfl, rfl⟩
set_option maxRecDepth 100000 in
set_option maxHeartbeats 4000000 in
theorem y_Md_inside (d : Nat) {μ : kc_M} {s : Nat → Int32} (h0 : μ.1 136 = some (ce_Md s)) {af : Nat → Int32} (ha : μ.1 153 = some (ce_I 20 af)) {c f : Nat} (h40 : s 40 = nI c) (hc : c ≤ 20) (hf : f < c) : kc_Y kt kC (d + 1) j_Md_inside [.ref 136, .int (nI f)] μ (fun v μ' => v = some (.int (nI (cnt af (nI f) (c - (f + 1)) (f + 1)))) ∧ μ' = μ) := by
  refine ⟨Nat.le_of_ble_eq_true rfl, ?_⟩
  have loop : ∀ m g n, c - g = m → g ≤ c → n + cnt af (nI f) m g = cnt af (nI f) (c - (f + 1)) (f + 1) → kc_X (kC j_Md_inside) (kc_Y kt kC d) (fun v μ' => v = some (.int (nI (cnt af (nI f) (c - (f + 1)) (f + 1)))) ∧ μ' = μ) 6 [some (.ref 136), some (.int (nI f)), some (.int (nI n)), some (.int (nI g))] [] μ (0, 0) := by
    intro m
    induction m with
    | zero =>
      intro g n hm hg hR
      refine x_il c_Md_inside_6 rfl ?_
      refine x_al c_Md_inside_7 rfl ?_
      refine x_getE c_Md_inside_8 (by first | rfl | exact h0) rfl (by first | exact h40 | rfl) ?_
      refine x_cmN_ge c_Md_inside_11 (by omega) (by omega) (fun _ => ?_) (fun h => (by exfalso; omega))
      refine x_il c_Md_inside_38 rfl ?_
      refine x_ri c_Md_inside_39 ?_
      exact ⟨by rw [← hR]; rfl, rfl⟩
    | succ m ih =>
      intro g n hm hg hR
      rw [cnt_s] at hR
      refine x_il c_Md_inside_6 rfl ?_
      refine x_al c_Md_inside_7 rfl ?_
      refine x_getE c_Md_inside_8 (by first | rfl | exact h0 | exact ha) rfl (by first | exact h40 | rfl) ?_
      refine x_cmN_ge c_Md_inside_11 (by omega) (by omega) (fun h => (by exfalso; omega)) (fun _ => ?_)
      refine x_al c_Md_inside_14 rfl ?_
      refine x_get c_Md_inside_15 (by first | rfl | exact h0 | exact ha) rfl ?_
      refine x_il c_Md_inside_18 rfl ?_
      refine x_ialdN c_Md_inside_19 (by first | rfl | exact h0 | exact ha) (by omega) (by omega) ?_
      refine x_il c_Md_inside_20 rfl ?_
      refine x_cm_ne c_Md_inside_21 (fun h21 => ?_) (fun h21 => ?_)
      · refine x_il c_Md_inside_30 rfl ?_
        refine x_is [_, _, _, _] c_Md_inside_31 rfl ?_
        first | refine x_incN [_, _, _, _] c_Md_inside_32 rfl rfl ?_ | refine x_inc [_, _, _, _] c_Md_inside_32 rfl rfl ?_
        refine x_goto c_Md_inside_35 ?_
        first | exact ih (g + 1) (n + 1) (by omega) (by omega) (by rw [if_pos (Classical.not_not.mp h21)] at hR; omega) | exact ih (g + 1) n (by omega) (by omega) (by rw [if_neg h21] at hR; omega) | exact ih (g + 1) (n + 1) (by omega) (by omega) (by rw [if_pos h21] at hR; omega)
      · refine x_il c_Md_inside_24 rfl ?_
        refine x_ci c_Md_inside_25 ?_
        first | refine x_iaddN c_Md_inside_26 ?_ | refine x_iadd c_Md_inside_26 ?_
        refine x_goto c_Md_inside_27 ?_
        refine x_is [_, _, _, _] c_Md_inside_31 rfl ?_
        first | refine x_incN [_, _, _, _] c_Md_inside_32 rfl rfl ?_ | refine x_inc [_, _, _, _] c_Md_inside_32 rfl rfl ?_
        refine x_goto c_Md_inside_35 ?_
        first | exact ih (g + 1) (n + 1) (by omega) (by omega) (by rw [if_pos (Classical.not_not.mp h21)] at hR; omega) | exact ih (g + 1) n (by omega) (by omega) (by rw [if_neg h21] at hR; omega) | exact ih (g + 1) (n + 1) (by omega) (by omega) (by rw [if_pos h21] at hR; omega)
  refine x_ci c_Md_inside_0 ?_
  refine x_is [_, _, _, _] c_Md_inside_1 rfl ?_
  refine x_il c_Md_inside_2 rfl ?_
  refine x_ci c_Md_inside_3 ?_
  first | refine x_iaddN c_Md_inside_4 ?_ | refine x_iadd c_Md_inside_4 ?_
  refine x_is [_, _, _, _] c_Md_inside_5 rfl ?_
  exact loop _ (f + 1) 0 rfl (by omega) (by omega)
set_option maxRecDepth 100000 in
set_option maxHeartbeats 4000000 in
theorem y_Md_closeAt (d : Nat) {μ : kc_M} {s : Nat → Int32} (h0 : μ.1 136 = some (ce_Md s)) {wf af oe of : Nat → Int32} (m3 : μ.1 152 = some (ce_I 20 wf)) (m4 : μ.1 153 = some (ce_I 20 af)) (m1 : μ.1 157 = some (ce_I 6 oe)) (m2 : μ.1 158 = some (ce_I 6 of)) {c p : Nat} (h40 : s 40 = nI c) (hc : c ≤ 20) (hp : p ≤ 200) {S : List (Nat × Nat)} (h46 : s 46 = nI S.length) (hS : S.length ≤ 6) (hst : stK oe of S) (hq : ∀ q ∈ S, q.1 ≤ 200 ∧ q.2 < c) : kc_Y kt kC (d + 2) j_Md_closeAt [.ref 136, .int (nI p)] μ (fun v μ' => ∃ s', (μ'.1 136 = some (ce_Md s') ∧ (∀ i, i ≠ 46 → s' i = s i) ∧ ∀ q, q ≠ 136 → μ'.1 q = μ.1 q) ∧ ((∃ S', clR wf af c p S (some S') ∧ v = some (.int (bI true)) ∧ s' 46 = nI S'.length ∧ S'.length ≤ S.length ∧ stK oe of S') ∨ (clR wf af c p S none ∧ v = some (.int (bI false))))) := by
  refine ⟨Nat.le_of_ble_eq_true rfl, ?_⟩
  have loop : ∀ (S1 : List (Nat × Nat)) (μ1 : kc_M) (s1 : Nat → Int32), μ1.1 136 = some (ce_Md s1) → (∀ i, i ≠ 46 → s1 i = s i) → (∀ q, q ≠ 136 → μ1.1 q = μ.1 q) → s1 46 = nI S1.length → S1.length ≤ S.length → stK oe of S1 → (∀ q ∈ S1, q.1 ≤ 200 ∧ q.2 < c) → (∀ r, clR wf af c p S1 r → clR wf af c p S r) → kc_X (kC j_Md_closeAt) (kc_Y kt kC (d + 1)) (fun v μ' => ∃ s', (μ'.1 136 = some (ce_Md s') ∧ (∀ i, i ≠ 46 → s' i = s i) ∧ ∀ q, q ≠ 136 → μ'.1 q = μ.1 q) ∧ ((∃ S', clR wf af c p S (some S') ∧ v = some (.int (bI true)) ∧ s' 46 = nI S'.length ∧ S'.length ≤ S.length ∧ stK oe of S') ∨ (clR wf af c p S none ∧ v = some (.int (bI false))))) 0 [some (.ref 136), some (.int (nI p))] [] μ1 (0, 0) := by
    intro S1
    induction S1 with
    | nil =>
      intro μ1 s1 g1 hs1 hf1 e46 hl hst hq hR
      have e46 : s1 46 = nI 0 := e46
      refine x_al c_Md_closeAt_0 rfl ?_
      refine x_getE c_Md_closeAt_1 (by first | rfl | exact g1) rfl (by first | exact e46 | rfl) ?_
      refine x_ifN_le c_Md_closeAt_4 (by omega) (fun _ => ?_) (fun h => (by exfalso; omega))
      refine x_ci c_Md_closeAt_71 ?_
      refine x_rz c_Md_closeAt_72 (by first | decide | exact kz_n _) ?_
      exact ⟨s1, ⟨g1, hs1, hf1⟩, Or.inl ⟨[], hR _ rfl, rfl, e46, hl, trivial⟩⟩
    | cons q S1 ih =>
      intro μ1 s1 g1 hs1 hf1 e46 hl hst hq hR
      obtain ⟨qe, qf⟩ := q
      have hl' : S1.length + 1 ≤ S.length := hl
      have e46 : s1 46 = nI (S1.length + 1) := e46
      have e46' : (upd s1 46 (nI S1.length)) 46 = nI S1.length := rfl
      obtain ⟨t1, t2, t3⟩ := hst
      have hqq := hq (qe, qf) (List.mem_cons_self ..)
      have hq1 : qe ≤ 200 := hqq.1
      have hq2 : qf < c := hqq.2
      have t1 : oe S1.length = nI qe := t1
      have t2 : of S1.length = nI qf := t2
      have k1 : μ1.1 157 = some (ce_I 6 oe) := (hf1 157 (by decide)).trans m1
      have k2 : μ1.1 158 = some (ce_I 6 of) := (hf1 158 (by decide)).trans m2
      have k3 : μ1.1 152 = some (ce_I 20 wf) := (hf1 152 (by decide)).trans m3
      have k4 : μ1.1 153 = some (ce_I 20 af) := (hf1 153 (by decide)).trans m4
      by_cases hp : qe = p
      · have e40 : (upd s1 46 (nI S1.length)) 40 = nI c := (hs1 40 (by decide)).trans h40
        by_cases h162 : wf qf = nI 162
        · by_cases hone : cnt af (nI qf) (c - (qf + 1)) (qf + 1) = 1
          · skip
            refine x_al c_Md_closeAt_0 rfl ?_
            refine x_getE c_Md_closeAt_1 (by first | rfl | exact rfl | exact g1 | exact k2 | exact k1 | exact k3 | exact k4) rfl (by first | exact e46 | exact e46' | rfl) ?_
            refine x_ifN_le c_Md_closeAt_4 (by omega) (fun h => (by exfalso; omega)) (fun _ => ?_)
            refine x_al c_Md_closeAt_7 rfl ?_
            refine x_get c_Md_closeAt_8 (by first | rfl | exact rfl | exact g1 | exact k2 | exact k1 | exact k3 | exact k4) rfl ?_
            refine x_al c_Md_closeAt_11 rfl ?_
            refine x_getE c_Md_closeAt_12 (by first | rfl | exact rfl | exact g1 | exact k2 | exact k1 | exact k3 | exact k4) rfl (by first | exact e46 | exact e46' | rfl) ?_
            refine x_ci c_Md_closeAt_15 ?_
            first | refine x_isubN c_Md_closeAt_16 (by omega) ?_ | refine x_isub c_Md_closeAt_16 ?_
            refine x_ialdE c_Md_closeAt_17 (by first | rfl | exact rfl | exact g1 | exact k2 | exact k1 | exact k3 | exact k4) (by omega) (by omega) (t1) ?_
            refine x_il c_Md_closeAt_18 rfl ?_
            refine x_cmN_ne c_Md_closeAt_19 (by omega) (by omega) (fun h => (by exfalso; omega)) (fun _ => ?_)
            refine x_al c_Md_closeAt_22 rfl ?_
            refine x_dup c_Md_closeAt_23 rfl ?_
            refine x_getE c_Md_closeAt_24 (by first | rfl | exact rfl | exact g1 | exact k2 | exact k1 | exact k3 | exact k4) rfl (by first | exact e46 | exact e46' | rfl) ?_
            refine x_ci c_Md_closeAt_27 ?_
            first | refine x_isubN c_Md_closeAt_28 (by omega) ?_ | refine x_isub c_Md_closeAt_28 ?_
            refine x_putM c_Md_closeAt_29 (by first | rfl | exact rfl | exact g1 | exact k2 | exact k1 | exact k3 | exact k4) ⟨by decide, rfl, rfl⟩ rfl ?_
            refine x_al c_Md_closeAt_32 rfl ?_
            refine x_get c_Md_closeAt_33 (by first | rfl | exact rfl | exact g1 | exact k2 | exact k1 | exact k3 | exact k4) rfl ?_
            refine x_al c_Md_closeAt_36 rfl ?_
            refine x_get c_Md_closeAt_37 (by first | rfl | exact rfl | exact g1 | exact k2 | exact k1 | exact k3 | exact k4) rfl ?_
            refine x_al c_Md_closeAt_40 rfl ?_
            refine x_getE c_Md_closeAt_41 (by first | rfl | exact rfl | exact g1 | exact k2 | exact k1 | exact k3 | exact k4) rfl (by first | exact e46 | exact e46' | rfl) ?_
            refine x_ialdE c_Md_closeAt_44 (by first | rfl | exact rfl | exact g1 | exact k2 | exact k1 | exact k3 | exact k4) (by omega) (by omega) (t2) ?_
            refine x_ialdN c_Md_closeAt_45 (by first | rfl | exact rfl | exact g1 | exact k2 | exact k1 | exact k3 | exact k4) (by omega) (by omega) ?_
            refine x_ci c_Md_closeAt_46 ?_
            refine x_cm_ne c_Md_closeAt_49 (fun h => absurd (h162) h) (fun _ => ?_)
            refine x_al c_Md_closeAt_52 rfl ?_
            refine x_al c_Md_closeAt_53 rfl ?_
            refine x_get c_Md_closeAt_54 (by first | rfl | exact rfl | exact g1 | exact k2 | exact k1 | exact k3 | exact k4) rfl ?_
            refine x_al c_Md_closeAt_57 rfl ?_
            refine x_getE c_Md_closeAt_58 (by first | rfl | exact rfl | exact g1 | exact k2 | exact k1 | exact k3 | exact k4) rfl (by first | exact e46 | exact e46' | rfl) ?_
            refine x_ialdE c_Md_closeAt_61 (by first | rfl | exact rfl | exact g1 | exact k2 | exact k1 | exact k3 | exact k4) (by omega) (by omega) (t2) ?_
            refine x_cv1z _ c_Md_closeAt_62 (by first | rfl | exact rfl | exact g1 | exact k2 | exact k1 | exact k3 | exact k4) (Nat.le_of_ble_eq_true rfl) (y_Md_inside d (μ := kc_u μ1 136 _) (s := (upd s1 46 (nI S1.length))) kc_gs (by exact k4) e40 hc hq2) ?_
            rintro _ μx ⟨rfl, hμx⟩
            have hμx := hμx.symm
            subst hμx
            show kc_X _ _ _ _ _ [.int (nI (cnt af (nI qf) (c - (qf + 1)) (qf + 1)))] _ _
            refine x_ci c_Md_closeAt_65 ?_
            refine x_cm_eq c_Md_closeAt_66 (fun _ => ?_) (fun h => absurd (congrArg nI hone) h)
            exact ih _ (upd s1 46 (nI S1.length)) kc_gs (fun i hi => (if_neg hi).trans (hs1 i hi)) (fun q q1 => (kc_gf q1).trans (hf1 q q1)) rfl (by omega) t3 (fun q hh => hq q (List.mem_cons_of_mem _ hh)) (fun r hr => hR r (by unfold clR; rw [if_pos hp]; exact Or.inr ⟨fun q => q.2 hone, hr⟩))
          · have hcl := cnt_le af (nI qf) (c - (qf + 1)) (qf + 1)
            have hone' : ¬ nI (cnt af (nI qf) (c - (qf + 1)) (qf + 1)) = nI 1 := fun q => hone ((nI_eq (by omega) (by omega)).mp q)
            refine x_al c_Md_closeAt_0 rfl ?_
            refine x_getE c_Md_closeAt_1 (by first | rfl | exact rfl | exact g1 | exact k2 | exact k1 | exact k3 | exact k4) rfl (by first | exact e46 | exact e46' | rfl) ?_
            refine x_ifN_le c_Md_closeAt_4 (by omega) (fun h => (by exfalso; omega)) (fun _ => ?_)
            refine x_al c_Md_closeAt_7 rfl ?_
            refine x_get c_Md_closeAt_8 (by first | rfl | exact rfl | exact g1 | exact k2 | exact k1 | exact k3 | exact k4) rfl ?_
            refine x_al c_Md_closeAt_11 rfl ?_
            refine x_getE c_Md_closeAt_12 (by first | rfl | exact rfl | exact g1 | exact k2 | exact k1 | exact k3 | exact k4) rfl (by first | exact e46 | exact e46' | rfl) ?_
            refine x_ci c_Md_closeAt_15 ?_
            first | refine x_isubN c_Md_closeAt_16 (by omega) ?_ | refine x_isub c_Md_closeAt_16 ?_
            refine x_ialdE c_Md_closeAt_17 (by first | rfl | exact rfl | exact g1 | exact k2 | exact k1 | exact k3 | exact k4) (by omega) (by omega) (t1) ?_
            refine x_il c_Md_closeAt_18 rfl ?_
            refine x_cmN_ne c_Md_closeAt_19 (by omega) (by omega) (fun h => (by exfalso; omega)) (fun _ => ?_)
            refine x_al c_Md_closeAt_22 rfl ?_
            refine x_dup c_Md_closeAt_23 rfl ?_
            refine x_getE c_Md_closeAt_24 (by first | rfl | exact rfl | exact g1 | exact k2 | exact k1 | exact k3 | exact k4) rfl (by first | exact e46 | exact e46' | rfl) ?_
            refine x_ci c_Md_closeAt_27 ?_
            first | refine x_isubN c_Md_closeAt_28 (by omega) ?_ | refine x_isub c_Md_closeAt_28 ?_
            refine x_putM c_Md_closeAt_29 (by first | rfl | exact rfl | exact g1 | exact k2 | exact k1 | exact k3 | exact k4) ⟨by decide, rfl, rfl⟩ rfl ?_
            refine x_al c_Md_closeAt_32 rfl ?_
            refine x_get c_Md_closeAt_33 (by first | rfl | exact rfl | exact g1 | exact k2 | exact k1 | exact k3 | exact k4) rfl ?_
            refine x_al c_Md_closeAt_36 rfl ?_
            refine x_get c_Md_closeAt_37 (by first | rfl | exact rfl | exact g1 | exact k2 | exact k1 | exact k3 | exact k4) rfl ?_
            refine x_al c_Md_closeAt_40 rfl ?_
            refine x_getE c_Md_closeAt_41 (by first | rfl | exact rfl | exact g1 | exact k2 | exact k1 | exact k3 | exact k4) rfl (by first | exact e46 | exact e46' | rfl) ?_
            refine x_ialdE c_Md_closeAt_44 (by first | rfl | exact rfl | exact g1 | exact k2 | exact k1 | exact k3 | exact k4) (by omega) (by omega) (t2) ?_
            refine x_ialdN c_Md_closeAt_45 (by first | rfl | exact rfl | exact g1 | exact k2 | exact k1 | exact k3 | exact k4) (by omega) (by omega) ?_
            refine x_ci c_Md_closeAt_46 ?_
            refine x_cm_ne c_Md_closeAt_49 (fun h => absurd (h162) h) (fun _ => ?_)
            refine x_al c_Md_closeAt_52 rfl ?_
            refine x_al c_Md_closeAt_53 rfl ?_
            refine x_get c_Md_closeAt_54 (by first | rfl | exact rfl | exact g1 | exact k2 | exact k1 | exact k3 | exact k4) rfl ?_
            refine x_al c_Md_closeAt_57 rfl ?_
            refine x_getE c_Md_closeAt_58 (by first | rfl | exact rfl | exact g1 | exact k2 | exact k1 | exact k3 | exact k4) rfl (by first | exact e46 | exact e46' | rfl) ?_
            refine x_ialdE c_Md_closeAt_61 (by first | rfl | exact rfl | exact g1 | exact k2 | exact k1 | exact k3 | exact k4) (by omega) (by omega) (t2) ?_
            refine x_cv1z _ c_Md_closeAt_62 (by first | rfl | exact rfl | exact g1 | exact k2 | exact k1 | exact k3 | exact k4) (Nat.le_of_ble_eq_true rfl) (y_Md_inside d (μ := kc_u μ1 136 _) (s := (upd s1 46 (nI S1.length))) kc_gs (by exact k4) e40 hc hq2) ?_
            rintro _ μx ⟨rfl, hμx⟩
            have hμx := hμx.symm
            subst hμx
            show kc_X _ _ _ _ _ [.int (nI (cnt af (nI qf) (c - (qf + 1)) (qf + 1)))] _ _
            refine x_ci c_Md_closeAt_65 ?_
            refine x_cm_eq c_Md_closeAt_66 (fun h => absurd h (hone')) (fun _ => ?_)
            refine x_ci c_Md_closeAt_69 ?_
            refine x_rz c_Md_closeAt_70 (by first | decide | exact kz_n _) ?_
            exact ⟨(upd s1 46 (nI S1.length)), ⟨kc_gs, fun i hi => (if_neg hi).trans (hs1 i hi), fun q q1 => (kc_gf q1).trans (hf1 q q1)⟩, Or.inr ⟨hR none (by unfold clR; rw [if_pos hp]; exact Or.inl ⟨⟨h162, hone⟩, rfl⟩), rfl⟩⟩
        · skip
          refine x_al c_Md_closeAt_0 rfl ?_
          refine x_getE c_Md_closeAt_1 (by first | rfl | exact rfl | exact g1 | exact k2 | exact k1 | exact k3 | exact k4) rfl (by first | exact e46 | exact e46' | rfl) ?_
          refine x_ifN_le c_Md_closeAt_4 (by omega) (fun h => (by exfalso; omega)) (fun _ => ?_)
          refine x_al c_Md_closeAt_7 rfl ?_
          refine x_get c_Md_closeAt_8 (by first | rfl | exact rfl | exact g1 | exact k2 | exact k1 | exact k3 | exact k4) rfl ?_
          refine x_al c_Md_closeAt_11 rfl ?_
          refine x_getE c_Md_closeAt_12 (by first | rfl | exact rfl | exact g1 | exact k2 | exact k1 | exact k3 | exact k4) rfl (by first | exact e46 | exact e46' | rfl) ?_
          refine x_ci c_Md_closeAt_15 ?_
          first | refine x_isubN c_Md_closeAt_16 (by omega) ?_ | refine x_isub c_Md_closeAt_16 ?_
          refine x_ialdE c_Md_closeAt_17 (by first | rfl | exact rfl | exact g1 | exact k2 | exact k1 | exact k3 | exact k4) (by omega) (by omega) (t1) ?_
          refine x_il c_Md_closeAt_18 rfl ?_
          refine x_cmN_ne c_Md_closeAt_19 (by omega) (by omega) (fun h => (by exfalso; omega)) (fun _ => ?_)
          refine x_al c_Md_closeAt_22 rfl ?_
          refine x_dup c_Md_closeAt_23 rfl ?_
          refine x_getE c_Md_closeAt_24 (by first | rfl | exact rfl | exact g1 | exact k2 | exact k1 | exact k3 | exact k4) rfl (by first | exact e46 | exact e46' | rfl) ?_
          refine x_ci c_Md_closeAt_27 ?_
          first | refine x_isubN c_Md_closeAt_28 (by omega) ?_ | refine x_isub c_Md_closeAt_28 ?_
          refine x_putM c_Md_closeAt_29 (by first | rfl | exact rfl | exact g1 | exact k2 | exact k1 | exact k3 | exact k4) ⟨by decide, rfl, rfl⟩ rfl ?_
          refine x_al c_Md_closeAt_32 rfl ?_
          refine x_get c_Md_closeAt_33 (by first | rfl | exact rfl | exact g1 | exact k2 | exact k1 | exact k3 | exact k4) rfl ?_
          refine x_al c_Md_closeAt_36 rfl ?_
          refine x_get c_Md_closeAt_37 (by first | rfl | exact rfl | exact g1 | exact k2 | exact k1 | exact k3 | exact k4) rfl ?_
          refine x_al c_Md_closeAt_40 rfl ?_
          refine x_getE c_Md_closeAt_41 (by first | rfl | exact rfl | exact g1 | exact k2 | exact k1 | exact k3 | exact k4) rfl (by first | exact e46 | exact e46' | rfl) ?_
          refine x_ialdE c_Md_closeAt_44 (by first | rfl | exact rfl | exact g1 | exact k2 | exact k1 | exact k3 | exact k4) (by omega) (by omega) (t2) ?_
          refine x_ialdN c_Md_closeAt_45 (by first | rfl | exact rfl | exact g1 | exact k2 | exact k1 | exact k3 | exact k4) (by omega) (by omega) ?_
          refine x_ci c_Md_closeAt_46 ?_
          refine x_cm_ne c_Md_closeAt_49 (fun _ => ?_) (fun h => absurd h (h162))
          exact ih _ (upd s1 46 (nI S1.length)) kc_gs (fun i hi => (if_neg hi).trans (hs1 i hi)) (fun q q1 => (kc_gf q1).trans (hf1 q q1)) rfl (by omega) t3 (fun q hh => hq q (List.mem_cons_of_mem _ hh)) (fun r hr => hR r (by unfold clR; rw [if_pos hp]; exact Or.inr ⟨fun q => h162 q.1, hr⟩))
      · skip
        refine x_al c_Md_closeAt_0 rfl ?_
        refine x_getE c_Md_closeAt_1 (by first | rfl | exact rfl | exact g1 | exact k2 | exact k1 | exact k3 | exact k4) rfl (by first | exact e46 | exact e46' | rfl) ?_
        refine x_ifN_le c_Md_closeAt_4 (by omega) (fun h => (by exfalso; omega)) (fun _ => ?_)
        refine x_al c_Md_closeAt_7 rfl ?_
        refine x_get c_Md_closeAt_8 (by first | rfl | exact rfl | exact g1 | exact k2 | exact k1 | exact k3 | exact k4) rfl ?_
        refine x_al c_Md_closeAt_11 rfl ?_
        refine x_getE c_Md_closeAt_12 (by first | rfl | exact rfl | exact g1 | exact k2 | exact k1 | exact k3 | exact k4) rfl (by first | exact e46 | exact e46' | rfl) ?_
        refine x_ci c_Md_closeAt_15 ?_
        first | refine x_isubN c_Md_closeAt_16 (by omega) ?_ | refine x_isub c_Md_closeAt_16 ?_
        refine x_ialdE c_Md_closeAt_17 (by first | rfl | exact rfl | exact g1 | exact k2 | exact k1 | exact k3 | exact k4) (by omega) (by omega) (t1) ?_
        refine x_il c_Md_closeAt_18 rfl ?_
        refine x_cmN_ne c_Md_closeAt_19 (by omega) (by omega) (fun _ => ?_) (fun h => (by exfalso; omega))
        refine x_ci c_Md_closeAt_71 ?_
        refine x_rz c_Md_closeAt_72 (by first | decide | exact kz_n _) ?_
        exact ⟨s1, ⟨g1, hs1, hf1⟩, Or.inl ⟨(qe, qf) :: S1, hR _ (by unfold clR; rw [if_neg hp]), rfl, e46, hl, ⟨t1, t2, t3⟩⟩⟩
  exact loop S μ s h0 (fun _ _ => rfl) (fun _ _ => rfl) h46 (Nat.le_refl _) hst hq (fun _ q => q)
set_option maxRecDepth 100000 in
set_option maxHeartbeats 4000000 in
theorem y_Md_readLeaf (d : Nat) {μ : kc_M} {s : Nat → Int32} (h0 : μ.1 136 = some (ce_Md s)) {tb : Nat → Nat} (h1 : μ.1 137 = some (ce_I 200 (fun j => nI (tb j)))) (htb : ∀ j, tb j < 256) {wf tf : Nat → Int32} {vf : Nat → Int64} (m1 : μ.1 152 = some (ce_I 20 wf)) (m3 : μ.1 154 = some (ce_I 20 tf)) (m4 : μ.1 155 = some (ce_L 20 vf)) {f t x y : Nat} (hf : f < 20) (ht : t < 256) (hwf : wf f = nI t) (h14 : s 14 = nI x) (h15 : s 15 = nI y) (hxy : x ≤ y) (hy : y ≤ 200) : kc_Y kt kC (d + 3) j_Md_readLeaf [.ref 136, .int (nI f)] μ (fun v μ' => ∃ s', (μ'.1 136 = some (ce_Md s') ∧ (∀ i, i ∉ [13, 14, 15] → s' i = s i) ∧ ∀ q, q ≠ 136 → q ≠ 154 → q ≠ 155 → μ'.1 q = μ.1 q) ∧ ((∃ ty v' vf', lfP tb t x y = some (ty, v') ∧ v = some (.int (bI true)) ∧ μ'.1 154 = some (ce_I 20 (upd tf f ty)) ∧ μ'.1 155 = some (ce_L 20 vf') ∧ (∀ j, j ≠ f → vf' j = vf j) ∧ (t ≠ 135 → vf' f = v')) ∨ (lfP tb t x y = none ∧ v = some (.int (bI false)) ∧ (∃ tf', μ'.1 154 = some (ce_I 20 tf')) ∧ μ'.1 155 = some (ce_L 20 vf)))) := by
  refine ⟨Nat.le_of_ble_eq_true rfl, ?_⟩
  have ht31 : t < 2 ^ 31 := by omega
  by_cases h135 : t = 135
  · subst h135
    refine x_al c_Md_readLeaf_0 rfl ?_
    refine x_getE c_Md_readLeaf_1 (by first | rfl | exact h0 | exact m1 | exact m3) rfl (by first | exact h15 | exact h14 | rfl) ?_
    refine x_is [_, _, _] c_Md_readLeaf_4 rfl ?_
    refine x_al c_Md_readLeaf_5 rfl ?_
    refine x_get c_Md_readLeaf_6 (by first | rfl | exact h0 | exact m1 | exact m3) rfl ?_
    refine x_il c_Md_readLeaf_9 rfl ?_
    refine x_ialdE c_Md_readLeaf_10 (by first | rfl | exact h0 | exact m1 | exact m3) (by omega) (by omega) (hwf) ?_
    refine x_ci c_Md_readLeaf_11 ?_
    refine x_cmN_ne c_Md_readLeaf_14 (by omega) (by omega) (fun h => (by exfalso; omega)) (fun _ => ?_)
    refine x_al c_Md_readLeaf_17 rfl ?_
    refine x_get c_Md_readLeaf_18 (by first | rfl | exact h0 | exact m1 | exact m3) rfl ?_
    refine x_il c_Md_readLeaf_21 rfl ?_
    refine x_al c_Md_readLeaf_22 rfl ?_
    refine x_al c_Md_readLeaf_23 rfl ?_
    refine x_getE c_Md_readLeaf_24 (by first | rfl | exact h0 | exact m1 | exact m3) rfl (by first | exact h15 | exact h14 | rfl) ?_
    refine x_il c_Md_readLeaf_27 rfl ?_
    refine x_cv2z _ c_Md_readLeaf_28 (by first | rfl | exact h0 | exact m1 | exact m3) (Nat.le_of_ble_eq_true rfl) (y_Md_typeIn (d + 1) h0 h1 htb (p := x) (e := y) (by omega) (by omega)) ?_
    rintro _ μx ⟨rfl, hμx⟩
    have hμx := hμx.symm
    subst hμx
    show kc_X _ _ _ _ _ (.int (tyS tb x y) :: _) _ _
    refine x_iastN c_Md_readLeaf_31 (by first | rfl | exact h0 | exact m1 | exact m3) (by omega) (by omega) ?_
    refine x_ci c_Md_readLeaf_32 ?_
    refine x_rz c_Md_readLeaf_33 (by first | decide | exact kz_n _) ?_
    exact ⟨s, ⟨(kc_gf (by decide)).trans h0, fun _ _ => rfl, fun q q1 q2 q3 => kc_gf q2⟩, Or.inl ⟨_, _, vf, (by unfold lfP; rw [if_pos rfl]), rfl, kc_gs, (kc_gf (by decide)).trans m4, fun _ _ => rfl, fun q => absurd rfl q⟩⟩
  · skip
    refine x_al c_Md_readLeaf_0 rfl ?_
    refine x_getE c_Md_readLeaf_1 (by first | rfl | exact h0 | exact m1 | exact m3) rfl (by first | exact h15 | exact h14 | rfl) ?_
    refine x_is [_, _, _] c_Md_readLeaf_4 rfl ?_
    refine x_al c_Md_readLeaf_5 rfl ?_
    refine x_get c_Md_readLeaf_6 (by first | rfl | exact h0 | exact m1 | exact m3) rfl ?_
    refine x_il c_Md_readLeaf_9 rfl ?_
    refine x_ialdE c_Md_readLeaf_10 (by first | rfl | exact h0 | exact m1 | exact m3) (by omega) (by omega) (hwf) ?_
    refine x_ci c_Md_readLeaf_11 ?_
    refine x_cmN_ne c_Md_readLeaf_14 (by omega) (by omega) (fun _ => ?_) (fun h => (by exfalso; omega))
    refine x_al c_Md_readLeaf_34 rfl ?_
    refine x_al c_Md_readLeaf_35 rfl ?_
    refine x_getE c_Md_readLeaf_36 (by first | rfl | exact h0 | exact m1 | exact m3) rfl (by first | exact h15 | exact h14 | rfl) ?_
    refine x_il c_Md_readLeaf_39 rfl ?_
    refine x_ci c_Md_readLeaf_40 ?_
    refine x_cv3z _ c_Md_readLeaf_41 (by first | rfl | exact h0 | exact m1 | exact m3) (Nat.le_of_ble_eq_true rfl) (y_Md_tagged d h0 h1 htb (p := x) (e := y) (by omega) (by omega) (t := 4) (by omega)) ?_
    rintro v μ2 ⟨s2, hc2, ⟨x2, y2, r2, rfl, a2, b2, d2⟩ | ⟨r2, rfl⟩⟩
    · show kc_X _ _ _ _ _ [.int (bI true)] _ _
      have k12 : μ2.1 137 = some (ce_I 200 (fun j => nI (tb j))) := (hc2.2.2 137 (by omega)).trans h1
      have i2 := tl_in r2
      have k3 := (hc2.2.2 154 (by decide)).trans m3
      have k4 := (hc2.2.2 155 (by decide)).trans m4
      refine x_if_ne c_Md_readLeaf_44 (fun _ => ?_) (fun h => absurd h (by decide))
      refine x_al c_Md_readLeaf_49 rfl ?_
      refine x_get c_Md_readLeaf_50 (by first | rfl | exact hc2.1 | exact k12 | exact k3) rfl ?_
      refine x_il c_Md_readLeaf_53 rfl ?_
      refine x_al c_Md_readLeaf_54 rfl ?_
      refine x_al c_Md_readLeaf_55 rfl ?_
      refine x_getE c_Md_readLeaf_56 (by first | rfl | exact hc2.1 | exact k12 | exact k3) rfl (by first | exact b2 | exact d2 | rfl) ?_
      refine x_al c_Md_readLeaf_59 rfl ?_
      refine x_getE c_Md_readLeaf_60 (by first | rfl | exact hc2.1 | exact k12 | exact k3) rfl (by first | exact b2 | exact d2 | rfl) ?_
      refine x_cv2z _ c_Md_readLeaf_63 (by first | rfl | exact hc2.1 | exact k12 | exact k3) (Nat.le_of_ble_eq_true rfl) (y_Md_typeIn (d + 1) hc2.1 k12 htb (p := x2) (e := y2) (by omega) (by omega)) ?_
      rintro _ μx ⟨rfl, hμx⟩
      have hμx := hμx.symm
      subst hμx
      show kc_X _ _ _ _ _ (.int (tyS tb x2 y2) :: _) _ _
      refine x_iastN c_Md_readLeaf_66 (by first | rfl | exact hc2.1 | exact k12 | exact k3) (by omega) (by omega) ?_
      refine x_al c_Md_readLeaf_67 rfl ?_
      refine x_al c_Md_readLeaf_68 rfl ?_
      refine x_getE c_Md_readLeaf_69 (by first | rfl | exact hc2.1 | exact k12 | exact k3) rfl (by first | exact b2 | exact d2 | rfl) ?_
      refine x_il c_Md_readLeaf_72 rfl ?_
      refine x_ci c_Md_readLeaf_73 ?_
      refine x_cv3z _ c_Md_readLeaf_74 (by first | rfl | exact hc2.1 | exact k12 | exact k3) (Nat.le_of_ble_eq_true rfl) (y_Md_tagged d (μ := kc_u μ2 154 _) (s := s2) (by exact hc2.1) (by exact k12) htb (p := y2) (e := y) (by omega) (by omega) (t := 4) (by omega)) ?_
      rintro v μ3 ⟨s3, hc3, ⟨x3, y3, r3, rfl, a3, b3, d3⟩ | ⟨r3, rfl⟩⟩
      · show kc_X _ _ _ _ _ [.int (bI true)] _ _
        have k13 : μ3.1 137 = some (ce_I 200 (fun j => nI (tb j))) := (hc3.2.2 137 (by omega)).trans k12
        have i3 := tl_in r3
        have k5 : μ3.1 155 = some (ce_L 20 vf) := (hc3.2.2 155 (by decide)).trans k4
        have k6 : μ3.1 154 = some (ce_I 20 (upd tf f (tyS tb x2 y2))) := (hc3.2.2 154 (by decide)).trans kc_gs
        refine x_if_eq c_Md_readLeaf_77 (fun h => absurd h (by decide)) (fun _ => ?_)
        refine x_al c_Md_readLeaf_80 rfl ?_
        refine x_getE c_Md_readLeaf_81 (by first | rfl | exact hc3.1 | exact k13 | exact k5) rfl (by first | exact b3 | exact d3 | rfl) ?_
        refine x_il c_Md_readLeaf_84 rfl ?_
        refine x_cmN_eq c_Md_readLeaf_85 (by omega) (by omega) (fun h85 => ?_) (fun h85 => ?_)
        · refine x_al c_Md_readLeaf_90 rfl ?_
          refine x_get c_Md_readLeaf_91 (by first | rfl | exact hc3.1 | exact k13 | exact k5) rfl ?_
          refine x_il c_Md_readLeaf_94 rfl ?_
          refine x_al c_Md_readLeaf_95 rfl ?_
          refine x_al c_Md_readLeaf_96 rfl ?_
          refine x_getE c_Md_readLeaf_97 (by first | rfl | exact hc3.1 | exact k13 | exact k5) rfl (by first | exact b3 | exact d3 | rfl) ?_
          refine x_al c_Md_readLeaf_100 rfl ?_
          refine x_getE c_Md_readLeaf_101 (by first | rfl | exact hc3.1 | exact k13 | exact k5) rfl (by first | exact b3 | exact d3 | rfl) ?_
          refine x_cv2z _ c_Md_readLeaf_104 (by first | rfl | exact hc3.1 | exact k13 | exact k5) (Nat.le_of_ble_eq_true rfl) (y_Md_valueIn d hc3.1 k13 htb (p := x3) (e := y3) (by omega) (by omega)) ?_
          rintro _ μx ⟨rfl, hμx⟩
          have hμx := hμx.symm
          subst hμx
          show kc_X _ _ _ _ _ (.long (vlS tb x3 y3) :: _) _ _
          refine x_lastN c_Md_readLeaf_107 (by first | rfl | exact hc3.1 | exact k13 | exact k5) (by omega) (by omega) ?_
          refine x_ci c_Md_readLeaf_108 ?_
          refine x_rz c_Md_readLeaf_109 (by first | decide | exact kz_n _) ?_
          exact ⟨s3, ⟨hc3.1, fun i hi => (hc3.2.1 i hi).trans (hc2.2.1 i hi), fun q q1 q2 q3 => (kc_gf q3).trans ((hc3.2.2 q q1).trans ((kc_gf q2).trans (hc2.2.2 q q1)))⟩, Or.inl ⟨_, _, _, (by unfold lfP; rw [if_neg h135, r2]; dsimp only; rw [r3]; dsimp only; rw [if_pos h85]), rfl, (kc_gf (by decide)).trans k6, kc_gs, fun j hj => if_neg hj, fun _ => if_pos rfl⟩⟩
        · refine x_ci c_Md_readLeaf_88 ?_
          refine x_rz c_Md_readLeaf_89 (by first | decide | exact kz_n _) ?_
          exact ⟨s3, ⟨hc3.1, fun i hi => (hc3.2.1 i hi).trans (hc2.2.1 i hi), fun q q1 q2 q3 => (hc3.2.2 q q1).trans ((kc_gf q2).trans (hc2.2.2 q q1))⟩, Or.inr ⟨by unfold lfP; rw [if_neg h135, r2]; dsimp only; rw [r3]; dsimp only; rw [if_neg h85], rfl, ⟨_, k6⟩, k5⟩⟩
      · show kc_X _ _ _ _ _ [.int (bI false)] _ _
        refine x_if_eq c_Md_readLeaf_77 (fun _ => ?_) (fun h => absurd (rfl) h)
        refine x_ci c_Md_readLeaf_88 ?_
        refine x_rz c_Md_readLeaf_89 (by first | decide | exact kz_n _) ?_
        exact ⟨s3, ⟨hc3.1, fun i hi => (hc3.2.1 i hi).trans (hc2.2.1 i hi), fun q q1 q2 q3 => (hc3.2.2 q q1).trans ((kc_gf q2).trans (hc2.2.2 q q1))⟩, Or.inr ⟨by unfold lfP; rw [if_neg h135, r2]; dsimp only; rw [r3], rfl, ⟨_, (hc3.2.2 154 (by decide)).trans kc_gs⟩, (hc3.2.2 155 (by decide)).trans k4⟩⟩
    · show kc_X _ _ _ _ _ [.int (bI false)] _ _
      refine x_if_ne c_Md_readLeaf_44 (fun h => absurd (rfl) h) (fun _ => ?_)
      refine x_ci c_Md_readLeaf_47 ?_
      refine x_rz c_Md_readLeaf_48 (by first | decide | exact kz_n _) ?_
      exact ⟨s2, ⟨hc2.1, hc2.2.1, fun q q1 _ _ => hc2.2.2 q q1⟩, Or.inr ⟨by unfold lfP; rw [if_neg h135, r2], rfl, ⟨_, (hc2.2.2 154 (by decide)).trans m3⟩, (hc2.2.2 155 (by decide)).trans m4⟩⟩
