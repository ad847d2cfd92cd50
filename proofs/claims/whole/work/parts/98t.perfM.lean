/-! the reference performs -/
/-- what performing a change leaves -/
def pfK (μ μ' : kc_M) (s : Nat → Int32) (tb : Nat → Nat) (ou : Nat → Int32) (n' : Nat) (nm' pr' : Nat → List tv) (code : Nat) (o : Option (List tv)) : Prop := ∃ s', μ'.1 136 = some (ce_Md s') ∧ (∀ i, i ≠ 6 → i ≠ 20 → i ≠ 49 → s' i = s i) ∧ s' 6 = nI n' ∧ mE μ' tb ou n' nm' pr' ∧ (∃ f, μ'.1 159 = some (ce_I 32 f)) ∧ (∃ f, μ'.1 160 = some (ce_L 32 f)) ∧ (∃ l', mN μ' s' l' ∧ (code = 32 → o = some l')) ∧ ∀ q, q ≠ 136 → q < 139 ∨ 144 < q → q ≠ 145 → q ≠ 146 → q ≠ 159 → q ≠ 160 → μ'.1 q = μ.1 q
set_option maxRecDepth 100000 in
set_option maxHeartbeats 4000000 in
theorem y_Md_perform74 (d : Nat) {μ : kc_M} {s : Nat → Int32} (h0 : μ.1 136 = some (ce_Md s)) {tb : Nat → Nat} {ou : Nat → Int32} {n : Nat} {nm pr : Nat → List tv} (hE : mE μ tb ou n nm pr) (h6 : s 6 = nI n) (htb : ∀ j, tb j < 256) (m1 : ∃ f, μ.1 145 = some (ce_I 4 f)) (m2 : ∃ f, μ.1 146 = some (ce_L 4 f)) (w1 : ∃ f, μ.1 159 = some (ce_I 32 f)) (w2 : ∃ f, μ.1 160 = some (ce_L 32 f)) (hN : ∃ l, mN μ s l) {so : Bool} (h1s : s 1 = bI so) (h17 : s 17 = nI 74) {x2 y2 : Nat} (h23 : s 23 = nI x2) (h24 : s 24 = nI y2) (hxy : x2 ≤ y2) (hy2 : y2 ≤ 200) : kc_Y kt kC (d + 5) j_Md_perform [.ref 136] μ (fun v μ' => v = some (.int (nI (dlC so n nm (nmS tb x2 y2)).1)) ∧ pfK μ μ' s tb ou (dn n (dlC so n nm (nmS tb x2 y2)).2) (fun i => nm (dr n (dlC so n nm (nmS tb x2 y2)).2 i)) (fun i => pr (dr n (dlC so n nm (nmS tb x2 y2)).2 i)) (dlC so n nm (nmS tb x2 y2)).1 (nmS tb x2 y2)) := by
  refine ⟨Nat.le_of_ble_eq_true rfl, ?_⟩
  have hn16 : n ≤ 16 := by obtain ⟨_, _, _, _, _, _, _, _, h9, _⟩ := hE; exact h9
  have h137 : μ.1 137 = some (ce_I 200 (fun j => nI (tb j))) := by obtain ⟨_, _, _, _, _, _, ⟨r1, _⟩, _⟩ := hE; exact r1
  cases hso : so with
  | false =>
    rw [← hso]
    rw [hso] at h1s
    refine x_al c_Md_perform_0 rfl ?_
    refine x_getE c_Md_perform_1 (by first | rfl | exact h0) rfl (by first | exact h17 | exact h1s | rfl) ?_
    refine x_ci c_Md_perform_4 ?_
    refine x_cmN_ne c_Md_perform_6 (by omega) (by omega) (fun _ => ?_) (fun h => (by exfalso; omega))
    refine x_al c_Md_perform_14 rfl ?_
    refine x_getE c_Md_perform_15 (by first | rfl | exact h0) rfl (by first | exact h17 | exact h1s | rfl) ?_
    refine x_ci c_Md_perform_18 ?_
    refine x_cmN_ne c_Md_perform_20 (by omega) (by omega) (fun _ => ?_) (fun h => (by exfalso; omega))
    refine x_al c_Md_perform_28 rfl ?_
    refine x_getE c_Md_perform_29 (by first | rfl | exact h0) rfl (by first | exact h17 | exact h1s | rfl) ?_
    refine x_if_ne c_Md_perform_32 (fun h => absurd (rfl) h) (fun _ => ?_)
    refine x_ci c_Md_perform_35 ?_
    refine x_ri c_Md_perform_37 ?_
    have hK : (dlC so n nm (nmS tb x2 y2)) = (50, none) := by unfold dlC; rw [if_neg (by rw [hso]; decide)]
    exact ⟨by rw [hK], s, h0, fun _ _ _ _ => rfl, by rw [hK]; exact h6, by rw [hK]; exact hE, w1, w2, (let ⟨l, q⟩ := hN; ⟨l, q, fun q => absurd (show 50 = 32 by rw [hK] at q; exact q) (by decide)⟩), fun _ _ _ _ _ _ _ => rfl⟩
  | true =>
    rw [← hso]
    rw [hso] at h1s
    have rest : ∀ (μ1 : kc_M) (s1 : Nat → Int32) (l : List tv), mnC μ μ1 s s1 l → (nmS tb x2 y2) = some l → 1 ≤ l.length → kc_X (kC j_Md_perform) (kc_Y kt kC (d + 4)) (fun v μ' => v = some (.int (nI (dlC so n nm (nmS tb x2 y2)).1)) ∧ pfK μ μ' s tb ou (dn n (dlC so n nm (nmS tb x2 y2)).2) (fun i => nm (dr n (dlC so n nm (nmS tb x2 y2)).2 i)) (fun i => pr (dr n (dlC so n nm (nmS tb x2 y2)).2 i)) (dlC so n nm (nmS tb x2 y2)).1 (nmS tb x2 y2)) 57 [some (.ref 136)] [] μ1 (0, 0) := by
      intro μ1 s1 l hc1 ho hl
      have e17 := (hc1.2.1 17 (by decide)).trans h17
      have hE1 := mE_k hE (μ' := μ1) (fun q q1 q2 => hc1.2.2.1 q (by omega) (by omega) (by omega))
      have w1' : ∃ f, μ1.1 159 = some (ce_I 32 f) := (let ⟨f, q⟩ := w1; ⟨f, (hc1.2.2.1 159 (by decide) (by decide) (by decide)).trans q⟩)
      have w2' : ∃ f, μ1.1 160 = some (ce_L 32 f) := (let ⟨f, q⟩ := w2; ⟨f, (hc1.2.2.1 160 (by decide) (by decide) (by decide)).trans q⟩)
      have hK : (dlC so n nm (nmS tb x2 y2)) = dlC true n nm (some l) := by rw [hso, ho]
      refine x_al c_Md_perform_57 rfl ?_
      refine x_getE c_Md_perform_58 (by first | rfl | exact hc1.1) rfl (by first | exact e17 | rfl) ?_
      refine x_ci c_Md_perform_61 ?_
      refine x_cmN_ne c_Md_perform_63 (by omega) (by omega) (fun _ => ?_) (fun h => (by exfalso; omega))
      refine x_al c_Md_perform_73 rfl ?_
      refine x_getE c_Md_perform_74 (by first | rfl | exact hc1.1) rfl (by first | exact e17 | rfl) ?_
      refine x_ci c_Md_perform_77 ?_
      refine x_cmN_ne c_Md_perform_79 (by omega) (by omega) (fun _ => ?_) (fun h => (by exfalso; omega))
      refine x_al c_Md_perform_89 rfl ?_
      refine x_cv0z _ c_Md_perform_90 (by first | rfl | exact hc1.1) (Nat.le_of_ble_eq_true rfl) (y_Md_remove (d + 1) hc1.1 hE1 ((hc1.2.1 6 (by decide)).trans h6) hc1.2.2.2 (by omega)) ?_
      rintro _ μ2 ⟨rfl, s2, a1, a2, a3, a4, a5⟩
      show kc_X _ _ _ _ _ [.int (nI (dlC true n nm (some l)).1)] _ _
      refine x_ri c_Md_perform_93 ?_
      exact ⟨by rw [hK], s2, a1, fun i i1 i2 i3 => (a2 i i1).trans (hc1.2.1 i i2), by rw [hK]; exact a3, by rw [hK]; exact a4, (let ⟨f, q⟩ := w1'; ⟨f, (a5 159 (by decide) (by decide)).trans q⟩), (let ⟨f, q⟩ := w2'; ⟨f, (a5 160 (by decide) (by decide)).trans q⟩), ⟨l, mN_k hc1.2.2.2 (a2 20 (by decide)) (a5 145 (by decide) (by decide)) (a5 146 (by decide) (by decide)), fun _ => ho⟩, fun q q1 q2 q3 q4 q5 q6 => (a5 q q1 q2).trans (hc1.2.2.1 q q1 q3 q4)⟩
    have bad : ∀ (μ1 : kc_M) (s1 : Nat → Int32) (l : List tv) (v : Int32), mnC μ μ1 s s1 l → ((nmS tb x2 y2) = some l ∧ l = [] ∨ (nmS tb x2 y2) = none) → ¬ v = nI 1 → kc_X (kC j_Md_perform) (kc_Y kt kC (d + 4)) (fun v μ' => v = some (.int (nI (dlC so n nm (nmS tb x2 y2)).1)) ∧ pfK μ μ' s tb ou (dn n (dlC so n nm (nmS tb x2 y2)).2) (fun i => nm (dr n (dlC so n nm (nmS tb x2 y2)).2 i)) (fun i => pr (dr n (dlC so n nm (nmS tb x2 y2)).2 i)) (dlC so n nm (nmS tb x2 y2)).1 (nmS tb x2 y2)) 50 [some (.ref 136)] [.int v] μ1 (0, 0) := by
      intro μ1 s1 l v hc1 hor hv
      have hE1 := mE_k hE (μ' := μ1) (fun q q1 q2 => hc1.2.2.1 q (by omega) (by omega) (by omega))
      have w1' : ∃ f, μ1.1 159 = some (ce_I 32 f) := (let ⟨f, q⟩ := w1; ⟨f, (hc1.2.2.1 159 (by decide) (by decide) (by decide)).trans q⟩)
      have w2' : ∃ f, μ1.1 160 = some (ce_L 32 f) := (let ⟨f, q⟩ := w2; ⟨f, (hc1.2.2.1 160 (by decide) (by decide) (by decide)).trans q⟩)
      rcases hor with ⟨ho, hl0⟩ | ho
      · skip
        refine x_ci c_Md_perform_50 ?_
        refine x_cm_eq c_Md_perform_51 (fun h => absurd h (hv)) (fun _ => ?_)
        refine x_ci c_Md_perform_54 ?_
        refine x_ri c_Md_perform_56 ?_
        have hK : (dlC so n nm (nmS tb x2 y2)) = (34, none) := by unfold dlC; rw [if_pos hso, ho]; dsimp only; rw [if_pos (by rw [hl0]; decide)]
        exact ⟨by rw [hK], s1, hc1.1, fun i i1 i2 i3 => hc1.2.1 i i2, by rw [hK]; exact (hc1.2.1 6 (by decide)).trans h6, by rw [hK]; exact hE1, w1', w2', ⟨l, hc1.2.2.2, fun q => absurd (show 34 = 32 by rw [hK] at q; exact q) (by decide)⟩, fun q q1 q2 q3 q4 q5 q6 => hc1.2.2.1 q q1 q3 q4⟩
      · skip
        refine x_ci c_Md_perform_50 ?_
        refine x_cm_eq c_Md_perform_51 (fun h => absurd h (hv)) (fun _ => ?_)
        refine x_ci c_Md_perform_54 ?_
        refine x_ri c_Md_perform_56 ?_
        have hK : (dlC so n nm (nmS tb x2 y2)) = (34, none) := by unfold dlC; rw [if_pos hso, ho]
        exact ⟨by rw [hK], s1, hc1.1, fun i i1 i2 i3 => hc1.2.1 i i2, by rw [hK]; exact (hc1.2.1 6 (by decide)).trans h6, by rw [hK]; exact hE1, w1', w2', ⟨l, hc1.2.2.2, fun q => absurd (show 34 = 32 by rw [hK] at q; exact q) (by decide)⟩, fun q q1 q2 q3 q4 q5 q6 => hc1.2.2.1 q q1 q3 q4⟩
    refine x_al c_Md_perform_0 rfl ?_
    refine x_getE c_Md_perform_1 (by first | rfl | exact h0) rfl (by first | exact h17 | exact h1s | exact h23 | exact h24 | rfl) ?_
    refine x_ci c_Md_perform_4 ?_
    refine x_cmN_ne c_Md_perform_6 (by omega) (by omega) (fun _ => ?_) (fun h => (by exfalso; omega))
    refine x_al c_Md_perform_14 rfl ?_
    refine x_getE c_Md_perform_15 (by first | rfl | exact h0) rfl (by first | exact h17 | exact h1s | exact h23 | exact h24 | rfl) ?_
    refine x_ci c_Md_perform_18 ?_
    refine x_cmN_ne c_Md_perform_20 (by omega) (by omega) (fun _ => ?_) (fun h => (by exfalso; omega))
    refine x_al c_Md_perform_28 rfl ?_
    refine x_getE c_Md_perform_29 (by first | rfl | exact h0) rfl (by first | exact h17 | exact h1s | exact h23 | exact h24 | rfl) ?_
    refine x_if_ne c_Md_perform_32 (fun _ => ?_) (fun h => absurd h (by decide))
    refine x_al c_Md_perform_38 rfl ?_
    refine x_al c_Md_perform_39 rfl ?_
    refine x_getE c_Md_perform_40 (by first | rfl | exact h0) rfl (by first | exact h17 | exact h1s | exact h23 | exact h24 | rfl) ?_
    refine x_al c_Md_perform_43 rfl ?_
    refine x_getE c_Md_perform_44 (by first | rfl | exact h0) rfl (by first | exact h17 | exact h1s | exact h23 | exact h24 | rfl) ?_
    refine x_cv2z _ c_Md_perform_47 (by first | rfl | exact h0) (Nat.le_of_ble_eq_true rfl) (y_Md_takeName (d + 1) h0 h137 htb m1 m2 (a := x2) (e := y2) hxy hy2) ?_
    rintro w μ1 ⟨s1, l, hc1, ⟨ho, rfl⟩ | ⟨ho, rfl⟩⟩
    · by_cases hxe : x2 = y2
      · rw [if_pos hxe]
        exact bad μ1 s1 l _ hc1 (Or.inl ⟨ho, nmS_e hxe ho⟩) (by decide)
      · rw [if_neg hxe]
        have hl0 : l ≠ [] := fun q => hxe (nmS_nil (by rw [← q]; exact ho))
        have hl1 : 0 < l.length := List.length_pos_iff.mpr hl0
        show kc_X _ _ _ _ _ [.int (nI 1)] _ _
        refine x_ci c_Md_perform_50 ?_
        refine x_cm_eq c_Md_perform_51 (fun _ => ?_) (fun h => absurd (rfl) h)
        exact rest μ1 s1 l hc1 ho (by omega)
    · exact bad μ1 s1 l _ hc1 (Or.inr ho) (by decide)
set_option maxRecDepth 100000 in
set_option maxHeartbeats 4000000 in
theorem y_Md_perform104 (d : Nat) {μ : kc_M} {s : Nat → Int32} (h0 : μ.1 136 = some (ce_Md s)) {tb : Nat → Nat} {ou : Nat → Int32} {n : Nat} {nm pr : Nat → List tv} (hE : mE μ tb ou n nm pr) (h6 : s 6 = nI n) (htb : ∀ j, tb j < 256) (m1 : ∃ f, μ.1 145 = some (ce_I 4 f)) (m2 : ∃ f, μ.1 146 = some (ce_L 4 f)) (w1 : ∃ f, μ.1 159 = some (ce_I 32 f)) (w2 : ∃ f, μ.1 160 = some (ce_L 32 f)) (hN : ∃ l, mN μ s l) {so : Bool} (h1s : s 1 = bI so) (h17 : s 17 = nI 104) {x2 y2 : Nat} (h23 : s 23 = nI x2) (h24 : s 24 = nI y2) (hxy : x2 ≤ y2) (hy2 : y2 ≤ 200) {kf tf ff cf : Nat → Int32} {vf : Nat → Int64} (hA : maA μ kf tf ff cf vf) {cs : List cg} (h33 : s 33 = nI cs.length) (h12 : cs.length ≤ 12) (h24' : tot cs ≤ 24) (hcs : maL false kf tf ff cf vf cs 0 0) (hc0 : ∀ c ∈ cs, c.1 = 0) : kc_Y kt kC (d + 5) j_Md_perform [.ref 136] μ (fun v μ' => v = some (.int (nI (opJ so tb (some (x2, y2, cs)) (fun l cs => adK n nm l cs)).1)) ∧ pfK μ μ' s tb ou (adN n (opJ so tb (some (x2, y2, cs)) (fun l cs => adK n nm l cs)).2) (adF n (fun _ => (nmS tb x2 y2).getD []) nm (opJ so tb (some (x2, y2, cs)) (fun l cs => adK n nm l cs)).2) (adF n (fun p => p) pr (opJ so tb (some (x2, y2, cs)) (fun l cs => adK n nm l cs)).2) (opJ so tb (some (x2, y2, cs)) (fun l cs => adK n nm l cs)).1 (nmS tb x2 y2)) := by
  refine ⟨Nat.le_of_ble_eq_true rfl, ?_⟩
  have hn16 : n ≤ 16 := by obtain ⟨_, _, _, _, _, _, _, _, h9, _⟩ := hE; exact h9
  have h137 : μ.1 137 = some (ce_I 200 (fun j => nI (tb j))) := by obtain ⟨_, _, _, _, _, _, ⟨r1, _⟩, _⟩ := hE; exact r1
  cases hso : so with
  | false =>
    rw [← hso]
    rw [hso] at h1s
    refine x_al c_Md_perform_0 rfl ?_
    refine x_getE c_Md_perform_1 (by first | rfl | exact h0) rfl (by first | exact h17 | exact h1s | rfl) ?_
    refine x_ci c_Md_perform_4 ?_
    refine x_cmN_ne c_Md_perform_6 (by omega) (by omega) (fun _ => ?_) (fun h => (by exfalso; omega))
    refine x_al c_Md_perform_14 rfl ?_
    refine x_getE c_Md_perform_15 (by first | rfl | exact h0) rfl (by first | exact h17 | exact h1s | rfl) ?_
    refine x_ci c_Md_perform_18 ?_
    refine x_cmN_ne c_Md_perform_20 (by omega) (by omega) (fun _ => ?_) (fun h => (by exfalso; omega))
    refine x_al c_Md_perform_28 rfl ?_
    refine x_getE c_Md_perform_29 (by first | rfl | exact h0) rfl (by first | exact h17 | exact h1s | rfl) ?_
    refine x_if_ne c_Md_perform_32 (fun h => absurd (rfl) h) (fun _ => ?_)
    refine x_ci c_Md_perform_35 ?_
    refine x_ri c_Md_perform_37 ?_
    have hK : (opJ so tb (some (x2, y2, cs)) (fun l cs => adK n nm l cs)) = (50, none) := by unfold opJ; dsimp only; rw [chC_50 rfl hso, if_neg (by decide)]
    exact ⟨by rw [hK], s, h0, fun _ _ _ _ => rfl, by rw [hK]; exact h6, by rw [hK]; exact hE, w1, w2, (let ⟨l, q⟩ := hN; ⟨l, q, fun q => absurd (show 50 = 32 by rw [hK] at q; exact q) (by decide)⟩), fun _ _ _ _ _ _ _ => rfl⟩
  | true =>
    rw [← hso]
    rw [hso] at h1s
    have rest : ∀ (μ1 : kc_M) (s1 : Nat → Int32) (l : List tv), mnC μ μ1 s s1 l → (nmS tb x2 y2) = some l → 1 ≤ l.length → kc_X (kC j_Md_perform) (kc_Y kt kC (d + 4)) (fun v μ' => v = some (.int (nI (opJ so tb (some (x2, y2, cs)) (fun l cs => adK n nm l cs)).1)) ∧ pfK μ μ' s tb ou (adN n (opJ so tb (some (x2, y2, cs)) (fun l cs => adK n nm l cs)).2) (adF n (fun _ => (nmS tb x2 y2).getD []) nm (opJ so tb (some (x2, y2, cs)) (fun l cs => adK n nm l cs)).2) (adF n (fun p => p) pr (opJ so tb (some (x2, y2, cs)) (fun l cs => adK n nm l cs)).2) (opJ so tb (some (x2, y2, cs)) (fun l cs => adK n nm l cs)).1 (nmS tb x2 y2)) 57 [some (.ref 136)] [] μ1 (0, 0) := by
      intro μ1 s1 l hc1 ho hl
      have e17 := (hc1.2.1 17 (by decide)).trans h17
      have hE1 := mE_k hE (μ' := μ1) (fun q q1 q2 => hc1.2.2.1 q (by omega) (by omega) (by omega))
      have w1' : ∃ f, μ1.1 159 = some (ce_I 32 f) := (let ⟨f, q⟩ := w1; ⟨f, (hc1.2.2.1 159 (by decide) (by decide) (by decide)).trans q⟩)
      have w2' : ∃ f, μ1.1 160 = some (ce_L 32 f) := (let ⟨f, q⟩ := w2; ⟨f, (hc1.2.2.1 160 (by decide) (by decide) (by decide)).trans q⟩)
      have hA1 := maA_k hA (μ' := μ1) (fun q q1 q2 => hc1.2.2.1 q (by omega) (by omega) (by omega))
      have hK : (opJ so tb (some (x2, y2, cs)) (fun l cs => adK n nm l cs)) = adK n nm l cs := by unfold opJ; dsimp only; rw [ho, show chC so (some l) true = 0 by unfold chC; rw [if_pos rfl, if_pos hso]; dsimp only; rw [if_neg (by omega)], if_pos rfl]; rfl
      refine x_al c_Md_perform_57 rfl ?_
      refine x_getE c_Md_perform_58 (by first | rfl | exact hc1.1) rfl (by first | exact e17 | rfl) ?_
      refine x_ci c_Md_perform_61 ?_
      refine x_cmN_ne c_Md_perform_63 (by omega) (by omega) (fun h => (by exfalso; omega)) (fun _ => ?_)
      refine x_al c_Md_perform_66 rfl ?_
      refine x_cv0z _ c_Md_perform_67 (by first | rfl | exact hc1.1) (Nat.le_of_ble_eq_true rfl) (y_Md_add d hc1.1 hE1 ((hc1.2.1 6 (by decide)).trans h6) hc1.2.2.2 (by omega) hA1 ((hc1.2.1 33 (by decide)).trans h33) h12 h24' w1' w2' hcs hc0) ?_
      rintro _ μ2 ⟨rfl, s2, a1, a2, a3, a4, a5, a6, a7⟩
      show kc_X _ _ _ _ _ [.int (nI (adK n nm l cs).1)] _ _
      refine x_goto c_Md_perform_70 ?_
      refine x_ri c_Md_perform_93 ?_
      have hgl : (nmS tb x2 y2).getD [] = l := by rw [ho]; rfl
      exact ⟨by rw [hK], s2, a1, fun i i1 i2 i3 => (a2 i i1 i3).trans (hc1.2.1 i i2), by rw [hK]; exact a3, by rw [hK, hgl]; exact a4, a5, a6, ⟨l, mN_k hc1.2.2.2 (a2 20 (by decide) (by decide)) (a7 145 (by decide) (by decide) (by decide) (by decide)) (a7 146 (by decide) (by decide) (by decide) (by decide)), fun _ => ho⟩, fun q q1 q2 q3 q4 q5 q6 => (a7 q q1 q2 q5 q6).trans (hc1.2.2.1 q q1 q3 q4)⟩
    have bad : ∀ (μ1 : kc_M) (s1 : Nat → Int32) (l : List tv) (v : Int32), mnC μ μ1 s s1 l → ((nmS tb x2 y2) = some l ∧ l = [] ∨ (nmS tb x2 y2) = none) → ¬ v = nI 1 → kc_X (kC j_Md_perform) (kc_Y kt kC (d + 4)) (fun v μ' => v = some (.int (nI (opJ so tb (some (x2, y2, cs)) (fun l cs => adK n nm l cs)).1)) ∧ pfK μ μ' s tb ou (adN n (opJ so tb (some (x2, y2, cs)) (fun l cs => adK n nm l cs)).2) (adF n (fun _ => (nmS tb x2 y2).getD []) nm (opJ so tb (some (x2, y2, cs)) (fun l cs => adK n nm l cs)).2) (adF n (fun p => p) pr (opJ so tb (some (x2, y2, cs)) (fun l cs => adK n nm l cs)).2) (opJ so tb (some (x2, y2, cs)) (fun l cs => adK n nm l cs)).1 (nmS tb x2 y2)) 50 [some (.ref 136)] [.int v] μ1 (0, 0) := by
      intro μ1 s1 l v hc1 hor hv
      have hE1 := mE_k hE (μ' := μ1) (fun q q1 q2 => hc1.2.2.1 q (by omega) (by omega) (by omega))
      have w1' : ∃ f, μ1.1 159 = some (ce_I 32 f) := (let ⟨f, q⟩ := w1; ⟨f, (hc1.2.2.1 159 (by decide) (by decide) (by decide)).trans q⟩)
      have w2' : ∃ f, μ1.1 160 = some (ce_L 32 f) := (let ⟨f, q⟩ := w2; ⟨f, (hc1.2.2.1 160 (by decide) (by decide) (by decide)).trans q⟩)
      have hA1 := maA_k hA (μ' := μ1) (fun q q1 q2 => hc1.2.2.1 q (by omega) (by omega) (by omega))
      rcases hor with ⟨ho, hl0⟩ | ho
      · skip
        refine x_ci c_Md_perform_50 ?_
        refine x_cm_eq c_Md_perform_51 (fun h => absurd h (hv)) (fun _ => ?_)
        refine x_ci c_Md_perform_54 ?_
        refine x_ri c_Md_perform_56 ?_
        have hK : (opJ so tb (some (x2, y2, cs)) (fun l cs => adK n nm l cs)) = (34, none) := by unfold opJ; dsimp only; rw [ho, chC_34 rfl hso (by rw [hl0]; decide), if_neg (by decide)]
        exact ⟨by rw [hK], s1, hc1.1, fun i i1 i2 i3 => hc1.2.1 i i2, by rw [hK]; exact (hc1.2.1 6 (by decide)).trans h6, by rw [hK]; exact hE1, w1', w2', ⟨l, hc1.2.2.2, fun q => absurd (show 34 = 32 by rw [hK] at q; exact q) (by decide)⟩, fun q q1 q2 q3 q4 q5 q6 => hc1.2.2.1 q q1 q3 q4⟩
      · skip
        refine x_ci c_Md_perform_50 ?_
        refine x_cm_eq c_Md_perform_51 (fun h => absurd h (hv)) (fun _ => ?_)
        refine x_ci c_Md_perform_54 ?_
        refine x_ri c_Md_perform_56 ?_
        have hK : (opJ so tb (some (x2, y2, cs)) (fun l cs => adK n nm l cs)) = (34, none) := by unfold opJ; dsimp only; rw [ho, chC_N rfl hso, if_neg (by decide)]
        exact ⟨by rw [hK], s1, hc1.1, fun i i1 i2 i3 => hc1.2.1 i i2, by rw [hK]; exact (hc1.2.1 6 (by decide)).trans h6, by rw [hK]; exact hE1, w1', w2', ⟨l, hc1.2.2.2, fun q => absurd (show 34 = 32 by rw [hK] at q; exact q) (by decide)⟩, fun q q1 q2 q3 q4 q5 q6 => hc1.2.2.1 q q1 q3 q4⟩
    refine x_al c_Md_perform_0 rfl ?_
    refine x_getE c_Md_perform_1 (by first | rfl | exact h0) rfl (by first | exact h17 | exact h1s | exact h23 | exact h24 | rfl) ?_
    refine x_ci c_Md_perform_4 ?_
    refine x_cmN_ne c_Md_perform_6 (by omega) (by omega) (fun _ => ?_) (fun h => (by exfalso; omega))
    refine x_al c_Md_perform_14 rfl ?_
    refine x_getE c_Md_perform_15 (by first | rfl | exact h0) rfl (by first | exact h17 | exact h1s | exact h23 | exact h24 | rfl) ?_
    refine x_ci c_Md_perform_18 ?_
    refine x_cmN_ne c_Md_perform_20 (by omega) (by omega) (fun _ => ?_) (fun h => (by exfalso; omega))
    refine x_al c_Md_perform_28 rfl ?_
    refine x_getE c_Md_perform_29 (by first | rfl | exact h0) rfl (by first | exact h17 | exact h1s | exact h23 | exact h24 | rfl) ?_
    refine x_if_ne c_Md_perform_32 (fun _ => ?_) (fun h => absurd h (by decide))
    refine x_al c_Md_perform_38 rfl ?_
    refine x_al c_Md_perform_39 rfl ?_
    refine x_getE c_Md_perform_40 (by first | rfl | exact h0) rfl (by first | exact h17 | exact h1s | exact h23 | exact h24 | rfl) ?_
    refine x_al c_Md_perform_43 rfl ?_
    refine x_getE c_Md_perform_44 (by first | rfl | exact h0) rfl (by first | exact h17 | exact h1s | exact h23 | exact h24 | rfl) ?_
    refine x_cv2z _ c_Md_perform_47 (by first | rfl | exact h0) (Nat.le_of_ble_eq_true rfl) (y_Md_takeName (d + 1) h0 h137 htb m1 m2 (a := x2) (e := y2) hxy hy2) ?_
    rintro w μ1 ⟨s1, l, hc1, ⟨ho, rfl⟩ | ⟨ho, rfl⟩⟩
    · by_cases hxe : x2 = y2
      · rw [if_pos hxe]
        exact bad μ1 s1 l _ hc1 (Or.inl ⟨ho, nmS_e hxe ho⟩) (by decide)
      · rw [if_neg hxe]
        have hl0 : l ≠ [] := fun q => hxe (nmS_nil (by rw [← q]; exact ho))
        have hl1 : 0 < l.length := List.length_pos_iff.mpr hl0
        show kc_X _ _ _ _ _ [.int (nI 1)] _ _
        refine x_ci c_Md_perform_50 ?_
        refine x_cm_eq c_Md_perform_51 (fun _ => ?_) (fun h => absurd (rfl) h)
        exact rest μ1 s1 l hc1 ho (by omega)
    · exact bad μ1 s1 l _ hc1 (Or.inr ho) (by decide)
set_option maxRecDepth 100000 in
set_option maxHeartbeats 4000000 in
theorem y_Md_perform102 (d : Nat) {μ : kc_M} {s : Nat → Int32} (h0 : μ.1 136 = some (ce_Md s)) {tb : Nat → Nat} {ou : Nat → Int32} {n : Nat} {nm pr : Nat → List tv} (hE : mE μ tb ou n nm pr) (h6 : s 6 = nI n) (htb : ∀ j, tb j < 256) (m1 : ∃ f, μ.1 145 = some (ce_I 4 f)) (m2 : ∃ f, μ.1 146 = some (ce_L 4 f)) (w1 : ∃ f, μ.1 159 = some (ce_I 32 f)) (w2 : ∃ f, μ.1 160 = some (ce_L 32 f)) (hN : ∃ l, mN μ s l) {so : Bool} (h1s : s 1 = bI so) (h17 : s 17 = nI 102) {x2 y2 : Nat} (h23 : s 23 = nI x2) (h24 : s 24 = nI y2) (hxy : x2 ≤ y2) (hy2 : y2 ≤ 200) {kf tf ff cf : Nat → Int32} {vf : Nat → Int64} (hA : maA μ kf tf ff cf vf) {cs : List cg} (h33 : s 33 = nI cs.length) (h12 : cs.length ≤ 12) (h24' : tot cs ≤ 24) (hcs : maL true kf tf ff cf vf cs 0 0) (hgd : ∀ e, e < n → gd (pr e)) : kc_Y kt kC (d + 5) j_Md_perform [.ref 136] μ (fun v μ' => v = some (.int (nI (opJ so tb (some (x2, y2, cs)) (fun l cs => moK n nm pr l cs)).1)) ∧ pfK μ μ' s tb ou n nm (moF pr (opJ so tb (some (x2, y2, cs)) (fun l cs => moK n nm pr l cs)).2) (opJ so tb (some (x2, y2, cs)) (fun l cs => moK n nm pr l cs)).1 (nmS tb x2 y2)) := by
  refine ⟨Nat.le_of_ble_eq_true rfl, ?_⟩
  have hn16 : n ≤ 16 := by obtain ⟨_, _, _, _, _, _, _, _, h9, _⟩ := hE; exact h9
  have h137 : μ.1 137 = some (ce_I 200 (fun j => nI (tb j))) := by obtain ⟨_, _, _, _, _, _, ⟨r1, _⟩, _⟩ := hE; exact r1
  cases hso : so with
  | false =>
    rw [← hso]
    rw [hso] at h1s
    refine x_al c_Md_perform_0 rfl ?_
    refine x_getE c_Md_perform_1 (by first | rfl | exact h0) rfl (by first | exact h17 | exact h1s | rfl) ?_
    refine x_ci c_Md_perform_4 ?_
    refine x_cmN_ne c_Md_perform_6 (by omega) (by omega) (fun _ => ?_) (fun h => (by exfalso; omega))
    refine x_al c_Md_perform_14 rfl ?_
    refine x_getE c_Md_perform_15 (by first | rfl | exact h0) rfl (by first | exact h17 | exact h1s | rfl) ?_
    refine x_ci c_Md_perform_18 ?_
    refine x_cmN_ne c_Md_perform_20 (by omega) (by omega) (fun _ => ?_) (fun h => (by exfalso; omega))
    refine x_al c_Md_perform_28 rfl ?_
    refine x_getE c_Md_perform_29 (by first | rfl | exact h0) rfl (by first | exact h17 | exact h1s | rfl) ?_
    refine x_if_ne c_Md_perform_32 (fun h => absurd (rfl) h) (fun _ => ?_)
    refine x_ci c_Md_perform_35 ?_
    refine x_ri c_Md_perform_37 ?_
    have hK : (opJ so tb (some (x2, y2, cs)) (fun l cs => moK n nm pr l cs)) = (50, none) := by unfold opJ; dsimp only; rw [chC_50 rfl hso, if_neg (by decide)]
    exact ⟨by rw [hK], s, h0, fun _ _ _ _ => rfl, h6, by rw [hK]; exact hE, w1, w2, (let ⟨l, q⟩ := hN; ⟨l, q, fun q => absurd (show 50 = 32 by rw [hK] at q; exact q) (by decide)⟩), fun _ _ _ _ _ _ _ => rfl⟩
  | true =>
    rw [← hso]
    rw [hso] at h1s
    have rest : ∀ (μ1 : kc_M) (s1 : Nat → Int32) (l : List tv), mnC μ μ1 s s1 l → (nmS tb x2 y2) = some l → 1 ≤ l.length → kc_X (kC j_Md_perform) (kc_Y kt kC (d + 4)) (fun v μ' => v = some (.int (nI (opJ so tb (some (x2, y2, cs)) (fun l cs => moK n nm pr l cs)).1)) ∧ pfK μ μ' s tb ou n nm (moF pr (opJ so tb (some (x2, y2, cs)) (fun l cs => moK n nm pr l cs)).2) (opJ so tb (some (x2, y2, cs)) (fun l cs => moK n nm pr l cs)).1 (nmS tb x2 y2)) 57 [some (.ref 136)] [] μ1 (0, 0) := by
      intro μ1 s1 l hc1 ho hl
      have e17 := (hc1.2.1 17 (by decide)).trans h17
      have hE1 := mE_k hE (μ' := μ1) (fun q q1 q2 => hc1.2.2.1 q (by omega) (by omega) (by omega))
      have w1' : ∃ f, μ1.1 159 = some (ce_I 32 f) := (let ⟨f, q⟩ := w1; ⟨f, (hc1.2.2.1 159 (by decide) (by decide) (by decide)).trans q⟩)
      have w2' : ∃ f, μ1.1 160 = some (ce_L 32 f) := (let ⟨f, q⟩ := w2; ⟨f, (hc1.2.2.1 160 (by decide) (by decide) (by decide)).trans q⟩)
      have hA1 := maA_k hA (μ' := μ1) (fun q q1 q2 => hc1.2.2.1 q (by omega) (by omega) (by omega))
      have hK : (opJ so tb (some (x2, y2, cs)) (fun l cs => moK n nm pr l cs)) = moK n nm pr l cs := by unfold opJ; dsimp only; rw [ho, show chC so (some l) true = 0 by unfold chC; rw [if_pos rfl, if_pos hso]; dsimp only; rw [if_neg (by omega)], if_pos rfl]; rfl
      refine x_al c_Md_perform_57 rfl ?_
      refine x_getE c_Md_perform_58 (by first | rfl | exact hc1.1) rfl (by first | exact e17 | rfl) ?_
      refine x_ci c_Md_perform_61 ?_
      refine x_cmN_ne c_Md_perform_63 (by omega) (by omega) (fun _ => ?_) (fun h => (by exfalso; omega))
      refine x_al c_Md_perform_73 rfl ?_
      refine x_getE c_Md_perform_74 (by first | rfl | exact hc1.1) rfl (by first | exact e17 | rfl) ?_
      refine x_ci c_Md_perform_77 ?_
      refine x_cmN_ne c_Md_perform_79 (by omega) (by omega) (fun h => (by exfalso; omega)) (fun _ => ?_)
      refine x_al c_Md_perform_82 rfl ?_
      refine x_cv0z _ c_Md_perform_83 (by first | rfl | exact hc1.1) (Nat.le_of_ble_eq_true rfl) (y_Md_modify d hc1.1 hE1 ((hc1.2.1 6 (by decide)).trans h6) hgd hc1.2.2.2 (by omega) hA1 ((hc1.2.1 33 (by decide)).trans h33) h12 h24' w1' w2' hcs) ?_
      rintro _ μ2 ⟨rfl, s2, a1, a2, a4, a5, a6, a7⟩
      show kc_X _ _ _ _ _ [.int (nI (moK n nm pr l cs).1)] _ _
      refine x_goto c_Md_perform_86 ?_
      refine x_ri c_Md_perform_93 ?_
      exact ⟨by rw [hK], s2, a1, fun i i1 i2 i3 => (a2 i i3).trans (hc1.2.1 i i2), (a2 6 (by decide)).trans ((hc1.2.1 6 (by decide)).trans h6), by rw [hK]; exact a4, a5, a6, ⟨l, mN_k hc1.2.2.2 (a2 20 (by decide)) (a7 145 (by decide) (by decide) (by decide) (by decide)) (a7 146 (by decide) (by decide) (by decide) (by decide)), fun _ => ho⟩, fun q q1 q2 q3 q4 q5 q6 => (a7 q q1 (by omega) q5 q6).trans (hc1.2.2.1 q q1 q3 q4)⟩
    have bad : ∀ (μ1 : kc_M) (s1 : Nat → Int32) (l : List tv) (v : Int32), mnC μ μ1 s s1 l → ((nmS tb x2 y2) = some l ∧ l = [] ∨ (nmS tb x2 y2) = none) → ¬ v = nI 1 → kc_X (kC j_Md_perform) (kc_Y kt kC (d + 4)) (fun v μ' => v = some (.int (nI (opJ so tb (some (x2, y2, cs)) (fun l cs => moK n nm pr l cs)).1)) ∧ pfK μ μ' s tb ou n nm (moF pr (opJ so tb (some (x2, y2, cs)) (fun l cs => moK n nm pr l cs)).2) (opJ so tb (some (x2, y2, cs)) (fun l cs => moK n nm pr l cs)).1 (nmS tb x2 y2)) 50 [some (.ref 136)] [.int v] μ1 (0, 0) := by
      intro μ1 s1 l v hc1 hor hv
      have hE1 := mE_k hE (μ' := μ1) (fun q q1 q2 => hc1.2.2.1 q (by omega) (by omega) (by omega))
      have w1' : ∃ f, μ1.1 159 = some (ce_I 32 f) := (let ⟨f, q⟩ := w1; ⟨f, (hc1.2.2.1 159 (by decide) (by decide) (by decide)).trans q⟩)
      have w2' : ∃ f, μ1.1 160 = some (ce_L 32 f) := (let ⟨f, q⟩ := w2; ⟨f, (hc1.2.2.1 160 (by decide) (by decide) (by decide)).trans q⟩)
      have hA1 := maA_k hA (μ' := μ1) (fun q q1 q2 => hc1.2.2.1 q (by omega) (by omega) (by omega))
      rcases hor with ⟨ho, hl0⟩ | ho
      · skip
        refine x_ci c_Md_perform_50 ?_
        refine x_cm_eq c_Md_perform_51 (fun h => absurd h (hv)) (fun _ => ?_)
        refine x_ci c_Md_perform_54 ?_
        refine x_ri c_Md_perform_56 ?_
        have hK : (opJ so tb (some (x2, y2, cs)) (fun l cs => moK n nm pr l cs)) = (34, none) := by unfold opJ; dsimp only; rw [ho, chC_34 rfl hso (by rw [hl0]; decide), if_neg (by decide)]
        exact ⟨by rw [hK], s1, hc1.1, fun i i1 i2 i3 => hc1.2.1 i i2, (hc1.2.1 6 (by decide)).trans h6, by rw [hK]; exact hE1, w1', w2', ⟨l, hc1.2.2.2, fun q => absurd (show 34 = 32 by rw [hK] at q; exact q) (by decide)⟩, fun q q1 q2 q3 q4 q5 q6 => hc1.2.2.1 q q1 q3 q4⟩
      · skip
        refine x_ci c_Md_perform_50 ?_
        refine x_cm_eq c_Md_perform_51 (fun h => absurd h (hv)) (fun _ => ?_)
        refine x_ci c_Md_perform_54 ?_
        refine x_ri c_Md_perform_56 ?_
        have hK : (opJ so tb (some (x2, y2, cs)) (fun l cs => moK n nm pr l cs)) = (34, none) := by unfold opJ; dsimp only; rw [ho, chC_N rfl hso, if_neg (by decide)]
        exact ⟨by rw [hK], s1, hc1.1, fun i i1 i2 i3 => hc1.2.1 i i2, (hc1.2.1 6 (by decide)).trans h6, by rw [hK]; exact hE1, w1', w2', ⟨l, hc1.2.2.2, fun q => absurd (show 34 = 32 by rw [hK] at q; exact q) (by decide)⟩, fun q q1 q2 q3 q4 q5 q6 => hc1.2.2.1 q q1 q3 q4⟩
    refine x_al c_Md_perform_0 rfl ?_
    refine x_getE c_Md_perform_1 (by first | rfl | exact h0) rfl (by first | exact h17 | exact h1s | exact h23 | exact h24 | rfl) ?_
    refine x_ci c_Md_perform_4 ?_
    refine x_cmN_ne c_Md_perform_6 (by omega) (by omega) (fun _ => ?_) (fun h => (by exfalso; omega))
    refine x_al c_Md_perform_14 rfl ?_
    refine x_getE c_Md_perform_15 (by first | rfl | exact h0) rfl (by first | exact h17 | exact h1s | exact h23 | exact h24 | rfl) ?_
    refine x_ci c_Md_perform_18 ?_
    refine x_cmN_ne c_Md_perform_20 (by omega) (by omega) (fun _ => ?_) (fun h => (by exfalso; omega))
    refine x_al c_Md_perform_28 rfl ?_
    refine x_getE c_Md_perform_29 (by first | rfl | exact h0) rfl (by first | exact h17 | exact h1s | exact h23 | exact h24 | rfl) ?_
    refine x_if_ne c_Md_perform_32 (fun _ => ?_) (fun h => absurd h (by decide))
    refine x_al c_Md_perform_38 rfl ?_
    refine x_al c_Md_perform_39 rfl ?_
    refine x_getE c_Md_perform_40 (by first | rfl | exact h0) rfl (by first | exact h17 | exact h1s | exact h23 | exact h24 | rfl) ?_
    refine x_al c_Md_perform_43 rfl ?_
    refine x_getE c_Md_perform_44 (by first | rfl | exact h0) rfl (by first | exact h17 | exact h1s | exact h23 | exact h24 | rfl) ?_
    refine x_cv2z _ c_Md_perform_47 (by first | rfl | exact h0) (Nat.le_of_ble_eq_true rfl) (y_Md_takeName (d + 1) h0 h137 htb m1 m2 (a := x2) (e := y2) hxy hy2) ?_
    rintro w μ1 ⟨s1, l, hc1, ⟨ho, rfl⟩ | ⟨ho, rfl⟩⟩
    · by_cases hxe : x2 = y2
      · rw [if_pos hxe]
        exact bad μ1 s1 l _ hc1 (Or.inl ⟨ho, nmS_e hxe ho⟩) (by decide)
      · rw [if_neg hxe]
        have hl0 : l ≠ [] := fun q => hxe (nmS_nil (by rw [← q]; exact ho))
        have hl1 : 0 < l.length := List.length_pos_iff.mpr hl0
        show kc_X _ _ _ _ _ [.int (nI 1)] _ _
        refine x_ci c_Md_perform_50 ?_
        refine x_cm_eq c_Md_perform_51 (fun _ => ?_) (fun h => absurd (rfl) h)
        exact rest μ1 s1 l hc1 ho (by omega)
    · exact bad μ1 s1 l _ hc1 (Or.inr ho) (by decide)
