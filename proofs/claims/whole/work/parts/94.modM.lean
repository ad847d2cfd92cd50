/-! modifying, the reference -/
theorem ho_take {l : List tv} {f : Nat → Int32} {g : Nat → Int64} (h : ho l f g) {k : Nat} (hk : k < l.length) : l.take k ++ [(f k, g k)] = l.take (k + 1) := by
  have h2 := h k hk
  rw [List.take_add_one, h2]; rfl
set_option maxRecDepth 100000 in
set_option maxHeartbeats 4000000 in
theorem y_Md_modify (d : Nat) {μ : kc_M} {s : Nat → Int32} {tb : Nat → Nat} {ou : Nat → Int32} {n : Nat} {nm pr : Nat → List tv} (h0 : μ.1 136 = some (ce_Md s)) (hE : mE μ tb ou n nm pr) (h6 : s 6 = nI n) (hgd : ∀ e, e < n → gd (pr e)) {l : List tv} (hN : mN μ s l) (hl : 1 ≤ l.length) {kf tf ff cf : Nat → Int32} {vf : Nat → Int64} (hA : maA μ kf tf ff cf vf) {cs : List cg} (h33 : s 33 = nI cs.length) (h12 : cs.length ≤ 12) (h24 : tot cs ≤ 24) (w1 : ∃ f, μ.1 159 = some (ce_I 32 f)) (w2 : ∃ f, μ.1 160 = some (ce_L 32 f)) (hcs : maL true kf tf ff cf vf cs 0 0) : kc_Y kt kC (d + 4) j_Md_modify [.ref 136] μ (fun v μ' => v = some (.int (nI (moK n nm pr l cs).1)) ∧ ∃ s', μ'.1 136 = some (ce_Md s') ∧ (∀ i, i ≠ 49 → s' i = s i) ∧ mE μ' tb ou n nm (moF pr (moK n nm pr l cs).2) ∧ (∃ f, μ'.1 159 = some (ce_I 32 f)) ∧ (∃ f, μ'.1 160 = some (ce_L 32 f)) ∧ ∀ q, q ≠ 136 → q < 142 ∨ 144 < q → q ≠ 159 → q ≠ 160 → μ'.1 q = μ.1 q) := by
  refine ⟨Nat.le_of_ble_eq_true rfl, ?_⟩
  obtain ⟨pa, pt, pv, pn, qt, qv, ⟨r1, r2, r3, r4, r5, r6, r7, r8⟩, m2, hn16, hw⟩ := id hE
  obtain ⟨n1, n2, f, g, n3, n4, n5⟩ := id hN
  have hd : hdp l = (f 0, g 0) := by unfold hdp; rw [n5 0 (by omega)]; rfl
  have hno : ∀ (k : Nat) (μ1 : kc_M) (s1 : Nat → Int32), (moK n nm pr l cs) = (k, none) → μ1.1 136 = some (ce_Md s1) → (∀ i, i ≠ 49 → s1 i = s i) → (∀ q, q ≠ 136 → q ≠ 159 → q ≠ 160 → μ1.1 q = μ.1 q) → (∃ f, μ1.1 159 = some (ce_I 32 f)) → (∃ f, μ1.1 160 = some (ce_L 32 f)) → ((fun v μ' => v = some (.int (nI (moK n nm pr l cs).1)) ∧ ∃ s', μ'.1 136 = some (ce_Md s') ∧ (∀ i, i ≠ 49 → s' i = s i) ∧ mE μ' tb ou n nm (moF pr (moK n nm pr l cs).2) ∧ (∃ f, μ'.1 159 = some (ce_I 32 f)) ∧ (∃ f, μ'.1 160 = some (ce_L 32 f)) ∧ ∀ q, q ≠ 136 → q < 142 ∨ 144 < q → q ≠ 159 → q ≠ 160 → μ'.1 q = μ.1 q) : Option Value → kc_M → Prop) (some (.int (nI k))) μ1 := by
    intro k μ1 s1 hK q0 hs hf w1 w2
    exact ⟨by rw [hK], s1, q0, hs, by rw [hK]; exact mE_k hE (fun q q1 q2 => hf q (by omega) (by omega) (by omega)), w1, w2, fun q q1 _ q3 q4 => hf q q1 q3 q4⟩
  cases hf0 : fd nm l n 0 with
  | none =>
    have hK : (moK n nm pr l cs) = (32, none) := by unfold moK; rw [hf0]
    refine x_al c_Md_modify_0 rfl ?_
    refine x_ci c_Md_modify_1 ?_
    refine x_cv1z _ c_Md_modify_2 (by first | rfl | exact h0) (Nat.le_of_ble_eq_true rfl) (y_Md_find (d + 1) h0 hE h6 hN (k := 0) (by omega)) ?_
    rintro _ μx ⟨rfl, hμx⟩
    have hμx := hμx.symm
    subst hμx
    show kc_X _ _ _ _ _ [.int (oI (fd nm l n 0))] _ _
    rw [hf0]
    show kc_X _ _ _ _ _ [.int (-1)] _ _
    refine x_is [_, _, _, _] c_Md_modify_5 rfl ?_
    refine x_il c_Md_modify_6 rfl ?_
    refine x_if_ge c_Md_modify_7 (fun h => absurd h (by decide)) (fun _ => ?_)
    refine x_ci c_Md_modify_10 ?_
    refine x_ri c_Md_modify_12 ?_
    exact hno 32 μ s hK h0 (fun _ _ => rfl) (fun _ _ _ _ => rfl) w1 w2
  | some e =>
    have hfi := fd_in hf0
    have he : e < n := by omega
    have hpe := hgd e he
    have hm' := m2 e he
    have hwe := hw e he
    have fin : (apl cs (pr e)).1 = 0 → gd (apl cs (pr e)).2 → ∀ (μ1 : kc_M) (s1 : Nat → Int32) (j1 j2 : Option Value), wkC μ μ1 s s1 (apl cs (pr e)).2 → kc_X (kC j_Md_modify) (kc_Y kt kC (d + 3)) (fun v μ' => v = some (.int (nI (moK n nm pr l cs).1)) ∧ ∃ s', μ'.1 136 = some (ce_Md s') ∧ (∀ i, i ≠ 49 → s' i = s i) ∧ mE μ' tb ou n nm (moF pr (moK n nm pr l cs).2) ∧ (∃ f, μ'.1 159 = some (ce_I 32 f)) ∧ (∃ f, μ'.1 160 = some (ce_L 32 f)) ∧ ∀ q, q ≠ 136 → q < 142 ∨ 144 < q → q ≠ 159 → q ≠ 160 → μ'.1 q = μ.1 q) 96 [some (.ref 136), some (.int (nI e)), j1, j2] [] μ1 (0, 0) := by
      intro hz hgd μ1 s1 j1 j2 hC
      have hl32 : (apl cs (pr e)).2.length ≤ 32 := hC.2.2.2.2.1
      obtain ⟨_, _, f', g', w5, w6, w7⟩ := id hC.2.2.2
      have w159 : ∃ f, μ1.1 159 = some (ce_I 32 f) := ⟨f', w5⟩
      have w160 : ∃ f, μ1.1 160 = some (ce_L 32 f) := ⟨g', w6⟩
      have e49 : s1 49 = nI (apl cs (pr e)).2.length := hC.2.2.2.1
      have k145 : μ1.1 145 = some (ce_I 4 f) := (hC.2.2.1 145 (by decide) (by decide) (by decide)).trans n3
      have k146 : μ1.1 146 = some (ce_L 4 g) := (hC.2.2.1 146 (by decide) (by decide) (by decide)).trans n4
      by_cases hin : (f 0, g 0) ∈ (apl cs (pr e)).2
      · obtain ⟨jx, jx1, hfi, _⟩ := fi_lt (by omega) hin
        by_cases hb : 6 < (apl cs (pr e)).2.length
        · have hK : (moK n nm pr l cs) = (53, none) := by unfold moK; rw [hf0]; dsimp only; rw [if_pos hz, hd, if_pos hin, if_pos hb]
          refine x_al c_Md_modify_96 rfl ?_
          refine x_al c_Md_modify_97 rfl ?_
          refine x_get c_Md_modify_98 (by first | rfl | exact hC.1 | exact k145 | exact k146) rfl ?_
          refine x_ci c_Md_modify_101 ?_
          refine x_ialdN c_Md_modify_102 (by first | rfl | exact hC.1 | exact k145 | exact k146) (by omega) (by omega) ?_
          refine x_al c_Md_modify_103 rfl ?_
          refine x_get c_Md_modify_104 (by first | rfl | exact hC.1 | exact k145 | exact k146) rfl ?_
          refine x_ci c_Md_modify_107 ?_
          refine x_laldN c_Md_modify_108 (by first | rfl | exact hC.1 | exact k145 | exact k146) (by omega) (by omega) ?_
          refine x_cv2z _ c_Md_modify_109 (by first | rfl | exact hC.1 | exact k145 | exact k146) (Nat.le_of_ble_eq_true rfl) (y_Md_workAt (d + 2) hC.1 hC.2.2.2) ?_
          rintro _ μx ⟨rfl, hμx⟩
          have hμx := hμx.symm
          subst hμx
          show kc_X _ _ _ _ _ [.int (fi (f 0, g 0) (apl cs (pr e)).2 0)] _ _
          rw [hfi]
          show kc_X _ _ _ _ _ [.int (nI jx)] _ _
          refine x_ifN_ge c_Md_modify_112 (by omega) (fun _ => ?_) (fun h => (by exfalso; omega))
          refine x_al c_Md_modify_118 rfl ?_
          refine x_getE c_Md_modify_119 (by first | rfl | exact hC.1 | exact k145 | exact k146) rfl (by first | exact e49 | rfl) ?_
          refine x_ci c_Md_modify_122 ?_
          refine x_cmN_le c_Md_modify_124 (by omega) (by omega) (fun h => (by exfalso; omega)) (fun _ => ?_)
          refine x_ci c_Md_modify_127 ?_
          refine x_ri c_Md_modify_129 ?_
          exact hno 53 μ1 s1 (hK) hC.1 hC.2.1 hC.2.2.1 w159 w160
        · have hK : (moK n nm pr l cs) = (0, some (e, (apl cs (pr e)).2)) := by unfold moK; rw [hf0]; dsimp only; rw [if_pos hz, hd, if_pos hin, if_neg hb]
          have hb2 : (apl cs (pr e)).2.length ≤ 6 := by omega
          have x6 := (hC.2.2.1 142 (by decide) (by decide) (by decide)).trans r6
          have x7 := (hC.2.2.1 143 (by decide) (by decide) (by decide)).trans r7
          have x8 := (hC.2.2.1 144 (by decide) (by decide) (by decide)).trans r8
          refine x_al c_Md_modify_96 rfl ?_
          refine x_al c_Md_modify_97 rfl ?_
          refine x_get c_Md_modify_98 (by first | rfl | exact hC.1 | exact k145 | exact k146) rfl ?_
          refine x_ci c_Md_modify_101 ?_
          refine x_ialdN c_Md_modify_102 (by first | rfl | exact hC.1 | exact k145 | exact k146) (by omega) (by omega) ?_
          refine x_al c_Md_modify_103 rfl ?_
          refine x_get c_Md_modify_104 (by first | rfl | exact hC.1 | exact k145 | exact k146) rfl ?_
          refine x_ci c_Md_modify_107 ?_
          refine x_laldN c_Md_modify_108 (by first | rfl | exact hC.1 | exact k145 | exact k146) (by omega) (by omega) ?_
          refine x_cv2z _ c_Md_modify_109 (by first | rfl | exact hC.1 | exact k145 | exact k146) (Nat.le_of_ble_eq_true rfl) (y_Md_workAt (d + 2) hC.1 hC.2.2.2) ?_
          rintro _ μx ⟨rfl, hμx⟩
          have hμx := hμx.symm
          subst hμx
          show kc_X _ _ _ _ _ [.int (fi (f 0, g 0) (apl cs (pr e)).2 0)] _ _
          rw [hfi]
          show kc_X _ _ _ _ _ [.int (nI jx)] _ _
          refine x_ifN_ge c_Md_modify_112 (by omega) (fun _ => ?_) (fun h => (by exfalso; omega))
          refine x_al c_Md_modify_118 rfl ?_
          refine x_getE c_Md_modify_119 (by first | rfl | exact hC.1 | exact k145 | exact k146) rfl (by first | exact e49 | rfl) ?_
          refine x_ci c_Md_modify_122 ?_
          refine x_cmN_le c_Md_modify_124 (by omega) (by omega) (fun _ => ?_) (fun h => (by exfalso; omega))
          refine x_al c_Md_modify_130 rfl ?_
          refine x_il c_Md_modify_131 rfl ?_
          refine x_cv1z _ c_Md_modify_132 (by first | rfl | exact hC.1 | exact k145 | exact k146) (Nat.le_of_ble_eq_true rfl) (y_Md_settle (d + 2) (l := (apl cs (pr e)).2) hC.1 e49 w5 w6 x6 x7 x8 (e := e) (by omega) hb2) ?_
          rintro _ μ3 ⟨rfl, y6, y7, y8, y9⟩
          have kk := (y9 136 (by decide) (by decide) (by decide)).trans hC.1
          show kc_X _ _ _ _ _ [] _ _
          refine x_ci c_Md_modify_135 ?_
          refine x_ri c_Md_modify_136 ?_
          exact ⟨by rw [hK], s1, kk, hC.2.1, by rw [hK]; exact ⟨_, _, _, _, _, _, ⟨(y9 137 (by decide) (by decide) (by decide)).trans ((hC.2.2.1 137 (by decide) (by decide) (by decide)).trans r1), (y9 138 (by decide) (by decide) (by decide)).trans ((hC.2.2.1 138 (by decide) (by decide) (by decide)).trans r2), (y9 139 (by decide) (by decide) (by decide)).trans ((hC.2.2.1 139 (by decide) (by decide) (by decide)).trans r3), (y9 140 (by decide) (by decide) (by decide)).trans ((hC.2.2.1 140 (by decide) (by decide) (by decide)).trans r4), (y9 141 (by decide) (by decide) (by decide)).trans ((hC.2.2.1 141 (by decide) (by decide) (by decide)).trans r5), y6, y7, y8⟩, me_mod m2 hw w7 hb2, hn16, (by intro i hi; show (nm i).length ≤ 4 ∧ (if i = e then (apl cs (pr e)).2 else pr i).length ≤ 6; rcases Decidable.em (i = e) with hin' | hin' <;> first | (rw [if_pos hin']; exact ⟨(hw i hi).1, hb2⟩) | (rw [if_neg hin']; exact hw i hi))⟩, ⟨f', (y9 159 (by decide) (by decide) (by decide)).trans w5⟩, ⟨g', (y9 160 (by decide) (by decide) (by decide)).trans w6⟩, fun q q1 q2 q3 q4 => (y9 q (by omega) (by omega) (by omega)).trans (hC.2.2.1 q q1 q3 q4)⟩
      · have hfi : fi (f 0, g 0) (apl cs (pr e)).2 0 = -1 := (fi_mem _ _ 0 (by omega)).mpr hin
        have hK : (moK n nm pr l cs) = (67, none) := by unfold moK; rw [hf0]; dsimp only; rw [if_pos hz, hd, if_neg hin]
        refine x_al c_Md_modify_96 rfl ?_
        refine x_al c_Md_modify_97 rfl ?_
        refine x_get c_Md_modify_98 (by first | rfl | exact hC.1 | exact k145 | exact k146) rfl ?_
        refine x_ci c_Md_modify_101 ?_
        refine x_ialdN c_Md_modify_102 (by first | rfl | exact hC.1 | exact k145 | exact k146) (by omega) (by omega) ?_
        refine x_al c_Md_modify_103 rfl ?_
        refine x_get c_Md_modify_104 (by first | rfl | exact hC.1 | exact k145 | exact k146) rfl ?_
        refine x_ci c_Md_modify_107 ?_
        refine x_laldN c_Md_modify_108 (by first | rfl | exact hC.1 | exact k145 | exact k146) (by omega) (by omega) ?_
        refine x_cv2z _ c_Md_modify_109 (by first | rfl | exact hC.1 | exact k145 | exact k146) (Nat.le_of_ble_eq_true rfl) (y_Md_workAt (d + 2) hC.1 hC.2.2.2) ?_
        rintro _ μx ⟨rfl, hμx⟩
        have hμx := hμx.symm
        subst hμx
        show kc_X _ _ _ _ _ [.int (fi (f 0, g 0) (apl cs (pr e)).2 0)] _ _
        rw [hfi]
        show kc_X _ _ _ _ _ [.int (-1)] _ _
        refine x_if_ge c_Md_modify_112 (fun h => absurd h (by decide)) (fun _ => ?_)
        refine x_ci c_Md_modify_115 ?_
        refine x_ri c_Md_modify_117 ?_
        exact hno 67 μ1 s1 (hK) hC.1 hC.2.1 hC.2.2.1 w159 w160
    have loop : ∀ (ds : List cg) (i a : Nat) (jk : Option Value) (μ1 : kc_M) (s1 : Nat → Int32) (l1 : List tv), i + ds.length = cs.length → maL true kf tf ff cf vf ds i a → apl ds l1 = apl cs (pr e) → wkC μ μ1 s s1 l1 → gd l1 → l1.length + tot ds ≤ 30 → kc_X (kC j_Md_modify) (kc_Y kt kC (d + 3)) (fun v μ' => v = some (.int (nI (moK n nm pr l cs).1)) ∧ ∃ s', μ'.1 136 = some (ce_Md s') ∧ (∀ i, i ≠ 49 → s' i = s i) ∧ mE μ' tb ou n nm (moF pr (moK n nm pr l cs).2) ∧ (∃ f, μ'.1 159 = some (ce_I 32 f)) ∧ (∃ f, μ'.1 160 = some (ce_L 32 f)) ∧ ∀ q, q ≠ 136 → q < 142 ∨ 144 < q → q ≠ 159 → q ≠ 160 → μ'.1 q = μ.1 q) 64 [some (.ref 136), some (.int (nI e)), some (.int (nI i)), jk] [] μ1 (0, 0) := by
      intro ds
      induction ds with
      | nil =>
        intro i a jk μ1 s1 l1 hi hL hR hC hg hl
        have hi : i = cs.length := hi
        have e33 : s1 33 = nI cs.length := (hC.2.1 33 (by decide)).trans h33
        have hR : (0, l1) = apl cs (pr e) := hR
        refine x_il c_Md_modify_64 rfl ?_
        refine x_al c_Md_modify_65 rfl ?_
        refine x_getE c_Md_modify_66 (by first | rfl | exact hC.1) rfl (by first | exact e33 | rfl) ?_
        refine x_cmN_ge c_Md_modify_69 (by omega) (by omega) (fun _ => ?_) (fun h => (by exfalso; omega))
        exact fin (by rw [← hR]) (by rw [← hR]; exact hg) μ1 s1 _ _ (by rw [← hR]; exact hC)
      | cons c ds ih =>
        intro i a jk μ1 s1 l1 hi hL hR hC hg hl
        rw [List.length_cons] at hi
        rw [tot_c] at hl
        have e33 : s1 33 = nI cs.length := (hC.2.1 33 (by decide)).trans h33
        have k := maA_k hA (μ' := μ1) (fun q h1 h2 => hC.2.2.1 q (by omega) (by omega) (by omega))
        have hok := ap1_ok (c := c) hg hL.1.1.2.2.2.2.2.1
        rw [apl_s] at hR
        refine x_il c_Md_modify_64 rfl ?_
        refine x_al c_Md_modify_65 rfl ?_
        refine x_getE c_Md_modify_66 (by first | rfl | exact hC.1 | exact k.1) rfl (by first | exact e33 | rfl) ?_
        refine x_cmN_ge c_Md_modify_69 (by omega) (by omega) (fun h => (by exfalso; omega)) (fun _ => ?_)
        refine x_al c_Md_modify_72 rfl ?_
        refine x_il c_Md_modify_73 rfl ?_
        refine x_al c_Md_modify_74 rfl ?_
        refine x_get c_Md_modify_75 (by first | rfl | exact hC.1 | exact k.1) rfl ?_
        refine x_il c_Md_modify_78 rfl ?_
        refine x_ialdE c_Md_modify_79 (by first | rfl | exact hC.1 | exact k.1) (by omega) (by omega) (hL.1.2 rfl) ?_
        refine x_cv2z _ c_Md_modify_80 (by first | rfl | exact hC.1 | exact k.1) (Nat.le_of_ble_eq_true rfl) (y_Md_workIn d hC.1 hC.2.2.2 k hL.1.1 (by omega) hg (by omega)) ?_
        rintro _ μ2 ⟨rfl, s2, hC2⟩
        have h64 := hok.2.2
        have hC2 := hC.to hC2
        show kc_X _ _ _ _ _ [.int (nI (ap1 c l1).1)] _ _
        refine x_is [_, _, _, _] c_Md_modify_83 rfl ?_
        refine x_il c_Md_modify_84 rfl ?_
        refine x_ifN_eq c_Md_modify_85 (by omega) (fun h85 => ?_) (fun h85 => ?_)
        · first | refine x_incN [_, _, _, _] c_Md_modify_90 rfl rfl ?_ | refine x_inc [_, _, _, _] c_Md_modify_90 rfl rfl ?_
          refine x_goto c_Md_modify_93 ?_
          rw [if_pos h85] at hR
          exact ih (i + 1) _ _ μ2 s2 _ (by omega) hL.2 hR hC2 hok.1 (by have := hok.2.1; omega)
        · refine x_il c_Md_modify_88 rfl ?_
          refine x_ri c_Md_modify_89 ?_
          rw [if_neg h85] at hR
          exact hno _ μ2 s2 (by unfold moK; rw [hf0]; dsimp only; rw [← hR, if_neg h85]) hC2.1 hC2.2.1 hC2.2.2.1 (let ⟨_, _, f, g, a, b, _⟩ := hC2.2.2.2; ⟨f, a⟩) (let ⟨_, _, f, g, a, b, _⟩ := hC2.2.2.2; ⟨g, b⟩)
    have cp : ∀ m k (μ1 : kc_M) (s1 : Nat → Int32) (j2 : Option Value), (pr e).length - k = m → k ≤ (pr e).length → wkC μ μ1 s s1 ((pr e).take k) → kc_X (kC j_Md_modify) (kc_Y kt kC (d + 3)) (fun v μ' => v = some (.int (nI (moK n nm pr l cs).1)) ∧ ∃ s', μ'.1 136 = some (ce_Md s') ∧ (∀ i, i ≠ 49 → s' i = s i) ∧ mE μ' tb ou n nm (moF pr (moK n nm pr l cs).2) ∧ (∃ f, μ'.1 159 = some (ce_I 32 f)) ∧ (∃ f, μ'.1 160 = some (ce_L 32 f)) ∧ ∀ q, q ≠ 136 → q < 142 ∨ 144 < q → q ≠ 159 → q ≠ 160 → μ'.1 q = μ.1 q) 20 [some (.ref 136), some (.int (nI e)), some (.int (nI k)), j2] [] μ1 (0, 0) := by
      intro m
      induction m with
      | zero =>
        intro k μ1 s1 j2 hm hk hC
        have x6 := (hC.2.2.1 142 (by decide) (by decide) (by decide)).trans r6
        refine x_il c_Md_modify_20 rfl ?_
        refine x_al c_Md_modify_21 rfl ?_
        refine x_get c_Md_modify_22 (by first | rfl | exact hC.1 | exact x6) rfl ?_
        refine x_il c_Md_modify_25 rfl ?_
        refine x_ialdE c_Md_modify_26 (by first | rfl | exact hC.1 | exact x6) (by omega) (by omega) (hm'.2.2.1) ?_
        refine x_cmN_ge c_Md_modify_27 (by omega) (by omega) (fun _ => ?_) (fun h => (by exfalso; omega))
        refine x_ci c_Md_modify_62 ?_
        refine x_is [_, _, _, _] c_Md_modify_63 rfl ?_
        exact loop cs 0 0 _ μ1 s1 (pr e) (by omega) hcs rfl (by rw [List.take_of_length_le (by omega)] at hC; exact hC) hpe (by omega)
      | succ m ih =>
        intro k μ1 s1 j2 hm hk hC
        have x6 := (hC.2.2.1 142 (by decide) (by decide) (by decide)).trans r6
        have x7 := (hC.2.2.1 143 (by decide) (by decide) (by decide)).trans r7
        have x8 := (hC.2.2.1 144 (by decide) (by decide) (by decide)).trans r8
        refine x_il c_Md_modify_20 rfl ?_
        refine x_al c_Md_modify_21 rfl ?_
        refine x_get c_Md_modify_22 (by first | rfl | exact hC.1 | exact x6 | exact x7 | exact x8) rfl ?_
        refine x_il c_Md_modify_25 rfl ?_
        refine x_ialdE c_Md_modify_26 (by first | rfl | exact hC.1 | exact x6 | exact x7 | exact x8) (by omega) (by omega) (hm'.2.2.1) ?_
        refine x_cmN_ge c_Md_modify_27 (by omega) (by omega) (fun h => (by exfalso; omega)) (fun _ => ?_)
        refine x_al c_Md_modify_30 rfl ?_
        refine x_al c_Md_modify_31 rfl ?_
        refine x_get c_Md_modify_32 (by first | rfl | exact hC.1 | exact x6 | exact x7 | exact x8) rfl ?_
        refine x_ci c_Md_modify_35 ?_
        refine x_il c_Md_modify_37 rfl ?_
        first | refine x_imulN c_Md_modify_38 ?_ | refine x_imul c_Md_modify_38 ?_
        refine x_il c_Md_modify_39 rfl ?_
        first | refine x_iaddN c_Md_modify_40 ?_ | refine x_iadd c_Md_modify_40 ?_
        refine x_ialdN c_Md_modify_41 (by first | rfl | exact hC.1 | exact x6 | exact x7 | exact x8) (by omega) (by omega) ?_
        refine x_al c_Md_modify_42 rfl ?_
        refine x_get c_Md_modify_43 (by first | rfl | exact hC.1 | exact x6 | exact x7 | exact x8) rfl ?_
        refine x_ci c_Md_modify_46 ?_
        refine x_il c_Md_modify_48 rfl ?_
        first | refine x_imulN c_Md_modify_49 ?_ | refine x_imul c_Md_modify_49 ?_
        refine x_il c_Md_modify_50 rfl ?_
        first | refine x_iaddN c_Md_modify_51 ?_ | refine x_iadd c_Md_modify_51 ?_
        refine x_laldN c_Md_modify_52 (by first | rfl | exact hC.1 | exact x6 | exact x7 | exact x8) (by omega) (by omega) ?_
        refine x_cv2z _ c_Md_modify_53 (by first | rfl | exact hC.1 | exact x6 | exact x7 | exact x8) (Nat.le_of_ble_eq_true rfl) (y_Md_work (d + 2) hC.1 hC.2.2.2 (by rw [List.length_take]; omega)) ?_
        rintro _ μ2 ⟨rfl, s2, hC2⟩
        have hC2 := hC.to hC2
        rw [ho_take (f := fun k => qt (6 * e + k)) (g := fun k => qv (6 * e + k)) hm'.2.2.2 (by omega : k < (pr e).length)] at hC2
        show kc_X _ _ _ _ _ [] _ _
        first | refine x_incN [_, _, _, _] c_Md_modify_56 rfl rfl ?_ | refine x_inc [_, _, _, _] c_Md_modify_56 rfl rfl ?_
        refine x_goto c_Md_modify_59 ?_
        exact ih (k + 1) μ2 s2 _ (by omega) (by omega) hC2
    have hw0 : wkC μ (kc_u μ 136 (ce_Md (upd s 49 (nI 0)))) s (upd s 49 (nI 0)) ((pr e).take 0) := by
      obtain ⟨f1, w1⟩ := w1
      obtain ⟨f2, w2⟩ := w2
      exact ⟨kc_gs, fun i hi => if_neg hi, fun q q1 _ _ => kc_gf q1, rfl, Nat.zero_le _, f1, f2, (kc_gf (by decide)).trans w1, (kc_gf (by decide)).trans w2, fun k hk => absurd hk (Nat.not_lt_zero _)⟩
    refine x_al c_Md_modify_0 rfl ?_
    refine x_ci c_Md_modify_1 ?_
    refine x_cv1z _ c_Md_modify_2 (by first | rfl | exact h0) (Nat.le_of_ble_eq_true rfl) (y_Md_find (d + 1) h0 hE h6 hN (k := 0) (by omega)) ?_
    rintro _ μx ⟨rfl, hμx⟩
    have hμx := hμx.symm
    subst hμx
    show kc_X _ _ _ _ _ [.int (oI (fd nm l n 0))] _ _
    rw [hf0]
    show kc_X _ _ _ _ _ [.int (nI e)] _ _
    refine x_is [_, _, _, _] c_Md_modify_5 rfl ?_
    refine x_il c_Md_modify_6 rfl ?_
    refine x_ifN_ge c_Md_modify_7 (by omega) (fun _ => ?_) (fun h => (by exfalso; omega))
    refine x_al c_Md_modify_13 rfl ?_
    refine x_ci c_Md_modify_14 ?_
    refine x_putM c_Md_modify_15 (by first | rfl | exact h0) ⟨by decide, rfl, rfl⟩ rfl ?_
    refine x_ci c_Md_modify_18 ?_
    refine x_is [_, _, _, _] c_Md_modify_19 rfl ?_
    exact cp _ 0 _ _ _ rfl (by omega) hw0
