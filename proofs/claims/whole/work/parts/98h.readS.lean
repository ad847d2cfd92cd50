/-! the reference reads a search -/
def seS (tb : Nat → Nat) (c e : Nat) : Option (Nat × Nat × Nat × Int32 × Bool × Fo × List Int32) := match tl tb 4 c e with
  | none => none
  | some (x2, y2) => match qrS tb y2 e with
    | none => none
    | some (sc, li, ta, y5) => match flO tb (flP tb 200) 6 0 y5 e with
      | none => none
      | some (t, ty, v, F, y6) => match wtP tb y6 e with
        | none => none
        | some W => some (x2, y2, sc, li, ta, Fo.cons t ty v F Fo.nil, W)
/-- what reading a search changes -/
def mZ (μ μ' : kc_M) (s s' : Nat → Int32) : Prop := μ'.1 136 = some (ce_Md s') ∧ (∀ i, i ∉ [13, 14, 15, 23, 24, 28, 29, 30, 31, 32, 40, 46] → s' i = s i) ∧ (∀ q, q ≠ 136 → q < 152 ∨ 158 < q ∨ q = 156 → μ'.1 q = μ.1 q)
theorem ninZ {i : Nat} (h : i ∉ [13, 14, 15, 23, 24, 28, 29, 30, 31, 32, 40, 46]) : i ∉ [13, 14, 15] ∧ i ∉ [13, 14, 15, 40, 46] ∧ i ∉ [13, 14, 15, 31, 32] := by
  simp only [List.mem_cons, List.not_mem_nil, or_false, not_or] at h ⊢
  omega
theorem mZ.re {μ : kc_M} {s : Nat → Int32} (h : μ.1 136 = some (ce_Md s)) : mZ μ μ s s := ⟨h, fun _ _ => rfl, fun _ _ _ => rfl⟩
theorem mZ.C {μ μ1 μ2 : kc_M} {s s1 s2 : Nat → Int32} (h : mZ μ μ1 s s1) (h2 : mdC μ1 μ2 s1 s2 [13, 14, 15]) : mZ μ μ2 s s2 := ⟨h2.1, fun i hi => (h2.2.1 i (ninZ hi).1).trans (h.2.1 i hi), fun q q1 q2 => (h2.2.2 q q1).trans (h.2.2 q q1 q2)⟩
theorem mZ.F {μ μ1 μ2 : kc_M} {s s1 s2 : Nat → Int32} (h : mZ μ μ1 s s1) (h2 : mF μ1 μ2 s1 s2) : mZ μ μ2 s s2 := ⟨h2.1, fun i hi => (h2.2.1 i (ninZ hi).2.1).trans (h.2.1 i hi), fun q q1 q2 => (h2.2.2 q q1 q2).trans (h.2.2 q q1 q2)⟩
theorem mZ.W {μ μ1 μ2 : kc_M} {s s1 s2 : Nat → Int32} (h : mZ μ μ1 s s1) (h2 : mdC μ1 μ2 s1 s2 [13, 14, 15, 31, 32]) : mZ μ μ2 s s2 := ⟨h2.1, fun i hi => (h2.2.1 i (ninZ hi).2.2).trans (h.2.1 i hi), fun q q1 q2 => (h2.2.2 q q1).trans (h.2.2 q q1 q2)⟩
theorem mZ.p {μ μ1 : kc_M} {s s1 : Nat → Int32} {k : Nat} {v : Int32} (h : mZ μ μ1 s s1) (hk : k ∈ [13, 14, 15, 23, 24, 28, 29, 30, 31, 32, 40, 46]) : mZ μ (kc_u μ1 136 (ce_Md (upd s1 k v))) s (upd s1 k v) := ⟨kc_gs, fun i hi => (if_neg (fun q : i = k => hi (q ▸ hk))).trans (h.2.1 i hi), fun q q1 q2 => (kc_gf q1).trans (h.2.2 q q1 q2)⟩
theorem mdC.mono5 {μ μ' : kc_M} {s s' : Nat → Int32} (h : mdC μ μ' s s' [13, 14, 15]) : mdC μ μ' s s' [13, 14, 15, 31, 32] := ⟨h.1, fun i hi => h.2.1 i (by simp only [List.mem_cons, List.not_mem_nil, or_false, not_or] at hi ⊢; omega), h.2.2⟩
theorem mdC.tt {μ μ1 μ2 : kc_M} {s s1 s2 : Nat → Int32} {X : List Nat} (h1 : mdC μ μ1 s s1 X) (h2 : mdC μ1 μ2 s1 s2 X) : mdC μ μ2 s s2 X := ⟨h2.1, fun i hi => (h2.2.1 i hi).trans (h1.2.1 i hi), fun q q1 => (h2.2.2 q q1).trans (h1.2.2 q q1)⟩
theorem mdC.pt {μ μ1 : kc_M} {s s1 : Nat → Int32} {X : List Nat} {k : Nat} {v : Int32} (h : mdC μ μ1 s s1 X) (hk : k ∈ X) : mdC μ (kc_u μ1 136 (ce_Md (upd s1 k v))) s (upd s1 k v) X := ⟨kc_gs, fun i hi => (if_neg (fun q : i = k => hi (q ▸ hk))).trans (h.2.1 i hi), fun q q1 => (kc_gf q1).trans (h.2.2 q q1)⟩
theorem mdC.re {μ : kc_M} {s : Nat → Int32} {X : List Nat} (h : μ.1 136 = some (ce_Md s)) : mdC μ μ s s X := ⟨h, fun _ _ => rfl, fun _ _ => rfl⟩
set_option maxRecDepth 100000 in
set_option maxHeartbeats 4000000 in
theorem y_Md_readWanted (d : Nat) {μ : kc_M} {s : Nat → Int32} {tb : Nat → Nat} (h0 : μ.1 136 = some (ce_Md s)) (h1 : μ.1 137 = some (ce_I 200 (fun j => nI (tb j)))) (htb : ∀ j, tb j < 256) {p e : Nat} (h19 : s 19 = nI e) (h31 : s 31 = 0) (h32 : s 32 = nI 0) (hp : p ≤ e) (he : e ≤ 200) : kc_Y kt kC (d + 3) j_Md_readWanted [.ref 136, .int (nI p)] μ (fun v μ' => ∃ s', mdC μ μ' s s' [13, 14, 15, 31, 32] ∧ ((∃ W, wtP tb p e = some W ∧ v = some (.int (bI true)) ∧ s' 31 = mkL 0 W ∧ s' 32 = nI W.length ∧ W.length ≤ 12) ∨ (wtP tb p e = none ∧ v = some (.int (bI false))))) := by
  refine ⟨Nat.le_of_ble_eq_true rfl, ?_⟩
  have loop : wtP tb p e = wtP tb p e → ∀ m (W : List Int32) (p1 : Nat) (μ1 : kc_M) (s1 : Nat → Int32) (jk : Option Value), 12 - W.length = m → W.length ≤ 12 → p1 ≤ e → wtP tb p e = (wtS tb m p1 e).map (fun l => W ++ l) → mdC μ μ1 s s1 [13, 14, 15, 31, 32] → s1 31 = mkL 0 W → s1 32 = nI W.length → kc_X (kC j_Md_readWanted) (kc_Y kt kC (d + 2)) (fun v μ' => ∃ s', mdC μ μ' s s' [13, 14, 15, 31, 32] ∧ ((∃ W, wtP tb p e = some W ∧ v = some (.int (bI true)) ∧ s' 31 = mkL 0 W ∧ s' 32 = nI W.length ∧ W.length ≤ 12) ∨ (wtP tb p e = none ∧ v = some (.int (bI false))))) 32 [some (.ref 136), some (.int (nI p)), some (.int (nI p1)), jk] [] μ1 (0, 0) := by
    intro _ m
    induction m with
    | zero =>
      intro W p1 μ1 s1 jk hm hW hpe hR hC e31 e32
      have q19 := (hC.2.1 19 (by decide)).trans h19
      by_cases hp : p1 < e
      · skip
        refine x_il c_Md_readWanted_32 rfl ?_
        refine x_al c_Md_readWanted_33 rfl ?_
        refine x_getE c_Md_readWanted_34 (by first | rfl | exact hC.1) rfl (by first | exact q19 | exact e32 | rfl) ?_
        refine x_cmN_ge c_Md_readWanted_37 (by omega) (by omega) (fun h => (by exfalso; omega)) (fun _ => ?_)
        refine x_al c_Md_readWanted_40 rfl ?_
        refine x_getE c_Md_readWanted_41 (by first | rfl | exact hC.1) rfl (by first | exact q19 | exact e32 | rfl) ?_
        refine x_ci c_Md_readWanted_44 ?_
        refine x_cmN_eq c_Md_readWanted_46 (by omega) (by omega) (fun _ => ?_) (fun h => (by exfalso; omega))
        refine x_ci c_Md_readWanted_62 ?_
        refine x_rz c_Md_readWanted_63 (by first | decide | exact kz_n _) ?_
        exact ⟨s1, hC, Or.inr ⟨by rw [hR]; unfold wtS; rw [if_pos hp]; rfl, rfl⟩⟩
      · skip
        refine x_il c_Md_readWanted_32 rfl ?_
        refine x_al c_Md_readWanted_33 rfl ?_
        refine x_getE c_Md_readWanted_34 (by first | rfl | exact hC.1) rfl (by first | exact q19 | exact e32 | rfl) ?_
        refine x_cmN_ge c_Md_readWanted_37 (by omega) (by omega) (fun _ => ?_) (fun h => (by exfalso; omega))
        refine x_ci c_Md_readWanted_122 ?_
        refine x_rz c_Md_readWanted_123 (by first | decide | exact kz_n _) ?_
        exact ⟨s1, hC, Or.inl ⟨W, by rw [hR]; unfold wtS; rw [if_neg hp]; simp, rfl, e31, e32, hW⟩⟩
    | succ m ih =>
      intro W p1 μ1 s1 jk hm hW hpe hR hC e31 e32
      have q19 := (hC.2.1 19 (by decide)).trans h19
      have k1 := (hC.2.2 137 (by decide)).trans h1
      by_cases hp : p1 < e
      · skip
        refine x_il c_Md_readWanted_32 rfl ?_
        refine x_al c_Md_readWanted_33 rfl ?_
        refine x_getE c_Md_readWanted_34 (by first | rfl | exact hC.1) rfl (by first | exact q19 | exact e32 | rfl) ?_
        refine x_cmN_ge c_Md_readWanted_37 (by omega) (by omega) (fun h => (by exfalso; omega)) (fun _ => ?_)
        refine x_al c_Md_readWanted_40 rfl ?_
        refine x_getE c_Md_readWanted_41 (by first | rfl | exact hC.1) rfl (by first | exact q19 | exact e32 | rfl) ?_
        refine x_ci c_Md_readWanted_44 ?_
        refine x_cmN_eq c_Md_readWanted_46 (by omega) (by omega) (fun h => (by exfalso; omega)) (fun _ => ?_)
        refine x_al c_Md_readWanted_49 rfl ?_
        refine x_il c_Md_readWanted_50 rfl ?_
        refine x_al c_Md_readWanted_51 rfl ?_
        refine x_getE c_Md_readWanted_52 (by first | rfl | exact hC.1) rfl (by first | exact q19 | exact e32 | rfl) ?_
        refine x_ci c_Md_readWanted_55 ?_
        refine x_cv3z _ c_Md_readWanted_56 (by first | rfl | exact hC.1) (Nat.le_of_ble_eq_true rfl) (y_Md_tagged d hC.1 k1 htb (p := p1) (e := e) (by omega) he (t := 4) (by omega)) ?_
        rintro v μ2 ⟨s2, hc2, ⟨x2, y2, r2, rfl, a2, b2, d2⟩ | ⟨r2, rfl⟩⟩
        · show kc_X _ _ _ _ _ [.int (bI true)] _ _
          have i2 := tl_in r2
          have k12 := (hc2.2.2 137 (by decide)).trans k1
          have hC2 := hC.tt hc2.mono5
          have w31 := (hc2.2.1 31 (by decide)).trans e31
          have w32 := (hc2.2.1 32 (by decide)).trans e32
          refine x_if_ne c_Md_readWanted_59 (fun _ => ?_) (fun h => absurd h (by decide))
          refine x_al c_Md_readWanted_64 rfl ?_
          refine x_al c_Md_readWanted_65 rfl ?_
          refine x_getE c_Md_readWanted_66 (by first | rfl | exact hc2.1 | exact k12 | exact kc_gs) rfl (by first | exact b2 | exact d2 | exact w31 | exact w32 | rfl) ?_
          refine x_al c_Md_readWanted_69 rfl ?_
          refine x_getE c_Md_readWanted_70 (by first | rfl | exact hc2.1 | exact k12 | exact kc_gs) rfl (by first | exact b2 | exact d2 | exact w31 | exact w32 | rfl) ?_
          refine x_cv2z _ c_Md_readWanted_73 (by first | rfl | exact hc2.1 | exact k12 | exact kc_gs) (Nat.le_of_ble_eq_true rfl) (y_Md_typeIn (d + 1) hc2.1 k12 htb (p := x2) (e := y2) (by omega) (by omega)) ?_
          rintro _ μx ⟨rfl, hμx⟩
          have hμx := hμx.symm
          subst hμx
          show kc_X _ _ _ _ _ [.int (tyS tb x2 y2)] _ _
          refine x_is [_, _, _, _] c_Md_readWanted_76 rfl ?_
          refine x_al c_Md_readWanted_77 rfl ?_
          refine x_il c_Md_readWanted_78 rfl ?_
          refine x_ci c_Md_readWanted_79 ?_
          refine x_cm_ne c_Md_readWanted_80 (fun h80 => ?_) (fun h80 => ?_)
          · refine x_al c_Md_readWanted_90 rfl ?_
            refine x_getE c_Md_readWanted_91 (by first | rfl | exact hc2.1 | exact k12 | exact kc_gs) rfl (by first | exact b2 | exact d2 | exact w31 | exact w32 | rfl) ?_
            refine x_ci c_Md_readWanted_94 ?_
            refine x_il c_Md_readWanted_95 rfl ?_
            refine x_ci c_Md_readWanted_96 ?_
            refine x_isub c_Md_readWanted_98 ?_
            refine x_ishl c_Md_readWanted_99 ?_
            refine x_ior c_Md_readWanted_100 ?_
            refine x_putM c_Md_readWanted_101 (by first | rfl | exact hc2.1 | exact k12 | exact kc_gs) ⟨by decide, rfl, rfl⟩ rfl ?_
            refine x_al c_Md_readWanted_104 rfl ?_
            refine x_dup c_Md_readWanted_105 rfl ?_
            refine x_getE c_Md_readWanted_106 (by first | rfl | exact hc2.1 | exact k12 | exact kc_gs) rfl (by first | exact b2 | exact d2 | exact w31 | exact w32 | rfl) ?_
            refine x_ci c_Md_readWanted_109 ?_
            first | refine x_iaddN c_Md_readWanted_110 ?_ | refine x_iadd c_Md_readWanted_110 ?_
            refine x_putM c_Md_readWanted_111 (by first | rfl | exact hc2.1 | exact k12 | exact kc_gs) ⟨by decide, rfl, rfl⟩ rfl ?_
            refine x_al c_Md_readWanted_114 rfl ?_
            refine x_getE c_Md_readWanted_115 (by first | rfl | exact hc2.1 | exact k12 | exact kc_gs) rfl (by first | exact b2 | exact d2 | exact w31 | exact w32 | rfl) ?_
            refine x_is [_, _, _, _] c_Md_readWanted_118 rfl ?_
            refine x_goto c_Md_readWanted_119 ?_
            have e7 : W.length + 1 = (W ++ [tyS tb x2 y2]).length := by rw [List.length_append]; rfl
            have e6 : mkL 0 (W ++ [tyS tb x2 y2]) = mk1 (mkL 0 W) (tyS tb x2 y2) := by unfold mkL; rw [List.foldl_append]; rfl
            first | exact ih (W ++ [tyS tb x2 y2]) y2 _ _ _ (by rw [← e7]; omega) (by rw [← e7]; omega) i2.2.2 (by rw [hR, wtS_s, if_pos hp, r2]; dsimp only; cases wtS tb m y2 e <;> simp) ((hC2.pt (by decide)).pt (by decide)) (by rw [e6]; unfold mk1; rw [if_neg h80]; exact rfl) (by rw [← e7]; exact rfl) | exact ih (W ++ [tyS tb x2 y2]) y2 _ _ _ (by rw [← e7]; omega) (by rw [← e7]; omega) i2.2.2 (by rw [hR, wtS_s, if_pos hp, r2]; dsimp only; cases wtS tb m y2 e <;> simp) ((hC2.pt (by decide)).pt (by decide)) (by rw [e6]; unfold mk1; rw [if_pos h80]; exact rfl) (by rw [← e7]; exact rfl)
          · refine x_al c_Md_readWanted_83 rfl ?_
            refine x_getE c_Md_readWanted_84 (by first | rfl | exact hc2.1 | exact k12 | exact kc_gs) rfl (by first | exact b2 | exact d2 | exact w31 | exact w32 | rfl) ?_
            refine x_goto c_Md_readWanted_87 ?_
            refine x_putM c_Md_readWanted_101 (by first | rfl | exact hc2.1 | exact k12 | exact kc_gs) ⟨by decide, rfl, rfl⟩ rfl ?_
            refine x_al c_Md_readWanted_104 rfl ?_
            refine x_dup c_Md_readWanted_105 rfl ?_
            refine x_getE c_Md_readWanted_106 (by first | rfl | exact hc2.1 | exact k12 | exact kc_gs) rfl (by first | exact b2 | exact d2 | exact w31 | exact w32 | rfl) ?_
            refine x_ci c_Md_readWanted_109 ?_
            first | refine x_iaddN c_Md_readWanted_110 ?_ | refine x_iadd c_Md_readWanted_110 ?_
            refine x_putM c_Md_readWanted_111 (by first | rfl | exact hc2.1 | exact k12 | exact kc_gs) ⟨by decide, rfl, rfl⟩ rfl ?_
            refine x_al c_Md_readWanted_114 rfl ?_
            refine x_getE c_Md_readWanted_115 (by first | rfl | exact hc2.1 | exact k12 | exact kc_gs) rfl (by first | exact b2 | exact d2 | exact w31 | exact w32 | rfl) ?_
            refine x_is [_, _, _, _] c_Md_readWanted_118 rfl ?_
            refine x_goto c_Md_readWanted_119 ?_
            have e7 : W.length + 1 = (W ++ [tyS tb x2 y2]).length := by rw [List.length_append]; rfl
            have e6 : mkL 0 (W ++ [tyS tb x2 y2]) = mk1 (mkL 0 W) (tyS tb x2 y2) := by unfold mkL; rw [List.foldl_append]; rfl
            first | exact ih (W ++ [tyS tb x2 y2]) y2 _ _ _ (by rw [← e7]; omega) (by rw [← e7]; omega) i2.2.2 (by rw [hR, wtS_s, if_pos hp, r2]; dsimp only; cases wtS tb m y2 e <;> simp) ((hC2.pt (by decide)).pt (by decide)) (by rw [e6]; unfold mk1; rw [if_neg h80]; exact rfl) (by rw [← e7]; exact rfl) | exact ih (W ++ [tyS tb x2 y2]) y2 _ _ _ (by rw [← e7]; omega) (by rw [← e7]; omega) i2.2.2 (by rw [hR, wtS_s, if_pos hp, r2]; dsimp only; cases wtS tb m y2 e <;> simp) ((hC2.pt (by decide)).pt (by decide)) (by rw [e6]; unfold mk1; rw [if_pos h80]; exact rfl) (by rw [← e7]; exact rfl)
        · show kc_X _ _ _ _ _ [.int (bI false)] _ _
          refine x_if_ne c_Md_readWanted_59 (fun h => absurd (rfl) h) (fun _ => ?_)
          refine x_ci c_Md_readWanted_62 ?_
          refine x_rz c_Md_readWanted_63 (by first | decide | exact kz_n _) ?_
          exact ⟨s2, hC.tt hc2.mono5, Or.inr ⟨by rw [hR, wtS_s, if_pos hp, r2]; rfl, rfl⟩⟩
      · skip
        refine x_il c_Md_readWanted_32 rfl ?_
        refine x_al c_Md_readWanted_33 rfl ?_
        refine x_getE c_Md_readWanted_34 (by first | rfl | exact hC.1) rfl (by first | exact q19 | exact e32 | rfl) ?_
        refine x_cmN_ge c_Md_readWanted_37 (by omega) (by omega) (fun _ => ?_) (fun h => (by exfalso; omega))
        refine x_ci c_Md_readWanted_122 ?_
        refine x_rz c_Md_readWanted_123 (by first | decide | exact kz_n _) ?_
        exact ⟨s1, hC, Or.inl ⟨W, by rw [hR, wtS_s, if_neg hp]; simp, rfl, e31, e32, hW⟩⟩
  refine x_al c_Md_readWanted_0 rfl ?_
  refine x_il c_Md_readWanted_1 rfl ?_
  refine x_al c_Md_readWanted_2 rfl ?_
  refine x_getE c_Md_readWanted_3 (by first | rfl | exact h0) rfl (by first | exact h19 | rfl) ?_
  refine x_ci c_Md_readWanted_6 ?_
  refine x_cv3z _ c_Md_readWanted_8 (by first | rfl | exact h0) (Nat.le_of_ble_eq_true rfl) (y_Md_tagged d h0 h1 htb (p := p) (e := e) (by omega) he (t := 48) (by omega)) ?_
  rintro v μ3 ⟨s3, hc3, ⟨x, y, r3, rfl, a3, b3, d3⟩ | ⟨r3, rfl⟩⟩
  · show kc_X _ _ _ _ _ [.int (bI true)] _ _
    have i3 := tl_in r3
    have q3 := (hc3.2.1 19 (by decide)).trans h19
    refine x_if_eq c_Md_readWanted_11 (fun h => absurd h (by decide)) (fun _ => ?_)
    refine x_al c_Md_readWanted_14 rfl ?_
    refine x_getE c_Md_readWanted_15 (by first | rfl | exact hc3.1) rfl (by first | exact b3 | exact d3 | exact q3 | rfl) ?_
    refine x_al c_Md_readWanted_18 rfl ?_
    refine x_getE c_Md_readWanted_19 (by first | rfl | exact hc3.1) rfl (by first | exact b3 | exact d3 | exact q3 | rfl) ?_
    refine x_cmN_eq c_Md_readWanted_22 (by omega) (by omega) (fun h22 => ?_) (fun h22 => ?_)
    · refine x_al c_Md_readWanted_27 rfl ?_
      refine x_getE c_Md_readWanted_28 (by first | rfl | exact hc3.1) rfl (by first | exact b3 | exact d3 | exact q3 | rfl) ?_
      refine x_is [_, _, _, _] c_Md_readWanted_31 rfl ?_
      exact loop rfl 12 [] x μ3 s3 _ rfl (Nat.zero_le _) (by omega) (by unfold wtP; rw [r3]; dsimp only; rw [if_pos h22]; cases wtS tb 12 x e <;> simp) hc3.mono5 ((hc3.2.1 31 (by decide)).trans h31) ((hc3.2.1 32 (by decide)).trans h32)
    · refine x_ci c_Md_readWanted_25 ?_
      refine x_rz c_Md_readWanted_26 (by first | decide | exact kz_n _) ?_
      exact ⟨s3, hc3.mono5, Or.inr ⟨by unfold wtP; rw [r3]; dsimp only; rw [if_neg h22], rfl⟩⟩
  · show kc_X _ _ _ _ _ [.int (bI false)] _ _
    refine x_if_eq c_Md_readWanted_11 (fun _ => ?_) (fun h => absurd (rfl) h)
    refine x_ci c_Md_readWanted_25 ?_
    refine x_rz c_Md_readWanted_26 (by first | decide | exact kz_n _) ?_
    exact ⟨s3, hc3.mono5, Or.inr ⟨by unfold wtP; rw [r3], rfl⟩⟩
/-- before the filters are read, no row changes -/
def mY (μ μ' : kc_M) (s s' : Nat → Int32) : Prop := μ'.1 136 = some (ce_Md s') ∧ (∀ i, i ∉ [13, 14, 15, 23, 24, 28, 29, 30, 31, 32, 40, 46] → s' i = s i) ∧ (∀ q, q ≠ 136 → μ'.1 q = μ.1 q) ∧ ∀ i, i ∈ [31, 32, 40, 46] → s' i = s i
theorem mY.re {μ : kc_M} {s : Nat → Int32} (h : μ.1 136 = some (ce_Md s)) : mY μ μ s s := ⟨h, fun _ _ => rfl, fun _ _ => rfl, fun _ _ => rfl⟩
theorem mY.C {μ μ1 μ2 : kc_M} {s s1 s2 : Nat → Int32} (h : mY μ μ1 s s1) (h2 : mdC μ1 μ2 s1 s2 [13, 14, 15]) : mY μ μ2 s s2 := ⟨h2.1, fun i hi => (h2.2.1 i (ninZ hi).1).trans (h.2.1 i hi), fun q q1 => (h2.2.2 q q1).trans (h.2.2.1 q q1), fun i hi => (h2.2.1 i (by simp only [List.mem_cons, List.not_mem_nil, or_false, not_or] at hi ⊢; omega)).trans (h.2.2.2 i hi)⟩
theorem mY.p {μ μ1 : kc_M} {s s1 : Nat → Int32} {k : Nat} {v : Int32} (h : mY μ μ1 s s1) (hk : k ∈ [13, 14, 15, 23, 24, 28, 29, 30, 31, 32, 40, 46]) (hk2 : k ∉ [31, 32, 40, 46]) : mY μ (kc_u μ1 136 (ce_Md (upd s1 k v))) s (upd s1 k v) := ⟨kc_gs, fun i hi => (if_neg (fun q : i = k => hi (q ▸ hk))).trans (h.2.1 i hi), fun q q1 => (kc_gf q1).trans (h.2.2.1 q q1), fun i hi => (if_neg (fun q : i = k => hk2 (q ▸ hi))).trans (h.2.2.2 i hi)⟩
theorem mY.Z {μ μ1 : kc_M} {s s1 : Nat → Int32} (h : mY μ μ1 s s1) : mZ μ μ1 s s1 := ⟨h.1, h.2.1, fun q q1 _ => h.2.2.1 q q1⟩
set_option maxRecDepth 100000 in
set_option maxHeartbeats 4000000 in
theorem y_Md_readSearch (d : Nat) {μ : kc_M} {s : Nat → Int32} {tb : Nat → Nat} (h0 : μ.1 136 = some (ce_Md s)) (h1 : μ.1 137 = some (ce_I 200 (fun j => nI (tb j)))) (htb : ∀ j, tb j < 256) {c e : Nat} (hs18 : s 18 = nI c) (hs19 : s 19 = nI e) (hce : c ≤ e) (he : e ≤ 200) (hs31 : s 31 = 0) (hs32 : s 32 = nI 0) (hs40 : s 40 = nI 0) (hs46 : s 46 = nI 0) {wf af tf : Nat → Int32} {vf : Nat → Int64} (hA : fmA μ wf af tf vf) {oe of : Nat → Int32} (m1 : μ.1 157 = some (ce_I 6 oe)) (m2 : μ.1 158 = some (ce_I 6 of)) : kc_Y kt kC (d + 5) j_Md_readSearch [.ref 136] μ (fun v μ' => ∃ s' wf' af' tf' vf', mZ μ μ' s s' ∧ fmA μ' wf' af' tf' vf' ∧ (∃ f, μ'.1 157 = some (ce_I 6 f)) ∧ (∃ f, μ'.1 158 = some (ce_I 6 f)) ∧ ((∃ x2 y2 sc li ta G W, seS tb c e = some (x2, y2, sc, li, ta, G, W) ∧ v = some (.int (bI true)) ∧ s' 23 = nI x2 ∧ s' 24 = nI y2 ∧ x2 ≤ y2 ∧ y2 ≤ e ∧ s' 28 = nI sc ∧ s' 29 = li ∧ s' 30 = bI ta ∧ s' 31 = mkL 0 W ∧ s' 32 = nI W.length ∧ W.length ≤ 12 ∧ s' 40 = nI (fsz G) ∧ enM wf' af' tf' vf' G (-1) 0) ∨ (seS tb c e = none ∧ v = some (.int (bI false))))) := by
  refine ⟨Nat.le_of_ble_eq_true rfl, ?_⟩
  have rest : ∀ (x2 y2 sc : Nat) (li : Int32) (ta : Bool) (y5 : Nat) (μ1 : kc_M) (s1 : Nat → Int32), tl tb 4 c e = some (x2, y2) → qrS tb y2 e = some (sc, li, ta, y5) → x2 ≤ y2 → y2 ≤ e → y5 ≤ e → e ≤ 200 → mY μ μ1 s s1 → s1 23 = nI x2 → s1 24 = nI y2 → s1 28 = nI sc → s1 29 = li → s1 30 = bI ta → s1 15 = nI y5 → ∀ jk, kc_X (kC j_Md_readSearch) (kc_Y kt kC (d + 4)) (fun v μ' => ∃ s' wf' af' tf' vf', mZ μ μ' s s' ∧ fmA μ' wf' af' tf' vf' ∧ (∃ f, μ'.1 157 = some (ce_I 6 f)) ∧ (∃ f, μ'.1 158 = some (ce_I 6 f)) ∧ ((∃ x2 y2 sc li ta G W, seS tb c e = some (x2, y2, sc, li, ta, G, W) ∧ v = some (.int (bI true)) ∧ s' 23 = nI x2 ∧ s' 24 = nI y2 ∧ x2 ≤ y2 ∧ y2 ≤ e ∧ s' 28 = nI sc ∧ s' 29 = li ∧ s' 30 = bI ta ∧ s' 31 = mkL 0 W ∧ s' 32 = nI W.length ∧ W.length ≤ 12 ∧ s' 40 = nI (fsz G) ∧ enM wf' af' tf' vf' G (-1) 0) ∨ (seS tb c e = none ∧ v = some (.int (bI false))))) 180 [some (.ref 136), jk] [] μ1 (0, 0) := by
    intro x2 y2 sc li ta y5 μ1 s1 h2 hq hxy hy2 hy5 _ mz n23 n24 n28 n29 n30 n15 jk
    have k1 := (mz.2.2.1 137 (by decide)).trans h1
    have c19 := (mz.2.1 19 (by decide)).trans hs19
    have z40 := (mz.2.2.2 40 (by decide)).trans hs40
    have z46 := (mz.2.2.2 46 (by decide)).trans hs46
    have A1 := fmA_k hA (μ' := μ1) (fun q q1 q2 => mz.2.2.1 q (by omega))
    refine x_al c_Md_readSearch_180 rfl ?_
    refine x_al c_Md_readSearch_181 rfl ?_
    refine x_getE c_Md_readSearch_182 (by first | rfl | exact mz.1) rfl (by first | exact n15 | rfl) ?_
    refine x_cv1z _ c_Md_readSearch_185 (by first | rfl | exact mz.1) (Nat.le_of_ble_eq_true rfl) (y_Md_readFilter d mz.1 k1 htb A1 ((mz.2.2.1 157 (by decide)).trans m1) ((mz.2.2.1 158 (by decide)).trans m2) (p0 := y5) (to := e) c19 z40 z46 (by omega) he) ?_
    rintro w μ3 ⟨s3, wf3, af3, tf3, vf3, m3, A3, o3, p3, ⟨t, ty, v, F, y, hfo, rfl, e40, hen⟩ | ⟨hfo, rfl⟩⟩
    · show kc_X _ _ _ _ _ [.int (nI y)] _ _
      have hf2 := flO_in2 hfo
      have k3 := (m3.2.2 137 (by decide) (by decide)).trans k1
      have c3 := (m3.2.1 19 (by decide)).trans c19
      have z3 := mz.Z.F m3
      refine x_is [_, _] c_Md_readSearch_188 rfl ?_
      refine x_il c_Md_readSearch_189 rfl ?_
      refine x_ifN_lt c_Md_readSearch_190 (by omega) (fun h => (by exfalso; omega)) (fun _ => ?_)
      refine x_al c_Md_readSearch_193 rfl ?_
      refine x_il c_Md_readSearch_194 rfl ?_
      refine x_cv1z _ c_Md_readSearch_195 (by first | rfl | exact m3.1) (Nat.le_of_ble_eq_true rfl) (y_Md_readWanted (d + 1) m3.1 k3 htb (p := y) (e := e) c3 ((m3.2.1 31 (by decide)).trans ((mz.2.2.2 31 (by decide)).trans hs31)) ((m3.2.1 32 (by decide)).trans ((mz.2.2.2 32 (by decide)).trans hs32)) (by omega) he) ?_
      rintro w μ4 ⟨s4, m4, ⟨W, hw, rfl, e31, e32, hW⟩ | ⟨hw, rfl⟩⟩
      · show kc_X _ _ _ _ _ [.int (bI true)] _ _
        have A4 := fmA_k A3 (μ' := μ4) (fun q q1 q2 => m4.2.2 q (by omega))
        refine x_if_eq c_Md_readSearch_198 (fun h => absurd h (by decide)) (fun _ => ?_)
        refine x_ci c_Md_readSearch_201 ?_
        refine x_goto c_Md_readSearch_202 ?_
        refine x_rz c_Md_readSearch_206 (by first | decide | exact kz_n _) ?_
        exact ⟨s4, wf3, af3, tf3, vf3, z3.W m4, A4, (let ⟨f, q⟩ := o3; ⟨f, (m4.2.2 157 (by decide)).trans q⟩), (let ⟨f, q⟩ := p3; ⟨f, (m4.2.2 158 (by decide)).trans q⟩), Or.inl ⟨x2, y2, sc, li, ta, Fo.cons t ty v F Fo.nil, W, by unfold seS; rw [h2]; dsimp only; rw [hq]; dsimp only; rw [hfo]; dsimp only; rw [hw], rfl, (m4.2.1 23 (by decide)).trans ((m3.2.1 23 (by decide)).trans n23), (m4.2.1 24 (by decide)).trans ((m3.2.1 24 (by decide)).trans n24), hxy, hy2, (m4.2.1 28 (by decide)).trans ((m3.2.1 28 (by decide)).trans n28), (m4.2.1 29 (by decide)).trans ((m3.2.1 29 (by decide)).trans n29), (m4.2.1 30 (by decide)).trans ((m3.2.1 30 (by decide)).trans n30), e31, e32, hW, ((m4.2.1 40 (by decide)).trans e40).trans (by rw [fsz_c]; rfl), hen⟩⟩
      · show kc_X _ _ _ _ _ [.int (bI false)] _ _
        have A4 := fmA_k A3 (μ' := μ4) (fun q q1 q2 => m4.2.2 q (by omega))
        refine x_if_eq c_Md_readSearch_198 (fun _ => ?_) (fun h => absurd (rfl) h)
        refine x_ci c_Md_readSearch_205 ?_
        refine x_rz c_Md_readSearch_206 (by first | decide | exact kz_n _) ?_
        exact ⟨s4, wf3, af3, tf3, vf3, z3.W m4, A4, (let ⟨f, q⟩ := o3; ⟨f, (m4.2.2 157 (by decide)).trans q⟩), (let ⟨f, q⟩ := p3; ⟨f, (m4.2.2 158 (by decide)).trans q⟩), Or.inr ⟨by unfold seS; rw [h2]; dsimp only; rw [hq]; dsimp only; rw [hfo]; dsimp only; rw [hw], rfl⟩⟩
    · show kc_X _ _ _ _ _ [.int (-1)] _ _
      refine x_is [_, _] c_Md_readSearch_188 rfl ?_
      refine x_il c_Md_readSearch_189 rfl ?_
      refine x_if_lt c_Md_readSearch_190 (fun _ => ?_) (fun h => absurd (by decide) h)
      refine x_ci c_Md_readSearch_205 ?_
      refine x_rz c_Md_readSearch_206 (by first | decide | exact kz_n _) ?_
      exact ⟨s3, wf3, af3, tf3, vf3, mz.Z.F m3, A3, o3, p3, Or.inr ⟨by unfold seS; rw [h2]; dsimp only; rw [hq]; dsimp only; rw [hfo], rfl⟩⟩
  have mz := mY.re h0
  refine x_al c_Md_readSearch_0 rfl ?_
  refine x_al c_Md_readSearch_1 rfl ?_
  refine x_getE c_Md_readSearch_2 (by first | rfl | exact h0) rfl (by first | exact hs18 | exact hs19 | rfl) ?_
  refine x_al c_Md_readSearch_5 rfl ?_
  refine x_getE c_Md_readSearch_6 (by first | rfl | exact h0) rfl (by first | exact hs18 | exact hs19 | rfl) ?_
  refine x_ci c_Md_readSearch_9 ?_
  refine x_cv3z _ c_Md_readSearch_10 (by first | rfl | exact h0) (Nat.le_of_ble_eq_true rfl) (y_Md_tagged (d + 2) h0 h1 htb (p := c) (e := e) (by omega) he (t := 4) (by omega)) ?_
  rintro v μ2 ⟨s2, hc2, ⟨x2, y2, r2, rfl, a2, b2, d2⟩ | ⟨r2, rfl⟩⟩
  · show kc_X _ _ _ _ _ [.int (bI true)] _ _
    have mz := mz.C hc2
    have k1 := (mz.2.2.1 137 (by decide)).trans h1
    have c19 := (mz.2.1 19 (by decide)).trans hs19
    have i2 := tl_in r2
    have mz := (mz).p (k := 23) (by decide) (by decide) (v := nI x2)
    have mz := (mz).p (k := 24) (by decide) (by decide) (v := nI y2)
    have c19' : upd (upd s2 23 (nI x2)) 24 (nI y2) 19 = nI e := c19
    have n23 : upd (upd s2 23 (nI x2)) 24 (nI y2) 23 = nI x2 := rfl
    have n24 : upd (upd s2 23 (nI x2)) 24 (nI y2) 24 = nI y2 := rfl
    refine x_if_ne c_Md_readSearch_13 (fun _ => ?_) (fun h => absurd h (by decide))
    refine x_al c_Md_readSearch_18 rfl ?_
    refine x_al c_Md_readSearch_19 rfl ?_
    refine x_getE c_Md_readSearch_20 (by first | rfl | exact hc2.1 | exact rfl | exact kc_gs) rfl (by first | exact b2 | exact d2 | exact c19 | exact c19' | rfl) ?_
    refine x_putM c_Md_readSearch_23 (by first | rfl | exact hc2.1 | exact rfl | exact kc_gs) ⟨by decide, rfl, rfl⟩ rfl ?_
    refine x_al c_Md_readSearch_26 rfl ?_
    refine x_al c_Md_readSearch_27 rfl ?_
    refine x_getE c_Md_readSearch_28 (by first | rfl | exact hc2.1 | exact rfl | exact kc_gs) rfl (by first | exact b2 | exact d2 | exact c19 | exact c19' | rfl) ?_
    refine x_putM c_Md_readSearch_31 (by first | rfl | exact hc2.1 | exact rfl | exact kc_gs) ⟨by decide, rfl, rfl⟩ rfl ?_
    refine x_al c_Md_readSearch_34 rfl ?_
    refine x_al c_Md_readSearch_35 rfl ?_
    refine x_getE c_Md_readSearch_36 (by first | rfl | exact hc2.1 | exact rfl | exact kc_gs) rfl (by first | exact b2 | exact d2 | exact c19 | exact c19' | rfl) ?_
    refine x_al c_Md_readSearch_39 rfl ?_
    refine x_getE c_Md_readSearch_40 (by first | rfl | exact hc2.1 | exact rfl | exact kc_gs) rfl (by first | exact b2 | exact d2 | exact c19 | exact c19' | rfl) ?_
    refine x_ci c_Md_readSearch_43 ?_
    refine x_cv3z _ c_Md_readSearch_44 (by first | rfl | exact hc2.1 | exact rfl | exact kc_gs) (Nat.le_of_ble_eq_true rfl) (y_Md_chosen (d + 1) mz.1 (by exact k1) htb (p := y2) (e := e) (by omega) he (m := 2) (by omega)) ?_
    rintro v μ3 ⟨s3, hc3, ⟨x3, y3, r3, rfl, a3, b3, d3⟩ | ⟨r3, rfl⟩⟩
    · show kc_X _ _ _ _ _ [.int (bI true)] _ _
      have mz := mz.C hc3
      have k1 := (mz.2.2.1 137 (by decide)).trans h1
      have c19 := (mz.2.1 19 (by decide)).trans hs19
      obtain ⟨r3', l3, l3'⟩ := cl_in r3
      have i3 := tl_in r3'
      have n23 := (hc3.2.1 23 (by decide)).trans n23
      have n24 := (hc3.2.1 24 (by decide)).trans n24
      have mz := (mz).p (k := 28) (by decide) (by decide) (v := nI (tb x3))
      have c19' : upd s3 28 (nI (tb x3)) 19 = nI e := c19
      have d3' : upd s3 28 (nI (tb x3)) 15 = nI y3 := d3
      have n28 : upd s3 28 (nI (tb x3)) 28 = nI (tb x3) := rfl
      have n23 : upd s3 28 (nI (tb x3)) 23 = nI x2 := n23
      have n24 : upd s3 28 (nI (tb x3)) 24 = nI y2 := n24
      refine x_if_ne c_Md_readSearch_47 (fun _ => ?_) (fun h => absurd h (by decide))
      refine x_al c_Md_readSearch_52 rfl ?_
      refine x_al c_Md_readSearch_53 rfl ?_
      refine x_get c_Md_readSearch_54 (by first | rfl | exact hc3.1 | exact k1 | exact rfl) rfl ?_
      refine x_al c_Md_readSearch_57 rfl ?_
      refine x_getE c_Md_readSearch_58 (by first | rfl | exact hc3.1 | exact k1 | exact rfl) rfl (by first | exact b3 | exact d3 | exact c19 | exact d3' | exact c19' | rfl) ?_
      refine x_ialdN c_Md_readSearch_61 (by first | rfl | exact hc3.1 | exact k1 | exact rfl) (by omega) (by omega) ?_
      refine x_putM c_Md_readSearch_62 (by first | rfl | exact hc3.1 | exact k1 | exact rfl) ⟨by decide, rfl, rfl⟩ rfl ?_
      refine x_al c_Md_readSearch_65 rfl ?_
      refine x_al c_Md_readSearch_66 rfl ?_
      refine x_getE c_Md_readSearch_67 (by first | rfl | exact hc3.1 | exact k1 | exact rfl) rfl (by first | exact b3 | exact d3 | exact c19 | exact d3' | exact c19' | rfl) ?_
      refine x_al c_Md_readSearch_70 rfl ?_
      refine x_getE c_Md_readSearch_71 (by first | rfl | exact hc3.1 | exact k1 | exact rfl) rfl (by first | exact b3 | exact d3 | exact c19 | exact d3' | exact c19' | rfl) ?_
      refine x_ci c_Md_readSearch_74 ?_
      refine x_cv3z _ c_Md_readSearch_75 (by first | rfl | exact hc3.1 | exact k1 | exact rfl) (Nat.le_of_ble_eq_true rfl) (y_Md_chosen (d + 1) mz.1 (by exact k1) htb (p := y3) (e := e) (by omega) he (m := 3) (by omega)) ?_
      rintro v μ4 ⟨s4, hc4, ⟨x4, y4, r4, rfl, a4, b4, d4⟩ | ⟨r4, rfl⟩⟩
      · show kc_X _ _ _ _ _ [.int (bI true)] _ _
        have mz := mz.C hc4
        have k1 := (mz.2.2.1 137 (by decide)).trans h1
        have c19 := (mz.2.1 19 (by decide)).trans hs19
        obtain ⟨r4', l4, _⟩ := cl_in r4
        have i4 := tl_in r4'
        have n23 := (hc4.2.1 23 (by decide)).trans n23
        have n24 := (hc4.2.1 24 (by decide)).trans n24
        have n28 := (hc4.2.1 28 (by decide)).trans n28
        refine x_if_eq c_Md_readSearch_78 (fun h => absurd h (by decide)) (fun _ => ?_)
        refine x_al c_Md_readSearch_81 rfl ?_
        refine x_al c_Md_readSearch_82 rfl ?_
        refine x_getE c_Md_readSearch_83 (by first | rfl | exact hc4.1) rfl (by first | exact b4 | exact d4 | exact c19 | rfl) ?_
        refine x_al c_Md_readSearch_86 rfl ?_
        refine x_getE c_Md_readSearch_87 (by first | rfl | exact hc4.1) rfl (by first | exact b4 | exact d4 | exact c19 | rfl) ?_
        refine x_cv2z _ c_Md_readSearch_90 (by first | rfl | exact hc4.1) (Nat.le_of_ble_eq_true rfl) (y_Md_numbered (d + 1) mz.1 k1 htb (p := y4) (e := e) (by omega) he) ?_
        rintro v μ5 ⟨s5, hc5, ⟨x5, y5, r5, rfl, a5, b5, d5⟩ | ⟨r5, rfl⟩⟩
        · show kc_X _ _ _ _ _ [.int (bI true)] _ _
          have mz := mz.C hc5
          have k1 := (mz.2.2.1 137 (by decide)).trans h1
          have c19 := (mz.2.1 19 (by decide)).trans hs19
          obtain ⟨r5', l5⟩ := nl_in r5
          have i5 := tl_in r5'
          have n23 := (hc5.2.1 23 (by decide)).trans n23
          have n24 := (hc5.2.1 24 (by decide)).trans n24
          have n28 := (hc5.2.1 28 (by decide)).trans n28
          have mz' := (mz).p (k := 29) (by decide) (by decide) (v := nuS tb x5 y5)
          have c19' : upd s5 29 (nuS tb x5 y5) 19 = nI e := c19
          have d5' : upd s5 29 (nuS tb x5 y5) 15 = nI y5 := d5
          have n29 : upd s5 29 (nuS tb x5 y5) 29 = nuS tb x5 y5 := rfl
          have n28' : upd s5 29 (nuS tb x5 y5) 28 = nI (tb x3) := n28
          have n23' : upd s5 29 (nuS tb x5 y5) 23 = nI x2 := n23
          have n24' : upd s5 29 (nuS tb x5 y5) 24 = nI y2 := n24
          refine x_if_ne c_Md_readSearch_93 (fun _ => ?_) (fun h => absurd h (by decide))
          refine x_al c_Md_readSearch_98 rfl ?_
          refine x_al c_Md_readSearch_99 rfl ?_
          refine x_cv0z _ c_Md_readSearch_100 (by first | rfl | exact hc5.1 | exact rfl) (Nat.le_of_ble_eq_true rfl) (y_Md_number (d + 3) mz.1 k1 htb b5 d5 l5 (by omega)) ?_
          rintro _ μx ⟨rfl, hμx⟩
          have hμx := hμx.symm
          subst hμx
          show kc_X _ _ _ _ _ [.int (nuS tb x5 y5), .ref 136] _ _
          refine x_putM c_Md_readSearch_103 (by first | rfl | exact hc5.1 | exact rfl) ⟨by decide, rfl, rfl⟩ rfl ?_
          refine x_al c_Md_readSearch_106 rfl ?_
          refine x_getE c_Md_readSearch_107 (by first | rfl | exact hc5.1 | exact rfl) rfl (by first | exact b5 | exact d5' | exact c19' | exact n29 | exact d5 | rfl) ?_
          refine x_if_lt c_Md_readSearch_110 (fun h110 => ?_) (fun h110 => ?_)
          · refine x_ci c_Md_readSearch_157 ?_
            refine x_rz c_Md_readSearch_158 (by first | decide | exact kz_n _) ?_
            exact ⟨_, wf, af, tf, vf, (mz').Z, fmA_k hA (fun q q1 q2 => (mz').2.2.1 q (by omega)), ⟨_, ((mz').2.2.1 157 (by decide)).trans m1⟩, ⟨_, ((mz').2.2.1 158 (by decide)).trans m2⟩, Or.inr ⟨by unfold seS; rw [r2]; dsimp only; rw [show qrS tb y2 e = none by unfold qrS; rw [r3]; dsimp only; rw [r4]; dsimp only; rw [r5]; dsimp only; rw [if_pos h110]], rfl⟩⟩
          · refine x_al c_Md_readSearch_113 rfl ?_
            refine x_al c_Md_readSearch_114 rfl ?_
            refine x_getE c_Md_readSearch_115 (by first | rfl | exact hc5.1 | exact rfl) rfl (by first | exact b5 | exact d5' | exact c19' | exact n29 | exact d5 | rfl) ?_
            refine x_al c_Md_readSearch_118 rfl ?_
            refine x_getE c_Md_readSearch_119 (by first | rfl | exact hc5.1 | exact rfl) rfl (by first | exact b5 | exact d5' | exact c19' | exact n29 | exact d5 | rfl) ?_
            refine x_cv2z _ c_Md_readSearch_122 (by first | rfl | exact hc5.1 | exact rfl) (Nat.le_of_ble_eq_true rfl) (y_Md_numbered (d + 1) mz'.1 (by exact k1) htb (p := y5) (e := e) (by omega) he) ?_
            rintro v μ6 ⟨s6, hc6, ⟨x6, y6, r6, rfl, a6, b6, d6⟩ | ⟨r6, rfl⟩⟩
            · show kc_X _ _ _ _ _ [.int (bI true)] _ _
              have mz := mz'.C hc6
              have k1 := (mz.2.2.1 137 (by decide)).trans h1
              have c19 := (mz.2.1 19 (by decide)).trans hs19
              obtain ⟨r6', l6⟩ := nl_in r6
              have i6 := tl_in r6'
              have n23 := (hc6.2.1 23 (by decide)).trans n23'
              have n24 := (hc6.2.1 24 (by decide)).trans n24'
              have n28 := (hc6.2.1 28 (by decide)).trans n28'
              have n29 := (hc6.2.1 29 (by decide)).trans n29
              refine x_if_eq c_Md_readSearch_125 (fun h => absurd h (by decide)) (fun _ => ?_)
              refine x_al c_Md_readSearch_128 rfl ?_
              refine x_al c_Md_readSearch_129 rfl ?_
              refine x_getE c_Md_readSearch_130 (by first | rfl | exact hc6.1) rfl (by first | exact b6 | exact d6 | exact c19 | rfl) ?_
              refine x_al c_Md_readSearch_133 rfl ?_
              refine x_getE c_Md_readSearch_134 (by first | rfl | exact hc6.1) rfl (by first | exact b6 | exact d6 | exact c19 | rfl) ?_
              refine x_ci c_Md_readSearch_137 ?_
              refine x_cv3z _ c_Md_readSearch_138 (by first | rfl | exact hc6.1) (Nat.le_of_ble_eq_true rfl) (y_Md_tagged (d + 2) mz.1 k1 htb (p := y6) (e := e) (by omega) he (t := 1) (by omega)) ?_
              rintro v μ7 ⟨s7, hc7, ⟨x7, y7, r7, rfl, a7, b7, d7⟩ | ⟨r7, rfl⟩⟩
              · show kc_X _ _ _ _ _ [.int (bI true)] _ _
                have mz := mz.C hc7
                have k1 := (mz.2.2.1 137 (by decide)).trans h1
                have c19 := (mz.2.1 19 (by decide)).trans hs19
                have i7 := tl_in r7
                have n23 := (hc7.2.1 23 (by decide)).trans n23
                have n24 := (hc7.2.1 24 (by decide)).trans n24
                have n28 := (hc7.2.1 28 (by decide)).trans n28
                have n29 := (hc7.2.1 29 (by decide)).trans n29
                have h256 := htb x7
                refine x_if_eq c_Md_readSearch_141 (fun h => absurd h (by decide)) (fun _ => ?_)
                refine x_al c_Md_readSearch_144 rfl ?_
                refine x_getE c_Md_readSearch_145 (by first | rfl | exact hc7.1 | exact k1) rfl (by first | exact b7 | exact d7 | exact c19 | rfl) ?_
                refine x_al c_Md_readSearch_148 rfl ?_
                refine x_getE c_Md_readSearch_149 (by first | rfl | exact hc7.1 | exact k1) rfl (by first | exact b7 | exact d7 | exact c19 | rfl) ?_
                first | refine x_isubN c_Md_readSearch_152 (by omega) ?_ | refine x_isub c_Md_readSearch_152 ?_
                refine x_ci c_Md_readSearch_153 ?_
                refine x_cmN_eq c_Md_readSearch_154 (by omega) (by omega) (fun h154 => ?_) (fun h154 => ?_)
                · refine x_al c_Md_readSearch_159 rfl ?_
                  refine x_al c_Md_readSearch_160 rfl ?_
                  refine x_get c_Md_readSearch_161 (by first | rfl | exact hc7.1 | exact k1) rfl ?_
                  refine x_al c_Md_readSearch_164 rfl ?_
                  refine x_getE c_Md_readSearch_165 (by first | rfl | exact hc7.1 | exact k1) rfl (by first | exact b7 | exact d7 | exact c19 | rfl) ?_
                  refine x_ialdN c_Md_readSearch_168 (by first | rfl | exact hc7.1 | exact k1) (by omega) (by omega) ?_
                  refine x_ifN_eq c_Md_readSearch_169 (by omega) (fun h169 => ?_) (fun h169 => ?_)
                  · refine x_ci c_Md_readSearch_176 ?_
                    refine x_putM c_Md_readSearch_177 (by first | rfl | exact hc7.1 | exact k1) ⟨by decide, by first | decide | exact kz_n _, by first | decide | exact kz_f _⟩ rfl ?_
                    first | exact rest x2 y2 (tb x3) (nuS tb x5 y5) true y7 _ _ r2 (by unfold qrS; rw [r3]; dsimp only; rw [r4]; dsimp only; rw [r5]; dsimp only; rw [if_neg h110, r6]; dsimp only; rw [r7]; dsimp only; rw [if_pos h154]; rw [decide_eq_false h169]; rfl) i2.2.1 i2.2.2 (by omega) (by omega) ((mz).p (k := 30) (by decide) (by decide)) n23 n24 n28 n29 rfl d7 _ | exact rest x2 y2 (tb x3) (nuS tb x5 y5) false y7 _ _ r2 (by unfold qrS; rw [r3]; dsimp only; rw [r4]; dsimp only; rw [r5]; dsimp only; rw [if_neg h110, r6]; dsimp only; rw [r7]; dsimp only; rw [if_pos h154]; rw [decide_eq_true h169]; rfl) i2.2.1 i2.2.2 (by omega) (by omega) ((mz).p (k := 30) (by decide) (by decide)) n23 n24 n28 n29 rfl d7 _
                  · refine x_ci c_Md_readSearch_172 ?_
                    refine x_goto c_Md_readSearch_173 ?_
                    refine x_putM c_Md_readSearch_177 (by first | rfl | exact hc7.1 | exact k1) ⟨by decide, by first | decide | exact kz_n _, by first | decide | exact kz_f _⟩ rfl ?_
                    first | exact rest x2 y2 (tb x3) (nuS tb x5 y5) true y7 _ _ r2 (by unfold qrS; rw [r3]; dsimp only; rw [r4]; dsimp only; rw [r5]; dsimp only; rw [if_neg h110, r6]; dsimp only; rw [r7]; dsimp only; rw [if_pos h154]; rw [decide_eq_false h169]; rfl) i2.2.1 i2.2.2 (by omega) (by omega) ((mz).p (k := 30) (by decide) (by decide)) n23 n24 n28 n29 rfl d7 _ | exact rest x2 y2 (tb x3) (nuS tb x5 y5) false y7 _ _ r2 (by unfold qrS; rw [r3]; dsimp only; rw [r4]; dsimp only; rw [r5]; dsimp only; rw [if_neg h110, r6]; dsimp only; rw [r7]; dsimp only; rw [if_pos h154]; rw [decide_eq_true h169]; rfl) i2.2.1 i2.2.2 (by omega) (by omega) ((mz).p (k := 30) (by decide) (by decide)) n23 n24 n28 n29 rfl d7 _
                · refine x_ci c_Md_readSearch_157 ?_
                  refine x_rz c_Md_readSearch_158 (by first | decide | exact kz_n _) ?_
                  exact ⟨_, wf, af, tf, vf, (mz).Z, fmA_k hA (fun q q1 q2 => (mz).2.2.1 q (by omega)), ⟨_, ((mz).2.2.1 157 (by decide)).trans m1⟩, ⟨_, ((mz).2.2.1 158 (by decide)).trans m2⟩, Or.inr ⟨by unfold seS; rw [r2]; dsimp only; rw [show qrS tb y2 e = none by unfold qrS; rw [r3]; dsimp only; rw [r4]; dsimp only; rw [r5]; dsimp only; rw [if_neg h110, r6]; dsimp only; rw [r7]; dsimp only; rw [if_neg h154]], rfl⟩⟩
              · show kc_X _ _ _ _ _ [.int (bI false)] _ _
                have mz := mz.C hc7
                refine x_if_eq c_Md_readSearch_141 (fun _ => ?_) (fun h => absurd (rfl) h)
                refine x_ci c_Md_readSearch_157 ?_
                refine x_rz c_Md_readSearch_158 (by first | decide | exact kz_n _) ?_
                exact ⟨_, wf, af, tf, vf, (mz).Z, fmA_k hA (fun q q1 q2 => (mz).2.2.1 q (by omega)), ⟨_, ((mz).2.2.1 157 (by decide)).trans m1⟩, ⟨_, ((mz).2.2.1 158 (by decide)).trans m2⟩, Or.inr ⟨by unfold seS; rw [r2]; dsimp only; rw [show qrS tb y2 e = none by unfold qrS; rw [r3]; dsimp only; rw [r4]; dsimp only; rw [r5]; dsimp only; rw [if_neg h110, r6]; dsimp only; rw [r7]], rfl⟩⟩
            · show kc_X _ _ _ _ _ [.int (bI false)] _ _
              refine x_if_eq c_Md_readSearch_125 (fun _ => ?_) (fun h => absurd (rfl) h)
              refine x_ci c_Md_readSearch_157 ?_
              refine x_rz c_Md_readSearch_158 (by first | decide | exact kz_n _) ?_
              exact ⟨_, wf, af, tf, vf, (mz'.C hc6).Z, fmA_k hA (fun q q1 q2 => (mz'.C hc6).2.2.1 q (by omega)), ⟨_, ((mz'.C hc6).2.2.1 157 (by decide)).trans m1⟩, ⟨_, ((mz'.C hc6).2.2.1 158 (by decide)).trans m2⟩, Or.inr ⟨by unfold seS; rw [r2]; dsimp only; rw [show qrS tb y2 e = none by unfold qrS; rw [r3]; dsimp only; rw [r4]; dsimp only; rw [r5]; dsimp only; rw [if_neg h110, r6]], rfl⟩⟩
        · show kc_X _ _ _ _ _ [.int (bI false)] _ _
          have mz := mz.C hc5
          refine x_if_ne c_Md_readSearch_93 (fun h => absurd (rfl) h) (fun _ => ?_)
          refine x_ci c_Md_readSearch_96 ?_
          refine x_rz c_Md_readSearch_97 (by first | decide | exact kz_n _) ?_
          exact ⟨_, wf, af, tf, vf, (mz).Z, fmA_k hA (fun q q1 q2 => (mz).2.2.1 q (by omega)), ⟨_, ((mz).2.2.1 157 (by decide)).trans m1⟩, ⟨_, ((mz).2.2.1 158 (by decide)).trans m2⟩, Or.inr ⟨by unfold seS; rw [r2]; dsimp only; rw [show qrS tb y2 e = none by unfold qrS; rw [r3]; dsimp only; rw [r4]; dsimp only; rw [r5]], rfl⟩⟩
      · show kc_X _ _ _ _ _ [.int (bI false)] _ _
        have mz := mz.C hc4
        refine x_if_eq c_Md_readSearch_78 (fun _ => ?_) (fun h => absurd (rfl) h)
        refine x_ci c_Md_readSearch_96 ?_
        refine x_rz c_Md_readSearch_97 (by first | decide | exact kz_n _) ?_
        exact ⟨_, wf, af, tf, vf, (mz).Z, fmA_k hA (fun q q1 q2 => (mz).2.2.1 q (by omega)), ⟨_, ((mz).2.2.1 157 (by decide)).trans m1⟩, ⟨_, ((mz).2.2.1 158 (by decide)).trans m2⟩, Or.inr ⟨by unfold seS; rw [r2]; dsimp only; rw [show qrS tb y2 e = none by unfold qrS; rw [r3]; dsimp only; rw [r4]], rfl⟩⟩
    · show kc_X _ _ _ _ _ [.int (bI false)] _ _
      have mz := mz.C hc3
      refine x_if_ne c_Md_readSearch_47 (fun h => absurd (rfl) h) (fun _ => ?_)
      refine x_ci c_Md_readSearch_50 ?_
      refine x_rz c_Md_readSearch_51 (by first | decide | exact kz_n _) ?_
      exact ⟨_, wf, af, tf, vf, (mz).Z, fmA_k hA (fun q q1 q2 => (mz).2.2.1 q (by omega)), ⟨_, ((mz).2.2.1 157 (by decide)).trans m1⟩, ⟨_, ((mz).2.2.1 158 (by decide)).trans m2⟩, Or.inr ⟨by unfold seS; rw [r2]; dsimp only; rw [show qrS tb y2 e = none by unfold qrS; rw [r3]], rfl⟩⟩
  · show kc_X _ _ _ _ _ [.int (bI false)] _ _
    have mz := mz.C hc2
    refine x_if_ne c_Md_readSearch_13 (fun h => absurd (rfl) h) (fun _ => ?_)
    refine x_ci c_Md_readSearch_16 ?_
    refine x_rz c_Md_readSearch_17 (by first | decide | exact kz_n _) ?_
    exact ⟨_, wf, af, tf, vf, (mz).Z, fmA_k hA (fun q q1 q2 => (mz).2.2.1 q (by omega)), ⟨_, ((mz).2.2.1 157 (by decide)).trans m1⟩, ⟨_, ((mz).2.2.1 158 (by decide)).trans m2⟩, Or.inr ⟨by unfold seS; rw [r2], rfl⟩⟩
