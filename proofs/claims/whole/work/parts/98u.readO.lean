/-! the reference handles a message -/
def rdK (μ μ' : kc_M) (s s' : Nat → Int32) : Prop := μ'.1 136 = some (ce_Md s') ∧ (∀ i, i ∈ [0, 1, 5, 6, 16, 17, 18, 19, 20] → s' i = s i) ∧ (∀ q, q ≠ 136 → q < 147 ∨ 158 < q → μ'.1 q = μ.1 q) ∧ ms_at μ'
theorem mN_any {μ : kc_M} {s : Nat → Int32} {k : Nat} (hk : k ≤ 4) (h20 : s 20 = nI k) (m1 : ∃ f, μ.1 145 = some (ce_I 4 f)) (m2 : ∃ f, μ.1 146 = some (ce_L 4 f)) : ∃ l, mN μ s l := by
  obtain ⟨f, hf⟩ := m1
  obtain ⟨g, hg⟩ := m2
  have hl : ((List.range k).map (fun i => (f i, g i))).length = k := by rw [List.length_map, List.length_range]
  refine ⟨(List.range k).map (fun i => (f i, g i)), by rw [hl]; exact h20, by rw [hl]; exact hk, f, g, hf, hg, fun j hj => ?_⟩
  rw [hl] at hj
  rw [List.getElem?_map, List.getElem?_range hj]; rfl
/-- where the reference stands, its message taken apart -/
def rB (μ μ1 : kc_M) (s1 : Nat → Int32) (tb : Nat → Nat) (so : Bool) (n : Nat) (nm pr : Nat → List tv) (k op c sz : Nat) : Prop :=
  μ1.1 136 = some (ce_Md s1) ∧ s1 0 = bI false ∧ s1 1 = bI so ∧ s1 6 = nI n ∧ s1 16 = nI k ∧ s1 17 = nI op ∧ s1 18 = nI c ∧ s1 19 = nI sz ∧ (∃ ou, mE μ1 tb ou n nm pr) ∧ oL μ1 s1 [] ∧ ms_at μ1 ∧ (∃ l, mN μ1 s1 l) ∧ ∀ q, q < 136 → μ1.1 q = μ.1 q
theorem rB_k {μ μ1 μ2 : kc_M} {s1 s2 : Nat → Int32} {tb : Nat → Nat} {so : Bool} {n : Nat} {nm pr : Nat → List tv} {k op c sz : Nat} (h : rB μ μ1 s1 tb so n nm pr k op c sz) (h2 : rdK μ1 μ2 s1 s2) : rB μ μ2 s2 tb so n nm pr k op c sz := by
  obtain ⟨a0, a1, a2, a3, a4, a5, a6, a7, ⟨ou, a8⟩, ⟨b1, b2, ou', b3, b4⟩, a10, ⟨l, a11⟩, a12⟩ := h
  obtain ⟨c1, c2, c3, c4⟩ := h2
  exact ⟨c1, (c2 0 (by decide)).trans a1, (c2 1 (by decide)).trans a2, (c2 6 (by decide)).trans a3, (c2 16 (by decide)).trans a4, (c2 17 (by decide)).trans a5, (c2 18 (by decide)).trans a6, (c2 19 (by decide)).trans a7, ⟨ou, mE_k a8 (fun q q1 q2 => c3 q (by omega) (by omega))⟩, ⟨(c2 5 (by decide)).trans b1, b2, ou', (c3 138 (by decide) (by decide)).trans b3, b4⟩, c4, ⟨l, mN_k a11 (c2 20 (by decide)) (c3 145 (by decide) (by decide)) (c3 146 (by decide) (by decide))⟩, fun q q1 => (c3 q (by omega) (by omega)).trans (a12 q q1)⟩
theorem rB_ms {μ μ' : kc_M} (h : ms_at μ) (hk : ∀ q, q ≠ 136 → q < 147 ∨ 158 < q → μ'.1 q = μ.1 q) (h1 : (∃ f, μ'.1 147 = some (ce_I 12 f)) ∧ (∃ f, μ'.1 148 = some (ce_I 12 f)) ∧ (∃ f, μ'.1 149 = some (ce_I 12 f)) ∧ (∃ f, μ'.1 150 = some (ce_I 12 f)) ∧ (∃ f, μ'.1 151 = some (ce_L 24 f))) (h2 : (∃ f, μ'.1 152 = some (ce_I 20 f)) ∧ (∃ f, μ'.1 153 = some (ce_I 20 f)) ∧ (∃ f, μ'.1 154 = some (ce_I 20 f)) ∧ (∃ f, μ'.1 155 = some (ce_L 20 f)) ∧ (∃ f, μ'.1 156 = some (ce_I 20 f)) ∧ (∃ f, μ'.1 157 = some (ce_I 6 f)) ∧ (∃ f, μ'.1 158 = some (ce_I 6 f))) : ms_at μ' := by
  obtain ⟨⟨f1, g1⟩, ⟨f2, g2⟩, _, _, _, _, _, _, _, _, _, _, _, _, ⟨f15, g15⟩, ⟨f16, g16⟩⟩ := h
  exact ⟨⟨f1, (hk 145 (by decide) (by decide)).trans g1⟩, ⟨f2, (hk 146 (by decide) (by decide)).trans g2⟩, h1.1, h1.2.1, h1.2.2.1, h1.2.2.2.1, h1.2.2.2.2, h2.1, h2.2.1, h2.2.2.1, h2.2.2.2.1, h2.2.2.2.2.1, h2.2.2.2.2.2.1, h2.2.2.2.2.2.2, ⟨f15, (hk 159 (by decide) (by decide)).trans g15⟩, ⟨f16, (hk 160 (by decide) (by decide)).trans g16⟩⟩
theorem ms_a {μ μ' : kc_M} (h : ms_at μ) (hk : ∀ q, 147 ≤ q → q ≤ 151 → μ'.1 q = μ.1 q) : (∃ f, μ'.1 147 = some (ce_I 12 f)) ∧ (∃ f, μ'.1 148 = some (ce_I 12 f)) ∧ (∃ f, μ'.1 149 = some (ce_I 12 f)) ∧ (∃ f, μ'.1 150 = some (ce_I 12 f)) ∧ (∃ f, μ'.1 151 = some (ce_L 24 f)) := by
  obtain ⟨_, _, ⟨f3, g3⟩, ⟨f4, g4⟩, ⟨f5, g5⟩, ⟨f6, g6⟩, ⟨f7, g7⟩, _⟩ := h
  exact ⟨⟨f3, (hk _ (by omega) (by omega)).trans g3⟩, ⟨f4, (hk _ (by omega) (by omega)).trans g4⟩, ⟨f5, (hk _ (by omega) (by omega)).trans g5⟩, ⟨f6, (hk _ (by omega) (by omega)).trans g6⟩, ⟨f7, (hk _ (by omega) (by omega)).trans g7⟩⟩
theorem ms_f {μ μ' : kc_M} (h : ms_at μ) (hk : ∀ q, 152 ≤ q → q ≤ 158 → μ'.1 q = μ.1 q) : (∃ f, μ'.1 152 = some (ce_I 20 f)) ∧ (∃ f, μ'.1 153 = some (ce_I 20 f)) ∧ (∃ f, μ'.1 154 = some (ce_I 20 f)) ∧ (∃ f, μ'.1 155 = some (ce_L 20 f)) ∧ (∃ f, μ'.1 156 = some (ce_I 20 f)) ∧ (∃ f, μ'.1 157 = some (ce_I 6 f)) ∧ (∃ f, μ'.1 158 = some (ce_I 6 f)) := by
  obtain ⟨_, _, _, _, _, _, _, ⟨f3, g3⟩, ⟨f4, g4⟩, ⟨f5, g5⟩, ⟨f6, g6⟩, ⟨f7, g7⟩, ⟨f8, g8⟩, ⟨f9, g9⟩, _⟩ := h
  exact ⟨⟨f3, (hk _ (by omega) (by omega)).trans g3⟩, ⟨f4, (hk _ (by omega) (by omega)).trans g4⟩, ⟨f5, (hk _ (by omega) (by omega)).trans g5⟩, ⟨f6, (hk _ (by omega) (by omega)).trans g6⟩, ⟨f7, (hk _ (by omega) (by omega)).trans g7⟩, ⟨f8, (hk _ (by omega) (by omega)).trans g8⟩, ⟨f9, (hk _ (by omega) (by omega)).trans g9⟩⟩
/-- the six fields that are cleared first -/
def s6 (s : Nat → Int32) : Nat → Int32 := upd (upd (upd (upd (upd (upd s 33 (nI 0)) 38 (nI 0)) 40 (nI 0)) 46 (nI 0)) 31 (nI 0)) 32 (nI 0)
theorem s6_k (s : Nat → Int32) : ∀ i, i ∈ [0, 1, 5, 6, 16, 17, 18, 19, 20] → s6 s i = s i := by
  intro i hi
  simp only [List.mem_cons, List.not_mem_nil, or_false] at hi
  rcases hi with rfl | rfl | rfl | rfl | rfl | rfl | rfl | rfl | rfl <;> rfl
set_option maxRecDepth 100000 in
set_option maxHeartbeats 4000000 in
theorem y_Md_readOp96 (d : Nat) {μ : kc_M} {s : Nat → Int32} {tb : Nat → Nat} (h0 : μ.1 136 = some (ce_Md s)) (h1 : μ.1 137 = some (ce_I 200 (fun j => nI (tb j)))) (htb : ∀ j, tb j < 256) (hms : ms_at μ) {c e : Nat} (hs18 : s 18 = nI c) (hs19 : s 19 = nI e) (hce : c ≤ e) (he : e ≤ 200) (h17 : s 17 = nI 96) : kc_Y kt kC (d + 6) j_Md_readOperation [.ref 136] μ (fun v μ' => ∃ s', rdK μ μ' s s' ∧ ((∃ u x2 y2 x3 y3, sgP tb c e = some (u, x2, y2, x3, y3) ∧ v = some (.int (bI true)) ∧ s' 25 = u ∧ s' 23 = nI x2 ∧ s' 24 = nI y2 ∧ s' 26 = nI x3 ∧ s' 27 = nI y3 ∧ x2 ≤ y2 ∧ y2 ≤ e ∧ x3 ≤ y3 ∧ y3 ≤ e) ∨ (sgP tb c e = none ∧ v = some (.int (bI false))))) := by
  refine ⟨Nat.le_of_ble_eq_true rfl, ?_⟩
  have go : ∀ (μ6 : kc_M), μ6.1 136 = some (ce_Md (s6 s)) → (∀ q, q ≠ 136 → μ6.1 q = μ.1 q) → kc_X (kC j_Md_readOperation) (kc_Y kt kC (d + 5)) (fun v μ' => ∃ s', rdK μ μ' s s' ∧ ((∃ u x2 y2 x3 y3, sgP tb c e = some (u, x2, y2, x3, y3) ∧ v = some (.int (bI true)) ∧ s' 25 = u ∧ s' 23 = nI x2 ∧ s' 24 = nI y2 ∧ s' 26 = nI x3 ∧ s' 27 = nI y3 ∧ x2 ≤ y2 ∧ y2 ≤ e ∧ x3 ≤ y3 ∧ y3 ≤ e) ∨ (sgP tb c e = none ∧ v = some (.int (bI false))))) 30 [some (.ref 136)] [] μ6 (0, 0) := by
    intro μ6 k0 kf
    have k1 := (kf 137 (by decide)).trans h1
    have e17 : s6 s 17 = nI 96 := h17
    have e18 : s6 s 18 = nI c := hs18
    have e19 : s6 s 19 = nI e := hs19
    refine x_al c_Md_readOperation_30 rfl ?_
    refine x_getE c_Md_readOperation_31 (by first | rfl | exact k0) rfl (by first | exact e17 | rfl) ?_
    refine x_sw 84 c_Md_readOperation_34 (rfl) ?_
    refine x_al c_Md_readOperation_84 rfl ?_
    refine x_cv0z _ c_Md_readOperation_85 (by first | rfl | exact k0) (Nat.le_of_ble_eq_true rfl) (y_Md_readSign (d + 1) k0 k1 htb e18 e19 hce he) ?_
    rintro w μ2 ⟨s2, hm, hor⟩
    have hK : rdK μ μ2 s s2 := ⟨hm.1, fun i hi => (hm.2.1 i (by revert i; decide)).trans (s6_k s i hi), fun q q1 q2 => (hm.2.2 q q1).trans (kf q q1), rB_ms hms (fun q q1 q2 => (hm.2.2 q q1).trans (kf q q1)) (ms_a hms (fun q q1 q2 => (hm.2.2 q (by omega)).trans (kf q (by omega)))) (ms_f hms (fun q q1 q2 => (hm.2.2 q (by omega)).trans (kf q (by omega))))⟩
    rcases hor with ⟨u, x2, y2, x3, y3, r1, rfl, rest⟩ | ⟨r1, rfl⟩
    · show kc_X _ _ _ _ _ [.int (bI true)] _ _
      refine x_rz c_Md_readOperation_88 (by first | decide | exact kz_n _) ?_
      exact ⟨s2, hK, Or.inl ⟨u, x2, y2, x3, y3, r1, rfl, rest⟩⟩
    · show kc_X _ _ _ _ _ [.int (bI false)] _ _
      refine x_rz c_Md_readOperation_88 (by first | decide | exact kz_n _) ?_
      exact ⟨s2, hK, Or.inr ⟨r1, rfl⟩⟩
  refine x_al c_Md_readOperation_0 rfl ?_
  refine x_ci c_Md_readOperation_1 ?_
  refine x_putM c_Md_readOperation_2 (by first | rfl | exact h0 | exact rfl) ⟨by decide, rfl, rfl⟩ rfl ?_
  refine x_al c_Md_readOperation_5 rfl ?_
  refine x_ci c_Md_readOperation_6 ?_
  refine x_putM c_Md_readOperation_7 (by first | rfl | exact h0 | exact rfl) ⟨by decide, rfl, rfl⟩ rfl ?_
  refine x_al c_Md_readOperation_10 rfl ?_
  refine x_ci c_Md_readOperation_11 ?_
  refine x_putM c_Md_readOperation_12 (by first | rfl | exact h0 | exact rfl) ⟨by decide, rfl, rfl⟩ rfl ?_
  refine x_al c_Md_readOperation_15 rfl ?_
  refine x_ci c_Md_readOperation_16 ?_
  refine x_putM c_Md_readOperation_17 (by first | rfl | exact h0 | exact rfl) ⟨by decide, rfl, rfl⟩ rfl ?_
  refine x_al c_Md_readOperation_20 rfl ?_
  refine x_ci c_Md_readOperation_21 ?_
  refine x_putM c_Md_readOperation_22 (by first | rfl | exact h0 | exact rfl) ⟨by decide, rfl, rfl⟩ rfl ?_
  refine x_al c_Md_readOperation_25 rfl ?_
  refine x_ci c_Md_readOperation_26 ?_
  refine x_putM c_Md_readOperation_27 (by first | rfl | exact h0 | exact rfl) ⟨by decide, rfl, rfl⟩ rfl ?_
  exact go _ kc_gs (fun q q1 => (kc_gf q1).trans ((kc_gf q1).trans ((kc_gf q1).trans ((kc_gf q1).trans ((kc_gf q1).trans (kc_gf q1))))))
set_option maxRecDepth 100000 in
set_option maxHeartbeats 4000000 in
theorem y_Md_readOp99 (d : Nat) {μ : kc_M} {s : Nat → Int32} {tb : Nat → Nat} (h0 : μ.1 136 = some (ce_Md s)) (h1 : μ.1 137 = some (ce_I 200 (fun j => nI (tb j)))) (htb : ∀ j, tb j < 256) (hms : ms_at μ) {c e : Nat} (hs18 : s 18 = nI c) (hs19 : s 19 = nI e) (hce : c ≤ e) (he : e ≤ 200) (h17 : s 17 = nI 99) : kc_Y kt kC (d + 6) j_Md_readOperation [.ref 136] μ (fun v μ' => ∃ s' wf' af' tf' vf', rdK μ μ' s s' ∧ fmA μ' wf' af' tf' vf' ∧ ((∃ x2 y2 sc li ta G W, seS tb c e = some (x2, y2, sc, li, ta, G, W) ∧ v = some (.int (bI true)) ∧ s' 23 = nI x2 ∧ s' 24 = nI y2 ∧ x2 ≤ y2 ∧ y2 ≤ e ∧ s' 28 = nI sc ∧ s' 29 = li ∧ s' 30 = bI ta ∧ s' 31 = mkL 0 W ∧ s' 32 = nI W.length ∧ W.length ≤ 12 ∧ s' 40 = nI (fsz G) ∧ enM wf' af' tf' vf' G (-1) 0) ∨ (seS tb c e = none ∧ v = some (.int (bI false))))) := by
  refine ⟨Nat.le_of_ble_eq_true rfl, ?_⟩
  have go : ∀ (μ6 : kc_M), μ6.1 136 = some (ce_Md (s6 s)) → (∀ q, q ≠ 136 → μ6.1 q = μ.1 q) → kc_X (kC j_Md_readOperation) (kc_Y kt kC (d + 5)) (fun v μ' => ∃ s' wf' af' tf' vf', rdK μ μ' s s' ∧ fmA μ' wf' af' tf' vf' ∧ ((∃ x2 y2 sc li ta G W, seS tb c e = some (x2, y2, sc, li, ta, G, W) ∧ v = some (.int (bI true)) ∧ s' 23 = nI x2 ∧ s' 24 = nI y2 ∧ x2 ≤ y2 ∧ y2 ≤ e ∧ s' 28 = nI sc ∧ s' 29 = li ∧ s' 30 = bI ta ∧ s' 31 = mkL 0 W ∧ s' 32 = nI W.length ∧ W.length ≤ 12 ∧ s' 40 = nI (fsz G) ∧ enM wf' af' tf' vf' G (-1) 0) ∨ (seS tb c e = none ∧ v = some (.int (bI false))))) 30 [some (.ref 136)] [] μ6 (0, 0) := by
    intro μ6 k0 kf
    have k1 := (kf 137 (by decide)).trans h1
    have e17 : s6 s 17 = nI 99 := h17
    have e18 : s6 s 18 = nI c := hs18
    have e19 : s6 s 19 = nI e := hs19
    have hms6 := ms_f hms (μ' := μ6) (fun q q1 q2 => kf q (by omega))
    obtain ⟨⟨wf, z1⟩, ⟨af, z2⟩, ⟨tf, z3⟩, ⟨vf, z4⟩, ⟨vr, z5⟩, ⟨oe, z6⟩, ⟨of, z7⟩⟩ := hms6
    refine x_al c_Md_readOperation_30 rfl ?_
    refine x_getE c_Md_readOperation_31 (by first | rfl | exact k0) rfl (by first | exact e17 | rfl) ?_
    refine x_sw 89 c_Md_readOperation_34 (rfl) ?_
    refine x_al c_Md_readOperation_89 rfl ?_
    refine x_cv0z _ c_Md_readOperation_90 (by first | rfl | exact k0) (Nat.le_of_ble_eq_true rfl) (y_Md_readSearch d k0 k1 htb e18 e19 hce he rfl rfl rfl rfl ⟨z1, z2, z3, z4⟩ z6 z7) ?_
    rintro w μ2 ⟨s2, wf2, af2, tf2, vf2, hm, A2, o2, p2, hor⟩
    have hK : rdK μ μ2 s s2 := ⟨hm.1, fun i hi => (hm.2.1 i (by revert i; decide)).trans (s6_k s i hi), fun q q1 q2 => (hm.2.2 q q1 (by omega)).trans (kf q q1), rB_ms hms (fun q q1 q2 => (hm.2.2 q q1 (by omega)).trans (kf q q1)) (ms_a hms (fun q q1 q2 => (hm.2.2 q (by omega) (by omega)).trans (kf q (by omega)))) ⟨⟨_, A2.1⟩, ⟨_, A2.2.1⟩, ⟨_, A2.2.2.1⟩, ⟨_, A2.2.2.2⟩, ⟨vr, (hm.2.2 156 (by decide) (by decide)).trans z5⟩, o2, p2⟩⟩
    rcases hor with ⟨x2, y2, sc, li, ta, G, W, r1, rfl, rest⟩ | ⟨r1, rfl⟩
    · show kc_X _ _ _ _ _ [.int (bI true)] _ _
      refine x_rz c_Md_readOperation_93 (by first | decide | exact kz_n _) ?_
      exact ⟨s2, wf2, af2, tf2, vf2, hK, A2, Or.inl ⟨x2, y2, sc, li, ta, G, W, r1, rfl, rest⟩⟩
    · show kc_X _ _ _ _ _ [.int (bI false)] _ _
      refine x_rz c_Md_readOperation_93 (by first | decide | exact kz_n _) ?_
      exact ⟨s2, wf2, af2, tf2, vf2, hK, A2, Or.inr ⟨r1, rfl⟩⟩
  refine x_al c_Md_readOperation_0 rfl ?_
  refine x_ci c_Md_readOperation_1 ?_
  refine x_putM c_Md_readOperation_2 (by first | rfl | exact h0 | exact rfl) ⟨by decide, rfl, rfl⟩ rfl ?_
  refine x_al c_Md_readOperation_5 rfl ?_
  refine x_ci c_Md_readOperation_6 ?_
  refine x_putM c_Md_readOperation_7 (by first | rfl | exact h0 | exact rfl) ⟨by decide, rfl, rfl⟩ rfl ?_
  refine x_al c_Md_readOperation_10 rfl ?_
  refine x_ci c_Md_readOperation_11 ?_
  refine x_putM c_Md_readOperation_12 (by first | rfl | exact h0 | exact rfl) ⟨by decide, rfl, rfl⟩ rfl ?_
  refine x_al c_Md_readOperation_15 rfl ?_
  refine x_ci c_Md_readOperation_16 ?_
  refine x_putM c_Md_readOperation_17 (by first | rfl | exact h0 | exact rfl) ⟨by decide, rfl, rfl⟩ rfl ?_
  refine x_al c_Md_readOperation_20 rfl ?_
  refine x_ci c_Md_readOperation_21 ?_
  refine x_putM c_Md_readOperation_22 (by first | rfl | exact h0 | exact rfl) ⟨by decide, rfl, rfl⟩ rfl ?_
  refine x_al c_Md_readOperation_25 rfl ?_
  refine x_ci c_Md_readOperation_26 ?_
  refine x_putM c_Md_readOperation_27 (by first | rfl | exact h0 | exact rfl) ⟨by decide, rfl, rfl⟩ rfl ?_
  exact go _ kc_gs (fun q q1 => (kc_gf q1).trans ((kc_gf q1).trans ((kc_gf q1).trans ((kc_gf q1).trans ((kc_gf q1).trans (kc_gf q1))))))
set_option maxRecDepth 100000 in
set_option maxHeartbeats 4000000 in
theorem y_Md_readOp102 (d : Nat) {μ : kc_M} {s : Nat → Int32} {tb : Nat → Nat} (h0 : μ.1 136 = some (ce_Md s)) (h1 : μ.1 137 = some (ce_I 200 (fun j => nI (tb j)))) (htb : ∀ j, tb j < 256) (hms : ms_at μ) {c e : Nat} (hs18 : s 18 = nI c) (hs19 : s 19 = nI e) (hce : c ≤ e) (he : e ≤ 200) (h17 : s 17 = nI 102) : kc_Y kt kC (d + 6) j_Md_readOperation [.ref 136] μ (fun v μ' => ∃ s', rdK μ μ' s s' ∧ ((∃ x2 y2 cs kf' tf' ff' cf' vf', acS tb true c e = some (x2, y2, cs) ∧ v = some (.int (bI true)) ∧ s' 23 = nI x2 ∧ s' 24 = nI y2 ∧ x2 ≤ y2 ∧ y2 ≤ e ∧ s' 33 = nI cs.length ∧ cs.length ≤ 12 ∧ tot cs ≤ 24 ∧ maA μ' kf' tf' ff' cf' vf' ∧ maL true kf' tf' ff' cf' vf' cs 0 0) ∨ (acS tb true c e = none ∧ v = some (.int (bI false))))) := by
  refine ⟨Nat.le_of_ble_eq_true rfl, ?_⟩
  have go : ∀ (μ6 : kc_M), μ6.1 136 = some (ce_Md (s6 s)) → (∀ q, q ≠ 136 → μ6.1 q = μ.1 q) → kc_X (kC j_Md_readOperation) (kc_Y kt kC (d + 5)) (fun v μ' => ∃ s', rdK μ μ' s s' ∧ ((∃ x2 y2 cs kf' tf' ff' cf' vf', acS tb true c e = some (x2, y2, cs) ∧ v = some (.int (bI true)) ∧ s' 23 = nI x2 ∧ s' 24 = nI y2 ∧ x2 ≤ y2 ∧ y2 ≤ e ∧ s' 33 = nI cs.length ∧ cs.length ≤ 12 ∧ tot cs ≤ 24 ∧ maA μ' kf' tf' ff' cf' vf' ∧ maL true kf' tf' ff' cf' vf' cs 0 0) ∨ (acS tb true c e = none ∧ v = some (.int (bI false))))) 30 [some (.ref 136)] [] μ6 (0, 0) := by
    intro μ6 k0 kf
    have k1 := (kf 137 (by decide)).trans h1
    have e17 : s6 s 17 = nI 102 := h17
    have e18 : s6 s 18 = nI c := hs18
    have e19 : s6 s 19 = nI e := hs19
    have hms6 := ms_a hms (μ' := μ6) (fun q q1 q2 => kf q (by omega))
    obtain ⟨⟨f1, z1⟩, ⟨f2, z2⟩, ⟨f3, z3⟩, ⟨f4, z4⟩, ⟨f5, z5⟩⟩ := hms6
    refine x_al c_Md_readOperation_30 rfl ?_
    refine x_getE c_Md_readOperation_31 (by first | rfl | exact k0) rfl (by first | exact e17 | rfl) ?_
    refine x_sw 94 c_Md_readOperation_34 (rfl) ?_
    refine x_al c_Md_readOperation_94 rfl ?_
    refine x_ci c_Md_readOperation_95 ?_
    refine x_cv1z _ c_Md_readOperation_96 (by first | rfl | exact k0) (Nat.le_of_ble_eq_true rfl) (y_Md_readPairs d k0 k1 htb e18 e19 rfl rfl ⟨z1, z2, z3, z4, z5⟩ hce he true) ?_
    rintro w μ2 ⟨s2, hm, ⟨x2, y2, cs, kf', tf', ff', cf', vf', r1, rfl, a1, a2, a3, a4, a5, a6, a7, A2, hL⟩ | ⟨r1, rfl, kf', tf', ff', cf', vf', A2⟩⟩
    · have hK : rdK μ μ2 s s2 := ⟨hm.1, fun i hi => (hm.2.1 i (by revert i; decide)).trans (s6_k s i hi), fun q q1 q2 => (hm.2.2 q q1 (by omega)).trans (kf q q1), rB_ms hms (fun q q1 q2 => (hm.2.2 q q1 (by omega)).trans (kf q q1)) ⟨⟨_, A2.1⟩, ⟨_, A2.2.1⟩, ⟨_, A2.2.2.1⟩, ⟨_, A2.2.2.2.1⟩, ⟨_, A2.2.2.2.2⟩⟩ (ms_f hms (fun q q1 q2 => (hm.2.2 q (by omega) (by omega)).trans (kf q (by omega))))⟩
      show kc_X _ _ _ _ _ [.int (bI true)] _ _
      refine x_rz c_Md_readOperation_99 (by first | decide | exact kz_n _) ?_
      exact ⟨s2, hK, Or.inl ⟨x2, y2, cs, kf', tf', ff', cf', vf', r1, rfl, a1, a2, a3, a4, a5, a6, a7, A2, hL⟩⟩
    · have hK : rdK μ μ2 s s2 := ⟨hm.1, fun i hi => (hm.2.1 i (by revert i; decide)).trans (s6_k s i hi), fun q q1 q2 => (hm.2.2 q q1 (by omega)).trans (kf q q1), rB_ms hms (fun q q1 q2 => (hm.2.2 q q1 (by omega)).trans (kf q q1)) ⟨⟨_, A2.1⟩, ⟨_, A2.2.1⟩, ⟨_, A2.2.2.1⟩, ⟨_, A2.2.2.2.1⟩, ⟨_, A2.2.2.2.2⟩⟩ (ms_f hms (fun q q1 q2 => (hm.2.2 q (by omega) (by omega)).trans (kf q (by omega))))⟩
      show kc_X _ _ _ _ _ [.int (bI false)] _ _
      refine x_rz c_Md_readOperation_99 (by first | decide | exact kz_n _) ?_
      exact ⟨s2, hK, Or.inr ⟨r1, rfl⟩⟩
  refine x_al c_Md_readOperation_0 rfl ?_
  refine x_ci c_Md_readOperation_1 ?_
  refine x_putM c_Md_readOperation_2 (by first | rfl | exact h0 | exact rfl) ⟨by decide, rfl, rfl⟩ rfl ?_
  refine x_al c_Md_readOperation_5 rfl ?_
  refine x_ci c_Md_readOperation_6 ?_
  refine x_putM c_Md_readOperation_7 (by first | rfl | exact h0 | exact rfl) ⟨by decide, rfl, rfl⟩ rfl ?_
  refine x_al c_Md_readOperation_10 rfl ?_
  refine x_ci c_Md_readOperation_11 ?_
  refine x_putM c_Md_readOperation_12 (by first | rfl | exact h0 | exact rfl) ⟨by decide, rfl, rfl⟩ rfl ?_
  refine x_al c_Md_readOperation_15 rfl ?_
  refine x_ci c_Md_readOperation_16 ?_
  refine x_putM c_Md_readOperation_17 (by first | rfl | exact h0 | exact rfl) ⟨by decide, rfl, rfl⟩ rfl ?_
  refine x_al c_Md_readOperation_20 rfl ?_
  refine x_ci c_Md_readOperation_21 ?_
  refine x_putM c_Md_readOperation_22 (by first | rfl | exact h0 | exact rfl) ⟨by decide, rfl, rfl⟩ rfl ?_
  refine x_al c_Md_readOperation_25 rfl ?_
  refine x_ci c_Md_readOperation_26 ?_
  refine x_putM c_Md_readOperation_27 (by first | rfl | exact h0 | exact rfl) ⟨by decide, rfl, rfl⟩ rfl ?_
  exact go _ kc_gs (fun q q1 => (kc_gf q1).trans ((kc_gf q1).trans ((kc_gf q1).trans ((kc_gf q1).trans ((kc_gf q1).trans (kc_gf q1))))))
set_option maxRecDepth 100000 in
set_option maxHeartbeats 4000000 in
theorem y_Md_readOp104 (d : Nat) {μ : kc_M} {s : Nat → Int32} {tb : Nat → Nat} (h0 : μ.1 136 = some (ce_Md s)) (h1 : μ.1 137 = some (ce_I 200 (fun j => nI (tb j)))) (htb : ∀ j, tb j < 256) (hms : ms_at μ) {c e : Nat} (hs18 : s 18 = nI c) (hs19 : s 19 = nI e) (hce : c ≤ e) (he : e ≤ 200) (h17 : s 17 = nI 104) : kc_Y kt kC (d + 6) j_Md_readOperation [.ref 136] μ (fun v μ' => ∃ s', rdK μ μ' s s' ∧ ((∃ x2 y2 cs kf' tf' ff' cf' vf', acS tb false c e = some (x2, y2, cs) ∧ v = some (.int (bI true)) ∧ s' 23 = nI x2 ∧ s' 24 = nI y2 ∧ x2 ≤ y2 ∧ y2 ≤ e ∧ s' 33 = nI cs.length ∧ cs.length ≤ 12 ∧ tot cs ≤ 24 ∧ maA μ' kf' tf' ff' cf' vf' ∧ maL false kf' tf' ff' cf' vf' cs 0 0) ∨ (acS tb false c e = none ∧ v = some (.int (bI false))))) := by
  refine ⟨Nat.le_of_ble_eq_true rfl, ?_⟩
  have go : ∀ (μ6 : kc_M), μ6.1 136 = some (ce_Md (s6 s)) → (∀ q, q ≠ 136 → μ6.1 q = μ.1 q) → kc_X (kC j_Md_readOperation) (kc_Y kt kC (d + 5)) (fun v μ' => ∃ s', rdK μ μ' s s' ∧ ((∃ x2 y2 cs kf' tf' ff' cf' vf', acS tb false c e = some (x2, y2, cs) ∧ v = some (.int (bI true)) ∧ s' 23 = nI x2 ∧ s' 24 = nI y2 ∧ x2 ≤ y2 ∧ y2 ≤ e ∧ s' 33 = nI cs.length ∧ cs.length ≤ 12 ∧ tot cs ≤ 24 ∧ maA μ' kf' tf' ff' cf' vf' ∧ maL false kf' tf' ff' cf' vf' cs 0 0) ∨ (acS tb false c e = none ∧ v = some (.int (bI false))))) 30 [some (.ref 136)] [] μ6 (0, 0) := by
    intro μ6 k0 kf
    have k1 := (kf 137 (by decide)).trans h1
    have e17 : s6 s 17 = nI 104 := h17
    have e18 : s6 s 18 = nI c := hs18
    have e19 : s6 s 19 = nI e := hs19
    have hms6 := ms_a hms (μ' := μ6) (fun q q1 q2 => kf q (by omega))
    obtain ⟨⟨f1, z1⟩, ⟨f2, z2⟩, ⟨f3, z3⟩, ⟨f4, z4⟩, ⟨f5, z5⟩⟩ := hms6
    refine x_al c_Md_readOperation_30 rfl ?_
    refine x_getE c_Md_readOperation_31 (by first | rfl | exact k0) rfl (by first | exact e17 | rfl) ?_
    refine x_sw 100 c_Md_readOperation_34 (rfl) ?_
    refine x_al c_Md_readOperation_100 rfl ?_
    refine x_ci c_Md_readOperation_101 ?_
    refine x_cv1z _ c_Md_readOperation_102 (by first | rfl | exact k0) (Nat.le_of_ble_eq_true rfl) (y_Md_readPairs d k0 k1 htb e18 e19 rfl rfl ⟨z1, z2, z3, z4, z5⟩ hce he false) ?_
    rintro w μ2 ⟨s2, hm, ⟨x2, y2, cs, kf', tf', ff', cf', vf', r1, rfl, a1, a2, a3, a4, a5, a6, a7, A2, hL⟩ | ⟨r1, rfl, kf', tf', ff', cf', vf', A2⟩⟩
    · have hK : rdK μ μ2 s s2 := ⟨hm.1, fun i hi => (hm.2.1 i (by revert i; decide)).trans (s6_k s i hi), fun q q1 q2 => (hm.2.2 q q1 (by omega)).trans (kf q q1), rB_ms hms (fun q q1 q2 => (hm.2.2 q q1 (by omega)).trans (kf q q1)) ⟨⟨_, A2.1⟩, ⟨_, A2.2.1⟩, ⟨_, A2.2.2.1⟩, ⟨_, A2.2.2.2.1⟩, ⟨_, A2.2.2.2.2⟩⟩ (ms_f hms (fun q q1 q2 => (hm.2.2 q (by omega) (by omega)).trans (kf q (by omega))))⟩
      show kc_X _ _ _ _ _ [.int (bI true)] _ _
      refine x_rz c_Md_readOperation_105 (by first | decide | exact kz_n _) ?_
      exact ⟨s2, hK, Or.inl ⟨x2, y2, cs, kf', tf', ff', cf', vf', r1, rfl, a1, a2, a3, a4, a5, a6, a7, A2, hL⟩⟩
    · have hK : rdK μ μ2 s s2 := ⟨hm.1, fun i hi => (hm.2.1 i (by revert i; decide)).trans (s6_k s i hi), fun q q1 q2 => (hm.2.2 q q1 (by omega)).trans (kf q q1), rB_ms hms (fun q q1 q2 => (hm.2.2 q q1 (by omega)).trans (kf q q1)) ⟨⟨_, A2.1⟩, ⟨_, A2.2.1⟩, ⟨_, A2.2.2.1⟩, ⟨_, A2.2.2.2.1⟩, ⟨_, A2.2.2.2.2⟩⟩ (ms_f hms (fun q q1 q2 => (hm.2.2 q (by omega) (by omega)).trans (kf q (by omega))))⟩
      show kc_X _ _ _ _ _ [.int (bI false)] _ _
      refine x_rz c_Md_readOperation_105 (by first | decide | exact kz_n _) ?_
      exact ⟨s2, hK, Or.inr ⟨r1, rfl⟩⟩
  refine x_al c_Md_readOperation_0 rfl ?_
  refine x_ci c_Md_readOperation_1 ?_
  refine x_putM c_Md_readOperation_2 (by first | rfl | exact h0 | exact rfl) ⟨by decide, rfl, rfl⟩ rfl ?_
  refine x_al c_Md_readOperation_5 rfl ?_
  refine x_ci c_Md_readOperation_6 ?_
  refine x_putM c_Md_readOperation_7 (by first | rfl | exact h0 | exact rfl) ⟨by decide, rfl, rfl⟩ rfl ?_
  refine x_al c_Md_readOperation_10 rfl ?_
  refine x_ci c_Md_readOperation_11 ?_
  refine x_putM c_Md_readOperation_12 (by first | rfl | exact h0 | exact rfl) ⟨by decide, rfl, rfl⟩ rfl ?_
  refine x_al c_Md_readOperation_15 rfl ?_
  refine x_ci c_Md_readOperation_16 ?_
  refine x_putM c_Md_readOperation_17 (by first | rfl | exact h0 | exact rfl) ⟨by decide, rfl, rfl⟩ rfl ?_
  refine x_al c_Md_readOperation_20 rfl ?_
  refine x_ci c_Md_readOperation_21 ?_
  refine x_putM c_Md_readOperation_22 (by first | rfl | exact h0 | exact rfl) ⟨by decide, rfl, rfl⟩ rfl ?_
  refine x_al c_Md_readOperation_25 rfl ?_
  refine x_ci c_Md_readOperation_26 ?_
  refine x_putM c_Md_readOperation_27 (by first | rfl | exact h0 | exact rfl) ⟨by decide, rfl, rfl⟩ rfl ?_
  exact go _ kc_gs (fun q q1 => (kc_gf q1).trans ((kc_gf q1).trans ((kc_gf q1).trans ((kc_gf q1).trans ((kc_gf q1).trans (kc_gf q1))))))
set_option maxRecDepth 100000 in
set_option maxHeartbeats 4000000 in
theorem y_Md_readOp74 (d : Nat) {μ : kc_M} {s : Nat → Int32} {tb : Nat → Nat} (h0 : μ.1 136 = some (ce_Md s)) (h1 : μ.1 137 = some (ce_I 200 (fun j => nI (tb j)))) (htb : ∀ j, tb j < 256) (hms : ms_at μ) {c e : Nat} (hs18 : s 18 = nI c) (hs19 : s 19 = nI e) (hce : c ≤ e) (he : e ≤ 200) (h17 : s 17 = nI 74) : kc_Y kt kC (d + 6) j_Md_readOperation [.ref 136] μ (fun v μ' => ∃ s', rdK μ μ' s s' ∧ v = some (.int (bI true)) ∧ s' 23 = nI c ∧ s' 24 = nI e) := by
  refine ⟨Nat.le_of_ble_eq_true rfl, ?_⟩
  have go : ∀ (μ6 : kc_M), μ6.1 136 = some (ce_Md (s6 s)) → (∀ q, q ≠ 136 → μ6.1 q = μ.1 q) → kc_X (kC j_Md_readOperation) (kc_Y kt kC (d + 5)) (fun v μ' => ∃ s', rdK μ μ' s s' ∧ v = some (.int (bI true)) ∧ s' 23 = nI c ∧ s' 24 = nI e) 30 [some (.ref 136)] [] μ6 (0, 0) := by
    intro μ6 k0 kf
    have k1 := (kf 137 (by decide)).trans h1
    have e17 : s6 s 17 = nI 74 := h17
    have e18 : s6 s 18 = nI c := hs18
    have e19 : s6 s 19 = nI e := hs19
    have e19' : upd (s6 s) 23 (nI c) 19 = nI e := e19
    refine x_al c_Md_readOperation_30 rfl ?_
    refine x_getE c_Md_readOperation_31 (by first | rfl | exact k0 | exact rfl) rfl (by first | exact e17 | exact e18 | exact e19' | exact e19 | rfl) ?_
    refine x_sw 106 c_Md_readOperation_34 (rfl) ?_
    refine x_al c_Md_readOperation_106 rfl ?_
    refine x_al c_Md_readOperation_107 rfl ?_
    refine x_getE c_Md_readOperation_108 (by first | rfl | exact k0 | exact rfl) rfl (by first | exact e17 | exact e18 | exact e19' | exact e19 | rfl) ?_
    refine x_putM c_Md_readOperation_111 (by first | rfl | exact k0 | exact rfl) ⟨by decide, rfl, rfl⟩ rfl ?_
    refine x_al c_Md_readOperation_114 rfl ?_
    refine x_al c_Md_readOperation_115 rfl ?_
    refine x_getE c_Md_readOperation_116 (by first | rfl | exact k0 | exact rfl) rfl (by first | exact e17 | exact e18 | exact e19' | exact e19 | rfl) ?_
    refine x_putM c_Md_readOperation_119 (by first | rfl | exact k0 | exact rfl) ⟨by decide, rfl, rfl⟩ rfl ?_
    refine x_ci c_Md_readOperation_122 ?_
    refine x_rz c_Md_readOperation_123 (by first | decide | exact kz_n _) ?_
    have kf2 : ∀ q, q ≠ 136 → (kc_u (kc_u μ6 136 (ce_Md (upd (s6 s) 23 (nI c)))) 136 (ce_Md (upd (upd (s6 s) 23 (nI c)) 24 (nI e)))).1 q = μ.1 q := fun q q1 => (kc_gf q1).trans ((kc_gf q1).trans (kf q q1))
    exact ⟨upd (upd (s6 s) 23 (nI c)) 24 (nI e), ⟨kc_gs, fun i hi => (by have h9 := s6_k s i hi; simp only [List.mem_cons, List.not_mem_nil, or_false] at hi; rcases hi with rfl | rfl | rfl | rfl | rfl | rfl | rfl | rfl | rfl <;> exact h9), fun q q1 _ => kf2 q q1, rB_ms hms (fun q q1 _ => kf2 q q1) (ms_a hms (fun q q1 q2 => kf2 q (by omega))) (ms_f hms (fun q q1 q2 => kf2 q (by omega)))⟩, rfl, rfl, rfl⟩
  refine x_al c_Md_readOperation_0 rfl ?_
  refine x_ci c_Md_readOperation_1 ?_
  refine x_putM c_Md_readOperation_2 (by first | rfl | exact h0 | exact rfl) ⟨by decide, rfl, rfl⟩ rfl ?_
  refine x_al c_Md_readOperation_5 rfl ?_
  refine x_ci c_Md_readOperation_6 ?_
  refine x_putM c_Md_readOperation_7 (by first | rfl | exact h0 | exact rfl) ⟨by decide, rfl, rfl⟩ rfl ?_
  refine x_al c_Md_readOperation_10 rfl ?_
  refine x_ci c_Md_readOperation_11 ?_
  refine x_putM c_Md_readOperation_12 (by first | rfl | exact h0 | exact rfl) ⟨by decide, rfl, rfl⟩ rfl ?_
  refine x_al c_Md_readOperation_15 rfl ?_
  refine x_ci c_Md_readOperation_16 ?_
  refine x_putM c_Md_readOperation_17 (by first | rfl | exact h0 | exact rfl) ⟨by decide, rfl, rfl⟩ rfl ?_
  refine x_al c_Md_readOperation_20 rfl ?_
  refine x_ci c_Md_readOperation_21 ?_
  refine x_putM c_Md_readOperation_22 (by first | rfl | exact h0 | exact rfl) ⟨by decide, rfl, rfl⟩ rfl ?_
  refine x_al c_Md_readOperation_25 rfl ?_
  refine x_ci c_Md_readOperation_26 ?_
  refine x_putM c_Md_readOperation_27 (by first | rfl | exact h0 | exact rfl) ⟨by decide, rfl, rfl⟩ rfl ?_
  exact go _ kc_gs (fun q q1 => (kc_gf q1).trans ((kc_gf q1).trans ((kc_gf q1).trans ((kc_gf q1).trans ((kc_gf q1).trans (kc_gf q1))))))
