/-! the reference reads an attribute -/
def mA (μ μ' : kc_M) (s s' : Nat → Int32) : Prop := μ'.1 136 = some (ce_Md s') ∧ (∀ i, i ∉ [13, 14, 15, 33, 38] → s' i = s i) ∧ (∀ q, q ≠ 136 → q < 148 ∨ 151 < q → μ'.1 q = μ.1 q)
theorem nin5 {i : Nat} (h : i ∉ [13, 14, 15, 33, 38]) : i ∉ [13, 14, 15] ∧ i ∉ [13, 14, 15, 38] ∧ i ≠ 33 := by
  simp only [List.mem_cons, List.not_mem_nil, or_false, not_or] at h ⊢
  omega
theorem mA.re {μ : kc_M} {s : Nat → Int32} (h : μ.1 136 = some (ce_Md s)) : mA μ μ s s := ⟨h, fun _ _ => rfl, fun _ _ _ => rfl⟩
theorem mA.C {μ μ1 μ2 : kc_M} {s s1 s2 : Nat → Int32} (h : mA μ μ1 s s1) (h2 : mdC μ1 μ2 s1 s2 [13, 14, 15]) : mA μ μ2 s s2 := ⟨h2.1, fun i hi => (h2.2.1 i (nin5 hi).1).trans (h.2.1 i hi), fun q q1 q2 => (h2.2.2 q q1).trans (h.2.2 q q1 q2)⟩
theorem mA.V {μ μ1 μ2 : kc_M} {s s1 s2 : Nat → Int32} (h : mA μ μ1 s s1) (h2 : mV μ1 μ2 s1 s2) : mA μ μ2 s s2 := ⟨h2.1, fun i hi => (h2.2.1 i (nin5 hi).2.1).trans (h.2.1 i hi), fun q q1 q2 => (h2.2.2 q q1 (by omega)).trans (h.2.2 q q1 q2)⟩
theorem mA.q {μ μ1 : kc_M} {s s1 : Nat → Int32} {a : Nat} {c : kc_C} (h : mA μ μ1 s s1) (ha : 148 ≤ a ∧ a ≤ 151) : mA μ (kc_u μ1 a c) s s1 := ⟨(kc_gf (by omega)).trans h.1, h.2.1, fun q q1 q2 => (kc_gf (by omega)).trans (h.2.2 q q1 q2)⟩
theorem mA.p {μ μ1 : kc_M} {s s1 : Nat → Int32} {v : Int32} (h : mA μ μ1 s s1) : mA μ (kc_u μ1 136 (ce_Md (upd s1 33 v))) s (upd s1 33 v) := ⟨kc_gs, fun i hi => (if_neg (nin5 hi).2.2).trans (h.2.1 i hi), fun q q1 q2 => (kc_gf q1).trans (h.2.2 q q1 q2)⟩
set_option maxRecDepth 100000 in
set_option maxHeartbeats 4000000 in
theorem y_Md_readAttribute (d : Nat) {μ : kc_M} {s : Nat → Int32} {tb : Nat → Nat} (h0 : μ.1 136 = some (ce_Md s)) (h1 : μ.1 137 = some (ce_I 200 (fun j => nI (tb j)))) (htb : ∀ j, tb j < 256) {na nv : Nat} (h33 : s 33 = nI na) (hna : na < 12) (h38 : s 38 = nI nv) (hnv : nv ≤ 24) {kf tf ff cf : Nat → Int32} {vf : Nat → Int64} (hA : maA μ kf tf ff cf vf) {p e : Nat} (hpe : p ≤ e) (he : e ≤ 200) : kc_Y kt kC (d + 4) j_Md_readAttribute [.ref 136, .int (nI p), .int (nI e)] μ (fun v μ' => ∃ s', mA μ μ' s s' ∧ ((∃ t V vf', atG tb (24 - nv) p e = some (e, t, V) ∧ v = some (.int (bI true)) ∧ s' 33 = nI (na + 1) ∧ s' 38 = nI (nv + V.length) ∧ nv + V.length ≤ 24 ∧ maA μ' kf (upd tf na t) (upd ff na (nI nv)) (upd cf na (nI V.length)) vf' ∧ (∀ j, j < nv → vf' j = vf j) ∧ ∀ j, j < V.length → V[j]? = some (vf' (nv + j))) ∨ ((∀ t V, atG tb (24 - nv) p e ≠ some (e, t, V)) ∧ v = some (.int (bI false)) ∧ ∃ tf' ff' cf' vf', maA μ' kf tf' ff' cf' vf'))) := by
  refine ⟨Nat.le_of_ble_eq_true rfl, ?_⟩
  refine x_al c_Md_readAttribute_0 rfl ?_
  refine x_il c_Md_readAttribute_1 rfl ?_
  refine x_il c_Md_readAttribute_2 rfl ?_
  refine x_ci c_Md_readAttribute_3 ?_
  refine x_cv3z _ c_Md_readAttribute_5 (by first | rfl | exact h0 | exact h1) (Nat.le_of_ble_eq_true rfl) (y_Md_tagged (d := d + 1) h0 h1 htb (p := p) (e := e) (by omega) he (t := 48) (by omega)) ?_
  rintro v μ2 ⟨s2, hc2, ⟨x, y, r2, rfl, a2, b2, d2⟩ | ⟨r2, rfl⟩⟩
  · show kc_X _ _ _ _ _ [.int (bI true)] _ _
    have k12 : μ2.1 137 = some (ce_I 200 (fun j => nI (tb j))) := (hc2.2.2 137 (by omega)).trans h1
    have A2 := maA_k hA (μ' := μ2) (fun q h1 h2 => hc2.2.2 q (by omega))
    have i2 := tl_in r2
    have m2 := (mA.re h0).C hc2
    refine x_if_eq c_Md_readAttribute_8 (fun h => absurd h (by decide)) (fun _ => ?_)
    refine x_al c_Md_readAttribute_11 rfl ?_
    refine x_getE c_Md_readAttribute_12 (by first | rfl | exact hc2.1 | exact k12) rfl (by first | exact b2 | exact d2 | rfl) ?_
    refine x_il c_Md_readAttribute_15 rfl ?_
    first | refine x_cmN_ne c_Md_readAttribute_16 (by omega) (by omega) (fun h16 => ?_) (fun h16 => ?_) | refine x_cm_ne c_Md_readAttribute_16 (fun h16 => ?_) (fun h16 => ?_)
    · refine x_ci c_Md_readAttribute_32 ?_
      refine x_rz c_Md_readAttribute_33 (by first | decide | exact kz_n _) ?_
      exact ⟨_, m2, Or.inr ⟨fun t9 V9 h9 => (by unfold atG at h9; rw [r2] at h9; dsimp only at h9; (repeat' split at h9) <;> (try cases h9); rw [Option.map_eq_some_iff] at h9; obtain ⟨_, _, h9⟩ := h9; simp only [Prod.mk.injEq] at h9; exact h16 h9.1), rfl, _, _, _, _, A2⟩⟩
    · subst h16
      refine x_al c_Md_readAttribute_19 rfl ?_
      refine x_al c_Md_readAttribute_20 rfl ?_
      refine x_getE c_Md_readAttribute_21 (by first | rfl | exact hc2.1 | exact k12) rfl (by first | exact b2 | exact d2 | rfl) ?_
      refine x_il c_Md_readAttribute_24 rfl ?_
      refine x_ci c_Md_readAttribute_25 ?_
      refine x_cv3z _ c_Md_readAttribute_26 (by first | rfl | exact hc2.1 | exact k12) (Nat.le_of_ble_eq_true rfl) (y_Md_tagged (d := d + 1) hc2.1 k12 htb (p := x) (e := y) (by omega) (by omega) (t := 4) (by omega)) ?_
      rintro v μ3 ⟨s3, hc3, ⟨x2, y2, r3, rfl, a3, b3, d3⟩ | ⟨r3, rfl⟩⟩
      · show kc_X _ _ _ _ _ [.int (bI true)] _ _
        have k13 : μ3.1 137 = some (ce_I 200 (fun j => nI (tb j))) := (hc3.2.2 137 (by omega)).trans k12
        have A3 := maA_k A2 (μ' := μ3) (fun q h1 h2 => hc3.2.2 q (by omega))
        have i3 := tl_in r3
        have m3 := m2.C hc3
        have n3 : s3 33 = nI na := (hc3.2.1 33 (by decide)).trans ((hc2.2.1 33 (by decide)).trans h33)
        have v3 : s3 38 = nI nv := (hc3.2.1 38 (by decide)).trans ((hc2.2.1 38 (by decide)).trans h38)
        refine x_if_ne c_Md_readAttribute_29 (fun _ => ?_) (fun h => absurd h (by decide))
        refine x_al c_Md_readAttribute_34 rfl ?_
        refine x_get c_Md_readAttribute_35 (by first | rfl | exact hc3.1 | exact k13 | exact A3.2.1) rfl ?_
        refine x_al c_Md_readAttribute_38 rfl ?_
        refine x_getE c_Md_readAttribute_39 (by first | rfl | exact hc3.1 | exact k13 | exact A3.2.1) rfl (by first | exact n3 | exact b3 | exact d3 | rfl) ?_
        refine x_al c_Md_readAttribute_42 rfl ?_
        refine x_al c_Md_readAttribute_43 rfl ?_
        refine x_getE c_Md_readAttribute_44 (by first | rfl | exact hc3.1 | exact k13 | exact A3.2.1) rfl (by first | exact n3 | exact b3 | exact d3 | rfl) ?_
        refine x_al c_Md_readAttribute_47 rfl ?_
        refine x_getE c_Md_readAttribute_48 (by first | rfl | exact hc3.1 | exact k13 | exact A3.2.1) rfl (by first | exact n3 | exact b3 | exact d3 | rfl) ?_
        refine x_cv2z _ c_Md_readAttribute_51 (by first | rfl | exact hc3.1 | exact k13 | exact A3.2.1) (Nat.le_of_ble_eq_true rfl) (y_Md_typeIn (d + 2) hc3.1 k13 htb (p := x2) (e := y2) (by omega) (by omega)) ?_
        rintro _ μx ⟨rfl, hμx⟩
        have hμx := hμx.symm
        subst hμx
        show kc_X _ _ _ _ _ (.int (tyS tb x2 y2) :: _) _ _
        refine x_iastN c_Md_readAttribute_54 (by first | rfl | exact hc3.1 | exact k13 | exact A3.2.1) (by omega) (by omega) ?_
        refine x_al c_Md_readAttribute_55 rfl ?_
        refine x_al c_Md_readAttribute_56 rfl ?_
        refine x_getE c_Md_readAttribute_57 (by first | rfl | exact hc3.1 | exact k13 | exact A3.2.1) rfl (by first | exact n3 | exact b3 | exact d3 | rfl) ?_
        refine x_il c_Md_readAttribute_60 rfl ?_
        refine x_ci c_Md_readAttribute_61 ?_
        refine x_cv3z _ c_Md_readAttribute_63 (by first | rfl | exact hc3.1 | exact k13 | exact A3.2.1) (Nat.le_of_ble_eq_true rfl) (y_Md_tagged (d := d + 1) (μ := kc_u μ3 148 _) (s := s3) (by exact hc3.1) (by exact k13) htb (p := y2) (e := y) (by omega) (by omega) (t := 49) (by omega)) ?_
        rintro v μ4 ⟨s4, hc4, ⟨x3, y3, r4, rfl, a4, b4, d4⟩ | ⟨r4, rfl⟩⟩
        · show kc_X _ _ _ _ _ [.int (bI true)] _ _
          have A4 := maA_k (show maA (kc_u μ3 148 (ce_I 12 (upd tf na (tyS tb x2 y2)))) kf (upd tf na (tyS tb x2 y2)) ff cf vf from ⟨A3.1, rfl, A3.2.2.1, A3.2.2.2.1, A3.2.2.2.2⟩) (μ' := μ4) (fun q h1 h2 => hc4.2.2 q (by omega))
          have k14 : μ4.1 137 = some (ce_I 200 (fun j => nI (tb j))) := (hc4.2.2 137 (by omega)).trans k13
          have i4 := tl_in r4
          have m4 := (m3.q (a := 148) (by omega)).C hc4
          have n4 : s4 33 = nI na := (hc4.2.1 33 (by decide)).trans n3
          have v4 : s4 38 = nI nv := (hc4.2.1 38 (by decide)).trans v3
          refine x_if_eq c_Md_readAttribute_66 (fun h => absurd h (by decide)) (fun _ => ?_)
          refine x_al c_Md_readAttribute_69 rfl ?_
          refine x_getE c_Md_readAttribute_70 (by first | rfl | exact hc4.1 | exact k14 | exact A4.2.2.1) rfl (by first | exact n4 | exact v4 | exact b4 | exact d4 | rfl) ?_
          refine x_il c_Md_readAttribute_73 rfl ?_
          first | refine x_cmN_eq c_Md_readAttribute_74 (by omega) (by omega) (fun h74 => ?_) (fun h74 => ?_) | refine x_cm_eq c_Md_readAttribute_74 (fun h74 => ?_) (fun h74 => ?_)
          · subst h74
            refine x_al c_Md_readAttribute_79 rfl ?_
            refine x_get c_Md_readAttribute_80 (by first | rfl | exact hc4.1 | exact k14 | exact A4.2.2.1) rfl ?_
            refine x_al c_Md_readAttribute_83 rfl ?_
            refine x_getE c_Md_readAttribute_84 (by first | rfl | exact hc4.1 | exact k14 | exact A4.2.2.1) rfl (by first | exact n4 | exact v4 | exact b4 | exact d4 | rfl) ?_
            refine x_al c_Md_readAttribute_87 rfl ?_
            refine x_getE c_Md_readAttribute_88 (by first | rfl | exact hc4.1 | exact k14 | exact A4.2.2.1) rfl (by first | exact n4 | exact v4 | exact b4 | exact d4 | rfl) ?_
            refine x_iastN c_Md_readAttribute_91 (by first | rfl | exact hc4.1 | exact k14 | exact A4.2.2.1) (by omega) (by omega) ?_
            refine x_al c_Md_readAttribute_92 rfl ?_
            refine x_al c_Md_readAttribute_93 rfl ?_
            refine x_getE c_Md_readAttribute_94 (by first | rfl | exact hc4.1 | exact k14 | exact A4.2.2.1) rfl (by first | exact n4 | exact v4 | exact b4 | exact d4 | rfl) ?_
            refine x_il c_Md_readAttribute_97 rfl ?_
            refine x_cv2z _ c_Md_readAttribute_98 (by first | rfl | exact hc4.1 | exact k14 | exact A4.2.2.1) (Nat.le_of_ble_eq_true rfl) (y_Md_readValues (d := d) (μ := kc_u μ4 149 _) (s := s4) (by exact hc4.1) (by exact k14) htb v4 hnv (by exact A4.2.2.2.2) (p := x3) (e := y3) (by omega) (by omega)) ?_
            rintro v μ5 ⟨s5, hc5, ⟨V, vf5, r5, rfl, c5, l5, k5, w0, w1⟩ | ⟨r5, rfl, vf5, k5⟩⟩
            · show kc_X _ _ _ _ _ [.int (bI true)] _ _
              have n5 : s5 33 = nI na := (hc5.2.1 33 (by decide)).trans n4
              have m5 := (m4.q (a := 149) (by omega)).V hc5
              have f5 : μ5.1 149 = some (ce_I 12 (upd ff na (nI nv))) := (hc5.2.2 149 (by decide) (by decide)).trans kc_gs
              have g5 : μ5.1 150 = some (ce_I 12 cf) := (hc5.2.2 150 (by decide) (by decide)).trans A4.2.2.2.1
              have e5 : upd ff na (nI nv) na = nI nv := if_pos rfl
              refine x_if_ne c_Md_readAttribute_101 (fun _ => ?_) (fun h => absurd h (by decide))
              refine x_al c_Md_readAttribute_106 rfl ?_
              refine x_get c_Md_readAttribute_107 (by first | rfl | exact hc5.1 | exact f5 | exact g5) rfl ?_
              refine x_al c_Md_readAttribute_110 rfl ?_
              refine x_getE c_Md_readAttribute_111 (by first | rfl | exact hc5.1 | exact f5 | exact g5) rfl (by first | exact n5 | exact c5 | rfl) ?_
              refine x_al c_Md_readAttribute_114 rfl ?_
              refine x_getE c_Md_readAttribute_115 (by first | rfl | exact hc5.1 | exact f5 | exact g5) rfl (by first | exact n5 | exact c5 | rfl) ?_
              refine x_al c_Md_readAttribute_118 rfl ?_
              refine x_get c_Md_readAttribute_119 (by first | rfl | exact hc5.1 | exact f5 | exact g5) rfl ?_
              refine x_al c_Md_readAttribute_122 rfl ?_
              refine x_getE c_Md_readAttribute_123 (by first | rfl | exact hc5.1 | exact f5 | exact g5) rfl (by first | exact n5 | exact c5 | rfl) ?_
              refine x_ialdE c_Md_readAttribute_126 (by first | rfl | exact hc5.1 | exact f5 | exact g5) (by omega) (by omega) (e5) ?_
              first | refine x_isubN c_Md_readAttribute_127 (by omega) ?_ | refine x_isub c_Md_readAttribute_127 ?_
              refine x_iastN c_Md_readAttribute_128 (by first | rfl | exact hc5.1 | exact f5 | exact g5) (by omega) (by omega) ?_
              refine x_al c_Md_readAttribute_129 rfl ?_
              refine x_dup c_Md_readAttribute_130 rfl ?_
              refine x_getE c_Md_readAttribute_131 (by first | rfl | exact hc5.1 | exact f5 | exact g5) rfl (by first | exact n5 | exact c5 | rfl) ?_
              refine x_ci c_Md_readAttribute_134 ?_
              first | refine x_iaddN c_Md_readAttribute_135 ?_ | refine x_iadd c_Md_readAttribute_135 ?_
              refine x_putM c_Md_readAttribute_136 (by first | rfl | exact hc5.1 | exact f5 | exact g5) ⟨by decide, rfl, rfl⟩ rfl ?_
              refine x_ci c_Md_readAttribute_139 ?_
              refine x_rz c_Md_readAttribute_140 (by first | decide | exact kz_n _) ?_
              exact ⟨_, (m5.q (a := 150) (by omega)).p, Or.inl ⟨tyS tb x2 y2, V, vf5, by unfold atG; rw [r2]; dsimp only; rw [r3]; dsimp only; rw [r4]; dsimp only; rw [if_pos rfl, r5]; rfl, rfl, rfl, c5, l5, ⟨(hc5.2.2 147 (by decide) (by decide)).trans A4.1, (hc5.2.2 148 (by decide) (by decide)).trans A4.2.1, f5, by rw [show nv + V.length - nv = V.length by omega]; rfl, k5⟩, w0, w1⟩⟩
            · show kc_X _ _ _ _ _ [.int (bI false)] _ _
              have m5 := (m4.q (a := 149) (by omega)).V hc5
              refine x_if_ne c_Md_readAttribute_101 (fun h => absurd (rfl) h) (fun _ => ?_)
              refine x_ci c_Md_readAttribute_104 ?_
              refine x_rz c_Md_readAttribute_105 (by first | decide | exact kz_n _) ?_
              exact ⟨_, m5, Or.inr ⟨fun t9 V9 h9 => (by unfold atG at h9; rw [r2] at h9; dsimp only at h9; rw [r3] at h9; dsimp only at h9; rw [r4] at h9; dsimp only at h9; rw [if_pos rfl, r5] at h9; cases h9), rfl, _, _, _, _, ⟨(hc5.2.2 147 (by decide) (by decide)).trans A4.1, (hc5.2.2 148 (by decide) (by decide)).trans A4.2.1, (hc5.2.2 149 (by decide) (by decide)).trans kc_gs, (hc5.2.2 150 (by decide) (by decide)).trans A4.2.2.2.1, k5⟩⟩⟩
          · refine x_ci c_Md_readAttribute_77 ?_
            refine x_rz c_Md_readAttribute_78 (by first | decide | exact kz_n _) ?_
            exact ⟨_, m4, Or.inr ⟨fun t9 V9 h9 => (by unfold atG at h9; rw [r2] at h9; dsimp only at h9; rw [r3] at h9; dsimp only at h9; rw [r4] at h9; dsimp only at h9; rw [if_neg h74] at h9; cases h9), rfl, _, _, _, _, A4⟩⟩
        · show kc_X _ _ _ _ _ [.int (bI false)] _ _
          have A4 := maA_k (show maA (kc_u μ3 148 (ce_I 12 (upd tf na (tyS tb x2 y2)))) kf (upd tf na (tyS tb x2 y2)) ff cf vf from ⟨A3.1, rfl, A3.2.2.1, A3.2.2.2.1, A3.2.2.2.2⟩) (μ' := μ4) (fun q h1 h2 => hc4.2.2 q (by omega))
          refine x_if_eq c_Md_readAttribute_66 (fun _ => ?_) (fun h => absurd (rfl) h)
          refine x_ci c_Md_readAttribute_77 ?_
          refine x_rz c_Md_readAttribute_78 (by first | decide | exact kz_n _) ?_
          exact ⟨_, (m3.q (a := 148) (by omega)).C hc4, Or.inr ⟨fun t9 V9 h9 => (by unfold atG at h9; rw [r2] at h9; dsimp only at h9; rw [r3] at h9; dsimp only at h9; rw [r4] at h9; cases h9), rfl, _, _, _, _, A4⟩⟩
      · show kc_X _ _ _ _ _ [.int (bI false)] _ _
        have A3 := maA_k A2 (μ' := μ3) (fun q h1 h2 => hc3.2.2 q (by omega))
        refine x_if_ne c_Md_readAttribute_29 (fun h => absurd (rfl) h) (fun _ => ?_)
        refine x_ci c_Md_readAttribute_32 ?_
        refine x_rz c_Md_readAttribute_33 (by first | decide | exact kz_n _) ?_
        exact ⟨_, m2.C hc3, Or.inr ⟨fun t9 V9 h9 => (by unfold atG at h9; rw [r2] at h9; dsimp only at h9; rw [r3] at h9; cases h9), rfl, _, _, _, _, A3⟩⟩
  · show kc_X _ _ _ _ _ [.int (bI false)] _ _
    have A2 := maA_k hA (μ' := μ2) (fun q h1 h2 => hc2.2.2 q (by omega))
    refine x_if_eq c_Md_readAttribute_8 (fun _ => ?_) (fun h => absurd (rfl) h)
    refine x_ci c_Md_readAttribute_32 ?_
    refine x_rz c_Md_readAttribute_33 (by first | decide | exact kz_n _) ?_
    exact ⟨_, (mA.re h0).C hc2, Or.inr ⟨fun t9 V9 h9 => (by unfold atG at h9; rw [r2] at h9; cases h9), rfl, _, _, _, _, A2⟩⟩
