/-! the reference's readPairs -/
theorem atG_nn {tb : Nat → Nat} (htb : ∀ j, tb j < 256) {m p b y : Nat} {t : Int32} {V : List Int64} (h : atG tb m p b = some (y, t, V)) : ∀ v ∈ V, v = -1 ∨ 0 ≤ v := by
  obtain ⟨⟨s', t', ha⟩, h1, h2⟩ := at_ok htb (sf := 0) (st := 0) h
  by_cases hb : b ≤ 200
  · have := (raA_ok htb (sz := b) (m := m) (r := (p, b, false, 0, 0)) ⟨by show p ≤ b; omega, Nat.le_refl _, hb⟩).2.2.2
    rw [ha] at this
    exact this
  · unfold atG at h
    (repeat' split at h) <;> (try cases h)
    rw [Option.map_eq_some_iff] at h
    obtain ⟨vs, hvs, h⟩ := h
    simp only [Prod.mk.injEq] at h
    obtain ⟨_, _, rfl⟩ := h
    clear ha
    have gen : ∀ (m p e : Nat) (vs : List Int64), vsS tb m p e = some vs → ∀ v ∈ vs, v = -1 ∨ 0 ≤ v := by
      intro m
      induction m with
      | zero => intro p e vs h; unfold vsS at h; split at h <;> cases h; intro v hv; cases hv
      | succ m ih =>
        intro p e vs h
        rw [vsS_s] at h
        split at h
        · split at h
          · rw [Option.map_eq_some_iff] at h
            obtain ⟨l, hl, rfl⟩ := h
            intro v hv
            rcases List.mem_cons.mp hv with rfl | hv
            · exact vlS_nn htb _ _
            · exact ih _ _ l hl v hv
          · cases h
        · cases h; intro v hv; cases hv
    exact gen _ _ _ vs hvs
set_option maxRecDepth 100000 in
set_option maxHeartbeats 4000000 in
theorem y_Md_readPairs (d : Nat) {μ : kc_M} {s : Nat → Int32} {tb : Nat → Nat} (h0 : μ.1 136 = some (ce_Md s)) (h1 : μ.1 137 = some (ce_I 200 (fun j => nI (tb j)))) (htb : ∀ j, tb j < 256) {c e : Nat} (hs18 : s 18 = nI c) (hs19 : s 19 = nI e) (h33 : s 33 = nI 0) (h38 : s 38 = nI 0) {kf tf ff cf : Nat → Int32} {vf : Nat → Int64} (hA : maA μ kf tf ff cf vf) (hce : c ≤ e) (he : e ≤ 200) (kb : Bool) : kc_Y kt kC (d + 5) j_Md_readPairs [.ref 136, .int (bI kb)] μ (fun v μ' => ∃ s', mP μ μ' s s' ∧ ((∃ x2 y2 cs kf' tf' ff' cf' vf', acS tb kb c e = some (x2, y2, cs) ∧ v = some (.int (bI true)) ∧ s' 23 = nI x2 ∧ s' 24 = nI y2 ∧ x2 ≤ y2 ∧ y2 ≤ e ∧ s' 33 = nI cs.length ∧ cs.length ≤ 12 ∧ tot cs ≤ 24 ∧ maA μ' kf' tf' ff' cf' vf' ∧ maL kb kf' tf' ff' cf' vf' cs 0 0) ∨ (acS tb kb c e = none ∧ v = some (.int (bI false)) ∧ ∃ kf' tf' ff' cf' vf', maA μ' kf' tf' ff' cf' vf'))) := by
  refine ⟨Nat.le_of_ble_eq_true rfl, ?_⟩
  have loop : ∀ (x2 y2 x : Nat), tl tb 4 c e = some (x2, y2) → acS tb kb c e = (asS tb kb 12 0 x e).map (fun cs => (x2, y2, cs)) → ∀ m (cs : List cg) (p1 : Nat) (μ1 : kc_M) (s1 : Nat → Int32) (kf1 tf1 ff1 cf1 : Nat → Int32) (vf1 : Nat → Int64) (ja jb : Option Value), 12 - cs.length = m → cs.length ≤ 12 → tot cs ≤ 24 → p1 ≤ e → asS tb kb 12 0 x e = (asS tb kb m (tot cs) p1 e).map (fun l => cs ++ l) → mP μ μ1 s s1 → s1 33 = nI cs.length → s1 38 = nI (tot cs) → s1 23 = nI x2 → s1 24 = nI y2 → maA μ1 kf1 tf1 ff1 cf1 vf1 → maL kb kf1 tf1 ff1 cf1 vf1 cs 0 0 → kc_X (kC j_Md_readPairs) (kc_Y kt kC (d + 4)) (fun v μ' => ∃ s', mP μ μ' s s' ∧ ((∃ x2 y2 cs kf' tf' ff' cf' vf', acS tb kb c e = some (x2, y2, cs) ∧ v = some (.int (bI true)) ∧ s' 23 = nI x2 ∧ s' 24 = nI y2 ∧ x2 ≤ y2 ∧ y2 ≤ e ∧ s' 33 = nI cs.length ∧ cs.length ≤ 12 ∧ tot cs ≤ 24 ∧ maA μ' kf' tf' ff' cf' vf' ∧ maL kb kf' tf' ff' cf' vf' cs 0 0) ∨ (acS tb kb c e = none ∧ v = some (.int (bI false)) ∧ ∃ kf' tf' ff' cf' vf', maA μ' kf' tf' ff' cf' vf'))) 69 [some (.ref 136), some (.int (bI kb)), some (.int (nI p1)), ja, jb] [] μ1 (0, 0) := by
    intro x2 y2 x r2 hac m
    have i2 := tl_in r2
    induction m with
    | zero =>
      intro cs p1 μ1 s1 kf1 tf1 ff1 cf1 vf1 ja jb hm h12 h24 hpe hR hC n1 v1 q23 q24 A1 hL
      have k0 := hC.1
      have k1 : μ1.1 137 = some (ce_I 200 (fun j => nI (tb j))) := (hC.2.2 137 (by decide) (by decide)).trans h1
      have q19 : s1 19 = nI e := (hC.2.1 19 (by decide)).trans hs19
      by_cases hp : p1 < e
      · have hn : asS tb kb 0 (tot cs) p1 e = none := by unfold asS; rw [if_pos hp]
        refine x_il c_Md_readPairs_69 rfl ?_
        refine x_al c_Md_readPairs_70 rfl ?_
        refine x_getE c_Md_readPairs_71 (by first | rfl | exact k0 | exact k1) rfl (by first | exact q19 | exact n1 | rfl) ?_
        refine x_cmN_ge c_Md_readPairs_74 (by omega) (by omega) (fun h => (by exfalso; omega)) (fun _ => ?_)
        refine x_al c_Md_readPairs_77 rfl ?_
        refine x_getE c_Md_readPairs_78 (by first | rfl | exact k0 | exact k1) rfl (by first | exact q19 | exact n1 | rfl) ?_
        refine x_ci c_Md_readPairs_81 ?_
        refine x_cmN_eq c_Md_readPairs_83 (by omega) (by omega) (fun _ => ?_) (fun h => (by exfalso; omega))
        refine x_ci c_Md_readPairs_100 ?_
        refine x_rz c_Md_readPairs_101 (by first | decide | exact kz_n _) ?_
        exact ⟨_, hC, Or.inr ⟨by rw [hac, hR, hn]; rfl, rfl, _, _, _, _, _, A1⟩⟩
      · have hn : asS tb kb 0 (tot cs) p1 e = some [] := by unfold asS; rw [if_neg hp]
        refine x_il c_Md_readPairs_69 rfl ?_
        refine x_al c_Md_readPairs_70 rfl ?_
        refine x_getE c_Md_readPairs_71 (by first | rfl | exact k0 | exact k1) rfl (by first | exact q19 | exact n1 | rfl) ?_
        refine x_cmN_ge c_Md_readPairs_74 (by omega) (by omega) (fun _ => ?_) (fun h => (by exfalso; omega))
        refine x_ci c_Md_readPairs_170 ?_
        refine x_rz c_Md_readPairs_171 (by first | decide | exact kz_n _) ?_
        exact ⟨s1, hC, Or.inl ⟨x2, y2, cs, kf1, tf1, ff1, cf1, vf1, by rw [hac, hR, hn]; simp, rfl, q23, q24, i2.2.1, i2.2.2, n1, h12, h24, A1, hL⟩⟩
    | succ m ih =>
      intro cs p1 μ1 s1 kf1 tf1 ff1 cf1 vf1 ja jb hm h12 h24 hpe hR hC n1 v1 q23 q24 A1 hL
      have k0 := hC.1
      have k1 : μ1.1 137 = some (ce_I 200 (fun j => nI (tb j))) := (hC.2.2 137 (by decide) (by decide)).trans h1
      have q19 : s1 19 = nI e := (hC.2.1 19 (by decide)).trans hs19
      by_cases hp : p1 < e
      · cases kb with
        | true =>
          refine x_il c_Md_readPairs_69 rfl ?_
          refine x_al c_Md_readPairs_70 rfl ?_
          refine x_getE c_Md_readPairs_71 (by first | rfl | exact k0 | exact k1) rfl (by first | exact q19 | exact n1 | rfl) ?_
          refine x_cmN_ge c_Md_readPairs_74 (by omega) (by omega) (fun h => (by exfalso; omega)) (fun _ => ?_)
          refine x_al c_Md_readPairs_77 rfl ?_
          refine x_getE c_Md_readPairs_78 (by first | rfl | exact k0 | exact k1) rfl (by first | exact q19 | exact n1 | rfl) ?_
          refine x_ci c_Md_readPairs_81 ?_
          refine x_cmN_eq c_Md_readPairs_83 (by omega) (by omega) (fun h => (by exfalso; omega)) (fun _ => ?_)
          refine x_al c_Md_readPairs_86 rfl ?_
          refine x_il c_Md_readPairs_87 rfl ?_
          refine x_al c_Md_readPairs_88 rfl ?_
          refine x_getE c_Md_readPairs_89 (by first | rfl | exact k0 | exact k1) rfl (by first | exact q19 | exact n1 | rfl) ?_
          refine x_ci c_Md_readPairs_92 ?_
          refine x_cv3z _ c_Md_readPairs_94 (by first | rfl | exact k0 | exact k1) (Nat.le_of_ble_eq_true rfl) (y_Md_tagged (d := d + 2) k0 k1 htb (p := p1) (e := e) (by omega) he (t := 48) (by omega)) ?_
          rintro v μ3 ⟨s3, hc3, ⟨x, y, r3, rfl, a3, b3, d3⟩ | ⟨r3, rfl⟩⟩
          · show kc_X _ _ _ _ _ [.int (bI true)] _ _
            have k13 : μ3.1 137 = some (ce_I 200 (fun j => nI (tb j))) := (hc3.2.2 137 (by omega)).trans k1
            have A3 := maA_k A1 (μ' := μ3) (fun q h1 h2 => hc3.2.2 q (by omega))
            have i3 := tl_in r3
            have m3 := hC.C hc3
            have n3 : s3 33 = nI cs.length := (hc3.2.1 33 (by decide)).trans n1
            have v3 : s3 38 = nI (tot cs) := (hc3.2.1 38 (by decide)).trans v1
            refine x_if_ne c_Md_readPairs_97 (fun _ => ?_) (fun h => absurd h (by decide))
            refine x_al c_Md_readPairs_102 rfl ?_
            refine x_getE c_Md_readPairs_103 (by first | rfl | exact hc3.1 | exact k13) rfl (by first | exact b3 | exact d3 | exact n3 | rfl) ?_
            refine x_is [_, _, _, _, _] c_Md_readPairs_106 rfl ?_
            refine x_il c_Md_readPairs_107 rfl ?_
            refine x_is [_, _, _, _, _] c_Md_readPairs_108 rfl ?_
            refine x_il c_Md_readPairs_110 rfl ?_
            refine x_if_eq c_Md_readPairs_111 (fun h => absurd h (by decide)) (fun _ => ?_)
            refine x_al c_Md_readPairs_114 rfl ?_
            refine x_al c_Md_readPairs_115 rfl ?_
            refine x_getE c_Md_readPairs_116 (by first | rfl | exact hc3.1 | exact k13) rfl (by first | exact b3 | exact d3 | exact n3 | rfl) ?_
            refine x_il c_Md_readPairs_119 rfl ?_
            refine x_ci c_Md_readPairs_120 ?_
            refine x_cv3z _ c_Md_readPairs_121 (by first | rfl | exact hc3.1 | exact k13) (Nat.le_of_ble_eq_true rfl) (y_Md_chosen (d := d + 1) hc3.1 k13 htb (p := x) (e := y) (by omega) (by omega) (m := 2) (by omega)) ?_
            rintro v μ4 ⟨s4, hc4, ⟨xx, yy, r4, rfl, a4, b4, d4⟩ | ⟨r4, rfl⟩⟩
            · show kc_X _ _ _ _ _ [.int (bI true)] _ _
              have k14 : μ4.1 137 = some (ce_I 200 (fun j => nI (tb j))) := (hc4.2.2 137 (by omega)).trans k13
              have A4 := maA_k A3 (μ' := μ4) (fun q h1 h2 => hc4.2.2 q (by omega))
              have i4 := tl_in (cl_in r4).1
              have l4 := (cl_in r4).2.1
              have n4 : s4 33 = nI cs.length := (hc4.2.1 33 (by decide)).trans n3
              have v4 : s4 38 = nI (tot cs) := (hc4.2.1 38 (by decide)).trans v3
              refine x_if_ne c_Md_readPairs_124 (fun _ => ?_) (fun h => absurd h (by decide))
              refine x_al c_Md_readPairs_129 rfl ?_
              refine x_get c_Md_readPairs_130 (by first | rfl | exact hc4.1 | exact k14 | exact A4.1) rfl ?_
              refine x_al c_Md_readPairs_133 rfl ?_
              refine x_getE c_Md_readPairs_134 (by first | rfl | exact hc4.1 | exact k14 | exact A4.1) rfl (by first | exact n4 | exact b4 | exact d4 | rfl) ?_
              refine x_al c_Md_readPairs_137 rfl ?_
              refine x_get c_Md_readPairs_138 (by first | rfl | exact hc4.1 | exact k14 | exact A4.1) rfl ?_
              refine x_al c_Md_readPairs_141 rfl ?_
              refine x_getE c_Md_readPairs_142 (by first | rfl | exact hc4.1 | exact k14 | exact A4.1) rfl (by first | exact n4 | exact b4 | exact d4 | rfl) ?_
              refine x_ialdN c_Md_readPairs_145 (by first | rfl | exact hc4.1 | exact k14 | exact A4.1) (by omega) (by omega) ?_
              refine x_iastN c_Md_readPairs_146 (by first | rfl | exact hc4.1 | exact k14 | exact A4.1) (by omega) (by omega) ?_
              refine x_al c_Md_readPairs_147 rfl ?_
              refine x_getE c_Md_readPairs_148 (by first | rfl | exact hc4.1 | exact k14 | exact A4.1) rfl (by first | exact n4 | exact b4 | exact d4 | rfl) ?_
              refine x_is [_, _, _, _, _] c_Md_readPairs_151 rfl ?_
              refine x_al c_Md_readPairs_153 rfl ?_
              refine x_il c_Md_readPairs_154 rfl ?_
              refine x_il c_Md_readPairs_156 rfl ?_
              refine x_cv2z _ c_Md_readPairs_157 (by first | rfl | exact hc4.1 | exact k14 | exact A4.1) (Nat.le_of_ble_eq_true rfl) (y_Md_readAttribute (d := d) (μ := kc_u μ4 147 _) (s := s4) (kf := (upd kf1 cs.length (nI (tb xx)))) (by exact hc4.1) (by exact k14) htb n4 (by omega) v4 h24 (by exact ⟨rfl, A4.2.1, A4.2.2.1, A4.2.2.2.1, A4.2.2.2.2⟩) (p := yy) (e := y) (by omega) (by omega)) ?_
              rintro v μ5 ⟨s5, hc5, ⟨t, V, vf5, r5, rfl, n5, v5, l5, A5, w0, w1⟩ | ⟨r5, rfl, tf5, ff5, cf5, vf5, A5⟩⟩
              · show kc_X _ _ _ _ _ [.int (bI true)] _ _
                have e5 : s5 15 = s5 15 := rfl
                refine x_if_ne c_Md_readPairs_160 (fun _ => ?_) (fun h => absurd h (by decide))
                refine x_il c_Md_readPairs_165 rfl ?_
                refine x_is [_, _, _, _, _] c_Md_readPairs_166 rfl ?_
                refine x_goto c_Md_readPairs_167 ?_
                have hV24 : ∀ v ∈ V, v = -1 ∨ 0 ≤ v := atG_nn htb r5
                rw [asS_s tb true m (tot cs) p1 e, if_pos hp, a1_t r3 r4 r5] at hR
                dsimp only at hR
                have e8 : cs.length + 1 = (cs ++ [((tb xx, t, V) : cg)]).length := by rw [List.length_append]; rfl
                have e7 : tot cs + V.length = tot (cs ++ [((tb xx, t, V) : cg)]) := by rw [tot_a]; rfl
                exact ih (cs ++ [((tb xx, t, V) : cg)]) y μ5 s5 (upd kf1 cs.length (nI (tb xx))) _ _ _ vf5 _ _ (by rw [← e8]; omega) (by rw [← e8]; omega) (by rw [← e7]; exact l5) i3.2.2 (by rw [hR, Option.map_map, ← e7]; congr 1; funext z; simp) (((m3.C hc4).q).A hc5) (by rw [← e8]; exact n5) (by rw [← e7]; exact v5) ((hc5.2.1 23 (by decide)).trans ((hc4.2.1 23 (by decide)).trans ((hc3.2.1 23 (by decide)).trans q23))) ((hc5.2.1 24 (by decide)).trans ((hc4.2.1 24 (by decide)).trans ((hc3.2.1 24 (by decide)).trans q24))) A5 (by
                  refine maL_a cs 0 0 (maL_k cs 0 0 hL (fun j hj => ⟨if_neg (by omega), if_neg (by omega), if_neg (by omega), if_neg (by omega)⟩) (fun j hj => w0 j (by omega))) ?_ ?_
                  · rw [Nat.zero_add, Nat.zero_add]; exact ⟨if_pos rfl, if_pos rfl, if_pos rfl, htb _, fun j hj => w1 j hj, hV24, l5⟩
                  · rw [Nat.zero_add]; exact (fun _ => if_pos rfl))
              · show kc_X _ _ _ _ _ [.int (bI false)] _ _
                refine x_if_ne c_Md_readPairs_160 (fun h => absurd (rfl) h) (fun _ => ?_)
                refine x_ci c_Md_readPairs_163 ?_
                refine x_rz c_Md_readPairs_164 (by first | decide | exact kz_n _) ?_
                exact ⟨_, ((m3.C hc4).q).A hc5, Or.inr ⟨by rw [hac, hR, asS_s, if_pos hp, a1_tn r3 r4 r5]; rfl, rfl, _, _, _, _, _, A5⟩⟩
            · show kc_X _ _ _ _ _ [.int (bI false)] _ _
              have A4 := maA_k A3 (μ' := μ4) (fun q h1 h2 => hc4.2.2 q (by omega))
              refine x_if_ne c_Md_readPairs_124 (fun h => absurd (rfl) h) (fun _ => ?_)
              refine x_ci c_Md_readPairs_127 ?_
              refine x_rz c_Md_readPairs_128 (by first | decide | exact kz_n _) ?_
              exact ⟨_, m3.C hc4, Or.inr ⟨by rw [hac, hR, asS_s, if_pos hp, a1_tc r3 r4]; rfl, rfl, _, _, _, _, _, A4⟩⟩
          · show kc_X _ _ _ _ _ [.int (bI false)] _ _
            have A3 := maA_k A1 (μ' := μ3) (fun q h1 h2 => hc3.2.2 q (by omega))
            refine x_if_ne c_Md_readPairs_97 (fun h => absurd (rfl) h) (fun _ => ?_)
            refine x_ci c_Md_readPairs_100 ?_
            refine x_rz c_Md_readPairs_101 (by first | decide | exact kz_n _) ?_
            exact ⟨_, hC.C hc3, Or.inr ⟨by rw [hac, hR, asS_s, if_pos hp, a1_0 r3]; rfl, rfl, _, _, _, _, _, A3⟩⟩
        | false =>
          refine x_il c_Md_readPairs_69 rfl ?_
          refine x_al c_Md_readPairs_70 rfl ?_
          refine x_getE c_Md_readPairs_71 (by first | rfl | exact k0 | exact k1) rfl (by first | exact q19 | exact n1 | rfl) ?_
          refine x_cmN_ge c_Md_readPairs_74 (by omega) (by omega) (fun h => (by exfalso; omega)) (fun _ => ?_)
          refine x_al c_Md_readPairs_77 rfl ?_
          refine x_getE c_Md_readPairs_78 (by first | rfl | exact k0 | exact k1) rfl (by first | exact q19 | exact n1 | rfl) ?_
          refine x_ci c_Md_readPairs_81 ?_
          refine x_cmN_eq c_Md_readPairs_83 (by omega) (by omega) (fun h => (by exfalso; omega)) (fun _ => ?_)
          refine x_al c_Md_readPairs_86 rfl ?_
          refine x_il c_Md_readPairs_87 rfl ?_
          refine x_al c_Md_readPairs_88 rfl ?_
          refine x_getE c_Md_readPairs_89 (by first | rfl | exact k0 | exact k1) rfl (by first | exact q19 | exact n1 | rfl) ?_
          refine x_ci c_Md_readPairs_92 ?_
          refine x_cv3z _ c_Md_readPairs_94 (by first | rfl | exact k0 | exact k1) (Nat.le_of_ble_eq_true rfl) (y_Md_tagged (d := d + 2) k0 k1 htb (p := p1) (e := e) (by omega) he (t := 48) (by omega)) ?_
          rintro v μ3 ⟨s3, hc3, ⟨x, y, r3, rfl, a3, b3, d3⟩ | ⟨r3, rfl⟩⟩
          · show kc_X _ _ _ _ _ [.int (bI true)] _ _
            have k13 : μ3.1 137 = some (ce_I 200 (fun j => nI (tb j))) := (hc3.2.2 137 (by omega)).trans k1
            have A3 := maA_k A1 (μ' := μ3) (fun q h1 h2 => hc3.2.2 q (by omega))
            have i3 := tl_in r3
            have m3 := hC.C hc3
            have n3 : s3 33 = nI cs.length := (hc3.2.1 33 (by decide)).trans n1
            have v3 : s3 38 = nI (tot cs) := (hc3.2.1 38 (by decide)).trans v1
            refine x_if_ne c_Md_readPairs_97 (fun _ => ?_) (fun h => absurd h (by decide))
            refine x_al c_Md_readPairs_102 rfl ?_
            refine x_getE c_Md_readPairs_103 (by first | rfl | exact hc3.1 | exact k13) rfl (by first | exact b3 | exact d3 | exact n3 | rfl) ?_
            refine x_is [_, _, _, _, _] c_Md_readPairs_106 rfl ?_
            refine x_il c_Md_readPairs_107 rfl ?_
            refine x_is [_, _, _, _, _] c_Md_readPairs_108 rfl ?_
            refine x_il c_Md_readPairs_110 rfl ?_
            refine x_if_eq c_Md_readPairs_111 (fun _ => ?_) (fun h => absurd (rfl) h)
            refine x_al c_Md_readPairs_153 rfl ?_
            refine x_il c_Md_readPairs_154 rfl ?_
            refine x_il c_Md_readPairs_156 rfl ?_
            refine x_cv2z _ c_Md_readPairs_157 (by first | rfl | exact hc3.1 | exact k13) (Nat.le_of_ble_eq_true rfl) (y_Md_readAttribute (d := d) hc3.1 k13 htb n3 (by omega) v3 h24 A3 (p := p1) (e := y) (by omega) (by omega)) ?_
            rintro v μ5 ⟨s5, hc5, ⟨t, V, vf5, r5, rfl, n5, v5, l5, A5, w0, w1⟩ | ⟨r5, rfl, tf5, ff5, cf5, vf5, A5⟩⟩
            · show kc_X _ _ _ _ _ [.int (bI true)] _ _
              have e5 : s5 15 = s5 15 := rfl
              refine x_if_ne c_Md_readPairs_160 (fun _ => ?_) (fun h => absurd h (by decide))
              refine x_il c_Md_readPairs_165 rfl ?_
              refine x_is [_, _, _, _, _] c_Md_readPairs_166 rfl ?_
              refine x_goto c_Md_readPairs_167 ?_
              have hV24 : ∀ v ∈ V, v = -1 ∨ 0 ≤ v := atG_nn htb r5
              rw [asS_s tb false m (tot cs) p1 e, if_pos hp, a1_f r3 r5] at hR
              dsimp only at hR
              have e8 : cs.length + 1 = (cs ++ [((0, t, V) : cg)]).length := by rw [List.length_append]; rfl
              have e7 : tot cs + V.length = tot (cs ++ [((0, t, V) : cg)]) := by rw [tot_a]; rfl
              exact ih (cs ++ [((0, t, V) : cg)]) y μ5 s5 kf1 _ _ _ vf5 _ _ (by rw [← e8]; omega) (by rw [← e8]; omega) (by rw [← e7]; exact l5) i3.2.2 (by rw [hR, Option.map_map, ← e7]; congr 1; funext z; simp) (m3.A hc5) (by rw [← e8]; exact n5) (by rw [← e7]; exact v5) ((hc5.2.1 23 (by decide)).trans ((hc3.2.1 23 (by decide)).trans q23)) ((hc5.2.1 24 (by decide)).trans ((hc3.2.1 24 (by decide)).trans q24)) A5 (by
                refine maL_a cs 0 0 (maL_k cs 0 0 hL (fun j hj => ⟨rfl, if_neg (by omega), if_neg (by omega), if_neg (by omega)⟩) (fun j hj => w0 j (by omega))) ?_ ?_
                · rw [Nat.zero_add, Nat.zero_add]; exact ⟨if_pos rfl, if_pos rfl, if_pos rfl, by show 0 < 256; omega, fun j hj => w1 j hj, hV24, l5⟩
                · rw [Nat.zero_add]; exact (fun h => by cases h))
            · show kc_X _ _ _ _ _ [.int (bI false)] _ _
              refine x_if_ne c_Md_readPairs_160 (fun h => absurd (rfl) h) (fun _ => ?_)
              refine x_ci c_Md_readPairs_163 ?_
              refine x_rz c_Md_readPairs_164 (by first | decide | exact kz_n _) ?_
              exact ⟨_, m3.A hc5, Or.inr ⟨by rw [hac, hR, asS_s, if_pos hp, a1_fn r3 r5]; rfl, rfl, _, _, _, _, _, A5⟩⟩
          · show kc_X _ _ _ _ _ [.int (bI false)] _ _
            have A3 := maA_k A1 (μ' := μ3) (fun q h1 h2 => hc3.2.2 q (by omega))
            refine x_if_ne c_Md_readPairs_97 (fun h => absurd (rfl) h) (fun _ => ?_)
            refine x_ci c_Md_readPairs_100 ?_
            refine x_rz c_Md_readPairs_101 (by first | decide | exact kz_n _) ?_
            exact ⟨_, hC.C hc3, Or.inr ⟨by rw [hac, hR, asS_s, if_pos hp, a1_0 r3]; rfl, rfl, _, _, _, _, _, A3⟩⟩
      · have hn : asS tb kb (m + 1) (tot cs) p1 e = some [] := by rw [asS_s, if_neg hp]
        refine x_il c_Md_readPairs_69 rfl ?_
        refine x_al c_Md_readPairs_70 rfl ?_
        refine x_getE c_Md_readPairs_71 (by first | rfl | exact k0 | exact k1) rfl (by first | exact q19 | exact n1 | rfl) ?_
        refine x_cmN_ge c_Md_readPairs_74 (by omega) (by omega) (fun _ => ?_) (fun h => (by exfalso; omega))
        refine x_ci c_Md_readPairs_170 ?_
        refine x_rz c_Md_readPairs_171 (by first | decide | exact kz_n _) ?_
        exact ⟨s1, hC, Or.inl ⟨x2, y2, cs, kf1, tf1, ff1, cf1, vf1, by rw [hac, hR, hn]; simp, rfl, q23, q24, i2.2.1, i2.2.2, n1, h12, h24, A1, hL⟩⟩
  refine x_al c_Md_readPairs_0 rfl ?_
  refine x_al c_Md_readPairs_1 rfl ?_
  refine x_getE c_Md_readPairs_2 (by first | rfl | exact h0 | exact h1) rfl (by first | exact hs18 | exact hs19 | rfl) ?_
  refine x_al c_Md_readPairs_5 rfl ?_
  refine x_getE c_Md_readPairs_6 (by first | rfl | exact h0 | exact h1) rfl (by first | exact hs18 | exact hs19 | rfl) ?_
  refine x_ci c_Md_readPairs_9 ?_
  refine x_cv3z _ c_Md_readPairs_10 (by first | rfl | exact h0 | exact h1) (Nat.le_of_ble_eq_true rfl) (y_Md_tagged (d := d + 2) h0 h1 htb (p := c) (e := e) (by omega) he (t := 4) (by omega)) ?_
  rintro v μ2 ⟨s2, hc2, ⟨x2, y2, r2, rfl, a2, b2, d2⟩ | ⟨r2, rfl⟩⟩
  · show kc_X _ _ _ _ _ [.int (bI true)] _ _
    have k12 : μ2.1 137 = some (ce_I 200 (fun j => nI (tb j))) := (hc2.2.2 137 (by omega)).trans h1
    have A2 := maA_k hA (μ' := μ2) (fun q h1 h2 => hc2.2.2 q (by omega))
    have i2 := tl_in r2
    have q2 : s2 19 = nI e := (hc2.2.1 19 (by decide)).trans hs19
    refine x_if_ne c_Md_readPairs_13 (fun _ => ?_) (fun h => absurd h (by decide))
    refine x_al c_Md_readPairs_18 rfl ?_
    refine x_al c_Md_readPairs_19 rfl ?_
    refine x_getE c_Md_readPairs_20 (by first | rfl | exact hc2.1 | exact k12) rfl (by first | exact b2 | exact d2 | exact q2 | rfl) ?_
    refine x_putM c_Md_readPairs_23 (by first | rfl | exact hc2.1 | exact k12) ⟨by decide, rfl, rfl⟩ rfl ?_
    refine x_al c_Md_readPairs_26 rfl ?_
    refine x_al c_Md_readPairs_27 rfl ?_
    refine x_getE c_Md_readPairs_28 (by first | rfl | exact hc2.1 | exact k12) rfl (by first | exact b2 | exact d2 | exact q2 | rfl) ?_
    refine x_putM c_Md_readPairs_31 (by first | rfl | exact hc2.1 | exact k12) ⟨by decide, rfl, rfl⟩ rfl ?_
    refine x_al c_Md_readPairs_34 rfl ?_
    refine x_al c_Md_readPairs_35 rfl ?_
    refine x_getE c_Md_readPairs_36 (by first | rfl | exact hc2.1 | exact k12) rfl (by first | exact b2 | exact d2 | exact q2 | rfl) ?_
    refine x_al c_Md_readPairs_39 rfl ?_
    refine x_getE c_Md_readPairs_40 (by first | rfl | exact hc2.1 | exact k12) rfl (by first | exact b2 | exact d2 | exact q2 | rfl) ?_
    refine x_ci c_Md_readPairs_43 ?_
    refine x_cv3z _ c_Md_readPairs_45 (by first | rfl | exact hc2.1 | exact k12) (Nat.le_of_ble_eq_true rfl) (y_Md_tagged (d := d + 2) (μ := kc_u (kc_u μ2 136 _) 136 _) (s := upd (upd s2 23 _) 24 _) kc_gs (by exact k12) htb (p := y2) (e := e) (by omega) he (t := 48) (by omega)) ?_
    rintro v μ3 ⟨s3, hc3, ⟨x, y, r3, rfl, a3, b3, d3⟩ | ⟨r3, rfl⟩⟩
    · show kc_X _ _ _ _ _ [.int (bI true)] _ _
      have A3 := maA_k A2 (μ' := μ3) (fun q h1 h2 => (hc3.2.2 q (by omega)).trans ((kc_gf (by omega)).trans (kc_gf (by omega))))
      have i3 := tl_in r3
      have m3 := ((((mP.re h0).C hc2).p (Or.inl rfl)).p (Or.inr rfl)).C hc3
      have q3 : s3 19 = nI e := (hc3.2.1 19 (by decide)).trans q2
      refine x_if_eq c_Md_readPairs_48 (fun h => absurd h (by decide)) (fun _ => ?_)
      refine x_al c_Md_readPairs_51 rfl ?_
      refine x_getE c_Md_readPairs_52 (by first | rfl | exact hc3.1) rfl (by first | exact b3 | exact d3 | exact q3 | rfl) ?_
      refine x_al c_Md_readPairs_55 rfl ?_
      refine x_getE c_Md_readPairs_56 (by first | rfl | exact hc3.1) rfl (by first | exact b3 | exact d3 | exact q3 | rfl) ?_
      first | refine x_cmN_eq c_Md_readPairs_59 (by omega) (by omega) (fun h59 => ?_) (fun h59 => ?_) | refine x_cm_eq c_Md_readPairs_59 (fun h59 => ?_) (fun h59 => ?_)
      · refine x_al c_Md_readPairs_64 rfl ?_
        refine x_getE c_Md_readPairs_65 (by first | rfl | exact hc3.1) rfl (by first | exact b3 | exact d3 | exact q3 | rfl) ?_
        refine x_is [_, _, _, _, _] c_Md_readPairs_68 rfl ?_
        exact loop x2 y2 x r2 (by unfold acS; rw [r2]; dsimp only; rw [r3]; dsimp only; rw [if_pos h59, h59]) 12 [] x μ3 s3 kf tf ff cf vf _ _ rfl (Nat.zero_le _) (Nat.zero_le _) (by omega) (by show _ = Option.map (fun l => [] ++ l) (asS tb kb 12 0 x e); simp) m3 ((hc3.2.1 33 (by decide)).trans ((hc2.2.1 33 (by decide)).trans h33)) ((hc3.2.1 38 (by decide)).trans ((hc2.2.1 38 (by decide)).trans h38)) ((hc3.2.1 23 (by decide)).trans rfl) ((hc3.2.1 24 (by decide)).trans rfl) A3 trivial
      · refine x_ci c_Md_readPairs_62 ?_
        refine x_rz c_Md_readPairs_63 (by first | decide | exact kz_n _) ?_
        exact ⟨_, m3, Or.inr ⟨by unfold acS; rw [r2]; dsimp only; rw [r3]; dsimp only; rw [if_neg h59], rfl, _, _, _, _, _, A3⟩⟩
    · show kc_X _ _ _ _ _ [.int (bI false)] _ _
      have A3 := maA_k A2 (μ' := μ3) (fun q h1 h2 => (hc3.2.2 q (by omega)).trans ((kc_gf (by omega)).trans (kc_gf (by omega))))
      refine x_if_eq c_Md_readPairs_48 (fun _ => ?_) (fun h => absurd (rfl) h)
      refine x_ci c_Md_readPairs_62 ?_
      refine x_rz c_Md_readPairs_63 (by first | decide | exact kz_n _) ?_
      exact ⟨_, ((((mP.re h0).C hc2).p (Or.inl rfl)).p (Or.inr rfl)).C hc3, Or.inr ⟨by unfold acS; rw [r2]; dsimp only; rw [r3], rfl, _, _, _, _, _, A3⟩⟩
  · show kc_X _ _ _ _ _ [.int (bI false)] _ _
    have A2 := maA_k hA (μ' := μ2) (fun q h1 h2 => hc2.2.2 q (by omega))
    refine x_if_ne c_Md_readPairs_13 (fun h => absurd (rfl) h) (fun _ => ?_)
    refine x_ci c_Md_readPairs_16 ?_
    refine x_rz c_Md_readPairs_17 (by first | decide | exact kz_n _) ?_
    exact ⟨_, (mP.re h0).C hc2, Or.inr ⟨by unfold acS; rw [r2], rfl, _, _, _, _, _, A2⟩⟩
