/-! the class reads one filter -/
theorem flO_node {tb : Nat → Nat} {fp : Nat → Nat → Nat → Nat → Option Fo} {g c p e t : Nat} (hc : c < 20) (hp : tb p = t) (h : 160 ≤ t ∧ t ≤ 162) : flO tb fp (g + 1) c p e = (match el tb p e with | none => none | some (x, y) => (match fp g (c + 1) x y with | none => none | some F => if t = 162 ∧ (fln F) ≠ 1 then none else some (t, (0 : Int32), (0 : Int64), F, y))) := by
  unfold flO
  rw [if_neg (by omega), hp]
  cases el tb p e with
  | none => rfl
  | some q =>
    dsimp only
    rw [if_neg (by unfold lft; rw [decide_eq_false (by omega), decide_eq_false (by omega), decide_eq_false (by omega), decide_eq_false (by omega)]; decide), if_pos h]; rfl
theorem flO_leaf {tb : Nat → Nat} {fp : Nat → Nat → Nat → Nat → Option Fo} {g c p e t : Nat} (hc : c < 20) (hp : tb p = t) (h : lft t = true) : flO tb fp (g + 1) c p e = (match el tb p e with | none => none | some (x, y) => (match lfP tb t x y with | none => none | some (ty, v) => some (t, ty, v, Fo.nil, y))) := by
  unfold flO
  rw [if_neg (by omega), hp]
  cases el tb p e with
  | none => rfl
  | some q =>
    dsimp only
    rw [if_pos h]
theorem flO_tag {tb : Nat → Nat} {fp : Nat → Nat → Nat → Nat → Option Fo} {g c p e t : Nat} (hp : tb p = t) (h : lft t = false) (h2 : ¬ (160 ≤ t ∧ t ≤ 162)) : flO tb fp g c p e = none := by
  unfold flO
  split
  · rfl
  · rw [hp]
    cases el tb p e with
    | none => rfl
    | some q =>
      dsimp only
      rw [if_neg (by rw [h]; decide), if_neg h2]
theorem flO_el {tb : Nat → Nat} {fp : Nat → Nat → Nat → Nat → Option Fo} {g c p e : Nat} (h : el tb p e = none) : flO tb fp g c p e = none := by
  unfold flO
  split
  · rfl
  · rw [h]
theorem flO_20 {tb : Nat → Nat} {fp : Nat → Nat → Nat → Nat → Option Fo} {g c p e : Nat} (h : 20 ≤ c ∨ g = 0) : flO tb fp g c p e = none := by
  unfold flO
  rw [if_pos h]
theorem el_pp {tb : Nat → Nat} {p e : Nat} (h : ¬ p < e) : el tb p e = none := by
  unfold el
  rw [if_neg (by omega), if_neg (by omega)]
theorem rok_P {tb : Nat → Nat} {t sz : Nat} {r : RS} (h : rok sz r) : rok sz (rpR tb t r) ∧ (rpR tb t r).2.1 = r.2.1 := by
  have h1 := rok_E (tb := tb) (tag := nI t) h
  have h2 := rok_S (tb := tb) (tag := nI 4) h1.1
  have h3 := rok_S (tb := tb) (tag := nI 4) h2.1
  exact ⟨rok_L h3.1 (by rw [h3.2.1, h2.2.1]; exact h1.2.1) h.2.1, rfl⟩
set_option maxRecDepth 100000 in
set_option maxHeartbeats 4000000 in
theorem y_Fi_readOne {tb : Nat → Nat} {sz : Nat} {ix : Int32} (htb : ∀ j, tb j < 256) : ∀ (g : Nat), g ≤ 6 → ∀ d, RdO tb sz ix (d + 5 + 2 * g) g := by
  intro g
  induction g with
  | zero =>
    intro _ d m μ r c kf tf vf ef hr h hw hA hc hm
    refine ⟨Nat.le_of_ble_eq_true rfl, ?_⟩
    refine x_il c_Fi_readOne_0 rfl ?_
    refine x_ci c_Fi_readOne_1 ?_
    refine x_cmN_gt c_Fi_readOne_3 (by omega) (by omega) (fun _ => ?_) (fun h => (by exfalso; omega))
    refine x_al c_Fi_readOne_15 rfl ?_
    refine x_ci c_Fi_readOne_16 ?_
    refine x_put [_, _, _, _, _, _, _, _] c_Fi_readOne_17 (by first | rfl | exact hr.1 | exact hA.1) ⟨Nat.le_of_ble_eq_true rfl, by first | decide | exact kz_n _, by first | decide | exact kz_f _⟩ rfl ?_
    refine x_ret c_Fi_readOne_20 ?_
    exact ⟨rfl, rW r, c, kf, tf, vf, ef, ⟨⟨rfl, hr.2⟩, h, rfl, fiA_k hA (fun q q1 q2 => kc_gf (by omega)), Nat.le_refl _, hc, fun q q1 _ => kc_gf q1, fun _ _ => ⟨rfl, rfl, rfl, rfl⟩⟩, by rw [flO_20 (Or.inr rfl)]; exact rfl⟩
  | succ g ihg =>
    intro hg d m μ r c kf tf vf ef hr h hw hA hc hm
    have ihg := ihg (by omega) d
    obtain ⟨E, hE⟩ : ∃ E, E = d + 2 * (g + 1) := ⟨_, rfl⟩
    rw [show d + 5 + 2 * (g + 1) = E + 4 + 1 by omega]
    refine ⟨Nat.le_of_ble_eq_true rfl, ?_⟩
    have hz := h.2.2
    by_cases hc20 : 20 ≤ c
    · skip
      refine x_il c_Fi_readOne_0 rfl ?_
      refine x_ci c_Fi_readOne_1 ?_
      refine x_cmN_gt c_Fi_readOne_3 (by omega) (by omega) (fun h => (by exfalso; omega)) (fun _ => ?_)
      refine x_al c_Fi_readOne_6 rfl ?_
      refine x_get c_Fi_readOne_7 (by first | rfl | exact hr.1 | exact hA.1) rfl ?_
      refine x_ci c_Fi_readOne_10 ?_
      refine x_cmN_lt c_Fi_readOne_12 (by omega) (by omega) (fun h => (by exfalso; omega)) (fun _ => ?_)
      refine x_al c_Fi_readOne_15 rfl ?_
      refine x_ci c_Fi_readOne_16 ?_
      refine x_put [_, _, _, _, _, _, _, _] c_Fi_readOne_17 (by first | rfl | exact hr.1 | exact hA.1) ⟨Nat.le_of_ble_eq_true rfl, by first | decide | exact kz_n _, by first | decide | exact kz_f _⟩ rfl ?_
      refine x_ret c_Fi_readOne_20 ?_
      exact ⟨rfl, rW r, c, kf, tf, vf, ef, ⟨⟨rfl, hr.2⟩, h, rfl, fiA_k hA (fun q q1 q2 => kc_gf (by omega)), Nat.le_refl _, hc, fun q q1 _ => kc_gf q1, fun _ _ => ⟨rfl, rfl, rfl, rfl⟩⟩, by rw [flO_20 (Or.inl hc20)]; exact rfl⟩
    · have fin : ∀ (μ3 : kc_M) (r3 : RS) (c3 : Nat) (kf3 tf3 : Nat → Int32) (vf3 : Nat → Int64) (ef3 : Nat → Int32), foL μ μ3 tb sz ix r.2.1 c kf tf vf ef r3 c3 kf3 tf3 vf3 ef3 → foO (flO tb (flP tb m) (g + 1) c r.1 r.2.1) c r3 c3 kf3 tf3 vf3 (upd ef3 c (nI c3)) → kc_X (kC j_Fi_readOne) (kc_Y kt kC (E + 4)) (fun w μ' => w = none ∧ ∃ r' c' kf' tf' vf' ef', foL μ μ' tb sz ix r.2.1 c kf tf vf ef r' c' kf' tf' vf' ef' ∧ foO (flO tb (flP tb m) (g + 1) c r.1 r.2.1) c r' c' kf' tf' vf' ef') 164 [some (.ref 128), some (.ref 1), some (.int (nI (7 - (g + 1)))), some (.int (nI c))] [] μ3 (0, 0) := by
        intro μ3 r3 c3 kf3 tf3 vf3 ef3 hL hO
        obtain ⟨b1, b2, b3, b4, b5, b6, b7, b8⟩ := hL
        refine x_al c_Fi_readOne_164 rfl ?_
        refine x_get c_Fi_readOne_165 (by first | rfl | exact b4.1 | exact b4.2.2.2.2) rfl ?_
        refine x_il c_Fi_readOne_168 rfl ?_
        refine x_al c_Fi_readOne_169 rfl ?_
        refine x_get c_Fi_readOne_170 (by first | rfl | exact b4.1 | exact b4.2.2.2.2) rfl ?_
        refine x_iastN c_Fi_readOne_173 (by first | rfl | exact b4.1 | exact b4.2.2.2.2) (by omega) (by omega) ?_
        refine x_ret c_Fi_readOne_174 ?_
        exact ⟨rfl, r3, c3, kf3, tf3, vf3, _, ⟨⟨(kc_gf (by decide)).trans b1.1, (kc_gf (by decide)).trans b1.2⟩, b2, b3, ⟨(kc_gf (by decide)).trans b4.1, (kc_gf (by decide)).trans b4.2.1, (kc_gf (by decide)).trans b4.2.2.1, (kc_gf (by decide)).trans b4.2.2.2.1, kc_gs⟩, b5, b6, fun q q1 q2 => (kc_gf (by omega)).trans (b7 q q1 q2), fun j hj => ⟨(b8 j hj).1, (b8 j hj).2.1, (b8 j hj).2.2.1, (if_neg (by omega)).trans (b8 j hj).2.2.2⟩⟩, hO⟩
      have rest : ∀ (t : Nat), tb r.1 = t → r.1 < r.2.1 → ∀ μ2 : kc_M, fiA μ2 (c + 1) (upd kf c (nI t)) tf vf ef → rd_r μ2 tb sz ix r → (∀ q, q ≠ 1 → q < 128 ∨ 132 < q → μ2.1 q = μ.1 q) → kc_X (kC j_Fi_readOne) (kc_Y kt kC (E + 4)) (fun w μ' => w = none ∧ ∃ r' c' kf' tf' vf' ef', foL μ μ' tb sz ix r.2.1 c kf tf vf ef r' c' kf' tf' vf' ef' ∧ foO (flO tb (flP tb m) (g + 1) c r.1 r.2.1) c r' c' kf' tf' vf' ef') 46 [some (.ref 128), some (.ref 1), some (.int (nI (7 - (g + 1)))), some (.int (nI c))] [] μ2 (0, 0) := by
        intro t hp hlt μ2 hA2 hr2 hf2
        have ht31 : t < 2 ^ 31 := by rw [← hp]; exact tbl htb _
        have hne : ∀ k, k < 2 ^ 31 → t ≠ k → ¬ nI t = nI k := fun k hk hh q => hh ((nI_eq ht31 hk).mp q)
        have hkc : (upd kf c (nI t)) c = nI t := if_pos rfl
        have hre : r = (r.1, r.2.1, false, r.2.2.2.1, r.2.2.2.2) := rs_eta rfl rfl hw
        by_cases hnode : 160 ≤ t ∧ t ≤ 162
        · have hri := y_Fi_readInner (d + 5 + 2 * g) (by omega) htb (g := g) (by omega) ihg (m := m) hr2 h hw hA2 (by omega) hkc hp hnode hm
          rw [show d + 5 + 2 * g + 1 = E + 4 by omega] at hri
          refine x_al c_Fi_readOne_46 rfl ?_
          refine x_get c_Fi_readOne_47 (by first | rfl | exact hr2.1 | exact hA2.1 | exact hA2.2.1) rfl ?_
          refine x_il c_Fi_readOne_50 rfl ?_
          refine x_ialdE c_Fi_readOne_51 (by first | rfl | exact hr2.1 | exact hA2.1 | exact hA2.2.1) (by omega) (by omega) (hkc) ?_
          refine x_sw 120 c_Fi_readOne_52 (by rcases (by omega : t = 160 ∨ t = 161 ∨ t = 162) with q | q | q <;> rw [q] <;> rfl) ?_
          refine x_al c_Fi_readOne_120 rfl ?_
          refine x_al c_Fi_readOne_121 rfl ?_
          refine x_il c_Fi_readOne_122 rfl ?_
          refine x_il c_Fi_readOne_123 rfl ?_
          refine x_cv3z _ c_Fi_readOne_124 (by first | rfl | exact hr2.1 | exact hA2.1 | exact hA2.2.1) (Nat.le_of_ble_eq_true rfl) (hri) ?_
          rintro _ μ3 ⟨rfl, r3, c3, kf3, tf3, vf3, ef3, hL3, hO3⟩
          show kc_X _ _ _ _ _ [] _ _
          refine x_goto c_Fi_readOne_127 ?_
          obtain ⟨b1, b2, b3, b4, b5, b6, b7, b8⟩ := id hL3
          refine fin μ3 r3 c3 kf3 tf3 vf3 ef3 ⟨b1, b2, b3, b4, by omega, b6, fun q q1 q2 => (b7 q q1 q2).trans (hf2 q q1 q2), fun j hj => ⟨(b8 j (by omega)).1.trans (if_neg (by omega)), (b8 j (by omega)).2.1, (b8 j (by omega)).2.2.1, (b8 j (by omega)).2.2.2⟩⟩ ?_
          rw [flO_node (by omega) hp hnode]
          have hsh : ∀ t' ty' v' F' y', (match el tb r.1 r.2.1 with | none => none | some (x, y) => (match flP tb m g (c + 1) x y with | none => none | some F => if t = 162 ∧ (fln F) ≠ 1 then none else some (t, (0 : Int32), (0 : Int64), F, y))) = some (t', ty', v', F', y') → t' = t ∧ ty' = 0 ∧ v' = 0 := by
            intro t' ty' v' F' y' q
            split at q
            · cases q
            · split at q
              · cases q
              · split at q
                · cases q
                · cases q; exact ⟨rfl, rfl, rfl⟩
          revert hO3 hsh
          generalize (match el tb r.1 r.2.1 with | none => none | some (x, y) => (match flP tb m g (c + 1) x y with | none => none | some F => if t = 162 ∧ (fln F) ≠ 1 then none else some (t, (0 : Int32), (0 : Int64), F, y))) = oo
          cases oo with
          | none => exact fun q _ => q
          | some q =>
            obtain ⟨t', ty', v', F', y'⟩ := q
            intro ⟨q1, q2, q3, q4⟩ hsh
            obtain ⟨rfl, rfl, rfl⟩ := hsh _ _ _ _ _ rfl
            have hnl : lft t' = false := by unfold lft; rw [decide_eq_false (by omega), decide_eq_false (by omega), decide_eq_false (by omega), decide_eq_false (by omega)]; rfl
            refine ⟨q1, q2, by rw [fsz_c]; have : fsz Fo.nil = 0 := rfl; omega, ⟨(b8 c (by omega)).1.trans (if_pos rfl), fun q => (by rw [hnl] at q; cases q), (if_pos rfl).trans (by rw [q3])⟩, enC_k _ _ q4 (fun j j1 j2 => ⟨rfl, rfl, rfl, if_neg (by omega)⟩), trivial⟩
        · by_cases hpair : t = 163 ∨ t = 165 ∨ t = 166
          · have hlf : lft t = true := by rcases hpair with q | q | q <;> rw [q] <;> rfl
            have h135 : t ≠ 135 := by omega
            have hrp := y_Fi_readPair E htb hr2 h hA2 (i := c) (t := t) (by omega) hkc
            have hkp := rok_P (tb := tb) (t := t) h
            refine x_al c_Fi_readOne_46 rfl ?_
            refine x_get c_Fi_readOne_47 (by first | rfl | exact hr2.1 | exact hA2.1 | exact hA2.2.1) rfl ?_
            refine x_il c_Fi_readOne_50 rfl ?_
            refine x_ialdE c_Fi_readOne_51 (by first | rfl | exact hr2.1 | exact hA2.1 | exact hA2.2.1) (by omega) (by omega) (hkc) ?_
            refine x_sw 130 c_Fi_readOne_52 (by rcases hpair with q | q | q <;> rw [q] <;> rfl) ?_
            refine x_al c_Fi_readOne_130 rfl ?_
            refine x_al c_Fi_readOne_131 rfl ?_
            refine x_il c_Fi_readOne_132 rfl ?_
            refine x_cv2z _ c_Fi_readOne_133 (by first | rfl | exact hr2.1 | exact hA2.1 | exact hA2.2.1) (Nat.le_of_ble_eq_true rfl) (hrp) ?_
            rintro _ μ3 ⟨rfl, hr3, hA3, f3⟩
            show kc_X _ _ _ _ _ [] _ _
            refine x_goto c_Fi_readOne_136 ?_
            refine fin μ3 (rpR tb t r) (c + 1) _ _ _ _ ⟨hr3, hkp.1, hkp.2, hA3, by omega, by omega, fun q q1 q2 => (f3 q q1 q2).trans (hf2 q q1 q2), fun j hj => ⟨if_neg (by omega), if_neg (by omega), if_neg (by omega), rfl⟩⟩ ?_
            rw [flO_leaf (by omega) hp hlf]
            (
              rw [hre]
              rcases el_or tb r.1 r.2.1 with hel | ⟨x, y, hel⟩
              · rw [hel]
                exact rp_no htb hp h135 (fun x y q => absurd (hel.symm.trans q) (fun q => by cases q))
              · rw [hel]
                dsimp only
                cases hlp : lfP tb t x y with
                | none =>
                  refine rp_no htb hp h135 (fun x' y' q => ?_)
                  rw [hel] at q
                  cases q
                  exact hlp
                | some tv' =>
                  obtain ⟨ty, v⟩ := tv'
                  obtain ⟨⟨sf', st', q1⟩, q2, q3⟩ := rp_ok htb (sf := r.2.2.2.1) (st := r.2.2.2.2) hp hel h135 hlp
                  dsimp only
                  rw [q1, q2, q3]
                  exact ⟨rfl, rfl, rfl, ⟨if_pos rfl, fun _ => ⟨if_pos rfl, fun _ => if_pos rfl⟩, if_pos rfl⟩, trivial, trivial⟩)
          · by_cases h135 : t = 135
            · have hlf : lft t = true := by rw [h135]; rfl
              have hks := rok_S (tb := tb) (tag := nI 135) h
              subst h135
              refine x_al c_Fi_readOne_46 rfl ?_
              refine x_get c_Fi_readOne_47 (by first | rfl | exact hr2.1 | exact hA2.1 | exact hA2.2.1 | exact hr3.1 | exact A3.1 | exact A3.2.2.1) rfl ?_
              refine x_il c_Fi_readOne_50 rfl ?_
              refine x_ialdE c_Fi_readOne_51 (by first | rfl | exact hr2.1 | exact hA2.1 | exact hA2.2.1 | exact hr3.1 | exact A3.1 | exact A3.2.2.1) (by omega) (by omega) (hkc) ?_
              refine x_sw 139 c_Fi_readOne_52 (by rfl) ?_
              refine x_al c_Fi_readOne_139 rfl ?_
              refine x_ci c_Fi_readOne_140 ?_
              refine x_cv1z _ c_Fi_readOne_143 (by first | rfl | exact hr2.1 | exact hA2.1 | exact hA2.2.1 | exact hr3.1 | exact A3.1 | exact A3.2.2.1) (Nat.le_of_ble_eq_true rfl) (y_Rd_span (E + 2) hr2 h htb (tag := nI 135)) ?_
              rintro _ μ3 ⟨rfl, hr3, f3⟩
              have A3 := fiA_k hA2 (μ' := μ3) (fun q q1 q2 => f3 q (by omega))
              show kc_X _ _ _ _ _ [] _ _
              refine x_al c_Fi_readOne_146 rfl ?_
              refine x_get c_Fi_readOne_147 (by first | rfl | exact hr2.1 | exact hA2.1 | exact hA2.2.1 | exact hr3.1 | exact A3.1 | exact A3.2.2.1) rfl ?_
              refine x_il c_Fi_readOne_150 rfl ?_
              refine x_al c_Fi_readOne_151 rfl ?_
              refine x_cv0z _ c_Fi_readOne_152 (by first | rfl | exact hr2.1 | exact hA2.1 | exact hA2.2.1 | exact hr3.1 | exact A3.1 | exact A3.2.2.1) (Nat.le_of_ble_eq_true rfl) (y_Rd_spanType (E + 2) hr3 htb hks.2.2.1 (by have := hks.2.2.2.1; omega)) ?_
              rintro _ μx ⟨rfl, hμx⟩
              have hμx := hμx.symm
              subst hμx
              show kc_X _ _ _ _ _ (.int (tyS tb (rS tb (nI 135) r).2.2.2.1 (rS tb (nI 135) r).2.2.2.2) :: _) _ _
              refine x_iastN c_Fi_readOne_155 (by first | rfl | exact hr2.1 | exact hA2.1 | exact hA2.2.1 | exact hr3.1 | exact A3.1 | exact A3.2.2.1) (by omega) (by omega) ?_
              refine x_goto c_Fi_readOne_156 ?_
              refine fin _ (rS tb (nI 135) r) (c + 1) (upd kf c (nI 135)) (upd tf c (tyS tb (rS tb (nI 135) r).2.2.2.1 (rS tb (nI 135) r).2.2.2.2)) vf ef ⟨(by exact ⟨hr3.1, hr3.2⟩), hks.1, hks.2.1, ⟨(kc_gf (by decide)).trans A3.1, (kc_gf (by decide)).trans A3.2.1, kc_gs, (kc_gf (by decide)).trans A3.2.2.2.1, (kc_gf (by decide)).trans A3.2.2.2.2⟩, by omega, by omega, fun q q1 q2 => (kc_gf (by omega)).trans ((f3 q q1).trans (hf2 q q1 q2)), fun j hj => ⟨if_neg (by omega), if_neg (by omega), rfl, rfl⟩⟩ ?_
              rw [flO_leaf (by omega) hp hlf]
              (
                rw [hre]
                rcases el_or tb r.1 r.2.1 with hel | ⟨x, y, hel⟩
                · rw [hel]
                  exact rS_no htb (by omega) (by unfold tl; rw [if_pos hp]; exact hel)
                · rw [hel]
                  rw [rS_ok htb (by omega) (by unfold tl; rw [if_pos hp]; exact hel)]
                  exact ⟨rfl, rfl, rfl, ⟨if_pos rfl, fun _ => ⟨if_pos rfl, fun q => absurd rfl q⟩, if_pos rfl⟩, trivial, trivial⟩)
            · have hlf : lft t = false := by unfold lft; rw [decide_eq_false (by omega), decide_eq_false (by omega), decide_eq_false (by omega), decide_eq_false (by omega)]; rfl
              refine x_al c_Fi_readOne_46 rfl ?_
              refine x_get c_Fi_readOne_47 (by first | rfl | exact hr2.1 | exact hA2.1 | exact hA2.2.1) rfl ?_
              refine x_il c_Fi_readOne_50 rfl ?_
              refine x_ialdE c_Fi_readOne_51 (by first | rfl | exact hr2.1 | exact hA2.1 | exact hA2.2.1) (by omega) (by omega) (hkc) ?_
              refine x_sw 159 c_Fi_readOne_52 ((if_neg (hne 135 (by decide) (by omega))).trans ((if_neg (hne 160 (by decide) (by omega))).trans ((if_neg (hne 161 (by decide) (by omega))).trans ((if_neg (hne 162 (by decide) (by omega))).trans ((if_neg (hne 163 (by decide) (by omega))).trans ((if_neg (hne 165 (by decide) (by omega))).trans (if_neg (hne 166 (by decide) (by omega))))))))) ?_
              refine x_al c_Fi_readOne_159 rfl ?_
              refine x_ci c_Fi_readOne_160 ?_
              refine x_put [_, _, _, _, _, _, _, _] c_Fi_readOne_161 (by first | rfl | exact hr2.1 | exact hA2.1 | exact hA2.2.1) ⟨Nat.le_of_ble_eq_true rfl, by first | decide | exact kz_n _, by first | decide | exact kz_f _⟩ rfl ?_
              refine fin _ (rW r) (c + 1) (upd kf c (nI t)) tf vf ef ⟨(by exact ⟨rfl, hr2.2⟩), h, rfl, fiA_k hA2 (fun q q1 q2 => kc_gf (by omega)), by omega, by omega, fun q q1 q2 => (kc_gf q1).trans (hf2 q q1 q2), fun j hj => ⟨if_neg (by omega), rfl, rfl, rfl⟩⟩ ?_
              rw [flO_tag hp hlf hnode]
              exact rfl
      by_cases hlt : r.1 < r.2.1
      · have hmo : rM r = true := by unfold rM; rw [hw, decide_eq_true hlt]; rfl
        refine x_il c_Fi_readOne_0 rfl ?_
        refine x_ci c_Fi_readOne_1 ?_
        refine x_cmN_gt c_Fi_readOne_3 (by omega) (by omega) (fun h => (by exfalso; omega)) (fun _ => ?_)
        refine x_al c_Fi_readOne_6 rfl ?_
        refine x_get c_Fi_readOne_7 (by first | rfl | exact hr.1 | exact hA.1 | exact hA.2.1) rfl ?_
        refine x_ci c_Fi_readOne_10 ?_
        refine x_cmN_lt c_Fi_readOne_12 (by omega) (by omega) (fun _ => ?_) (fun h => (by exfalso; omega))
        refine x_al c_Fi_readOne_21 rfl ?_
        refine x_get c_Fi_readOne_22 (by first | rfl | exact hr.1 | exact hA.1 | exact hA.2.1) rfl ?_
        refine x_is [_, _, _, _] c_Fi_readOne_25 rfl ?_
        refine x_al c_Fi_readOne_26 rfl ?_
        refine x_dup c_Fi_readOne_27 rfl ?_
        refine x_get c_Fi_readOne_28 (by first | rfl | exact hr.1 | exact hA.1 | exact hA.2.1) rfl ?_
        refine x_ci c_Fi_readOne_31 ?_
        first | refine x_iaddN c_Fi_readOne_32 ?_ | refine x_iadd c_Fi_readOne_32 ?_
        refine x_put [_, _, _, _, _] c_Fi_readOne_33 (by first | rfl | exact hr.1 | exact hA.1 | exact hA.2.1) ⟨Nat.le_of_ble_eq_true rfl, rfl, rfl⟩ rfl ?_
        refine x_al c_Fi_readOne_36 rfl ?_
        refine x_get c_Fi_readOne_37 (by first | rfl | exact hr.1 | exact hA.1 | exact hA.2.1) rfl ?_
        refine x_il c_Fi_readOne_40 rfl ?_
        refine x_al c_Fi_readOne_41 rfl ?_
        refine x_cv0z _ c_Fi_readOne_42 (by first | rfl | exact hr.1 | exact hA.1 | exact hA.2.1) (Nat.le_of_ble_eq_true rfl) (y_Rd_nextTag (E + 2) (r := r) (by exact ⟨hr.1, hr.2⟩) h htb) ?_
        rintro _ μx ⟨rfl, hμx⟩
        have hμx := hμx.symm
        subst hμx
        show kc_X _ _ _ _ _ (.int (rT tb r) :: _) _ _
        rw [show rT tb r = nI (tb r.1) by unfold rT; rw [if_pos hmo]]
        refine x_iastN c_Fi_readOne_45 (by first | rfl | exact hr.1 | exact hA.1 | exact hA.2.1) (by omega) (by omega) ?_
        exact rest _ rfl hlt _ ⟨(kc_gf (by decide)).trans kc_gs, kc_gs, (kc_gf (by decide)).trans ((kc_gf (by decide)).trans hA.2.2.1), (kc_gf (by decide)).trans ((kc_gf (by decide)).trans hA.2.2.2.1), (kc_gf (by decide)).trans ((kc_gf (by decide)).trans hA.2.2.2.2)⟩ (by exact ⟨hr.1, hr.2⟩) (fun q q1 q2 => (kc_gf (by omega)).trans (kc_gf (by omega)))
      · have hmo : ¬ rM r = true := by unfold rM; rw [hw, decide_eq_false hlt]; decide
        refine x_il c_Fi_readOne_0 rfl ?_
        refine x_ci c_Fi_readOne_1 ?_
        refine x_cmN_gt c_Fi_readOne_3 (by omega) (by omega) (fun h => (by exfalso; omega)) (fun _ => ?_)
        refine x_al c_Fi_readOne_6 rfl ?_
        refine x_get c_Fi_readOne_7 (by first | rfl | exact hr.1 | exact hA.1 | exact hA.2.1) rfl ?_
        refine x_ci c_Fi_readOne_10 ?_
        refine x_cmN_lt c_Fi_readOne_12 (by omega) (by omega) (fun _ => ?_) (fun h => (by exfalso; omega))
        refine x_al c_Fi_readOne_21 rfl ?_
        refine x_get c_Fi_readOne_22 (by first | rfl | exact hr.1 | exact hA.1 | exact hA.2.1) rfl ?_
        refine x_is [_, _, _, _] c_Fi_readOne_25 rfl ?_
        refine x_al c_Fi_readOne_26 rfl ?_
        refine x_dup c_Fi_readOne_27 rfl ?_
        refine x_get c_Fi_readOne_28 (by first | rfl | exact hr.1 | exact hA.1 | exact hA.2.1) rfl ?_
        refine x_ci c_Fi_readOne_31 ?_
        first | refine x_iaddN c_Fi_readOne_32 ?_ | refine x_iadd c_Fi_readOne_32 ?_
        refine x_put [_, _, _, _, _] c_Fi_readOne_33 (by first | rfl | exact hr.1 | exact hA.1 | exact hA.2.1) ⟨Nat.le_of_ble_eq_true rfl, rfl, rfl⟩ rfl ?_
        refine x_al c_Fi_readOne_36 rfl ?_
        refine x_get c_Fi_readOne_37 (by first | rfl | exact hr.1 | exact hA.1 | exact hA.2.1) rfl ?_
        refine x_il c_Fi_readOne_40 rfl ?_
        refine x_al c_Fi_readOne_41 rfl ?_
        refine x_cv0z _ c_Fi_readOne_42 (by first | rfl | exact hr.1 | exact hA.1 | exact hA.2.1) (Nat.le_of_ble_eq_true rfl) (y_Rd_nextTag (E + 2) (r := r) (by exact ⟨hr.1, hr.2⟩) h htb) ?_
        rintro _ μx ⟨rfl, hμx⟩
        have hμx := hμx.symm
        subst hμx
        show kc_X _ _ _ _ _ (.int (rT tb r) :: _) _ _
        rw [show rT tb r = -1 by unfold rT; rw [if_neg hmo]]
        refine x_iastN c_Fi_readOne_45 (by first | rfl | exact hr.1 | exact hA.1 | exact hA.2.1) (by omega) (by omega) ?_
        refine x_al c_Fi_readOne_46 rfl ?_
        refine x_get c_Fi_readOne_47 (by first | rfl | exact hr.1 | exact hA.1 | exact hA.2.1) rfl ?_
        refine x_il c_Fi_readOne_50 rfl ?_
        refine x_ialdE c_Fi_readOne_51 (by first | rfl | exact hr.1 | exact hA.1 | exact hA.2.1) (by omega) (by omega) (if_pos rfl) ?_
        refine x_sw 159 c_Fi_readOne_52 (rfl) ?_
        refine x_al c_Fi_readOne_159 rfl ?_
        refine x_ci c_Fi_readOne_160 ?_
        refine x_put [_, _, _, _, _, _, _, _] c_Fi_readOne_161 (by first | rfl | exact hr.1 | exact hA.1 | exact hA.2.1) ⟨Nat.le_of_ble_eq_true rfl, by first | decide | exact kz_n _, by first | decide | exact kz_f _⟩ rfl ?_
        refine fin _ (rW r) (c + 1) (upd kf c (-1)) tf vf ef ⟨(by exact ⟨rfl, hr.2⟩), h, rfl, ⟨(kc_gf (by decide)).trans ((kc_gf (by decide)).trans kc_gs), (kc_gf (by decide)).trans kc_gs, (kc_gf (by decide)).trans ((kc_gf (by decide)).trans ((kc_gf (by decide)).trans hA.2.2.1)), (kc_gf (by decide)).trans ((kc_gf (by decide)).trans ((kc_gf (by decide)).trans hA.2.2.2.1)), (kc_gf (by decide)).trans ((kc_gf (by decide)).trans ((kc_gf (by decide)).trans hA.2.2.2.2))⟩, by omega, by omega, fun q q1 q2 => (kc_gf q1).trans ((kc_gf (by omega)).trans (kc_gf (by omega))), fun j hj => ⟨if_neg (by omega), rfl, rfl, rfl⟩⟩ ?_
        rw [flO_el (el_pp hlt)]
        exact rfl
