/-! adding, the reference -/
theorem a1_kind {tb : Nat → Nat} {nv p e y : Nat} {c : cg} (h : a1S tb false nv p e = some (y, c)) : c.1 = 0 := by
  unfold a1S at h
  rw [if_neg (by decide)] at h
  split at h
  · cases h
  · cases h; rfl
theorem as_kind {tb : Nat → Nat} : ∀ (m nv p e : Nat) (cs : List cg), asS tb false m nv p e = some cs → ∀ c ∈ cs, c.1 = 0
  | 0, nv, p, e, cs, h => by
    unfold asS at h
    split at h
    · cases h
    · cases h; intro c hc; cases hc
  | m + 1, nv, p, e, cs, h => by
    rw [asS_s] at h
    split at h
    · cases hq : a1S tb false nv p e with
      | none => rw [hq] at h; cases h
      | some yc =>
        obtain ⟨y, c'⟩ := yc
        rw [hq] at h
        dsimp only at h
        cases h2 : asS tb false m (nv + c'.2.2.length) y e with
        | none => rw [h2] at h; cases h
        | some ds =>
          rw [h2] at h
          have h := Option.some.inj h
          subst h
          intro c hc
          rcases List.mem_cons.mp hc with q | q
          · rw [q]; exact a1_kind hq
          · exact as_kind m _ _ _ ds h2 c q
    · cases h; intro c hc; cases hc
theorem ac_kind {tb : Nat → Nat} {c e x y : Nat} {cs : List cg} (h : acS tb false c e = some (x, y, cs)) : ∀ k ∈ cs, k.1 = 0 := by
  unfold acS at h
  split at h
  · cases h
  · split at h
    · cases h
    · rename_i x3 y3 _
      split at h
      · cases h2 : asS tb false 12 0 x3 y3 with
        | none => rw [h2] at h; cases h
        | some ds => rw [h2] at h; cases h; exact as_kind _ _ _ _ _ h2
      · cases h
theorem me_add {n : Nat} {pa pt : Nat → Int32} {pv : Nat → Int64} {pn qt : Nat → Int32} {qv : Nat → Int64} {nm pr : Nat → List tv} (h : me_at n pa pt pv pn qt qv nm pr) (hw : ∀ e, e < n → (nm e).length ≤ 4 ∧ (pr e).length ≤ 6) {l p : List tv} {f f' : Nat → Int32} {g g' : Nat → Int64} (hl : ho l f g) (hp : ho p f' g') : me_at (n + 1) (upd pa n (nI l.length)) (wrr (4 * n) l.length f pt) (wrr (4 * n) l.length g pv) (upd pn n (nI p.length)) (wrr (6 * n) p.length f' qt) (wrr (6 * n) p.length g' qv) (fun i => if i = n then l else nm i) (fun i => if i = n then p else pr i) := by
  intro e he
  dsimp only
  by_cases hen : e = n
  · subst hen
    rw [if_pos rfl, if_pos rfl]
    exact ⟨if_pos rfl, ho_w hl, if_pos rfl, ho_w hp⟩
  · rw [if_neg hen, if_neg hen]
    have hm := h e (by omega)
    have hw := hw e (by omega)
    refine ⟨(if_neg hen).trans hm.1, fun k hk => ?_, (if_neg hen).trans hm.2.2.1, fun k hk => ?_⟩
    · rw [hm.2.1 k hk]; dsimp only; rw [wrr_o (by omega), wrr_o (by omega)]
    · rw [hm.2.2.2 k hk]; dsimp only; rw [wrr_o (by omega), wrr_o (by omega)]
theorem me_mod {n : Nat} {pa pt : Nat → Int32} {pv : Nat → Int64} {pn qt : Nat → Int32} {qv : Nat → Int64} {nm pr : Nat → List tv} (h : me_at n pa pt pv pn qt qv nm pr) (hw : ∀ e, e < n → (nm e).length ≤ 4 ∧ (pr e).length ≤ 6) {x : Nat} {p : List tv} {f' : Nat → Int32} {g' : Nat → Int64} (hp : ho p f' g') (h6 : p.length ≤ 6) : me_at n pa pt pv (upd pn x (nI p.length)) (wrr (6 * x) p.length f' qt) (wrr (6 * x) p.length g' qv) nm (fun i => if i = x then p else pr i) := by
  intro e he
  dsimp only
  have hm := h e he
  have hw := hw e he
  by_cases hen : e = x
  · subst hen
    rw [if_pos rfl]
    exact ⟨hm.1, hm.2.1, if_pos rfl, ho_w hp⟩
  · rw [if_neg hen]
    refine ⟨hm.1, hm.2.1, (if_neg hen).trans hm.2.2.1, fun k hk => ?_⟩
    rw [hm.2.2.2 k hk]; dsimp only; rw [wrr_o (by omega), wrr_o (by omega)]
set_option maxRecDepth 100000 in
set_option maxHeartbeats 4000000 in
theorem y_Md_add (d : Nat) {μ : kc_M} {s : Nat → Int32} {tb : Nat → Nat} {ou : Nat → Int32} {n : Nat} {nm pr : Nat → List tv} (h0 : μ.1 136 = some (ce_Md s)) (hE : mE μ tb ou n nm pr) (h6 : s 6 = nI n) {l : List tv} (hN : mN μ s l) (hl : 1 ≤ l.length) {kf tf ff cf : Nat → Int32} {vf : Nat → Int64} (hA : maA μ kf tf ff cf vf) {cs : List cg} (h33 : s 33 = nI cs.length) (h12 : cs.length ≤ 12) (h24 : tot cs ≤ 24) (w1 : ∃ f, μ.1 159 = some (ce_I 32 f)) (w2 : ∃ f, μ.1 160 = some (ce_L 32 f)) (hcs : maL false kf tf ff cf vf cs 0 0) (hc0 : ∀ c ∈ cs, c.1 = 0) : kc_Y kt kC (d + 4) j_Md_add [.ref 136] μ (fun v μ' => v = some (.int (nI (adK n nm l cs).1)) ∧ ∃ s', μ'.1 136 = some (ce_Md s') ∧ (∀ i, i ≠ 6 → i ≠ 49 → s' i = s i) ∧ s' 6 = nI (adN n (adK n nm l cs).2) ∧ mE μ' tb ou (adN n (adK n nm l cs).2) (adF n (fun _ => l) nm (adK n nm l cs).2) (adF n (fun p => p) pr (adK n nm l cs).2) ∧ (∃ f, μ'.1 159 = some (ce_I 32 f)) ∧ (∃ f, μ'.1 160 = some (ce_L 32 f)) ∧ ∀ q, q ≠ 136 → q < 139 ∨ 144 < q → q ≠ 159 → q ≠ 160 → μ'.1 q = μ.1 q) := by
  refine ⟨Nat.le_of_ble_eq_true rfl, ?_⟩
  obtain ⟨pa, pt, pv, pn, qt, qv, ⟨r1, r2, r3, r4, r5, r6, r7, r8⟩, m2, hn16, hw⟩ := id hE
  obtain ⟨n1, n2, f, g, n3, n4, n5⟩ := id hN
  have hd : hdp l = (f 0, g 0) := by unfold hdp; rw [n5 0 (by omega)]; rfl
  have hno : ∀ (k : Nat) (μ1 : kc_M) (s1 : Nat → Int32), (adK n nm l cs) = (k, none) → μ1.1 136 = some (ce_Md s1) → (∀ i, i ≠ 49 → s1 i = s i) → (∀ q, q ≠ 136 → q ≠ 159 → q ≠ 160 → μ1.1 q = μ.1 q) → (∃ f, μ1.1 159 = some (ce_I 32 f)) → (∃ f, μ1.1 160 = some (ce_L 32 f)) → ((fun v μ' => v = some (.int (nI (adK n nm l cs).1)) ∧ ∃ s', μ'.1 136 = some (ce_Md s') ∧ (∀ i, i ≠ 6 → i ≠ 49 → s' i = s i) ∧ s' 6 = nI (adN n (adK n nm l cs).2) ∧ mE μ' tb ou (adN n (adK n nm l cs).2) (adF n (fun _ => l) nm (adK n nm l cs).2) (adF n (fun p => p) pr (adK n nm l cs).2) ∧ (∃ f, μ'.1 159 = some (ce_I 32 f)) ∧ (∃ f, μ'.1 160 = some (ce_L 32 f)) ∧ ∀ q, q ≠ 136 → q < 139 ∨ 144 < q → q ≠ 159 → q ≠ 160 → μ'.1 q = μ.1 q) : Option Value → kc_M → Prop) (some (.int (nI k))) μ1 := by
    intro k μ1 s1 hK q0 hs hf w1 w2
    exact ⟨by rw [hK], s1, q0, fun i _ h2 => hs i h2, by rw [hK]; exact (hs 6 (by decide)).trans h6, by rw [hK]; exact mE_k hE (fun q q1 q2 => hf q (by omega) (by omega) (by omega)), w1, w2, fun q q1 _ q3 q4 => hf q q1 q3 q4⟩
  by_cases hf0 : fd nm l n 0 = none
  · by_cases hf1 : 1 < l.length ∧ fd nm (l.drop 1) n 0 = none
    · have hK : (adK n nm l cs) = (32, none) := by unfold adK; rw [if_pos hf0, if_pos hf1]
      have hl1 := hf1.1
      refine x_al c_Md_add_0 rfl ?_
      refine x_ci c_Md_add_1 ?_
      refine x_cv1z _ c_Md_add_2 (by first | rfl | exact h0) (Nat.le_of_ble_eq_true rfl) (y_Md_find (d + 1) h0 hE h6 hN (k := 0) (by omega)) ?_
      rintro _ μx ⟨rfl, hμx⟩
      have hμx := hμx.symm
      subst hμx
      show kc_X _ _ _ _ _ [.int (oI (fd nm l n 0))] _ _
      rw [hf0]
      show kc_X _ _ _ _ _ [.int (-1)] _ _
      refine x_if_lt c_Md_add_5 (fun _ => ?_) (fun h => absurd (by decide) h)
      refine x_al c_Md_add_11 rfl ?_
      refine x_getE c_Md_add_12 (by first | rfl | exact h0) rfl (by first | exact n1 | rfl) ?_
      refine x_ci c_Md_add_15 ?_
      refine x_cmN_le c_Md_add_16 (by omega) (by omega) (fun h => (by exfalso; omega)) (fun _ => ?_)
      refine x_al c_Md_add_19 rfl ?_
      refine x_ci c_Md_add_20 ?_
      refine x_cv1z _ c_Md_add_21 (by first | rfl | exact h0) (Nat.le_of_ble_eq_true rfl) (y_Md_find (d + 1) h0 hE h6 hN (k := 1) (by omega)) ?_
      rintro _ μx ⟨rfl, hμx⟩
      have hμx := hμx.symm
      subst hμx
      show kc_X _ _ _ _ _ [.int (oI (fd nm (l.drop 1) n 0))] _ _
      rw [hf1.2]
      show kc_X _ _ _ _ _ [.int (-1)] _ _
      refine x_if_ge c_Md_add_24 (fun h => absurd h (by decide)) (fun _ => ?_)
      refine x_ci c_Md_add_27 ?_
      refine x_ri c_Md_add_29 ?_
      exact hno 32 μ s hK h0 (fun _ _ => rfl) (fun _ _ _ _ => rfl) w1 w2
    · have fin : (apl cs []).1 = 0 → gd (apl cs []).2 → ∀ (μ1 : kc_M) (s1 : Nat → Int32) (j1 j2 : Option Value), wkC μ μ1 s s1 (apl cs []).2 → kc_X (kC j_Md_add) (kc_Y kt kC (d + 3)) (fun v μ' => v = some (.int (nI (adK n nm l cs).1)) ∧ ∃ s', μ'.1 136 = some (ce_Md s') ∧ (∀ i, i ≠ 6 → i ≠ 49 → s' i = s i) ∧ s' 6 = nI (adN n (adK n nm l cs).2) ∧ mE μ' tb ou (adN n (adK n nm l cs).2) (adF n (fun _ => l) nm (adK n nm l cs).2) (adF n (fun p => p) pr (adK n nm l cs).2) ∧ (∃ f, μ'.1 159 = some (ce_I 32 f)) ∧ (∃ f, μ'.1 160 = some (ce_L 32 f)) ∧ ∀ q, q ≠ 136 → q < 139 ∨ 144 < q → q ≠ 159 → q ≠ 160 → μ'.1 q = μ.1 q) 64 [some (.ref 136), j1, j2] [] μ1 (0, 0) := by
        intro hz hgd μ1 s1 j1 j2 hC
        have hl32 : (apl cs []).2.length ≤ 32 := hC.2.2.2.2.1
        obtain ⟨_, _, f', g', w5, w6, w7⟩ := id hC.2.2.2
        have w159 : ∃ f, μ1.1 159 = some (ce_I 32 f) := ⟨f', w5⟩
        have w160 : ∃ f, μ1.1 160 = some (ce_L 32 f) := ⟨g', w6⟩
        have e6 : s1 6 = nI n := (hC.2.1 6 (by decide)).trans h6
        have e20 : s1 20 = nI l.length := (hC.2.1 20 (by decide)).trans n1
        have e49 : s1 49 = nI (apl cs []).2.length := hC.2.2.2.1
        have k145 : μ1.1 145 = some (ce_I 4 f) := (hC.2.2.1 145 (by decide) (by decide) (by decide)).trans n3
        have k146 : μ1.1 146 = some (ce_L 4 g) := (hC.2.2.1 146 (by decide) (by decide) (by decide)).trans n4
        by_cases hin : (f 0, g 0) ∈ (apl cs []).2
        · obtain ⟨jx, jx1, hfi, _⟩ := fi_lt (by omega) hin
          by_cases hb : 16 ≤ n ∨ 6 < (apl cs []).2.length
          · have hK : (adK n nm l cs) = (53, none) := by unfold adK; rw [if_pos hf0, if_neg hf1, if_pos hz, hd, if_pos hin, if_pos hb]
            have hb' : ¬ n = 16 → 6 < (apl cs []).2.length := fun q => hb.resolve_left (by omega)
            refine x_al c_Md_add_64 rfl ?_
            refine x_al c_Md_add_65 rfl ?_
            refine x_get c_Md_add_66 (by first | rfl | exact hC.1 | exact k145 | exact k146) rfl ?_
            refine x_ci c_Md_add_69 ?_
            refine x_ialdN c_Md_add_70 (by first | rfl | exact hC.1 | exact k145 | exact k146) (by omega) (by omega) ?_
            refine x_al c_Md_add_71 rfl ?_
            refine x_get c_Md_add_72 (by first | rfl | exact hC.1 | exact k145 | exact k146) rfl ?_
            refine x_ci c_Md_add_75 ?_
            refine x_laldN c_Md_add_76 (by first | rfl | exact hC.1 | exact k145 | exact k146) (by omega) (by omega) ?_
            refine x_cv2z _ c_Md_add_77 (by first | rfl | exact hC.1 | exact k145 | exact k146) (Nat.le_of_ble_eq_true rfl) (y_Md_workAt (d + 2) hC.1 hC.2.2.2) ?_
            rintro _ μx ⟨rfl, hμx⟩
            have hμx := hμx.symm
            subst hμx
            show kc_X _ _ _ _ _ [.int (fi (f 0, g 0) (apl cs []).2 0)] _ _
            rw [hfi]
            show kc_X _ _ _ _ _ [.int (nI jx)] _ _
            refine x_ifN_ge c_Md_add_80 (by omega) (fun _ => ?_) (fun h => (by exfalso; omega))
            refine x_al c_Md_add_86 rfl ?_
            refine x_getE c_Md_add_87 (by first | rfl | exact hC.1 | exact k145 | exact k146) rfl (by first | exact e6 | exact e20 | exact e49 | rfl) ?_
            refine x_ci c_Md_add_90 ?_
            refine x_cmN_eq c_Md_add_92 (by omega) (by omega) (fun h92 => ?_) (fun h92 => ?_)
            · refine x_ci c_Md_add_104 ?_
              refine x_ri c_Md_add_106 ?_
              exact hno 53 μ1 s1 (hK) hC.1 hC.2.1 hC.2.2.1 w159 w160
            · refine x_al c_Md_add_95 rfl ?_
              refine x_getE c_Md_add_96 (by first | rfl | exact hC.1 | exact k145 | exact k146) rfl (by first | exact e6 | exact e20 | exact e49 | rfl) ?_
              refine x_ci c_Md_add_99 ?_
              refine x_cmN_le c_Md_add_101 (by omega) (by omega) (fun h101 => ?_) (fun h101 => ?_)
              · exact absurd (hb' h92) (by omega)
              · refine x_ci c_Md_add_104 ?_
                refine x_ri c_Md_add_106 ?_
                exact hno 53 μ1 s1 (hK) hC.1 hC.2.1 hC.2.2.1 w159 w160
          · have hK : (adK n nm l cs) = (0, some (apl cs []).2) := by unfold adK; rw [if_pos hf0, if_neg hf1, if_pos hz, hd, if_pos hin, if_neg hb]
            have hb1 : n < 16 := by omega
            have hb2 : (apl cs []).2.length ≤ 6 := by omega
            have cp : ∀ m k (μ2 : kc_M) (j2 : Option Value), l.length - k = m → k ≤ l.length → μ2.1 139 = some (ce_I 16 (upd pa n (nI l.length))) → μ2.1 140 = some (ce_I 64 (wrr (4 * n) (k) f pt)) → μ2.1 141 = some (ce_L 64 (wrr (4 * n) (k) g pv)) → (∀ q, q ≠ 139 → q ≠ 140 → q ≠ 141 → μ2.1 q = μ1.1 q) → kc_X (kC j_Md_add) (kc_Y kt kC (d + 3)) (fun v μ' => v = some (.int (nI (adK n nm l cs).1)) ∧ ∃ s', μ'.1 136 = some (ce_Md s') ∧ (∀ i, i ≠ 6 → i ≠ 49 → s' i = s i) ∧ s' 6 = nI (adN n (adK n nm l cs).2) ∧ mE μ' tb ou (adN n (adK n nm l cs).2) (adF n (fun _ => l) nm (adK n nm l cs).2) (adF n (fun p => p) pr (adK n nm l cs).2) ∧ (∃ f, μ'.1 159 = some (ce_I 32 f)) ∧ (∃ f, μ'.1 160 = some (ce_L 32 f)) ∧ ∀ q, q ≠ 136 → q < 139 ∨ 144 < q → q ≠ 159 → q ≠ 160 → μ'.1 q = μ.1 q) 122 [some (.ref 136), some (.int (nI k)), j2] [] μ2 (0, 0) := by
              intro m
              induction m with
              | zero =>
                intro k μ2 j2 hm hk c3 c4 c5 hf
                have hk : k = l.length := by omega
                subst hk
                have k0 : μ2.1 136 = some (ce_Md s1) := (hf 136 (by decide) (by decide) (by decide)).trans hC.1
                have g5 : μ2.1 159 = some (ce_I 32 f') := (hf 159 (by decide) (by decide) (by decide)).trans w5
                have g6 : μ2.1 160 = some (ce_L 32 g') := (hf 160 (by decide) (by decide) (by decide)).trans w6
                have x1 := (hf 137 (by decide) (by decide) (by decide)).trans ((hC.2.2.1 137 (by decide) (by decide) (by decide)).trans r1)
                have x2 := (hf 138 (by decide) (by decide) (by decide)).trans ((hC.2.2.1 138 (by decide) (by decide) (by decide)).trans r2)
                have x6 := (hf 142 (by decide) (by decide) (by decide)).trans ((hC.2.2.1 142 (by decide) (by decide) (by decide)).trans r6)
                have x7 := (hf 143 (by decide) (by decide) (by decide)).trans ((hC.2.2.1 143 (by decide) (by decide) (by decide)).trans r7)
                have x8 := (hf 144 (by decide) (by decide) (by decide)).trans ((hC.2.2.1 144 (by decide) (by decide) (by decide)).trans r8)
                refine x_il c_Md_add_122 rfl ?_
                refine x_al c_Md_add_123 rfl ?_
                refine x_getE c_Md_add_124 (by first | rfl | exact k0 | exact kk) rfl (by first | exact e6 | exact e20 | exact e49 | rfl) ?_
                refine x_cmN_ge c_Md_add_127 (by omega) (by omega) (fun _ => ?_) (fun h => (by exfalso; omega))
                refine x_al c_Md_add_174 rfl ?_
                refine x_al c_Md_add_175 rfl ?_
                refine x_getE c_Md_add_176 (by first | rfl | exact k0 | exact kk) rfl (by first | exact e6 | exact e20 | exact e49 | rfl) ?_
                refine x_cv1z _ c_Md_add_179 (by first | rfl | exact k0 | exact kk) (Nat.le_of_ble_eq_true rfl) (y_Md_settle (d + 2) (l := (apl cs []).2) k0 e49 g5 g6 x6 x7 x8 (e := n) hb1 hb2) ?_
                rintro _ μ3 ⟨rfl, y6, y7, y8, y9⟩
                have kk := (y9 136 (by decide) (by decide) (by decide)).trans k0
                show kc_X _ _ _ _ _ [] _ _
                refine x_al c_Md_add_182 rfl ?_
                refine x_dup c_Md_add_183 rfl ?_
                refine x_getE c_Md_add_184 (by first | rfl | exact k0 | exact kk) rfl (by first | exact e6 | exact e20 | exact e49 | rfl) ?_
                refine x_ci c_Md_add_187 ?_
                first | refine x_iaddN c_Md_add_188 ?_ | refine x_iadd c_Md_add_188 ?_
                refine x_putM c_Md_add_189 (by first | rfl | exact k0 | exact kk) ⟨by decide, rfl, rfl⟩ rfl ?_
                refine x_ci c_Md_add_192 ?_
                refine x_ri c_Md_add_193 ?_
                exact ⟨by rw [hK], _, kc_gs, fun i i1 i2 => (if_neg i1).trans (hC.2.1 i i2), by rw [hK]; rfl, by rw [hK]; exact ⟨_, _, _, _, _, _, ⟨(kc_gf (by decide)).trans ((y9 137 (by decide) (by decide) (by decide)).trans x1), (kc_gf (by decide)).trans ((y9 138 (by decide) (by decide) (by decide)).trans x2), (kc_gf (by decide)).trans ((y9 139 (by decide) (by decide) (by decide)).trans c3), (kc_gf (by decide)).trans ((y9 140 (by decide) (by decide) (by decide)).trans c4), (kc_gf (by decide)).trans ((y9 141 (by decide) (by decide) (by decide)).trans c5), (kc_gf (by decide)).trans y6, (kc_gf (by decide)).trans y7, (kc_gf (by decide)).trans y8⟩, me_add m2 hw n5 w7, (by show n + 1 ≤ 16; omega), (by intro i hi; show (if i = n then l else nm i).length ≤ 4 ∧ (if i = n then (apl cs []).2 else pr i).length ≤ 6; have hi : i < n + 1 := hi; rcases Decidable.em (i = n) with hin' | hin' <;> first | (rw [if_pos hin', if_pos hin']; exact ⟨n2, hb2⟩) | (rw [if_neg hin', if_neg hin']; exact hw i (by omega)))⟩, ⟨f', (kc_gf (by decide)).trans ((y9 159 (by decide) (by decide) (by decide)).trans g5)⟩, ⟨g', (kc_gf (by decide)).trans ((y9 160 (by decide) (by decide) (by decide)).trans g6)⟩, fun q q1 q2 q3 q4 => (kc_gf q1).trans ((y9 q (by omega) (by omega) (by omega)).trans ((hf q (by omega) (by omega) (by omega)).trans (hC.2.2.1 q q1 q3 q4)))⟩
              | succ m ih =>
                intro k μ2 j2 hm hk c3 c4 c5 hf
                have k0 : μ2.1 136 = some (ce_Md s1) := (hf 136 (by decide) (by decide) (by decide)).trans hC.1
                have k145 := (hf 145 (by decide) (by decide) (by decide)).trans k145
                have k146 := (hf 146 (by decide) (by decide) (by decide)).trans k146
                refine x_il c_Md_add_122 rfl ?_
                refine x_al c_Md_add_123 rfl ?_
                refine x_getE c_Md_add_124 (by first | rfl | exact k0 | exact c3 | exact c4 | exact c5 | exact k145 | exact k146) rfl (by first | exact e6 | exact e20 | exact e49 | rfl) ?_
                refine x_cmN_ge c_Md_add_127 (by omega) (by omega) (fun h => (by exfalso; omega)) (fun _ => ?_)
                refine x_al c_Md_add_130 rfl ?_
                refine x_get c_Md_add_131 (by first | rfl | exact k0 | exact c3 | exact c4 | exact c5 | exact k145 | exact k146) rfl ?_
                refine x_ci c_Md_add_134 ?_
                refine x_al c_Md_add_135 rfl ?_
                refine x_getE c_Md_add_136 (by first | rfl | exact k0 | exact c3 | exact c4 | exact c5 | exact k145 | exact k146) rfl (by first | exact e6 | exact e20 | exact e49 | rfl) ?_
                first | refine x_imulN c_Md_add_139 ?_ | refine x_imul c_Md_add_139 ?_
                refine x_il c_Md_add_140 rfl ?_
                first | refine x_iaddN c_Md_add_141 ?_ | refine x_iadd c_Md_add_141 ?_
                refine x_al c_Md_add_142 rfl ?_
                refine x_get c_Md_add_143 (by first | rfl | exact k0 | exact c3 | exact c4 | exact c5 | exact k145 | exact k146) rfl ?_
                refine x_il c_Md_add_146 rfl ?_
                refine x_ialdN c_Md_add_147 (by first | rfl | exact k0 | exact c3 | exact c4 | exact c5 | exact k145 | exact k146) (by omega) (by omega) ?_
                refine x_iastN c_Md_add_148 (by first | rfl | exact k0 | exact c3 | exact c4 | exact c5 | exact k145 | exact k146) (by omega) (by omega) ?_
                refine x_al c_Md_add_149 rfl ?_
                refine x_get c_Md_add_150 (by first | rfl | exact k0 | exact c3 | exact c4 | exact c5 | exact k145 | exact k146) rfl ?_
                refine x_ci c_Md_add_153 ?_
                refine x_al c_Md_add_154 rfl ?_
                refine x_getE c_Md_add_155 (by first | rfl | exact k0 | exact c3 | exact c4 | exact c5 | exact k145 | exact k146) rfl (by first | exact e6 | exact e20 | exact e49 | rfl) ?_
                first | refine x_imulN c_Md_add_158 ?_ | refine x_imul c_Md_add_158 ?_
                refine x_il c_Md_add_159 rfl ?_
                first | refine x_iaddN c_Md_add_160 ?_ | refine x_iadd c_Md_add_160 ?_
                refine x_al c_Md_add_161 rfl ?_
                refine x_get c_Md_add_162 (by first | rfl | exact k0 | exact c3 | exact c4 | exact c5 | exact k145 | exact k146) rfl ?_
                refine x_il c_Md_add_165 rfl ?_
                refine x_laldN c_Md_add_166 (by first | rfl | exact k0 | exact c3 | exact c4 | exact c5 | exact k145 | exact k146) (by omega) (by omega) ?_
                refine x_lastN c_Md_add_167 (by first | rfl | exact k0 | exact c3 | exact c4 | exact c5 | exact k145 | exact k146) (by omega) (by omega) ?_
                first | refine x_incN [_, _, _] c_Md_add_168 rfl rfl ?_ | refine x_inc [_, _, _] c_Md_add_168 rfl rfl ?_
                refine x_goto c_Md_add_171 ?_
                exact ih (k + 1) _ _ (by omega) (by omega) c3 (congrArg (fun f => some (ce_I 64 f)) (wrr_u)) (congrArg (fun f => some (ce_L 64 f)) (wrr_uL)) (fun q q1 q2 q3 => (kc_gf q3).trans ((kc_gf q2).trans (hf q q1 q2 q3)))
            have x3 := (hC.2.2.1 139 (by decide) (by decide) (by decide)).trans r3
            have x4 := (hC.2.2.1 140 (by decide) (by decide) (by decide)).trans r4
            have x5 := (hC.2.2.1 141 (by decide) (by decide) (by decide)).trans r5
            refine x_al c_Md_add_64 rfl ?_
            refine x_al c_Md_add_65 rfl ?_
            refine x_get c_Md_add_66 (by first | rfl | exact hC.1 | exact k145 | exact k146 | exact x3) rfl ?_
            refine x_ci c_Md_add_69 ?_
            refine x_ialdN c_Md_add_70 (by first | rfl | exact hC.1 | exact k145 | exact k146 | exact x3) (by omega) (by omega) ?_
            refine x_al c_Md_add_71 rfl ?_
            refine x_get c_Md_add_72 (by first | rfl | exact hC.1 | exact k145 | exact k146 | exact x3) rfl ?_
            refine x_ci c_Md_add_75 ?_
            refine x_laldN c_Md_add_76 (by first | rfl | exact hC.1 | exact k145 | exact k146 | exact x3) (by omega) (by omega) ?_
            refine x_cv2z _ c_Md_add_77 (by first | rfl | exact hC.1 | exact k145 | exact k146 | exact x3) (Nat.le_of_ble_eq_true rfl) (y_Md_workAt (d + 2) hC.1 hC.2.2.2) ?_
            rintro _ μx ⟨rfl, hμx⟩
            have hμx := hμx.symm
            subst hμx
            show kc_X _ _ _ _ _ [.int (fi (f 0, g 0) (apl cs []).2 0)] _ _
            rw [hfi]
            show kc_X _ _ _ _ _ [.int (nI jx)] _ _
            refine x_ifN_ge c_Md_add_80 (by omega) (fun _ => ?_) (fun h => (by exfalso; omega))
            refine x_al c_Md_add_86 rfl ?_
            refine x_getE c_Md_add_87 (by first | rfl | exact hC.1 | exact k145 | exact k146 | exact x3) rfl (by first | exact e6 | exact e20 | exact e49 | rfl) ?_
            refine x_ci c_Md_add_90 ?_
            refine x_cmN_eq c_Md_add_92 (by omega) (by omega) (fun h => (by exfalso; omega)) (fun _ => ?_)
            refine x_al c_Md_add_95 rfl ?_
            refine x_getE c_Md_add_96 (by first | rfl | exact hC.1 | exact k145 | exact k146 | exact x3) rfl (by first | exact e6 | exact e20 | exact e49 | rfl) ?_
            refine x_ci c_Md_add_99 ?_
            refine x_cmN_le c_Md_add_101 (by omega) (by omega) (fun _ => ?_) (fun h => (by exfalso; omega))
            refine x_al c_Md_add_107 rfl ?_
            refine x_get c_Md_add_108 (by first | rfl | exact hC.1 | exact k145 | exact k146 | exact x3) rfl ?_
            refine x_al c_Md_add_111 rfl ?_
            refine x_getE c_Md_add_112 (by first | rfl | exact hC.1 | exact k145 | exact k146 | exact x3) rfl (by first | exact e6 | exact e20 | exact e49 | rfl) ?_
            refine x_al c_Md_add_115 rfl ?_
            refine x_getE c_Md_add_116 (by first | rfl | exact hC.1 | exact k145 | exact k146 | exact x3) rfl (by first | exact e6 | exact e20 | exact e49 | rfl) ?_
            refine x_iastN c_Md_add_119 (by first | rfl | exact hC.1 | exact k145 | exact k146 | exact x3) (by omega) (by omega) ?_
            refine x_ci c_Md_add_120 ?_
            refine x_is [_, _, _] c_Md_add_121 rfl ?_
            exact cp _ 0 _ _ rfl (by omega) rfl (by rw [wrr_0]; exact x4) (by rw [wrr_0]; exact x5) (fun q q1 q2 q3 => kc_gf q1)
        · have hfi : fi (f 0, g 0) (apl cs []).2 0 = -1 := (fi_mem _ _ 0 (by omega)).mpr hin
          have hK : (adK n nm l cs) = (64, none) := by unfold adK; rw [if_pos hf0, if_neg hf1, if_pos hz, hd, if_neg hin]
          refine x_al c_Md_add_64 rfl ?_
          refine x_al c_Md_add_65 rfl ?_
          refine x_get c_Md_add_66 (by first | rfl | exact hC.1 | exact k145 | exact k146) rfl ?_
          refine x_ci c_Md_add_69 ?_
          refine x_ialdN c_Md_add_70 (by first | rfl | exact hC.1 | exact k145 | exact k146) (by omega) (by omega) ?_
          refine x_al c_Md_add_71 rfl ?_
          refine x_get c_Md_add_72 (by first | rfl | exact hC.1 | exact k145 | exact k146) rfl ?_
          refine x_ci c_Md_add_75 ?_
          refine x_laldN c_Md_add_76 (by first | rfl | exact hC.1 | exact k145 | exact k146) (by omega) (by omega) ?_
          refine x_cv2z _ c_Md_add_77 (by first | rfl | exact hC.1 | exact k145 | exact k146) (Nat.le_of_ble_eq_true rfl) (y_Md_workAt (d + 2) hC.1 hC.2.2.2) ?_
          rintro _ μx ⟨rfl, hμx⟩
          have hμx := hμx.symm
          subst hμx
          show kc_X _ _ _ _ _ [.int (fi (f 0, g 0) (apl cs []).2 0)] _ _
          rw [hfi]
          show kc_X _ _ _ _ _ [.int (-1)] _ _
          refine x_if_ge c_Md_add_80 (fun h => absurd h (by decide)) (fun _ => ?_)
          refine x_ci c_Md_add_83 ?_
          refine x_ri c_Md_add_85 ?_
          exact hno 64 μ1 s1 (hK) hC.1 hC.2.1 hC.2.2.1 w159 w160
      have loop : ∀ (ds : List cg) (i a : Nat) (jk : Option Value) (μ1 : kc_M) (s1 : Nat → Int32) (l1 : List tv), i + ds.length = cs.length → maL false kf tf ff cf vf ds i a → (∀ c ∈ ds, c.1 = 0) → apl ds l1 = apl cs [] → wkC μ μ1 s s1 l1 → gd l1 → l1.length + tot ds ≤ 30 → kc_X (kC j_Md_add) (kc_Y kt kC (d + 3)) (fun v μ' => v = some (.int (nI (adK n nm l cs).1)) ∧ ∃ s', μ'.1 136 = some (ce_Md s') ∧ (∀ i, i ≠ 6 → i ≠ 49 → s' i = s i) ∧ s' 6 = nI (adN n (adK n nm l cs).2) ∧ mE μ' tb ou (adN n (adK n nm l cs).2) (adF n (fun _ => l) nm (adK n nm l cs).2) (adF n (fun p => p) pr (adK n nm l cs).2) ∧ (∃ f, μ'.1 159 = some (ce_I 32 f)) ∧ (∃ f, μ'.1 160 = some (ce_L 32 f)) ∧ ∀ q, q ≠ 136 → q < 139 ∨ 144 < q → q ≠ 159 → q ≠ 160 → μ'.1 q = μ.1 q) 37 [some (.ref 136), some (.int (nI i)), jk] [] μ1 (0, 0) := by
        intro ds
        induction ds with
        | nil =>
          intro i a jk μ1 s1 l1 hi hL hc0 hR hC hg hl
          have hi : i = cs.length := hi
          have e33 : s1 33 = nI cs.length := (hC.2.1 33 (by decide)).trans h33
          have hR : (0, l1) = apl cs [] := hR
          refine x_il c_Md_add_37 rfl ?_
          refine x_al c_Md_add_38 rfl ?_
          refine x_getE c_Md_add_39 (by first | rfl | exact hC.1) rfl (by first | exact e33 | rfl) ?_
          refine x_cmN_ge c_Md_add_42 (by omega) (by omega) (fun _ => ?_) (fun h => (by exfalso; omega))
          exact fin (by rw [← hR]) (by rw [← hR]; exact hg) μ1 s1 _ _ (by rw [← hR]; exact hC)
        | cons c ds ih =>
          intro i a jk μ1 s1 l1 hi hL hc0 hR hC hg hl
          rw [List.length_cons] at hi
          rw [tot_c] at hl
          have e33 : s1 33 = nI cs.length := (hC.2.1 33 (by decide)).trans h33
          have k := maA_k hA (μ' := μ1) (fun q h1 h2 => hC.2.2.1 q (by omega) (by omega) (by omega))
          have hok := ap1_ok (c := c) hg hL.1.1.2.2.2.2.2.1
          have hz0 : c.1 = 0 := hc0 c (List.mem_cons_self ..)
          have hwi := y_Md_workIn d hC.1 hC.2.2.2 k hL.1.1 (by omega) hg (by omega)
          rw [hz0] at hwi
          rw [apl_s] at hR
          refine x_il c_Md_add_37 rfl ?_
          refine x_al c_Md_add_38 rfl ?_
          refine x_getE c_Md_add_39 (by first | rfl | exact hC.1) rfl (by first | exact e33 | rfl) ?_
          refine x_cmN_ge c_Md_add_42 (by omega) (by omega) (fun h => (by exfalso; omega)) (fun _ => ?_)
          refine x_al c_Md_add_45 rfl ?_
          refine x_il c_Md_add_46 rfl ?_
          refine x_ci c_Md_add_47 ?_
          refine x_cv2z _ c_Md_add_48 (by first | rfl | exact hC.1) (Nat.le_of_ble_eq_true rfl) (hwi) ?_
          rintro _ μ2 ⟨rfl, s2, hC2⟩
          have h64 := hok.2.2
          have hC2 := hC.to hC2
          show kc_X _ _ _ _ _ [.int (nI (ap1 c l1).1)] _ _
          refine x_is [_, _, _] c_Md_add_51 rfl ?_
          refine x_il c_Md_add_52 rfl ?_
          refine x_ifN_eq c_Md_add_53 (by omega) (fun h53 => ?_) (fun h53 => ?_)
          · first | refine x_incN [_, _, _] c_Md_add_58 rfl rfl ?_ | refine x_inc [_, _, _] c_Md_add_58 rfl rfl ?_
            refine x_goto c_Md_add_61 ?_
            rw [if_pos h53] at hR
            exact ih (i + 1) _ _ μ2 s2 _ (by omega) hL.2 (fun c hc => hc0 c (List.mem_cons_of_mem _ hc)) hR hC2 hok.1 (by have := hok.2.1; omega)
          · refine x_il c_Md_add_56 rfl ?_
            refine x_ri c_Md_add_57 ?_
            rw [if_neg h53] at hR
            exact hno _ μ2 s2 (by unfold adK; rw [if_pos hf0, if_neg hf1, ← hR, if_neg h53]) hC2.1 hC2.2.1 hC2.2.2.1 (let ⟨_, _, f, g, a, b, _⟩ := hC2.2.2.2; ⟨f, a⟩) (let ⟨_, _, f, g, a, b, _⟩ := hC2.2.2.2; ⟨g, b⟩)
      have hw0 : wkC μ (kc_u μ 136 (ce_Md (upd s 49 (nI 0)))) s (upd s 49 (nI 0)) [] := by
        obtain ⟨f1, w1⟩ := w1
        obtain ⟨f2, w2⟩ := w2
        exact ⟨kc_gs, fun i hi => if_neg hi, fun q q1 _ _ => kc_gf q1, rfl, Nat.zero_le _, f1, f2, (kc_gf (by decide)).trans w1, (kc_gf (by decide)).trans w2, fun k hk => absurd hk (Nat.not_lt_zero _)⟩
      have hstart : ∀ (j1 j2 : Option Value), kc_X (kC j_Md_add) (kc_Y kt kC (d + 3)) (fun v μ' => v = some (.int (nI (adK n nm l cs).1)) ∧ ∃ s', μ'.1 136 = some (ce_Md s') ∧ (∀ i, i ≠ 6 → i ≠ 49 → s' i = s i) ∧ s' 6 = nI (adN n (adK n nm l cs).2) ∧ mE μ' tb ou (adN n (adK n nm l cs).2) (adF n (fun _ => l) nm (adK n nm l cs).2) (adF n (fun p => p) pr (adK n nm l cs).2) ∧ (∃ f, μ'.1 159 = some (ce_I 32 f)) ∧ (∃ f, μ'.1 160 = some (ce_L 32 f)) ∧ ∀ q, q ≠ 136 → q < 139 ∨ 144 < q → q ≠ 159 → q ≠ 160 → μ'.1 q = μ.1 q) 30 [some (.ref 136), j1, j2] [] μ (0, 0) := by
        intro j1 j2
        refine x_al c_Md_add_30 rfl ?_
        refine x_ci c_Md_add_31 ?_
        refine x_putM c_Md_add_32 (by first | rfl | exact h0) ⟨by decide, rfl, rfl⟩ rfl ?_
        refine x_ci c_Md_add_35 ?_
        refine x_is [_, _, _] c_Md_add_36 rfl ?_
        exact loop cs 0 0 _ _ _ [] (by omega) hcs hc0 rfl hw0 ⟨List.nodup_nil, fun p hp => absurd hp (List.not_mem_nil)⟩ (by show 0 + tot cs ≤ 30; omega)
      by_cases hl1 : 1 < l.length
      · cases hf2 : fd nm (l.drop 1) n 0 with
        | none => exact absurd ⟨hl1, hf2⟩ hf1
        | some e =>
          have hfi := fd_in hf2
          have he : e < n := by omega
          refine x_al c_Md_add_0 rfl ?_
          refine x_ci c_Md_add_1 ?_
          refine x_cv1z _ c_Md_add_2 (by first | rfl | exact h0) (Nat.le_of_ble_eq_true rfl) (y_Md_find (d + 1) h0 hE h6 hN (k := 0) (by omega)) ?_
          rintro _ μx ⟨rfl, hμx⟩
          have hμx := hμx.symm
          subst hμx
          show kc_X _ _ _ _ _ [.int (oI (fd nm l n 0))] _ _
          rw [hf0]
          show kc_X _ _ _ _ _ [.int (-1)] _ _
          refine x_if_lt c_Md_add_5 (fun _ => ?_) (fun h => absurd (by decide) h)
          refine x_al c_Md_add_11 rfl ?_
          refine x_getE c_Md_add_12 (by first | rfl | exact h0) rfl (by first | exact n1 | rfl) ?_
          refine x_ci c_Md_add_15 ?_
          refine x_cmN_le c_Md_add_16 (by omega) (by omega) (fun h => (by exfalso; omega)) (fun _ => ?_)
          refine x_al c_Md_add_19 rfl ?_
          refine x_ci c_Md_add_20 ?_
          refine x_cv1z _ c_Md_add_21 (by first | rfl | exact h0) (Nat.le_of_ble_eq_true rfl) (y_Md_find (d + 1) h0 hE h6 hN (k := 1) (by omega)) ?_
          rintro _ μx ⟨rfl, hμx⟩
          have hμx := hμx.symm
          subst hμx
          show kc_X _ _ _ _ _ [.int (oI (fd nm (l.drop 1) n 0))] _ _
          rw [hf2]
          show kc_X _ _ _ _ _ [.int (nI e)] _ _
          refine x_ifN_ge c_Md_add_24 (by omega) (fun _ => ?_) (fun h => (by exfalso; omega))
          exact hstart _ _
      · skip
        refine x_al c_Md_add_0 rfl ?_
        refine x_ci c_Md_add_1 ?_
        refine x_cv1z _ c_Md_add_2 (by first | rfl | exact h0) (Nat.le_of_ble_eq_true rfl) (y_Md_find (d + 1) h0 hE h6 hN (k := 0) (by omega)) ?_
        rintro _ μx ⟨rfl, hμx⟩
        have hμx := hμx.symm
        subst hμx
        show kc_X _ _ _ _ _ [.int (oI (fd nm l n 0))] _ _
        rw [hf0]
        show kc_X _ _ _ _ _ [.int (-1)] _ _
        refine x_if_lt c_Md_add_5 (fun _ => ?_) (fun h => absurd (by decide) h)
        refine x_al c_Md_add_11 rfl ?_
        refine x_getE c_Md_add_12 (by first | rfl | exact h0) rfl (by first | exact n1 | rfl) ?_
        refine x_ci c_Md_add_15 ?_
        refine x_cmN_le c_Md_add_16 (by omega) (by omega) (fun _ => ?_) (fun h => (by exfalso; omega))
        exact hstart _ _
  · have hK : (adK n nm l cs) = (68, none) := by unfold adK; rw [if_neg hf0]
    cases hf2 : fd nm l n 0 with
    | none => exact absurd hf2 hf0
    | some e =>
      have hfi := fd_in hf2
      have he : e < n := by omega
      refine x_al c_Md_add_0 rfl ?_
      refine x_ci c_Md_add_1 ?_
      refine x_cv1z _ c_Md_add_2 (by first | rfl | exact h0) (Nat.le_of_ble_eq_true rfl) (y_Md_find (d + 1) h0 hE h6 hN (k := 0) (by omega)) ?_
      rintro _ μx ⟨rfl, hμx⟩
      have hμx := hμx.symm
      subst hμx
      show kc_X _ _ _ _ _ [.int (oI (fd nm l n 0))] _ _
      rw [hf2]
      show kc_X _ _ _ _ _ [.int (nI e)] _ _
      refine x_ifN_lt c_Md_add_5 (by omega) (fun h => (by exfalso; omega)) (fun _ => ?_)
      refine x_ci c_Md_add_8 ?_
      refine x_ri c_Md_add_10 ?_
      exact hno 68 μ s hK h0 (fun _ _ => rfl) (fun _ _ _ _ => rfl) w1 w2
