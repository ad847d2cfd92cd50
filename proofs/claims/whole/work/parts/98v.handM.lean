/-! the reference handles a message, to its end -/
theorem ms_g {μ μ' : kc_M} (h : ms_at μ) (hk : ∀ q, 147 ≤ q → q ≤ 158 → q ≠ 156 → μ'.1 q = μ.1 q) (h1 : ∃ f, μ'.1 145 = some (ce_I 4 f)) (h2 : ∃ f, μ'.1 146 = some (ce_L 4 f)) (h3 : ∃ f, μ'.1 156 = some (ce_I 20 f)) (h4 : ∃ f, μ'.1 159 = some (ce_I 32 f)) (h5 : ∃ f, μ'.1 160 = some (ce_L 32 f)) : ms_at μ' := by
  obtain ⟨_, _, ⟨f3, g3⟩, ⟨f4, g4⟩, ⟨f5, g5⟩, ⟨f6, g6⟩, ⟨f7, g7⟩, ⟨f8, g8⟩, ⟨f9, g9⟩, ⟨f10, g10⟩, ⟨f11, g11⟩, _, ⟨f13, g13⟩, ⟨f14, g14⟩, _, _⟩ := h
  exact ⟨h1, h2, ⟨f3, (hk _ (by omega) (by omega) (by omega)).trans g3⟩, ⟨f4, (hk _ (by omega) (by omega) (by omega)).trans g4⟩, ⟨f5, (hk _ (by omega) (by omega) (by omega)).trans g5⟩, ⟨f6, (hk _ (by omega) (by omega) (by omega)).trans g6⟩, ⟨f7, (hk _ (by omega) (by omega) (by omega)).trans g7⟩, ⟨f8, (hk _ (by omega) (by omega) (by omega)).trans g8⟩, ⟨f9, (hk _ (by omega) (by omega) (by omega)).trans g9⟩, ⟨f10, (hk _ (by omega) (by omega) (by omega)).trans g10⟩, ⟨f11, (hk _ (by omega) (by omega) (by omega)).trans g11⟩, h3, ⟨f13, (hk _ (by omega) (by omega) (by omega)).trans g13⟩, ⟨f14, (hk _ (by omega) (by omega) (by omega)).trans g14⟩, h4, h5⟩
theorem ms_r {μ : kc_M} (h : ms_at μ) : (∃ f, μ.1 145 = some (ce_I 4 f)) ∧ (∃ f, μ.1 146 = some (ce_L 4 f)) ∧ (∃ f, μ.1 156 = some (ce_I 20 f)) ∧ (∃ f, μ.1 159 = some (ce_I 32 f)) ∧ (∃ f, μ.1 160 = some (ce_L 32 f)) := by
  obtain ⟨a1, a2, _, _, _, _, _, _, _, _, _, a3, _, _, a4, a5⟩ := h
  exact ⟨a1, a2, a3, a4, a5⟩
theorem mN_r {μ : kc_M} {s : Nat → Int32} {l : List tv} (h : mN μ s l) : (∃ f, μ.1 145 = some (ce_I 4 f)) ∧ (∃ f, μ.1 146 = some (ce_L 4 f)) ∧ ∃ k, k ≤ 4 ∧ s 20 = nI k := by
  obtain ⟨a, b, f, g, c, d, _⟩ := h
  exact ⟨⟨f, c⟩, ⟨g, d⟩, _, b, a⟩
theorem ex_f {μ μ' : kc_M} {a : Nat} {g : (Nat → Int32) → kc_C} (h : ∃ f, μ.1 a = some (g f)) (hk : μ'.1 a = μ.1 a) : ∃ f, μ'.1 a = some (g f) := by
  obtain ⟨f, q⟩ := h
  exact ⟨f, hk.trans q⟩
theorem ex_l {μ μ' : kc_M} {a : Nat} {g : (Nat → Int64) → kc_C} (h : ∃ f, μ.1 a = some (g f)) (hk : μ'.1 a = μ.1 a) : ∃ f, μ'.1 a = some (g f) := by
  obtain ⟨f, q⟩ := h
  exact ⟨f, hk.trans q⟩
def rPo (μ μ' : kc_M) (tb : Nat → Nat) (k op : Nat) (R : ORes) : Prop := ∃ s', μ'.1 136 = some (ce_Md s') ∧ s' 0 = bI false ∧ s' 1 = bI R.2.1 ∧ s' 6 = nI R.2.2.1 ∧ s' 16 = nI k ∧ s' 17 = nI op ∧ (∃ ou, mE μ' tb ou R.2.2.1 R.2.2.2.1 R.2.2.2.2.1) ∧ oL μ' s' R.2.2.2.2.2.1 ∧ ms_at μ' ∧ (∃ l', mN μ' s' l' ∧ (R.1 = 32 → R.2.2.2.2.2.2 = some l')) ∧ R.1 < 256 ∧ R.2.2.2.2.2.1.length ≤ 284 ∧ ∀ q, q < 136 → μ'.1 q = μ.1 q
def rFi (μ μ' : kc_M) (tb : Nat → Nat) (k op : Nat) (R : ORes) : Prop := ∃ s', μ'.1 136 = some (ce_Md s') ∧ s' 0 = bI false ∧ s' 1 = bI R.2.1 ∧ s' 3 = nI 0 ∧ s' 6 = nI R.2.2.1 ∧ (∃ ou, mE μ' tb ou R.2.2.1 R.2.2.2.1 R.2.2.2.2.1) ∧ oL μ' s' (oAll R k op) ∧ ms_at μ' ∧ (∃ k, k ≤ 4 ∧ s' 20 = nI k) ∧ ∀ q, q < 136 → μ'.1 q = μ.1 q
set_option maxRecDepth 100000 in
set_option maxHeartbeats 4000000 in
theorem y_Md_perform96 (d : Nat) {μ : kc_M} {s : Nat → Int32} (h0 : μ.1 136 = some (ce_Md s)) (h17 : s 17 = nI 96) {Q : Option Value → kc_M → Prop} (h : kc_Y kt kC d j_Md_sign [.ref 136] μ Q) (hQ : ∀ w μ', Q w μ' → ∃ x, w = some (.int x)) : kc_Y kt kC (d + 1) j_Md_perform [.ref 136] μ Q := by
  refine ⟨Nat.le_of_ble_eq_true rfl, ?_⟩
  refine x_al c_Md_perform_0 rfl ?_
  refine x_getE c_Md_perform_1 (by first | rfl | exact h0) rfl (by first | exact h17 | rfl) ?_
  refine x_ci c_Md_perform_4 ?_
  refine x_cmN_ne c_Md_perform_6 (by omega) (by omega) (fun h => (by exfalso; omega)) (fun _ => ?_)
  refine x_al c_Md_perform_9 rfl ?_
  refine x_cv0z _ c_Md_perform_10 (by first | rfl | exact h0) (Nat.le_of_ble_eq_true rfl) (h) ?_
  rintro w μ1 hq
  obtain ⟨x, rfl⟩ := hQ w μ1 hq
  show kc_X _ _ _ _ _ [.int x] _ _
  refine x_ri c_Md_perform_13 ?_
  exact hq
set_option maxRecDepth 100000 in
set_option maxHeartbeats 4000000 in
theorem y_Md_perform99 (d : Nat) {μ : kc_M} {s : Nat → Int32} (h0 : μ.1 136 = some (ce_Md s)) (h17 : s 17 = nI 99) {Q : Option Value → kc_M → Prop} (h : kc_Y kt kC d j_Md_search [.ref 136] μ Q) (hQ : ∀ w μ', Q w μ' → ∃ x, w = some (.int x)) : kc_Y kt kC (d + 1) j_Md_perform [.ref 136] μ Q := by
  refine ⟨Nat.le_of_ble_eq_true rfl, ?_⟩
  refine x_al c_Md_perform_0 rfl ?_
  refine x_getE c_Md_perform_1 (by first | rfl | exact h0) rfl (by first | exact h17 | rfl) ?_
  refine x_ci c_Md_perform_4 ?_
  refine x_cmN_ne c_Md_perform_6 (by omega) (by omega) (fun _ => ?_) (fun h => (by exfalso; omega))
  refine x_al c_Md_perform_14 rfl ?_
  refine x_getE c_Md_perform_15 (by first | rfl | exact h0) rfl (by first | exact h17 | rfl) ?_
  refine x_ci c_Md_perform_18 ?_
  refine x_cmN_ne c_Md_perform_20 (by omega) (by omega) (fun h => (by exfalso; omega)) (fun _ => ?_)
  refine x_al c_Md_perform_23 rfl ?_
  refine x_cv0z _ c_Md_perform_24 (by first | rfl | exact h0) (Nat.le_of_ble_eq_true rfl) (h) ?_
  rintro w μ1 hq
  obtain ⟨x, rfl⟩ := hQ w μ1 hq
  show kc_X _ _ _ _ _ [.int x] _ _
  refine x_ri c_Md_perform_27 ?_
  exact hq
theorem seS_in {tb : Nat → Nat} (htb : ∀ j, tb j < 256) {c e x2 y2 sc : Nat} {li : Int32} {ta : Bool} {G : Fo} {W : List Int32} (h : seS tb c e = some (x2, y2, sc, li, ta, G, W)) : sc ≤ 2 ∧ ¬ li < 0 ∧ fsz G ≤ 20 ∧ (∃ t ty v F, G = Fo.cons t ty v F Fo.nil) ∧ flW G ∧ fht G ≤ 6 := by
  unfold seS at h
  cases ht : tl tb 4 c e with
  | none => rw [ht] at h; cases h
  | some q =>
    obtain ⟨a, b⟩ := q
    rw [ht] at h
    dsimp only at h
    cases hq : qrS tb b e with
    | none => rw [hq] at h; cases h
    | some q =>
      obtain ⟨sc', li', ta', y5⟩ := q
      rw [hq] at h
      dsimp only at h
      obtain ⟨_, _, _, _, _, _, q7, q8⟩ := qr_ok htb (sf := 0) (st := 0) hq
      cases hf : flO tb (flP tb 200) 6 0 y5 e with
      | none => rw [hf] at h; cases h
      | some q =>
        obtain ⟨t, ty, v, F, y6⟩ := q
        rw [hf] at h
        dsimp only at h
        have hfi := flO_in2 hf
        cases hw : wtP tb y6 e with
        | none => rw [hw] at h; cases h
        | some W' =>
          rw [hw] at h
          cases h
          have h1 : fsz Fo.nil = 0 := rfl
          have h2 : fht Fo.nil = 0 := rfl
          exact ⟨q8, q7, by rw [fsz_c]; omega, ⟨t, ty, v, F, rfl⟩, flO_W htb hf, by rw [fht_c]; omega⟩
theorem seK_le {tb : Nat → Nat} {n : Nat} {nm pr : Nat → List tv} {k : Nat} {L : List Int32} {q : Option (Nat × Nat × Nat × Int32 × Bool × Fo × List Int32)} (h : L.length ≤ 284) : (seK tb n nm pr k L q).2.length ≤ 284 := by
  cases q with
  | none => exact h
  | some q =>
    obtain ⟨x2, y2, sc, li, ta, G, W⟩ := q
    unfold seK
    dsimp only
    cases nmS tb x2 y2 with
    | none => exact h
    | some l =>
      dsimp only
      split
      · exact h
      · exact srF_le _ _ _ _ _ h
theorem mE_s {μ μ' : kc_M} {s' : Nat → Int32} {L : List Int32} {tb : Nat → Nat} {ou : Nat → Int32} {n : Nat} {nm pr : Nat → List tv} (h : mE μ tb ou n nm pr) (hL : oL μ' s' L) (f : ∀ q, 137 ≤ q → q ≤ 144 → q ≠ 138 → μ'.1 q = μ.1 q) : ∃ ou', mE μ' tb ou' n nm pr := by
  obtain ⟨_, _, ou', q, _⟩ := hL
  obtain ⟨pa, pt, pv, pn, qt, qv, ⟨r1, r2, r3, r4, r5, r6, r7, r8⟩, m⟩ := h
  exact ⟨ou', pa, pt, pv, pn, qt, qv, ⟨(f 137 (by decide) (by decide) (by decide)).trans r1, q, (f 139 (by decide) (by decide) (by decide)).trans r3, (f 140 (by decide) (by decide) (by decide)).trans r4, (f 141 (by decide) (by decide) (by decide)).trans r5, (f 142 (by decide) (by decide) (by decide)).trans r6, (f 143 (by decide) (by decide) (by decide)).trans r7, (f 144 (by decide) (by decide) (by decide)).trans r8⟩, m⟩
set_option maxRecDepth 100000 in
set_option maxHeartbeats 4000000 in
theorem y_Md_handle96 (d : Nat) {μ : kc_M} {s : Nat → Int32} (h0 : μ.1 136 = some (ce_Md s)) (hs0 : s 0 = bI false) {so : Bool} (hs1 : s 1 = bI so) {sz : Nat} (hs3 : s 3 = nI sz) {tb : Nat → Nat} {ou : Nat → Int32} {n : Nat} {nm pr : Nat → List tv} (hs6 : s 6 = nI n) (hE : mE μ tb ou n nm pr) (hms : ms_at μ) (h20 : ∃ k, k ≤ 4 ∧ s 20 = nI k) (htb : ∀ j, tb j < 256) (hsz : sz ≤ 200) (hgd : ∀ e, e < n → gd (pr e)) (hne : ∀ e, e < n → 1 ≤ (nm e).length) (hdi : ∀ i j, i < n → j < n → nm i = nm j → i = j) {k b c : Nat} (hk31 : k < 2 ^ 31) (hmsg : msg tb sz = some (nI k, b, c)) (hcs : c ≤ sz) (hop : tb b = 96) : kc_Y kt kC (d + 10) j_Md_handle [.ref 136] μ (fun v μ' => v = some (.int (nI (oRes tb so n nm pr k c sz 96).1)) ∧ rFi μ μ' tb k 96 (oRes tb so n nm pr k c sz 96)) := by
  refine ⟨Nat.le_of_ble_eq_true rfl, ?_⟩
  have fin : ∀ (μ2 : kc_M), rPo μ μ2 tb k 96 (oRes tb so n nm pr k c sz 96) → ∀ j, kc_X (kC j_Md_handle) (kc_Y kt kC (d + 9)) (fun v μ' => v = some (.int (nI (oRes tb so n nm pr k c sz 96).1)) ∧ rFi μ μ' tb k 96 (oRes tb so n nm pr k c sz 96)) 53 [some (.ref 136), j] [.int (nI (oRes tb so n nm pr k c sz 96).1)] μ2 (0, 0) := by
    intro μ2 rP j
    obtain ⟨R, hR⟩ : ∃ R, (oRes tb so n nm pr k c sz 96) = R := ⟨_, rfl⟩
    rw [hR] at rP ⊢
    obtain ⟨s2, a0, a1, a2, a3, a4, a5, ⟨ou2, aE⟩, aL, ams, ⟨l', aN, a32⟩, ac, al, af⟩ := rP
    refine x_is [_, _] c_Md_handle_53 rfl ?_
    refine x_al c_Md_handle_54 rfl ?_
    refine x_il c_Md_handle_55 rfl ?_
    refine x_cv1z _ c_Md_handle_56 (by first | rfl | exact a0 | exact c4.1) (Nat.le_of_ble_eq_true rfl) (y_Md_conclude (d + 5) a0 aL aE a3 aN hk31 a4 (op := 96) (by decide) a5 (code := R.1) ac (by omega)) ?_
    rintro _ μ4 ⟨rfl, s4, c4⟩
    have hA : R.2.2.2.2.2.1 ++ cB k (dnO 96) R.1 (if R.1 = 32 then naL R.2.2.2.1 l' R.2.2.1 else []) = oAll R k 96 := by
      unfold oAll
      by_cases h32 : R.1 = 32
      · rw [if_pos h32, if_pos h32, a32 h32]; rfl
      · rw [if_neg h32, if_neg h32]
    rw [hA] at c4
    obtain ⟨ou4, hE4⟩ := mE_o aE c4
    show kc_X _ _ _ _ _ [] _ _
    refine x_al c_Md_handle_59 rfl ?_
    refine x_ci c_Md_handle_60 ?_
    refine x_putM c_Md_handle_61 (by first | rfl | exact a0 | exact c4.1) ⟨by decide, rfl, rfl⟩ rfl ?_
    refine x_il c_Md_handle_64 rfl ?_
    refine x_ri c_Md_handle_65 ?_
    have kk : ∀ q, q ≠ 136 → (kc_u μ4 136 (ce_Md (upd s4 3 (nI 0)))).1 q = μ4.1 q := fun q q1 => kc_gf q1
    have hr := mN_r aN
    have hm4 := ms_r ams
    exact ⟨rfl, upd s4 3 (nI 0), kc_gs, (c4.2.1 0 (by decide)).trans a1, (c4.2.1 1 (by decide)).trans a2, rfl, (c4.2.1 6 (by decide)).trans a3, ⟨ou4, mE_k hE4 (fun q q1 q2 => kk q (by omega))⟩, (let ⟨x1, x2, x3, x4, x5⟩ := c4.2.2.2; ⟨x1, x2, x3, (kk 138 (by decide)).trans x4, x5⟩), ms_g ams (fun q q1 q2 q3 => (kk q (by omega)).trans (c4.2.2.1 q (by omega) (by omega))) (ex_f hm4.1 ((kk 145 (by decide)).trans (c4.2.2.1 145 (by decide) (by decide)))) (ex_l hm4.2.1 ((kk 146 (by decide)).trans (c4.2.2.1 146 (by decide) (by decide)))) (ex_f hm4.2.2.1 ((kk 156 (by decide)).trans (c4.2.2.1 156 (by decide) (by decide)))) (ex_f hm4.2.2.2.1 ((kk 159 (by decide)).trans (c4.2.2.1 159 (by decide) (by decide)))) (ex_l hm4.2.2.2.2 ((kk 160 (by decide)).trans (c4.2.2.1 160 (by decide) (by decide)))), (let ⟨x, y, z⟩ := hr.2.2; ⟨x, y, (c4.2.1 20 (by decide)).trans z⟩), fun q q1 => (kk q (by omega)).trans ((c4.2.2.1 q (by omega) (by omega)).trans (af q q1))⟩
  have hmsgB : ∀ (μ1 : kc_M) (s1 : Nat → Int32), rB μ μ1 s1 tb so n nm pr k 96 c sz → kc_X (kC j_Md_handle) (kc_Y kt kC (d + 9)) (fun v μ' => v = some (.int (nI (oRes tb so n nm pr k c sz 96).1)) ∧ rFi μ μ' tb k 96 (oRes tb so n nm pr k c sz 96)) 38 [some (.ref 136), none] [] μ1 (0, 0) := by
    intro μ1 s1 hB
    have hBms : ms_at μ1 := hB.2.2.2.2.2.2.2.2.2.2.1
    have e17 := hB.2.2.2.2.2.1
    have e18 := hB.2.2.2.2.2.2.1
    have e19 := hB.2.2.2.2.2.2.2.1
    have k137 : μ1.1 137 = some (ce_I 200 (fun j => nI (tb j))) := by obtain ⟨_, _, _, _, _, _, _, ⟨r1, _⟩, _⟩ := hB.2.2.2.2.2.2.2.2.1; exact r1
    refine x_al c_Md_handle_38 rfl ?_
    refine x_cv0z _ c_Md_handle_39 (by exact hB.1) (Nat.le_of_ble_eq_true rfl) (y_Md_readOp96 (d + 3) hB.1 k137 htb hBms e18 e19 hcs hsz e17) ?_
    rintro w μ2 ⟨s2, hK, ⟨u, x2, y2, x3, y3, r1, rfl, c25, c23, c24, c26, c27, i1, i2, i3, i4⟩ | ⟨r1, rfl⟩⟩
    · have hB2 : rB μ μ2 s2 tb so n nm pr k 96 c sz := rB_k hB hK
      obtain ⟨b0, b1, b2, b3, b4, b5, b6, b7, ⟨ou2, bE⟩, bL, bms, ⟨l2, bN⟩, bf⟩ := hB2
      have hb137 : μ2.1 137 = some (ce_I 200 (fun j => nI (tb j))) := by obtain ⟨_, _, _, _, _, _, ⟨r1, _⟩, _⟩ := bE; exact r1
      have hmr := ms_r bms
      have hRE : (oRes tb so n nm pr k c sz 96) = ((sgC tb n nm pr so c sz).1, (sgC tb n nm pr so c sz).2, n, nm, pr, [], none) := by unfold oRes; rw [if_pos rfl]
      have hsg : (sgC tb n nm pr so c sz) = sgD tb n nm pr so u (nmS tb x2 y2) x3 y3 true := by unfold sgC; rw [r1]
      have hp := y_Md_perform96 (d + 8) b0 b5 (y_Md_sign (d + 4) b0 hb137 htb bE b3 (fun e he p hp => (hgd e he).2 p hp) hmr.1 hmr.2.1 ⟨l2, bN⟩ so c25 c23 c24 c26 c27 i1 (by omega) i3 (by omega)) (fun w μ' q => ⟨_, q.1⟩)
      show kc_X _ _ _ _ _ [.int (bI true)] _ _
      refine x_if_eq c_Md_handle_42 (fun h => absurd h (by decide)) (fun _ => ?_)
      refine x_al c_Md_handle_45 rfl ?_
      refine x_cv0z _ c_Md_handle_46 (by first | rfl | exact b0) (Nat.le_of_ble_eq_true rfl) (hp) ?_
      rintro _ μ3 ⟨rfl, s3, ⟨d1, d2, d3, l3, d4⟩, d5⟩
      have hst := fin μ3 (by
        rw [hRE]
        have hr3 := mN_r d4
        rw [← hsg] at d5
        exact ⟨s3, d1, (d2 0 (by decide) (by decide)).trans b1, d5, (d2 6 (by decide) (by decide)).trans b3, (d2 16 (by decide) (by decide)).trans b4, (d2 17 (by decide) (by decide)).trans b5, ⟨ou2, mE_k bE (fun q q1 q2 => d3 q (by omega) (by omega) (by omega))⟩, (let ⟨x1, x2, x3, x4, x5⟩ := bL; ⟨(d2 5 (by decide) (by decide)).trans x1, x2, x3, (d3 138 (by decide) (by decide) (by decide)).trans x4, x5⟩), ms_g bms (fun q q1 q2 q3 => d3 q (by omega) (by omega) (by omega)) hr3.1 hr3.2.1 (ex_f hmr.2.2.1 (d3 156 (by decide) (by decide) (by decide))) (ex_f hmr.2.2.2.1 (d3 159 (by decide) (by decide) (by decide))) (ex_l hmr.2.2.2.2 (d3 160 (by decide) (by decide) (by decide))), ⟨l3, d4, fun q => absurd q sgC_lt.2⟩, sgC_lt.1, Nat.zero_le _, fun q q1 => (d3 q (by omega) (by omega) (by omega)).trans (bf q q1)⟩)
      show kc_X _ _ _ _ _ [.int (nI (sgD tb n nm pr so u (nmS tb x2 y2) x3 y3 true).1)] _ _
      rw [← hsg, show (sgC tb n nm pr so c sz).1 = (oRes tb so n nm pr k c sz 96).1 by rw [hRE]]
      refine x_goto c_Md_handle_49 ?_
      exact hst _
    · have hB2 : rB μ μ2 s2 tb so n nm pr k 96 c sz := rB_k hB hK
      obtain ⟨b0, b1, b2, b3, b4, b5, b6, b7, ⟨ou2, bE⟩, bL, bms, ⟨l2, bN⟩, bf⟩ := hB2
      have hb137 : μ2.1 137 = some (ce_I 200 (fun j => nI (tb j))) := by obtain ⟨_, _, _, _, _, _, ⟨r1, _⟩, _⟩ := bE; exact r1
      have hmr := ms_r bms
      have hRE : (oRes tb so n nm pr k c sz 96) = ((sgC tb n nm pr so c sz).1, (sgC tb n nm pr so c sz).2, n, nm, pr, [], none) := by unfold oRes; rw [if_pos rfl]
      have hRb : (oRes tb so n nm pr k c sz 96) = (2, so, n, nm, pr, [], none) := by rw [hRE, show (sgC tb n nm pr so c sz) = (2, so) by unfold sgC; rw [r1]]
      show kc_X _ _ _ _ _ [.int (bI false)] _ _
      refine x_if_eq c_Md_handle_42 (fun _ => ?_) (fun h => absurd (rfl) h)
      refine x_ci c_Md_handle_52 ?_
      have hst := fin μ2 (by rw [hRb]; exact ⟨s2, b0, b1, b2, b3, b4, b5, ⟨ou2, bE⟩, bL, bms, ⟨l2, bN, fun q => absurd (show 2 = 32 from q) (by decide)⟩, (show 2 < 256 by decide), Nat.zero_le _, bf⟩)
      rw [hRb] at hst ⊢
      exact hst _
  have h137 : μ.1 137 = some (ce_I 200 (fun j => nI (tb j))) := by obtain ⟨_, _, _, _, _, _, ⟨r1, _⟩, _⟩ := hE; exact r1
  have h138 : μ.1 138 = some (ce_I 480 ou) := by obtain ⟨_, _, _, _, _, _, ⟨_, r1, _⟩, _⟩ := hE; exact r1
  have hmr0 := ms_r hms
  refine x_al c_Md_handle_0 rfl ?_
  refine x_getE c_Md_handle_1 (by first | rfl | exact h0 | exact rfl | exact kc_gs) rfl (by first | exact hs0 | rfl) ?_
  refine x_if_eq c_Md_handle_4 (fun _ => ?_) (fun h => absurd (rfl) h)
  refine x_al c_Md_handle_9 rfl ?_
  refine x_ci c_Md_handle_10 ?_
  refine x_putM c_Md_handle_11 (by first | rfl | exact h0 | exact rfl | exact kc_gs) ⟨by decide, rfl, rfl⟩ rfl ?_
  refine x_al c_Md_handle_14 rfl ?_
  refine x_cv0z _ c_Md_handle_15 (by first | rfl | exact h0 | exact rfl | exact kc_gs) (Nat.le_of_ble_eq_true rfl) (y_Md_isMessage (d + 5) (μ := kc_u μ 136 (ce_Md (upd s 5 (nI 0)))) (s := upd s 5 (nI 0)) kc_gs (by exact h137) htb (sz := sz) hs3 hsz) ?_
  rintro v μ1 ⟨s1, hc1, ⟨i', b', c', hm', hio, rfl, e16, e17, e18, e19⟩ | ⟨hno, rfl⟩⟩
  · rw [hmsg] at hm'
    have hm' := Option.some.inj hm'
    have h1' : nI k = i' := congrArg Prod.fst hm'
    have h2' : b = b' := congrArg (fun x => x.2.1) hm'
    have h3' : c = c' := congrArg (fun x => x.2.2) hm'
    subst h1'; subst h2'; subst h3'
    rw [hop] at e17
    have g : ∀ q, q ≠ 136 → μ1.1 q = μ.1 q := fun q q1 => (hc1.2.2 q q1).trans (kc_gf q1)
    have hB : rB μ μ1 s1 tb so n nm pr k 96 c sz := by
      obtain ⟨k9, k10, k11⟩ := h20
      exact ⟨hc1.1, (hc1.2.1 0 (by decide)).trans hs0, (hc1.2.1 1 (by decide)).trans hs1, (hc1.2.1 6 (by decide)).trans hs6, e16, e17, e18, e19, ⟨ou, mE_k hE (fun q q1 q2 => g q (by omega))⟩, ⟨(hc1.2.1 5 (by decide)).trans rfl, Nat.zero_le _, ou, (g 138 (by decide)).trans h138, fun j hj => absurd hj (Nat.not_lt_zero _)⟩, ms_g hms (fun q q1 q2 q3 => g q (by omega)) (ex_f hmr0.1 (g 145 (by decide))) (ex_l hmr0.2.1 (g 146 (by decide))) (ex_f hmr0.2.2.1 (g 156 (by decide))) (ex_f hmr0.2.2.2.1 (g 159 (by decide))) (ex_l hmr0.2.2.2.2 (g 160 (by decide))), mN_any k10 ((hc1.2.1 20 (by decide)).trans k11) (ex_f hmr0.1 (g 145 (by decide))) (ex_l hmr0.2.1 (g 146 (by decide))), fun q q1 => g q (by omega)⟩
    show kc_X _ _ _ _ _ [.int (bI true)] _ _
    refine x_if_ne c_Md_handle_18 (fun _ => ?_) (fun h => absurd h (by decide))
    exact hmsgB μ1 s1 hB
  · exact absurd (by rw [hop]; unfold isOp; decide) (hno _ _ _ hmsg)
set_option maxRecDepth 100000 in
set_option maxHeartbeats 4000000 in
theorem y_Md_handle99 (d : Nat) {μ : kc_M} {s : Nat → Int32} (h0 : μ.1 136 = some (ce_Md s)) (hs0 : s 0 = bI false) {so : Bool} (hs1 : s 1 = bI so) {sz : Nat} (hs3 : s 3 = nI sz) {tb : Nat → Nat} {ou : Nat → Int32} {n : Nat} {nm pr : Nat → List tv} (hs6 : s 6 = nI n) (hE : mE μ tb ou n nm pr) (hms : ms_at μ) (h20 : ∃ k, k ≤ 4 ∧ s 20 = nI k) (htb : ∀ j, tb j < 256) (hsz : sz ≤ 200) (hgd : ∀ e, e < n → gd (pr e)) (hne : ∀ e, e < n → 1 ≤ (nm e).length) (hdi : ∀ i j, i < n → j < n → nm i = nm j → i = j) {k b c : Nat} (hk31 : k < 2 ^ 31) (hmsg : msg tb sz = some (nI k, b, c)) (hcs : c ≤ sz) (hop : tb b = 99) : kc_Y kt kC (d + 10) j_Md_handle [.ref 136] μ (fun v μ' => v = some (.int (nI (oRes tb so n nm pr k c sz 99).1)) ∧ rFi μ μ' tb k 99 (oRes tb so n nm pr k c sz 99)) := by
  refine ⟨Nat.le_of_ble_eq_true rfl, ?_⟩
  have fin : ∀ (μ2 : kc_M), rPo μ μ2 tb k 99 (oRes tb so n nm pr k c sz 99) → ∀ j, kc_X (kC j_Md_handle) (kc_Y kt kC (d + 9)) (fun v μ' => v = some (.int (nI (oRes tb so n nm pr k c sz 99).1)) ∧ rFi μ μ' tb k 99 (oRes tb so n nm pr k c sz 99)) 53 [some (.ref 136), j] [.int (nI (oRes tb so n nm pr k c sz 99).1)] μ2 (0, 0) := by
    intro μ2 rP j
    obtain ⟨R, hR⟩ : ∃ R, (oRes tb so n nm pr k c sz 99) = R := ⟨_, rfl⟩
    rw [hR] at rP ⊢
    obtain ⟨s2, a0, a1, a2, a3, a4, a5, ⟨ou2, aE⟩, aL, ams, ⟨l', aN, a32⟩, ac, al, af⟩ := rP
    refine x_is [_, _] c_Md_handle_53 rfl ?_
    refine x_al c_Md_handle_54 rfl ?_
    refine x_il c_Md_handle_55 rfl ?_
    refine x_cv1z _ c_Md_handle_56 (by first | rfl | exact a0 | exact c4.1) (Nat.le_of_ble_eq_true rfl) (y_Md_conclude (d + 5) a0 aL aE a3 aN hk31 a4 (op := 99) (by decide) a5 (code := R.1) ac (by omega)) ?_
    rintro _ μ4 ⟨rfl, s4, c4⟩
    have hA : R.2.2.2.2.2.1 ++ cB k (dnO 99) R.1 (if R.1 = 32 then naL R.2.2.2.1 l' R.2.2.1 else []) = oAll R k 99 := by
      unfold oAll
      by_cases h32 : R.1 = 32
      · rw [if_pos h32, if_pos h32, a32 h32]; rfl
      · rw [if_neg h32, if_neg h32]
    rw [hA] at c4
    obtain ⟨ou4, hE4⟩ := mE_o aE c4
    show kc_X _ _ _ _ _ [] _ _
    refine x_al c_Md_handle_59 rfl ?_
    refine x_ci c_Md_handle_60 ?_
    refine x_putM c_Md_handle_61 (by first | rfl | exact a0 | exact c4.1) ⟨by decide, rfl, rfl⟩ rfl ?_
    refine x_il c_Md_handle_64 rfl ?_
    refine x_ri c_Md_handle_65 ?_
    have kk : ∀ q, q ≠ 136 → (kc_u μ4 136 (ce_Md (upd s4 3 (nI 0)))).1 q = μ4.1 q := fun q q1 => kc_gf q1
    have hr := mN_r aN
    have hm4 := ms_r ams
    exact ⟨rfl, upd s4 3 (nI 0), kc_gs, (c4.2.1 0 (by decide)).trans a1, (c4.2.1 1 (by decide)).trans a2, rfl, (c4.2.1 6 (by decide)).trans a3, ⟨ou4, mE_k hE4 (fun q q1 q2 => kk q (by omega))⟩, (let ⟨x1, x2, x3, x4, x5⟩ := c4.2.2.2; ⟨x1, x2, x3, (kk 138 (by decide)).trans x4, x5⟩), ms_g ams (fun q q1 q2 q3 => (kk q (by omega)).trans (c4.2.2.1 q (by omega) (by omega))) (ex_f hm4.1 ((kk 145 (by decide)).trans (c4.2.2.1 145 (by decide) (by decide)))) (ex_l hm4.2.1 ((kk 146 (by decide)).trans (c4.2.2.1 146 (by decide) (by decide)))) (ex_f hm4.2.2.1 ((kk 156 (by decide)).trans (c4.2.2.1 156 (by decide) (by decide)))) (ex_f hm4.2.2.2.1 ((kk 159 (by decide)).trans (c4.2.2.1 159 (by decide) (by decide)))) (ex_l hm4.2.2.2.2 ((kk 160 (by decide)).trans (c4.2.2.1 160 (by decide) (by decide)))), (let ⟨x, y, z⟩ := hr.2.2; ⟨x, y, (c4.2.1 20 (by decide)).trans z⟩), fun q q1 => (kk q (by omega)).trans ((c4.2.2.1 q (by omega) (by omega)).trans (af q q1))⟩
  have hmsgB : ∀ (μ1 : kc_M) (s1 : Nat → Int32), rB μ μ1 s1 tb so n nm pr k 99 c sz → kc_X (kC j_Md_handle) (kc_Y kt kC (d + 9)) (fun v μ' => v = some (.int (nI (oRes tb so n nm pr k c sz 99).1)) ∧ rFi μ μ' tb k 99 (oRes tb so n nm pr k c sz 99)) 38 [some (.ref 136), none] [] μ1 (0, 0) := by
    intro μ1 s1 hB
    have hBms : ms_at μ1 := hB.2.2.2.2.2.2.2.2.2.2.1
    have e17 := hB.2.2.2.2.2.1
    have e18 := hB.2.2.2.2.2.2.1
    have e19 := hB.2.2.2.2.2.2.2.1
    have k137 : μ1.1 137 = some (ce_I 200 (fun j => nI (tb j))) := by obtain ⟨_, _, _, _, _, _, _, ⟨r1, _⟩, _⟩ := hB.2.2.2.2.2.2.2.2.1; exact r1
    refine x_al c_Md_handle_38 rfl ?_
    refine x_cv0z _ c_Md_handle_39 (by exact hB.1) (Nat.le_of_ble_eq_true rfl) (y_Md_readOp99 (d + 3) hB.1 k137 htb hBms e18 e19 hcs hsz e17) ?_
    rintro w μ2 ⟨s2, wf2, af2, tf2, vf2, hK, hA2, ⟨x2, y2, sc, li, ta, G, W, r1, rfl, c23, c24, i1, i2, c28, c29, c30, c31, c32, cW, c40, hen⟩ | ⟨r1, rfl⟩⟩
    · have hB2 : rB μ μ2 s2 tb so n nm pr k 99 c sz := rB_k hB hK
      obtain ⟨b0, b1, b2, b3, b4, b5, b6, b7, ⟨ou2, bE⟩, bL, bms, ⟨l2, bN⟩, bf⟩ := hB2
      have hb137 : μ2.1 137 = some (ce_I 200 (fun j => nI (tb j))) := by obtain ⟨_, _, _, _, _, _, ⟨r1, _⟩, _⟩ := bE; exact r1
      have hmr := ms_r bms
      have hRE : (oRes tb so n nm pr k c sz 99) = ((seK tb n nm pr k [] (seS tb c sz)).1, so, n, nm, pr, (seK tb n nm pr k [] (seS tb c sz)).2, seN tb (seS tb c sz)) := by unfold oRes; rw [if_neg (by decide), if_pos rfl]
      obtain ⟨g1, g2, g3, g4, g5, g6⟩ := seS_in htb r1
      have hp := y_Md_perform99 (d + 8) b0 b5 (y_Md_search (d + 2) b0 bE hne hdi htb hmr.1 hmr.2.1 c23 c24 i1 (by omega) hk31 b4 b3 g1 c28 g2 c29 c30 c31 c32 cW c40 g3 g4 g5 hA2 hen hmr.2.2.1 hgd bL (Nat.zero_le _)) (fun w μ' q => ⟨_, q.1⟩)
      rw [← r1] at hp
      show kc_X _ _ _ _ _ [.int (bI true)] _ _
      refine x_if_eq c_Md_handle_42 (fun h => absurd h (by decide)) (fun _ => ?_)
      refine x_al c_Md_handle_45 rfl ?_
      refine x_cv0z _ c_Md_handle_46 (by first | rfl | exact b0) (Nat.le_of_ble_eq_true rfl) (hp) ?_
      rintro _ μ3 ⟨rfl, s3, ⟨d1, d2, d3⟩, dL, d156, l3, d4, d32⟩
      have hst := fin μ3 (by
        rw [hRE]
        have hr3 := mN_r d4
        refine ⟨s3, d1, (d2 0 (by decide) (by decide)).trans b1, (d2 1 (by decide) (by decide)).trans b2, (d2 6 (by decide) (by decide)).trans b3, (d2 16 (by decide) (by decide)).trans b4, (d2 17 (by decide) (by decide)).trans b5, mE_s bE dL (fun q q1 q2 q3 => d3 q (by omega) (by omega) (by omega) (by omega) (by omega)), dL, ms_g bms (fun q q1 q2 q3 => d3 q (by omega) (by omega) (by omega) (by omega) q3) hr3.1 hr3.2.1 d156 (ex_f hmr.2.2.2.1 (d3 159 (by decide) (by decide) (by decide) (by decide) (by decide))) (ex_l hmr.2.2.2.2 (d3 160 (by decide) (by decide) (by decide) (by decide) (by decide))), ⟨l3, d4, fun q => ?_⟩, Nat.lt_of_lt_of_le (seK_lt tb n nm pr k [] _) (by omega), seK_le (Nat.zero_le _), fun q q1 => (d3 q (by omega) (by omega) (by omega) (by omega) (by omega)).trans (bf q q1)⟩
        have h9 := d32 q
        show seN tb (seS tb c sz) = some l3
        rw [r1]; exact h9)
      show kc_X _ _ _ _ _ [.int (nI (seK tb n nm pr k [] (seS tb c sz)).1)] _ _
      rw [show (seK tb n nm pr k [] (seS tb c sz)).1 = (oRes tb so n nm pr k c sz 99).1 by rw [hRE]]
      refine x_goto c_Md_handle_49 ?_
      exact hst _
    · have hB2 : rB μ μ2 s2 tb so n nm pr k 99 c sz := rB_k hB hK
      obtain ⟨b0, b1, b2, b3, b4, b5, b6, b7, ⟨ou2, bE⟩, bL, bms, ⟨l2, bN⟩, bf⟩ := hB2
      have hb137 : μ2.1 137 = some (ce_I 200 (fun j => nI (tb j))) := by obtain ⟨_, _, _, _, _, _, ⟨r1, _⟩, _⟩ := bE; exact r1
      have hmr := ms_r bms
      have hRE : (oRes tb so n nm pr k c sz 99) = ((seK tb n nm pr k [] (seS tb c sz)).1, so, n, nm, pr, (seK tb n nm pr k [] (seS tb c sz)).2, seN tb (seS tb c sz)) := by unfold oRes; rw [if_neg (by decide), if_pos rfl]
      have hRb : (oRes tb so n nm pr k c sz 99) = (2, so, n, nm, pr, [], none) := by rw [hRE, show seS tb c sz = none from r1]; rfl
      show kc_X _ _ _ _ _ [.int (bI false)] _ _
      refine x_if_eq c_Md_handle_42 (fun _ => ?_) (fun h => absurd (rfl) h)
      refine x_ci c_Md_handle_52 ?_
      have hst := fin μ2 (by rw [hRb]; exact ⟨s2, b0, b1, b2, b3, b4, b5, ⟨ou2, bE⟩, bL, bms, ⟨l2, bN, fun q => absurd (show 2 = 32 from q) (by decide)⟩, (show 2 < 256 by decide), Nat.zero_le _, bf⟩)
      rw [hRb] at hst ⊢
      exact hst _
  have h137 : μ.1 137 = some (ce_I 200 (fun j => nI (tb j))) := by obtain ⟨_, _, _, _, _, _, ⟨r1, _⟩, _⟩ := hE; exact r1
  have h138 : μ.1 138 = some (ce_I 480 ou) := by obtain ⟨_, _, _, _, _, _, ⟨_, r1, _⟩, _⟩ := hE; exact r1
  have hmr0 := ms_r hms
  refine x_al c_Md_handle_0 rfl ?_
  refine x_getE c_Md_handle_1 (by first | rfl | exact h0 | exact rfl | exact kc_gs) rfl (by first | exact hs0 | rfl) ?_
  refine x_if_eq c_Md_handle_4 (fun _ => ?_) (fun h => absurd (rfl) h)
  refine x_al c_Md_handle_9 rfl ?_
  refine x_ci c_Md_handle_10 ?_
  refine x_putM c_Md_handle_11 (by first | rfl | exact h0 | exact rfl | exact kc_gs) ⟨by decide, rfl, rfl⟩ rfl ?_
  refine x_al c_Md_handle_14 rfl ?_
  refine x_cv0z _ c_Md_handle_15 (by first | rfl | exact h0 | exact rfl | exact kc_gs) (Nat.le_of_ble_eq_true rfl) (y_Md_isMessage (d + 5) (μ := kc_u μ 136 (ce_Md (upd s 5 (nI 0)))) (s := upd s 5 (nI 0)) kc_gs (by exact h137) htb (sz := sz) hs3 hsz) ?_
  rintro v μ1 ⟨s1, hc1, ⟨i', b', c', hm', hio, rfl, e16, e17, e18, e19⟩ | ⟨hno, rfl⟩⟩
  · rw [hmsg] at hm'
    have hm' := Option.some.inj hm'
    have h1' : nI k = i' := congrArg Prod.fst hm'
    have h2' : b = b' := congrArg (fun x => x.2.1) hm'
    have h3' : c = c' := congrArg (fun x => x.2.2) hm'
    subst h1'; subst h2'; subst h3'
    rw [hop] at e17
    have g : ∀ q, q ≠ 136 → μ1.1 q = μ.1 q := fun q q1 => (hc1.2.2 q q1).trans (kc_gf q1)
    have hB : rB μ μ1 s1 tb so n nm pr k 99 c sz := by
      obtain ⟨k9, k10, k11⟩ := h20
      exact ⟨hc1.1, (hc1.2.1 0 (by decide)).trans hs0, (hc1.2.1 1 (by decide)).trans hs1, (hc1.2.1 6 (by decide)).trans hs6, e16, e17, e18, e19, ⟨ou, mE_k hE (fun q q1 q2 => g q (by omega))⟩, ⟨(hc1.2.1 5 (by decide)).trans rfl, Nat.zero_le _, ou, (g 138 (by decide)).trans h138, fun j hj => absurd hj (Nat.not_lt_zero _)⟩, ms_g hms (fun q q1 q2 q3 => g q (by omega)) (ex_f hmr0.1 (g 145 (by decide))) (ex_l hmr0.2.1 (g 146 (by decide))) (ex_f hmr0.2.2.1 (g 156 (by decide))) (ex_f hmr0.2.2.2.1 (g 159 (by decide))) (ex_l hmr0.2.2.2.2 (g 160 (by decide))), mN_any k10 ((hc1.2.1 20 (by decide)).trans k11) (ex_f hmr0.1 (g 145 (by decide))) (ex_l hmr0.2.1 (g 146 (by decide))), fun q q1 => g q (by omega)⟩
    show kc_X _ _ _ _ _ [.int (bI true)] _ _
    refine x_if_ne c_Md_handle_18 (fun _ => ?_) (fun h => absurd h (by decide))
    exact hmsgB μ1 s1 hB
  · exact absurd (by rw [hop]; unfold isOp; decide) (hno _ _ _ hmsg)
set_option maxRecDepth 100000 in
set_option maxHeartbeats 4000000 in
theorem y_Md_handle102 (d : Nat) {μ : kc_M} {s : Nat → Int32} (h0 : μ.1 136 = some (ce_Md s)) (hs0 : s 0 = bI false) {so : Bool} (hs1 : s 1 = bI so) {sz : Nat} (hs3 : s 3 = nI sz) {tb : Nat → Nat} {ou : Nat → Int32} {n : Nat} {nm pr : Nat → List tv} (hs6 : s 6 = nI n) (hE : mE μ tb ou n nm pr) (hms : ms_at μ) (h20 : ∃ k, k ≤ 4 ∧ s 20 = nI k) (htb : ∀ j, tb j < 256) (hsz : sz ≤ 200) (hgd : ∀ e, e < n → gd (pr e)) (hne : ∀ e, e < n → 1 ≤ (nm e).length) (hdi : ∀ i j, i < n → j < n → nm i = nm j → i = j) {k b c : Nat} (hk31 : k < 2 ^ 31) (hmsg : msg tb sz = some (nI k, b, c)) (hcs : c ≤ sz) (hop : tb b = 102) : kc_Y kt kC (d + 10) j_Md_handle [.ref 136] μ (fun v μ' => v = some (.int (nI (oRes tb so n nm pr k c sz 102).1)) ∧ rFi μ μ' tb k 102 (oRes tb so n nm pr k c sz 102)) := by
  refine ⟨Nat.le_of_ble_eq_true rfl, ?_⟩
  have fin : ∀ (μ2 : kc_M), rPo μ μ2 tb k 102 (oRes tb so n nm pr k c sz 102) → ∀ j, kc_X (kC j_Md_handle) (kc_Y kt kC (d + 9)) (fun v μ' => v = some (.int (nI (oRes tb so n nm pr k c sz 102).1)) ∧ rFi μ μ' tb k 102 (oRes tb so n nm pr k c sz 102)) 53 [some (.ref 136), j] [.int (nI (oRes tb so n nm pr k c sz 102).1)] μ2 (0, 0) := by
    intro μ2 rP j
    obtain ⟨R, hR⟩ : ∃ R, (oRes tb so n nm pr k c sz 102) = R := ⟨_, rfl⟩
    rw [hR] at rP ⊢
    obtain ⟨s2, a0, a1, a2, a3, a4, a5, ⟨ou2, aE⟩, aL, ams, ⟨l', aN, a32⟩, ac, al, af⟩ := rP
    refine x_is [_, _] c_Md_handle_53 rfl ?_
    refine x_al c_Md_handle_54 rfl ?_
    refine x_il c_Md_handle_55 rfl ?_
    refine x_cv1z _ c_Md_handle_56 (by first | rfl | exact a0 | exact c4.1) (Nat.le_of_ble_eq_true rfl) (y_Md_conclude (d + 5) a0 aL aE a3 aN hk31 a4 (op := 102) (by decide) a5 (code := R.1) ac (by omega)) ?_
    rintro _ μ4 ⟨rfl, s4, c4⟩
    have hA : R.2.2.2.2.2.1 ++ cB k (dnO 102) R.1 (if R.1 = 32 then naL R.2.2.2.1 l' R.2.2.1 else []) = oAll R k 102 := by
      unfold oAll
      by_cases h32 : R.1 = 32
      · rw [if_pos h32, if_pos h32, a32 h32]; rfl
      · rw [if_neg h32, if_neg h32]
    rw [hA] at c4
    obtain ⟨ou4, hE4⟩ := mE_o aE c4
    show kc_X _ _ _ _ _ [] _ _
    refine x_al c_Md_handle_59 rfl ?_
    refine x_ci c_Md_handle_60 ?_
    refine x_putM c_Md_handle_61 (by first | rfl | exact a0 | exact c4.1) ⟨by decide, rfl, rfl⟩ rfl ?_
    refine x_il c_Md_handle_64 rfl ?_
    refine x_ri c_Md_handle_65 ?_
    have kk : ∀ q, q ≠ 136 → (kc_u μ4 136 (ce_Md (upd s4 3 (nI 0)))).1 q = μ4.1 q := fun q q1 => kc_gf q1
    have hr := mN_r aN
    have hm4 := ms_r ams
    exact ⟨rfl, upd s4 3 (nI 0), kc_gs, (c4.2.1 0 (by decide)).trans a1, (c4.2.1 1 (by decide)).trans a2, rfl, (c4.2.1 6 (by decide)).trans a3, ⟨ou4, mE_k hE4 (fun q q1 q2 => kk q (by omega))⟩, (let ⟨x1, x2, x3, x4, x5⟩ := c4.2.2.2; ⟨x1, x2, x3, (kk 138 (by decide)).trans x4, x5⟩), ms_g ams (fun q q1 q2 q3 => (kk q (by omega)).trans (c4.2.2.1 q (by omega) (by omega))) (ex_f hm4.1 ((kk 145 (by decide)).trans (c4.2.2.1 145 (by decide) (by decide)))) (ex_l hm4.2.1 ((kk 146 (by decide)).trans (c4.2.2.1 146 (by decide) (by decide)))) (ex_f hm4.2.2.1 ((kk 156 (by decide)).trans (c4.2.2.1 156 (by decide) (by decide)))) (ex_f hm4.2.2.2.1 ((kk 159 (by decide)).trans (c4.2.2.1 159 (by decide) (by decide)))) (ex_l hm4.2.2.2.2 ((kk 160 (by decide)).trans (c4.2.2.1 160 (by decide) (by decide)))), (let ⟨x, y, z⟩ := hr.2.2; ⟨x, y, (c4.2.1 20 (by decide)).trans z⟩), fun q q1 => (kk q (by omega)).trans ((c4.2.2.1 q (by omega) (by omega)).trans (af q q1))⟩
  have hmsgB : ∀ (μ1 : kc_M) (s1 : Nat → Int32), rB μ μ1 s1 tb so n nm pr k 102 c sz → kc_X (kC j_Md_handle) (kc_Y kt kC (d + 9)) (fun v μ' => v = some (.int (nI (oRes tb so n nm pr k c sz 102).1)) ∧ rFi μ μ' tb k 102 (oRes tb so n nm pr k c sz 102)) 38 [some (.ref 136), none] [] μ1 (0, 0) := by
    intro μ1 s1 hB
    have hBms : ms_at μ1 := hB.2.2.2.2.2.2.2.2.2.2.1
    have e17 := hB.2.2.2.2.2.1
    have e18 := hB.2.2.2.2.2.2.1
    have e19 := hB.2.2.2.2.2.2.2.1
    have k137 : μ1.1 137 = some (ce_I 200 (fun j => nI (tb j))) := by obtain ⟨_, _, _, _, _, _, _, ⟨r1, _⟩, _⟩ := hB.2.2.2.2.2.2.2.2.1; exact r1
    refine x_al c_Md_handle_38 rfl ?_
    refine x_cv0z _ c_Md_handle_39 (by exact hB.1) (Nat.le_of_ble_eq_true rfl) (y_Md_readOp102 (d + 3) hB.1 k137 htb hBms e18 e19 hcs hsz e17) ?_
    rintro w μ2 ⟨s2, hK, ⟨x2, y2, cs, kf', tf', ff', cf', vf', r1, rfl, c23, c24, i1, i2, c33, i5, i6, hA2, hL2⟩ | ⟨r1, rfl⟩⟩
    · have hB2 : rB μ μ2 s2 tb so n nm pr k 102 c sz := rB_k hB hK
      obtain ⟨b0, b1, b2, b3, b4, b5, b6, b7, ⟨ou2, bE⟩, bL, bms, ⟨l2, bN⟩, bf⟩ := hB2
      have hb137 : μ2.1 137 = some (ce_I 200 (fun j => nI (tb j))) := by obtain ⟨_, _, _, _, _, _, ⟨r1, _⟩, _⟩ := bE; exact r1
      have hmr := ms_r bms
      have hRE : (oRes tb so n nm pr k c sz 102) = ((opJ so tb (acS tb true c sz) (fun l cs => moK n nm pr l cs)).1, so, n, nm, moF pr (opJ so tb (acS tb true c sz) (fun l cs => moK n nm pr l cs)).2, [], opN tb (acS tb true c sz)) := by unfold oRes; rw [if_neg (by decide), if_neg (by decide), if_pos rfl]
      have hp := y_Md_perform102 (d + 4) b0 bE b3 htb hmr.1 hmr.2.1 hmr.2.2.2.1 hmr.2.2.2.2 ⟨l2, bN⟩ b2 b5 c23 c24 i1 (by omega) hA2 c33 i5 i6 hL2 hgd
      have hoN : opN tb (acS tb true c sz) = nmS tb x2 y2 := by rw [r1]; rfl
      rw [← hoN, ← r1] at hp
      show kc_X _ _ _ _ _ [.int (bI true)] _ _
      refine x_if_eq c_Md_handle_42 (fun h => absurd h (by decide)) (fun _ => ?_)
      refine x_al c_Md_handle_45 rfl ?_
      refine x_cv0z _ c_Md_handle_46 (by first | rfl | exact b0) (Nat.le_of_ble_eq_true rfl) (hp) ?_
      rintro _ μ3 ⟨rfl, s3, d1, d2, d6, dE, d159, d160, ⟨l3, d4, d32⟩, d3⟩
      have hst := fin μ3 (by
        rw [hRE]
        have hr3 := mN_r d4
        exact ⟨s3, d1, (d2 0 (by decide) (by decide) (by decide)).trans b1, (d2 1 (by decide) (by decide) (by decide)).trans b2, d6, (d2 16 (by decide) (by decide) (by decide)).trans b4, (d2 17 (by decide) (by decide) (by decide)).trans b5, ⟨_, dE⟩, (let ⟨x1, x2, x3, x4, x5⟩ := bL; ⟨(d2 5 (by decide) (by decide) (by decide)).trans x1, x2, x3, (d3 138 (by decide) (by decide) (by decide) (by decide) (by decide) (by decide)).trans x4, x5⟩), ms_g bms (fun q q1 q2 q3 => d3 q (by omega) (by omega) (by omega) (by omega) (by omega) (by omega)) hr3.1 hr3.2.1 (ex_f hmr.2.2.1 (d3 156 (by decide) (by decide) (by decide) (by decide) (by decide) (by decide))) d159 d160, ⟨l3, d4, d32⟩, (opJ_lt (fun l cs => moK_lt (fun e => apl_lt cs (pr e)))), Nat.zero_le _, fun q q1 => (d3 q (by omega) (by omega) (by omega) (by omega) (by omega) (by omega)).trans (bf q q1)⟩)
      show kc_X _ _ _ _ _ [.int (nI (opJ so tb (acS tb true c sz) (fun l cs => moK n nm pr l cs)).1)] _ _
      rw [show (opJ so tb (acS tb true c sz) (fun l cs => moK n nm pr l cs)).1 = (oRes tb so n nm pr k c sz 102).1 by rw [hRE]]
      refine x_goto c_Md_handle_49 ?_
      exact hst _
    · have hB2 : rB μ μ2 s2 tb so n nm pr k 102 c sz := rB_k hB hK
      obtain ⟨b0, b1, b2, b3, b4, b5, b6, b7, ⟨ou2, bE⟩, bL, bms, ⟨l2, bN⟩, bf⟩ := hB2
      have hb137 : μ2.1 137 = some (ce_I 200 (fun j => nI (tb j))) := by obtain ⟨_, _, _, _, _, _, ⟨r1, _⟩, _⟩ := bE; exact r1
      have hmr := ms_r bms
      have hRE : (oRes tb so n nm pr k c sz 102) = ((opJ so tb (acS tb true c sz) (fun l cs => moK n nm pr l cs)).1, so, n, nm, moF pr (opJ so tb (acS tb true c sz) (fun l cs => moK n nm pr l cs)).2, [], opN tb (acS tb true c sz)) := by unfold oRes; rw [if_neg (by decide), if_neg (by decide), if_pos rfl]
      have hRb : (oRes tb so n nm pr k c sz 102) = (2, so, n, nm, pr, [], none) := by rw [hRE, show (acS tb true c sz) = none from r1]; rfl
      show kc_X _ _ _ _ _ [.int (bI false)] _ _
      refine x_if_eq c_Md_handle_42 (fun _ => ?_) (fun h => absurd (rfl) h)
      refine x_ci c_Md_handle_52 ?_
      have hst := fin μ2 (by rw [hRb]; exact ⟨s2, b0, b1, b2, b3, b4, b5, ⟨ou2, bE⟩, bL, bms, ⟨l2, bN, fun q => absurd (show 2 = 32 from q) (by decide)⟩, (show 2 < 256 by decide), Nat.zero_le _, bf⟩)
      rw [hRb] at hst ⊢
      exact hst _
  have h137 : μ.1 137 = some (ce_I 200 (fun j => nI (tb j))) := by obtain ⟨_, _, _, _, _, _, ⟨r1, _⟩, _⟩ := hE; exact r1
  have h138 : μ.1 138 = some (ce_I 480 ou) := by obtain ⟨_, _, _, _, _, _, ⟨_, r1, _⟩, _⟩ := hE; exact r1
  have hmr0 := ms_r hms
  refine x_al c_Md_handle_0 rfl ?_
  refine x_getE c_Md_handle_1 (by first | rfl | exact h0 | exact rfl | exact kc_gs) rfl (by first | exact hs0 | rfl) ?_
  refine x_if_eq c_Md_handle_4 (fun _ => ?_) (fun h => absurd (rfl) h)
  refine x_al c_Md_handle_9 rfl ?_
  refine x_ci c_Md_handle_10 ?_
  refine x_putM c_Md_handle_11 (by first | rfl | exact h0 | exact rfl | exact kc_gs) ⟨by decide, rfl, rfl⟩ rfl ?_
  refine x_al c_Md_handle_14 rfl ?_
  refine x_cv0z _ c_Md_handle_15 (by first | rfl | exact h0 | exact rfl | exact kc_gs) (Nat.le_of_ble_eq_true rfl) (y_Md_isMessage (d + 5) (μ := kc_u μ 136 (ce_Md (upd s 5 (nI 0)))) (s := upd s 5 (nI 0)) kc_gs (by exact h137) htb (sz := sz) hs3 hsz) ?_
  rintro v μ1 ⟨s1, hc1, ⟨i', b', c', hm', hio, rfl, e16, e17, e18, e19⟩ | ⟨hno, rfl⟩⟩
  · rw [hmsg] at hm'
    have hm' := Option.some.inj hm'
    have h1' : nI k = i' := congrArg Prod.fst hm'
    have h2' : b = b' := congrArg (fun x => x.2.1) hm'
    have h3' : c = c' := congrArg (fun x => x.2.2) hm'
    subst h1'; subst h2'; subst h3'
    rw [hop] at e17
    have g : ∀ q, q ≠ 136 → μ1.1 q = μ.1 q := fun q q1 => (hc1.2.2 q q1).trans (kc_gf q1)
    have hB : rB μ μ1 s1 tb so n nm pr k 102 c sz := by
      obtain ⟨k9, k10, k11⟩ := h20
      exact ⟨hc1.1, (hc1.2.1 0 (by decide)).trans hs0, (hc1.2.1 1 (by decide)).trans hs1, (hc1.2.1 6 (by decide)).trans hs6, e16, e17, e18, e19, ⟨ou, mE_k hE (fun q q1 q2 => g q (by omega))⟩, ⟨(hc1.2.1 5 (by decide)).trans rfl, Nat.zero_le _, ou, (g 138 (by decide)).trans h138, fun j hj => absurd hj (Nat.not_lt_zero _)⟩, ms_g hms (fun q q1 q2 q3 => g q (by omega)) (ex_f hmr0.1 (g 145 (by decide))) (ex_l hmr0.2.1 (g 146 (by decide))) (ex_f hmr0.2.2.1 (g 156 (by decide))) (ex_f hmr0.2.2.2.1 (g 159 (by decide))) (ex_l hmr0.2.2.2.2 (g 160 (by decide))), mN_any k10 ((hc1.2.1 20 (by decide)).trans k11) (ex_f hmr0.1 (g 145 (by decide))) (ex_l hmr0.2.1 (g 146 (by decide))), fun q q1 => g q (by omega)⟩
    show kc_X _ _ _ _ _ [.int (bI true)] _ _
    refine x_if_ne c_Md_handle_18 (fun _ => ?_) (fun h => absurd h (by decide))
    exact hmsgB μ1 s1 hB
  · exact absurd (by rw [hop]; unfold isOp; decide) (hno _ _ _ hmsg)
set_option maxRecDepth 100000 in
set_option maxHeartbeats 4000000 in
theorem y_Md_handle104 (d : Nat) {μ : kc_M} {s : Nat → Int32} (h0 : μ.1 136 = some (ce_Md s)) (hs0 : s 0 = bI false) {so : Bool} (hs1 : s 1 = bI so) {sz : Nat} (hs3 : s 3 = nI sz) {tb : Nat → Nat} {ou : Nat → Int32} {n : Nat} {nm pr : Nat → List tv} (hs6 : s 6 = nI n) (hE : mE μ tb ou n nm pr) (hms : ms_at μ) (h20 : ∃ k, k ≤ 4 ∧ s 20 = nI k) (htb : ∀ j, tb j < 256) (hsz : sz ≤ 200) (hgd : ∀ e, e < n → gd (pr e)) (hne : ∀ e, e < n → 1 ≤ (nm e).length) (hdi : ∀ i j, i < n → j < n → nm i = nm j → i = j) {k b c : Nat} (hk31 : k < 2 ^ 31) (hmsg : msg tb sz = some (nI k, b, c)) (hcs : c ≤ sz) (hop : tb b = 104) : kc_Y kt kC (d + 10) j_Md_handle [.ref 136] μ (fun v μ' => v = some (.int (nI (oRes tb so n nm pr k c sz 104).1)) ∧ rFi μ μ' tb k 104 (oRes tb so n nm pr k c sz 104)) := by
  refine ⟨Nat.le_of_ble_eq_true rfl, ?_⟩
  have fin : ∀ (μ2 : kc_M), rPo μ μ2 tb k 104 (oRes tb so n nm pr k c sz 104) → ∀ j, kc_X (kC j_Md_handle) (kc_Y kt kC (d + 9)) (fun v μ' => v = some (.int (nI (oRes tb so n nm pr k c sz 104).1)) ∧ rFi μ μ' tb k 104 (oRes tb so n nm pr k c sz 104)) 53 [some (.ref 136), j] [.int (nI (oRes tb so n nm pr k c sz 104).1)] μ2 (0, 0) := by
    intro μ2 rP j
    obtain ⟨R, hR⟩ : ∃ R, (oRes tb so n nm pr k c sz 104) = R := ⟨_, rfl⟩
    rw [hR] at rP ⊢
    obtain ⟨s2, a0, a1, a2, a3, a4, a5, ⟨ou2, aE⟩, aL, ams, ⟨l', aN, a32⟩, ac, al, af⟩ := rP
    refine x_is [_, _] c_Md_handle_53 rfl ?_
    refine x_al c_Md_handle_54 rfl ?_
    refine x_il c_Md_handle_55 rfl ?_
    refine x_cv1z _ c_Md_handle_56 (by first | rfl | exact a0 | exact c4.1) (Nat.le_of_ble_eq_true rfl) (y_Md_conclude (d + 5) a0 aL aE a3 aN hk31 a4 (op := 104) (by decide) a5 (code := R.1) ac (by omega)) ?_
    rintro _ μ4 ⟨rfl, s4, c4⟩
    have hA : R.2.2.2.2.2.1 ++ cB k (dnO 104) R.1 (if R.1 = 32 then naL R.2.2.2.1 l' R.2.2.1 else []) = oAll R k 104 := by
      unfold oAll
      by_cases h32 : R.1 = 32
      · rw [if_pos h32, if_pos h32, a32 h32]; rfl
      · rw [if_neg h32, if_neg h32]
    rw [hA] at c4
    obtain ⟨ou4, hE4⟩ := mE_o aE c4
    show kc_X _ _ _ _ _ [] _ _
    refine x_al c_Md_handle_59 rfl ?_
    refine x_ci c_Md_handle_60 ?_
    refine x_putM c_Md_handle_61 (by first | rfl | exact a0 | exact c4.1) ⟨by decide, rfl, rfl⟩ rfl ?_
    refine x_il c_Md_handle_64 rfl ?_
    refine x_ri c_Md_handle_65 ?_
    have kk : ∀ q, q ≠ 136 → (kc_u μ4 136 (ce_Md (upd s4 3 (nI 0)))).1 q = μ4.1 q := fun q q1 => kc_gf q1
    have hr := mN_r aN
    have hm4 := ms_r ams
    exact ⟨rfl, upd s4 3 (nI 0), kc_gs, (c4.2.1 0 (by decide)).trans a1, (c4.2.1 1 (by decide)).trans a2, rfl, (c4.2.1 6 (by decide)).trans a3, ⟨ou4, mE_k hE4 (fun q q1 q2 => kk q (by omega))⟩, (let ⟨x1, x2, x3, x4, x5⟩ := c4.2.2.2; ⟨x1, x2, x3, (kk 138 (by decide)).trans x4, x5⟩), ms_g ams (fun q q1 q2 q3 => (kk q (by omega)).trans (c4.2.2.1 q (by omega) (by omega))) (ex_f hm4.1 ((kk 145 (by decide)).trans (c4.2.2.1 145 (by decide) (by decide)))) (ex_l hm4.2.1 ((kk 146 (by decide)).trans (c4.2.2.1 146 (by decide) (by decide)))) (ex_f hm4.2.2.1 ((kk 156 (by decide)).trans (c4.2.2.1 156 (by decide) (by decide)))) (ex_f hm4.2.2.2.1 ((kk 159 (by decide)).trans (c4.2.2.1 159 (by decide) (by decide)))) (ex_l hm4.2.2.2.2 ((kk 160 (by decide)).trans (c4.2.2.1 160 (by decide) (by decide)))), (let ⟨x, y, z⟩ := hr.2.2; ⟨x, y, (c4.2.1 20 (by decide)).trans z⟩), fun q q1 => (kk q (by omega)).trans ((c4.2.2.1 q (by omega) (by omega)).trans (af q q1))⟩
  have hmsgB : ∀ (μ1 : kc_M) (s1 : Nat → Int32), rB μ μ1 s1 tb so n nm pr k 104 c sz → kc_X (kC j_Md_handle) (kc_Y kt kC (d + 9)) (fun v μ' => v = some (.int (nI (oRes tb so n nm pr k c sz 104).1)) ∧ rFi μ μ' tb k 104 (oRes tb so n nm pr k c sz 104)) 38 [some (.ref 136), none] [] μ1 (0, 0) := by
    intro μ1 s1 hB
    have hBms : ms_at μ1 := hB.2.2.2.2.2.2.2.2.2.2.1
    have e17 := hB.2.2.2.2.2.1
    have e18 := hB.2.2.2.2.2.2.1
    have e19 := hB.2.2.2.2.2.2.2.1
    have k137 : μ1.1 137 = some (ce_I 200 (fun j => nI (tb j))) := by obtain ⟨_, _, _, _, _, _, _, ⟨r1, _⟩, _⟩ := hB.2.2.2.2.2.2.2.2.1; exact r1
    refine x_al c_Md_handle_38 rfl ?_
    refine x_cv0z _ c_Md_handle_39 (by exact hB.1) (Nat.le_of_ble_eq_true rfl) (y_Md_readOp104 (d + 3) hB.1 k137 htb hBms e18 e19 hcs hsz e17) ?_
    rintro w μ2 ⟨s2, hK, ⟨x2, y2, cs, kf', tf', ff', cf', vf', r1, rfl, c23, c24, i1, i2, c33, i5, i6, hA2, hL2⟩ | ⟨r1, rfl⟩⟩
    · have hB2 : rB μ μ2 s2 tb so n nm pr k 104 c sz := rB_k hB hK
      obtain ⟨b0, b1, b2, b3, b4, b5, b6, b7, ⟨ou2, bE⟩, bL, bms, ⟨l2, bN⟩, bf⟩ := hB2
      have hb137 : μ2.1 137 = some (ce_I 200 (fun j => nI (tb j))) := by obtain ⟨_, _, _, _, _, _, ⟨r1, _⟩, _⟩ := bE; exact r1
      have hmr := ms_r bms
      have hRE : (oRes tb so n nm pr k c sz 104) = ((opJ so tb (acS tb false c sz) (fun l cs => adK n nm l cs)).1, so, adN n (opJ so tb (acS tb false c sz) (fun l cs => adK n nm l cs)).2, adF n (fun _ => (opN tb (acS tb false c sz)).getD []) nm (opJ so tb (acS tb false c sz) (fun l cs => adK n nm l cs)).2, adF n (fun p => p) pr (opJ so tb (acS tb false c sz) (fun l cs => adK n nm l cs)).2, [], opN tb (acS tb false c sz)) := by unfold oRes; rw [if_neg (by decide), if_neg (by decide), if_neg (by decide), if_pos rfl]
      have hp := y_Md_perform104 (d + 4) b0 bE b3 htb hmr.1 hmr.2.1 hmr.2.2.2.1 hmr.2.2.2.2 ⟨l2, bN⟩ b2 b5 c23 c24 i1 (by omega) hA2 c33 i5 i6 hL2 (ac_kind r1)
      have hoN : opN tb (acS tb false c sz) = nmS tb x2 y2 := by rw [r1]; rfl
      rw [← hoN, ← r1] at hp
      show kc_X _ _ _ _ _ [.int (bI true)] _ _
      refine x_if_eq c_Md_handle_42 (fun h => absurd h (by decide)) (fun _ => ?_)
      refine x_al c_Md_handle_45 rfl ?_
      refine x_cv0z _ c_Md_handle_46 (by first | rfl | exact b0) (Nat.le_of_ble_eq_true rfl) (hp) ?_
      rintro _ μ3 ⟨rfl, s3, d1, d2, d6, dE, d159, d160, ⟨l3, d4, d32⟩, d3⟩
      have hst := fin μ3 (by
        rw [hRE]
        have hr3 := mN_r d4
        exact ⟨s3, d1, (d2 0 (by decide) (by decide) (by decide)).trans b1, (d2 1 (by decide) (by decide) (by decide)).trans b2, d6, (d2 16 (by decide) (by decide) (by decide)).trans b4, (d2 17 (by decide) (by decide) (by decide)).trans b5, ⟨_, dE⟩, (let ⟨x1, x2, x3, x4, x5⟩ := bL; ⟨(d2 5 (by decide) (by decide) (by decide)).trans x1, x2, x3, (d3 138 (by decide) (by decide) (by decide) (by decide) (by decide) (by decide)).trans x4, x5⟩), ms_g bms (fun q q1 q2 q3 => d3 q (by omega) (by omega) (by omega) (by omega) (by omega) (by omega)) hr3.1 hr3.2.1 (ex_f hmr.2.2.1 (d3 156 (by decide) (by decide) (by decide) (by decide) (by decide) (by decide))) d159 d160, ⟨l3, d4, d32⟩, (opJ_lt (fun l cs => adK_lt (apl_lt cs []))), Nat.zero_le _, fun q q1 => (d3 q (by omega) (by omega) (by omega) (by omega) (by omega) (by omega)).trans (bf q q1)⟩)
      show kc_X _ _ _ _ _ [.int (nI (opJ so tb (acS tb false c sz) (fun l cs => adK n nm l cs)).1)] _ _
      rw [show (opJ so tb (acS tb false c sz) (fun l cs => adK n nm l cs)).1 = (oRes tb so n nm pr k c sz 104).1 by rw [hRE]]
      refine x_goto c_Md_handle_49 ?_
      exact hst _
    · have hB2 : rB μ μ2 s2 tb so n nm pr k 104 c sz := rB_k hB hK
      obtain ⟨b0, b1, b2, b3, b4, b5, b6, b7, ⟨ou2, bE⟩, bL, bms, ⟨l2, bN⟩, bf⟩ := hB2
      have hb137 : μ2.1 137 = some (ce_I 200 (fun j => nI (tb j))) := by obtain ⟨_, _, _, _, _, _, ⟨r1, _⟩, _⟩ := bE; exact r1
      have hmr := ms_r bms
      have hRE : (oRes tb so n nm pr k c sz 104) = ((opJ so tb (acS tb false c sz) (fun l cs => adK n nm l cs)).1, so, adN n (opJ so tb (acS tb false c sz) (fun l cs => adK n nm l cs)).2, adF n (fun _ => (opN tb (acS tb false c sz)).getD []) nm (opJ so tb (acS tb false c sz) (fun l cs => adK n nm l cs)).2, adF n (fun p => p) pr (opJ so tb (acS tb false c sz) (fun l cs => adK n nm l cs)).2, [], opN tb (acS tb false c sz)) := by unfold oRes; rw [if_neg (by decide), if_neg (by decide), if_neg (by decide), if_pos rfl]
      have hRb : (oRes tb so n nm pr k c sz 104) = (2, so, n, nm, pr, [], none) := by rw [hRE, show (acS tb false c sz) = none from r1]; rfl
      show kc_X _ _ _ _ _ [.int (bI false)] _ _
      refine x_if_eq c_Md_handle_42 (fun _ => ?_) (fun h => absurd (rfl) h)
      refine x_ci c_Md_handle_52 ?_
      have hst := fin μ2 (by rw [hRb]; exact ⟨s2, b0, b1, b2, b3, b4, b5, ⟨ou2, bE⟩, bL, bms, ⟨l2, bN, fun q => absurd (show 2 = 32 from q) (by decide)⟩, (show 2 < 256 by decide), Nat.zero_le _, bf⟩)
      rw [hRb] at hst ⊢
      exact hst _
  have h137 : μ.1 137 = some (ce_I 200 (fun j => nI (tb j))) := by obtain ⟨_, _, _, _, _, _, ⟨r1, _⟩, _⟩ := hE; exact r1
  have h138 : μ.1 138 = some (ce_I 480 ou) := by obtain ⟨_, _, _, _, _, _, ⟨_, r1, _⟩, _⟩ := hE; exact r1
  have hmr0 := ms_r hms
  refine x_al c_Md_handle_0 rfl ?_
  refine x_getE c_Md_handle_1 (by first | rfl | exact h0 | exact rfl | exact kc_gs) rfl (by first | exact hs0 | rfl) ?_
  refine x_if_eq c_Md_handle_4 (fun _ => ?_) (fun h => absurd (rfl) h)
  refine x_al c_Md_handle_9 rfl ?_
  refine x_ci c_Md_handle_10 ?_
  refine x_putM c_Md_handle_11 (by first | rfl | exact h0 | exact rfl | exact kc_gs) ⟨by decide, rfl, rfl⟩ rfl ?_
  refine x_al c_Md_handle_14 rfl ?_
  refine x_cv0z _ c_Md_handle_15 (by first | rfl | exact h0 | exact rfl | exact kc_gs) (Nat.le_of_ble_eq_true rfl) (y_Md_isMessage (d + 5) (μ := kc_u μ 136 (ce_Md (upd s 5 (nI 0)))) (s := upd s 5 (nI 0)) kc_gs (by exact h137) htb (sz := sz) hs3 hsz) ?_
  rintro v μ1 ⟨s1, hc1, ⟨i', b', c', hm', hio, rfl, e16, e17, e18, e19⟩ | ⟨hno, rfl⟩⟩
  · rw [hmsg] at hm'
    have hm' := Option.some.inj hm'
    have h1' : nI k = i' := congrArg Prod.fst hm'
    have h2' : b = b' := congrArg (fun x => x.2.1) hm'
    have h3' : c = c' := congrArg (fun x => x.2.2) hm'
    subst h1'; subst h2'; subst h3'
    rw [hop] at e17
    have g : ∀ q, q ≠ 136 → μ1.1 q = μ.1 q := fun q q1 => (hc1.2.2 q q1).trans (kc_gf q1)
    have hB : rB μ μ1 s1 tb so n nm pr k 104 c sz := by
      obtain ⟨k9, k10, k11⟩ := h20
      exact ⟨hc1.1, (hc1.2.1 0 (by decide)).trans hs0, (hc1.2.1 1 (by decide)).trans hs1, (hc1.2.1 6 (by decide)).trans hs6, e16, e17, e18, e19, ⟨ou, mE_k hE (fun q q1 q2 => g q (by omega))⟩, ⟨(hc1.2.1 5 (by decide)).trans rfl, Nat.zero_le _, ou, (g 138 (by decide)).trans h138, fun j hj => absurd hj (Nat.not_lt_zero _)⟩, ms_g hms (fun q q1 q2 q3 => g q (by omega)) (ex_f hmr0.1 (g 145 (by decide))) (ex_l hmr0.2.1 (g 146 (by decide))) (ex_f hmr0.2.2.1 (g 156 (by decide))) (ex_f hmr0.2.2.2.1 (g 159 (by decide))) (ex_l hmr0.2.2.2.2 (g 160 (by decide))), mN_any k10 ((hc1.2.1 20 (by decide)).trans k11) (ex_f hmr0.1 (g 145 (by decide))) (ex_l hmr0.2.1 (g 146 (by decide))), fun q q1 => g q (by omega)⟩
    show kc_X _ _ _ _ _ [.int (bI true)] _ _
    refine x_if_ne c_Md_handle_18 (fun _ => ?_) (fun h => absurd h (by decide))
    exact hmsgB μ1 s1 hB
  · exact absurd (by rw [hop]; unfold isOp; decide) (hno _ _ _ hmsg)
set_option maxRecDepth 100000 in
set_option maxHeartbeats 4000000 in
theorem y_Md_handle74 (d : Nat) {μ : kc_M} {s : Nat → Int32} (h0 : μ.1 136 = some (ce_Md s)) (hs0 : s 0 = bI false) {so : Bool} (hs1 : s 1 = bI so) {sz : Nat} (hs3 : s 3 = nI sz) {tb : Nat → Nat} {ou : Nat → Int32} {n : Nat} {nm pr : Nat → List tv} (hs6 : s 6 = nI n) (hE : mE μ tb ou n nm pr) (hms : ms_at μ) (h20 : ∃ k, k ≤ 4 ∧ s 20 = nI k) (htb : ∀ j, tb j < 256) (hsz : sz ≤ 200) (hgd : ∀ e, e < n → gd (pr e)) (hne : ∀ e, e < n → 1 ≤ (nm e).length) (hdi : ∀ i j, i < n → j < n → nm i = nm j → i = j) {k b c : Nat} (hk31 : k < 2 ^ 31) (hmsg : msg tb sz = some (nI k, b, c)) (hcs : c ≤ sz) (hop : tb b = 74) : kc_Y kt kC (d + 10) j_Md_handle [.ref 136] μ (fun v μ' => v = some (.int (nI (oRes tb so n nm pr k c sz 74).1)) ∧ rFi μ μ' tb k 74 (oRes tb so n nm pr k c sz 74)) := by
  refine ⟨Nat.le_of_ble_eq_true rfl, ?_⟩
  have fin : ∀ (μ2 : kc_M), rPo μ μ2 tb k 74 (oRes tb so n nm pr k c sz 74) → ∀ j, kc_X (kC j_Md_handle) (kc_Y kt kC (d + 9)) (fun v μ' => v = some (.int (nI (oRes tb so n nm pr k c sz 74).1)) ∧ rFi μ μ' tb k 74 (oRes tb so n nm pr k c sz 74)) 53 [some (.ref 136), j] [.int (nI (oRes tb so n nm pr k c sz 74).1)] μ2 (0, 0) := by
    intro μ2 rP j
    obtain ⟨R, hR⟩ : ∃ R, (oRes tb so n nm pr k c sz 74) = R := ⟨_, rfl⟩
    rw [hR] at rP ⊢
    obtain ⟨s2, a0, a1, a2, a3, a4, a5, ⟨ou2, aE⟩, aL, ams, ⟨l', aN, a32⟩, ac, al, af⟩ := rP
    refine x_is [_, _] c_Md_handle_53 rfl ?_
    refine x_al c_Md_handle_54 rfl ?_
    refine x_il c_Md_handle_55 rfl ?_
    refine x_cv1z _ c_Md_handle_56 (by first | rfl | exact a0 | exact c4.1) (Nat.le_of_ble_eq_true rfl) (y_Md_conclude (d + 5) a0 aL aE a3 aN hk31 a4 (op := 74) (by decide) a5 (code := R.1) ac (by omega)) ?_
    rintro _ μ4 ⟨rfl, s4, c4⟩
    have hA : R.2.2.2.2.2.1 ++ cB k (dnO 74) R.1 (if R.1 = 32 then naL R.2.2.2.1 l' R.2.2.1 else []) = oAll R k 74 := by
      unfold oAll
      by_cases h32 : R.1 = 32
      · rw [if_pos h32, if_pos h32, a32 h32]; rfl
      · rw [if_neg h32, if_neg h32]
    rw [hA] at c4
    obtain ⟨ou4, hE4⟩ := mE_o aE c4
    show kc_X _ _ _ _ _ [] _ _
    refine x_al c_Md_handle_59 rfl ?_
    refine x_ci c_Md_handle_60 ?_
    refine x_putM c_Md_handle_61 (by first | rfl | exact a0 | exact c4.1) ⟨by decide, rfl, rfl⟩ rfl ?_
    refine x_il c_Md_handle_64 rfl ?_
    refine x_ri c_Md_handle_65 ?_
    have kk : ∀ q, q ≠ 136 → (kc_u μ4 136 (ce_Md (upd s4 3 (nI 0)))).1 q = μ4.1 q := fun q q1 => kc_gf q1
    have hr := mN_r aN
    have hm4 := ms_r ams
    exact ⟨rfl, upd s4 3 (nI 0), kc_gs, (c4.2.1 0 (by decide)).trans a1, (c4.2.1 1 (by decide)).trans a2, rfl, (c4.2.1 6 (by decide)).trans a3, ⟨ou4, mE_k hE4 (fun q q1 q2 => kk q (by omega))⟩, (let ⟨x1, x2, x3, x4, x5⟩ := c4.2.2.2; ⟨x1, x2, x3, (kk 138 (by decide)).trans x4, x5⟩), ms_g ams (fun q q1 q2 q3 => (kk q (by omega)).trans (c4.2.2.1 q (by omega) (by omega))) (ex_f hm4.1 ((kk 145 (by decide)).trans (c4.2.2.1 145 (by decide) (by decide)))) (ex_l hm4.2.1 ((kk 146 (by decide)).trans (c4.2.2.1 146 (by decide) (by decide)))) (ex_f hm4.2.2.1 ((kk 156 (by decide)).trans (c4.2.2.1 156 (by decide) (by decide)))) (ex_f hm4.2.2.2.1 ((kk 159 (by decide)).trans (c4.2.2.1 159 (by decide) (by decide)))) (ex_l hm4.2.2.2.2 ((kk 160 (by decide)).trans (c4.2.2.1 160 (by decide) (by decide)))), (let ⟨x, y, z⟩ := hr.2.2; ⟨x, y, (c4.2.1 20 (by decide)).trans z⟩), fun q q1 => (kk q (by omega)).trans ((c4.2.2.1 q (by omega) (by omega)).trans (af q q1))⟩
  have hmsgB : ∀ (μ1 : kc_M) (s1 : Nat → Int32), rB μ μ1 s1 tb so n nm pr k 74 c sz → kc_X (kC j_Md_handle) (kc_Y kt kC (d + 9)) (fun v μ' => v = some (.int (nI (oRes tb so n nm pr k c sz 74).1)) ∧ rFi μ μ' tb k 74 (oRes tb so n nm pr k c sz 74)) 38 [some (.ref 136), none] [] μ1 (0, 0) := by
    intro μ1 s1 hB
    have hBms : ms_at μ1 := hB.2.2.2.2.2.2.2.2.2.2.1
    have e17 := hB.2.2.2.2.2.1
    have e18 := hB.2.2.2.2.2.2.1
    have e19 := hB.2.2.2.2.2.2.2.1
    have k137 : μ1.1 137 = some (ce_I 200 (fun j => nI (tb j))) := by obtain ⟨_, _, _, _, _, _, _, ⟨r1, _⟩, _⟩ := hB.2.2.2.2.2.2.2.2.1; exact r1
    refine x_al c_Md_handle_38 rfl ?_
    refine x_cv0z _ c_Md_handle_39 (by exact hB.1) (Nat.le_of_ble_eq_true rfl) (y_Md_readOp74 (d + 3) hB.1 k137 htb hBms e18 e19 hcs hsz e17) ?_
    rintro w μ2 ⟨s2, hK, rfl, c23, c24⟩
    have hB2 : rB μ μ2 s2 tb so n nm pr k 74 c sz := rB_k hB hK
    obtain ⟨b0, b1, b2, b3, b4, b5, b6, b7, ⟨ou2, bE⟩, bL, bms, ⟨l2, bN⟩, bf⟩ := hB2
    have hb137 : μ2.1 137 = some (ce_I 200 (fun j => nI (tb j))) := by obtain ⟨_, _, _, _, _, _, ⟨r1, _⟩, _⟩ := bE; exact r1
    have hmr := ms_r bms
    have hRE : (oRes tb so n nm pr k c sz 74) = ((dlC so n nm (nmS tb c sz)).1, so, dn n (dlC so n nm (nmS tb c sz)).2, (fun i => nm (dr n (dlC so n nm (nmS tb c sz)).2 i)), (fun i => pr (dr n (dlC so n nm (nmS tb c sz)).2 i)), [], nmS tb c sz) := by unfold oRes; rw [if_neg (by decide), if_neg (by decide), if_neg (by decide), if_neg (by decide)]
    have hp := y_Md_perform74 (d + 4) b0 bE b3 htb hmr.1 hmr.2.1 hmr.2.2.2.1 hmr.2.2.2.2 ⟨l2, bN⟩ b2 b5 c23 c24 hcs hsz
    show kc_X _ _ _ _ _ [.int (bI true)] _ _
    refine x_if_eq c_Md_handle_42 (fun h => absurd h (by decide)) (fun _ => ?_)
    refine x_al c_Md_handle_45 rfl ?_
    refine x_cv0z _ c_Md_handle_46 (by first | rfl | exact b0) (Nat.le_of_ble_eq_true rfl) (hp) ?_
    rintro _ μ3 ⟨rfl, s3, d1, d2, d6, dE, d159, d160, ⟨l3, d4, d32⟩, d3⟩
    have hst := fin μ3 (by
      rw [hRE]
      have hr3 := mN_r d4
      exact ⟨s3, d1, (d2 0 (by decide) (by decide) (by decide)).trans b1, (d2 1 (by decide) (by decide) (by decide)).trans b2, d6, (d2 16 (by decide) (by decide) (by decide)).trans b4, (d2 17 (by decide) (by decide) (by decide)).trans b5, ⟨_, dE⟩, (let ⟨x1, x2, x3, x4, x5⟩ := bL; ⟨(d2 5 (by decide) (by decide) (by decide)).trans x1, x2, x3, (d3 138 (by decide) (by decide) (by decide) (by decide) (by decide) (by decide)).trans x4, x5⟩), ms_g bms (fun q q1 q2 q3 => d3 q (by omega) (by omega) (by omega) (by omega) (by omega) (by omega)) hr3.1 hr3.2.1 (ex_f hmr.2.2.1 (d3 156 (by decide) (by decide) (by decide) (by decide) (by decide) (by decide))) d159 d160, ⟨l3, d4, d32⟩, dlC_lt, Nat.zero_le _, fun q q1 => (d3 q (by omega) (by omega) (by omega) (by omega) (by omega) (by omega)).trans (bf q q1)⟩)
    show kc_X _ _ _ _ _ [.int (nI (dlC so n nm (nmS tb c sz)).1)] _ _
    rw [show (dlC so n nm (nmS tb c sz)).1 = (oRes tb so n nm pr k c sz 74).1 by rw [hRE]]
    refine x_goto c_Md_handle_49 ?_
    exact hst _
  have h137 : μ.1 137 = some (ce_I 200 (fun j => nI (tb j))) := by obtain ⟨_, _, _, _, _, _, ⟨r1, _⟩, _⟩ := hE; exact r1
  have h138 : μ.1 138 = some (ce_I 480 ou) := by obtain ⟨_, _, _, _, _, _, ⟨_, r1, _⟩, _⟩ := hE; exact r1
  have hmr0 := ms_r hms
  refine x_al c_Md_handle_0 rfl ?_
  refine x_getE c_Md_handle_1 (by first | rfl | exact h0 | exact rfl | exact kc_gs) rfl (by first | exact hs0 | rfl) ?_
  refine x_if_eq c_Md_handle_4 (fun _ => ?_) (fun h => absurd (rfl) h)
  refine x_al c_Md_handle_9 rfl ?_
  refine x_ci c_Md_handle_10 ?_
  refine x_putM c_Md_handle_11 (by first | rfl | exact h0 | exact rfl | exact kc_gs) ⟨by decide, rfl, rfl⟩ rfl ?_
  refine x_al c_Md_handle_14 rfl ?_
  refine x_cv0z _ c_Md_handle_15 (by first | rfl | exact h0 | exact rfl | exact kc_gs) (Nat.le_of_ble_eq_true rfl) (y_Md_isMessage (d + 5) (μ := kc_u μ 136 (ce_Md (upd s 5 (nI 0)))) (s := upd s 5 (nI 0)) kc_gs (by exact h137) htb (sz := sz) hs3 hsz) ?_
  rintro v μ1 ⟨s1, hc1, ⟨i', b', c', hm', hio, rfl, e16, e17, e18, e19⟩ | ⟨hno, rfl⟩⟩
  · rw [hmsg] at hm'
    have hm' := Option.some.inj hm'
    have h1' : nI k = i' := congrArg Prod.fst hm'
    have h2' : b = b' := congrArg (fun x => x.2.1) hm'
    have h3' : c = c' := congrArg (fun x => x.2.2) hm'
    subst h1'; subst h2'; subst h3'
    rw [hop] at e17
    have g : ∀ q, q ≠ 136 → μ1.1 q = μ.1 q := fun q q1 => (hc1.2.2 q q1).trans (kc_gf q1)
    have hB : rB μ μ1 s1 tb so n nm pr k 74 c sz := by
      obtain ⟨k9, k10, k11⟩ := h20
      exact ⟨hc1.1, (hc1.2.1 0 (by decide)).trans hs0, (hc1.2.1 1 (by decide)).trans hs1, (hc1.2.1 6 (by decide)).trans hs6, e16, e17, e18, e19, ⟨ou, mE_k hE (fun q q1 q2 => g q (by omega))⟩, ⟨(hc1.2.1 5 (by decide)).trans rfl, Nat.zero_le _, ou, (g 138 (by decide)).trans h138, fun j hj => absurd hj (Nat.not_lt_zero _)⟩, ms_g hms (fun q q1 q2 q3 => g q (by omega)) (ex_f hmr0.1 (g 145 (by decide))) (ex_l hmr0.2.1 (g 146 (by decide))) (ex_f hmr0.2.2.1 (g 156 (by decide))) (ex_f hmr0.2.2.2.1 (g 159 (by decide))) (ex_l hmr0.2.2.2.2 (g 160 (by decide))), mN_any k10 ((hc1.2.1 20 (by decide)).trans k11) (ex_f hmr0.1 (g 145 (by decide))) (ex_l hmr0.2.1 (g 146 (by decide))), fun q q1 => g q (by omega)⟩
    show kc_X _ _ _ _ _ [.int (bI true)] _ _
    refine x_if_ne c_Md_handle_18 (fun _ => ?_) (fun h => absurd h (by decide))
    exact hmsgB μ1 s1 hB
  · exact absurd (by rw [hop]; unfold isOp; decide) (hno _ _ _ hmsg)
