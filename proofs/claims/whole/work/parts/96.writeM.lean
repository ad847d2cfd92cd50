/-! the reference writes -/
/-- the reference's answer so far -/
def oL (μ : kc_M) (s : Nat → Int32) (L : List Int32) : Prop := s 5 = nI L.length ∧ L.length ≤ 480 ∧ ∃ ou, μ.1 138 = some (ce_I 480 ou) ∧ ∀ k, k < L.length → L[k]? = some (ou k)
def oC (μ μ' : kc_M) (s s' : Nat → Int32) (L : List Int32) : Prop := μ'.1 136 = some (ce_Md s') ∧ (∀ i, i ≠ 5 → s' i = s i) ∧ (∀ q, q ≠ 136 → q ≠ 138 → μ'.1 q = μ.1 q) ∧ oL μ' s' L
theorem oC.re {μ : kc_M} {s : Nat → Int32} {L : List Int32} (h : μ.1 136 = some (ce_Md s)) (hL : oL μ s L) : oC μ μ s s L := ⟨h, fun _ _ => rfl, fun _ _ _ => rfl, hL⟩
theorem oC.to {μ μ1 μ2 : kc_M} {s s1 s2 : Nat → Int32} {L L' : List Int32} (h1 : oC μ μ1 s s1 L) (h2 : oC μ1 μ2 s1 s2 L') : oC μ μ2 s s2 L' := ⟨h2.1, fun i hi => (h2.2.1 i hi).trans (h1.2.1 i hi), fun q q1 q2 => (h2.2.2.1 q q1 q2).trans (h1.2.2.1 q q1 q2), h2.2.2.2⟩
set_option maxRecDepth 100000 in
set_option maxHeartbeats 2000000 in
theorem y_Md_say (d : Nat) {μ : kc_M} {s : Nat → Int32} {L : List Int32} (h0 : μ.1 136 = some (ce_Md s)) (h : oL μ s L) (hl : L.length < 480) {b : Int32} : kc_Y kt kC (d + 1) j_Md_say [.ref 136, .int b] μ (fun v μ' => v = none ∧ ∃ s', oC μ μ' s s' (L ++ [b])) := by
  refine ⟨Nat.le_of_ble_eq_true rfl, ?_⟩
  obtain ⟨h1, h4, w, h2, h3⟩ := h
  refine x_al c_Md_say_0 rfl ?_
  refine x_get c_Md_say_1 (by first | rfl | exact h0 | exact h2) rfl ?_
  refine x_al c_Md_say_4 rfl ?_
  refine x_getE c_Md_say_5 (by first | rfl | exact h0 | exact h2) rfl (by first | exact h1 | rfl) ?_
  refine x_il c_Md_say_8 rfl ?_
  refine x_iastN c_Md_say_9 (by first | rfl | exact h0 | exact h2) (by omega) (by omega) ?_
  refine x_al c_Md_say_10 rfl ?_
  refine x_dup c_Md_say_11 rfl ?_
  refine x_getE c_Md_say_12 (by first | rfl | exact h0 | exact h2) rfl (by first | exact h1 | rfl) ?_
  refine x_ci c_Md_say_15 ?_
  first | refine x_iaddN c_Md_say_16 ?_ | refine x_iadd c_Md_say_16 ?_
  refine x_putM c_Md_say_17 (by first | rfl | exact h0 | exact h2) ⟨by decide, rfl, rfl⟩ rfl ?_
  refine x_ret c_Md_say_20 ?_
  exact ⟨rfl, _, kc_gs, fun i hi => if_neg hi, fun q q1 q2 => (kc_gf q1).trans (kc_gf q2), by rw [List.length_append]; rfl, by rw [List.length_append]; exact hl, _, rfl, ho_ap1 h3 b⟩
set_option maxRecDepth 100000 in
set_option maxHeartbeats 2000000 in
theorem y_Md_begin (d : Nat) {μ : kc_M} {s : Nat → Int32} {L : List Int32} (h0 : μ.1 136 = some (ce_Md s)) (h : oL μ s L) (hl : L.length + 2 ≤ 480) {t : Int32} : kc_Y kt kC (d + 2) j_Md_begin [.ref 136, .int t] μ (fun v μ' => v = some (.int (nI (L.length + 2))) ∧ ∃ s', oC μ μ' s s' (L ++ [t, nI 0])) := by
  refine ⟨Nat.le_of_ble_eq_true rfl, ?_⟩
  have cc := oC.re h0 h
  refine x_al c_Md_begin_0 rfl ?_
  refine x_il c_Md_begin_1 rfl ?_
  refine x_cv1z _ c_Md_begin_2 (by first | rfl | exact cc.1) (Nat.le_of_ble_eq_true rfl) (y_Md_say d cc.1 cc.2.2.2 (by omega)) ?_
  rintro _ μ1 ⟨rfl, s1, c1⟩
  have cc := cc.to c1
  show kc_X _ _ _ _ _ [] _ _
  refine x_al c_Md_begin_5 rfl ?_
  refine x_ci c_Md_begin_6 ?_
  refine x_cv1z _ c_Md_begin_7 (by first | rfl | exact cc.1) (Nat.le_of_ble_eq_true rfl) (y_Md_say d cc.1 cc.2.2.2 (by simp only [List.length_append, List.length_cons, List.length_nil]; omega)) ?_
  rintro _ μ2 ⟨rfl, s2, c2⟩
  have cc := cc.to c2
  rw [List.append_assoc] at cc
  show kc_X _ _ _ _ _ [] _ _
  refine x_al c_Md_begin_10 rfl ?_
  refine x_getE c_Md_begin_11 (by first | rfl | exact cc.1) rfl (by first | exact cc.2.2.2.1 | rfl) ?_
  refine x_ri c_Md_begin_14 ?_
  exact ⟨by rw [List.length_append]; rfl, _, cc⟩
set_option maxRecDepth 100000 in
set_option maxHeartbeats 2000000 in
theorem y_Md_close (d : Nat) {μ : kc_M} {s : Nat → Int32} {L X M : List Int32} {t z : Int32} (h0 : μ.1 136 = some (ce_Md s)) (hM : M = L ++ t :: z :: X) (h : oL μ s M) : kc_Y kt kC (d + 1) j_Md_close [.ref 136, .int (nI (L.length + 2))] μ (fun v μ' => v = none ∧ ∃ s', oC μ μ' s s' (L ++ eb t X)) := by
  refine ⟨Nat.le_of_ble_eq_true rfl, ?_⟩
  subst hM
  obtain ⟨h1, h4, w, h2, h3⟩ := h
  have hn : (L ++ t :: z :: X).length = L.length + 2 + X.length := by simp only [List.length_append, List.length_cons]; omega
  have h5 := ho_set h3 (L.length + 1) (nI X.length)
  rw [set_ap] at h5
  have hn2 : (L ++ eb t X).length = L.length + 2 + X.length := by unfold eb; simp only [List.length_append, List.length_cons]; omega
  rw [hn] at h1 h4
  refine x_al c_Md_close_0 rfl ?_
  refine x_get c_Md_close_1 (by first | rfl | exact h0 | exact h2) rfl ?_
  refine x_il c_Md_close_4 rfl ?_
  refine x_ci c_Md_close_5 ?_
  first | refine x_isubN c_Md_close_6 (by omega) ?_ | refine x_isub c_Md_close_6 ?_
  refine x_al c_Md_close_7 rfl ?_
  refine x_getE c_Md_close_8 (by first | rfl | exact h0 | exact h2) rfl (by first | exact h1 | rfl) ?_
  refine x_il c_Md_close_11 rfl ?_
  first | refine x_isubN c_Md_close_12 (by omega) ?_ | refine x_isub c_Md_close_12 ?_
  refine x_iastN c_Md_close_13 (by first | rfl | exact h0 | exact h2) (by omega) (by omega) ?_
  refine x_ret c_Md_close_14 ?_
  exact ⟨rfl, s, (kc_gf (by decide)).trans h0, fun _ _ => rfl, fun q q1 q2 => kc_gf q2, by rw [hn2]; exact h1, by rw [hn2]; exact h4, _, kc_gs, by rw [show L.length + 2 - 1 = L.length + 1 by omega, show L.length + 2 + X.length - (L.length + 2) = X.length by omega]; exact h5⟩
set_option maxRecDepth 100000 in
set_option maxHeartbeats 2000000 in
theorem y_Md_sayId (d : Nat) {μ : kc_M} {s : Nat → Int32} {L : List Int32} (h0 : μ.1 136 = some (ce_Md s)) (h : oL μ s L) (hl : L.length + 4 ≤ 480) {k : Nat} (hk : k < 2 ^ 31) (h16 : s 16 = nI k) : kc_Y kt kC (d + 3) j_Md_sayId [.ref 136] μ (fun v μ' => v = none ∧ ∃ s', oC μ μ' s s' (L ++ eb (nI 2) (idB k))) := by
  refine ⟨Nat.le_of_ble_eq_true rfl, ?_⟩
  have cc := oC.re h0 h
  refine x_al c_Md_sayId_0 rfl ?_
  refine x_ci c_Md_sayId_1 ?_
  refine x_cv1z _ c_Md_sayId_2 (by first | rfl | exact cc.1) (Nat.le_of_ble_eq_true rfl) (y_Md_begin d cc.1 cc.2.2.2 (by omega)) ?_
  rintro _ μ1 ⟨rfl, s1, c1⟩
  have cc := cc.to c1
  show kc_X _ _ _ _ _ [.int (nI (L.length + 2))] _ _
  refine x_is [_, _] c_Md_sayId_5 rfl ?_
  refine x_al c_Md_sayId_6 rfl ?_
  refine x_getE c_Md_sayId_7 (by first | rfl | exact cc.1) rfl (by first | exact (cc.2.1 16 (by decide)).trans h16 | rfl) ?_
  refine x_ci c_Md_sayId_10 ?_
  refine x_cmN_le c_Md_sayId_12 (by omega) (by omega) (fun h12 => ?_) (fun h12 => ?_)
  · refine x_al c_Md_sayId_27 rfl ?_
    refine x_al c_Md_sayId_28 rfl ?_
    refine x_getE c_Md_sayId_29 (by first | rfl | exact cc.1) rfl (by first | exact (cc.2.1 16 (by decide)).trans h16 | rfl) ?_
    refine x_ci c_Md_sayId_32 ?_
    refine x_irem c_Md_sayId_35 (by decide) ?_
    show kc_X _ _ _ _ _ [.int (nI k - nI k / nI 256 * nI 256), .ref 136] _ _
    rw [nI_mod256 hk]
    refine x_cv1z _ c_Md_sayId_36 (by first | rfl | exact cc.1) (Nat.le_of_ble_eq_true rfl) (y_Md_say (d + 1) cc.1 cc.2.2.2 (by simp only [List.length_append, List.length_cons, List.length_nil]; omega)) ?_
    rintro _ μ3 ⟨rfl, s3, c3⟩
    have cc := cc.to c3
    show kc_X _ _ _ _ _ [] _ _
    refine x_al c_Md_sayId_39 rfl ?_
    refine x_il c_Md_sayId_40 rfl ?_
    refine x_cv1z _ c_Md_sayId_41 (by first | rfl | exact cc.1) (Nat.le_of_ble_eq_true rfl) (y_Md_close (d + 1) (L := L) (X := idB k) (t := nI 2) (z := nI 0) cc.1 (by unfold idB; first | (rw [if_pos (by omega)]; simp only [List.append_assoc, List.cons_append, List.nil_append]) | (rw [if_neg (by omega)]; simp only [List.append_assoc, List.cons_append, List.nil_append])) cc.2.2.2) ?_
    rintro _ μ9 ⟨rfl, s9, c9⟩
    have cc := cc.to c9
    show kc_X _ _ _ _ _ [] _ _
    refine x_ret c_Md_sayId_44 ?_
    exact ⟨rfl, _, cc⟩
  · refine x_al c_Md_sayId_15 rfl ?_
    refine x_al c_Md_sayId_16 rfl ?_
    refine x_getE c_Md_sayId_17 (by first | rfl | exact cc.1) rfl (by first | exact (cc.2.1 16 (by decide)).trans h16 | rfl) ?_
    refine x_ci c_Md_sayId_20 ?_
    refine x_idiv c_Md_sayId_23 (by decide) ?_
    show kc_X _ _ _ _ _ [.int (nI k / nI 256), .ref 136] _ _
    rw [nI_div256 hk]
    refine x_cv1z _ c_Md_sayId_24 (by first | rfl | exact cc.1) (Nat.le_of_ble_eq_true rfl) (y_Md_say (d + 1) cc.1 cc.2.2.2 (by simp only [List.length_append, List.length_cons, List.length_nil]; omega)) ?_
    rintro _ μ2 ⟨rfl, s2, c2⟩
    have cc := cc.to c2
    show kc_X _ _ _ _ _ [] _ _
    refine x_al c_Md_sayId_27 rfl ?_
    refine x_al c_Md_sayId_28 rfl ?_
    refine x_getE c_Md_sayId_29 (by first | rfl | exact cc.1) rfl (by first | exact (cc.2.1 16 (by decide)).trans h16 | rfl) ?_
    refine x_ci c_Md_sayId_32 ?_
    refine x_irem c_Md_sayId_35 (by decide) ?_
    show kc_X _ _ _ _ _ [.int (nI k - nI k / nI 256 * nI 256), .ref 136] _ _
    rw [nI_mod256 hk]
    refine x_cv1z _ c_Md_sayId_36 (by first | rfl | exact cc.1) (Nat.le_of_ble_eq_true rfl) (y_Md_say (d + 1) cc.1 cc.2.2.2 (by simp only [List.length_append, List.length_cons, List.length_nil]; omega)) ?_
    rintro _ μ3 ⟨rfl, s3, c3⟩
    have cc := cc.to c3
    show kc_X _ _ _ _ _ [] _ _
    refine x_al c_Md_sayId_39 rfl ?_
    refine x_il c_Md_sayId_40 rfl ?_
    refine x_cv1z _ c_Md_sayId_41 (by first | rfl | exact cc.1) (Nat.le_of_ble_eq_true rfl) (y_Md_close (d + 1) (L := L) (X := idB k) (t := nI 2) (z := nI 0) cc.1 (by unfold idB; first | (rw [if_pos (by omega)]; simp only [List.append_assoc, List.cons_append, List.nil_append]) | (rw [if_neg (by omega)]; simp only [List.append_assoc, List.cons_append, List.nil_append])) cc.2.2.2) ?_
    rintro _ μ9 ⟨rfl, s9, c9⟩
    have cc := cc.to c9
    show kc_X _ _ _ _ _ [] _ _
    refine x_ret c_Md_sayId_44 ?_
    exact ⟨rfl, _, cc⟩
set_option maxRecDepth 100000 in
set_option maxHeartbeats 2000000 in
theorem y_Md_sayValue (d : Nat) {μ : kc_M} {s : Nat → Int32} {L : List Int32} (h0 : μ.1 136 = some (ce_Md s)) (h : oL μ s L) (hl : L.length + 8 ≤ 480) {x : Int64} : kc_Y kt kC (d + 2) j_Md_sayValue [.ref 136, .long x] μ (fun v μ' => v = none ∧ ∃ s', oC μ μ' s s' (L ++ vB x 8)) := by
  refine ⟨Nat.le_of_ble_eq_true rfl, ?_⟩
  have loop : ∀ m, m ≤ 8 → ∀ (M : List Int32) (μ1 : kc_M) (s1 : Nat → Int32) (jk : Option Value), oC μ μ1 s s1 M → M ++ vB x m = L ++ vB x 8 → M.length + m ≤ 480 → kc_X (kC j_Md_sayValue) (kc_Y kt kC (d + 1)) (fun v μ' => v = none ∧ ∃ s', oC μ μ' s s' (L ++ vB x 8)) 3 [some (.ref 136), some (.long x), none, some (.int (sI m)), jk] [] μ1 (0, 0) := by
    intro m
    induction m with
    | zero =>
      intro _ M μ1 s1 jk cc hR hl
      rw [show M ++ vB x 0 = M from List.append_nil M] at hR
      refine x_il c_Md_sayValue_3 rfl ?_
      refine x_if_lt c_Md_sayValue_4 (fun _ => ?_) (fun h => absurd (by decide) h)
      refine x_ret c_Md_sayValue_34 ?_
      exact ⟨rfl, _, hR ▸ cc⟩
    | succ m ih =>
      intro hm M μ1 s1 jk cc hR hl
      have hb := b8_lt x m
      rw [vB_s] at hR
      have hs := sI_s m (by omega)
      show kc_X (kC j_Md_sayValue) (kc_Y kt kC (d + 1)) (fun v μ' => v = none ∧ ∃ s', oC μ μ' s s' (L ++ vB x 8)) 3 [some (.ref 136), some (.long x), none, some (.int (nI (8 * m))), jk] [] μ1 (0, 0)
      refine x_il c_Md_sayValue_3 rfl ?_
      refine x_ifN_lt c_Md_sayValue_4 (by omega) (fun h => (by exfalso; omega)) (fun _ => ?_)
      refine x_ll c_Md_sayValue_7 rfl ?_
      refine x_il c_Md_sayValue_8 rfl ?_
      refine x_lshr c_Md_sayValue_9 ?_
      refine x_cl c_Md_sayValue_10 ?_
      refine x_land c_Md_sayValue_13 ?_
      refine x_l2i c_Md_sayValue_14 ?_
      show kc_X _ _ _ _ _ [.int ((x >>> ((nI (8 * m)).toInt64 &&& 63)) &&& 255).toInt32] _ _
      rw [and_l2i]
      show kc_X _ _ _ _ _ [.int (nI (b8 x m))] _ _
      refine x_is [_, _, _, _, _] c_Md_sayValue_15 rfl ?_
      refine x_il c_Md_sayValue_17 rfl ?_
      refine x_ifN_le c_Md_sayValue_19 (by omega) (fun h19 => ?_) (fun h19 => ?_)
      · refine x_inc [_, _, _, _, _] c_Md_sayValue_28 rfl rfl ?_
        refine x_goto c_Md_sayValue_31 ?_
        show kc_X (kC j_Md_sayValue) (kc_Y kt kC (d + 1)) (fun v μ' => v = none ∧ ∃ s', oC μ μ' s s' (L ++ vB x 8)) 3 [some (.ref 136), some (.long x), none, some (.int (nI (8 * m) + (-8))), some (.int (nI (b8 x m)))] [] _ (0, 0)
        rw [hs]
        first | exact ih (by omega) _ _ _ _ cc (by rw [if_pos (by omega)] at hR; exact hR) (by omega) | exact ih (by omega) _ _ _ _ cc (by rw [if_neg (by omega)] at hR; rw [List.append_assoc]; exact hR) (by rw [List.length_append]; show M.length + 1 + m ≤ 480; omega)
      · refine x_al c_Md_sayValue_22 rfl ?_
        refine x_il c_Md_sayValue_23 rfl ?_
        refine x_cv1z _ c_Md_sayValue_25 (by first | rfl | exact cc.1) (Nat.le_of_ble_eq_true rfl) (y_Md_say d cc.1 cc.2.2.2 (by omega)) ?_
        rintro _ μ2 ⟨rfl, s2, c2⟩
        have cc := cc.to c2
        show kc_X _ _ _ _ _ [] _ _
        refine x_inc [_, _, _, _, _] c_Md_sayValue_28 rfl rfl ?_
        refine x_goto c_Md_sayValue_31 ?_
        show kc_X (kC j_Md_sayValue) (kc_Y kt kC (d + 1)) (fun v μ' => v = none ∧ ∃ s', oC μ μ' s s' (L ++ vB x 8)) 3 [some (.ref 136), some (.long x), none, some (.int (nI (8 * m) + (-8))), some (.int (nI (b8 x m)))] [] _ (0, 0)
        rw [hs]
        first | exact ih (by omega) _ _ _ _ cc (by rw [if_pos (by omega)] at hR; exact hR) (by omega) | exact ih (by omega) _ _ _ _ cc (by rw [if_neg (by omega)] at hR; rw [List.append_assoc]; exact hR) (by rw [List.length_append]; show M.length + 1 + m ≤ 480; omega)
  refine x_ci c_Md_sayValue_0 ?_
  refine x_is [_, _, _, _, _] c_Md_sayValue_2 rfl ?_
  exact loop 8 (by omega) L μ s _ (oC.re h0 h) rfl hl
set_option maxRecDepth 100000 in
set_option maxHeartbeats 2000000 in
theorem y_Md_sayPart (d : Nat) {μ : kc_M} {s : Nat → Int32} {L : List Int32} (h0 : μ.1 136 = some (ce_Md s)) (h : oL μ s L) (hl : L.length + 10 ≤ 480) {t : Int32} {x : Int64} : kc_Y kt kC (d + 3) j_Md_sayPart [.ref 136, .int t, .long x] μ (fun v μ' => v = none ∧ ∃ s', oC μ μ' s s' (L ++ pB (t, x))) := by
  refine ⟨Nat.le_of_ble_eq_true rfl, ?_⟩
  have cc := oC.re h0 h
  refine x_al c_Md_sayPart_0 rfl ?_
  refine x_il c_Md_sayPart_1 rfl ?_
  refine x_cv1z _ c_Md_sayPart_2 (by first | rfl | exact cc.1) (Nat.le_of_ble_eq_true rfl) (y_Md_say (d + 1) cc.1 cc.2.2.2 (by omega)) ?_
  rintro _ μ1 ⟨rfl, s1, c1⟩
  have cc := cc.to c1
  show kc_X _ _ _ _ _ [] _ _
  refine x_al c_Md_sayPart_5 rfl ?_
  refine x_ci c_Md_sayPart_6 ?_
  refine x_cv1z _ c_Md_sayPart_8 (by first | rfl | exact cc.1) (Nat.le_of_ble_eq_true rfl) (y_Md_say (d + 1) cc.1 cc.2.2.2 (by simp only [List.length_append, List.length_cons, List.length_nil]; omega)) ?_
  rintro _ μ2 ⟨rfl, s2, c2⟩
  have cc := cc.to c2
  show kc_X _ _ _ _ _ [] _ _
  refine x_al c_Md_sayPart_11 rfl ?_
  refine x_ll c_Md_sayPart_12 rfl ?_
  refine x_cv1z _ c_Md_sayPart_13 (by first | rfl | exact cc.1) (Nat.le_of_ble_eq_true rfl) (y_Md_sayValue d cc.1 cc.2.2.2 (by simp only [List.length_append, List.length_cons, List.length_nil]; omega)) ?_
  rintro _ μ3 ⟨rfl, s3, c3⟩
  have cc := cc.to c3
  show kc_X _ _ _ _ _ [] _ _
  refine x_ret c_Md_sayPart_16 ?_
  refine ⟨rfl, s3, ?_⟩
  have he : L ++ pB (t, x) = L ++ [t] ++ [nI 61] ++ vB x 8 := by unfold pB; simp only [List.append_assoc, List.cons_append, List.nil_append]
  rw [he]; exact cc
