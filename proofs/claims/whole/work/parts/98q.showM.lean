/-! the reference searches -/
theorem hsT_c (t : Int32) : ∀ P : List tv, hsT t P = decide (0 < cTy t P)
  | [] => rfl
  | q :: P => by
    show (decide (q.1 = t) || hsT t P) = _
    rw [cTy_c, hsT_c t P]
    by_cases h : q.1 = t
    · rw [decide_eq_true h, if_pos h, decide_eq_true (show 0 < 1 + cTy t P by omega)]; rfl
    · rw [decide_eq_false h, if_neg h, Nat.zero_add]; rfl
theorem cTy_d {t : Int32} {P : List tv} {k : Nat} {q : tv} (h : P[k]? = some q) : cTy t (P.drop k) = (if q.1 = t then 1 else 0) + cTy t (P.drop (k + 1)) := by
  obtain ⟨h1, h2⟩ := List.getElem?_eq_some_iff.mp h
  rw [List.drop_eq_getElem_cons h1, h2, cTy_c]
theorem cTy_le (t : Int32) (P : List tv) : cTy t P ≤ P.length := List.length_filter_le _ _
theorem oL_cut {μ : kc_M} {s : Nat → Int32} {L X : List Int32} (h : oL μ s (L ++ X)) : oL (kc_u μ 136 (ce_Md (upd s 5 (nI L.length)))) (upd s 5 (nI L.length)) L := by
  obtain ⟨h1, h2, ou, h3, h4⟩ := h
  rw [List.length_append] at h2 h4
  exact ⟨rfl, by omega, ou, (kc_gf (by decide)).trans h3, fun k hk => by rw [← h4 k (by omega), List.getElem?_append_left hk]⟩
set_option maxRecDepth 100000 in
set_option maxHeartbeats 4000000 in
theorem y_Md_sayAttribute (d : Nat) {μ : kc_M} {s : Nat → Int32} (h0 : μ.1 136 = some (ce_Md s)) {tb : Nat → Nat} {ou : Nat → Int32} {n : Nat} {nm pr : Nat → List tv} (hE : mE μ tb ou n nm pr) {e : Nat} (he : e < n) {L : List Int32} (h : oL μ s L) {ta : Bool} (h30 : s 30 = bI ta) {t : Nat} (ht : t < 256) (hl : L.length + 7 + 10 * cTy (nI t) (pr e) ≤ 480) : kc_Y kt kC (d + 4) j_Md_sayAttribute [.ref 136, .int (nI e), .int (nI t)] μ (fun w μ' => w = none ∧ ∃ s', oC μ μ' s s' (L ++ (if hsT (nI t) (pr e) = true then atB ta (nI t) (pr e) else []))) := by
  refine ⟨Nat.le_of_ble_eq_true rfl, ?_⟩
  obtain ⟨pa, pt, pv, pn, qt, qv, ⟨r1, r2, r3, r4, r5, r6, r7, r8⟩, m2, hn16, hw⟩ := id hE
  have hme := m2 e he
  have hwe := hw e he
  have cc := oC.re h0 h
  have hct := cTy_take (nI t) (pr e)
  have hcl := cTy_le (nI t) (pr e)
  have fin : ∀ (NN : Nat) (μ1 : kc_M) (s1 : Nat → Int32) (k : Nat) (j : Option Value), hsT (nI t) (pr e) = true → oC μ μ1 s s1 (((L ++ [nI 48, nI 0]) ++ eb (nI 4) [nI t]) ++ nI 49 :: nI 0 :: (if ta = true then [] else vsB (nI t) (pr e))) → kc_X (kC j_Md_sayAttribute) (kc_Y kt kC (d + 3)) (fun w μ' => w = none ∧ ∃ s', oC μ μ' s s' (L ++ (if hsT (nI t) (pr e) = true then atB ta (nI t) (pr e) else []))) 158 [some (.ref 136), some (.int (nI e)), some (.int (nI t)), some (.int (nI NN)), some (.int (nI (L.length + 2))), some (.int (nI ((L ++ [nI 48, nI 0]).length + 2))), some (.int (nI (((L ++ [nI 48, nI 0]) ++ eb (nI 4) [nI t]).length + 2))), some (.int (nI (6 * e + k))), j] [] μ1 (0, 0) := by
    intro NN μ1 s1 k j hh cc
    rw [if_pos hh]
    refine x_al c_Md_sayAttribute_158 rfl ?_
    refine x_il c_Md_sayAttribute_159 rfl ?_
    refine x_cv1z _ c_Md_sayAttribute_161 (by first | rfl | exact cc.1) (Nat.le_of_ble_eq_true rfl) (y_Md_close (d + 2) (L := ((L ++ [nI 48, nI 0]) ++ eb (nI 4) [nI t])) (X := (if ta = true then [] else vsB (nI t) (pr e))) (t := nI 49) (z := nI 0) cc.1 rfl cc.2.2.2) ?_
    rintro _ μ11 ⟨rfl, s11, c11⟩
    have cc := cc.to c11
    show kc_X _ _ _ _ _ [] _ _
    refine x_al c_Md_sayAttribute_164 rfl ?_
    refine x_il c_Md_sayAttribute_165 rfl ?_
    refine x_cv1z _ c_Md_sayAttribute_167 (by first | rfl | exact cc.1) (Nat.le_of_ble_eq_true rfl) (y_Md_close (d + 2) (L := L) (X := eb (nI 4) [nI t] ++ eb (nI 49) (if ta = true then [] else vsB (nI t) (pr e))) (t := nI 48) (z := nI 0) cc.1 (by simp only [eb, List.append_assoc, List.cons_append, List.nil_append]) cc.2.2.2) ?_
    rintro _ μ12 ⟨rfl, s12, c12⟩
    have cc := cc.to c12
    show kc_X _ _ _ _ _ [] _ _
    refine x_ret c_Md_sayAttribute_170 ?_
    exact ⟨rfl, _, cc⟩
  have loop : ∀ (NN : Nat), hsT (nI t) (pr e) = true → ∀ m k (μ1 : kc_M) (s1 : Nat → Int32) (j : Option Value), (pr e).length - k = m → k ≤ (pr e).length → oC μ μ1 s s1 (((L ++ [nI 48, nI 0]) ++ eb (nI 4) [nI t]) ++ nI 49 :: nI 0 :: (if ta = true then [] else vsB (nI t) ((pr e).take k))) → kc_X (kC j_Md_sayAttribute) (kc_Y kt kC (d + 3)) (fun w μ' => w = none ∧ ∃ s', oC μ μ' s s' (L ++ (if hsT (nI t) (pr e) = true then atB ta (nI t) (pr e) else []))) 94 [some (.ref 136), some (.int (nI e)), some (.int (nI t)), some (.int (nI NN)), some (.int (nI (L.length + 2))), some (.int (nI ((L ++ [nI 48, nI 0]).length + 2))), some (.int (nI (((L ++ [nI 48, nI 0]) ++ eb (nI 4) [nI t]).length + 2))), some (.int (nI (6 * e + k))), j] [] μ1 (0, 0) := by
    intro NN hh m
    induction m with
    | zero =>
      intro k μ1 s1 j hm hk cc
      have r6' := (cc.2.2.1 142 (by decide) (by decide)).trans r6
      have r7' := (cc.2.2.1 143 (by decide) (by decide)).trans r7
      have r8' := (cc.2.2.1 144 (by decide) (by decide)).trans r8
      have e30 := (cc.2.1 30 (by decide)).trans h30
      rw [List.take_of_length_le (by omega)] at cc
      refine x_il c_Md_sayAttribute_94 rfl ?_
      refine x_ci c_Md_sayAttribute_96 ?_
      refine x_il c_Md_sayAttribute_98 rfl ?_
      first | refine x_imulN c_Md_sayAttribute_99 ?_ | refine x_imul c_Md_sayAttribute_99 ?_
      refine x_al c_Md_sayAttribute_100 rfl ?_
      refine x_get c_Md_sayAttribute_101 (by first | rfl | exact cc.1 | exact r6' | exact r7' | exact r8') rfl ?_
      refine x_il c_Md_sayAttribute_104 rfl ?_
      refine x_ialdE c_Md_sayAttribute_105 (by first | rfl | exact cc.1 | exact r6' | exact r7' | exact r8') (by omega) (by omega) (hme.2.2.1) ?_
      first | refine x_iaddN c_Md_sayAttribute_106 ?_ | refine x_iadd c_Md_sayAttribute_106 ?_
      refine x_cmN_ge c_Md_sayAttribute_107 (by omega) (by omega) (fun _ => ?_) (fun h => (by exfalso; omega))
      exact fin NN μ1 s1 _ _ hh cc
    | succ m ih =>
      intro k μ1 s1 j hm hk cc
      have r6' := (cc.2.2.1 142 (by decide) (by decide)).trans r6
      have r7' := (cc.2.2.1 143 (by decide) (by decide)).trans r7
      have r8' := (cc.2.2.1 144 (by decide) (by decide)).trans r8
      have e30 := (cc.2.1 30 (by decide)).trans h30
      have hq2 := hme.2.2.2 k (by omega)
      have hnt := vsB_take (t := nI t) hq2
      have hl1 := vsB_len (nI t) ((pr e).take k)
      have hl2 := hct k
      by_cases hty : qt (6 * e + k) = nI t
      · cases hta : ta with
        | true =>
          rw [if_pos hta] at cc
          rw [hta] at e30
          refine x_il c_Md_sayAttribute_94 rfl ?_
          refine x_ci c_Md_sayAttribute_96 ?_
          refine x_il c_Md_sayAttribute_98 rfl ?_
          first | refine x_imulN c_Md_sayAttribute_99 ?_ | refine x_imul c_Md_sayAttribute_99 ?_
          refine x_al c_Md_sayAttribute_100 rfl ?_
          refine x_get c_Md_sayAttribute_101 (by first | rfl | exact cc.1 | exact r6' | exact r7' | exact r8') rfl ?_
          refine x_il c_Md_sayAttribute_104 rfl ?_
          refine x_ialdE c_Md_sayAttribute_105 (by first | rfl | exact cc.1 | exact r6' | exact r7' | exact r8') (by omega) (by omega) (hme.2.2.1) ?_
          first | refine x_iaddN c_Md_sayAttribute_106 ?_ | refine x_iadd c_Md_sayAttribute_106 ?_
          refine x_cmN_ge c_Md_sayAttribute_107 (by omega) (by omega) (fun h => (by exfalso; omega)) (fun _ => ?_)
          refine x_al c_Md_sayAttribute_110 rfl ?_
          refine x_get c_Md_sayAttribute_111 (by first | rfl | exact cc.1 | exact r6' | exact r7' | exact r8') rfl ?_
          refine x_il c_Md_sayAttribute_114 rfl ?_
          refine x_ialdN c_Md_sayAttribute_116 (by first | rfl | exact cc.1 | exact r6' | exact r7' | exact r8') (by omega) (by omega) ?_
          refine x_il c_Md_sayAttribute_117 rfl ?_
          refine x_cm_ne c_Md_sayAttribute_118 (fun h => absurd (hty) h) (fun _ => ?_)
          refine x_al c_Md_sayAttribute_121 rfl ?_
          refine x_getE c_Md_sayAttribute_122 (by first | rfl | exact cc.1 | exact r6' | exact r7' | exact r8') rfl (by first | exact e30 | rfl) ?_
          refine x_if_ne c_Md_sayAttribute_125 (fun _ => ?_) (fun h => absurd h (by decide))
          first | refine x_incN [_, _, _, _, _, _, _, _, _] c_Md_sayAttribute_152 rfl rfl ?_ | refine x_inc [_, _, _, _, _, _, _, _, _] c_Md_sayAttribute_152 rfl rfl ?_
          refine x_goto c_Md_sayAttribute_155 ?_
          exact hta ▸ ih (k + 1) μ1 s1 _ (by omega) (by omega) (by rw [if_pos hta]; exact cc)
        | false =>
          have hl3 := cTy_take1 (t := nI t) hq2 hty
          rw [if_pos hty] at hnt
          rw [if_neg (by rw [hta]; decide)] at cc
          rw [hta] at e30
          refine x_il c_Md_sayAttribute_94 rfl ?_
          refine x_ci c_Md_sayAttribute_96 ?_
          refine x_il c_Md_sayAttribute_98 rfl ?_
          first | refine x_imulN c_Md_sayAttribute_99 ?_ | refine x_imul c_Md_sayAttribute_99 ?_
          refine x_al c_Md_sayAttribute_100 rfl ?_
          refine x_get c_Md_sayAttribute_101 (by first | rfl | exact cc.1 | exact r6' | exact r7' | exact r8') rfl ?_
          refine x_il c_Md_sayAttribute_104 rfl ?_
          refine x_ialdE c_Md_sayAttribute_105 (by first | rfl | exact cc.1 | exact r6' | exact r7' | exact r8') (by omega) (by omega) (hme.2.2.1) ?_
          first | refine x_iaddN c_Md_sayAttribute_106 ?_ | refine x_iadd c_Md_sayAttribute_106 ?_
          refine x_cmN_ge c_Md_sayAttribute_107 (by omega) (by omega) (fun h => (by exfalso; omega)) (fun _ => ?_)
          refine x_al c_Md_sayAttribute_110 rfl ?_
          refine x_get c_Md_sayAttribute_111 (by first | rfl | exact cc.1 | exact r6' | exact r7' | exact r8') rfl ?_
          refine x_il c_Md_sayAttribute_114 rfl ?_
          refine x_ialdN c_Md_sayAttribute_116 (by first | rfl | exact cc.1 | exact r6' | exact r7' | exact r8') (by omega) (by omega) ?_
          refine x_il c_Md_sayAttribute_117 rfl ?_
          refine x_cm_ne c_Md_sayAttribute_118 (fun h => absurd (hty) h) (fun _ => ?_)
          refine x_al c_Md_sayAttribute_121 rfl ?_
          refine x_getE c_Md_sayAttribute_122 (by first | rfl | exact cc.1 | exact r6' | exact r7' | exact r8') rfl (by first | exact e30 | rfl) ?_
          refine x_if_ne c_Md_sayAttribute_125 (fun h => absurd (by decide) h) (fun _ => ?_)
          refine x_al c_Md_sayAttribute_128 rfl ?_
          refine x_ci c_Md_sayAttribute_129 ?_
          refine x_cv1z _ c_Md_sayAttribute_130 (by first | rfl | exact cc.1 | exact r6' | exact r7' | exact r8') (Nat.le_of_ble_eq_true rfl) (y_Md_begin (d + 1) cc.1 cc.2.2.2 (by first | omega | (simp only [eb, List.length_append, List.length_cons, List.length_nil]; omega))) ?_
          rintro _ μ7 ⟨rfl, s7, c7⟩
          have cc := cc.to c7
          have r8' := (cc.2.2.1 144 (by decide) (by decide)).trans r8
          show kc_X _ _ _ _ _ [.int (nI ((((L ++ [nI 48, nI 0]) ++ eb (nI 4) [nI t]) ++ nI 49 :: nI 0 :: vsB (nI t) ((pr e).take k)).length + 2))] _ _
          refine x_is [_, _, _, _, _, _, _, _, _] c_Md_sayAttribute_133 rfl ?_
          refine x_al c_Md_sayAttribute_135 rfl ?_
          refine x_al c_Md_sayAttribute_136 rfl ?_
          refine x_get c_Md_sayAttribute_137 (by first | rfl | exact cc.1 | exact r6' | exact r7' | exact r8') rfl ?_
          refine x_il c_Md_sayAttribute_140 rfl ?_
          refine x_laldN c_Md_sayAttribute_142 (by first | rfl | exact cc.1 | exact r6' | exact r7' | exact r8') (by omega) (by omega) ?_
          refine x_cv1z _ c_Md_sayAttribute_143 (by first | rfl | exact cc.1 | exact r6' | exact r7' | exact r8') (Nat.le_of_ble_eq_true rfl) (y_Md_sayValue (d + 1) cc.1 cc.2.2.2 (by first | omega | (simp only [eb, List.length_append, List.length_cons, List.length_nil]; omega))) ?_
          rintro _ μ8 ⟨rfl, s8, c8⟩
          have cc := cc.to c8
          show kc_X _ _ _ _ _ [] _ _
          refine x_al c_Md_sayAttribute_146 rfl ?_
          refine x_il c_Md_sayAttribute_147 rfl ?_
          refine x_cv1z _ c_Md_sayAttribute_149 (by first | rfl | exact cc.1 | exact r6' | exact r7' | exact r8') (Nat.le_of_ble_eq_true rfl) (y_Md_close (d + 2) (L := (((L ++ [nI 48, nI 0]) ++ eb (nI 4) [nI t]) ++ nI 49 :: nI 0 :: vsB (nI t) ((pr e).take k))) (X := vB (qv (6 * e + k)) 8) (t := nI 4) (z := nI 0) cc.1 (by simp only [eb, List.append_assoc, List.cons_append, List.nil_append]) cc.2.2.2) ?_
          rintro _ μ9 ⟨rfl, s9, c9⟩
          have cc := cc.to c9
          show kc_X _ _ _ _ _ [] _ _
          first | refine x_incN [_, _, _, _, _, _, _, _, _] c_Md_sayAttribute_152 rfl rfl ?_ | refine x_inc [_, _, _, _, _, _, _, _, _] c_Md_sayAttribute_152 rfl rfl ?_
          refine x_goto c_Md_sayAttribute_155 ?_
          have hst := ih (k + 1) _ _ (some (.int (nI ((((L ++ [nI 48, nI 0]) ++ eb (nI 4) [nI t]) ++ nI 49 :: nI 0 :: vsB (nI t) ((pr e).take k)).length + 2)))) (by omega) (by omega) (by rw [if_neg (by rw [hta]; decide), hnt]; simp only [List.append_assoc, List.cons_append, List.nil_append] at cc ⊢; exact cc)
          exact hta ▸ hst
      · rw [if_neg hty, List.append_nil] at hnt
        refine x_il c_Md_sayAttribute_94 rfl ?_
        refine x_ci c_Md_sayAttribute_96 ?_
        refine x_il c_Md_sayAttribute_98 rfl ?_
        first | refine x_imulN c_Md_sayAttribute_99 ?_ | refine x_imul c_Md_sayAttribute_99 ?_
        refine x_al c_Md_sayAttribute_100 rfl ?_
        refine x_get c_Md_sayAttribute_101 (by first | rfl | exact cc.1 | exact r6' | exact r7' | exact r8') rfl ?_
        refine x_il c_Md_sayAttribute_104 rfl ?_
        refine x_ialdE c_Md_sayAttribute_105 (by first | rfl | exact cc.1 | exact r6' | exact r7' | exact r8') (by omega) (by omega) (hme.2.2.1) ?_
        first | refine x_iaddN c_Md_sayAttribute_106 ?_ | refine x_iadd c_Md_sayAttribute_106 ?_
        refine x_cmN_ge c_Md_sayAttribute_107 (by omega) (by omega) (fun h => (by exfalso; omega)) (fun _ => ?_)
        refine x_al c_Md_sayAttribute_110 rfl ?_
        refine x_get c_Md_sayAttribute_111 (by first | rfl | exact cc.1 | exact r6' | exact r7' | exact r8') rfl ?_
        refine x_il c_Md_sayAttribute_114 rfl ?_
        refine x_ialdN c_Md_sayAttribute_116 (by first | rfl | exact cc.1 | exact r6' | exact r7' | exact r8') (by omega) (by omega) ?_
        refine x_il c_Md_sayAttribute_117 rfl ?_
        refine x_cm_ne c_Md_sayAttribute_118 (fun _ => ?_) (fun h => absurd h (hty))
        first | refine x_incN [_, _, _, _, _, _, _, _, _] c_Md_sayAttribute_152 rfl rfl ?_ | refine x_inc [_, _, _, _, _, _, _, _, _] c_Md_sayAttribute_152 rfl rfl ?_
        refine x_goto c_Md_sayAttribute_155 ?_
        exact ih (k + 1) μ1 s1 _ (by omega) (by omega) (by rw [hnt]; exact cc)
  have go : ∀ (NN : Nat), 0 < NN → NN = cTy (nI t) (pr e) → kc_X (kC j_Md_sayAttribute) (kc_Y kt kC (d + 3)) (fun w μ' => w = none ∧ ∃ s', oC μ μ' s s' (L ++ (if hsT (nI t) (pr e) = true then atB ta (nI t) (pr e) else []))) 54 [some (.ref 136), some (.int (nI e)), some (.int (nI t)), some (.int (nI (NN))), some (.int (nI (6 * e + (pr e).length))), none, none, none, none] [] μ (0, 0) := by
    intro NN hN hNe
    have hh : hsT (nI t) (pr e) = true := by rw [hsT_c, ← hNe, decide_eq_true hN]
    have hst : ∀ (μ1 : kc_M) (s1 : Nat → Int32), oC μ μ1 s s1 (((L ++ [nI 48, nI 0]) ++ eb (nI 4) [nI t]) ++ [nI 49, nI 0]) → kc_X (kC j_Md_sayAttribute) (kc_Y kt kC (d + 3)) (fun w μ' => w = none ∧ ∃ s', oC μ μ' s s' (L ++ (if hsT (nI t) (pr e) = true then atB ta (nI t) (pr e) else []))) 94 [some (.ref 136), some (.int (nI e)), some (.int (nI t)), some (.int (nI NN)), some (.int (nI (L.length + 2))), some (.int (nI ((L ++ [nI 48, nI 0]).length + 2))), some (.int (nI (((L ++ [nI 48, nI 0]) ++ eb (nI 4) [nI t]).length + 2))), some (.int (nI (6 * e + 0))), none] [] μ1 (0, 0) := fun μ1 s1 cc => loop NN hh _ 0 μ1 s1 none rfl (Nat.zero_le _) (by rw [List.take_zero]; cases ta <;> exact cc)
    refine x_al c_Md_sayAttribute_54 rfl ?_
    refine x_ci c_Md_sayAttribute_55 ?_
    refine x_cv1z _ c_Md_sayAttribute_57 (by first | rfl | exact cc.1) (Nat.le_of_ble_eq_true rfl) (y_Md_begin (d + 1) cc.1 cc.2.2.2 (by first | omega | (simp only [eb, List.length_append, List.length_cons, List.length_nil]; omega))) ?_
    rintro _ μ1 ⟨rfl, s1, c1⟩
    have cc := cc.to c1
    show kc_X _ _ _ _ _ [.int (nI (L.length + 2))] _ _
    refine x_is [_, _, _, _, _, _, _, _, _] c_Md_sayAttribute_60 rfl ?_
    refine x_al c_Md_sayAttribute_62 rfl ?_
    refine x_ci c_Md_sayAttribute_63 ?_
    refine x_cv1z _ c_Md_sayAttribute_64 (by first | rfl | exact cc.1) (Nat.le_of_ble_eq_true rfl) (y_Md_begin (d + 1) cc.1 cc.2.2.2 (by first | omega | (simp only [eb, List.length_append, List.length_cons, List.length_nil]; omega))) ?_
    rintro _ μ2 ⟨rfl, s2, c2⟩
    have cc := cc.to c2
    show kc_X _ _ _ _ _ [.int (nI ((L ++ [nI 48, nI 0]).length + 2))] _ _
    refine x_is [_, _, _, _, _, _, _, _, _] c_Md_sayAttribute_67 rfl ?_
    refine x_al c_Md_sayAttribute_69 rfl ?_
    refine x_il c_Md_sayAttribute_70 rfl ?_
    refine x_cv1z _ c_Md_sayAttribute_71 (by first | rfl | exact cc.1) (Nat.le_of_ble_eq_true rfl) (y_Md_say (d + 2) cc.1 cc.2.2.2 (by first | omega | (simp only [eb, List.length_append, List.length_cons, List.length_nil]; omega))) ?_
    rintro _ μ3 ⟨rfl, s3, c3⟩
    have cc := cc.to c3
    show kc_X _ _ _ _ _ [] _ _
    refine x_al c_Md_sayAttribute_74 rfl ?_
    refine x_il c_Md_sayAttribute_75 rfl ?_
    refine x_cv1z _ c_Md_sayAttribute_77 (by first | rfl | exact cc.1) (Nat.le_of_ble_eq_true rfl) (y_Md_close (d + 2) (L := (L ++ [nI 48, nI 0])) (X := [nI t]) (t := nI 4) (z := nI 0) cc.1 (by simp only [eb, List.append_assoc, List.cons_append, List.nil_append]) cc.2.2.2) ?_
    rintro _ μ4 ⟨rfl, s4, c4⟩
    have cc := cc.to c4
    show kc_X _ _ _ _ _ [] _ _
    refine x_al c_Md_sayAttribute_80 rfl ?_
    refine x_ci c_Md_sayAttribute_81 ?_
    refine x_cv1z _ c_Md_sayAttribute_83 (by first | rfl | exact cc.1) (Nat.le_of_ble_eq_true rfl) (y_Md_begin (d + 1) cc.1 cc.2.2.2 (by first | omega | (simp only [eb, List.length_append, List.length_cons, List.length_nil]; omega))) ?_
    rintro _ μ5 ⟨rfl, s5, c5⟩
    have cc := cc.to c5
    show kc_X _ _ _ _ _ [.int (nI (((L ++ [nI 48, nI 0]) ++ eb (nI 4) [nI t]).length + 2))] _ _
    refine x_is [_, _, _, _, _, _, _, _, _] c_Md_sayAttribute_86 rfl ?_
    refine x_ci c_Md_sayAttribute_88 ?_
    refine x_il c_Md_sayAttribute_90 rfl ?_
    first | refine x_imulN c_Md_sayAttribute_91 ?_ | refine x_imul c_Md_sayAttribute_91 ?_
    refine x_is [_, _, _, _, _, _, _, _, _] c_Md_sayAttribute_92 rfl ?_
    exact hst _ _ cc
  have count : ∀ m k c, (pr e).length - k = m → k ≤ (pr e).length → c + cTy (nI t) ((pr e).drop k) = cTy (nI t) (pr e) → kc_X (kC j_Md_sayAttribute) (kc_Y kt kC (d + 3)) (fun w μ' => w = none ∧ ∃ s', oC μ μ' s s' (L ++ (if hsT (nI t) (pr e) = true then atB ta (nI t) (pr e) else []))) 8 [some (.ref 136), some (.int (nI e)), some (.int (nI t)), some (.int (nI (c))), some (.int (nI (6 * e + k))), none, none, none, none] [] μ (0, 0) := by
    intro m
    induction m with
    | zero =>
      intro k c hm hk hR
      have hk : k = (pr e).length := by omega
      subst hk
      rw [List.drop_length, show cTy (nI t) [] = 0 from rfl, Nat.add_zero] at hR
      by_cases hc : c = 0
      · have hh : hsT (nI t) (pr e) = false := by rw [hsT_c, ← hR, hc]; rfl
        refine x_il c_Md_sayAttribute_8 rfl ?_
        refine x_ci c_Md_sayAttribute_10 ?_
        refine x_il c_Md_sayAttribute_12 rfl ?_
        first | refine x_imulN c_Md_sayAttribute_13 ?_ | refine x_imul c_Md_sayAttribute_13 ?_
        refine x_al c_Md_sayAttribute_14 rfl ?_
        refine x_get c_Md_sayAttribute_15 (by first | rfl | exact h0 | exact r6 | exact r7) rfl ?_
        refine x_il c_Md_sayAttribute_18 rfl ?_
        refine x_ialdE c_Md_sayAttribute_19 (by first | rfl | exact h0 | exact r6 | exact r7) (by omega) (by omega) (hme.2.2.1) ?_
        first | refine x_iaddN c_Md_sayAttribute_20 ?_ | refine x_iadd c_Md_sayAttribute_20 ?_
        refine x_cmN_ge c_Md_sayAttribute_21 (by omega) (by omega) (fun _ => ?_) (fun h => (by exfalso; omega))
        refine x_il c_Md_sayAttribute_49 rfl ?_
        refine x_ifN_ne c_Md_sayAttribute_50 (by omega) (fun h => (by exfalso; omega)) (fun _ => ?_)
        refine x_ret c_Md_sayAttribute_53 ?_
        exact ⟨rfl, s, by rw [if_neg (by rw [hh]; decide), List.append_nil]; exact cc⟩
      · skip
        refine x_il c_Md_sayAttribute_8 rfl ?_
        refine x_ci c_Md_sayAttribute_10 ?_
        refine x_il c_Md_sayAttribute_12 rfl ?_
        first | refine x_imulN c_Md_sayAttribute_13 ?_ | refine x_imul c_Md_sayAttribute_13 ?_
        refine x_al c_Md_sayAttribute_14 rfl ?_
        refine x_get c_Md_sayAttribute_15 (by first | rfl | exact h0 | exact r6 | exact r7) rfl ?_
        refine x_il c_Md_sayAttribute_18 rfl ?_
        refine x_ialdE c_Md_sayAttribute_19 (by first | rfl | exact h0 | exact r6 | exact r7) (by omega) (by omega) (hme.2.2.1) ?_
        first | refine x_iaddN c_Md_sayAttribute_20 ?_ | refine x_iadd c_Md_sayAttribute_20 ?_
        refine x_cmN_ge c_Md_sayAttribute_21 (by omega) (by omega) (fun _ => ?_) (fun h => (by exfalso; omega))
        refine x_il c_Md_sayAttribute_49 rfl ?_
        refine x_ifN_ne c_Md_sayAttribute_50 (by omega) (fun _ => ?_) (fun h => (by exfalso; omega))
        exact go c (by omega) hR
    | succ m ih =>
      intro k c hm hk hR
      have hq2 := hme.2.2.2 k (by omega)
      rw [cTy_d hq2] at hR
      refine x_il c_Md_sayAttribute_8 rfl ?_
      refine x_ci c_Md_sayAttribute_10 ?_
      refine x_il c_Md_sayAttribute_12 rfl ?_
      first | refine x_imulN c_Md_sayAttribute_13 ?_ | refine x_imul c_Md_sayAttribute_13 ?_
      refine x_al c_Md_sayAttribute_14 rfl ?_
      refine x_get c_Md_sayAttribute_15 (by first | rfl | exact h0 | exact r6 | exact r7) rfl ?_
      refine x_il c_Md_sayAttribute_18 rfl ?_
      refine x_ialdE c_Md_sayAttribute_19 (by first | rfl | exact h0 | exact r6 | exact r7) (by omega) (by omega) (hme.2.2.1) ?_
      first | refine x_iaddN c_Md_sayAttribute_20 ?_ | refine x_iadd c_Md_sayAttribute_20 ?_
      refine x_cmN_ge c_Md_sayAttribute_21 (by omega) (by omega) (fun h => (by exfalso; omega)) (fun _ => ?_)
      refine x_al c_Md_sayAttribute_24 rfl ?_
      refine x_get c_Md_sayAttribute_25 (by first | rfl | exact h0 | exact r6 | exact r7) rfl ?_
      refine x_il c_Md_sayAttribute_28 rfl ?_
      refine x_ialdN c_Md_sayAttribute_30 (by first | rfl | exact h0 | exact r6 | exact r7) (by omega) (by omega) ?_
      refine x_il c_Md_sayAttribute_31 rfl ?_
      refine x_cm_ne c_Md_sayAttribute_32 (fun h32 => ?_) (fun h32 => ?_)
      · refine x_il c_Md_sayAttribute_41 rfl ?_
        refine x_is [_, _, _, _, _, _, _, _, _] c_Md_sayAttribute_42 rfl ?_
        first | refine x_incN [_, _, _, _, _, _, _, _, _] c_Md_sayAttribute_43 rfl rfl ?_ | refine x_inc [_, _, _, _, _, _, _, _, _] c_Md_sayAttribute_43 rfl rfl ?_
        refine x_goto c_Md_sayAttribute_46 ?_
        first | (refine ih (k + 1) (c + 1) (by omega) (by omega) ?_; rw [if_pos h32] at hR; omega) | (refine ih (k + 1) c (by omega) (by omega) ?_; rw [if_neg h32] at hR; omega)
      · refine x_il c_Md_sayAttribute_35 rfl ?_
        refine x_ci c_Md_sayAttribute_36 ?_
        first | refine x_iaddN c_Md_sayAttribute_37 ?_ | refine x_iadd c_Md_sayAttribute_37 ?_
        refine x_goto c_Md_sayAttribute_38 ?_
        refine x_is [_, _, _, _, _, _, _, _, _] c_Md_sayAttribute_42 rfl ?_
        first | refine x_incN [_, _, _, _, _, _, _, _, _] c_Md_sayAttribute_43 rfl rfl ?_ | refine x_inc [_, _, _, _, _, _, _, _, _] c_Md_sayAttribute_43 rfl rfl ?_
        refine x_goto c_Md_sayAttribute_46 ?_
        first | (refine ih (k + 1) (c + 1) (by omega) (by omega) ?_; rw [if_pos h32] at hR; omega) | (refine ih (k + 1) c (by omega) (by omega) ?_; rw [if_neg h32] at hR; omega)
  refine x_ci c_Md_sayAttribute_0 ?_
  refine x_is [_, _, _, _, _, _, _, _, _] c_Md_sayAttribute_1 rfl ?_
  refine x_ci c_Md_sayAttribute_2 ?_
  refine x_il c_Md_sayAttribute_4 rfl ?_
  first | refine x_imulN c_Md_sayAttribute_5 ?_ | refine x_imul c_Md_sayAttribute_5 ?_
  refine x_is [_, _, _, _, _, _, _, _, _] c_Md_sayAttribute_6 rfl ?_
  exact count _ 0 0 rfl (Nat.zero_le _) (by rw [List.drop_zero]; omega)
set_option maxRecDepth 100000 in
set_option maxHeartbeats 4000000 in
theorem y_Md_show (d : Nat) {μ : kc_M} {s : Nat → Int32} (h0 : μ.1 136 = some (ce_Md s)) {tb : Nat → Nat} {ou : Nat → Int32} {n : Nat} {nm pr : Nat → List tv} (hE : mE μ tb ou n nm pr) {e : Nat} (he : e < n) {L : List Int32} (h : oL μ s L) (hL : L.length ≤ 284) {k : Nat} (hk : k < 2 ^ 31) (h16 : s 16 = nI k) {ta : Bool} (h30 : s 30 = bI ta) {W : List Int32} (h31 : s 31 = mkL 0 W) (h32 : s 32 = nI W.length) (hW12' : W.length ≤ 12) : kc_Y kt kC (d + 5) j_Md_show [.ref 136, .int (nI e)] μ (fun w μ' => w = some (.int (bI (fitB L (enB k ta W (nm e) (pr e))))) ∧ ∃ s', oC μ μ' s s' (if fitB L (enB k ta W (nm e) (pr e)) = true then L ++ (enB k ta W (nm e) (pr e)) else L)) := by
  refine ⟨Nat.le_of_ble_eq_true rfl, ?_⟩
  obtain ⟨pa, pt, pv, pn, qt, qv, ⟨r1, r2, r3, r4, r5, r6, r7, r8⟩, m2, hn16, hw⟩ := id hE
  have hme := m2 e he
  have hwe := hw e he
  have cc := oC.re h0 h
  have hid := idB_len k
  have hnb := nB_len (nm e)
  have he2 := enB_2 k ta W (nm e) (pr e)
  have hep := enB_le k ta W hwe.1 hwe.2
  have fin : ∀ (μ1 : kc_M) (s1 : Nat → Int32) (jk : Option Value), oC μ μ1 s s1 (((((L ++ [nI 48, nI 0]) ++ eb (nI 2) (idB k)) ++ [nI 100, nI 0]) ++ eb (nI 4) (nB (nm e))) ++ nI 48 :: nI 0 :: asB ta W (pr e) 6) → kc_X (kC j_Md_show) (kc_Y kt kC (d + 4)) (fun w μ' => w = some (.int (bI (fitB L (enB k ta W (nm e) (pr e))))) ∧ ∃ s', oC μ μ' s s' (if fitB L (enB k ta W (nm e) (pr e)) = true then L ++ (enB k ta W (nm e) (pr e)) else L)) 149 [some (.ref 136), some (.int (nI e)), some (.int (nI L.length)), some (.int (nI (L.length + 2))), some (.int (nI (((L ++ [nI 48, nI 0]) ++ eb (nI 2) (idB k)).length + 2))), some (.int (nI ((((L ++ [nI 48, nI 0]) ++ eb (nI 2) (idB k)) ++ [nI 100, nI 0]).length + 2))), some (.int (nI (((((L ++ [nI 48, nI 0]) ++ eb (nI 2) (idB k)) ++ [nI 100, nI 0]) ++ eb (nI 4) (nB (nm e))).length + 2))), jk] [] μ1 (0, 0) := by
    intro μ1 s1 jk cc
    by_cases hfit : fitB L (enB k ta W (nm e) (pr e)) = true
    · rw [hfit, if_pos rfl]
      have hf2 := of_decide_eq_true hfit
      refine x_al c_Md_show_149 rfl ?_
      refine x_il c_Md_show_150 rfl ?_
      refine x_cv1z _ c_Md_show_152 (by first | rfl | exact cc.1) (Nat.le_of_ble_eq_true rfl) (y_Md_close (d + 3) (L := ((((L ++ [nI 48, nI 0]) ++ eb (nI 2) (idB k)) ++ [nI 100, nI 0]) ++ eb (nI 4) (nB (nm e)))) (X := asB ta W (pr e) 6) (t := nI 48) (z := nI 0) cc.1 rfl cc.2.2.2) ?_
      rintro _ μ21 ⟨rfl, s21, c21⟩
      have cc := cc.to c21
      show kc_X _ _ _ _ _ [] _ _
      refine x_al c_Md_show_155 rfl ?_
      refine x_il c_Md_show_156 rfl ?_
      refine x_cv1z _ c_Md_show_158 (by first | rfl | exact cc.1) (Nat.le_of_ble_eq_true rfl) (y_Md_close (d + 3) (L := ((L ++ [nI 48, nI 0]) ++ eb (nI 2) (idB k))) (X := eb (nI 4) (nB (nm e)) ++ eb (nI 48) (asB ta W (pr e) 6)) (t := nI 100) (z := nI 0) cc.1 (by simp only [eb, List.append_assoc, List.cons_append, List.nil_append]) cc.2.2.2) ?_
      rintro _ μ22 ⟨rfl, s22, c22⟩
      have cc := cc.to c22
      show kc_X _ _ _ _ _ [] _ _
      refine x_al c_Md_show_161 rfl ?_
      refine x_il c_Md_show_162 rfl ?_
      refine x_cv1z _ c_Md_show_163 (by first | rfl | exact cc.1) (Nat.le_of_ble_eq_true rfl) (y_Md_close (d + 3) (L := L) (X := eb (nI 2) (idB k) ++ eb (nI 100) (eb (nI 4) (nB (nm e)) ++ eb (nI 48) (asB ta W (pr e) 6))) (t := nI 48) (z := nI 0) cc.1 (by simp only [eb, List.append_assoc, List.cons_append, List.nil_append]) cc.2.2.2) ?_
      rintro _ μ23 ⟨rfl, s23, c23⟩
      have cc := cc.to c23
      have cc : oC μ μ23 s s23 (L ++ (enB k ta W (nm e) (pr e))) := cc
      have hlen : (L ++ (enB k ta W (nm e) (pr e))).length = L.length + (enB k ta W (nm e) (pr e)).length := List.length_append
      have kw := cc.2.2.2.1
      rw [hlen] at kw
      show kc_X _ _ _ _ _ [] _ _
      refine x_al c_Md_show_166 rfl ?_
      refine x_getE c_Md_show_167 (by first | rfl | exact cc.1) rfl (by first | exact kw | rfl) ?_
      refine x_il c_Md_show_170 rfl ?_
      first | refine x_isubN c_Md_show_171 (by omega) ?_ | refine x_isub c_Md_show_171 ?_
      refine x_ci c_Md_show_172 ?_
      refine x_cmN_gt c_Md_show_174 (by omega) (by omega) (fun h => (by exfalso; omega)) (fun _ => ?_)
      refine x_al c_Md_show_177 rfl ?_
      refine x_getE c_Md_show_178 (by first | rfl | exact cc.1) rfl (by first | exact kw | rfl) ?_
      refine x_ci c_Md_show_181 ?_
      refine x_cmN_le c_Md_show_184 (by omega) (by omega) (fun _ => ?_) (fun h => (by exfalso; omega))
      refine x_ci c_Md_show_194 ?_
      refine x_rz c_Md_show_195 (by first | decide | exact kz_n _) ?_
      exact ⟨rfl, _, cc⟩
    · rw [if_neg hfit, show fitB L (enB k ta W (nm e) (pr e)) = false by revert hfit; cases fitB L (enB k ta W (nm e) (pr e)) <;> simp]
      have hf2 : ¬ ((enB k ta W (nm e) (pr e)).length ≤ 129 ∧ L.length + (enB k ta W (nm e) (pr e)).length ≤ 284) := fun q => hfit (decide_eq_true q)
      refine x_al c_Md_show_149 rfl ?_
      refine x_il c_Md_show_150 rfl ?_
      refine x_cv1z _ c_Md_show_152 (by first | rfl | exact cc.1) (Nat.le_of_ble_eq_true rfl) (y_Md_close (d + 3) (L := ((((L ++ [nI 48, nI 0]) ++ eb (nI 2) (idB k)) ++ [nI 100, nI 0]) ++ eb (nI 4) (nB (nm e)))) (X := asB ta W (pr e) 6) (t := nI 48) (z := nI 0) cc.1 rfl cc.2.2.2) ?_
      rintro _ μ21 ⟨rfl, s21, c21⟩
      have cc := cc.to c21
      show kc_X _ _ _ _ _ [] _ _
      refine x_al c_Md_show_155 rfl ?_
      refine x_il c_Md_show_156 rfl ?_
      refine x_cv1z _ c_Md_show_158 (by first | rfl | exact cc.1) (Nat.le_of_ble_eq_true rfl) (y_Md_close (d + 3) (L := ((L ++ [nI 48, nI 0]) ++ eb (nI 2) (idB k))) (X := eb (nI 4) (nB (nm e)) ++ eb (nI 48) (asB ta W (pr e) 6)) (t := nI 100) (z := nI 0) cc.1 (by simp only [eb, List.append_assoc, List.cons_append, List.nil_append]) cc.2.2.2) ?_
      rintro _ μ22 ⟨rfl, s22, c22⟩
      have cc := cc.to c22
      show kc_X _ _ _ _ _ [] _ _
      refine x_al c_Md_show_161 rfl ?_
      refine x_il c_Md_show_162 rfl ?_
      refine x_cv1z _ c_Md_show_163 (by first | rfl | exact cc.1) (Nat.le_of_ble_eq_true rfl) (y_Md_close (d + 3) (L := L) (X := eb (nI 2) (idB k) ++ eb (nI 100) (eb (nI 4) (nB (nm e)) ++ eb (nI 48) (asB ta W (pr e) 6))) (t := nI 48) (z := nI 0) cc.1 (by simp only [eb, List.append_assoc, List.cons_append, List.nil_append]) cc.2.2.2) ?_
      rintro _ μ23 ⟨rfl, s23, c23⟩
      have cc := cc.to c23
      have cc : oC μ μ23 s s23 (L ++ (enB k ta W (nm e) (pr e))) := cc
      have hlen : (L ++ (enB k ta W (nm e) (pr e))).length = L.length + (enB k ta W (nm e) (pr e)).length := List.length_append
      have kw := cc.2.2.2.1
      rw [hlen] at kw
      show kc_X _ _ _ _ _ [] _ _
      refine x_al c_Md_show_166 rfl ?_
      refine x_getE c_Md_show_167 (by first | rfl | exact cc.1) rfl (by first | exact kw | rfl) ?_
      refine x_il c_Md_show_170 rfl ?_
      first | refine x_isubN c_Md_show_171 (by omega) ?_ | refine x_isub c_Md_show_171 ?_
      refine x_ci c_Md_show_172 ?_
      refine x_cmN_gt c_Md_show_174 (by omega) (by omega) (fun h174 => ?_) (fun h174 => ?_)
      · refine x_al c_Md_show_187 rfl ?_
        refine x_il c_Md_show_188 rfl ?_
        refine x_putM c_Md_show_189 (by first | rfl | exact cc.1) ⟨by decide, rfl, rfl⟩ rfl ?_
        refine x_ci c_Md_show_192 ?_
        refine x_rz c_Md_show_193 (by first | decide | exact kz_n _) ?_
        exact ⟨rfl, _, kc_gs, fun i hi => (if_neg hi).trans (cc.2.1 i hi), fun q q1 q2 => (kc_gf q1).trans (cc.2.2.1 q q1 q2), oL_cut cc.2.2.2⟩
      · refine x_al c_Md_show_177 rfl ?_
        refine x_getE c_Md_show_178 (by first | rfl | exact cc.1) rfl (by first | exact kw | rfl) ?_
        refine x_ci c_Md_show_181 ?_
        refine x_cmN_le c_Md_show_184 (by omega) (by omega) (fun h184 => ?_) (fun h184 => ?_)
        · exact absurd ⟨by omega, by omega⟩ hf2
        · refine x_al c_Md_show_187 rfl ?_
          refine x_il c_Md_show_188 rfl ?_
          refine x_putM c_Md_show_189 (by first | rfl | exact cc.1) ⟨by decide, rfl, rfl⟩ rfl ?_
          refine x_ci c_Md_show_192 ?_
          refine x_rz c_Md_show_193 (by first | decide | exact kz_n _) ?_
          exact ⟨rfl, _, kc_gs, fun i hi => (if_neg hi).trans (cc.2.1 i hi), fun q q1 q2 => (kc_gf q1).trans (cc.2.2.1 q q1 q2), oL_cut cc.2.2.2⟩
  have loop : ∀ m j (μ1 : kc_M) (s1 : Nat → Int32), 6 - j = m → j ≤ 6 → oC μ μ1 s s1 (((((L ++ [nI 48, nI 0]) ++ eb (nI 2) (idB k)) ++ [nI 100, nI 0]) ++ eb (nI 4) (nB (nm e))) ++ nI 48 :: nI 0 :: asB ta W (pr e) j) → kc_X (kC j_Md_show) (kc_Y kt kC (d + 4)) (fun w μ' => w = some (.int (bI (fitB L (enB k ta W (nm e) (pr e))))) ∧ ∃ s', oC μ μ' s s' (if fitB L (enB k ta W (nm e) (pr e)) = true then L ++ (enB k ta W (nm e) (pr e)) else L)) 106 [some (.ref 136), some (.int (nI e)), some (.int (nI L.length)), some (.int (nI (L.length + 2))), some (.int (nI (((L ++ [nI 48, nI 0]) ++ eb (nI 2) (idB k)).length + 2))), some (.int (nI ((((L ++ [nI 48, nI 0]) ++ eb (nI 2) (idB k)) ++ [nI 100, nI 0]).length + 2))), some (.int (nI (((((L ++ [nI 48, nI 0]) ++ eb (nI 2) (idB k)) ++ [nI 100, nI 0]) ++ eb (nI 4) (nB (nm e))).length + 2))), some (.int (nI (97 + j)))] [] μ1 (0, 0) := by
    intro m
    induction m with
    | zero =>
      intro j μ1 s1 hm hj cc
      have hj : j = 6 := by omega
      subst hj
      refine x_il c_Md_show_106 rfl ?_
      refine x_ci c_Md_show_108 ?_
      refine x_cmN_gt c_Md_show_110 (by omega) (by omega) (fun _ => ?_) (fun h => (by exfalso; omega))
      exact fin μ1 s1 _ cc
    | succ m ih =>
      intro j μ1 s1 hm hj cc
      have e31 := (cc.2.1 31 (by decide)).trans h31
      have e32 := (cc.2.1 32 (by decide)).trans h32
      have hal := asB_len ta W (pr e) j
      have hal2 := cTs_le (pr e) (j + 1) (by omega)
      rw [cTs_s] at hal2
      obtain ⟨ou', hE'⟩ := mE_o hE cc
      have hand := and_1 (mkL 0 W >>> (nI j &&& 31))
      have hwj : wnt W (97 + j) = (W.isEmpty || !decide ((mkL 0 W >>> (nI j &&& 31)) &&& nI 1 = 0)) := by unfold wnt; rw [show 97 + j - 97 = j by omega]
      have say : wnt W (97 + j) = true → kc_X (kC j_Md_show) (kc_Y kt kC (d + 4)) (fun w μ' => w = some (.int (bI (fitB L (enB k ta W (nm e) (pr e))))) ∧ ∃ s', oC μ μ' s s' (if fitB L (enB k ta W (nm e) (pr e)) = true then L ++ (enB k ta W (nm e) (pr e)) else L)) 136 [some (.ref 136), some (.int (nI e)), some (.int (nI L.length)), some (.int (nI (L.length + 2))), some (.int (nI (((L ++ [nI 48, nI 0]) ++ eb (nI 2) (idB k)).length + 2))), some (.int (nI ((((L ++ [nI 48, nI 0]) ++ eb (nI 2) (idB k)) ++ [nI 100, nI 0]).length + 2))), some (.int (nI (((((L ++ [nI 48, nI 0]) ++ eb (nI 2) (idB k)) ++ [nI 100, nI 0]) ++ eb (nI 4) (nB (nm e))).length + 2))), some (.int (nI (97 + j)))] [] μ1 (0, 0) := by
        intro hw'
        refine x_al c_Md_show_136 rfl ?_
        refine x_il c_Md_show_137 rfl ?_
        refine x_il c_Md_show_138 rfl ?_
        refine x_cv2z _ c_Md_show_140 (by first | rfl | exact cc.1) (Nat.le_of_ble_eq_true rfl) (y_Md_sayAttribute d cc.1 hE' he cc.2.2.2 ((cc.2.1 30 (by decide)).trans h30) (t := 97 + j) (by omega) (by first | omega | (simp only [eb, List.length_append, List.length_cons, List.length_nil]; omega))) ?_
        rintro _ μ7 ⟨rfl, s7, c7⟩
        have cc := cc.to c7
        show kc_X _ _ _ _ _ [] _ _
        first | refine x_incN [_, _, _, _, _, _, _, _] c_Md_show_143 rfl rfl ?_ | refine x_inc [_, _, _, _, _, _, _, _] c_Md_show_143 rfl rfl ?_
        refine x_goto c_Md_show_146 ?_
        refine ih (j + 1) μ7 s7 (by omega) (by omega) ?_
        rw [asB_s]
        by_cases hh : hsT (nI (97 + j)) (pr e) = true
        · rw [if_pos hh] at cc
          rw [if_pos ⟨hw', hh⟩]
          simp only [List.append_assoc, List.cons_append, List.nil_append] at cc ⊢
          exact cc
        · rw [if_neg hh, List.append_nil] at cc
          rw [if_neg (fun q => hh q.2), List.append_nil]
          exact cc
      by_cases hW0 : W.length = 0
      · have hwe : W.isEmpty = true := by cases W with | nil => rfl | cons a W => cases hW0
        refine x_il c_Md_show_106 rfl ?_
        refine x_ci c_Md_show_108 ?_
        refine x_cmN_gt c_Md_show_110 (by omega) (by omega) (fun h => (by exfalso; omega)) (fun _ => ?_)
        refine x_al c_Md_show_113 rfl ?_
        refine x_getE c_Md_show_114 (by first | rfl | exact cc.1) rfl (by first | exact e31 | exact e32 | rfl) ?_
        refine x_ifN_eq c_Md_show_117 (by omega) (fun _ => ?_) (fun h => (by exfalso; omega))
        exact say (by rw [hwj, hwe]; rfl)
      · have hwe : W.isEmpty = false := by cases W with | nil => exact absurd rfl hW0 | cons a W => rfl
        have hW12 : W.length < 2 ^ 31 := by omega
        by_cases hb : (mkL 0 W >>> (nI j &&& 31)) &&& nI 1 = 0
        · have hx : ¬ ((mkL 0 W >>> (nI j &&& 31)) &&& nI 1) = nI 1 := by rw [hb]; decide
          have hwf : wnt W (97 + j) = false := by rw [hwj, hwe, decide_eq_true hb]; rfl
          refine x_il c_Md_show_106 rfl ?_
          refine x_ci c_Md_show_108 ?_
          refine x_cmN_gt c_Md_show_110 (by omega) (by omega) (fun h => (by exfalso; omega)) (fun _ => ?_)
          refine x_al c_Md_show_113 rfl ?_
          refine x_getE c_Md_show_114 (by first | rfl | exact cc.1) rfl (by first | exact e31 | exact e32 | rfl) ?_
          refine x_ifN_eq c_Md_show_117 (by omega) (fun h => (by exfalso; omega)) (fun _ => ?_)
          refine x_al c_Md_show_120 rfl ?_
          refine x_getE c_Md_show_121 (by first | rfl | exact cc.1) rfl (by first | exact e31 | exact e32 | rfl) ?_
          refine x_il c_Md_show_124 rfl ?_
          refine x_ci c_Md_show_126 ?_
          first | refine x_isubN c_Md_show_128 (by omega) ?_ | refine x_isub c_Md_show_128 ?_
          rw [show 97 + j - 97 = j by omega]
          refine x_ishr c_Md_show_129 ?_
          refine x_ci c_Md_show_130 ?_
          refine x_iand c_Md_show_131 ?_
          refine x_ci c_Md_show_132 ?_
          refine x_cm_ne c_Md_show_133 (fun _ => ?_) (fun h => absurd h (hx))
          first | refine x_incN [_, _, _, _, _, _, _, _] c_Md_show_143 rfl rfl ?_ | refine x_inc [_, _, _, _, _, _, _, _] c_Md_show_143 rfl rfl ?_
          refine x_goto c_Md_show_146 ?_
          exact ih (j + 1) μ1 s1 (by omega) (by omega) (by rw [asB_s, if_neg (fun q => by rw [hwf] at q; cases q.1), List.append_nil]; exact cc)
        · have hx : ((mkL 0 W >>> (nI j &&& 31)) &&& nI 1) = nI 1 := hand.resolve_left hb
          refine x_il c_Md_show_106 rfl ?_
          refine x_ci c_Md_show_108 ?_
          refine x_cmN_gt c_Md_show_110 (by omega) (by omega) (fun h => (by exfalso; omega)) (fun _ => ?_)
          refine x_al c_Md_show_113 rfl ?_
          refine x_getE c_Md_show_114 (by first | rfl | exact cc.1) rfl (by first | exact e31 | exact e32 | rfl) ?_
          refine x_ifN_eq c_Md_show_117 (by omega) (fun h => (by exfalso; omega)) (fun _ => ?_)
          refine x_al c_Md_show_120 rfl ?_
          refine x_getE c_Md_show_121 (by first | rfl | exact cc.1) rfl (by first | exact e31 | exact e32 | rfl) ?_
          refine x_il c_Md_show_124 rfl ?_
          refine x_ci c_Md_show_126 ?_
          first | refine x_isubN c_Md_show_128 (by omega) ?_ | refine x_isub c_Md_show_128 ?_
          rw [show 97 + j - 97 = j by omega]
          refine x_ishr c_Md_show_129 ?_
          refine x_ci c_Md_show_130 ?_
          refine x_iand c_Md_show_131 ?_
          refine x_ci c_Md_show_132 ?_
          refine x_cm_ne c_Md_show_133 (fun h => absurd (hx) h) (fun _ => ?_)
          exact say (by rw [hwj, hwe, decide_eq_false hb]; rfl)
  have names : ∀ m i (μ1 : kc_M) (s1 : Nat → Int32), (nm e).length - i = m → i ≤ (nm e).length → oC μ μ1 s s1 ((((L ++ [nI 48, nI 0]) ++ eb (nI 2) (idB k)) ++ [nI 100, nI 0]) ++ nI 4 :: nI 0 :: nB ((nm e).take i)) → kc_X (kC j_Md_show) (kc_Y kt kC (d + 4)) (fun w μ' => w = some (.int (bI (fitB L (enB k ta W (nm e) (pr e))))) ∧ ∃ s', oC μ μ' s s' (if fitB L (enB k ta W (nm e) (pr e)) = true then L ++ (enB k ta W (nm e) (pr e)) else L)) 34 [some (.ref 136), some (.int (nI e)), some (.int (nI L.length)), some (.int (nI (L.length + 2))), some (.int (nI (((L ++ [nI 48, nI 0]) ++ eb (nI 2) (idB k)).length + 2))), some (.int (nI ((((L ++ [nI 48, nI 0]) ++ eb (nI 2) (idB k)) ++ [nI 100, nI 0]).length + 2))), some (.int (nI i)), none] [] μ1 (0, 0) := by
    intro m
    induction m with
    | zero =>
      intro i μ1 s1 hm hi cc
      have r3' := (cc.2.2.1 139 (by decide) (by decide)).trans r3
      rw [List.take_of_length_le (by omega)] at cc
      refine x_il c_Md_show_34 rfl ?_
      refine x_al c_Md_show_36 rfl ?_
      refine x_get c_Md_show_37 (by first | rfl | exact cc.1 | exact r3') rfl ?_
      refine x_il c_Md_show_40 rfl ?_
      refine x_ialdE c_Md_show_41 (by first | rfl | exact cc.1 | exact r3') (by omega) (by omega) (hme.1) ?_
      refine x_cmN_ge c_Md_show_42 (by omega) (by omega) (fun _ => ?_) (fun h => (by exfalso; omega))
      refine x_al c_Md_show_88 rfl ?_
      refine x_il c_Md_show_89 rfl ?_
      refine x_cv1z _ c_Md_show_91 (by first | rfl | exact cc.1 | exact r3') (Nat.le_of_ble_eq_true rfl) (y_Md_close (d + 3) (L := (((L ++ [nI 48, nI 0]) ++ eb (nI 2) (idB k)) ++ [nI 100, nI 0])) (X := nB (nm e)) (t := nI 4) (z := nI 0) cc.1 rfl cc.2.2.2) ?_
      rintro _ μ5 ⟨rfl, s5, c5⟩
      have cc := cc.to c5
      show kc_X _ _ _ _ _ [] _ _
      refine x_al c_Md_show_94 rfl ?_
      refine x_ci c_Md_show_95 ?_
      refine x_cv1z _ c_Md_show_97 (by first | rfl | exact cc.1 | exact r3') (Nat.le_of_ble_eq_true rfl) (y_Md_begin (d + 2) cc.1 cc.2.2.2 (by first | omega | (simp only [eb, List.length_append, List.length_cons, List.length_nil]; omega))) ?_
      rintro _ μ6 ⟨rfl, s6, c6⟩
      have cc := cc.to c6
      show kc_X _ _ _ _ _ [.int (nI (((((L ++ [nI 48, nI 0]) ++ eb (nI 2) (idB k)) ++ [nI 100, nI 0]) ++ eb (nI 4) (nB (nm e))).length + 2))] _ _
      refine x_is [_, _, _, _, _, _, _, _] c_Md_show_100 rfl ?_
      refine x_ci c_Md_show_102 ?_
      refine x_is [_, _, _, _, _, _, _, _] c_Md_show_104 rfl ?_
      exact loop 6 0 _ _ rfl (by omega) cc
    | succ m ih =>
      intro i μ1 s1 hm hi cc
      have r3' := (cc.2.2.1 139 (by decide) (by decide)).trans r3
      have hl1 := nB_len ((nm e).take i)
      rw [List.length_take, Nat.min_eq_left hi] at hl1
      have hnt := nB_take (hme.2.1 i (by omega))
      have part : ∀ (μ2 : kc_M) (s2 : Nat → Int32) (Z : List Int32), Z = (if i = 0 then [] else [nI 44]) → oC μ μ2 s s2 ((((L ++ [nI 48, nI 0]) ++ eb (nI 2) (idB k)) ++ [nI 100, nI 0]) ++ nI 4 :: nI 0 :: nB ((nm e).take i) ++ Z) → kc_X (kC j_Md_show) (kc_Y kt kC (d + 4)) (fun w μ' => w = some (.int (bI (fitB L (enB k ta W (nm e) (pr e))))) ∧ ∃ s', oC μ μ' s s' (if fitB L (enB k ta W (nm e) (pr e)) = true then L ++ (enB k ta W (nm e) (pr e)) else L)) 56 [some (.ref 136), some (.int (nI e)), some (.int (nI L.length)), some (.int (nI (L.length + 2))), some (.int (nI (((L ++ [nI 48, nI 0]) ++ eb (nI 2) (idB k)).length + 2))), some (.int (nI ((((L ++ [nI 48, nI 0]) ++ eb (nI 2) (idB k)) ++ [nI 100, nI 0]).length + 2))), some (.int (nI i)), none] [] μ2 (0, 0) := by
        intro μ2 s2 Z hZ cc
        have hZl : Z.length ≤ 1 := by rw [hZ]; split <;> exact Nat.le_of_ble_eq_true rfl
        have r4' := (cc.2.2.1 140 (by decide) (by decide)).trans r4
        have r5' := (cc.2.2.1 141 (by decide) (by decide)).trans r5
        refine x_al c_Md_show_56 rfl ?_
        refine x_al c_Md_show_57 rfl ?_
        refine x_get c_Md_show_58 (by first | rfl | exact cc.1 | exact r4' | exact r5') rfl ?_
        refine x_ci c_Md_show_61 ?_
        refine x_il c_Md_show_62 rfl ?_
        first | refine x_imulN c_Md_show_63 ?_ | refine x_imul c_Md_show_63 ?_
        refine x_il c_Md_show_64 rfl ?_
        first | refine x_iaddN c_Md_show_66 ?_ | refine x_iadd c_Md_show_66 ?_
        refine x_ialdN c_Md_show_67 (by first | rfl | exact cc.1 | exact r4' | exact r5') (by omega) (by omega) ?_
        refine x_al c_Md_show_68 rfl ?_
        refine x_get c_Md_show_69 (by first | rfl | exact cc.1 | exact r4' | exact r5') rfl ?_
        refine x_ci c_Md_show_72 ?_
        refine x_il c_Md_show_73 rfl ?_
        first | refine x_imulN c_Md_show_74 ?_ | refine x_imul c_Md_show_74 ?_
        refine x_il c_Md_show_75 rfl ?_
        first | refine x_iaddN c_Md_show_77 ?_ | refine x_iadd c_Md_show_77 ?_
        refine x_laldN c_Md_show_78 (by first | rfl | exact cc.1 | exact r4' | exact r5') (by omega) (by omega) ?_
        refine x_cv2z _ c_Md_show_79 (by first | rfl | exact cc.1 | exact r4' | exact r5') (Nat.le_of_ble_eq_true rfl) (y_Md_sayPart (d + 1) cc.1 cc.2.2.2 (by first | omega | (simp only [eb, List.length_append, List.length_cons, List.length_nil]; omega))) ?_
        rintro _ μ4 ⟨rfl, s4, c4⟩
        have cc := cc.to c4
        show kc_X _ _ _ _ _ [] _ _
        first | refine x_incN [_, _, _, _, _, _, _, _] c_Md_show_82 rfl rfl ?_ | refine x_inc [_, _, _, _, _, _, _, _] c_Md_show_82 rfl rfl ?_
        refine x_goto c_Md_show_85 ?_
        refine ih (i + 1) μ4 s4 (by omega) (by omega) ?_
        rw [hnt, ← hZ]
        simp only [List.append_assoc, List.cons_append, List.nil_append] at cc ⊢
        exact cc
      refine x_il c_Md_show_34 rfl ?_
      refine x_al c_Md_show_36 rfl ?_
      refine x_get c_Md_show_37 (by first | rfl | exact cc.1 | exact r3') rfl ?_
      refine x_il c_Md_show_40 rfl ?_
      refine x_ialdE c_Md_show_41 (by first | rfl | exact cc.1 | exact r3') (by omega) (by omega) (hme.1) ?_
      refine x_cmN_ge c_Md_show_42 (by omega) (by omega) (fun h => (by exfalso; omega)) (fun _ => ?_)
      refine x_il c_Md_show_45 rfl ?_
      refine x_ifN_le c_Md_show_47 (by omega) (fun h47 => ?_) (fun h47 => ?_)
      · first | exact part _ _ [nI 44] (by rw [if_neg (by omega)]) cc | exact part _ _ [] (by rw [if_pos (by omega)]) (by rw [List.append_nil]; exact cc)
      · refine x_al c_Md_show_50 rfl ?_
        refine x_ci c_Md_show_51 ?_
        refine x_cv1z _ c_Md_show_53 (by first | rfl | exact cc.1 | exact r3') (Nat.le_of_ble_eq_true rfl) (y_Md_say (d + 3) cc.1 cc.2.2.2 (by first | omega | (simp only [eb, List.length_append, List.length_cons, List.length_nil]; omega))) ?_
        rintro _ μ3 ⟨rfl, s3, c3⟩
        have cc := cc.to c3
        show kc_X _ _ _ _ _ [] _ _
        first | exact part _ _ [nI 44] (by rw [if_neg (by omega)]) cc | exact part _ _ [] (by rw [if_pos (by omega)]) (by rw [List.append_nil]; exact cc)
  refine x_al c_Md_show_0 rfl ?_
  refine x_getE c_Md_show_1 (by first | rfl | exact cc.1) rfl (by first | exact cc.2.2.2.1 | rfl) ?_
  refine x_is [_, _, _, _, _, _, _, _] c_Md_show_4 rfl ?_
  refine x_al c_Md_show_5 rfl ?_
  refine x_ci c_Md_show_6 ?_
  refine x_cv1z _ c_Md_show_8 (by first | rfl | exact cc.1) (Nat.le_of_ble_eq_true rfl) (y_Md_begin (d + 2) cc.1 cc.2.2.2 (by first | omega | (simp only [eb, List.length_append, List.length_cons, List.length_nil]; omega))) ?_
  rintro _ μ1 ⟨rfl, s1, c1⟩
  have cc := cc.to c1
  show kc_X _ _ _ _ _ [.int (nI (L.length + 2))] _ _
  refine x_is [_, _, _, _, _, _, _, _] c_Md_show_11 rfl ?_
  refine x_al c_Md_show_12 rfl ?_
  refine x_cv0z _ c_Md_show_13 (by first | rfl | exact cc.1) (Nat.le_of_ble_eq_true rfl) (y_Md_sayId (d + 1) cc.1 cc.2.2.2 (by first | omega | (simp only [eb, List.length_append, List.length_cons, List.length_nil]; omega)) hk ((cc.2.1 16 (by decide)).trans h16)) ?_
  rintro _ μ2 ⟨rfl, s2, c2⟩
  have cc := cc.to c2
  show kc_X _ _ _ _ _ [] _ _
  refine x_al c_Md_show_16 rfl ?_
  refine x_ci c_Md_show_17 ?_
  refine x_cv1z _ c_Md_show_19 (by first | rfl | exact cc.1) (Nat.le_of_ble_eq_true rfl) (y_Md_begin (d + 2) cc.1 cc.2.2.2 (by first | omega | (simp only [eb, List.length_append, List.length_cons, List.length_nil]; omega))) ?_
  rintro _ μ3 ⟨rfl, s3, c3⟩
  have cc := cc.to c3
  show kc_X _ _ _ _ _ [.int (nI (((L ++ [nI 48, nI 0]) ++ eb (nI 2) (idB k)).length + 2))] _ _
  refine x_is [_, _, _, _, _, _, _, _] c_Md_show_22 rfl ?_
  refine x_al c_Md_show_24 rfl ?_
  refine x_ci c_Md_show_25 ?_
  refine x_cv1z _ c_Md_show_26 (by first | rfl | exact cc.1) (Nat.le_of_ble_eq_true rfl) (y_Md_begin (d + 2) cc.1 cc.2.2.2 (by first | omega | (simp only [eb, List.length_append, List.length_cons, List.length_nil]; omega))) ?_
  rintro _ μ4 ⟨rfl, s4, c4⟩
  have cc := cc.to c4
  show kc_X _ _ _ _ _ [.int (nI ((((L ++ [nI 48, nI 0]) ++ eb (nI 2) (idB k)) ++ [nI 100, nI 0]).length + 2))] _ _
  refine x_is [_, _, _, _, _, _, _, _] c_Md_show_29 rfl ?_
  refine x_ci c_Md_show_31 ?_
  refine x_is [_, _, _, _, _, _, _, _] c_Md_show_32 rfl ?_
  exact names _ 0 _ _ rfl (Nat.zero_le _) (by rw [List.take_zero]; exact cc)
