/-! the reference's isMessage -/
theorem mdC.to {μ μ1 μ2 : kc_M} {s s1 s2 : Nat → Int32} {X Y Z : List Nat} (h1 : mdC μ μ1 s s1 X) (h2 : mdC μ1 μ2 s1 s2 Y) (hz : ∀ i, i ∉ Z → i ∉ X ∧ i ∉ Y) : mdC μ μ2 s s2 Z :=
  ⟨h2.1, fun i hi => (h2.2.1 i (hz i hi).2).trans (h1.2.1 i (hz i hi).1), fun q hq => (h2.2.2 q hq).trans (h1.2.2 q hq)⟩
theorem mdC.wk {μ μ1 : kc_M} {s s1 : Nat → Int32} {X Z : List Nat} (h1 : mdC μ μ1 s s1 X) (hz : ∀ i, i ∉ Z → i ∉ X) : mdC μ μ1 s s1 Z := ⟨h1.1, fun i hi => h1.2.1 i (hz i hi), h1.2.2⟩
theorem mdC.put {μ μ1 : kc_M} {s s1 : Nat → Int32} {X Z : List Nat} {k : Nat} {v : Int32} (h1 : mdC μ μ1 s s1 X) (hz : ∀ i, i ∉ Z → i ∉ X ∧ i ≠ k) : mdC μ (kc_u μ1 136 (ce_Md (upd s1 k v))) s (upd s1 k v) Z :=
  ⟨kc_gs, fun i hi => (pk_un (hz i hi).2).trans (h1.2.1 i (hz i hi).1), fun q hq => (kc_gf hq).trans (h1.2.2 q hq)⟩
theorem nuS_lt {tb : Nat → Nat} {x y : Nat} : nuS tb x y = nuS tb x y := rfl
def isOp (t : Nat) : Prop := t = 96 ∨ t = 99 ∨ t = 102 ∨ t = 104 ∨ t = 74
theorem msg_1 {tb : Nat → Nat} {sz : Nat} (h : tl tb 48 0 sz = none) : msg tb sz = none := by unfold msg; rw [h]
theorem msg_2 {tb : Nat → Nat} {sz x y : Nat} (h : tl tb 48 0 sz = some (x, y)) (hy : y ≠ sz) : msg tb sz = none := by unfold msg; rw [h]; dsimp only; rw [if_neg hy]
theorem msg_3 {tb : Nat → Nat} {sz x : Nat} (h : tl tb 48 0 sz = some (x, sz)) (h2 : nl tb x sz = none) : msg tb sz = none := by unfold msg; rw [h]; dsimp only; rw [if_pos rfl, h2]
theorem msg_4 {tb : Nat → Nat} {sz x a b : Nat} (h : tl tb 48 0 sz = some (x, sz)) (h2 : nl tb x sz = some (a, b)) (h3 : ¬ 0 ≤ nuS tb a b) : msg tb sz = none := by unfold msg; rw [h]; dsimp only; rw [if_pos rfl, h2]; dsimp only; rw [if_neg h3]
theorem msg_5 {tb : Nat → Nat} {sz x a b : Nat} (h : tl tb 48 0 sz = some (x, sz)) (h2 : nl tb x sz = some (a, b)) (h3 : 0 ≤ nuS tb a b) (h4 : el tb b sz = none) : msg tb sz = none := by unfold msg; rw [h]; dsimp only; rw [if_pos rfl, h2]; dsimp only; rw [if_pos h3, h4]
theorem msg_6 {tb : Nat → Nat} {sz x a b c dd : Nat} (h : tl tb 48 0 sz = some (x, sz)) (h2 : nl tb x sz = some (a, b)) (h3 : 0 ≤ nuS tb a b) (h4 : el tb b sz = some (c, dd)) (h5 : dd ≠ sz) : msg tb sz = none := by unfold msg; rw [h]; dsimp only; rw [if_pos rfl, h2]; dsimp only; rw [if_pos h3, h4]; dsimp only; rw [if_neg h5]
theorem msg_7 {tb : Nat → Nat} {sz x a b c : Nat} (h : tl tb 48 0 sz = some (x, sz)) (h2 : nl tb x sz = some (a, b)) (h3 : 0 ≤ nuS tb a b) (h4 : el tb b sz = some (c, sz)) : msg tb sz = some (nuS tb a b, b, c) := by unfold msg; rw [h]; dsimp only; rw [if_pos rfl, h2]; dsimp only; rw [if_pos h3, h4]; dsimp only; rw [if_pos rfl]
set_option maxRecDepth 100000 in
set_option maxHeartbeats 4000000 in
theorem y_Md_isMessage (d : Nat) {μ : kc_M} {s : Nat → Int32} {tb : Nat → Nat} (h0 : μ.1 136 = some (ce_Md s)) (h1 : μ.1 137 = some (ce_I 200 (fun j => nI (tb j)))) (htb : ∀ j, tb j < 256) {sz : Nat} (hs3 : s 3 = nI sz) (hsz : sz ≤ 200) : kc_Y kt kC (d + 4) j_Md_isMessage [.ref 136] μ (fun v μ' => ∃ s', mdC μ μ' s s' [13, 14, 15, 16, 17, 18, 19] ∧ ((∃ i b c, msg tb sz = some (i, b, c) ∧ isOp (tb b) ∧ v = some (.int (bI true)) ∧ s' 16 = i ∧ s' 17 = nI (tb b) ∧ s' 18 = nI c ∧ s' 19 = nI sz) ∨ ((∀ i b c, msg tb sz = some (i, b, c) → ¬ isOp (tb b)) ∧ v = some (.int (bI false))))) := by
  refine ⟨Nat.le_of_ble_eq_true rfl, ?_⟩
  refine x_al c_Md_isMessage_0 rfl ?_
  refine x_ci c_Md_isMessage_1 ?_
  refine x_al c_Md_isMessage_2 rfl ?_
  refine x_getE c_Md_isMessage_3 (by first | rfl | exact h0 | exact h1) rfl (by first | exact hs3 | rfl) ?_
  refine x_ci c_Md_isMessage_6 ?_
  refine x_cv3z _ c_Md_isMessage_8 (by first | rfl | exact h0 | exact h1) (Nat.le_of_ble_eq_true rfl) (y_Md_tagged (d := d + 1) h0 h1 htb (p := 0) (e := sz) (by omega) hsz (t := 48) (by omega)) ?_
  rintro v μ1 ⟨s1, hc1, ⟨x, y, r1, rfl, a1, b1, d1⟩ | ⟨r1, rfl⟩⟩
  · show kc_X _ _ _ _ _ [.int (bI true)] _ _
    have hk1 : μ1.1 137 = some (ce_I 200 (fun j => nI (tb j))) := (hc1.2.2 137 (by omega)).trans h1
    have i1 := tl_in r1
    have c3 : s1 3 = nI sz := (hc1.2.1 3 (by decide)).trans hs3
    refine x_if_eq c_Md_isMessage_11 (fun h => absurd h (by decide)) (fun _ => ?_)
    refine x_al c_Md_isMessage_14 rfl ?_
    refine x_getE c_Md_isMessage_15 (by first | rfl | exact hc1.1 | exact hk1) rfl (by first | exact c3 | exact b1 | exact d1 | rfl) ?_
    refine x_al c_Md_isMessage_18 rfl ?_
    refine x_getE c_Md_isMessage_19 (by first | rfl | exact hc1.1 | exact hk1) rfl (by first | exact c3 | exact b1 | exact d1 | rfl) ?_
    first | refine x_cmN_ne c_Md_isMessage_22 (by first | omega | exact tbl htb _) (by first | omega | exact tbl htb _) (fun h22 => ?_) (fun h22 => ?_) | refine x_cm_ne c_Md_isMessage_22 (fun h22 => ?_) (fun h22 => ?_)
    · refine x_ci c_Md_isMessage_47 ?_
      refine x_rz c_Md_isMessage_48 (by first | decide | exact kz_n _) ?_
      exact ⟨_, (hc1.wk (Z := [13, 14, 15, 16, 17, 18, 19]) (fun i hi => by simp only [List.mem_cons, List.not_mem_nil, or_false, not_or] at hi ⊢; omega)), Or.inr ⟨fun i b c hm => (by rw [msg_2 r1 h22] at hm; cases hm), rfl⟩⟩
    · subst h22
      refine x_al c_Md_isMessage_25 rfl ?_
      refine x_al c_Md_isMessage_26 rfl ?_
      refine x_getE c_Md_isMessage_27 (by first | rfl | exact hc1.1 | exact hk1) rfl (by first | exact c3 | exact b1 | exact d1 | rfl) ?_
      refine x_al c_Md_isMessage_30 rfl ?_
      refine x_getE c_Md_isMessage_31 (by first | rfl | exact hc1.1 | exact hk1) rfl (by first | exact c3 | exact b1 | exact d1 | rfl) ?_
      refine x_cv2z _ c_Md_isMessage_34 (by first | rfl | exact hc1.1 | exact hk1) (Nat.le_of_ble_eq_true rfl) (y_Md_numbered (d := d) hc1.1 hk1 htb (p := x) (e := y) (by omega) (by omega)) ?_
      rintro v μ2 ⟨s2, hc2, ⟨a, b, r2, rfl, a2, b2, d2⟩ | ⟨r2, rfl⟩⟩
      · show kc_X _ _ _ _ _ [.int (bI true)] _ _
        have hk2 : μ2.1 137 = some (ce_I 200 (fun j => nI (tb j))) := (hc2.2.2 137 (by omega)).trans hk1
        obtain ⟨r2', l2⟩ := nl_in r2
        have i2 := tl_in r2'
        have e3 : s2 3 = nI y := (hc2.2.1 3 (by decide)).trans c3
        refine x_if_eq c_Md_isMessage_37 (fun h => absurd h (by decide)) (fun _ => ?_)
        refine x_al c_Md_isMessage_40 rfl ?_
        refine x_cv0z _ c_Md_isMessage_41 (by first | rfl | exact hc2.1 | exact hk2) (Nat.le_of_ble_eq_true rfl) (y_Md_number (d := d + 2) hc2.1 hk2 htb b2 d2 l2 (by omega)) ?_
        rintro _ μx ⟨rfl, hμx⟩
        have hμx := hμx.symm
        subst hμx
        show kc_X _ _ _ _ _ [.int (nuS tb a b)] _ _
        refine x_if_ge c_Md_isMessage_44 (fun h44 => ?_) (fun h44 => ?_)
        · refine x_al c_Md_isMessage_49 rfl ?_
          refine x_al c_Md_isMessage_50 rfl ?_
          refine x_cv0z _ c_Md_isMessage_51 (by first | rfl | exact hc2.1 | exact hk2) (Nat.le_of_ble_eq_true rfl) (y_Md_number (d := d + 2) hc2.1 hk2 htb b2 d2 l2 (by omega)) ?_
          rintro _ μx ⟨rfl, hμx⟩
          have hμx := hμx.symm
          subst hμx
          show kc_X _ _ _ _ _ [.int (nuS tb a b), .ref 136] _ _
          refine x_putM c_Md_isMessage_54 (by first | rfl | exact hc2.1 | exact hk2) ⟨by decide, rfl, rfl⟩ rfl ?_
          have hc3 := mdC.put (Z := [13, 14, 15, 16]) (k := 16) (v := nuS tb a b) (hc1.to (Z := [13, 14, 15]) hc2 (fun i hi => by simp only [List.mem_cons, List.not_mem_nil, or_false, not_or] at hi ⊢; omega)) (fun i hi => by simp only [List.mem_cons, List.not_mem_nil, or_false, not_or] at hi ⊢; omega)
          have hk3 : (kc_u μ2 136 (ce_Md (upd s2 16 (nuS tb a b)))).1 137 = some (ce_I 200 (fun j => nI (tb j))) := hk2
          refine x_al c_Md_isMessage_57 rfl ?_
          refine x_al c_Md_isMessage_58 rfl ?_
          refine x_getE c_Md_isMessage_59 (by first | rfl | exact hc2.1 | exact hk2) rfl (by first | exact e3 | exact b2 | exact d2 | rfl) ?_
          refine x_al c_Md_isMessage_62 rfl ?_
          refine x_getE c_Md_isMessage_63 (by first | rfl | exact hc2.1 | exact hk2) rfl (by first | exact e3 | exact b2 | exact d2 | rfl) ?_
          refine x_cv2z _ c_Md_isMessage_66 (by first | rfl | exact hc2.1 | exact hk2) (Nat.le_of_ble_eq_true rfl) (y_Md_element (d := d + 2) (μ := kc_u μ2 136 _) (s := upd s2 16 _) kc_gs hk3 htb (p := b) (e := y) (by omega) (by omega)) ?_
          rintro v μ4 ⟨s4, hc4, ⟨c, dd, r4, rfl, a4, b4, d4⟩ | ⟨r4, rfl⟩⟩
          · show kc_X _ _ _ _ _ [.int (bI true)] _ _
            have hk4 : μ4.1 137 = some (ce_I 200 (fun j => nI (tb j))) := (hc4.2.2 137 (by omega)).trans hk3
            have i4 := el_in r4
            have e4 : s4 3 = nI y := (hc4.2.1 3 (by decide)).trans e3
            have a4' := a4 _ rfl
            refine x_if_eq c_Md_isMessage_69 (fun h => absurd h (by decide)) (fun _ => ?_)
            refine x_al c_Md_isMessage_72 rfl ?_
            refine x_getE c_Md_isMessage_73 (by first | rfl | exact hc4.1 | exact hk4) rfl (by first | exact e4 | exact a4' | exact b4 | exact d4 | rfl) ?_
            refine x_al c_Md_isMessage_76 rfl ?_
            refine x_getE c_Md_isMessage_77 (by first | rfl | exact hc4.1 | exact hk4) rfl (by first | exact e4 | exact a4' | exact b4 | exact d4 | rfl) ?_
            first | refine x_cmN_eq c_Md_isMessage_80 (by first | omega | exact tbl htb _) (by first | omega | exact tbl htb _) (fun h80 => ?_) (fun h80 => ?_) | refine x_cm_eq c_Md_isMessage_80 (fun h80 => ?_) (fun h80 => ?_)
            · subst h80
              refine x_al c_Md_isMessage_85 rfl ?_
              refine x_al c_Md_isMessage_86 rfl ?_
              refine x_getE c_Md_isMessage_87 (by first | rfl | exact hc4.1 | exact hk4) rfl (by first | exact e4 | exact a4' | exact b4 | exact d4 | rfl) ?_
              refine x_putM c_Md_isMessage_90 (by first | rfl | exact hc4.1 | exact hk4) ⟨by decide, rfl, rfl⟩ rfl ?_
              refine x_al c_Md_isMessage_93 rfl ?_
              refine x_al c_Md_isMessage_94 rfl ?_
              refine x_getE c_Md_isMessage_95 (by first | rfl | exact hc4.1 | exact hk4) rfl (by first | exact e4 | exact a4' | exact b4 | exact d4 | rfl) ?_
              refine x_putM c_Md_isMessage_98 (by first | rfl | exact hc4.1 | exact hk4) ⟨by decide, rfl, rfl⟩ rfl ?_
              refine x_al c_Md_isMessage_101 rfl ?_
              refine x_al c_Md_isMessage_102 rfl ?_
              refine x_getE c_Md_isMessage_103 (by first | rfl | exact hc4.1 | exact hk4) rfl (by first | exact e4 | exact a4' | exact b4 | exact d4 | rfl) ?_
              refine x_putM c_Md_isMessage_106 (by first | rfl | exact hc4.1 | exact hk4) ⟨by decide, rfl, rfl⟩ rfl ?_
              refine x_al c_Md_isMessage_109 rfl ?_
              refine x_getE c_Md_isMessage_110 (by first | rfl | exact hc4.1 | exact hk4) rfl (by first | exact e4 | exact a4' | exact b4 | exact d4 | rfl) ?_
              refine x_ci c_Md_isMessage_113 ?_
              first | refine x_cmN_eq c_Md_isMessage_115 (by first | omega | exact tbl htb _) (by first | omega | exact tbl htb _) (fun h115 => ?_) (fun h115 => ?_) | refine x_cm_eq c_Md_isMessage_115 (fun h115 => ?_) (fun h115 => ?_)
              · refine x_ci c_Md_isMessage_154 ?_
                refine x_goto c_Md_isMessage_155 ?_
                refine x_rz c_Md_isMessage_159 (by first | decide | exact kz_n _) ?_
                first | exact ⟨_, (mdC.put (Z := [13, 14, 15, 16, 17, 18, 19]) (k := 19) (mdC.put (Z := [13, 14, 15, 16, 17, 18]) (k := 18) (mdC.put (Z := [13, 14, 15, 16, 17]) (k := 17) (hc3.to (Z := [13, 14, 15, 16]) hc4 (fun i hi => by simp only [List.mem_cons, List.not_mem_nil, or_false, not_or] at hi ⊢; omega)) (fun i hi => by simp only [List.mem_cons, List.not_mem_nil, or_false, not_or] at hi ⊢; omega)) (fun i hi => by simp only [List.mem_cons, List.not_mem_nil, or_false, not_or] at hi ⊢; omega)) (fun i hi => by simp only [List.mem_cons, List.not_mem_nil, or_false, not_or] at hi ⊢; omega)), Or.inl ⟨_, _, _, msg_7 r1 r2 h44 r4, by unfold isOp; omega, rfl, (hc4.2.1 16 (by decide)).trans rfl, rfl, rfl, rfl⟩⟩ | exact ⟨_, (mdC.put (Z := [13, 14, 15, 16, 17, 18, 19]) (k := 19) (mdC.put (Z := [13, 14, 15, 16, 17, 18]) (k := 18) (mdC.put (Z := [13, 14, 15, 16, 17]) (k := 17) (hc3.to (Z := [13, 14, 15, 16]) hc4 (fun i hi => by simp only [List.mem_cons, List.not_mem_nil, or_false, not_or] at hi ⊢; omega)) (fun i hi => by simp only [List.mem_cons, List.not_mem_nil, or_false, not_or] at hi ⊢; omega)) (fun i hi => by simp only [List.mem_cons, List.not_mem_nil, or_false, not_or] at hi ⊢; omega)) (fun i hi => by simp only [List.mem_cons, List.not_mem_nil, or_false, not_or] at hi ⊢; omega)), Or.inr ⟨fun i b' c' hm => (by rw [msg_7 r1 r2 h44 r4] at hm; cases hm; unfold isOp; omega), rfl⟩⟩
              · refine x_al c_Md_isMessage_118 rfl ?_
                refine x_getE c_Md_isMessage_119 (by first | rfl | exact hc4.1 | exact hk4) rfl (by first | exact e4 | exact a4' | exact b4 | exact d4 | rfl) ?_
                refine x_ci c_Md_isMessage_122 ?_
                first | refine x_cmN_eq c_Md_isMessage_124 (by first | omega | exact tbl htb _) (by first | omega | exact tbl htb _) (fun h124 => ?_) (fun h124 => ?_) | refine x_cm_eq c_Md_isMessage_124 (fun h124 => ?_) (fun h124 => ?_)
                · refine x_ci c_Md_isMessage_154 ?_
                  refine x_goto c_Md_isMessage_155 ?_
                  refine x_rz c_Md_isMessage_159 (by first | decide | exact kz_n _) ?_
                  first | exact ⟨_, (mdC.put (Z := [13, 14, 15, 16, 17, 18, 19]) (k := 19) (mdC.put (Z := [13, 14, 15, 16, 17, 18]) (k := 18) (mdC.put (Z := [13, 14, 15, 16, 17]) (k := 17) (hc3.to (Z := [13, 14, 15, 16]) hc4 (fun i hi => by simp only [List.mem_cons, List.not_mem_nil, or_false, not_or] at hi ⊢; omega)) (fun i hi => by simp only [List.mem_cons, List.not_mem_nil, or_false, not_or] at hi ⊢; omega)) (fun i hi => by simp only [List.mem_cons, List.not_mem_nil, or_false, not_or] at hi ⊢; omega)) (fun i hi => by simp only [List.mem_cons, List.not_mem_nil, or_false, not_or] at hi ⊢; omega)), Or.inl ⟨_, _, _, msg_7 r1 r2 h44 r4, by unfold isOp; omega, rfl, (hc4.2.1 16 (by decide)).trans rfl, rfl, rfl, rfl⟩⟩ | exact ⟨_, (mdC.put (Z := [13, 14, 15, 16, 17, 18, 19]) (k := 19) (mdC.put (Z := [13, 14, 15, 16, 17, 18]) (k := 18) (mdC.put (Z := [13, 14, 15, 16, 17]) (k := 17) (hc3.to (Z := [13, 14, 15, 16]) hc4 (fun i hi => by simp only [List.mem_cons, List.not_mem_nil, or_false, not_or] at hi ⊢; omega)) (fun i hi => by simp only [List.mem_cons, List.not_mem_nil, or_false, not_or] at hi ⊢; omega)) (fun i hi => by simp only [List.mem_cons, List.not_mem_nil, or_false, not_or] at hi ⊢; omega)) (fun i hi => by simp only [List.mem_cons, List.not_mem_nil, or_false, not_or] at hi ⊢; omega)), Or.inr ⟨fun i b' c' hm => (by rw [msg_7 r1 r2 h44 r4] at hm; cases hm; unfold isOp; omega), rfl⟩⟩
                · refine x_al c_Md_isMessage_127 rfl ?_
                  refine x_getE c_Md_isMessage_128 (by first | rfl | exact hc4.1 | exact hk4) rfl (by first | exact e4 | exact a4' | exact b4 | exact d4 | rfl) ?_
                  refine x_ci c_Md_isMessage_131 ?_
                  first | refine x_cmN_eq c_Md_isMessage_133 (by first | omega | exact tbl htb _) (by first | omega | exact tbl htb _) (fun h133 => ?_) (fun h133 => ?_) | refine x_cm_eq c_Md_isMessage_133 (fun h133 => ?_) (fun h133 => ?_)
                  · refine x_ci c_Md_isMessage_154 ?_
                    refine x_goto c_Md_isMessage_155 ?_
                    refine x_rz c_Md_isMessage_159 (by first | decide | exact kz_n _) ?_
                    first | exact ⟨_, (mdC.put (Z := [13, 14, 15, 16, 17, 18, 19]) (k := 19) (mdC.put (Z := [13, 14, 15, 16, 17, 18]) (k := 18) (mdC.put (Z := [13, 14, 15, 16, 17]) (k := 17) (hc3.to (Z := [13, 14, 15, 16]) hc4 (fun i hi => by simp only [List.mem_cons, List.not_mem_nil, or_false, not_or] at hi ⊢; omega)) (fun i hi => by simp only [List.mem_cons, List.not_mem_nil, or_false, not_or] at hi ⊢; omega)) (fun i hi => by simp only [List.mem_cons, List.not_mem_nil, or_false, not_or] at hi ⊢; omega)) (fun i hi => by simp only [List.mem_cons, List.not_mem_nil, or_false, not_or] at hi ⊢; omega)), Or.inl ⟨_, _, _, msg_7 r1 r2 h44 r4, by unfold isOp; omega, rfl, (hc4.2.1 16 (by decide)).trans rfl, rfl, rfl, rfl⟩⟩ | exact ⟨_, (mdC.put (Z := [13, 14, 15, 16, 17, 18, 19]) (k := 19) (mdC.put (Z := [13, 14, 15, 16, 17, 18]) (k := 18) (mdC.put (Z := [13, 14, 15, 16, 17]) (k := 17) (hc3.to (Z := [13, 14, 15, 16]) hc4 (fun i hi => by simp only [List.mem_cons, List.not_mem_nil, or_false, not_or] at hi ⊢; omega)) (fun i hi => by simp only [List.mem_cons, List.not_mem_nil, or_false, not_or] at hi ⊢; omega)) (fun i hi => by simp only [List.mem_cons, List.not_mem_nil, or_false, not_or] at hi ⊢; omega)) (fun i hi => by simp only [List.mem_cons, List.not_mem_nil, or_false, not_or] at hi ⊢; omega)), Or.inr ⟨fun i b' c' hm => (by rw [msg_7 r1 r2 h44 r4] at hm; cases hm; unfold isOp; omega), rfl⟩⟩
                  · refine x_al c_Md_isMessage_136 rfl ?_
                    refine x_getE c_Md_isMessage_137 (by first | rfl | exact hc4.1 | exact hk4) rfl (by first | exact e4 | exact a4' | exact b4 | exact d4 | rfl) ?_
                    refine x_ci c_Md_isMessage_140 ?_
                    first | refine x_cmN_eq c_Md_isMessage_142 (by first | omega | exact tbl htb _) (by first | omega | exact tbl htb _) (fun h142 => ?_) (fun h142 => ?_) | refine x_cm_eq c_Md_isMessage_142 (fun h142 => ?_) (fun h142 => ?_)
                    · refine x_ci c_Md_isMessage_154 ?_
                      refine x_goto c_Md_isMessage_155 ?_
                      refine x_rz c_Md_isMessage_159 (by first | decide | exact kz_n _) ?_
                      first | exact ⟨_, (mdC.put (Z := [13, 14, 15, 16, 17, 18, 19]) (k := 19) (mdC.put (Z := [13, 14, 15, 16, 17, 18]) (k := 18) (mdC.put (Z := [13, 14, 15, 16, 17]) (k := 17) (hc3.to (Z := [13, 14, 15, 16]) hc4 (fun i hi => by simp only [List.mem_cons, List.not_mem_nil, or_false, not_or] at hi ⊢; omega)) (fun i hi => by simp only [List.mem_cons, List.not_mem_nil, or_false, not_or] at hi ⊢; omega)) (fun i hi => by simp only [List.mem_cons, List.not_mem_nil, or_false, not_or] at hi ⊢; omega)) (fun i hi => by simp only [List.mem_cons, List.not_mem_nil, or_false, not_or] at hi ⊢; omega)), Or.inl ⟨_, _, _, msg_7 r1 r2 h44 r4, by unfold isOp; omega, rfl, (hc4.2.1 16 (by decide)).trans rfl, rfl, rfl, rfl⟩⟩ | exact ⟨_, (mdC.put (Z := [13, 14, 15, 16, 17, 18, 19]) (k := 19) (mdC.put (Z := [13, 14, 15, 16, 17, 18]) (k := 18) (mdC.put (Z := [13, 14, 15, 16, 17]) (k := 17) (hc3.to (Z := [13, 14, 15, 16]) hc4 (fun i hi => by simp only [List.mem_cons, List.not_mem_nil, or_false, not_or] at hi ⊢; omega)) (fun i hi => by simp only [List.mem_cons, List.not_mem_nil, or_false, not_or] at hi ⊢; omega)) (fun i hi => by simp only [List.mem_cons, List.not_mem_nil, or_false, not_or] at hi ⊢; omega)) (fun i hi => by simp only [List.mem_cons, List.not_mem_nil, or_false, not_or] at hi ⊢; omega)), Or.inr ⟨fun i b' c' hm => (by rw [msg_7 r1 r2 h44 r4] at hm; cases hm; unfold isOp; omega), rfl⟩⟩
                    · refine x_al c_Md_isMessage_145 rfl ?_
                      refine x_getE c_Md_isMessage_146 (by first | rfl | exact hc4.1 | exact hk4) rfl (by first | exact e4 | exact a4' | exact b4 | exact d4 | rfl) ?_
                      refine x_ci c_Md_isMessage_149 ?_
                      first | refine x_cmN_ne c_Md_isMessage_151 (by first | omega | exact tbl htb _) (by first | omega | exact tbl htb _) (fun h151 => ?_) (fun h151 => ?_) | refine x_cm_ne c_Md_isMessage_151 (fun h151 => ?_) (fun h151 => ?_)
                      · refine x_ci c_Md_isMessage_158 ?_
                        refine x_rz c_Md_isMessage_159 (by first | decide | exact kz_n _) ?_
                        first | exact ⟨_, (mdC.put (Z := [13, 14, 15, 16, 17, 18, 19]) (k := 19) (mdC.put (Z := [13, 14, 15, 16, 17, 18]) (k := 18) (mdC.put (Z := [13, 14, 15, 16, 17]) (k := 17) (hc3.to (Z := [13, 14, 15, 16]) hc4 (fun i hi => by simp only [List.mem_cons, List.not_mem_nil, or_false, not_or] at hi ⊢; omega)) (fun i hi => by simp only [List.mem_cons, List.not_mem_nil, or_false, not_or] at hi ⊢; omega)) (fun i hi => by simp only [List.mem_cons, List.not_mem_nil, or_false, not_or] at hi ⊢; omega)) (fun i hi => by simp only [List.mem_cons, List.not_mem_nil, or_false, not_or] at hi ⊢; omega)), Or.inl ⟨_, _, _, msg_7 r1 r2 h44 r4, by unfold isOp; omega, rfl, (hc4.2.1 16 (by decide)).trans rfl, rfl, rfl, rfl⟩⟩ | exact ⟨_, (mdC.put (Z := [13, 14, 15, 16, 17, 18, 19]) (k := 19) (mdC.put (Z := [13, 14, 15, 16, 17, 18]) (k := 18) (mdC.put (Z := [13, 14, 15, 16, 17]) (k := 17) (hc3.to (Z := [13, 14, 15, 16]) hc4 (fun i hi => by simp only [List.mem_cons, List.not_mem_nil, or_false, not_or] at hi ⊢; omega)) (fun i hi => by simp only [List.mem_cons, List.not_mem_nil, or_false, not_or] at hi ⊢; omega)) (fun i hi => by simp only [List.mem_cons, List.not_mem_nil, or_false, not_or] at hi ⊢; omega)) (fun i hi => by simp only [List.mem_cons, List.not_mem_nil, or_false, not_or] at hi ⊢; omega)), Or.inr ⟨fun i b' c' hm => (by rw [msg_7 r1 r2 h44 r4] at hm; cases hm; unfold isOp; omega), rfl⟩⟩
                      · refine x_ci c_Md_isMessage_154 ?_
                        refine x_goto c_Md_isMessage_155 ?_
                        refine x_rz c_Md_isMessage_159 (by first | decide | exact kz_n _) ?_
                        first | exact ⟨_, (mdC.put (Z := [13, 14, 15, 16, 17, 18, 19]) (k := 19) (mdC.put (Z := [13, 14, 15, 16, 17, 18]) (k := 18) (mdC.put (Z := [13, 14, 15, 16, 17]) (k := 17) (hc3.to (Z := [13, 14, 15, 16]) hc4 (fun i hi => by simp only [List.mem_cons, List.not_mem_nil, or_false, not_or] at hi ⊢; omega)) (fun i hi => by simp only [List.mem_cons, List.not_mem_nil, or_false, not_or] at hi ⊢; omega)) (fun i hi => by simp only [List.mem_cons, List.not_mem_nil, or_false, not_or] at hi ⊢; omega)) (fun i hi => by simp only [List.mem_cons, List.not_mem_nil, or_false, not_or] at hi ⊢; omega)), Or.inl ⟨_, _, _, msg_7 r1 r2 h44 r4, by unfold isOp; omega, rfl, (hc4.2.1 16 (by decide)).trans rfl, rfl, rfl, rfl⟩⟩ | exact ⟨_, (mdC.put (Z := [13, 14, 15, 16, 17, 18, 19]) (k := 19) (mdC.put (Z := [13, 14, 15, 16, 17, 18]) (k := 18) (mdC.put (Z := [13, 14, 15, 16, 17]) (k := 17) (hc3.to (Z := [13, 14, 15, 16]) hc4 (fun i hi => by simp only [List.mem_cons, List.not_mem_nil, or_false, not_or] at hi ⊢; omega)) (fun i hi => by simp only [List.mem_cons, List.not_mem_nil, or_false, not_or] at hi ⊢; omega)) (fun i hi => by simp only [List.mem_cons, List.not_mem_nil, or_false, not_or] at hi ⊢; omega)) (fun i hi => by simp only [List.mem_cons, List.not_mem_nil, or_false, not_or] at hi ⊢; omega)), Or.inr ⟨fun i b' c' hm => (by rw [msg_7 r1 r2 h44 r4] at hm; cases hm; unfold isOp; omega), rfl⟩⟩
            · refine x_ci c_Md_isMessage_83 ?_
              refine x_rz c_Md_isMessage_84 (by first | decide | exact kz_n _) ?_
              exact ⟨_, (hc3.to (Z := [13, 14, 15, 16, 17, 18, 19]) hc4 (fun i hi => by simp only [List.mem_cons, List.not_mem_nil, or_false, not_or] at hi ⊢; omega)), Or.inr ⟨fun i b c hm => (by rw [msg_6 r1 r2 h44 r4 h80] at hm; cases hm), rfl⟩⟩
          · show kc_X _ _ _ _ _ [.int (bI false)] _ _
            refine x_if_eq c_Md_isMessage_69 (fun _ => ?_) (fun h => absurd (rfl) h)
            refine x_ci c_Md_isMessage_83 ?_
            refine x_rz c_Md_isMessage_84 (by first | decide | exact kz_n _) ?_
            exact ⟨_, (hc3.to (Z := [13, 14, 15, 16, 17, 18, 19]) hc4 (fun i hi => by simp only [List.mem_cons, List.not_mem_nil, or_false, not_or] at hi ⊢; omega)), Or.inr ⟨fun i b c hm => (by rw [msg_5 r1 r2 h44 r4] at hm; cases hm), rfl⟩⟩
        · refine x_ci c_Md_isMessage_47 ?_
          refine x_rz c_Md_isMessage_48 (by first | decide | exact kz_n _) ?_
          exact ⟨_, (hc1.to (Z := [13, 14, 15, 16, 17, 18, 19]) hc2 (fun i hi => by simp only [List.mem_cons, List.not_mem_nil, or_false, not_or] at hi ⊢; omega)), Or.inr ⟨fun i b c hm => (by rw [msg_4 r1 r2 (fun q => by first | exact absurd q h44 | exact h44 q)] at hm; cases hm), rfl⟩⟩
      · show kc_X _ _ _ _ _ [.int (bI false)] _ _
        refine x_if_eq c_Md_isMessage_37 (fun _ => ?_) (fun h => absurd (rfl) h)
        refine x_ci c_Md_isMessage_47 ?_
        refine x_rz c_Md_isMessage_48 (by first | decide | exact kz_n _) ?_
        exact ⟨_, (hc1.to (Z := [13, 14, 15, 16, 17, 18, 19]) hc2 (fun i hi => by simp only [List.mem_cons, List.not_mem_nil, or_false, not_or] at hi ⊢; omega)), Or.inr ⟨fun i b c hm => (by rw [msg_3 r1 r2] at hm; cases hm), rfl⟩⟩
  · show kc_X _ _ _ _ _ [.int (bI false)] _ _
    refine x_if_eq c_Md_isMessage_11 (fun _ => ?_) (fun h => absurd (rfl) h)
    refine x_ci c_Md_isMessage_47 ?_
    refine x_rz c_Md_isMessage_48 (by first | decide | exact kz_n _) ?_
    exact ⟨_, (hc1.wk (Z := [13, 14, 15, 16, 17, 18, 19]) (fun i hi => by simp only [List.mem_cons, List.not_mem_nil, or_false, not_or] at hi ⊢; omega)), Or.inr ⟨fun i b c hm => (by rw [msg_1 r1] at hm; cases hm), rfl⟩⟩
