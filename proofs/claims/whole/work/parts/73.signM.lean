/-! signing on, the reference -/
/-- what is read of a signing on: version, name, password -/
def sgP (tb : Nat → Nat) (c e : Nat) : Option (Int32 × Nat × Nat × Nat × Nat) := match nl tb c e with
  | none => none
  | some (x, y) => match tl tb 4 y e with
    | none => none
    | some (x2, y2) => match tl tb 128 y2 e with
      | none => none
      | some (x3, y3) => if y3 = e then some (nuS tb x y, x2, y2, x3, y3) else none
def sgC (tb : Nat → Nat) (n : Nat) (nm pr : Nat → List tv) (so : Bool) (c e : Nat) : Nat × Bool := match sgP tb c e with
  | none => (2, so)
  | some (v, x2, y2, x3, y3) => sgD tb n nm pr so v (nmS tb x2 y2) x3 y3 true
theorem sg_C {tb : Nat → Nat} (htb : ∀ j, tb j < 256) {n : Nat} {nm pr : Nat → List tv} {so : Bool} {c e sf st : Nat} : sgC tb n nm pr so c e = sgD tb n nm pr so (vN tb (c, e, false, sf, st)) (nmS tb (rS tb (nI 4) (rN tb (c, e, false, sf, st))).2.2.2.1 (rS tb (nI 4) (rN tb (c, e, false, sf, st))).2.2.2.2) (rS tb (nI 128) (rS tb (nI 4) (rN tb (c, e, false, sf, st)))).2.2.2.1 (rS tb (nI 128) (rS tb (nI 4) (rN tb (c, e, false, sf, st)))).2.2.2.2 (rD (rS tb (nI 128) (rS tb (nI 4) (rN tb (c, e, false, sf, st))))) := by
  have hd : ∀ r : RS, r.2.2.1 = true → rD r = false := fun r h => by unfold rD; rw [h]; rfl
  unfold sgC sgP
  cases h1 : nl tb c e with
  | none =>
    rw [sgD_f (hd _ (rS_wr (rS_wr (rN_no htb h1))))]
  | some q =>
    obtain ⟨x, y⟩ := q
    obtain ⟨a1, a2⟩ := rN_ok htb (sf := sf) (st := st) h1
    rw [a1, a2]
    dsimp only
    cases h2 : tl tb 4 y e with
    | none => rw [sgD_f (hd _ (rS_wr (rS_no htb (by omega) h2)))]
    | some q =>
      obtain ⟨x2, y2⟩ := q
      rw [rS_ok htb (by omega) h2]
      dsimp only
      cases h3 : tl tb 128 y2 e with
      | none => rw [sgD_f (hd _ (rS_no htb (by omega) h3))]
      | some q =>
        obtain ⟨x3, y3⟩ := q
        rw [rS_ok htb (by omega) h3]
        dsimp only
        by_cases hy : y3 = e
        · rw [if_pos hy]
          subst hy
          unfold rD
          simp
        · rw [if_neg hy, sgD_f]
          unfold rD
          simp [hy]
/-- what reading leaves as it was -/
def mK (μ μ' : kc_M) (s s' : Nat → Int32) : Prop := μ'.1 136 = some (ce_Md s') ∧ (∀ i, i ∈ [0, 1, 3, 5, 6, 16, 17, 18, 19, 20] → s' i = s i) ∧ ∀ q, q ≠ 136 → μ'.1 q = μ.1 q
theorem mK.to {μ μ1 μ2 : kc_M} {s s1 s2 : Nat → Int32} (h1 : mK μ μ1 s s1) (h2 : mK μ1 μ2 s1 s2) : mK μ μ2 s s2 := ⟨h2.1, fun i hi => (h2.2.1 i hi).trans (h1.2.1 i hi), fun q hq => (h2.2.2 q hq).trans (h1.2.2 q hq)⟩
theorem mK.re {μ : kc_M} {s : Nat → Int32} (h : μ.1 136 = some (ce_Md s)) : mK μ μ s s := ⟨h, fun _ _ => rfl, fun _ _ => rfl⟩
theorem mdC.K {μ μ' : kc_M} {s s' : Nat → Int32} (h : mdC μ μ' s s' [13, 14, 15]) : mK μ μ' s s' := ⟨h.1, fun i hi => h.2.1 i (by revert i; decide), h.2.2⟩
theorem mK.put {μ μ1 : kc_M} {s s1 : Nat → Int32} {k : Nat} {v : Int32} (h : mK μ μ1 s s1) (hk : k ∉ [0, 1, 3, 5, 6, 16, 17, 18, 19, 20]) : mK μ (kc_u μ1 136 (ce_Md (upd s1 k v))) s (upd s1 k v) := ⟨kc_gs, fun i hi => (if_neg (fun q : i = k => hk (q ▸ hi))).trans (h.2.1 i hi), fun q hq => (kc_gf hq).trans (h.2.2 q hq)⟩
set_option maxRecDepth 100000 in
set_option maxHeartbeats 4000000 in
theorem y_Md_readSign (d : Nat) {μ : kc_M} {s : Nat → Int32} {tb : Nat → Nat} (h0 : μ.1 136 = some (ce_Md s)) (h1 : μ.1 137 = some (ce_I 200 (fun j => nI (tb j)))) (htb : ∀ j, tb j < 256) {c e : Nat} (hs18 : s 18 = nI c) (hs19 : s 19 = nI e) (hce : c ≤ e) (he : e ≤ 200) : kc_Y kt kC (d + 4) j_Md_readSign [.ref 136] μ (fun v μ' => ∃ s', mK μ μ' s s' ∧ ((∃ u x2 y2 x3 y3, sgP tb c e = some (u, x2, y2, x3, y3) ∧ v = some (.int (bI true)) ∧ s' 25 = u ∧ s' 23 = nI x2 ∧ s' 24 = nI y2 ∧ s' 26 = nI x3 ∧ s' 27 = nI y3 ∧ x2 ≤ y2 ∧ y2 ≤ e ∧ x3 ≤ y3 ∧ y3 ≤ e) ∨ (sgP tb c e = none ∧ v = some (.int (bI false))))) := by
  refine ⟨Nat.le_of_ble_eq_true rfl, ?_⟩
  refine x_al c_Md_readSign_0 rfl ?_
  refine x_al c_Md_readSign_1 rfl ?_
  refine x_getE c_Md_readSign_2 (by first | rfl | exact h0 | exact h1) rfl (by first | exact hs18 | exact hs19 | rfl) ?_
  refine x_al c_Md_readSign_5 rfl ?_
  refine x_getE c_Md_readSign_6 (by first | rfl | exact h0 | exact h1) rfl (by first | exact hs18 | exact hs19 | rfl) ?_
  refine x_cv2z _ c_Md_readSign_9 (by first | rfl | exact h0 | exact h1) (Nat.le_of_ble_eq_true rfl) (y_Md_numbered (d := d) h0 h1 htb (p := c) (e := e) (by omega) (by omega)) ?_
  rintro v μ1 ⟨s1, hc1, ⟨x, y, r1, rfl, a1, b1, d1⟩ | ⟨r1, rfl⟩⟩
  · show kc_X _ _ _ _ _ [.int (bI true)] _ _
    have hk1 : μ1.1 137 = some (ce_I 200 (fun j => nI (tb j))) := (hc1.2.2 137 (by omega)).trans h1
    obtain ⟨r1', l1⟩ := nl_in r1
    have i1 := tl_in r1'
    have c1 : s1 19 = nI e := (hc1.2.1 19 (by decide)).trans hs19
    refine x_if_ne c_Md_readSign_12 (fun _ => ?_) (fun h => absurd h (by decide))
    refine x_al c_Md_readSign_17 rfl ?_
    refine x_al c_Md_readSign_18 rfl ?_
    refine x_cv0z _ c_Md_readSign_19 (by first | rfl | exact hc1.1 | exact hk1) (Nat.le_of_ble_eq_true rfl) (y_Md_number (d := d + 2) hc1.1 hk1 htb b1 d1 l1 (by omega)) ?_
    rintro _ μx ⟨rfl, hμx⟩
    have hμx := hμx.symm
    subst hμx
    show kc_X _ _ _ _ _ [.int (nuS tb x y), .ref 136] _ _
    refine x_putM c_Md_readSign_22 (by first | rfl | exact hc1.1 | exact hk1) ⟨by decide, rfl, rfl⟩ rfl ?_
    refine x_al c_Md_readSign_25 rfl ?_
    refine x_al c_Md_readSign_26 rfl ?_
    refine x_getE c_Md_readSign_27 (by first | rfl | exact hc1.1 | exact hk1) rfl (by first | exact c1 | exact b1 | exact d1 | rfl) ?_
    refine x_al c_Md_readSign_30 rfl ?_
    refine x_getE c_Md_readSign_31 (by first | rfl | exact hc1.1 | exact hk1) rfl (by first | exact c1 | exact b1 | exact d1 | rfl) ?_
    refine x_ci c_Md_readSign_34 ?_
    refine x_cv3z _ c_Md_readSign_35 (by first | rfl | exact hc1.1 | exact hk1) (Nat.le_of_ble_eq_true rfl) (y_Md_tagged (d := d + 1) (μ := kc_u μ1 136 _) (s := upd s1 25 _) kc_gs hk1 htb (p := y) (e := e) (by omega) (by omega) (t := 4) (by omega)) ?_
    rintro v μ2 ⟨s2, hc2, ⟨x2, y2, r2, rfl, a2, b2, d2⟩ | ⟨r2, rfl⟩⟩
    · show kc_X _ _ _ _ _ [.int (bI true)] _ _
      have hk2 : μ2.1 137 = some (ce_I 200 (fun j => nI (tb j))) := (hc2.2.2 137 (by omega)).trans hk1
      have i2 := tl_in r2
      have c2 : s2 19 = nI e := (hc2.2.1 19 (by decide)).trans c1
      have v2 : s2 25 = nuS tb x y := (hc2.2.1 25 (by decide)).trans rfl
      refine x_if_ne c_Md_readSign_38 (fun _ => ?_) (fun h => absurd h (by decide))
      refine x_al c_Md_readSign_43 rfl ?_
      refine x_al c_Md_readSign_44 rfl ?_
      refine x_getE c_Md_readSign_45 (by first | rfl | exact hc2.1 | exact hk2) rfl (by first | exact c2 | exact b2 | exact d2 | rfl) ?_
      refine x_putM c_Md_readSign_48 (by first | rfl | exact hc2.1 | exact hk2) ⟨by decide, rfl, rfl⟩ rfl ?_
      refine x_al c_Md_readSign_51 rfl ?_
      refine x_al c_Md_readSign_52 rfl ?_
      refine x_getE c_Md_readSign_53 (by first | rfl | exact hc2.1 | exact hk2) rfl (by first | exact c2 | exact b2 | exact d2 | rfl) ?_
      refine x_putM c_Md_readSign_56 (by first | rfl | exact hc2.1 | exact hk2) ⟨by decide, rfl, rfl⟩ rfl ?_
      refine x_al c_Md_readSign_59 rfl ?_
      refine x_al c_Md_readSign_60 rfl ?_
      refine x_getE c_Md_readSign_61 (by first | rfl | exact hc2.1 | exact hk2) rfl (by first | exact c2 | exact b2 | exact d2 | rfl) ?_
      refine x_al c_Md_readSign_64 rfl ?_
      refine x_getE c_Md_readSign_65 (by first | rfl | exact hc2.1 | exact hk2) rfl (by first | exact c2 | exact b2 | exact d2 | rfl) ?_
      refine x_ci c_Md_readSign_68 ?_
      refine x_cv3z _ c_Md_readSign_71 (by first | rfl | exact hc2.1 | exact hk2) (Nat.le_of_ble_eq_true rfl) (y_Md_tagged (d := d + 1) (μ := kc_u (kc_u μ2 136 _) 136 _) (s := upd (upd s2 23 _) 24 _) kc_gs (by exact hk2) htb (p := y2) (e := e) (by omega) (by omega) (t := 128) (by omega)) ?_
      rintro v μ3 ⟨s3, hc3, ⟨x3, y3, r3, rfl, a3, b3, d3⟩ | ⟨r3, rfl⟩⟩
      · show kc_X _ _ _ _ _ [.int (bI true)] _ _
        have i3 := tl_in r3
        have c3 : s3 19 = nI e := (hc3.2.1 19 (by decide)).trans c2
        refine x_if_ne c_Md_readSign_74 (fun _ => ?_) (fun h => absurd h (by decide))
        refine x_al c_Md_readSign_79 rfl ?_
        refine x_al c_Md_readSign_80 rfl ?_
        refine x_getE c_Md_readSign_81 (by first | rfl | exact hc3.1) rfl (by first | exact c3 | exact b3 | exact d3 | rfl) ?_
        refine x_putM c_Md_readSign_84 (by first | rfl | exact hc3.1) ⟨by decide, rfl, rfl⟩ rfl ?_
        refine x_al c_Md_readSign_87 rfl ?_
        refine x_al c_Md_readSign_88 rfl ?_
        refine x_getE c_Md_readSign_89 (by first | rfl | exact hc3.1) rfl (by first | exact c3 | exact b3 | exact d3 | rfl) ?_
        refine x_putM c_Md_readSign_92 (by first | rfl | exact hc3.1) ⟨by decide, rfl, rfl⟩ rfl ?_
        refine x_al c_Md_readSign_95 rfl ?_
        refine x_getE c_Md_readSign_96 (by first | rfl | exact hc3.1) rfl (by first | exact c3 | exact b3 | exact d3 | rfl) ?_
        refine x_al c_Md_readSign_99 rfl ?_
        refine x_getE c_Md_readSign_100 (by first | rfl | exact hc3.1) rfl (by first | exact c3 | exact b3 | exact d3 | rfl) ?_
        first | refine x_cmN_ne c_Md_readSign_103 (by omega) (by omega) (fun h103 => ?_) (fun h103 => ?_) | refine x_cm_ne c_Md_readSign_103 (fun h103 => ?_) (fun h103 => ?_)
        · refine x_ci c_Md_readSign_110 ?_
          refine x_rz c_Md_readSign_111 (by first | decide | exact kz_n _) ?_
          first | exact ⟨_, ((((hc1.K.put (by decide)).to hc2.K).put (by decide)).put (by decide)).to ((hc3.K.put (by decide)).put (by decide)), Or.inl ⟨_, _, _, _, _, by unfold sgP; rw [r1]; dsimp only; rw [r2]; dsimp only; rw [r3]; dsimp only; rw [if_pos h103], rfl, (hc3.2.1 25 (by decide)).trans v2, (hc3.2.1 23 (by decide)).trans rfl, (hc3.2.1 24 (by decide)).trans rfl, rfl, rfl, i2.2.1, i2.2.2, i3.2.1, i3.2.2⟩⟩ | exact ⟨_, ((((hc1.K.put (by decide)).to hc2.K).put (by decide)).put (by decide)).to ((hc3.K.put (by decide)).put (by decide)), Or.inr ⟨by unfold sgP; rw [r1]; dsimp only; rw [r2]; dsimp only; rw [r3]; dsimp only; rw [if_neg h103], rfl⟩⟩
        · refine x_ci c_Md_readSign_106 ?_
          refine x_goto c_Md_readSign_107 ?_
          refine x_rz c_Md_readSign_111 (by first | decide | exact kz_n _) ?_
          first | exact ⟨_, ((((hc1.K.put (by decide)).to hc2.K).put (by decide)).put (by decide)).to ((hc3.K.put (by decide)).put (by decide)), Or.inl ⟨_, _, _, _, _, by unfold sgP; rw [r1]; dsimp only; rw [r2]; dsimp only; rw [r3]; dsimp only; rw [if_pos h103], rfl, (hc3.2.1 25 (by decide)).trans v2, (hc3.2.1 23 (by decide)).trans rfl, (hc3.2.1 24 (by decide)).trans rfl, rfl, rfl, i2.2.1, i2.2.2, i3.2.1, i3.2.2⟩⟩ | exact ⟨_, ((((hc1.K.put (by decide)).to hc2.K).put (by decide)).put (by decide)).to ((hc3.K.put (by decide)).put (by decide)), Or.inr ⟨by unfold sgP; rw [r1]; dsimp only; rw [r2]; dsimp only; rw [r3]; dsimp only; rw [if_neg h103], rfl⟩⟩
      · show kc_X _ _ _ _ _ [.int (bI false)] _ _
        refine x_if_ne c_Md_readSign_74 (fun h => absurd (rfl) h) (fun _ => ?_)
        refine x_ci c_Md_readSign_77 ?_
        refine x_rz c_Md_readSign_78 (by first | decide | exact kz_n _) ?_
        exact ⟨_, ((((hc1.K.put (by decide)).to hc2.K).put (by decide)).put (by decide)).to hc3.K, Or.inr ⟨by unfold sgP; rw [r1]; dsimp only; rw [r2]; dsimp only; rw [r3], rfl⟩⟩
    · show kc_X _ _ _ _ _ [.int (bI false)] _ _
      refine x_if_ne c_Md_readSign_38 (fun h => absurd (rfl) h) (fun _ => ?_)
      refine x_ci c_Md_readSign_41 ?_
      refine x_rz c_Md_readSign_42 (by first | decide | exact kz_n _) ?_
      exact ⟨_, (hc1.K.put (by decide)).to hc2.K, Or.inr ⟨by unfold sgP; rw [r1]; dsimp only; rw [r2], rfl⟩⟩
  · show kc_X _ _ _ _ _ [.int (bI false)] _ _
    refine x_if_ne c_Md_readSign_12 (fun h => absurd (rfl) h) (fun _ => ?_)
    refine x_ci c_Md_readSign_15 ?_
    refine x_rz c_Md_readSign_16 (by first | decide | exact kz_n _) ?_
    exact ⟨_, hc1.K, Or.inr ⟨by unfold sgP; rw [r1], rfl⟩⟩
/-- what a signing on changes: signed, and the name -/
def mS (μ μ' : kc_M) (s s' : Nat → Int32) : Prop := μ'.1 136 = some (ce_Md s') ∧ (∀ i, i ≠ 1 → i ≠ 20 → s' i = s i) ∧ (∀ q, q ≠ 136 → q ≠ 145 → q ≠ 146 → μ'.1 q = μ.1 q) ∧ ∃ l, mN μ' s' l
/-- is p among the first k pairs of l? -/
def ink (p : tv) (l : List tv) (k : Nat) : Bool := decide (p ∈ l.take k)
theorem ink_s {p : tv} {l : List tv} {k : Nat} {q : tv} (h : l[k]? = some q) : ink p l (k + 1) = (ink p l k || decide (q = p)) := by
  unfold ink
  obtain ⟨hk, rfl⟩ := List.getElem?_eq_some_iff.mp h
  rw [List.take_succ_eq_append_getElem hk, ← Bool.decide_or]
  congr 1
  simp only [List.mem_append, List.mem_singleton, eq_iff_iff]
  exact ⟨fun h => h.imp_right Eq.symm, fun h => h.imp_right Eq.symm⟩
theorem ink_all {p : tv} {l : List tv} {k : Nat} (h : l.length ≤ k) : ink p l k = decide (p ∈ l) := by
  unfold ink
  rw [List.take_of_length_le h]
theorem sgD_2 {tb : Nat → Nat} {n : Nat} {nm pr : Nat → List tv} {so : Bool} {v : Int32} {o : Option (List tv)} {x y : Nat} (h : ¬ v = nI 3) : sgD tb n nm pr so v o x y true = (2, false) := by
  unfold sgD sgK
  rw [if_pos rfl, if_neg h]; rfl
theorem sgD_3 {tb : Nat → Nat} {n : Nat} {nm pr : Nat → List tv} {so : Bool} {v : Int32} {o : Option (List tv)} {x y : Nat} (h : v = nI 3) {k : Nat} (hk : pwC tb n nm pr o x y = k) : sgD tb n nm pr so v o x y true = (k, decide (k = 0) && nz o) := by
  unfold sgD sgK
  rw [if_pos rfl, if_pos h, hk]
theorem if_i {a b : Nat} (h : a = b) (x y : Nat) : (if a = b then x else y) = x := if_pos h
set_option maxRecDepth 100000 in
set_option maxHeartbeats 4000000 in
theorem y_Md_sign (d : Nat) {μ : kc_M} {s : Nat → Int32} {tb : Nat → Nat} (h0 : μ.1 136 = some (ce_Md s)) (h1 : μ.1 137 = some (ce_I 200 (fun j => nI (tb j)))) (htb : ∀ j, tb j < 256) {ou : Nat → Int32} {n : Nat} {nm pr : Nat → List tv} (hE : mE μ tb ou n nm pr) (hs6 : s 6 = nI n) (hv : ∀ e, e < n → ∀ p ∈ pr e, 0 ≤ p.2) (m1 : ∃ f, μ.1 145 = some (ce_I 4 f)) (m2 : ∃ f, μ.1 146 = some (ce_L 4 f)) (hN : ∃ l, mN μ s l) (so : Bool) {u : Int32} {x2 y2 x3 y3 : Nat} (hs25 : s 25 = u) (hs23 : s 23 = nI x2) (hs24 : s 24 = nI y2) (hs26 : s 26 = nI x3) (hs27 : s 27 = nI y3) (h22 : x2 ≤ y2) (hy2 : y2 ≤ 200) (h33 : x3 ≤ y3) (hy3 : y3 ≤ 200) : kc_Y kt kC (d + 4) j_Md_sign [.ref 136] μ (fun v μ' => v = some (.int (nI (sgD tb n nm pr so u (nmS tb x2 y2) x3 y3 true).1)) ∧ ∃ s', mS μ μ' s s' ∧ s' 1 = bI (sgD tb n nm pr so u (nmS tb x2 y2) x3 y3 true).2) := by
  refine ⟨Nat.le_of_ble_eq_true rfl, ?_⟩
  have rest : ∀ (l : List tv) (μ1 : kc_M) (s1 : Nat → Int32), nmS tb x2 y2 = some l → 0 < l.length → mnC (kc_u μ 136 (ce_Md (upd s 1 (nI 0)))) μ1 (upd s 1 (nI 0)) s1 l → s1 26 = nI x3 → s1 27 = nI y3 → s1 6 = nI n → μ1.1 137 = some (ce_I 200 (fun j => nI (tb j))) → mE μ1 tb ou n nm pr → ∀ bb : Int32, (bb = nI 1 ∧ x3 = y3 ∨ bb = nI 0 ∧ ¬ x3 = y3) → u = nI 3 → kc_X (kC j_Md_sign) (kc_Y kt kC (d + 3)) (fun v μ' => v = some (.int (nI (sgD tb n nm pr so u (nmS tb x2 y2) x3 y3 true).1)) ∧ ∃ s', mS μ μ' s s' ∧ s' 1 = bI (sgD tb n nm pr so u (nmS tb x2 y2) x3 y3 true).2) 67 [some (.ref 136), some (.int (nI 1)), some (.int bb), none, none, none, none, none] [] μ1 (0, 0) := by
    intro l μ1 s1 ho hl1 hc w3 w4 w6 k1 hE1 bb hbb hu
    have hne : ¬ l.length = 0 := by omega
    have hl4 : l.length ≤ 4 := hc.2.2.2.2.1
    rcases hbb with ⟨rfl, hw⟩ | ⟨rfl, hw⟩
    · skip
      refine x_il c_Md_sign_67 rfl ?_
      refine x_if_eq c_Md_sign_68 (fun h => absurd h (by decide)) (fun _ => ?_)
      refine x_ci c_Md_sign_71 ?_
      refine x_ri c_Md_sign_73 ?_
      exact ⟨by rw [sgD_3 hu (k := 53) (by rw [ho]; unfold pwC; dsimp only; rw [if_neg hne, if_pos hw])], _, ⟨hc.1, fun i i1 i2 => (hc.2.1 i i2).trans (if_neg i1), fun q q1 q2 q3 => (hc.2.2.1 q q1 q2 q3).trans (kc_gf q1), _, hc.2.2.2⟩, by rw [sgD_3 hu (k := 53) (by rw [ho]; unfold pwC; dsimp only; rw [if_neg hne, if_pos hw]), ho]; exact (hc.2.1 1 (by decide)).trans rfl⟩
    · cases hfd : fd nm l n 0 with
      | none =>
        have hpw : sgD tb n nm pr so u (nmS tb x2 y2) x3 y3 true = (49, false) := sgD_3 hu (k := 49) (by rw [ho]; unfold pwC; dsimp only; rw [if_neg hne, if_neg hw, hfd])
        refine x_il c_Md_sign_67 rfl ?_
        refine x_if_eq c_Md_sign_68 (fun _ => ?_) (fun h => absurd (rfl) h)
        refine x_al c_Md_sign_74 rfl ?_
        refine x_ci c_Md_sign_75 ?_
        refine x_cv1z _ c_Md_sign_76 (by first | rfl | exact hc.1) (Nat.le_of_ble_eq_true rfl) (y_Md_find (d + 1) hc.1 hE1 w6 hc.2.2.2 (k := 0) (by omega)) ?_
        rintro _ μx ⟨rfl, hμx⟩
        have hμx := hμx.symm
        subst hμx
        show kc_X _ _ _ _ _ [.int (oI (fd nm l n 0))] _ _
        rw [hfd]
        show kc_X _ _ _ _ _ [.int (-1)] _ _
        refine x_is [_, _, _, _, _, _, _, _] c_Md_sign_79 rfl ?_
        refine x_al c_Md_sign_80 rfl ?_
        refine x_al c_Md_sign_81 rfl ?_
        refine x_getE c_Md_sign_82 (by first | rfl | exact hc.1) rfl (by first | exact w3 | exact w4 | rfl) ?_
        refine x_al c_Md_sign_85 rfl ?_
        refine x_getE c_Md_sign_86 (by first | rfl | exact hc.1) rfl (by first | exact w3 | exact w4 | rfl) ?_
        refine x_cv2z _ c_Md_sign_89 (by first | rfl | exact hc.1) (Nat.le_of_ble_eq_true rfl) (y_Md_valueIn (d + 1) hc.1 k1 htb (p := x3) (e := y3) (by omega) (by omega)) ?_
        rintro _ μx ⟨rfl, hμx⟩
        have hμx := hμx.symm
        subst hμx
        show kc_X _ _ _ _ _ [.long (vlS tb x3 y3)] _ _
        refine x_ls [_, _, _, _, _, _, _, _] c_Md_sign_92 rfl ?_
        refine x_ci c_Md_sign_94 ?_
        refine x_is [_, _, _, _, _, _, _, _] c_Md_sign_95 rfl ?_
        refine x_ci c_Md_sign_97 ?_
        refine x_is [_, _, _, _, _, _, _, _] c_Md_sign_98 rfl ?_
        refine x_il c_Md_sign_100 rfl ?_
        refine x_if_lt c_Md_sign_101 (fun _ => ?_) (fun h => absurd (by decide) h)
        refine x_al c_Md_sign_177 rfl ?_
        refine x_il c_Md_sign_178 rfl ?_
        refine x_putM c_Md_sign_180 (by first | rfl | exact hc.1) ⟨by decide, by first | decide | exact kz_n _, by first | decide | exact kz_f _⟩ rfl ?_
        refine x_il c_Md_sign_183 rfl ?_
        refine x_if_eq c_Md_sign_185 (fun _ => ?_) (fun h => absurd (rfl) h)
        refine x_ci c_Md_sign_192 ?_
        refine x_ri c_Md_sign_194 ?_
        exact ⟨by rw [hpw], _, ⟨kc_gs, fun i i1 i2 => (if_neg i1).trans ((hc.2.1 i i2).trans (if_neg i1)), fun q q1 q2 q3 => (kc_gf q1).trans ((hc.2.2.1 q q1 q2 q3).trans (kc_gf q1)), _, mN_k hc.2.2.2 rfl rfl rfl⟩, by rw [hpw]; rfl⟩
      | some i =>
        have hfi := fd_in hfd
        have hpw : sgD tb n nm pr so u (nmS tb x2 y2) x3 y3 true = (if (nI 102, vlS tb x3 y3) ∈ pr i then 0 else 49, decide ((nI 102, vlS tb x3 y3) ∈ pr i)) := by
          rw [sgD_3 hu (k := if (nI 102, vlS tb x3 y3) ∈ pr i then 0 else 49) (by rw [ho]; unfold pwC; dsimp only; rw [if_neg hne, if_neg hw, hfd])]
          congr 1
          by_cases hm : (nI 102, vlS tb x3 y3) ∈ pr i
          · rw [if_pos hm, ho, an_t rfl hl1, decide_eq_true hm]
          · rw [if_neg hm, an_f1 (by omega), decide_eq_false hm]
        have hvi := hv i (by omega)
        obtain ⟨pa, pt, pv, pn, qt, qv, ⟨r1, r2, r3, r4, r5, r6, r7, r8⟩, m2, hn16, hw'⟩ := id hE1
        have mm := m2 i (by omega)
        have hp6 := (hw' i (by omega)).2
        have loop : ∀ m k, (pr i).length - k = m → k ≤ (pr i).length → ∀ b, b = ink (nI 102, vlS tb x3 y3) (pr i) k → kc_X (kC j_Md_sign) (kc_Y kt kC (d + 3)) (fun v μ' => v = some (.int (nI (sgD tb n nm pr so u (nmS tb x2 y2) x3 y3 true).1)) ∧ ∃ s', mS μ μ' s s' ∧ s' 1 = bI (sgD tb n nm pr so u (nmS tb x2 y2) x3 y3 true).2) 100 [some (.ref 136), some (.int (nI 1)), some (.int (nI 0)), some (.int (nI i)), some (.long (vlS tb x3 y3)), none, some (.int (bI b)), some (.int (nI k))] [] μ1 (0, 0) := by
          intro m
          induction m with
          | zero =>
            intro k hm hk b hb0
            rw [ink_all (by omega)] at hb0
            refine x_il c_Md_sign_100 rfl ?_
            refine x_ifN_lt c_Md_sign_101 (by omega) (fun h => (by exfalso; omega)) (fun _ => ?_)
            refine x_il c_Md_sign_104 rfl ?_
            refine x_al c_Md_sign_106 rfl ?_
            refine x_get c_Md_sign_107 (by first | rfl | exact hc.1 | exact r6 | exact r7 | exact r8) rfl ?_
            refine x_il c_Md_sign_110 rfl ?_
            refine x_ialdE c_Md_sign_111 (by first | rfl | exact hc.1 | exact r6 | exact r7 | exact r8) (by omega) (by omega) (mm.2.2.1) ?_
            refine x_cmN_ge c_Md_sign_112 (by omega) (by omega) (fun _ => ?_) (fun h => (by exfalso; omega))
            refine x_al c_Md_sign_177 rfl ?_
            refine x_il c_Md_sign_178 rfl ?_
            refine x_putM c_Md_sign_180 (by first | rfl | exact hc.1 | exact r6 | exact r7 | exact r8) ⟨by decide, by first | decide | exact kz_n _, by first | decide | exact kz_f _⟩ rfl ?_
            refine x_il c_Md_sign_183 rfl ?_
            refine x_ifB_eq c_Md_sign_185 (fun h185 => ?_) (fun h185 => ?_)
            · refine x_ci c_Md_sign_192 ?_
              refine x_ri c_Md_sign_194 ?_
              first | exact ⟨by rw [hpw, if_pos (of_decide_eq_true (hb0.symm.trans h185))], _, ⟨kc_gs, fun i i1 i2 => (if_neg i1).trans ((hc.2.1 i i2).trans (if_neg i1)), fun q q1 q2 q3 => (kc_gf q1).trans ((hc.2.2.1 q q1 q2 q3).trans (kc_gf q1)), _, mN_k hc.2.2.2 rfl rfl rfl⟩, by rw [hpw, ← hb0]; rfl⟩ | exact ⟨by rw [hpw, if_neg (of_decide_eq_false (hb0.symm.trans h185))], _, ⟨kc_gs, fun i i1 i2 => (if_neg i1).trans ((hc.2.1 i i2).trans (if_neg i1)), fun q q1 q2 q3 => (kc_gf q1).trans ((hc.2.2.1 q q1 q2 q3).trans (kc_gf q1)), _, mN_k hc.2.2.2 rfl rfl rfl⟩, by rw [hpw, ← hb0]; rfl⟩
            · refine x_ci c_Md_sign_188 ?_
              refine x_goto c_Md_sign_189 ?_
              refine x_ri c_Md_sign_194 ?_
              first | exact ⟨by rw [hpw, if_pos (of_decide_eq_true (hb0.symm.trans h185))], _, ⟨kc_gs, fun i i1 i2 => (if_neg i1).trans ((hc.2.1 i i2).trans (if_neg i1)), fun q q1 q2 q3 => (kc_gf q1).trans ((hc.2.2.1 q q1 q2 q3).trans (kc_gf q1)), _, mN_k hc.2.2.2 rfl rfl rfl⟩, by rw [hpw, ← hb0]; rfl⟩ | exact ⟨by rw [hpw, if_neg (of_decide_eq_false (hb0.symm.trans h185))], _, ⟨kc_gs, fun i i1 i2 => (if_neg i1).trans ((hc.2.1 i i2).trans (if_neg i1)), fun q q1 q2 q3 => (kc_gf q1).trans ((hc.2.2.1 q q1 q2 q3).trans (kc_gf q1)), _, mN_k hc.2.2.2 rfl rfl rfl⟩, by rw [hpw, ← hb0]; rfl⟩
          | succ m ih =>
            intro k hm hk b hb0
            have hho := mm.2.2.2 k (by omega)
            dsimp only at hho
            have hpos : 0 ≤ qv (6 * i + k) := hvi _ (List.mem_of_getElem? hho)
            have hng : ¬ (0 : Int64) ≤ -1 := by decide
            refine x_il c_Md_sign_100 rfl ?_
            refine x_ifN_lt c_Md_sign_101 (by omega) (fun h => (by exfalso; omega)) (fun _ => ?_)
            refine x_il c_Md_sign_104 rfl ?_
            refine x_al c_Md_sign_106 rfl ?_
            refine x_get c_Md_sign_107 (by first | rfl | exact hc.1 | exact r6 | exact r7 | exact r8) rfl ?_
            refine x_il c_Md_sign_110 rfl ?_
            refine x_ialdE c_Md_sign_111 (by first | rfl | exact hc.1 | exact r6 | exact r7 | exact r8) (by omega) (by omega) (mm.2.2.1) ?_
            refine x_cmN_ge c_Md_sign_112 (by omega) (by omega) (fun h => (by exfalso; omega)) (fun _ => ?_)
            refine x_il c_Md_sign_115 rfl ?_
            refine x_ifB_ne c_Md_sign_117 (fun h117 => ?_) (fun h117 => ?_)
            · refine x_ci c_Md_sign_164 ?_
              refine x_goto c_Md_sign_165 ?_
              refine x_is [_, _, _, _, _, _, _, _] c_Md_sign_169 rfl ?_
              first | refine x_incN [_, _, _, _, _, _, _, _] c_Md_sign_171 rfl rfl ?_ | refine x_inc [_, _, _, _, _, _, _, _] c_Md_sign_171 rfl rfl ?_
              refine x_goto c_Md_sign_174 ?_
              first
                | exact ih (k + 1) (by omega) (by omega) true (by rw [ink_s hho, ← hb0, h117]; rfl)
                | exact ih (k + 1) (by omega) (by omega) true (by rw [ink_s hho, decide_eq_true (by rw [h143, h161])]; simp)
                | exact ih (k + 1) (by omega) (by omega) false (by rw [ink_s hho, ← hb0, h117, decide_eq_false (fun q => hng (by have e9 : qv (6 * i + k) = vlS tb x3 y3 := congrArg Prod.snd q; rw [h126] at e9; rw [← e9]; exact hpos))]; rfl)
                | exact ih (k + 1) (by omega) (by omega) false (by rw [ink_s hho, ← hb0, h117, decide_eq_false (fun q => h143 (congrArg Prod.fst q))]; rfl)
                | exact ih (k + 1) (by omega) (by omega) false (by rw [ink_s hho, ← hb0, h117, decide_eq_false (fun q => h161 (congrArg Prod.snd q))]; rfl)
            · refine x_ll c_Md_sign_120 rfl ?_
              refine x_cl c_Md_sign_122 ?_
              refine x_lcmp c_Md_sign_125 ?_
              refine x_ifL_eq c_Md_sign_126 (fun h126 => ?_) (fun h126 => ?_)
              · refine x_ci c_Md_sign_168 ?_
                refine x_is [_, _, _, _, _, _, _, _] c_Md_sign_169 rfl ?_
                first | refine x_incN [_, _, _, _, _, _, _, _] c_Md_sign_171 rfl rfl ?_ | refine x_inc [_, _, _, _, _, _, _, _] c_Md_sign_171 rfl rfl ?_
                refine x_goto c_Md_sign_174 ?_
                first
                  | exact ih (k + 1) (by omega) (by omega) true (by rw [ink_s hho, ← hb0, h117]; rfl)
                  | exact ih (k + 1) (by omega) (by omega) true (by rw [ink_s hho, decide_eq_true (by rw [h143, h161])]; simp)
                  | exact ih (k + 1) (by omega) (by omega) false (by rw [ink_s hho, ← hb0, h117, decide_eq_false (fun q => hng (by have e9 : qv (6 * i + k) = vlS tb x3 y3 := congrArg Prod.snd q; rw [h126] at e9; rw [← e9]; exact hpos))]; rfl)
                  | exact ih (k + 1) (by omega) (by omega) false (by rw [ink_s hho, ← hb0, h117, decide_eq_false (fun q => h143 (congrArg Prod.fst q))]; rfl)
                  | exact ih (k + 1) (by omega) (by omega) false (by rw [ink_s hho, ← hb0, h117, decide_eq_false (fun q => h161 (congrArg Prod.snd q))]; rfl)
              · refine x_al c_Md_sign_129 rfl ?_
                refine x_get c_Md_sign_130 (by first | rfl | exact hc.1 | exact r6 | exact r7 | exact r8) rfl ?_
                refine x_ci c_Md_sign_133 ?_
                refine x_il c_Md_sign_135 rfl ?_
                first | refine x_imulN c_Md_sign_136 ?_ | refine x_imul c_Md_sign_136 ?_
                refine x_il c_Md_sign_137 rfl ?_
                first | refine x_iaddN c_Md_sign_139 ?_ | refine x_iadd c_Md_sign_139 ?_
                refine x_ialdN c_Md_sign_140 (by first | rfl | exact hc.1 | exact r6 | exact r7 | exact r8) (by omega) (by omega) ?_
                refine x_ci c_Md_sign_141 ?_
                refine x_cm_ne c_Md_sign_143 (fun h143 => ?_) (fun h143 => ?_)
                · refine x_ci c_Md_sign_168 ?_
                  refine x_is [_, _, _, _, _, _, _, _] c_Md_sign_169 rfl ?_
                  first | refine x_incN [_, _, _, _, _, _, _, _] c_Md_sign_171 rfl rfl ?_ | refine x_inc [_, _, _, _, _, _, _, _] c_Md_sign_171 rfl rfl ?_
                  refine x_goto c_Md_sign_174 ?_
                  first
                    | exact ih (k + 1) (by omega) (by omega) true (by rw [ink_s hho, ← hb0, h117]; rfl)
                    | exact ih (k + 1) (by omega) (by omega) true (by rw [ink_s hho, decide_eq_true (by rw [h143, h161])]; simp)
                    | exact ih (k + 1) (by omega) (by omega) false (by rw [ink_s hho, ← hb0, h117, decide_eq_false (fun q => hng (by have e9 : qv (6 * i + k) = vlS tb x3 y3 := congrArg Prod.snd q; rw [h126] at e9; rw [← e9]; exact hpos))]; rfl)
                    | exact ih (k + 1) (by omega) (by omega) false (by rw [ink_s hho, ← hb0, h117, decide_eq_false (fun q => h143 (congrArg Prod.fst q))]; rfl)
                    | exact ih (k + 1) (by omega) (by omega) false (by rw [ink_s hho, ← hb0, h117, decide_eq_false (fun q => h161 (congrArg Prod.snd q))]; rfl)
                · refine x_al c_Md_sign_146 rfl ?_
                  refine x_get c_Md_sign_147 (by first | rfl | exact hc.1 | exact r6 | exact r7 | exact r8) rfl ?_
                  refine x_ci c_Md_sign_150 ?_
                  refine x_il c_Md_sign_152 rfl ?_
                  first | refine x_imulN c_Md_sign_153 ?_ | refine x_imul c_Md_sign_153 ?_
                  refine x_il c_Md_sign_154 rfl ?_
                  first | refine x_iaddN c_Md_sign_156 ?_ | refine x_iadd c_Md_sign_156 ?_
                  refine x_laldN c_Md_sign_157 (by first | rfl | exact hc.1 | exact r6 | exact r7 | exact r8) (by omega) (by omega) ?_
                  refine x_ll c_Md_sign_158 rfl ?_
                  refine x_lcmp c_Md_sign_160 ?_
                  refine x_ifL_ne c_Md_sign_161 (fun h161 => ?_) (fun h161 => ?_)
                  · refine x_ci c_Md_sign_168 ?_
                    refine x_is [_, _, _, _, _, _, _, _] c_Md_sign_169 rfl ?_
                    first | refine x_incN [_, _, _, _, _, _, _, _] c_Md_sign_171 rfl rfl ?_ | refine x_inc [_, _, _, _, _, _, _, _] c_Md_sign_171 rfl rfl ?_
                    refine x_goto c_Md_sign_174 ?_
                    first
                      | exact ih (k + 1) (by omega) (by omega) true (by rw [ink_s hho, ← hb0, h117]; rfl)
                      | exact ih (k + 1) (by omega) (by omega) true (by rw [ink_s hho, decide_eq_true (by rw [h143, h161])]; simp)
                      | exact ih (k + 1) (by omega) (by omega) false (by rw [ink_s hho, ← hb0, h117, decide_eq_false (fun q => hng (by have e9 : qv (6 * i + k) = vlS tb x3 y3 := congrArg Prod.snd q; rw [h126] at e9; rw [← e9]; exact hpos))]; rfl)
                      | exact ih (k + 1) (by omega) (by omega) false (by rw [ink_s hho, ← hb0, h117, decide_eq_false (fun q => h143 (congrArg Prod.fst q))]; rfl)
                      | exact ih (k + 1) (by omega) (by omega) false (by rw [ink_s hho, ← hb0, h117, decide_eq_false (fun q => h161 (congrArg Prod.snd q))]; rfl)
                  · refine x_ci c_Md_sign_164 ?_
                    refine x_goto c_Md_sign_165 ?_
                    refine x_is [_, _, _, _, _, _, _, _] c_Md_sign_169 rfl ?_
                    first | refine x_incN [_, _, _, _, _, _, _, _] c_Md_sign_171 rfl rfl ?_ | refine x_inc [_, _, _, _, _, _, _, _] c_Md_sign_171 rfl rfl ?_
                    refine x_goto c_Md_sign_174 ?_
                    first
                      | exact ih (k + 1) (by omega) (by omega) true (by rw [ink_s hho, ← hb0, h117]; rfl)
                      | exact ih (k + 1) (by omega) (by omega) true (by rw [ink_s hho, decide_eq_true (by rw [h143, h161])]; simp)
                      | exact ih (k + 1) (by omega) (by omega) false (by rw [ink_s hho, ← hb0, h117, decide_eq_false (fun q => hng (by have e9 : qv (6 * i + k) = vlS tb x3 y3 := congrArg Prod.snd q; rw [h126] at e9; rw [← e9]; exact hpos))]; rfl)
                      | exact ih (k + 1) (by omega) (by omega) false (by rw [ink_s hho, ← hb0, h117, decide_eq_false (fun q => h143 (congrArg Prod.fst q))]; rfl)
                      | exact ih (k + 1) (by omega) (by omega) false (by rw [ink_s hho, ← hb0, h117, decide_eq_false (fun q => h161 (congrArg Prod.snd q))]; rfl)
        refine x_il c_Md_sign_67 rfl ?_
        refine x_if_eq c_Md_sign_68 (fun _ => ?_) (fun h => absurd (rfl) h)
        refine x_al c_Md_sign_74 rfl ?_
        refine x_ci c_Md_sign_75 ?_
        refine x_cv1z _ c_Md_sign_76 (by first | rfl | exact hc.1) (Nat.le_of_ble_eq_true rfl) (y_Md_find (d + 1) hc.1 hE1 w6 hc.2.2.2 (k := 0) (by omega)) ?_
        rintro _ μx ⟨rfl, hμx⟩
        have hμx := hμx.symm
        subst hμx
        show kc_X _ _ _ _ _ [.int (oI (fd nm l n 0))] _ _
        rw [hfd]
        show kc_X _ _ _ _ _ [.int (nI i)] _ _
        refine x_is [_, _, _, _, _, _, _, _] c_Md_sign_79 rfl ?_
        refine x_al c_Md_sign_80 rfl ?_
        refine x_al c_Md_sign_81 rfl ?_
        refine x_getE c_Md_sign_82 (by first | rfl | exact hc.1) rfl (by first | exact w3 | exact w4 | rfl) ?_
        refine x_al c_Md_sign_85 rfl ?_
        refine x_getE c_Md_sign_86 (by first | rfl | exact hc.1) rfl (by first | exact w3 | exact w4 | rfl) ?_
        refine x_cv2z _ c_Md_sign_89 (by first | rfl | exact hc.1) (Nat.le_of_ble_eq_true rfl) (y_Md_valueIn (d + 1) hc.1 k1 htb (p := x3) (e := y3) (by omega) (by omega)) ?_
        rintro _ μx ⟨rfl, hμx⟩
        have hμx := hμx.symm
        subst hμx
        show kc_X _ _ _ _ _ [.long (vlS tb x3 y3)] _ _
        refine x_ls [_, _, _, _, _, _, _, _] c_Md_sign_92 rfl ?_
        refine x_ci c_Md_sign_94 ?_
        refine x_is [_, _, _, _, _, _, _, _] c_Md_sign_95 rfl ?_
        refine x_ci c_Md_sign_97 ?_
        refine x_is [_, _, _, _, _, _, _, _] c_Md_sign_98 rfl ?_
        exact loop _ 0 rfl (by omega) false rfl
  by_cases hu : u = nI 3
  · by_cases hxy : x2 = y2
    · skip
      refine x_al c_Md_sign_0 rfl ?_
      refine x_ci c_Md_sign_1 ?_
      refine x_putM c_Md_sign_2 (by first | rfl | exact h0) ⟨by decide, by first | decide | exact kz_n _, by first | decide | exact kz_f _⟩ rfl ?_
      refine x_al c_Md_sign_5 rfl ?_
      refine x_getE c_Md_sign_6 (by first | rfl | exact h0) rfl (by first | exact hs25 | exact hs23 | exact hs24 | rfl) ?_
      refine x_ci c_Md_sign_9 ?_
      refine x_cm_eq c_Md_sign_10 (fun _ => ?_) (fun h => absurd (hu) h)
      refine x_al c_Md_sign_15 rfl ?_
      refine x_al c_Md_sign_16 rfl ?_
      refine x_getE c_Md_sign_17 (by first | rfl | exact h0) rfl (by first | exact hs25 | exact hs23 | exact hs24 | rfl) ?_
      refine x_al c_Md_sign_20 rfl ?_
      refine x_getE c_Md_sign_21 (by first | rfl | exact h0) rfl (by first | exact hs25 | exact hs23 | exact hs24 | rfl) ?_
      refine x_cv2z _ c_Md_sign_24 (by first | rfl | exact h0) (Nat.le_of_ble_eq_true rfl) (y_Md_takeName d (μ := kc_u μ 136 _) (s := upd s 1 _) kc_gs h1 htb m1 m2 (a := x2) (e := y2) (by omega) (by omega)) ?_
      rintro v μ1 ⟨s1, l, hc, ⟨ho, rfl⟩ | ⟨ho, rfl⟩⟩
      · have hl0 : l = [] := by subst hxy; unfold nmS at ho; rw [if_pos rfl] at ho; cases ho; rfl
        subst hl0
        rw [if_pos hxy]
        show kc_X _ _ _ _ _ [.int (nI 0)] _ _
        have w3 : s1 26 = nI x3 := (hc.2.1 26 (by decide)).trans hs26
        have w4 : s1 27 = nI y3 := (hc.2.1 27 (by decide)).trans hs27
        have w6 : s1 6 = nI n := (hc.2.1 6 (by decide)).trans hs6
        have k1 : μ1.1 137 = some (ce_I 200 (fun j => nI (tb j))) := (hc.2.2.1 137 (by decide) (by decide) (by decide)).trans h1
        have hE1 : mE μ1 tb ou n nm pr := mE_k hE (fun q h1 h2 => (hc.2.2.1 q (by omega) (by omega) (by omega)).trans (kc_gf (by omega)))
        refine x_is [_, _, _, _, _, _, _, _] c_Md_sign_27 rfl ?_
        refine x_il c_Md_sign_28 rfl ?_
        refine x_ifN_ge c_Md_sign_29 (by omega) (fun _ => ?_) (fun h => (by exfalso; omega))
        refine x_al c_Md_sign_35 rfl ?_
        refine x_getE c_Md_sign_36 (by first | rfl | exact hc.1) rfl (by first | exact w3 | exact w4 | rfl) ?_
        refine x_al c_Md_sign_39 rfl ?_
        refine x_getE c_Md_sign_40 (by first | rfl | exact hc.1) rfl (by first | exact w3 | exact w4 | rfl) ?_
        first | refine x_cmN_ne c_Md_sign_43 (by omega) (by omega) (fun h43 => ?_) (fun h43 => ?_) | refine x_cm_ne c_Md_sign_43 (fun h43 => ?_) (fun h43 => ?_)
        · refine x_ci c_Md_sign_50 ?_
          refine x_is [_, _, _, _, _, _, _, _] c_Md_sign_51 rfl ?_
          refine x_il c_Md_sign_52 rfl ?_
          refine x_ifN_ne c_Md_sign_53 (by omega) (fun h => (by exfalso; omega)) (fun _ => ?_)
          refine x_il c_Md_sign_56 rfl ?_
          first | refine x_ifB_eq c_Md_sign_57 (fun h57 => ?_) (fun h57 => ?_) | refine x_ifN_eq c_Md_sign_57 (by omega) (fun h57 => ?_) (fun h57 => ?_) | refine x_if_eq c_Md_sign_57 (fun h57 => ?_) (fun h57 => ?_)
          · refine x_ci c_Md_sign_64 ?_
            refine x_ri c_Md_sign_66 ?_
            first | exact absurd h57 (by decide) | exact absurd rfl h57 | exact ⟨by rw [sgD_3 hu (k := 0) (by rw [ho]; unfold pwC; dsimp only; rw [if_pos (show ([] : List tv).length = 0 from rfl), if_pos h43])], _, ⟨hc.1, fun i i1 i2 => (hc.2.1 i i2).trans (if_neg i1), fun q q1 q2 q3 => (hc.2.2.1 q q1 q2 q3).trans (kc_gf q1), _, hc.2.2.2⟩, by rw [sgD_3 hu (k := 0) (by rw [ho]; unfold pwC; dsimp only; rw [if_pos (show ([] : List tv).length = 0 from rfl), if_pos h43]), ho]; exact (hc.2.1 1 (by decide)).trans rfl⟩ | exact ⟨by rw [sgD_3 hu (k := 49) (by rw [ho]; unfold pwC; dsimp only; rw [if_pos (show ([] : List tv).length = 0 from rfl), if_neg h43])], _, ⟨hc.1, fun i i1 i2 => (hc.2.1 i i2).trans (if_neg i1), fun q q1 q2 q3 => (hc.2.2.1 q q1 q2 q3).trans (kc_gf q1), _, hc.2.2.2⟩, by rw [sgD_3 hu (k := 49) (by rw [ho]; unfold pwC; dsimp only; rw [if_pos (show ([] : List tv).length = 0 from rfl), if_neg h43]), ho]; exact (hc.2.1 1 (by decide)).trans rfl⟩
          · refine x_ci c_Md_sign_60 ?_
            refine x_goto c_Md_sign_61 ?_
            refine x_ri c_Md_sign_66 ?_
            first | exact absurd h57 (by decide) | exact absurd rfl h57 | exact ⟨by rw [sgD_3 hu (k := 0) (by rw [ho]; unfold pwC; dsimp only; rw [if_pos (show ([] : List tv).length = 0 from rfl), if_pos h43])], _, ⟨hc.1, fun i i1 i2 => (hc.2.1 i i2).trans (if_neg i1), fun q q1 q2 q3 => (hc.2.2.1 q q1 q2 q3).trans (kc_gf q1), _, hc.2.2.2⟩, by rw [sgD_3 hu (k := 0) (by rw [ho]; unfold pwC; dsimp only; rw [if_pos (show ([] : List tv).length = 0 from rfl), if_pos h43]), ho]; exact (hc.2.1 1 (by decide)).trans rfl⟩ | exact ⟨by rw [sgD_3 hu (k := 49) (by rw [ho]; unfold pwC; dsimp only; rw [if_pos (show ([] : List tv).length = 0 from rfl), if_neg h43])], _, ⟨hc.1, fun i i1 i2 => (hc.2.1 i i2).trans (if_neg i1), fun q q1 q2 q3 => (hc.2.2.1 q q1 q2 q3).trans (kc_gf q1), _, hc.2.2.2⟩, by rw [sgD_3 hu (k := 49) (by rw [ho]; unfold pwC; dsimp only; rw [if_pos (show ([] : List tv).length = 0 from rfl), if_neg h43]), ho]; exact (hc.2.1 1 (by decide)).trans rfl⟩
        · refine x_ci c_Md_sign_46 ?_
          refine x_goto c_Md_sign_47 ?_
          refine x_is [_, _, _, _, _, _, _, _] c_Md_sign_51 rfl ?_
          refine x_il c_Md_sign_52 rfl ?_
          refine x_ifN_ne c_Md_sign_53 (by omega) (fun h => (by exfalso; omega)) (fun _ => ?_)
          refine x_il c_Md_sign_56 rfl ?_
          first | refine x_ifB_eq c_Md_sign_57 (fun h57 => ?_) (fun h57 => ?_) | refine x_ifN_eq c_Md_sign_57 (by omega) (fun h57 => ?_) (fun h57 => ?_) | refine x_if_eq c_Md_sign_57 (fun h57 => ?_) (fun h57 => ?_)
          · refine x_ci c_Md_sign_64 ?_
            refine x_ri c_Md_sign_66 ?_
            first | exact absurd h57 (by decide) | exact absurd rfl h57 | exact ⟨by rw [sgD_3 hu (k := 0) (by rw [ho]; unfold pwC; dsimp only; rw [if_pos (show ([] : List tv).length = 0 from rfl), if_pos h43])], _, ⟨hc.1, fun i i1 i2 => (hc.2.1 i i2).trans (if_neg i1), fun q q1 q2 q3 => (hc.2.2.1 q q1 q2 q3).trans (kc_gf q1), _, hc.2.2.2⟩, by rw [sgD_3 hu (k := 0) (by rw [ho]; unfold pwC; dsimp only; rw [if_pos (show ([] : List tv).length = 0 from rfl), if_pos h43]), ho]; exact (hc.2.1 1 (by decide)).trans rfl⟩ | exact ⟨by rw [sgD_3 hu (k := 49) (by rw [ho]; unfold pwC; dsimp only; rw [if_pos (show ([] : List tv).length = 0 from rfl), if_neg h43])], _, ⟨hc.1, fun i i1 i2 => (hc.2.1 i i2).trans (if_neg i1), fun q q1 q2 q3 => (hc.2.2.1 q q1 q2 q3).trans (kc_gf q1), _, hc.2.2.2⟩, by rw [sgD_3 hu (k := 49) (by rw [ho]; unfold pwC; dsimp only; rw [if_pos (show ([] : List tv).length = 0 from rfl), if_neg h43]), ho]; exact (hc.2.1 1 (by decide)).trans rfl⟩
          · refine x_ci c_Md_sign_60 ?_
            refine x_goto c_Md_sign_61 ?_
            refine x_ri c_Md_sign_66 ?_
            first | exact absurd h57 (by decide) | exact absurd rfl h57 | exact ⟨by rw [sgD_3 hu (k := 0) (by rw [ho]; unfold pwC; dsimp only; rw [if_pos (show ([] : List tv).length = 0 from rfl), if_pos h43])], _, ⟨hc.1, fun i i1 i2 => (hc.2.1 i i2).trans (if_neg i1), fun q q1 q2 q3 => (hc.2.2.1 q q1 q2 q3).trans (kc_gf q1), _, hc.2.2.2⟩, by rw [sgD_3 hu (k := 0) (by rw [ho]; unfold pwC; dsimp only; rw [if_pos (show ([] : List tv).length = 0 from rfl), if_pos h43]), ho]; exact (hc.2.1 1 (by decide)).trans rfl⟩ | exact ⟨by rw [sgD_3 hu (k := 49) (by rw [ho]; unfold pwC; dsimp only; rw [if_pos (show ([] : List tv).length = 0 from rfl), if_neg h43])], _, ⟨hc.1, fun i i1 i2 => (hc.2.1 i i2).trans (if_neg i1), fun q q1 q2 q3 => (hc.2.2.1 q q1 q2 q3).trans (kc_gf q1), _, hc.2.2.2⟩, by rw [sgD_3 hu (k := 49) (by rw [ho]; unfold pwC; dsimp only; rw [if_pos (show ([] : List tv).length = 0 from rfl), if_neg h43]), ho]; exact (hc.2.1 1 (by decide)).trans rfl⟩
      · show kc_X _ _ _ _ _ [.int (-1)] _ _
        refine x_is [_, _, _, _, _, _, _, _] c_Md_sign_27 rfl ?_
        refine x_il c_Md_sign_28 rfl ?_
        refine x_if_ge c_Md_sign_29 (fun h => absurd h (by decide)) (fun _ => ?_)
        refine x_ci c_Md_sign_32 ?_
        refine x_ri c_Md_sign_34 ?_
        exact ⟨by rw [sgD_3 hu (k := 34) (by rw [ho]; rfl)], _, ⟨hc.1, fun i i1 i2 => (hc.2.1 i i2).trans (if_neg i1), fun q q1 q2 q3 => (hc.2.2.1 q q1 q2 q3).trans (kc_gf q1), _, hc.2.2.2⟩, by rw [sgD_3 hu (k := 34) (by rw [ho]; rfl), ho]; exact (hc.2.1 1 (by decide)).trans rfl⟩
    · skip
      refine x_al c_Md_sign_0 rfl ?_
      refine x_ci c_Md_sign_1 ?_
      refine x_putM c_Md_sign_2 (by first | rfl | exact h0) ⟨by decide, by first | decide | exact kz_n _, by first | decide | exact kz_f _⟩ rfl ?_
      refine x_al c_Md_sign_5 rfl ?_
      refine x_getE c_Md_sign_6 (by first | rfl | exact h0) rfl (by first | exact hs25 | exact hs23 | exact hs24 | rfl) ?_
      refine x_ci c_Md_sign_9 ?_
      refine x_cm_eq c_Md_sign_10 (fun _ => ?_) (fun h => absurd (hu) h)
      refine x_al c_Md_sign_15 rfl ?_
      refine x_al c_Md_sign_16 rfl ?_
      refine x_getE c_Md_sign_17 (by first | rfl | exact h0) rfl (by first | exact hs25 | exact hs23 | exact hs24 | rfl) ?_
      refine x_al c_Md_sign_20 rfl ?_
      refine x_getE c_Md_sign_21 (by first | rfl | exact h0) rfl (by first | exact hs25 | exact hs23 | exact hs24 | rfl) ?_
      refine x_cv2z _ c_Md_sign_24 (by first | rfl | exact h0) (Nat.le_of_ble_eq_true rfl) (y_Md_takeName d (μ := kc_u μ 136 _) (s := upd s 1 _) kc_gs h1 htb m1 m2 (a := x2) (e := y2) (by omega) (by omega)) ?_
      rintro v μ1 ⟨s1, l, hc, ⟨ho, rfl⟩ | ⟨ho, rfl⟩⟩
      · have hl1 : 0 < l.length := Nat.pos_of_ne_zero (fun q => hxy (nmS_nil (by rw [ho, List.length_eq_zero_iff.mp q])))
        rw [if_neg hxy]
        show kc_X _ _ _ _ _ [.int (nI 1)] _ _
        have w3 : s1 26 = nI x3 := (hc.2.1 26 (by decide)).trans hs26
        have w4 : s1 27 = nI y3 := (hc.2.1 27 (by decide)).trans hs27
        have w6 : s1 6 = nI n := (hc.2.1 6 (by decide)).trans hs6
        have k1 : μ1.1 137 = some (ce_I 200 (fun j => nI (tb j))) := (hc.2.2.1 137 (by decide) (by decide) (by decide)).trans h1
        have hE1 : mE μ1 tb ou n nm pr := mE_k hE (fun q h1 h2 => (hc.2.2.1 q (by omega) (by omega) (by omega)).trans (kc_gf (by omega)))
        refine x_is [_, _, _, _, _, _, _, _] c_Md_sign_27 rfl ?_
        refine x_il c_Md_sign_28 rfl ?_
        refine x_ifN_ge c_Md_sign_29 (by omega) (fun _ => ?_) (fun h => (by exfalso; omega))
        refine x_al c_Md_sign_35 rfl ?_
        refine x_getE c_Md_sign_36 (by first | rfl | exact hc.1) rfl (by first | exact w3 | exact w4 | rfl) ?_
        refine x_al c_Md_sign_39 rfl ?_
        refine x_getE c_Md_sign_40 (by first | rfl | exact hc.1) rfl (by first | exact w3 | exact w4 | rfl) ?_
        first | refine x_cmN_ne c_Md_sign_43 (by omega) (by omega) (fun h43 => ?_) (fun h43 => ?_) | refine x_cm_ne c_Md_sign_43 (fun h43 => ?_) (fun h43 => ?_)
        · refine x_ci c_Md_sign_50 ?_
          refine x_is [_, _, _, _, _, _, _, _] c_Md_sign_51 rfl ?_
          refine x_il c_Md_sign_52 rfl ?_
          refine x_ifN_ne c_Md_sign_53 (by omega) (fun _ => ?_) (fun h => (by exfalso; omega))
          exact rest _ _ _ ho hl1 hc w3 w4 w6 k1 hE1 _ (by first | exact Or.inl ⟨rfl, h43⟩ | exact Or.inr ⟨rfl, h43⟩) hu
        · refine x_ci c_Md_sign_46 ?_
          refine x_goto c_Md_sign_47 ?_
          refine x_is [_, _, _, _, _, _, _, _] c_Md_sign_51 rfl ?_
          refine x_il c_Md_sign_52 rfl ?_
          refine x_ifN_ne c_Md_sign_53 (by omega) (fun _ => ?_) (fun h => (by exfalso; omega))
          exact rest _ _ _ ho hl1 hc w3 w4 w6 k1 hE1 _ (by first | exact Or.inl ⟨rfl, h43⟩ | exact Or.inr ⟨rfl, h43⟩) hu
      · show kc_X _ _ _ _ _ [.int (-1)] _ _
        refine x_is [_, _, _, _, _, _, _, _] c_Md_sign_27 rfl ?_
        refine x_il c_Md_sign_28 rfl ?_
        refine x_if_ge c_Md_sign_29 (fun h => absurd h (by decide)) (fun _ => ?_)
        refine x_ci c_Md_sign_32 ?_
        refine x_ri c_Md_sign_34 ?_
        exact ⟨by rw [sgD_3 hu (k := 34) (by rw [ho]; rfl)], _, ⟨hc.1, fun i i1 i2 => (hc.2.1 i i2).trans (if_neg i1), fun q q1 q2 q3 => (hc.2.2.1 q q1 q2 q3).trans (kc_gf q1), _, hc.2.2.2⟩, by rw [sgD_3 hu (k := 34) (by rw [ho]; rfl), ho]; exact (hc.2.1 1 (by decide)).trans rfl⟩
  · skip
    refine x_al c_Md_sign_0 rfl ?_
    refine x_ci c_Md_sign_1 ?_
    refine x_putM c_Md_sign_2 (by first | rfl | exact h0) ⟨by decide, by first | decide | exact kz_n _, by first | decide | exact kz_f _⟩ rfl ?_
    refine x_al c_Md_sign_5 rfl ?_
    refine x_getE c_Md_sign_6 (by first | rfl | exact h0) rfl (by first | exact hs25 | rfl) ?_
    refine x_ci c_Md_sign_9 ?_
    refine x_cm_eq c_Md_sign_10 (fun h => absurd h (hu)) (fun _ => ?_)
    refine x_ci c_Md_sign_13 ?_
    refine x_ri c_Md_sign_14 ?_
    exact ⟨by rw [sgD_2 hu], _, ⟨kc_gs, fun i i1 i2 => if_neg i1, fun q q1 q2 q3 => kc_gf q1, hN.imp (fun l h => mN_k h rfl rfl rfl)⟩, by rw [sgD_2 hu]; rfl⟩
