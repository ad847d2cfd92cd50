/-! the pairs of calls but handle -/
theorem lo_not {lo : Bool} : (!lo) = (!lo) := rfl
theorem MI_s {μ : kc_M} {lo so : Bool} {tb : Nat → Nat} {sz : Nat} {w : Nat → Int32} {wn n : Nat} {nm pr : Nat → List tv} (h : MI μ lo so tb sz w wn n nm pr) : ∃ s, μ.1 136 = some (ce_Md s) := by
  obtain ⟨s, ou, pa, pt, pv, pn, qt, qv, a1, _⟩ := h
  exact ⟨s, a1⟩
theorem ms_k2 {μ μ' : kc_M} (h : ms_at μ) (hk : ∀ q, 145 ≤ q → μ'.1 q = μ.1 q) : ms_at μ' := by
  obtain ⟨⟨f1, h1⟩, ⟨f2, h2⟩, ⟨f3, h3⟩, ⟨f4, h4⟩, ⟨f5, h5⟩, ⟨f6, h6⟩, ⟨f7, h7⟩, ⟨f8, h8⟩, ⟨f9, h9⟩, ⟨f10, h10⟩, ⟨f11, h11⟩, ⟨f12, h12⟩, ⟨f13, h13⟩, ⟨f14, h14⟩, ⟨f15, h15⟩, ⟨f16, h16⟩⟩ := h
  exact ⟨⟨f1, (hk _ (by omega)).trans h1⟩, ⟨f2, (hk _ (by omega)).trans h2⟩, ⟨f3, (hk _ (by omega)).trans h3⟩, ⟨f4, (hk _ (by omega)).trans h4⟩, ⟨f5, (hk _ (by omega)).trans h5⟩, ⟨f6, (hk _ (by omega)).trans h6⟩, ⟨f7, (hk _ (by omega)).trans h7⟩, ⟨f8, (hk _ (by omega)).trans h8⟩, ⟨f9, (hk _ (by omega)).trans h9⟩, ⟨f10, (hk _ (by omega)).trans h10⟩, ⟨f11, (hk _ (by omega)).trans h11⟩, ⟨f12, (hk _ (by omega)).trans h12⟩, ⟨f13, (hk _ (by omega)).trans h13⟩, ⟨f14, (hk _ (by omega)).trans h14⟩, ⟨f15, (hk _ (by omega)).trans h15⟩, ⟨f16, (hk _ (by omega)).trans h16⟩⟩
/-- what holds behind the constructors is the invariant -/
theorem Inv_ini {μ : kc_M} (h : Ini μ) : Inv μ := by
  obtain ⟨h1, h2, h3, h4, h5, h6, ⟨pa, pt, pv, pn, qt, qv, h7, h8⟩, h9⟩ := h
  refine ⟨true, false, _, 0, _, 0, 1, _, _, _, ⟨h1, ⟨0, 0, false, 0, 0, 0, h2⟩, h3, h4, h5⟩, ⟨_, _, pa, pt, pv, pn, qt, qv, h6, rfl, rfl, rfl, rfl, rfl, h7, h8, h9, fun k hk => by omega, 0, by omega, rfl⟩, ⟨fun j => by show (0 : Nat) < 256; omega, by omega, by omega, by omega, ?_, ?_⟩⟩
  · intro e he
    have h0 : e = 0 := by omega
    subst h0
    refine ⟨by decide, by decide, ?_⟩
    intro p hp
    simp only [if_true, List.mem_cons, List.not_mem_nil, or_false] at hp
    rcases hp with rfl | rfl <;> decide
  · intro i j hi hj _
    omega
theorem o_answered : op_i Inv Inv j_Dk_answered j_Md_answered [] := by
  intro μ ⟨lo, so, tb, sz, w, wn, n, ad, nm, pr, hC, hM, hW⟩
  refine ⟨_, y_Dk_answered 39 hC.1 hC.2.2.1, ?_⟩
  rintro _ _ ⟨rfl, rfl⟩
  refine ⟨nI wn, rfl, MI_s hM, ?_⟩
  obtain ⟨s, ou, pa, pt, pv, pn, qt, qv, a1, a2, a3, a4, a5, a6, a7, a8, a9, a10⟩ := id hM
  refine ⟨_, y_Md_answered 39 a1 a5, ?_⟩
  rintro _ _ ⟨rfl, rfl⟩
  exact ⟨rfl, lo, so, tb, sz, w, wn, n, ad, nm, pr, hC, hM, hW⟩
theorem o_entries : op_i Inv Inv j_Dk_entries j_Md_entries [] := by
  intro μ ⟨lo, so, tb, sz, w, wn, n, ad, nm, pr, hC, hM, hW⟩
  refine ⟨_, y_Dk_entries 39 hC.1 hC.2.2.2.1.1, ?_⟩
  rintro _ _ ⟨rfl, rfl⟩
  refine ⟨nI n, rfl, MI_s hM, ?_⟩
  obtain ⟨s, ou, pa, pt, pv, pn, qt, qv, a1, a2, a3, a4, a5, a6, a7, a8, a9, a10⟩ := id hM
  refine ⟨_, y_Md_entries 39 a1 a6, ?_⟩
  rintro _ _ ⟨rfl, rfl⟩
  exact ⟨rfl, lo, so, tb, sz, w, wn, n, ad, nm, pr, hC, hM, hW⟩
theorem o_signed : op_i Inv Inv j_Dk_signed j_Md_signed [] := by
  intro μ ⟨lo, so, tb, sz, w, wn, n, ad, nm, pr, hC, hM, hW⟩
  refine ⟨_, y_Dk_signed 39 hC.1, ?_⟩
  rintro _ _ ⟨rfl, rfl⟩
  refine ⟨bI so, rfl, MI_s hM, ?_⟩
  obtain ⟨s, ou, pa, pt, pv, pn, qt, qv, a1, a2, a3, a4, a5, a6, a7, a8, a9, a10⟩ := id hM
  refine ⟨_, y_Md_signed 39 a1 a3, ?_⟩
  rintro _ _ ⟨rfl, rfl⟩
  exact ⟨rfl, lo, so, tb, sz, w, wn, n, ad, nm, pr, hC, hM, hW⟩
theorem o_open : op_i Inv Inv j_Dk_open j_Md_open [] := by
  intro μ ⟨lo, so, tb, sz, w, wn, n, ad, nm, pr, hC, hM, hW⟩
  refine ⟨_, y_Dk_open 39 hC.1, ?_⟩
  rintro _ _ ⟨rfl, rfl⟩
  refine ⟨bI lo, rfl, MI_s hM, ?_⟩
  obtain ⟨s, ou, pa, pt, pv, pn, qt, qv, a1, a2, a3, a4, a5, a6, a7, a8, a9, a10⟩ := id hM
  refine ⟨_, y_Md_open 39 a1 a2, ?_⟩
  rintro _ _ ⟨rfl, rfl⟩
  exact ⟨rfl, lo, so, tb, sz, w, wn, n, ad, nm, pr, hC, hM, hW⟩
theorem o_entry (e : Int32) : op_i Inv Inv j_Dk_entry j_Md_entry [.int e] := by
  intro μ ⟨lo, so, tb, sz, w, wn, n, ad, nm, pr, hC, hM, hW⟩
  obtain ⟨s, ou, pa, pt, pv, pn, qt, qv, a1, a2, a3, a4, a5, a6, a7, a8, a9, a10⟩ := id hM
  have hn : n ≤ 16 := hW.2.2.2.1
  have hpl : ∀ j, j < n → (pr j).length ≤ 6 := fun j hj => by obtain ⟨_, _, _, _, _, _, h⟩ := (hC.2.2.2.1.2.2.1 j (by omega)).2.2; exact h
  by_cases hb : e < 0 ∨ nI n ≤ e
  · skip
    refine ⟨_, y_Dk_entry0 39 hC.1 hC.2.2.2.1 hb, ?_⟩
    rintro _ _ ⟨rfl, rfl⟩
    refine ⟨-2, rfl, MI_s hM, ?_⟩
    refine ⟨_, y_Md_entry0 39 a1 a6 a7 a8 hn hb, ?_⟩
    rintro _ _ ⟨rfl, rfl⟩
    exact ⟨rfl, lo, so, tb, sz, w, wn, n, ad, nm, pr, hC, hM, hW⟩
  · obtain ⟨j, hj, rfl⟩ : ∃ j, j < n ∧ e = nI j := by
      rcases pk_ix e (n := n) (by omega) with h | h | h
      · exact absurd (Or.inl h) hb
      · exact absurd (Or.inr h) hb
      · exact h
    refine ⟨_, y_Dk_entry1 39 hC.1 hC.2.2.2.1 hj, ?_⟩
    rintro _ _ ⟨rfl, rfl⟩
    refine ⟨nI ((nm j).length + 8 * (pr j).length), rfl, MI_s hM, ?_⟩
    refine ⟨_, y_Md_entry1 39 a1 a6 a7 a8 hn hj, ?_⟩
    rintro _ _ ⟨rfl, rfl⟩
    exact ⟨rfl, lo, so, tb, sz, w, wn, n, ad, nm, pr, hC, hM, hW⟩
theorem o_pairType (e k : Int32) : op_i Inv Inv j_Dk_pairType j_Md_pairType [.int e, .int k] := by
  intro μ ⟨lo, so, tb, sz, w, wn, n, ad, nm, pr, hC, hM, hW⟩
  obtain ⟨s, ou, pa, pt, pv, pn, qt, qv, a1, a2, a3, a4, a5, a6, a7, a8, a9, a10⟩ := id hM
  have hn : n ≤ 16 := hW.2.2.2.1
  have hpl : ∀ j, j < n → (pr j).length ≤ 6 := fun j hj => by obtain ⟨_, _, _, _, _, _, h⟩ := (hC.2.2.2.1.2.2.1 j (by omega)).2.2; exact h
  obtain ⟨b, hP⟩ := isP_or (n := n) (pr := pr) (by omega) (fun j hj => by have := hpl j hj; omega) e k
  cases b with
  | false =>
    refine ⟨_, y_Dk_pairType0 38 hC.1 hC.2.2.2.1 hP, ?_⟩
    rintro _ _ ⟨rfl, rfl⟩
    refine ⟨-1, rfl, MI_s hM, ?_⟩
    refine ⟨_, y_Md_pairType0 38 a1 a6 a7 a8 hn hpl hP, ?_⟩
    rintro _ _ ⟨rfl, rfl⟩
    exact ⟨rfl, lo, so, tb, sz, w, wn, n, ad, nm, pr, hC, hM, hW⟩
  | true =>
    rcases hP with ⟨h, _⟩ | ⟨_, j, i, hj, rfl, hi, rfl⟩
    · cases h
    have hp := List.getElem?_eq_getElem hi
    refine ⟨_, y_Dk_pairType1 38 hC.1 hC.2.2.2.1 hj hp, ?_⟩
    rintro _ _ ⟨rfl, rfl⟩
    refine ⟨((pr j)[i]).1, rfl, MI_s hM, ?_⟩
    refine ⟨_, y_Md_pairType1 38 a1 a6 a7 a8 hn hpl hj hp, ?_⟩
    rintro _ _ ⟨rfl, rfl⟩
    exact ⟨rfl, lo, so, tb, sz, w, wn, n, ad, nm, pr, hC, hM, hW⟩
theorem o_pairValue (e k : Int32) : op_l Inv Inv j_Dk_pairValue j_Md_pairValue [.int e, .int k] := by
  intro μ ⟨lo, so, tb, sz, w, wn, n, ad, nm, pr, hC, hM, hW⟩
  obtain ⟨s, ou, pa, pt, pv, pn, qt, qv, a1, a2, a3, a4, a5, a6, a7, a8, a9, a10⟩ := id hM
  have hn : n ≤ 16 := hW.2.2.2.1
  have hpl : ∀ j, j < n → (pr j).length ≤ 6 := fun j hj => by obtain ⟨_, _, _, _, _, _, h⟩ := (hC.2.2.2.1.2.2.1 j (by omega)).2.2; exact h
  obtain ⟨b, hP⟩ := isP_or (n := n) (pr := pr) (by omega) (fun j hj => by have := hpl j hj; omega) e k
  cases b with
  | false =>
    refine ⟨_, y_Dk_pairValue0 38 hC.1 hC.2.2.2.1 hP, ?_⟩
    rintro _ _ ⟨rfl, rfl⟩
    refine ⟨-1, rfl, MI_s hM, ?_⟩
    refine ⟨_, y_Md_pairValue0 38 a1 a6 a7 a8 hn hpl hP, ?_⟩
    rintro _ _ ⟨rfl, rfl⟩
    exact ⟨rfl, lo, so, tb, sz, w, wn, n, ad, nm, pr, hC, hM, hW⟩
  | true =>
    rcases hP with ⟨h, _⟩ | ⟨_, j, i, hj, rfl, hi, rfl⟩
    · cases h
    have hp := List.getElem?_eq_getElem hi
    refine ⟨_, y_Dk_pairValue1 38 hC.1 hC.2.2.2.1 hj hp, ?_⟩
    rintro _ _ ⟨rfl, rfl⟩
    refine ⟨((pr j)[i]).2, rfl, MI_s hM, ?_⟩
    refine ⟨_, y_Md_pairValue1 38 a1 a6 a7 a8 hn hpl hj hp, ?_⟩
    rintro _ _ ⟨rfl, rfl⟩
    exact ⟨rfl, lo, so, tb, sz, w, wn, n, ad, nm, pr, hC, hM, hW⟩
theorem mr_w {μ : kc_M} {tb : Nat → Nat} {ou pa pt : Nat → Int32} {pv : Nat → Int64} {pn qt : Nat → Int32} {qv : Nat → Int64} (h : mr_at μ tb ou pa pt pv pn qt qv) : mr_at μ tb ou pa pt pv pn qt qv := h
theorem o_answer (i : Int32) : op_l Inv Inv j_Dk_answer j_Md_answer [.int i] := by
  intro μ ⟨lo, so, tb, sz, w, wn, n, ad, nm, pr, hC, hM, hW⟩
  obtain ⟨s, ou, pa, pt, pv, pn, qt, qv, a1, a2, a3, a4, a5, a6, a7, a8, a9, a10⟩ := id hM
  have hw : wn ≤ 400 := hW.2.2.1
  by_cases hb : i < 0 ∨ nI wn ≤ i
  · refine ⟨_, y_Dk_answer0 39 hC.1 hC.2.2.1 hw hb, ?_⟩
    rintro _ _ ⟨rfl, rfl⟩
    refine ⟨-1, rfl, MI_s hM, ?_⟩
    refine ⟨_, y_Md_answer0 39 a1 a5 a7 hw hb, ?_⟩
    rintro _ _ ⟨rfl, rfl⟩
    exact ⟨rfl, lo, so, tb, sz, w, wn, n, ad, nm, pr, hC, hM, hW⟩
  · obtain ⟨j, hj, rfl⟩ : ∃ j, j < wn ∧ i = nI j := by
      rcases pk_ix i (n := wn) (by omega) with h | h | h
      · exact absurd (Or.inl h) hb
      · exact absurd (Or.inr h) hb
      · exact h
    refine ⟨_, y_Dk_answer1 39 hC.1 hC.2.2.1 hw hj, ?_⟩
    rintro _ _ ⟨rfl, rfl⟩
    refine ⟨_, rfl, MI_s hM, ?_⟩
    refine ⟨_, y_Md_answer1 39 a1 a5 a7 hw hj, ?_⟩
    rintro _ _ ⟨rfl, rfl⟩
    exact ⟨by rw [shl8_eq (w := ou) (u := w) _ _ _ (fun k k1 k2 => a10.1 k (by omega))], lo, so, tb, sz, w, wn, n, ad, nm, pr, hC, hM, hW⟩
theorem o_connect : op_v Inv Inv j_Dk_connect j_Md_connect [] := by
  intro μ ⟨lo, so, tb, sz, w, wn, n, ad, nm, pr, hC, hM, hW⟩
  refine ⟨_, y_Dk_connect 38 hC, ?_⟩
  rintro _ μ1 ⟨rfl, hC1, hf1⟩
  have hM1 := MI_k hM hf1
  refine ⟨rfl, MI_s hM1, ?_⟩
  refine ⟨_, y_Md_connect 38 hM1, ?_⟩
  rintro _ μ2 ⟨rfl, hM2, hf2⟩
  exact ⟨rfl, true, false, tb, 0, w, wn, n, ad, nm, pr, CI_k hC1 hf2, hM2, hW.1, by omega, hW.2.2⟩
theorem o_type (x : Int64) (m : Int32) : op_i Inv Inv j_Dk_type j_Md_type [.long x, .int m] := by
  intro μ ⟨lo, so, tb, sz, w, wn, n, ad, nm, pr, hC, hM, hW⟩
  obtain ⟨s, ou, pa, pt, pv, pn, qt, qv, a1, a2, a3, a4, a5, a6, a7, a8, a9, a10⟩ := id hM
  cases lo with
  | false =>
    refine ⟨_, y_Dk_type_c 38 hC.1, ?_⟩
    rintro _ _ ⟨rfl, rfl⟩
    refine ⟨-1, rfl, MI_s hM, ?_⟩
    refine ⟨_, y_Md_type_c 38 a1 a2, ?_⟩
    rintro _ _ ⟨rfl, rfl⟩
    exact ⟨rfl, false, so, tb, sz, w, wn, n, ad, nm, pr, hC, hM, hW⟩
  | true =>
    have hz : sz ≤ 200 := hW.2.1
    by_cases hb : m < nI 1 ∨ nI 8 < m ∨ ∃ k, 1 ≤ k ∧ k ≤ 8 ∧ m = nI k ∧ 200 < sz + k
    · obtain ⟨x1, x2, x3, x4, x5, x6, hr⟩ := hC.2.1
      refine ⟨_, y_Dk_type_b 38 hC.1 hr.1 hz hb, ?_⟩
      rintro _ _ ⟨rfl, rfl⟩
      refine ⟨-2, rfl, MI_s hM, ?_⟩
      refine ⟨_, y_Md_type_b 38 a1 a2 a4 hz hb, ?_⟩
      rintro _ _ ⟨rfl, rfl⟩
      exact ⟨rfl, true, so, tb, sz, w, wn, n, ad, nm, pr, hC, hM, hW⟩
    · obtain ⟨k, k1, k2, rfl⟩ : ∃ k, 1 ≤ k ∧ k ≤ 8 ∧ m = nI k := by
        rcases n8 m with h | h | h
        · exact absurd (Or.inl h) hb
        · exact absurd (Or.inr (Or.inl h)) hb
        · exact h
      have k3 : sz + k ≤ 200 := by
        by_cases h9 : 200 < sz + k
        · exact absurd (Or.inr (Or.inr ⟨k, k1, k2, rfl, h9⟩)) hb
        · omega
      refine ⟨_, y_Dk_type 38 hC ⟨k1, k2⟩ k3, ?_⟩
      rintro _ μ1 ⟨rfl, hC1, hf1⟩
      have fr : ∀ q, 136 ≤ q → μ1.1 q = μ.1 q := hf1
      refine ⟨_, rfl, MI_s (MI_k hM hf1), ?_⟩
      have c7 := mr_k a7 (fun q hq => fr q (by omega))
      refine ⟨_, y_Md_type 38 ((fr 136 (by omega)).trans a1) a2 a4 c7.1 ⟨k1, k2⟩ k3, ?_⟩
      rintro _ μ2 ⟨rfl, ⟨s', b1, b2, b3⟩, b4, hf2⟩
      refine ⟨rfl, true, so, ty8 x k tb sz, sz + k, w, wn, n, ad, nm, pr, CI_k hC1 (fun q hq => hf2 q (by omega) (by omega)), ?_, ty8_lt x k tb sz hW.1, k3, hW.2.2⟩
      obtain ⟨r1, r2, r3, r4, r5, r6, r7, r8⟩ := c7
      have g : ∀ q, 138 ≤ q → μ2.1 q = μ1.1 q := fun q hq => hf2 q (by omega) (by omega)
      refine ⟨s', ou, pa, pt, pv, pn, qt, qv, b1, (b3 0 (by omega)).trans a2, (b3 1 (by omega)).trans a3, b2, (b3 5 (by omega)).trans a5, (b3 6 (by omega)).trans a6, ⟨b4, (g _ (by omega)).trans r2, (g _ (by omega)).trans r3, (g _ (by omega)).trans r4, (g _ (by omega)).trans r5, (g _ (by omega)).trans r6, (g _ (by omega)).trans r7, (g _ (by omega)).trans r8⟩, a8, ?_, a10.1, (by obtain ⟨k9, g9, g10⟩ := a10.2; exact ⟨k9, g9, (b3 20 (by omega)).trans g10⟩)⟩
      exact ms_k2 a9 (fun q hq => (g q (by omega)).trans (fr q (by omega)))
