/-! names compared and found, reference -/
/-- the reference's rows: what is typed, its answer, its entries -/
def mE (μ : kc_M) (tb : Nat → Nat) (ou : Nat → Int32) (n : Nat) (nm pr : Nat → List tv) : Prop := ∃ pa pt pv pn qt qv, mr_at μ tb ou pa pt pv pn qt qv ∧ me_at n pa pt pv pn qt qv nm pr ∧ n ≤ 16 ∧ ∀ e, e < n → (nm e).length ≤ 4 ∧ (pr e).length ≤ 6
theorem mE_k {μ μ' : kc_M} {tb : Nat → Nat} {ou : Nat → Int32} {n : Nat} {nm pr : Nat → List tv} (h : mE μ tb ou n nm pr) (hk : ∀ q, 137 ≤ q → q ≤ 144 → μ'.1 q = μ.1 q) : mE μ' tb ou n nm pr := by
  obtain ⟨pa, pt, pv, pn, qt, qv, ⟨h1, h2, h3, h4, h5, h6, h7, h8⟩, h9⟩ := h
  exact ⟨pa, pt, pv, pn, qt, qv, ⟨(hk _ (by omega) (by omega)).trans h1, (hk _ (by omega) (by omega)).trans h2, (hk _ (by omega) (by omega)).trans h3, (hk _ (by omega) (by omega)).trans h4, (hk _ (by omega) (by omega)).trans h5, (hk _ (by omega) (by omega)).trans h6, (hk _ (by omega) (by omega)).trans h7, (hk _ (by omega) (by omega)).trans h8⟩, h9⟩
theorem mN_k {μ μ' : kc_M} {s s' : Nat → Int32} {l : List tv} (h : mN μ s l) (hs : s' 20 = s 20) (h1 : μ'.1 145 = μ.1 145) (h2 : μ'.1 146 = μ.1 146) : mN μ' s' l := by
  obtain ⟨a1, a2, f, g, a3, a4, a5⟩ := h
  exact ⟨hs.trans a1, a2, f, g, h1.trans a3, h2.trans a4, a5⟩
theorem dr_y {l t : List tv} {k : Nat} (hl : t.length = l.length - k) (h : ∀ j, k ≤ j → j < l.length → t[j - k]? = l[j]?) : t = l.drop k := by
  apply List.ext_getElem?
  intro j
  rw [List.getElem?_drop]
  by_cases hj : k + j < l.length
  · have := h (k + j) (by omega) hj
    rw [show k + j - k = j by omega] at this
    exact this
  · rw [List.getElem?_eq_none (by omega), List.getElem?_eq_none (by omega)]
theorem dr_n {l t : List tv} {k j : Nat} (hk : k ≤ j) (h : t[j - k]? ≠ l[j]?) : t ≠ l.drop k := by
  rintro rfl
  apply h
  rw [List.getElem?_drop, show k + (j - k) = j by omega]
theorem nI_neg2 {a b : Nat} (h : a ≤ b) (hb : b < 2 ^ 31) : nI a - nI b ≤ 0 := by
  rw [nI_sb a b (by omega), Int32.le_iff_toInt_le]
  have : (nI (a + (4294967296 - b))).toInt = (a : Int) - b := by
    show (BitVec.ofNat 32 (a + (4294967296 - b))).toInt = _
    rw [BitVec.toInt_eq_toNat_bmod, BitVec.toNat_ofNat, Int.bmod_def]
    split <;> omega
  rw [this]
  have h0 : (0 : Int32).toInt = 0 := by decide
  rw [h0]
  omega
/-- is l under t, so deep? -/
def ud (l t : List tv) (p : Bool) : Bool := match lv l t with
  | some m => decide (0 < m) && (p || decide (m = 1))
  | none => false
set_option maxRecDepth 100000 in
set_option maxHeartbeats 4000000 in
theorem y_Md_isNamed (d : Nat) {μ : kc_M} {s : Nat → Int32} {tb : Nat → Nat} {ou : Nat → Int32} {n : Nat} {nm pr : Nat → List tv} (h0 : μ.1 136 = some (ce_Md s)) (hE : mE μ tb ou n nm pr) {l : List tv} (hN : mN μ s l) {e k : Nat} (he : e < n) (hk : k ≤ l.length) : kc_Y kt kC (d + 1) j_Md_isNamed [.ref 136, .int (nI e), .int (nI k)] μ (fun w μ' => w = some (.int (bI (decide (nm e = l.drop k)))) ∧ μ' = μ) := by
  refine ⟨Nat.le_of_ble_eq_true rfl, ?_⟩
  obtain ⟨pa, pt, pv, pn, qt, qv, ⟨r1, r2, r3, r4, r5, r6, r7, r8⟩, m2, hn16, hw⟩ := hE
  obtain ⟨c0, c4, f, g, c1, c2, c3⟩ := hN
  have mm := m2 e he
  have hwe := (hw e he).1
  have loopF : ∀ i, i ≤ 5 → nm e ≠ l.drop k → kc_X (kC j_Md_isNamed) (kc_Y kt kC d) (fun w μ' => w = some (.int (bI (decide (nm e = l.drop k)))) ∧ μ' = μ) 24 [some (.ref 136), some (.int (nI e)), some (.int (nI k)), some (.int (bI false)), some (.int (nI i))] [] μ (0, 0) := by
    intro i hi hne
    refine x_il c_Md_isNamed_24 rfl ?_
    refine x_al c_Md_isNamed_26 rfl ?_
    refine x_getE c_Md_isNamed_27 (by first | rfl | exact h0 | exact r3 | exact r4 | exact r5 | exact r6 | exact r7 | exact r8 | exact c1 | exact c2) rfl (by first | exact c0 | rfl) ?_
    first | refine x_cmN_ge c_Md_isNamed_30 (by omega) (by omega) (fun h30 => ?_) (fun h30 => ?_) | refine x_cm_ge c_Md_isNamed_30 (fun h30 => ?_) (fun h30 => ?_)
    · refine x_il c_Md_isNamed_96 rfl ?_
      refine x_rz c_Md_isNamed_97 (by first | decide | exact kz_n _) ?_
      exact ⟨by rw [decide_eq_false hne], rfl⟩
    · refine x_il c_Md_isNamed_33 rfl ?_
      refine x_if_eq c_Md_isNamed_34 (fun _ => ?_) (fun h => absurd (by decide) h)
      refine x_il c_Md_isNamed_96 rfl ?_
      refine x_rz c_Md_isNamed_97 (by first | decide | exact kz_n _) ?_
      exact ⟨by rw [decide_eq_false hne], rfl⟩
  have loop : ∀ m i, l.length - i = m → k ≤ i → i ≤ l.length → (nm e).length = l.length - k → (∀ j, k ≤ j → j < i → (nm e)[j - k]? = l[j]?) → kc_X (kC j_Md_isNamed) (kc_Y kt kC d) (fun w μ' => w = some (.int (bI (decide (nm e = l.drop k)))) ∧ μ' = μ) 24 [some (.ref 136), some (.int (nI e)), some (.int (nI k)), some (.int (bI true)), some (.int (nI i))] [] μ (0, 0) := by
    intro m
    induction m with
    | zero =>
      intro i hm hki hil hlen hi
      refine x_il c_Md_isNamed_24 rfl ?_
      refine x_al c_Md_isNamed_26 rfl ?_
      refine x_getE c_Md_isNamed_27 (by first | rfl | exact h0 | exact r3 | exact r4 | exact r5 | exact r6 | exact r7 | exact r8 | exact c1 | exact c2) rfl (by first | exact c0 | rfl) ?_
      refine x_cmN_ge c_Md_isNamed_30 (by omega) (by omega) (fun _ => ?_) (fun h => (by exfalso; omega))
      refine x_il c_Md_isNamed_96 rfl ?_
      refine x_rz c_Md_isNamed_97 (by first | decide | exact kz_n _) ?_
      exact ⟨by rw [decide_eq_true (dr_y hlen (fun j j1 j2 => hi j j1 (by omega)))], rfl⟩
    | succ m ih =>
      intro i hm hki hil hlen
      have hho := mm.2.1 (i - k) (by omega)
      dsimp only at hho
      · intro hi
        refine x_il c_Md_isNamed_24 rfl ?_
        refine x_al c_Md_isNamed_26 rfl ?_
        refine x_getE c_Md_isNamed_27 (by first | rfl | exact h0 | exact r3 | exact r4 | exact r5 | exact r6 | exact r7 | exact r8 | exact c1 | exact c2) rfl (by first | exact c0 | rfl) ?_
        refine x_cmN_ge c_Md_isNamed_30 (by omega) (by omega) (fun h => (by exfalso; omega)) (fun _ => ?_)
        refine x_il c_Md_isNamed_33 rfl ?_
        refine x_if_eq c_Md_isNamed_34 (fun h => absurd h (by decide)) (fun _ => ?_)
        refine x_al c_Md_isNamed_37 rfl ?_
        refine x_get c_Md_isNamed_38 (by first | rfl | exact h0 | exact r3 | exact r4 | exact r5 | exact r6 | exact r7 | exact r8 | exact c1 | exact c2) rfl ?_
        refine x_ci c_Md_isNamed_41 ?_
        refine x_il c_Md_isNamed_42 rfl ?_
        first | refine x_imulN c_Md_isNamed_43 ?_ | refine x_imul c_Md_isNamed_43 ?_
        refine x_il c_Md_isNamed_44 rfl ?_
        first | refine x_iaddN c_Md_isNamed_46 ?_ | refine x_iadd c_Md_isNamed_46 ?_
        refine x_il c_Md_isNamed_47 rfl ?_
        first | refine x_isubN c_Md_isNamed_48 (by omega) ?_ | refine x_isub c_Md_isNamed_48 ?_
        refine x_ialdE c_Md_isNamed_49 (by first | rfl | exact h0 | exact r3 | exact r4 | exact r5 | exact r6 | exact r7 | exact r8 | exact c1 | exact c2) (by omega) (by omega) (congrArg pt (by omega : 4 * e + i - k = 4 * e + (i - k))) ?_
        refine x_al c_Md_isNamed_50 rfl ?_
        refine x_get c_Md_isNamed_51 (by first | rfl | exact h0 | exact r3 | exact r4 | exact r5 | exact r6 | exact r7 | exact r8 | exact c1 | exact c2) rfl ?_
        refine x_il c_Md_isNamed_54 rfl ?_
        refine x_ialdN c_Md_isNamed_56 (by first | rfl | exact h0 | exact r3 | exact r4 | exact r5 | exact r6 | exact r7 | exact r8 | exact c1 | exact c2) (by omega) (by omega) ?_
        refine x_cm_ne c_Md_isNamed_57 (fun h57 => ?_) (fun h57 => ?_)
        · refine x_ci c_Md_isNamed_88 ?_
          refine x_is [_, _, _, _, _] c_Md_isNamed_89 rfl ?_
          first | refine x_incN [_, _, _, _, _] c_Md_isNamed_90 rfl rfl ?_ | refine x_inc [_, _, _, _, _] c_Md_isNamed_90 rfl rfl ?_
          refine x_goto c_Md_isNamed_93 ?_
          first
            | exact loopF (i + 1) (by omega) (dr_n (j := i) (by omega) (by rw [hho, c3 i (by omega)]; intro q; simp only [Option.some.injEq, Prod.mk.injEq] at q; first | exact h57 q.1 | exact h81 q.2))
            | exact ih (i + 1) (by omega) (by omega) (by omega) hlen (fun j j1 j2 => by (by_cases hj : j = i; (subst hj; rw [hho, c3 j (by omega), h57, h81]); exact hi j j1 (by omega)))
        · refine x_al c_Md_isNamed_60 rfl ?_
          refine x_get c_Md_isNamed_61 (by first | rfl | exact h0 | exact r3 | exact r4 | exact r5 | exact r6 | exact r7 | exact r8 | exact c1 | exact c2) rfl ?_
          refine x_ci c_Md_isNamed_64 ?_
          refine x_il c_Md_isNamed_65 rfl ?_
          first | refine x_imulN c_Md_isNamed_66 ?_ | refine x_imul c_Md_isNamed_66 ?_
          refine x_il c_Md_isNamed_67 rfl ?_
          first | refine x_iaddN c_Md_isNamed_69 ?_ | refine x_iadd c_Md_isNamed_69 ?_
          refine x_il c_Md_isNamed_70 rfl ?_
          first | refine x_isubN c_Md_isNamed_71 (by omega) ?_ | refine x_isub c_Md_isNamed_71 ?_
          refine x_laldE c_Md_isNamed_72 (by first | rfl | exact h0 | exact r3 | exact r4 | exact r5 | exact r6 | exact r7 | exact r8 | exact c1 | exact c2) (by omega) (by omega) (congrArg pv (by omega : 4 * e + i - k = 4 * e + (i - k))) ?_
          refine x_al c_Md_isNamed_73 rfl ?_
          refine x_get c_Md_isNamed_74 (by first | rfl | exact h0 | exact r3 | exact r4 | exact r5 | exact r6 | exact r7 | exact r8 | exact c1 | exact c2) rfl ?_
          refine x_il c_Md_isNamed_77 rfl ?_
          refine x_laldN c_Md_isNamed_79 (by first | rfl | exact h0 | exact r3 | exact r4 | exact r5 | exact r6 | exact r7 | exact r8 | exact c1 | exact c2) (by omega) (by omega) ?_
          refine x_lcmp c_Md_isNamed_80 ?_
          refine x_ifL_ne c_Md_isNamed_81 (fun h81 => ?_) (fun h81 => ?_)
          · refine x_ci c_Md_isNamed_88 ?_
            refine x_is [_, _, _, _, _] c_Md_isNamed_89 rfl ?_
            first | refine x_incN [_, _, _, _, _] c_Md_isNamed_90 rfl rfl ?_ | refine x_inc [_, _, _, _, _] c_Md_isNamed_90 rfl rfl ?_
            refine x_goto c_Md_isNamed_93 ?_
            first
              | exact loopF (i + 1) (by omega) (dr_n (j := i) (by omega) (by rw [hho, c3 i (by omega)]; intro q; simp only [Option.some.injEq, Prod.mk.injEq] at q; first | exact h57 q.1 | exact h81 q.2))
              | exact ih (i + 1) (by omega) (by omega) (by omega) hlen (fun j j1 j2 => by (by_cases hj : j = i; (subst hj; rw [hho, c3 j (by omega), h57, h81]); exact hi j j1 (by omega)))
          · refine x_ci c_Md_isNamed_84 ?_
            refine x_goto c_Md_isNamed_85 ?_
            refine x_is [_, _, _, _, _] c_Md_isNamed_89 rfl ?_
            first | refine x_incN [_, _, _, _, _] c_Md_isNamed_90 rfl rfl ?_ | refine x_inc [_, _, _, _, _] c_Md_isNamed_90 rfl rfl ?_
            refine x_goto c_Md_isNamed_93 ?_
            first
              | exact loopF (i + 1) (by omega) (dr_n (j := i) (by omega) (by rw [hho, c3 i (by omega)]; intro q; simp only [Option.some.injEq, Prod.mk.injEq] at q; first | exact h57 q.1 | exact h81 q.2))
              | exact ih (i + 1) (by omega) (by omega) (by omega) hlen (fun j j1 j2 => by (by_cases hj : j = i; (subst hj; rw [hho, c3 j (by omega), h57, h81]); exact hi j j1 (by omega)))
  refine x_al c_Md_isNamed_0 rfl ?_
  refine x_get c_Md_isNamed_1 (by first | rfl | exact h0 | exact r3 | exact r4 | exact r5 | exact r6 | exact r7 | exact r8 | exact c1 | exact c2) rfl ?_
  refine x_il c_Md_isNamed_4 rfl ?_
  refine x_ialdE c_Md_isNamed_5 (by first | rfl | exact h0 | exact r3 | exact r4 | exact r5 | exact r6 | exact r7 | exact r8 | exact c1 | exact c2) (by omega) (by omega) (mm.1) ?_
  refine x_al c_Md_isNamed_6 rfl ?_
  refine x_getE c_Md_isNamed_7 (by first | rfl | exact h0 | exact r3 | exact r4 | exact r5 | exact r6 | exact r7 | exact r8 | exact c1 | exact c2) rfl (by first | exact c0 | rfl) ?_
  refine x_il c_Md_isNamed_10 rfl ?_
  first | refine x_isubN c_Md_isNamed_11 (by omega) ?_ | refine x_isub c_Md_isNamed_11 ?_
  first | refine x_cmN_ne c_Md_isNamed_12 (by omega) (by omega) (fun h12 => ?_) (fun h12 => ?_) | refine x_cm_ne c_Md_isNamed_12 (fun h12 => ?_) (fun h12 => ?_)
  · refine x_ci c_Md_isNamed_19 ?_
    refine x_is [_, _, _, _, _] c_Md_isNamed_20 rfl ?_
    refine x_il c_Md_isNamed_21 rfl ?_
    refine x_is [_, _, _, _, _] c_Md_isNamed_22 rfl ?_
    first
      | exact loop _ k rfl (by omega) hk h12 (fun j j1 j2 => by omega)
      | exact loopF k (by omega) (fun q => h12 (by rw [q, List.length_drop]))
  · refine x_ci c_Md_isNamed_15 ?_
    refine x_goto c_Md_isNamed_16 ?_
    refine x_is [_, _, _, _, _] c_Md_isNamed_20 rfl ?_
    refine x_il c_Md_isNamed_21 rfl ?_
    refine x_is [_, _, _, _, _] c_Md_isNamed_22 rfl ?_
    first
      | exact loop _ k rfl (by omega) hk h12 (fun j j1 j2 => by omega)
      | exact loopF k (by omega) (fun q => h12 (by rw [q, List.length_drop]))
set_option maxRecDepth 100000 in
set_option maxHeartbeats 4000000 in
theorem y_Md_find (d : Nat) {μ : kc_M} {s : Nat → Int32} {tb : Nat → Nat} {ou : Nat → Int32} {n : Nat} {nm pr : Nat → List tv} (h0 : μ.1 136 = some (ce_Md s)) (hE : mE μ tb ou n nm pr) (h6 : s 6 = nI n) {l : List tv} (hN : mN μ s l) {k : Nat} (hk : k ≤ l.length) : kc_Y kt kC (d + 2) j_Md_find [.ref 136, .int (nI k)] μ (fun w μ' => w = some (.int (oI (fd nm (l.drop k) n 0))) ∧ μ' = μ) := by
  refine ⟨Nat.le_of_ble_eq_true rfl, ?_⟩
  have hn16 : n ≤ 16 := by obtain ⟨_, _, _, _, _, _, _, _, h, _⟩ := hE; exact h
  have loop : ∀ m e, n - e = m → e ≤ n → fd nm (l.drop k) m e = fd nm (l.drop k) n 0 → kc_X (kC j_Md_find) (kc_Y kt kC (d + 1)) (fun w μ' => w = some (.int (oI (fd nm (l.drop k) n 0))) ∧ μ' = μ) 2 [some (.ref 136), some (.int (nI k)), some (.int (nI e))] [] μ (0, 0) := by
    intro m
    induction m with
    | zero =>
      intro e hm he hf
      refine x_il c_Md_find_2 rfl ?_
      refine x_al c_Md_find_3 rfl ?_
      refine x_getE c_Md_find_4 (by first | rfl | exact h0) rfl (by first | exact h6 | rfl) ?_
      refine x_cmN_ge c_Md_find_7 (by omega) (by omega) (fun _ => ?_) (fun h => (by exfalso; omega))
      refine x_ci c_Md_find_27 ?_
      refine x_ri c_Md_find_28 ?_
      exact ⟨by rw [← hf]; rfl, rfl⟩
    | succ m ih =>
      intro e hm he hf
      rw [fd_s] at hf
      refine x_il c_Md_find_2 rfl ?_
      refine x_al c_Md_find_3 rfl ?_
      refine x_getE c_Md_find_4 (by first | rfl | exact h0) rfl (by first | exact h6 | rfl) ?_
      refine x_cmN_ge c_Md_find_7 (by omega) (by omega) (fun h => (by exfalso; omega)) (fun _ => ?_)
      refine x_al c_Md_find_10 rfl ?_
      refine x_il c_Md_find_11 rfl ?_
      refine x_il c_Md_find_12 rfl ?_
      refine x_cv2z _ c_Md_find_13 (by first | rfl | exact h0) (Nat.le_of_ble_eq_true rfl) (y_Md_isNamed d h0 hE hN (e := e) (k := k) (by omega) hk) ?_
      rintro _ μx ⟨rfl, hμx⟩
      have hμx := hμx.symm
      subst hμx
      show kc_X _ _ _ _ _ [.int (bI (decide (nm e = l.drop k)))] _ _
      refine x_ifB_eq c_Md_find_16 (fun h16 => ?_) (fun h16 => ?_)
      · first | refine x_incN [_, _, _] c_Md_find_21 rfl rfl ?_ | refine x_inc [_, _, _] c_Md_find_21 rfl rfl ?_
        refine x_goto c_Md_find_24 ?_
        rw [if_neg (of_decide_eq_false h16)] at hf
        exact ih (e + 1) (by omega) (by omega) hf
      · refine x_il c_Md_find_19 rfl ?_
        refine x_ri c_Md_find_20 ?_
        exact ⟨by rw [← hf, if_pos (of_decide_eq_true h16)]; rfl, rfl⟩
  refine x_ci c_Md_find_0 ?_
  refine x_is [_, _, _] c_Md_find_1 rfl ?_
  exact loop n 0 rfl (by omega) rfl
theorem ud_f {l t : List tv} {p : Bool} (h : lv l t = none) : ud l t p = false := by unfold ud; rw [h]
theorem ud_s {l t : List tv} {p : Bool} {m : Nat} (h : lv l t = some m) : ud l t p = (decide (0 < m) && (p || decide (m = 1))) := by unfold ud; rw [h]
theorem ud_l {l t : List tv} {p : Bool} (h : l.length ≤ t.length) : ud l t p = false := by
  cases g : lv l t with
  | none => exact ud_f g
  | some m =>
    have := lv_b g
    rw [ud_s g, decide_eq_false (by omega)]; rfl
theorem ud_1 {l t : List tv} (h : l.length - t.length ≠ 1) : ud l t false = false := by
  cases g : lv l t with
  | none => exact ud_f g
  | some m =>
    have := lv_b g
    rw [ud_s g, decide_eq_false (p := m = 1) (by omega)]; simp
set_option maxRecDepth 100000 in
set_option maxHeartbeats 4000000 in
theorem y_Md_isUnder (d : Nat) {μ : kc_M} {s : Nat → Int32} {tb : Nat → Nat} {ou : Nat → Int32} {n : Nat} {nm pr : Nat → List tv} (h0 : μ.1 136 = some (ce_Md s)) (hE : mE μ tb ou n nm pr) {e b : Nat} (he : e < n) (hb : b < n) (p : Bool) : kc_Y kt kC (d + 1) j_Md_isUnder [.ref 136, .int (nI e), .int (nI b), .int (if p then -1 else nI 1)] μ (fun w μ' => w = some (.int (bI (ud (nm e) (nm b) p))) ∧ μ' = μ) := by
  refine ⟨Nat.le_of_ble_eq_true rfl, ?_⟩
  obtain ⟨pa, pt, pv, pn, qt, qv, ⟨r1, r2, r3, r4, r5, r6, r7, r8⟩, m2, hn16, hw⟩ := hE
  have mm := m2 e he
  have mb := m2 b hb
  have hwe := (hw e he).1
  have hwb := (hw b hb).1
  have loopF : ∀ (mo pp : Int32) i, i ≤ 5 → ud (nm e) (nm b) p = false → kc_X (kC j_Md_isUnder) (kc_Y kt kC d) (fun w μ' => w = some (.int (bI (ud (nm e) (nm b) p))) ∧ μ' = μ) 48 [some (.ref 136), some (.int (nI e)), some (.int (nI b)), some (.int pp), some (.int mo), some (.int (bI false)), some (.int (nI i))] [] μ (0, 0) := by
    intro mo pp i hi hne
    refine x_il c_Md_isUnder_48 rfl ?_
    refine x_ifN_lt c_Md_isUnder_49 (by omega) (fun h => (by exfalso; omega)) (fun _ => ?_)
    refine x_il c_Md_isUnder_52 rfl ?_
    refine x_if_eq c_Md_isUnder_54 (fun _ => ?_) (fun h => absurd (by decide) h)
    refine x_il c_Md_isUnder_138 rfl ?_
    refine x_rz c_Md_isUnder_140 (by first | decide | exact kz_n _) ?_
    exact ⟨by rw [hne], rfl⟩
  by_cases hlt : (nm b).length < (nm e).length
  · have loop : ∀ (pp : Int32) m i, (nm b).length - i = m → i ≤ (nm b).length → (p = true ∨ (nm e).length - (nm b).length = 1) → (∀ j, j < i → (nm e)[(nm e).length - (nm b).length + j]? = (nm b)[j]?) → kc_X (kC j_Md_isUnder) (kc_Y kt kC d) (fun w μ' => w = some (.int (bI (ud (nm e) (nm b) p))) ∧ μ' = μ) 48 [some (.ref 136), some (.int (nI e)), some (.int (nI b)), some (.int pp), some (.int (nI ((nm e).length - (nm b).length))), some (.int (bI true)), some (.int (nI i))] [] μ (0, 0) := by
      intro pp m
      induction m with
      | zero =>
        intro i hm hil hlen hi
        refine x_il c_Md_isUnder_48 rfl ?_
        refine x_ifN_lt c_Md_isUnder_49 (by omega) (fun h => (by exfalso; omega)) (fun _ => ?_)
        refine x_il c_Md_isUnder_52 rfl ?_
        refine x_if_eq c_Md_isUnder_54 (fun h => absurd h (by decide)) (fun _ => ?_)
        refine x_il c_Md_isUnder_57 rfl ?_
        refine x_al c_Md_isUnder_59 rfl ?_
        refine x_get c_Md_isUnder_60 (by first | rfl | exact h0 | exact r3 | exact r4 | exact r5 | exact r6 | exact r7 | exact r8) rfl ?_
        refine x_il c_Md_isUnder_63 rfl ?_
        refine x_ialdE c_Md_isUnder_64 (by first | rfl | exact h0 | exact r3 | exact r4 | exact r5 | exact r6 | exact r7 | exact r8) (by omega) (by omega) (mb.1) ?_
        refine x_cmN_ge c_Md_isUnder_65 (by omega) (by omega) (fun _ => ?_) (fun h => (by exfalso; omega))
        refine x_il c_Md_isUnder_138 rfl ?_
        refine x_rz c_Md_isUnder_140 (by first | decide | exact kz_n _) ?_
        exact ⟨by rw [ud_s (lv_y (by omega) (fun j j2 => hi j (by omega))), decide_eq_true (by omega)]; rcases hlen with h | h; (rw [h]; rfl); (rw [decide_eq_true h]; simp), rfl⟩
      | succ m ih =>
        intro i hm hil hlen hi
        have hho := mm.2.1 ((nm e).length - (nm b).length + i) (by omega)
        have hbo := mb.2.1 i (by omega)
        dsimp only at hho hbo
        refine x_il c_Md_isUnder_48 rfl ?_
        refine x_ifN_lt c_Md_isUnder_49 (by omega) (fun h => (by exfalso; omega)) (fun _ => ?_)
        refine x_il c_Md_isUnder_52 rfl ?_
        refine x_if_eq c_Md_isUnder_54 (fun h => absurd h (by decide)) (fun _ => ?_)
        refine x_il c_Md_isUnder_57 rfl ?_
        refine x_al c_Md_isUnder_59 rfl ?_
        refine x_get c_Md_isUnder_60 (by first | rfl | exact h0 | exact r3 | exact r4 | exact r5 | exact r6 | exact r7 | exact r8) rfl ?_
        refine x_il c_Md_isUnder_63 rfl ?_
        refine x_ialdE c_Md_isUnder_64 (by first | rfl | exact h0 | exact r3 | exact r4 | exact r5 | exact r6 | exact r7 | exact r8) (by omega) (by omega) (mb.1) ?_
        refine x_cmN_ge c_Md_isUnder_65 (by omega) (by omega) (fun h => (by exfalso; omega)) (fun _ => ?_)
        refine x_al c_Md_isUnder_68 rfl ?_
        refine x_get c_Md_isUnder_69 (by first | rfl | exact h0 | exact r3 | exact r4 | exact r5 | exact r6 | exact r7 | exact r8) rfl ?_
        refine x_ci c_Md_isUnder_72 ?_
        refine x_il c_Md_isUnder_73 rfl ?_
        first | refine x_imulN c_Md_isUnder_74 ?_ | refine x_imul c_Md_isUnder_74 ?_
        refine x_il c_Md_isUnder_75 rfl ?_
        first | refine x_iaddN c_Md_isUnder_77 ?_ | refine x_iadd c_Md_isUnder_77 ?_
        refine x_il c_Md_isUnder_78 rfl ?_
        first | refine x_iaddN c_Md_isUnder_80 ?_ | refine x_iadd c_Md_isUnder_80 ?_
        refine x_ialdE c_Md_isUnder_81 (by first | rfl | exact h0 | exact r3 | exact r4 | exact r5 | exact r6 | exact r7 | exact r8) (by omega) (by omega) (congrArg pt (by omega : _ = 4 * e + ((nm e).length - (nm b).length + i))) ?_
        refine x_al c_Md_isUnder_82 rfl ?_
        refine x_get c_Md_isUnder_83 (by first | rfl | exact h0 | exact r3 | exact r4 | exact r5 | exact r6 | exact r7 | exact r8) rfl ?_
        refine x_ci c_Md_isUnder_86 ?_
        refine x_il c_Md_isUnder_87 rfl ?_
        first | refine x_imulN c_Md_isUnder_88 ?_ | refine x_imul c_Md_isUnder_88 ?_
        refine x_il c_Md_isUnder_89 rfl ?_
        first | refine x_iaddN c_Md_isUnder_91 ?_ | refine x_iadd c_Md_isUnder_91 ?_
        refine x_ialdN c_Md_isUnder_92 (by first | rfl | exact h0 | exact r3 | exact r4 | exact r5 | exact r6 | exact r7 | exact r8) (by omega) (by omega) ?_
        refine x_cm_ne c_Md_isUnder_93 (fun h93 => ?_) (fun h93 => ?_)
        · refine x_ci c_Md_isUnder_129 ?_
          refine x_is [_, _, _, _, _, _, _] c_Md_isUnder_130 rfl ?_
          first | refine x_incN [_, _, _, _, _, _, _] c_Md_isUnder_132 rfl rfl ?_ | refine x_inc [_, _, _, _, _, _, _] c_Md_isUnder_132 rfl rfl ?_
          refine x_goto c_Md_isUnder_135 ?_
          first
            | exact loopF _ _ (i + 1) (by omega) (ud_f (lv_n (j := i) (by omega) (by rw [hho, hbo]; intro q; simp only [Option.some.injEq, Prod.mk.injEq] at q; first | exact h93 q.1 | exact h122 q.2)))
            | exact ih (i + 1) (by omega) (by omega) hlen (fun j j2 => by (by_cases hj : j = i; (subst hj; rw [hho, hbo, h93, h122]); exact hi j (by omega)))
        · refine x_al c_Md_isUnder_96 rfl ?_
          refine x_get c_Md_isUnder_97 (by first | rfl | exact h0 | exact r3 | exact r4 | exact r5 | exact r6 | exact r7 | exact r8) rfl ?_
          refine x_ci c_Md_isUnder_100 ?_
          refine x_il c_Md_isUnder_101 rfl ?_
          first | refine x_imulN c_Md_isUnder_102 ?_ | refine x_imul c_Md_isUnder_102 ?_
          refine x_il c_Md_isUnder_103 rfl ?_
          first | refine x_iaddN c_Md_isUnder_105 ?_ | refine x_iadd c_Md_isUnder_105 ?_
          refine x_il c_Md_isUnder_106 rfl ?_
          first | refine x_iaddN c_Md_isUnder_108 ?_ | refine x_iadd c_Md_isUnder_108 ?_
          refine x_laldE c_Md_isUnder_109 (by first | rfl | exact h0 | exact r3 | exact r4 | exact r5 | exact r6 | exact r7 | exact r8) (by omega) (by omega) (congrArg pv (by omega : _ = 4 * e + ((nm e).length - (nm b).length + i))) ?_
          refine x_al c_Md_isUnder_110 rfl ?_
          refine x_get c_Md_isUnder_111 (by first | rfl | exact h0 | exact r3 | exact r4 | exact r5 | exact r6 | exact r7 | exact r8) rfl ?_
          refine x_ci c_Md_isUnder_114 ?_
          refine x_il c_Md_isUnder_115 rfl ?_
          first | refine x_imulN c_Md_isUnder_116 ?_ | refine x_imul c_Md_isUnder_116 ?_
          refine x_il c_Md_isUnder_117 rfl ?_
          first | refine x_iaddN c_Md_isUnder_119 ?_ | refine x_iadd c_Md_isUnder_119 ?_
          refine x_laldN c_Md_isUnder_120 (by first | rfl | exact h0 | exact r3 | exact r4 | exact r5 | exact r6 | exact r7 | exact r8) (by omega) (by omega) ?_
          refine x_lcmp c_Md_isUnder_121 ?_
          refine x_ifL_ne c_Md_isUnder_122 (fun h122 => ?_) (fun h122 => ?_)
          · refine x_ci c_Md_isUnder_129 ?_
            refine x_is [_, _, _, _, _, _, _] c_Md_isUnder_130 rfl ?_
            first | refine x_incN [_, _, _, _, _, _, _] c_Md_isUnder_132 rfl rfl ?_ | refine x_inc [_, _, _, _, _, _, _] c_Md_isUnder_132 rfl rfl ?_
            refine x_goto c_Md_isUnder_135 ?_
            first
              | exact loopF _ _ (i + 1) (by omega) (ud_f (lv_n (j := i) (by omega) (by rw [hho, hbo]; intro q; simp only [Option.some.injEq, Prod.mk.injEq] at q; first | exact h93 q.1 | exact h122 q.2)))
              | exact ih (i + 1) (by omega) (by omega) hlen (fun j j2 => by (by_cases hj : j = i; (subst hj; rw [hho, hbo, h93, h122]); exact hi j (by omega)))
          · refine x_ci c_Md_isUnder_125 ?_
            refine x_goto c_Md_isUnder_126 ?_
            refine x_is [_, _, _, _, _, _, _] c_Md_isUnder_130 rfl ?_
            first | refine x_incN [_, _, _, _, _, _, _] c_Md_isUnder_132 rfl rfl ?_ | refine x_inc [_, _, _, _, _, _, _] c_Md_isUnder_132 rfl rfl ?_
            refine x_goto c_Md_isUnder_135 ?_
            first
              | exact loopF _ _ (i + 1) (by omega) (ud_f (lv_n (j := i) (by omega) (by rw [hho, hbo]; intro q; simp only [Option.some.injEq, Prod.mk.injEq] at q; first | exact h93 q.1 | exact h122 q.2)))
              | exact ih (i + 1) (by omega) (by omega) hlen (fun j j2 => by (by_cases hj : j = i; (subst hj; rw [hho, hbo, h93, h122]); exact hi j (by omega)))
    cases p with
    | true =>
      show kc_X _ _ _ _ [_, _, _, some (.int (-1)), _, _, _] _ _ _
      refine x_al c_Md_isUnder_0 rfl ?_
      refine x_get c_Md_isUnder_1 (by first | rfl | exact h0 | exact r3 | exact r4 | exact r5 | exact r6 | exact r7 | exact r8) rfl ?_
      refine x_il c_Md_isUnder_4 rfl ?_
      refine x_ialdE c_Md_isUnder_5 (by first | rfl | exact h0 | exact r3 | exact r4 | exact r5 | exact r6 | exact r7 | exact r8) (by omega) (by omega) (mm.1) ?_
      refine x_il c_Md_isUnder_6 rfl ?_
      refine x_ifN_ge c_Md_isUnder_7 (by omega) (fun _ => ?_) (fun h => (by exfalso; omega))
      refine x_al c_Md_isUnder_14 rfl ?_
      refine x_get c_Md_isUnder_15 (by first | rfl | exact h0 | exact r3 | exact r4 | exact r5 | exact r6 | exact r7 | exact r8) rfl ?_
      refine x_il c_Md_isUnder_18 rfl ?_
      refine x_ialdE c_Md_isUnder_19 (by first | rfl | exact h0 | exact r3 | exact r4 | exact r5 | exact r6 | exact r7 | exact r8) (by omega) (by omega) (mb.1) ?_
      first | refine x_isubN c_Md_isUnder_20 (by omega) ?_ | refine x_isub c_Md_isUnder_20 ?_
      refine x_is [_, _, _, _, _, _, _] c_Md_isUnder_21 rfl ?_
      refine x_il c_Md_isUnder_23 rfl ?_
      refine x_ifN_le c_Md_isUnder_25 (by omega) (fun h => (by exfalso; omega)) (fun _ => ?_)
      refine x_il c_Md_isUnder_28 rfl ?_
      refine x_if_lt c_Md_isUnder_29 (fun _ => ?_) (fun h => absurd (by decide) h)
      refine x_ci c_Md_isUnder_38 ?_
      refine x_goto c_Md_isUnder_39 ?_
      refine x_is [_, _, _, _, _, _, _] c_Md_isUnder_43 rfl ?_
      refine x_ci c_Md_isUnder_45 ?_
      refine x_is [_, _, _, _, _, _, _] c_Md_isUnder_46 rfl ?_
      exact loop _ _ 0 rfl (by omega) (Or.inl rfl) (fun j j2 => by omega)
    | false =>
      show kc_X _ _ _ _ [_, _, _, some (.int (nI 1)), _, _, _] _ _ _
      refine x_al c_Md_isUnder_0 rfl ?_
      refine x_get c_Md_isUnder_1 (by first | rfl | exact h0 | exact r3 | exact r4 | exact r5 | exact r6 | exact r7 | exact r8) rfl ?_
      refine x_il c_Md_isUnder_4 rfl ?_
      refine x_ialdE c_Md_isUnder_5 (by first | rfl | exact h0 | exact r3 | exact r4 | exact r5 | exact r6 | exact r7 | exact r8) (by omega) (by omega) (mm.1) ?_
      refine x_il c_Md_isUnder_6 rfl ?_
      refine x_ifN_ge c_Md_isUnder_7 (by omega) (fun _ => ?_) (fun h => (by exfalso; omega))
      refine x_al c_Md_isUnder_14 rfl ?_
      refine x_get c_Md_isUnder_15 (by first | rfl | exact h0 | exact r3 | exact r4 | exact r5 | exact r6 | exact r7 | exact r8) rfl ?_
      refine x_il c_Md_isUnder_18 rfl ?_
      refine x_ialdE c_Md_isUnder_19 (by first | rfl | exact h0 | exact r3 | exact r4 | exact r5 | exact r6 | exact r7 | exact r8) (by omega) (by omega) (mb.1) ?_
      first | refine x_isubN c_Md_isUnder_20 (by omega) ?_ | refine x_isub c_Md_isUnder_20 ?_
      refine x_is [_, _, _, _, _, _, _] c_Md_isUnder_21 rfl ?_
      refine x_il c_Md_isUnder_23 rfl ?_
      refine x_ifN_le c_Md_isUnder_25 (by omega) (fun h => (by exfalso; omega)) (fun _ => ?_)
      refine x_il c_Md_isUnder_28 rfl ?_
      refine x_ifN_lt c_Md_isUnder_29 (by omega) (fun h => (by exfalso; omega)) (fun _ => ?_)
      refine x_il c_Md_isUnder_32 rfl ?_
      refine x_il c_Md_isUnder_34 rfl ?_
      first | refine x_cmN_ne c_Md_isUnder_35 (by omega) (by omega) (fun h35 => ?_) (fun h35 => ?_) | refine x_cm_ne c_Md_isUnder_35 (fun h35 => ?_) (fun h35 => ?_)
      · refine x_ci c_Md_isUnder_42 ?_
        refine x_is [_, _, _, _, _, _, _] c_Md_isUnder_43 rfl ?_
        refine x_ci c_Md_isUnder_45 ?_
        refine x_is [_, _, _, _, _, _, _] c_Md_isUnder_46 rfl ?_
        first
          | exact loop _ _ 0 rfl (by omega) (Or.inr h35) (fun j j2 => by omega)
          | exact loopF _ _ 0 (by omega) (ud_1 h35)
      · refine x_ci c_Md_isUnder_38 ?_
        refine x_goto c_Md_isUnder_39 ?_
        refine x_is [_, _, _, _, _, _, _] c_Md_isUnder_43 rfl ?_
        refine x_ci c_Md_isUnder_45 ?_
        refine x_is [_, _, _, _, _, _, _] c_Md_isUnder_46 rfl ?_
        first
          | exact loop _ _ 0 rfl (by omega) (Or.inr h35) (fun j j2 => by omega)
          | exact loopF _ _ 0 (by omega) (ud_1 h35)
  · skip
    refine x_al c_Md_isUnder_0 rfl ?_
    refine x_get c_Md_isUnder_1 (by first | rfl | exact h0 | exact r3 | exact r4 | exact r5 | exact r6 | exact r7 | exact r8) rfl ?_
    refine x_il c_Md_isUnder_4 rfl ?_
    refine x_ialdE c_Md_isUnder_5 (by first | rfl | exact h0 | exact r3 | exact r4 | exact r5 | exact r6 | exact r7 | exact r8) (by omega) (by omega) (mm.1) ?_
    refine x_il c_Md_isUnder_6 rfl ?_
    refine x_ifN_ge c_Md_isUnder_7 (by omega) (fun _ => ?_) (fun h => (by exfalso; omega))
    refine x_al c_Md_isUnder_14 rfl ?_
    refine x_get c_Md_isUnder_15 (by first | rfl | exact h0 | exact r3 | exact r4 | exact r5 | exact r6 | exact r7 | exact r8) rfl ?_
    refine x_il c_Md_isUnder_18 rfl ?_
    refine x_ialdE c_Md_isUnder_19 (by first | rfl | exact h0 | exact r3 | exact r4 | exact r5 | exact r6 | exact r7 | exact r8) (by omega) (by omega) (mb.1) ?_
    refine x_isub c_Md_isUnder_20 ?_
    refine x_is [_, _, _, _, _, _, _] c_Md_isUnder_21 rfl ?_
    refine x_il c_Md_isUnder_23 rfl ?_
    refine x_if_le c_Md_isUnder_25 (fun _ => ?_) (fun h => absurd (nI_neg2 (by omega) (by omega)) h)
    refine x_ci c_Md_isUnder_42 ?_
    refine x_is [_, _, _, _, _, _, _] c_Md_isUnder_43 rfl ?_
    refine x_ci c_Md_isUnder_45 ?_
    refine x_is [_, _, _, _, _, _, _] c_Md_isUnder_46 rfl ?_
    exact loopF _ _ 0 (by omega) (ud_l (by omega))
theorem ud_0 {l : List tv} {p : Bool} (h : 1 ≤ l.length) : ud l [] p = (p || decide (l.length = 1)) := by
  have g : lv l [] = some (l.length - 0) := lv_y (by simp) (fun j hj => by simp at hj)
  rw [ud_s g, decide_eq_true (by omega)]; rfl
set_option maxRecDepth 100000 in
set_option maxHeartbeats 4000000 in
theorem y_Md_isUnder0 (d : Nat) {μ : kc_M} {s : Nat → Int32} {tb : Nat → Nat} {ou : Nat → Int32} {n : Nat} {nm pr : Nat → List tv} (h0 : μ.1 136 = some (ce_Md s)) (hE : mE μ tb ou n nm pr) {e : Nat} (he : e < n) (hne : 1 ≤ (nm e).length) (p : Bool) : kc_Y kt kC (d + 1) j_Md_isUnder [.ref 136, .int (nI e), .int (-1), .int (if p then -1 else nI 1)] μ (fun w μ' => w = some (.int (bI (ud (nm e) [] p))) ∧ μ' = μ) := by
  refine ⟨Nat.le_of_ble_eq_true rfl, ?_⟩
  obtain ⟨pa, pt, pv, pn, qt, qv, ⟨r1, r2, r3, r4, r5, r6, r7, r8⟩, m2, hn16, hw⟩ := hE
  have mm := m2 e he
  have hwe := (hw e he).1
  rw [ud_0 hne]
  cases p with
  | true =>
    show kc_X _ _ _ _ [_, _, _, some (.int (-1)), _, _, _] _ _ _
    refine x_al c_Md_isUnder_0 rfl ?_
    refine x_get c_Md_isUnder_1 (by first | rfl | exact h0 | exact r3 | exact r4 | exact r5 | exact r6 | exact r7 | exact r8) rfl ?_
    refine x_il c_Md_isUnder_4 rfl ?_
    refine x_ialdE c_Md_isUnder_5 (by first | rfl | exact h0 | exact r3 | exact r4 | exact r5 | exact r6 | exact r7 | exact r8) (by omega) (by omega) (mm.1) ?_
    refine x_il c_Md_isUnder_6 rfl ?_
    refine x_if_ge c_Md_isUnder_7 (fun h => absurd h (by decide)) (fun _ => ?_)
    refine x_ci c_Md_isUnder_10 ?_
    refine x_goto c_Md_isUnder_11 ?_
    first | refine x_isubN c_Md_isUnder_20 (by omega) ?_ | refine x_isub c_Md_isUnder_20 ?_
    refine x_is [_, _, _, _, _, _, _] c_Md_isUnder_21 rfl ?_
    refine x_il c_Md_isUnder_23 rfl ?_
    refine x_ifN_le c_Md_isUnder_25 (by omega) (fun h => (by exfalso; omega)) (fun _ => ?_)
    refine x_il c_Md_isUnder_28 rfl ?_
    refine x_if_lt c_Md_isUnder_29 (fun _ => ?_) (fun h => absurd (by decide) h)
    refine x_ci c_Md_isUnder_38 ?_
    refine x_goto c_Md_isUnder_39 ?_
    refine x_is [_, _, _, _, _, _, _] c_Md_isUnder_43 rfl ?_
    refine x_ci c_Md_isUnder_45 ?_
    refine x_is [_, _, _, _, _, _, _] c_Md_isUnder_46 rfl ?_
    refine x_il c_Md_isUnder_48 rfl ?_
    refine x_if_lt c_Md_isUnder_49 (fun _ => ?_) (fun h => absurd (by decide) h)
    refine x_il c_Md_isUnder_138 rfl ?_
    refine x_rz c_Md_isUnder_140 (by first | decide | exact kz_n _) ?_
    exact ⟨rfl, rfl⟩
  | false =>
    show kc_X _ _ _ _ [_, _, _, some (.int (nI 1)), _, _, _] _ _ _
    refine x_al c_Md_isUnder_0 rfl ?_
    refine x_get c_Md_isUnder_1 (by first | rfl | exact h0 | exact r3 | exact r4 | exact r5 | exact r6 | exact r7 | exact r8) rfl ?_
    refine x_il c_Md_isUnder_4 rfl ?_
    refine x_ialdE c_Md_isUnder_5 (by first | rfl | exact h0 | exact r3 | exact r4 | exact r5 | exact r6 | exact r7 | exact r8) (by omega) (by omega) (mm.1) ?_
    refine x_il c_Md_isUnder_6 rfl ?_
    refine x_if_ge c_Md_isUnder_7 (fun h => absurd h (by decide)) (fun _ => ?_)
    refine x_ci c_Md_isUnder_10 ?_
    refine x_goto c_Md_isUnder_11 ?_
    first | refine x_isubN c_Md_isUnder_20 (by omega) ?_ | refine x_isub c_Md_isUnder_20 ?_
    refine x_is [_, _, _, _, _, _, _] c_Md_isUnder_21 rfl ?_
    refine x_il c_Md_isUnder_23 rfl ?_
    refine x_ifN_le c_Md_isUnder_25 (by omega) (fun h => (by exfalso; omega)) (fun _ => ?_)
    refine x_il c_Md_isUnder_28 rfl ?_
    refine x_ifN_lt c_Md_isUnder_29 (by omega) (fun h => (by exfalso; omega)) (fun _ => ?_)
    refine x_il c_Md_isUnder_32 rfl ?_
    refine x_il c_Md_isUnder_34 rfl ?_
    first | refine x_cmN_ne c_Md_isUnder_35 (by omega) (by omega) (fun h35 => ?_) (fun h35 => ?_) | refine x_cm_ne c_Md_isUnder_35 (fun h35 => ?_) (fun h35 => ?_)
    · refine x_ci c_Md_isUnder_42 ?_
      refine x_is [_, _, _, _, _, _, _] c_Md_isUnder_43 rfl ?_
      refine x_ci c_Md_isUnder_45 ?_
      refine x_is [_, _, _, _, _, _, _] c_Md_isUnder_46 rfl ?_
      refine x_il c_Md_isUnder_48 rfl ?_
      refine x_if_lt c_Md_isUnder_49 (fun _ => ?_) (fun h => absurd (by decide) h)
      refine x_il c_Md_isUnder_138 rfl ?_
      refine x_rz c_Md_isUnder_140 (by first | decide | exact kz_n _) ?_
      first | exact ⟨by rw [decide_eq_true (show (nm e).length = 1 from h35)]; rfl, rfl⟩ | exact ⟨by rw [decide_eq_false (show ¬ (nm e).length = 1 from h35)]; rfl, rfl⟩
    · refine x_ci c_Md_isUnder_38 ?_
      refine x_goto c_Md_isUnder_39 ?_
      refine x_is [_, _, _, _, _, _, _] c_Md_isUnder_43 rfl ?_
      refine x_ci c_Md_isUnder_45 ?_
      refine x_is [_, _, _, _, _, _, _] c_Md_isUnder_46 rfl ?_
      refine x_il c_Md_isUnder_48 rfl ?_
      refine x_if_lt c_Md_isUnder_49 (fun _ => ?_) (fun h => absurd (by decide) h)
      refine x_il c_Md_isUnder_138 rfl ?_
      refine x_rz c_Md_isUnder_140 (by first | decide | exact kz_n _) ?_
      first | exact ⟨by rw [decide_eq_true (show (nm e).length = 1 from h35)]; rfl, rfl⟩ | exact ⟨by rw [decide_eq_false (show ¬ (nm e).length = 1 from h35)]; rfl, rfl⟩
