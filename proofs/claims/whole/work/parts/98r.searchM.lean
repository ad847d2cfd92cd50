/-! the reference searches: scope, search -/
theorem scp_1 {l t : List tv} : ud l t false = scp 1 (lv l t) := by
  rw [ud_hc]
  cases lv l t with
  | none => rfl
  | some m =>
    show decide (some m = some 1) = decide (m = 1)
    by_cases h : m = 1
    · rw [decide_eq_true h, decide_eq_true (by rw [h])]
    · rw [decide_eq_false h, decide_eq_false (fun q => h (Option.some.inj q))]
theorem scp_0 {l t : List tv} : scp 0 (lv l t) = decide (t = l) := by
  have h0 := lv_some (l := l) (t := t) (m := 0) (Nat.zero_le _)
  rw [List.drop_zero] at h0
  cases h : lv l t with
  | none =>
    symm
    exact decide_eq_false (fun q => by have := h0.mpr q; rw [h] at this; cases this)
  | some m =>
    show decide (m = 0) = _
    by_cases hm : m = 0
    · subst hm
      rw [decide_eq_true rfl, decide_eq_true (h0.mp h)]
    · rw [decide_eq_false hm, decide_eq_false (fun q => by have := h0.mpr q; rw [h] at this; exact hm (Option.some.inj this))]
theorem scp_2 {l t : List tv} : scp 2 (lv l t) = (decide (t = l) || ud l t true) := by
  have h0 := lv_some (l := l) (t := t) (m := 0) (Nat.zero_le _)
  rw [List.drop_zero] at h0
  cases h : lv l t with
  | none =>
    rw [ud_f h, decide_eq_false (fun q => by have := h0.mpr q; rw [h] at this; cases this)]; rfl
  | some m =>
    rw [ud_s h]
    show true = _
    by_cases hm : m = 0
    · subst hm
      rw [decide_eq_true (h0.mp h)]; rfl
    · rw [decide_eq_true (show 0 < m by omega)]; simp
theorem nmS_e {tb : Nat → Nat} {a e : Nat} {l : List tv} (h : a = e) (h2 : nmS tb a e = some l) : l = [] := by
  unfold nmS at h2
  rw [if_pos h] at h2
  exact (Option.some.inj h2).symm
set_option maxRecDepth 100000 in
set_option maxHeartbeats 4000000 in
theorem y_Md_inScope (d : Nat) {μ : kc_M} {s : Nat → Int32} (h0 : μ.1 136 = some (ce_Md s)) {tb : Nat → Nat} {ou : Nat → Int32} {n : Nat} {nm pr : Nat → List tv} (hE : mE μ tb ou n nm pr) (hne : ∀ e, e < n → 1 ≤ (nm e).length) (hdi : ∀ i j, i < n → j < n → nm i = nm j → i = j) {e : Nat} (he : e < n) {sc : Nat} (h28 : s 28 = nI sc) (hs : sc ≤ 2) {l : List tv} {bv : Int32} (hb : (l = [] ∧ bv = -1) ∨ ∃ b, b < n ∧ bv = nI b ∧ nm b = l) : kc_Y kt kC (d + 2) j_Md_inScope [.ref 136, .int (nI e), .int bv] μ (fun w μ' => w = some (.int (bI (scp sc (lv (nm e) l)))) ∧ μ' = μ) := by
  refine ⟨Nat.le_of_ble_eq_true rfl, ?_⟩
  have hn16 : n ≤ 16 := by obtain ⟨_, _, _, _, _, _, _, _, h9, _⟩ := hE; exact h9
  rcases hb with ⟨rfl, rfl⟩ | ⟨b, hb, rfl, rfl⟩
  · have hu1 := y_Md_isUnder0 d h0 hE he (hne e he) false
    have hu2 := y_Md_isUnder0 d h0 hE he (hne e he) true
    have hu1 : kc_Y kt kC (d + 1) j_Md_isUnder [.ref 136, .int (nI e), .int (-1), .int (nI 1)] μ (fun w μ' => w = some (.int (bI (ud (nm e) [] false))) ∧ μ' = μ) := hu1
    have hu2 : kc_Y kt kC (d + 1) j_Md_isUnder [.ref 136, .int (nI e), .int (-1), .int (-1)] μ (fun w μ' => w = some (.int (bI (ud (nm e) [] true))) ∧ μ' = μ) := hu2
    have hno : ¬ ([] : List tv) = nm e := fun q => by have := hne e he; rw [← q] at this; exact absurd this (by decide)
    generalize hl : ([] : List tv) = l at *
    rcases (by omega : sc = 0 ∨ sc = 1 ∨ sc = 2) with rfl | rfl | rfl
    · skip
      refine x_al c_Md_inScope_0 rfl ?_
      refine x_getE c_Md_inScope_1 (by first | rfl | exact h0) rfl (by first | exact h28 | rfl) ?_
      refine x_ci c_Md_inScope_4 ?_
      refine x_cmN_ne c_Md_inScope_5 (by omega) (by omega) (fun _ => ?_) (fun h => (by exfalso; omega))
      refine x_il c_Md_inScope_16 rfl ?_
      refine x_if_lt c_Md_inScope_17 (fun _ => ?_) (fun h => absurd (by decide) h)
      refine x_al c_Md_inScope_25 rfl ?_
      refine x_getE c_Md_inScope_26 (by first | rfl | exact h0) rfl (by first | exact h28 | rfl) ?_
      refine x_ci c_Md_inScope_29 ?_
      refine x_cmN_ne c_Md_inScope_30 (by omega) (by omega) (fun _ => ?_) (fun h => (by exfalso; omega))
      refine x_ci c_Md_inScope_47 ?_
      refine x_rz c_Md_inScope_48 (by first | decide | exact kz_n _) ?_
      exact ⟨by rw [scp_0, decide_eq_false hno] <;> rfl, rfl⟩
    · skip
      refine x_al c_Md_inScope_0 rfl ?_
      refine x_getE c_Md_inScope_1 (by first | rfl | exact h0) rfl (by first | exact h28 | rfl) ?_
      refine x_ci c_Md_inScope_4 ?_
      refine x_cmN_ne c_Md_inScope_5 (by omega) (by omega) (fun h => (by exfalso; omega)) (fun _ => ?_)
      refine x_al c_Md_inScope_8 rfl ?_
      refine x_il c_Md_inScope_9 rfl ?_
      refine x_il c_Md_inScope_10 rfl ?_
      refine x_ci c_Md_inScope_11 ?_
      refine x_cv3z _ c_Md_inScope_12 (by first | rfl | exact h0) (Nat.le_of_ble_eq_true rfl) (hu1) ?_
      rintro _ μx ⟨rfl, hμx⟩
      have hμx := hμx.symm
      subst hμx
      show kc_X _ _ _ _ _ [.int (bI (ud (nm e) l false))] _ _
      refine x_rz c_Md_inScope_15 (by first | decide | exact kz_n _) ?_
      exact ⟨by rw [scp_1], rfl⟩
    · skip
      refine x_al c_Md_inScope_0 rfl ?_
      refine x_getE c_Md_inScope_1 (by first | rfl | exact h0) rfl (by first | exact h28 | rfl) ?_
      refine x_ci c_Md_inScope_4 ?_
      refine x_cmN_ne c_Md_inScope_5 (by omega) (by omega) (fun _ => ?_) (fun h => (by exfalso; omega))
      refine x_il c_Md_inScope_16 rfl ?_
      refine x_if_lt c_Md_inScope_17 (fun _ => ?_) (fun h => absurd (by decide) h)
      refine x_al c_Md_inScope_25 rfl ?_
      refine x_getE c_Md_inScope_26 (by first | rfl | exact h0) rfl (by first | exact h28 | rfl) ?_
      refine x_ci c_Md_inScope_29 ?_
      refine x_cmN_ne c_Md_inScope_30 (by omega) (by omega) (fun h => (by exfalso; omega)) (fun _ => ?_)
      refine x_al c_Md_inScope_33 rfl ?_
      refine x_il c_Md_inScope_34 rfl ?_
      refine x_il c_Md_inScope_35 rfl ?_
      refine x_ci c_Md_inScope_36 ?_
      refine x_cv3z _ c_Md_inScope_37 (by first | rfl | exact h0) (Nat.le_of_ble_eq_true rfl) (hu2) ?_
      rintro _ μx ⟨rfl, hμx⟩
      have hμx := hμx.symm
      subst hμx
      show kc_X _ _ _ _ _ [.int (bI (ud (nm e) l true))] _ _
      refine x_ifB_eq c_Md_inScope_40 (fun h40 => ?_) (fun h40 => ?_)
      · refine x_ci c_Md_inScope_47 ?_
        refine x_rz c_Md_inScope_48 (by first | decide | exact kz_n _) ?_
        first | exact ⟨by rw [scp_2, h40, Bool.or_true] <;> rfl, rfl⟩ | exact ⟨by rw [scp_2, h40, decide_eq_false hno] <;> rfl, rfl⟩
      · refine x_ci c_Md_inScope_43 ?_
        refine x_goto c_Md_inScope_44 ?_
        refine x_rz c_Md_inScope_48 (by first | decide | exact kz_n _) ?_
        first | exact ⟨by rw [scp_2, h40, Bool.or_true] <;> rfl, rfl⟩ | exact ⟨by rw [scp_2, h40, decide_eq_false hno] <;> rfl, rfl⟩
  · have hu1 := y_Md_isUnder d h0 hE he hb false
    have hu2 := y_Md_isUnder d h0 hE he hb true
    have hu1 : kc_Y kt kC (d + 1) j_Md_isUnder [.ref 136, .int (nI e), .int (nI b), .int (nI 1)] μ (fun w μ' => w = some (.int (bI (ud (nm e) (nm b) false))) ∧ μ' = μ) := hu1
    have hu2 : kc_Y kt kC (d + 1) j_Md_isUnder [.ref 136, .int (nI e), .int (nI b), .int (-1)] μ (fun w μ' => w = some (.int (bI (ud (nm e) (nm b) true))) ∧ μ' = μ) := hu2
    have heq : e = b ↔ nm b = nm e := ⟨fun q => by rw [q], fun q => hdi e b he hb q.symm⟩
    generalize hl : nm b = l at *
    rcases (by omega : sc = 0 ∨ sc = 1 ∨ sc = 2) with rfl | rfl | rfl
    · skip
      refine x_al c_Md_inScope_0 rfl ?_
      refine x_getE c_Md_inScope_1 (by first | rfl | exact h0) rfl (by first | exact h28 | rfl) ?_
      refine x_ci c_Md_inScope_4 ?_
      refine x_cmN_ne c_Md_inScope_5 (by omega) (by omega) (fun _ => ?_) (fun h => (by exfalso; omega))
      refine x_il c_Md_inScope_16 rfl ?_
      refine x_ifN_lt c_Md_inScope_17 (by omega) (fun h => (by exfalso; omega)) (fun _ => ?_)
      refine x_il c_Md_inScope_20 rfl ?_
      refine x_il c_Md_inScope_21 rfl ?_
      refine x_cmN_eq c_Md_inScope_22 (by omega) (by omega) (fun h22 => ?_) (fun h22 => ?_)
      · refine x_ci c_Md_inScope_43 ?_
        refine x_goto c_Md_inScope_44 ?_
        refine x_rz c_Md_inScope_48 (by first | decide | exact kz_n _) ?_
        first | exact ⟨by rw [scp_0, decide_eq_true (heq.mp h22)] <;> rfl, rfl⟩ | exact ⟨by rw [scp_0, decide_eq_false (fun q => h22 (heq.mpr q))] <;> rfl, rfl⟩
      · refine x_al c_Md_inScope_25 rfl ?_
        refine x_getE c_Md_inScope_26 (by first | rfl | exact h0) rfl (by first | exact h28 | rfl) ?_
        refine x_ci c_Md_inScope_29 ?_
        refine x_cmN_ne c_Md_inScope_30 (by omega) (by omega) (fun _ => ?_) (fun h => (by exfalso; omega))
        refine x_ci c_Md_inScope_47 ?_
        refine x_rz c_Md_inScope_48 (by first | decide | exact kz_n _) ?_
        first | exact ⟨by rw [scp_0, decide_eq_true (heq.mp h22)] <;> rfl, rfl⟩ | exact ⟨by rw [scp_0, decide_eq_false (fun q => h22 (heq.mpr q))] <;> rfl, rfl⟩
    · skip
      refine x_al c_Md_inScope_0 rfl ?_
      refine x_getE c_Md_inScope_1 (by first | rfl | exact h0) rfl (by first | exact h28 | rfl) ?_
      refine x_ci c_Md_inScope_4 ?_
      refine x_cmN_ne c_Md_inScope_5 (by omega) (by omega) (fun h => (by exfalso; omega)) (fun _ => ?_)
      refine x_al c_Md_inScope_8 rfl ?_
      refine x_il c_Md_inScope_9 rfl ?_
      refine x_il c_Md_inScope_10 rfl ?_
      refine x_ci c_Md_inScope_11 ?_
      refine x_cv3z _ c_Md_inScope_12 (by first | rfl | exact h0) (Nat.le_of_ble_eq_true rfl) (hu1) ?_
      rintro _ μx ⟨rfl, hμx⟩
      have hμx := hμx.symm
      subst hμx
      show kc_X _ _ _ _ _ [.int (bI (ud (nm e) l false))] _ _
      refine x_rz c_Md_inScope_15 (by first | decide | exact kz_n _) ?_
      exact ⟨by rw [scp_1], rfl⟩
    · skip
      refine x_al c_Md_inScope_0 rfl ?_
      refine x_getE c_Md_inScope_1 (by first | rfl | exact h0) rfl (by first | exact h28 | rfl) ?_
      refine x_ci c_Md_inScope_4 ?_
      refine x_cmN_ne c_Md_inScope_5 (by omega) (by omega) (fun _ => ?_) (fun h => (by exfalso; omega))
      refine x_il c_Md_inScope_16 rfl ?_
      refine x_ifN_lt c_Md_inScope_17 (by omega) (fun h => (by exfalso; omega)) (fun _ => ?_)
      refine x_il c_Md_inScope_20 rfl ?_
      refine x_il c_Md_inScope_21 rfl ?_
      refine x_cmN_eq c_Md_inScope_22 (by omega) (by omega) (fun h22 => ?_) (fun h22 => ?_)
      · refine x_ci c_Md_inScope_43 ?_
        refine x_goto c_Md_inScope_44 ?_
        refine x_rz c_Md_inScope_48 (by first | decide | exact kz_n _) ?_
        first | exact ⟨by rw [scp_2, decide_eq_true (heq.mp h22)] <;> rfl, rfl⟩ | exact ⟨by rw [scp_2, h40, Bool.or_true] <;> rfl, rfl⟩ | exact ⟨by rw [scp_2, h40, decide_eq_false (fun q => h22 (heq.mpr q))] <;> rfl, rfl⟩
      · refine x_al c_Md_inScope_25 rfl ?_
        refine x_getE c_Md_inScope_26 (by first | rfl | exact h0) rfl (by first | exact h28 | rfl) ?_
        refine x_ci c_Md_inScope_29 ?_
        refine x_cmN_ne c_Md_inScope_30 (by omega) (by omega) (fun h => (by exfalso; omega)) (fun _ => ?_)
        refine x_al c_Md_inScope_33 rfl ?_
        refine x_il c_Md_inScope_34 rfl ?_
        refine x_il c_Md_inScope_35 rfl ?_
        refine x_ci c_Md_inScope_36 ?_
        refine x_cv3z _ c_Md_inScope_37 (by first | rfl | exact h0) (Nat.le_of_ble_eq_true rfl) (hu2) ?_
        rintro _ μx ⟨rfl, hμx⟩
        have hμx := hμx.symm
        subst hμx
        show kc_X _ _ _ _ _ [.int (bI (ud (nm e) l true))] _ _
        refine x_ifB_eq c_Md_inScope_40 (fun h40 => ?_) (fun h40 => ?_)
        · refine x_ci c_Md_inScope_47 ?_
          refine x_rz c_Md_inScope_48 (by first | decide | exact kz_n _) ?_
          first | exact ⟨by rw [scp_2, decide_eq_true (heq.mp h22)] <;> rfl, rfl⟩ | exact ⟨by rw [scp_2, h40, Bool.or_true] <;> rfl, rfl⟩ | exact ⟨by rw [scp_2, h40, decide_eq_false (fun q => h22 (heq.mpr q))] <;> rfl, rfl⟩
        · refine x_ci c_Md_inScope_43 ?_
          refine x_goto c_Md_inScope_44 ?_
          refine x_rz c_Md_inScope_48 (by first | decide | exact kz_n _) ?_
          first | exact ⟨by rw [scp_2, decide_eq_true (heq.mp h22)] <;> rfl, rfl⟩ | exact ⟨by rw [scp_2, h40, Bool.or_true] <;> rfl, rfl⟩ | exact ⟨by rw [scp_2, h40, decide_eq_false (fun q => h22 (heq.mpr q))] <;> rfl, rfl⟩
/-- what a search changes, but for the name -/
def mQ (μ μ' : kc_M) (s s' : Nat → Int32) (L : List Int32) : Prop := μ'.1 136 = some (ce_Md s') ∧ (∀ i, i ≠ 5 → s' i = s i) ∧ (∀ q, q ≠ 136 → q ≠ 138 → q ≠ 156 → μ'.1 q = μ.1 q) ∧ oL μ' s' L ∧ ∃ f, μ'.1 156 = some (ce_I 20 f)
theorem mE_q {μ μ' : kc_M} {s s' : Nat → Int32} {L : List Int32} {tb : Nat → Nat} {ou : Nat → Int32} {n : Nat} {nm pr : Nat → List tv} (h : mE μ tb ou n nm pr) (hc : mQ μ μ' s s' L) : ∃ ou', mE μ' tb ou' n nm pr := by
  obtain ⟨_, _, ou', q, _⟩ := hc.2.2.2.1
  obtain ⟨pa, pt, pv, pn, qt, qv, ⟨r1, r2, r3, r4, r5, r6, r7, r8⟩, m⟩ := h
  have f := hc.2.2.1
  exact ⟨ou', pa, pt, pv, pn, qt, qv, ⟨(f 137 (by decide) (by decide) (by decide)).trans r1, q, (f 139 (by decide) (by decide) (by decide)).trans r3, (f 140 (by decide) (by decide) (by decide)).trans r4, (f 141 (by decide) (by decide) (by decide)).trans r5, (f 142 (by decide) (by decide) (by decide)).trans r6, (f 143 (by decide) (by decide) (by decide)).trans r7, (f 144 (by decide) (by decide) (by decide)).trans r8⟩, m⟩
theorem oL_k {μ μ' : kc_M} {s : Nat → Int32} {L : List Int32} (h : oL μ s L) (hk : μ'.1 138 = μ.1 138) : oL μ' s L := by
  obtain ⟨a, b, ou, c, d⟩ := h
  exact ⟨a, b, ou, hk.trans c, d⟩
set_option maxRecDepth 100000 in
set_option maxHeartbeats 4000000 in
theorem y_Md_searchLoop (d : Nat) {μ : kc_M} {s : Nat → Int32} (h0 : μ.1 136 = some (ce_Md s)) {tb : Nat → Nat} {ou : Nat → Int32} {n : Nat} {nm pr : Nat → List tv} (hE : mE μ tb ou n nm pr) (hne : ∀ e, e < n → 1 ≤ (nm e).length) (hdi : ∀ i j, i < n → j < n → nm i = nm j → i = j) {k : Nat} (hk : k < 2 ^ 31) (h16 : s 16 = nI k) (h6 : s 6 = nI n) {sc : Nat} (hs2 : sc ≤ 2) (h28 : s 28 = nI sc) {li : Int32} (hli : ¬ li < 0) (h29' : s 29 = li) {ta : Bool} (h30 : s 30 = bI ta) {W : List Int32} (h31 : s 31 = mkL 0 W) (h32 : s 32 = nI W.length) (hW12 : W.length ≤ 12) {G : Fo} (h40 : s 40 = nI (fsz G)) (h20 : fsz G ≤ 20) (hG : ∃ t ty v F, G = Fo.cons t ty v F Fo.nil) (hW : flW G) {wf af tf : Nat → Int32} {vf : Nat → Int64} (hA : fmA μ wf af tf vf) (hen : enM wf af tf vf G (-1) 0) (hV : ∃ f, μ.1 156 = some (ce_I 20 f)) (hgd : ∀ e, e < n → gd (pr e)) {L : List Int32} (hL : oL μ s L) (hL284 : L.length ≤ 284) {l : List tv} {bv : Int32} (hbase : (l = [] ∧ bv = -1) ∨ ∃ b, b < n ∧ bv = nI b ∧ nm b = l) (jn : Option Value) (Q : Option Value → kc_M → Prop) (hQ : ∀ w, w = some (.int (nI (srC (liN li) (seR n nm pr k sc li ta G W l L)))) → ∀ (μ' : kc_M) (s' : Nat → Int32), mQ μ μ' s s' (seR n nm pr k sc li ta G W l L).2.2 → Q w μ') : ∀ (m e fo : Nat) (ro : Bool) (L1 : List Int32) (μ1 : kc_M) (s1 : Nat → Int32), n - e = m → e ≤ n → fo ≤ e → L1.length ≤ 284 → mQ μ μ1 s s1 L1 → srF (selB sc l G nm pr) (fun e => enB k ta W (nm e) (pr e)) (liN li) m e fo ro L1 = (seR n nm pr k sc li ta G W l L) → kc_X (kC j_Md_search) (kc_Y kt kC (d + 5)) Q 54 [some (.ref 136), jn, some (.int bv), some (.int (nI fo)), some (.int (bI (!ro))), some (.int (nI e))] [] μ1 (0, 0) := by
  obtain ⟨hnl, hlt⟩ := liN_i hli
  have h29 : s 29 = nI (liN li) := by rw [hnl]; exact h29'
  have hn16 : n ≤ 16 := by obtain ⟨_, _, _, _, _, _, _, _, h9, _⟩ := hE; exact h9
  have main : ∀ (m e fo : Nat) (ro : Bool) (L1 : List Int32) (μ1 : kc_M) (s1 : Nat → Int32), n - e = m → e ≤ n → fo ≤ e → L1.length ≤ 284 → mQ μ μ1 s s1 L1 → srF (selB sc l G nm pr) (fun e => enB k ta W (nm e) (pr e)) (liN li) m e fo ro L1 = (seR n nm pr k sc li ta G W l L) → kc_X (kC j_Md_search) (kc_Y kt kC (d + 5)) Q 54 [some (.ref 136), jn, some (.int bv), some (.int (nI fo)), some (.int (bI (!ro))), some (.int (nI e))] [] μ1 (0, 0) := by
    intro m
    induction m with
    | zero =>
      intro e fo ro L1 μ1 s1 hm he hfo hL1 cc hR
      have q0 := cc.1
      have e6 := (cc.2.1 6 (by decide)).trans h6
      have e28 := (cc.2.1 28 (by decide)).trans h28
      have e29 := (cc.2.1 29 (by decide)).trans h29
      have e30 := (cc.2.1 30 (by decide)).trans h30
      have e31 := (cc.2.1 31 (by decide)).trans h31
      have e32 := (cc.2.1 32 (by decide)).trans h32
      have e40 := (cc.2.1 40 (by decide)).trans h40
      have e16 := (cc.2.1 16 (by decide)).trans h16
      have hR : (fo, ro, L1) = (seR n nm pr k sc li ta G W l L) := hR
      have hc1 : srC (liN li) (fo, ro, L1) = if wln (liN li) fo = true then (if ro = true then 0 else 11) else 4 := rfl
      have hlt := hlt
      by_cases hwl : wln (liN li) fo = true
      · have hw2 : (liN li) = 0 ∨ fo ≤ (liN li) := by unfold wln at hwl; simp only [Bool.or_eq_true, decide_eq_true_eq] at hwl; exact hwl
        cases hro : ro with
        | true =>
          have hv : srC (liN li) (seR n nm pr k sc li ta G W l L) = 0 := by rw [← hR, hc1, if_pos hwl, if_pos hro]
          refine x_il c_Md_search_54 rfl ?_
          refine x_al c_Md_search_56 rfl ?_
          refine x_getE c_Md_search_57 (by first | rfl | exact q0) rfl (by first | exact e6 | exact e29 | rfl) ?_
          refine x_cmN_ge c_Md_search_60 (by omega) (by omega) (fun _ => ?_) (fun h => (by exfalso; omega))
          refine x_al c_Md_search_127 rfl ?_
          refine x_getE c_Md_search_128 (by first | rfl | exact q0) rfl (by first | exact e6 | exact e29 | rfl) ?_
          refine x_ifN_le c_Md_search_131 (by omega) (fun h131 => ?_) (fun h131 => ?_)
          · refine x_il c_Md_search_146 rfl ?_
            refine x_if_eq c_Md_search_148 (fun _ => ?_) (fun h => absurd (by decide) h)
            refine x_ci c_Md_search_156 ?_
            refine x_ri c_Md_search_157 ?_
            first | (exfalso; omega) | exact hQ _ (by rw [hv] <;> rfl) μ1 s1 (by rw [← hR]; exact cc)
          · refine x_il c_Md_search_134 rfl ?_
            refine x_al c_Md_search_135 rfl ?_
            refine x_getE c_Md_search_136 (by first | rfl | exact q0) rfl (by first | exact e6 | exact e29 | rfl) ?_
            refine x_cmN_le c_Md_search_139 (by omega) (by omega) (fun h139 => ?_) (fun h139 => ?_)
            · refine x_il c_Md_search_146 rfl ?_
              refine x_if_eq c_Md_search_148 (fun _ => ?_) (fun h => absurd (by decide) h)
              refine x_ci c_Md_search_156 ?_
              refine x_ri c_Md_search_157 ?_
              first | (exfalso; omega) | exact hQ _ (by rw [hv] <;> rfl) μ1 s1 (by rw [← hR]; exact cc)
            · refine x_ci c_Md_search_142 ?_
              refine x_goto c_Md_search_143 ?_
              refine x_ri c_Md_search_157 ?_
              first | (exfalso; omega) | exact hQ _ (by rw [hv] <;> rfl) μ1 s1 (by rw [← hR]; exact cc)
        | false =>
          have hv : srC (liN li) (seR n nm pr k sc li ta G W l L) = 11 := by rw [← hR, hc1, if_pos hwl, if_neg (by rw [hro]; decide)]
          refine x_il c_Md_search_54 rfl ?_
          refine x_al c_Md_search_56 rfl ?_
          refine x_getE c_Md_search_57 (by first | rfl | exact q0) rfl (by first | exact e6 | exact e29 | rfl) ?_
          refine x_cmN_ge c_Md_search_60 (by omega) (by omega) (fun _ => ?_) (fun h => (by exfalso; omega))
          refine x_al c_Md_search_127 rfl ?_
          refine x_getE c_Md_search_128 (by first | rfl | exact q0) rfl (by first | exact e6 | exact e29 | rfl) ?_
          refine x_ifN_le c_Md_search_131 (by omega) (fun h131 => ?_) (fun h131 => ?_)
          · refine x_il c_Md_search_146 rfl ?_
            refine x_if_eq c_Md_search_148 (fun h => absurd h (by decide)) (fun _ => ?_)
            refine x_ci c_Md_search_151 ?_
            refine x_goto c_Md_search_153 ?_
            refine x_ri c_Md_search_157 ?_
            first | (exfalso; omega) | exact hQ _ (by rw [hv] <;> rfl) μ1 s1 (by rw [← hR]; exact cc)
          · refine x_il c_Md_search_134 rfl ?_
            refine x_al c_Md_search_135 rfl ?_
            refine x_getE c_Md_search_136 (by first | rfl | exact q0) rfl (by first | exact e6 | exact e29 | rfl) ?_
            refine x_cmN_le c_Md_search_139 (by omega) (by omega) (fun h139 => ?_) (fun h139 => ?_)
            · refine x_il c_Md_search_146 rfl ?_
              refine x_if_eq c_Md_search_148 (fun h => absurd h (by decide)) (fun _ => ?_)
              refine x_ci c_Md_search_151 ?_
              refine x_goto c_Md_search_153 ?_
              refine x_ri c_Md_search_157 ?_
              first | (exfalso; omega) | exact hQ _ (by rw [hv] <;> rfl) μ1 s1 (by rw [← hR]; exact cc)
            · refine x_ci c_Md_search_142 ?_
              refine x_goto c_Md_search_143 ?_
              refine x_ri c_Md_search_157 ?_
              first | (exfalso; omega) | exact hQ _ (by rw [hv] <;> rfl) μ1 s1 (by rw [← hR]; exact cc)
      · have hw2 : ¬ ((liN li) = 0 ∨ fo ≤ (liN li)) := fun q => hwl (by unfold wln; simp only [Bool.or_eq_true, decide_eq_true_eq]; exact q)
        have hv : srC (liN li) (seR n nm pr k sc li ta G W l L) = 4 := by rw [← hR, hc1, if_neg hwl]
        refine x_il c_Md_search_54 rfl ?_
        refine x_al c_Md_search_56 rfl ?_
        refine x_getE c_Md_search_57 (by first | rfl | exact q0) rfl (by first | exact e6 | exact e29 | rfl) ?_
        refine x_cmN_ge c_Md_search_60 (by omega) (by omega) (fun _ => ?_) (fun h => (by exfalso; omega))
        refine x_al c_Md_search_127 rfl ?_
        refine x_getE c_Md_search_128 (by first | rfl | exact q0) rfl (by first | exact e6 | exact e29 | rfl) ?_
        refine x_ifN_le c_Md_search_131 (by omega) (fun h => (by exfalso; omega)) (fun _ => ?_)
        refine x_il c_Md_search_134 rfl ?_
        refine x_al c_Md_search_135 rfl ?_
        refine x_getE c_Md_search_136 (by first | rfl | exact q0) rfl (by first | exact e6 | exact e29 | rfl) ?_
        refine x_cmN_le c_Md_search_139 (by omega) (by omega) (fun h => (by exfalso; omega)) (fun _ => ?_)
        refine x_ci c_Md_search_142 ?_
        refine x_goto c_Md_search_143 ?_
        refine x_ri c_Md_search_157 ?_
        exact hQ _ (by rw [hv] <;> rfl) μ1 s1 (by rw [← hR]; exact cc)
    | succ m ih =>
      intro e fo ro L1 μ1 s1 hm he hfo hL1 cc hR
      have q0 := cc.1
      have e6 := (cc.2.1 6 (by decide)).trans h6
      have e28 := (cc.2.1 28 (by decide)).trans h28
      have e29 := (cc.2.1 29 (by decide)).trans h29
      have e30 := (cc.2.1 30 (by decide)).trans h30
      have e31 := (cc.2.1 31 (by decide)).trans h31
      have e32 := (cc.2.1 32 (by decide)).trans h32
      have e40 := (cc.2.1 40 (by decide)).trans h40
      have e16 := (cc.2.1 16 (by decide)).trans h16
      obtain ⟨ou1, hE1⟩ := mE_q hE cc
      have hA1 := fmA_k hA (μ' := μ1) (fun q q1 q2 => cc.2.2.1 q (by omega) (by omega) (by omega))
      obtain ⟨vr1, hV1⟩ := cc.2.2.2.2
      rw [srF_s] at hR
      have hlt := hlt
      by_cases hsel : selB sc l G nm pr e = true
      · have hsA := hsel
        unfold selB at hsA
        rw [Bool.and_eq_true] at hsA
        rw [if_pos hsel] at hR
        by_cases hwl : wln (liN li) (fo + 1) = true
        · have hw2 : (liN li) = 0 ∨ fo + 1 ≤ (liN li) := by unfold wln at hwl; simp only [Bool.or_eq_true, decide_eq_true_eq] at hwl; exact hwl
          cases hro : ro with
          | true =>
            rw [if_pos ⟨hro, hwl⟩] at hR
            by_cases hfit : fitB L1 (enB k ta W (nm e) (pr e)) = true
            · rw [if_pos hfit] at hR
              have hf2 := of_decide_eq_true hfit
              refine x_il c_Md_search_54 rfl ?_
              refine x_al c_Md_search_56 rfl ?_
              refine x_getE c_Md_search_57 (by first | rfl | exact q0) rfl (by first | exact e6 | exact e29 | rfl) ?_
              refine x_cmN_ge c_Md_search_60 (by omega) (by omega) (fun h => (by exfalso; omega)) (fun _ => ?_)
              refine x_al c_Md_search_63 rfl ?_
              refine x_il c_Md_search_64 rfl ?_
              refine x_il c_Md_search_66 rfl ?_
              refine x_cv2z _ c_Md_search_67 (by first | rfl | exact q0) (Nat.le_of_ble_eq_true rfl) (y_Md_inScope (d + 3) q0 hE1 hne hdi (by omega) e28 hs2 hbase) ?_
              rintro _ μx ⟨rfl, hμx⟩
              have hμx := hμx.symm
              subst hμx
              show kc_X _ _ _ _ _ [.int (bI (scp sc (lv (nm e) l)))] _ _
              refine x_if_eq c_Md_search_70 (fun h => absurd h (by rw [hsA.1]; decide)) (fun _ => ?_)
              refine x_al c_Md_search_73 rfl ?_
              refine x_il c_Md_search_74 rfl ?_
              refine x_cv1z _ c_Md_search_76 (by first | rfl | exact q0) (Nat.le_of_ble_eq_true rfl) (y_Md_matches (d + 2) q0 hA1 hE1 (by omega) (hgd e (by omega)) hV1 e40 h20 hG hen hW) ?_
              rintro _ μ2 ⟨rfl, ⟨vr2, hV2⟩, f2⟩
              have cc : mQ μ μ2 s s1 L1 := ⟨(f2 136 (by decide)).trans q0, cc.2.1, fun q q1 q2 q3 => (f2 q q3).trans (cc.2.2.1 q q1 q2 q3), oL_k cc.2.2.2.1 (f2 138 (by decide)), vr2, hV2⟩
              have q0 := cc.1
              obtain ⟨ou2, hE2⟩ := mE_q hE cc
              show kc_X _ _ _ _ _ [.int (bI (decide ((evF (pr e) G).headD 0 = 2)))] _ _
              refine x_if_eq c_Md_search_79 (fun h => absurd h (by rw [hsA.2]; decide)) (fun _ => ?_)
              first | refine x_incN [_, _, _, _, _, _] c_Md_search_82 rfl rfl ?_ | refine x_inc [_, _, _, _, _, _] c_Md_search_82 rfl rfl ?_
              refine x_il c_Md_search_85 rfl ?_
              refine x_if_ne c_Md_search_87 (fun h => absurd (by decide) h) (fun _ => ?_)
              refine x_al c_Md_search_90 rfl ?_
              refine x_getE c_Md_search_91 (by first | rfl | exact q0) rfl (by first | exact e6 | exact e29 | rfl) ?_
              refine x_ifN_eq c_Md_search_94 (by omega) (fun h94 => ?_) (fun h94 => ?_)
              · refine x_al c_Md_search_105 rfl ?_
                refine x_il c_Md_search_106 rfl ?_
                refine x_cv1z _ c_Md_search_108 (by first | rfl | exact q0) (Nat.le_of_ble_eq_true rfl) (y_Md_show d q0 hE2 (e := e) (by omega) cc.2.2.2.1 hL1 hk e16 e30 e31 e32 hW12) ?_
                rintro _ μ3 ⟨rfl, s3, c3⟩
                have cc' : mQ μ μ3 s s3 (if fitB L1 (enB k ta W (nm e) (pr e)) = true then L1 ++ enB k ta W (nm e) (pr e) else L1) := ⟨c3.1, fun i hi => (c3.2.1 i hi).trans (cc.2.1 i hi), fun q q1 q2 q3 => (c3.2.2.1 q q1 q2).trans (cc.2.2.1 q q1 q2 q3), c3.2.2.2, vr2, (c3.2.2.1 156 (by decide) (by decide)).trans hV2⟩
                show kc_X _ _ _ _ _ [.int (bI (fitB L1 (enB k ta W (nm e) (pr e))))] _ _
                refine x_if_ne c_Md_search_111 (fun _ => ?_) (fun h => absurd h (by rw [hfit]; decide))
                refine x_ci c_Md_search_118 ?_
                refine x_is [_, _, _, _, _, _] c_Md_search_119 rfl ?_
                first | refine x_incN [_, _, _, _, _, _] c_Md_search_121 rfl rfl ?_ | refine x_inc [_, _, _, _, _, _] c_Md_search_121 rfl rfl ?_
                refine x_goto c_Md_search_124 ?_
                first | (exfalso; omega) | exact ih (e + 1) (fo + 1) true _ _ _ (by omega) (by omega) (by omega) (by rw [List.length_append]; exact hf2.2) (by rw [if_pos hfit] at cc'; exact cc') hR
              · refine x_il c_Md_search_97 rfl ?_
                refine x_al c_Md_search_98 rfl ?_
                refine x_getE c_Md_search_99 (by first | rfl | exact q0) rfl (by first | exact e6 | exact e29 | rfl) ?_
                refine x_cmN_gt c_Md_search_102 (by omega) (by omega) (fun h102 => ?_) (fun h102 => ?_)
                · first | refine x_incN [_, _, _, _, _, _] c_Md_search_121 rfl rfl ?_ | refine x_inc [_, _, _, _, _, _] c_Md_search_121 rfl rfl ?_
                  refine x_goto c_Md_search_124 ?_
                  first | (exfalso; omega) | exact ih (e + 1) (fo + 1) true _ _ _ (by omega) (by omega) (by omega) (by rw [List.length_append]; exact hf2.2) (by rw [if_pos hfit] at cc'; exact cc') hR
                · refine x_al c_Md_search_105 rfl ?_
                  refine x_il c_Md_search_106 rfl ?_
                  refine x_cv1z _ c_Md_search_108 (by first | rfl | exact q0) (Nat.le_of_ble_eq_true rfl) (y_Md_show d q0 hE2 (e := e) (by omega) cc.2.2.2.1 hL1 hk e16 e30 e31 e32 hW12) ?_
                  rintro _ μ3 ⟨rfl, s3, c3⟩
                  have cc' : mQ μ μ3 s s3 (if fitB L1 (enB k ta W (nm e) (pr e)) = true then L1 ++ enB k ta W (nm e) (pr e) else L1) := ⟨c3.1, fun i hi => (c3.2.1 i hi).trans (cc.2.1 i hi), fun q q1 q2 q3 => (c3.2.2.1 q q1 q2).trans (cc.2.2.1 q q1 q2 q3), c3.2.2.2, vr2, (c3.2.2.1 156 (by decide) (by decide)).trans hV2⟩
                  show kc_X _ _ _ _ _ [.int (bI (fitB L1 (enB k ta W (nm e) (pr e))))] _ _
                  refine x_if_ne c_Md_search_111 (fun _ => ?_) (fun h => absurd h (by rw [hfit]; decide))
                  refine x_ci c_Md_search_118 ?_
                  refine x_is [_, _, _, _, _, _] c_Md_search_119 rfl ?_
                  first | refine x_incN [_, _, _, _, _, _] c_Md_search_121 rfl rfl ?_ | refine x_inc [_, _, _, _, _, _] c_Md_search_121 rfl rfl ?_
                  refine x_goto c_Md_search_124 ?_
                  first | (exfalso; omega) | exact ih (e + 1) (fo + 1) true _ _ _ (by omega) (by omega) (by omega) (by rw [List.length_append]; exact hf2.2) (by rw [if_pos hfit] at cc'; exact cc') hR
            · rw [if_neg hfit] at hR
              have hff : fitB L1 (enB k ta W (nm e) (pr e)) = false := by revert hfit; cases fitB L1 (enB k ta W (nm e) (pr e)) <;> simp
              refine x_il c_Md_search_54 rfl ?_
              refine x_al c_Md_search_56 rfl ?_
              refine x_getE c_Md_search_57 (by first | rfl | exact q0) rfl (by first | exact e6 | exact e29 | rfl) ?_
              refine x_cmN_ge c_Md_search_60 (by omega) (by omega) (fun h => (by exfalso; omega)) (fun _ => ?_)
              refine x_al c_Md_search_63 rfl ?_
              refine x_il c_Md_search_64 rfl ?_
              refine x_il c_Md_search_66 rfl ?_
              refine x_cv2z _ c_Md_search_67 (by first | rfl | exact q0) (Nat.le_of_ble_eq_true rfl) (y_Md_inScope (d + 3) q0 hE1 hne hdi (by omega) e28 hs2 hbase) ?_
              rintro _ μx ⟨rfl, hμx⟩
              have hμx := hμx.symm
              subst hμx
              show kc_X _ _ _ _ _ [.int (bI (scp sc (lv (nm e) l)))] _ _
              refine x_if_eq c_Md_search_70 (fun h => absurd h (by rw [hsA.1]; decide)) (fun _ => ?_)
              refine x_al c_Md_search_73 rfl ?_
              refine x_il c_Md_search_74 rfl ?_
              refine x_cv1z _ c_Md_search_76 (by first | rfl | exact q0) (Nat.le_of_ble_eq_true rfl) (y_Md_matches (d + 2) q0 hA1 hE1 (by omega) (hgd e (by omega)) hV1 e40 h20 hG hen hW) ?_
              rintro _ μ2 ⟨rfl, ⟨vr2, hV2⟩, f2⟩
              have cc : mQ μ μ2 s s1 L1 := ⟨(f2 136 (by decide)).trans q0, cc.2.1, fun q q1 q2 q3 => (f2 q q3).trans (cc.2.2.1 q q1 q2 q3), oL_k cc.2.2.2.1 (f2 138 (by decide)), vr2, hV2⟩
              have q0 := cc.1
              obtain ⟨ou2, hE2⟩ := mE_q hE cc
              show kc_X _ _ _ _ _ [.int (bI (decide ((evF (pr e) G).headD 0 = 2)))] _ _
              refine x_if_eq c_Md_search_79 (fun h => absurd h (by rw [hsA.2]; decide)) (fun _ => ?_)
              first | refine x_incN [_, _, _, _, _, _] c_Md_search_82 rfl rfl ?_ | refine x_inc [_, _, _, _, _, _] c_Md_search_82 rfl rfl ?_
              refine x_il c_Md_search_85 rfl ?_
              refine x_if_ne c_Md_search_87 (fun h => absurd (by decide) h) (fun _ => ?_)
              refine x_al c_Md_search_90 rfl ?_
              refine x_getE c_Md_search_91 (by first | rfl | exact q0) rfl (by first | exact e6 | exact e29 | rfl) ?_
              refine x_ifN_eq c_Md_search_94 (by omega) (fun h94 => ?_) (fun h94 => ?_)
              · refine x_al c_Md_search_105 rfl ?_
                refine x_il c_Md_search_106 rfl ?_
                refine x_cv1z _ c_Md_search_108 (by first | rfl | exact q0) (Nat.le_of_ble_eq_true rfl) (y_Md_show d q0 hE2 (e := e) (by omega) cc.2.2.2.1 hL1 hk e16 e30 e31 e32 hW12) ?_
                rintro _ μ3 ⟨rfl, s3, c3⟩
                have cc' : mQ μ μ3 s s3 (if fitB L1 (enB k ta W (nm e) (pr e)) = true then L1 ++ enB k ta W (nm e) (pr e) else L1) := ⟨c3.1, fun i hi => (c3.2.1 i hi).trans (cc.2.1 i hi), fun q q1 q2 q3 => (c3.2.2.1 q q1 q2).trans (cc.2.2.1 q q1 q2 q3), c3.2.2.2, vr2, (c3.2.2.1 156 (by decide) (by decide)).trans hV2⟩
                show kc_X _ _ _ _ _ [.int (bI (fitB L1 (enB k ta W (nm e) (pr e))))] _ _
                refine x_if_ne c_Md_search_111 (fun h => absurd (by rw [hff]; rfl) h) (fun _ => ?_)
                refine x_ci c_Md_search_114 ?_
                refine x_goto c_Md_search_115 ?_
                refine x_is [_, _, _, _, _, _] c_Md_search_119 rfl ?_
                first | refine x_incN [_, _, _, _, _, _] c_Md_search_121 rfl rfl ?_ | refine x_inc [_, _, _, _, _, _] c_Md_search_121 rfl rfl ?_
                refine x_goto c_Md_search_124 ?_
                first | (exfalso; omega) | exact ih (e + 1) (fo + 1) false _ _ _ (by omega) (by omega) (by omega) hL1 (by rw [if_neg hfit] at cc'; exact cc') hR
              · refine x_il c_Md_search_97 rfl ?_
                refine x_al c_Md_search_98 rfl ?_
                refine x_getE c_Md_search_99 (by first | rfl | exact q0) rfl (by first | exact e6 | exact e29 | rfl) ?_
                refine x_cmN_gt c_Md_search_102 (by omega) (by omega) (fun h102 => ?_) (fun h102 => ?_)
                · first | refine x_incN [_, _, _, _, _, _] c_Md_search_121 rfl rfl ?_ | refine x_inc [_, _, _, _, _, _] c_Md_search_121 rfl rfl ?_
                  refine x_goto c_Md_search_124 ?_
                  first | (exfalso; omega) | exact ih (e + 1) (fo + 1) false _ _ _ (by omega) (by omega) (by omega) hL1 (by rw [if_neg hfit] at cc'; exact cc') hR
                · refine x_al c_Md_search_105 rfl ?_
                  refine x_il c_Md_search_106 rfl ?_
                  refine x_cv1z _ c_Md_search_108 (by first | rfl | exact q0) (Nat.le_of_ble_eq_true rfl) (y_Md_show d q0 hE2 (e := e) (by omega) cc.2.2.2.1 hL1 hk e16 e30 e31 e32 hW12) ?_
                  rintro _ μ3 ⟨rfl, s3, c3⟩
                  have cc' : mQ μ μ3 s s3 (if fitB L1 (enB k ta W (nm e) (pr e)) = true then L1 ++ enB k ta W (nm e) (pr e) else L1) := ⟨c3.1, fun i hi => (c3.2.1 i hi).trans (cc.2.1 i hi), fun q q1 q2 q3 => (c3.2.2.1 q q1 q2).trans (cc.2.2.1 q q1 q2 q3), c3.2.2.2, vr2, (c3.2.2.1 156 (by decide) (by decide)).trans hV2⟩
                  show kc_X _ _ _ _ _ [.int (bI (fitB L1 (enB k ta W (nm e) (pr e))))] _ _
                  refine x_if_ne c_Md_search_111 (fun h => absurd (by rw [hff]; rfl) h) (fun _ => ?_)
                  refine x_ci c_Md_search_114 ?_
                  refine x_goto c_Md_search_115 ?_
                  refine x_is [_, _, _, _, _, _] c_Md_search_119 rfl ?_
                  first | refine x_incN [_, _, _, _, _, _] c_Md_search_121 rfl rfl ?_ | refine x_inc [_, _, _, _, _, _] c_Md_search_121 rfl rfl ?_
                  refine x_goto c_Md_search_124 ?_
                  first | (exfalso; omega) | exact ih (e + 1) (fo + 1) false _ _ _ (by omega) (by omega) (by omega) hL1 (by rw [if_neg hfit] at cc'; exact cc') hR
          | false =>
            rw [if_neg (fun q => by rw [hro] at q; cases q.1), hro] at hR
            refine x_il c_Md_search_54 rfl ?_
            refine x_al c_Md_search_56 rfl ?_
            refine x_getE c_Md_search_57 (by first | rfl | exact q0) rfl (by first | exact e6 | exact e29 | rfl) ?_
            refine x_cmN_ge c_Md_search_60 (by omega) (by omega) (fun h => (by exfalso; omega)) (fun _ => ?_)
            refine x_al c_Md_search_63 rfl ?_
            refine x_il c_Md_search_64 rfl ?_
            refine x_il c_Md_search_66 rfl ?_
            refine x_cv2z _ c_Md_search_67 (by first | rfl | exact q0) (Nat.le_of_ble_eq_true rfl) (y_Md_inScope (d + 3) q0 hE1 hne hdi (by omega) e28 hs2 hbase) ?_
            rintro _ μx ⟨rfl, hμx⟩
            have hμx := hμx.symm
            subst hμx
            show kc_X _ _ _ _ _ [.int (bI (scp sc (lv (nm e) l)))] _ _
            refine x_if_eq c_Md_search_70 (fun h => absurd h (by rw [hsA.1]; decide)) (fun _ => ?_)
            refine x_al c_Md_search_73 rfl ?_
            refine x_il c_Md_search_74 rfl ?_
            refine x_cv1z _ c_Md_search_76 (by first | rfl | exact q0) (Nat.le_of_ble_eq_true rfl) (y_Md_matches (d + 2) q0 hA1 hE1 (by omega) (hgd e (by omega)) hV1 e40 h20 hG hen hW) ?_
            rintro _ μ2 ⟨rfl, ⟨vr2, hV2⟩, f2⟩
            have cc : mQ μ μ2 s s1 L1 := ⟨(f2 136 (by decide)).trans q0, cc.2.1, fun q q1 q2 q3 => (f2 q q3).trans (cc.2.2.1 q q1 q2 q3), oL_k cc.2.2.2.1 (f2 138 (by decide)), vr2, hV2⟩
            have q0 := cc.1
            obtain ⟨ou2, hE2⟩ := mE_q hE cc
            show kc_X _ _ _ _ _ [.int (bI (decide ((evF (pr e) G).headD 0 = 2)))] _ _
            refine x_if_eq c_Md_search_79 (fun h => absurd h (by rw [hsA.2]; decide)) (fun _ => ?_)
            first | refine x_incN [_, _, _, _, _, _] c_Md_search_82 rfl rfl ?_ | refine x_inc [_, _, _, _, _, _] c_Md_search_82 rfl rfl ?_
            refine x_il c_Md_search_85 rfl ?_
            refine x_if_ne c_Md_search_87 (fun _ => ?_) (fun h => absurd h (by decide))
            first | refine x_incN [_, _, _, _, _, _] c_Md_search_121 rfl rfl ?_ | refine x_inc [_, _, _, _, _, _] c_Md_search_121 rfl rfl ?_
            refine x_goto c_Md_search_124 ?_
            exact ih (e + 1) (fo + 1) false L1 _ _ (by omega) (by omega) (by omega) hL1 cc hR
        · have hw2 : ¬ ((liN li) = 0 ∨ fo + 1 ≤ (liN li)) := fun q => hwl (by unfold wln; simp only [Bool.or_eq_true, decide_eq_true_eq]; exact q)
          rw [if_neg (fun q => hwl q.2)] at hR
          cases hro : ro with
          | true =>
            rw [hro] at hR
            refine x_il c_Md_search_54 rfl ?_
            refine x_al c_Md_search_56 rfl ?_
            refine x_getE c_Md_search_57 (by first | rfl | exact q0) rfl (by first | exact e6 | exact e29 | rfl) ?_
            refine x_cmN_ge c_Md_search_60 (by omega) (by omega) (fun h => (by exfalso; omega)) (fun _ => ?_)
            refine x_al c_Md_search_63 rfl ?_
            refine x_il c_Md_search_64 rfl ?_
            refine x_il c_Md_search_66 rfl ?_
            refine x_cv2z _ c_Md_search_67 (by first | rfl | exact q0) (Nat.le_of_ble_eq_true rfl) (y_Md_inScope (d + 3) q0 hE1 hne hdi (by omega) e28 hs2 hbase) ?_
            rintro _ μx ⟨rfl, hμx⟩
            have hμx := hμx.symm
            subst hμx
            show kc_X _ _ _ _ _ [.int (bI (scp sc (lv (nm e) l)))] _ _
            refine x_if_eq c_Md_search_70 (fun h => absurd h (by rw [hsA.1]; decide)) (fun _ => ?_)
            refine x_al c_Md_search_73 rfl ?_
            refine x_il c_Md_search_74 rfl ?_
            refine x_cv1z _ c_Md_search_76 (by first | rfl | exact q0) (Nat.le_of_ble_eq_true rfl) (y_Md_matches (d + 2) q0 hA1 hE1 (by omega) (hgd e (by omega)) hV1 e40 h20 hG hen hW) ?_
            rintro _ μ2 ⟨rfl, ⟨vr2, hV2⟩, f2⟩
            have cc : mQ μ μ2 s s1 L1 := ⟨(f2 136 (by decide)).trans q0, cc.2.1, fun q q1 q2 q3 => (f2 q q3).trans (cc.2.2.1 q q1 q2 q3), oL_k cc.2.2.2.1 (f2 138 (by decide)), vr2, hV2⟩
            have q0 := cc.1
            obtain ⟨ou2, hE2⟩ := mE_q hE cc
            show kc_X _ _ _ _ _ [.int (bI (decide ((evF (pr e) G).headD 0 = 2)))] _ _
            refine x_if_eq c_Md_search_79 (fun h => absurd h (by rw [hsA.2]; decide)) (fun _ => ?_)
            first | refine x_incN [_, _, _, _, _, _] c_Md_search_82 rfl rfl ?_ | refine x_inc [_, _, _, _, _, _] c_Md_search_82 rfl rfl ?_
            refine x_il c_Md_search_85 rfl ?_
            refine x_if_ne c_Md_search_87 (fun h => absurd (by decide) h) (fun _ => ?_)
            refine x_al c_Md_search_90 rfl ?_
            refine x_getE c_Md_search_91 (by first | rfl | exact q0) rfl (by first | exact e6 | exact e29 | rfl) ?_
            refine x_ifN_eq c_Md_search_94 (by omega) (fun h => (by exfalso; omega)) (fun _ => ?_)
            refine x_il c_Md_search_97 rfl ?_
            refine x_al c_Md_search_98 rfl ?_
            refine x_getE c_Md_search_99 (by first | rfl | exact q0) rfl (by first | exact e6 | exact e29 | rfl) ?_
            refine x_cmN_gt c_Md_search_102 (by omega) (by omega) (fun _ => ?_) (fun h => (by exfalso; omega))
            first | refine x_incN [_, _, _, _, _, _] c_Md_search_121 rfl rfl ?_ | refine x_inc [_, _, _, _, _, _] c_Md_search_121 rfl rfl ?_
            refine x_goto c_Md_search_124 ?_
            exact ih (e + 1) (fo + 1) true L1 _ _ (by omega) (by omega) (by omega) hL1 cc hR
          | false =>
            rw [hro] at hR
            refine x_il c_Md_search_54 rfl ?_
            refine x_al c_Md_search_56 rfl ?_
            refine x_getE c_Md_search_57 (by first | rfl | exact q0) rfl (by first | exact e6 | exact e29 | rfl) ?_
            refine x_cmN_ge c_Md_search_60 (by omega) (by omega) (fun h => (by exfalso; omega)) (fun _ => ?_)
            refine x_al c_Md_search_63 rfl ?_
            refine x_il c_Md_search_64 rfl ?_
            refine x_il c_Md_search_66 rfl ?_
            refine x_cv2z _ c_Md_search_67 (by first | rfl | exact q0) (Nat.le_of_ble_eq_true rfl) (y_Md_inScope (d + 3) q0 hE1 hne hdi (by omega) e28 hs2 hbase) ?_
            rintro _ μx ⟨rfl, hμx⟩
            have hμx := hμx.symm
            subst hμx
            show kc_X _ _ _ _ _ [.int (bI (scp sc (lv (nm e) l)))] _ _
            refine x_if_eq c_Md_search_70 (fun h => absurd h (by rw [hsA.1]; decide)) (fun _ => ?_)
            refine x_al c_Md_search_73 rfl ?_
            refine x_il c_Md_search_74 rfl ?_
            refine x_cv1z _ c_Md_search_76 (by first | rfl | exact q0) (Nat.le_of_ble_eq_true rfl) (y_Md_matches (d + 2) q0 hA1 hE1 (by omega) (hgd e (by omega)) hV1 e40 h20 hG hen hW) ?_
            rintro _ μ2 ⟨rfl, ⟨vr2, hV2⟩, f2⟩
            have cc : mQ μ μ2 s s1 L1 := ⟨(f2 136 (by decide)).trans q0, cc.2.1, fun q q1 q2 q3 => (f2 q q3).trans (cc.2.2.1 q q1 q2 q3), oL_k cc.2.2.2.1 (f2 138 (by decide)), vr2, hV2⟩
            have q0 := cc.1
            obtain ⟨ou2, hE2⟩ := mE_q hE cc
            show kc_X _ _ _ _ _ [.int (bI (decide ((evF (pr e) G).headD 0 = 2)))] _ _
            refine x_if_eq c_Md_search_79 (fun h => absurd h (by rw [hsA.2]; decide)) (fun _ => ?_)
            first | refine x_incN [_, _, _, _, _, _] c_Md_search_82 rfl rfl ?_ | refine x_inc [_, _, _, _, _, _] c_Md_search_82 rfl rfl ?_
            refine x_il c_Md_search_85 rfl ?_
            refine x_if_ne c_Md_search_87 (fun _ => ?_) (fun h => absurd h (by decide))
            first | refine x_incN [_, _, _, _, _, _] c_Md_search_121 rfl rfl ?_ | refine x_inc [_, _, _, _, _, _] c_Md_search_121 rfl rfl ?_
            refine x_goto c_Md_search_124 ?_
            exact ih (e + 1) (fo + 1) false L1 _ _ (by omega) (by omega) (by omega) hL1 cc hR
      · rw [if_neg hsel] at hR
        by_cases hs1 : scp sc (lv (nm e) l) = true
        · have hsB : decide ((evF (pr e) G).headD 0 = 2) = false := by
            unfold selB at hsel
            rw [hs1, Bool.true_and] at hsel
            revert hsel
            cases decide ((evF (pr e) G).headD 0 = 2) <;> simp
          refine x_il c_Md_search_54 rfl ?_
          refine x_al c_Md_search_56 rfl ?_
          refine x_getE c_Md_search_57 (by first | rfl | exact q0) rfl (by first | exact e6 | exact e29 | rfl) ?_
          refine x_cmN_ge c_Md_search_60 (by omega) (by omega) (fun h => (by exfalso; omega)) (fun _ => ?_)
          refine x_al c_Md_search_63 rfl ?_
          refine x_il c_Md_search_64 rfl ?_
          refine x_il c_Md_search_66 rfl ?_
          refine x_cv2z _ c_Md_search_67 (by first | rfl | exact q0) (Nat.le_of_ble_eq_true rfl) (y_Md_inScope (d + 3) q0 hE1 hne hdi (by omega) e28 hs2 hbase) ?_
          rintro _ μx ⟨rfl, hμx⟩
          have hμx := hμx.symm
          subst hμx
          show kc_X _ _ _ _ _ [.int (bI (scp sc (lv (nm e) l)))] _ _
          refine x_if_eq c_Md_search_70 (fun h => absurd h (by rw [hs1]; decide)) (fun _ => ?_)
          refine x_al c_Md_search_73 rfl ?_
          refine x_il c_Md_search_74 rfl ?_
          refine x_cv1z _ c_Md_search_76 (by first | rfl | exact q0) (Nat.le_of_ble_eq_true rfl) (y_Md_matches (d + 2) q0 hA1 hE1 (by omega) (hgd e (by omega)) hV1 e40 h20 hG hen hW) ?_
          rintro _ μ2 ⟨rfl, ⟨vr2, hV2⟩, f2⟩
          have cc : mQ μ μ2 s s1 L1 := ⟨(f2 136 (by decide)).trans q0, cc.2.1, fun q q1 q2 q3 => (f2 q q3).trans (cc.2.2.1 q q1 q2 q3), oL_k cc.2.2.2.1 (f2 138 (by decide)), vr2, hV2⟩
          have q0 := cc.1
          obtain ⟨ou2, hE2⟩ := mE_q hE cc
          show kc_X _ _ _ _ _ [.int (bI (decide ((evF (pr e) G).headD 0 = 2)))] _ _
          refine x_if_eq c_Md_search_79 (fun _ => ?_) (fun h => absurd (by rw [hsB]; rfl) h)
          first | refine x_incN [_, _, _, _, _, _] c_Md_search_121 rfl rfl ?_ | refine x_inc [_, _, _, _, _, _] c_Md_search_121 rfl rfl ?_
          refine x_goto c_Md_search_124 ?_
          exact ih (e + 1) fo ro L1 _ _ (by omega) (by omega) (by omega) hL1 cc hR
        · have hsC : scp sc (lv (nm e) l) = false := by revert hs1; cases scp sc (lv (nm e) l) <;> simp
          refine x_il c_Md_search_54 rfl ?_
          refine x_al c_Md_search_56 rfl ?_
          refine x_getE c_Md_search_57 (by first | rfl | exact q0) rfl (by first | exact e6 | exact e29 | rfl) ?_
          refine x_cmN_ge c_Md_search_60 (by omega) (by omega) (fun h => (by exfalso; omega)) (fun _ => ?_)
          refine x_al c_Md_search_63 rfl ?_
          refine x_il c_Md_search_64 rfl ?_
          refine x_il c_Md_search_66 rfl ?_
          refine x_cv2z _ c_Md_search_67 (by first | rfl | exact q0) (Nat.le_of_ble_eq_true rfl) (y_Md_inScope (d + 3) q0 hE1 hne hdi (by omega) e28 hs2 hbase) ?_
          rintro _ μx ⟨rfl, hμx⟩
          have hμx := hμx.symm
          subst hμx
          show kc_X _ _ _ _ _ [.int (bI (scp sc (lv (nm e) l)))] _ _
          refine x_if_eq c_Md_search_70 (fun _ => ?_) (fun h => absurd (by rw [hsC]; rfl) h)
          first | refine x_incN [_, _, _, _, _, _] c_Md_search_121 rfl rfl ?_ | refine x_inc [_, _, _, _, _, _] c_Md_search_121 rfl rfl ?_
          refine x_goto c_Md_search_124 ?_
          exact ih (e + 1) fo ro L1 μ1 s1 (by omega) (by omega) (by omega) hL1 cc hR
  exact main
set_option maxRecDepth 100000 in
set_option maxHeartbeats 4000000 in
theorem y_Md_search (d : Nat) {μ : kc_M} {s : Nat → Int32} (h0 : μ.1 136 = some (ce_Md s)) {tb : Nat → Nat} {ou : Nat → Int32} {n : Nat} {nm pr : Nat → List tv} (hE : mE μ tb ou n nm pr) (hne : ∀ e, e < n → 1 ≤ (nm e).length) (hdi : ∀ i j, i < n → j < n → nm i = nm j → i = j) (htb : ∀ j, tb j < 256) (m1 : ∃ f, μ.1 145 = some (ce_I 4 f)) (m2 : ∃ f, μ.1 146 = some (ce_L 4 f)) {x2 y2 : Nat} (h23 : s 23 = nI x2) (h24 : s 24 = nI y2) (hxy : x2 ≤ y2) (hy2 : y2 ≤ 200) {k : Nat} (hk : k < 2 ^ 31) (h16 : s 16 = nI k) (h6 : s 6 = nI n) {sc : Nat} (hs2 : sc ≤ 2) (h28 : s 28 = nI sc) {li : Int32} (hli : ¬ li < 0) (h29' : s 29 = li) {ta : Bool} (h30 : s 30 = bI ta) {W : List Int32} (h31 : s 31 = mkL 0 W) (h32 : s 32 = nI W.length) (hW12 : W.length ≤ 12) {G : Fo} (h40 : s 40 = nI (fsz G)) (h20 : fsz G ≤ 20) (hG : ∃ t ty v F, G = Fo.cons t ty v F Fo.nil) (hW : flW G) {wf af tf : Nat → Int32} {vf : Nat → Int64} (hA : fmA μ wf af tf vf) (hen : enM wf af tf vf G (-1) 0) (hV : ∃ f, μ.1 156 = some (ce_I 20 f)) (hgd : ∀ e, e < n → gd (pr e)) {L : List Int32} (hL : oL μ s L) (hL284 : L.length ≤ 284) : kc_Y kt kC (d + 6) j_Md_search [.ref 136] μ (fun w μ' => w = some (.int (nI (seK tb n nm pr k L (some (x2, y2, sc, li, ta, G, W))).1)) ∧ ∃ s', (μ'.1 136 = some (ce_Md s') ∧ (∀ i, i ≠ 5 → i ≠ 20 → s' i = s i) ∧ (∀ q, q ≠ 136 → q ≠ 138 → q ≠ 145 → q ≠ 146 → q ≠ 156 → μ'.1 q = μ.1 q)) ∧ oL μ' s' (seK tb n nm pr k L (some (x2, y2, sc, li, ta, G, W))).2 ∧ (∃ f, μ'.1 156 = some (ce_I 20 f)) ∧ ∃ l', mN μ' s' l' ∧ ((seK tb n nm pr k L (some (x2, y2, sc, li, ta, G, W))).1 = 32 → nmS tb x2 y2 = some l')) := by
  refine ⟨Nat.le_of_ble_eq_true rfl, ?_⟩
  have hn16 : n ≤ 16 := by obtain ⟨_, _, _, _, _, _, _, _, h9, _⟩ := hE; exact h9
  have h137 : μ.1 137 = some (ce_I 200 (fun j => nI (tb j))) := by obtain ⟨_, _, _, _, _, _, ⟨r1, _⟩, _⟩ := hE; exact r1
  refine x_al c_Md_search_0 rfl ?_
  refine x_al c_Md_search_1 rfl ?_
  refine x_getE c_Md_search_2 (by first | rfl | exact h0) rfl (by first | exact h23 | exact h24 | rfl) ?_
  refine x_al c_Md_search_5 rfl ?_
  refine x_getE c_Md_search_6 (by first | rfl | exact h0) rfl (by first | exact h23 | exact h24 | rfl) ?_
  refine x_cv2z _ c_Md_search_9 (by first | rfl | exact h0) (Nat.le_of_ble_eq_true rfl) (y_Md_takeName (d + 2) h0 h137 htb m1 m2 (a := x2) (e := y2) hxy hy2) ?_
  rintro w μ1 ⟨s1, l, hc1, ⟨ho, rfl⟩ | ⟨ho, rfl⟩⟩
  · have hE1 := mE_k hE (μ' := μ1) (fun q q1 q2 => hc1.2.2.1 q (by omega) (by omega) (by omega))
    have hA1 := fmA_k hA (μ' := μ1) (fun q q1 q2 => hc1.2.2.1 q (by omega) (by omega) (by omega))
    have hL1 : oL μ1 s1 L := by obtain ⟨a, b, ou9, c, d9⟩ := hL; exact ⟨(hc1.2.1 5 (by decide)).trans a, b, ou9, (hc1.2.2.1 138 (by decide) (by decide) (by decide)).trans c, d9⟩
    have hV1 : ∃ f, μ1.1 156 = some (ce_I 20 f) := by obtain ⟨f, q⟩ := hV; exact ⟨f, (hc1.2.2.1 156 (by decide) (by decide) (by decide)).trans q⟩
    by_cases hxe : x2 = y2
    · have hl0 : l = [] := nmS_e hxe ho
      have hK : (seK tb n nm pr k L (some (x2, y2, sc, li, ta, G, W))) = (srC (liN li) (seR n nm pr k sc li ta G W l L), (seR n nm pr k sc li ta G W l L).2.2) := by unfold seK; dsimp only; rw [ho]; dsimp only; rw [if_neg (fun q => by rw [hl0] at q; exact absurd q.1 (by decide))]
      rw [if_pos hxe]
      show kc_X _ _ _ _ _ [.int (nI 0)] _ _
      refine x_is [_, _, _, _, _, _] c_Md_search_12 rfl ?_
      refine x_il c_Md_search_13 rfl ?_
      refine x_ifN_ge c_Md_search_14 (by omega) (fun _ => ?_) (fun h => (by exfalso; omega))
      refine x_il c_Md_search_20 rfl ?_
      refine x_ifN_ne c_Md_search_21 (by omega) (fun h => (by exfalso; omega)) (fun _ => ?_)
      refine x_ci c_Md_search_24 ?_
      refine x_goto c_Md_search_25 ?_
      refine x_is [_, _, _, _, _, _] c_Md_search_33 rfl ?_
      refine x_il c_Md_search_34 rfl ?_
      refine x_ci c_Md_search_35 ?_
      refine x_cmN_ne c_Md_search_36 (by omega) (by omega) (fun _ => ?_) (fun h => (by exfalso; omega))
      refine x_ci c_Md_search_46 ?_
      refine x_is [_, _, _, _, _, _] c_Md_search_47 rfl ?_
      refine x_ci c_Md_search_48 ?_
      refine x_is [_, _, _, _, _, _] c_Md_search_49 rfl ?_
      refine x_ci c_Md_search_51 ?_
      refine x_is [_, _, _, _, _, _] c_Md_search_52 rfl ?_
      exact (y_Md_searchLoop d (μ := μ1) (s := s1) hc1.1 hE1 hne hdi hk ((hc1.2.1 16 (by decide)).trans h16) ((hc1.2.1 6 (by decide)).trans h6) hs2 ((hc1.2.1 28 (by decide)).trans h28) hli ((hc1.2.1 29 (by decide)).trans h29') ((hc1.2.1 30 (by decide)).trans h30) ((hc1.2.1 31 (by decide)).trans h31) ((hc1.2.1 32 (by decide)).trans h32) hW12 ((hc1.2.1 40 (by decide)).trans h40) h20 hG hW hA1 hen hV1 hgd hL1 hL284 (l := l) (Or.inl ⟨hl0, rfl⟩) _ _ (fun w hw μ' s' hq => ⟨by rw [hK]; exact hw, s', ⟨hq.1, fun i i1 i2 => (hq.2.1 i i1).trans (hc1.2.1 i i2), fun q q1 q2 q3 q4 q5 => (hq.2.2.1 q q1 q2 q5).trans (hc1.2.2.1 q q1 q3 q4)⟩, by rw [hK]; exact hq.2.2.2.1, hq.2.2.2.2, l, mN_k hc1.2.2.2 (hq.2.1 20 (by decide)) (hq.2.2.1 145 (by decide) (by decide) (by decide)) (hq.2.2.1 146 (by decide) (by decide) (by decide)), fun q => absurd q (by rw [hK]; have := srC_lt (liN li) (seR n nm pr k sc li ta G W l L); show ¬ srC _ _ = 32; omega)⟩) n 0 0 true L μ1 s1 rfl (Nat.zero_le _) (Nat.le_refl _) hL284 ⟨hc1.1, fun _ _ => rfl, fun _ _ _ _ => rfl, hL1, hV1⟩ rfl)
    · have hl0 : l ≠ [] := fun q => hxe (nmS_nil (by rw [← q]; exact ho))
      have hl1 : 0 < l.length := List.length_pos_iff.mpr hl0
      rw [if_neg hxe]
      show kc_X _ _ _ _ _ [.int (nI 1)] _ _
      cases hfd : fd nm l n 0 with
      | none =>
        have hK : (seK tb n nm pr k L (some (x2, y2, sc, li, ta, G, W))) = (32, L) := by unfold seK; dsimp only; rw [ho]; dsimp only; rw [if_pos ⟨hl1, hfd⟩]
        refine x_is [_, _, _, _, _, _] c_Md_search_12 rfl ?_
        refine x_il c_Md_search_13 rfl ?_
        refine x_ifN_ge c_Md_search_14 (by omega) (fun _ => ?_) (fun h => (by exfalso; omega))
        refine x_il c_Md_search_20 rfl ?_
        refine x_ifN_ne c_Md_search_21 (by omega) (fun _ => ?_) (fun h => (by exfalso; omega))
        refine x_al c_Md_search_28 rfl ?_
        refine x_ci c_Md_search_29 ?_
        refine x_cv1z _ c_Md_search_30 (by first | rfl | exact hc1.1) (Nat.le_of_ble_eq_true rfl) (y_Md_find (d + 3) hc1.1 hE1 ((hc1.2.1 6 (by decide)).trans h6) hc1.2.2.2 (k := 0) (by omega)) ?_
        rintro _ μx ⟨rfl, hμx⟩
        have hμx := hμx.symm
        subst hμx
        show kc_X _ _ _ _ _ [.int (oI (fd nm l n 0))] _ _
        rw [hfd]
        show kc_X _ _ _ _ _ [.int (-1)] _ _
        refine x_is [_, _, _, _, _, _] c_Md_search_33 rfl ?_
        refine x_il c_Md_search_34 rfl ?_
        refine x_ci c_Md_search_35 ?_
        refine x_cmN_ne c_Md_search_36 (by omega) (by omega) (fun h => (by exfalso; omega)) (fun _ => ?_)
        refine x_il c_Md_search_39 rfl ?_
        refine x_if_ge c_Md_search_40 (fun h => absurd h (by decide)) (fun _ => ?_)
        refine x_ci c_Md_search_43 ?_
        refine x_ri c_Md_search_45 ?_
        exact ⟨by rw [hK], s1, ⟨hc1.1, fun i _ i2 => hc1.2.1 i i2, fun q q1 _ q3 q4 _ => hc1.2.2.1 q q1 q3 q4⟩, by rw [hK]; exact hL1, hV1, l, hc1.2.2.2, fun _ => ho⟩
      | some b =>
        have hfi := fd_in hfd
        rw [Nat.zero_add] at hfi
        have hK : (seK tb n nm pr k L (some (x2, y2, sc, li, ta, G, W))) = (srC (liN li) (seR n nm pr k sc li ta G W l L), (seR n nm pr k sc li ta G W l L).2.2) := by unfold seK; dsimp only; rw [ho]; dsimp only; rw [if_neg (fun q => by rw [hfd] at q; cases q.2)]
        refine x_is [_, _, _, _, _, _] c_Md_search_12 rfl ?_
        refine x_il c_Md_search_13 rfl ?_
        refine x_ifN_ge c_Md_search_14 (by omega) (fun _ => ?_) (fun h => (by exfalso; omega))
        refine x_il c_Md_search_20 rfl ?_
        refine x_ifN_ne c_Md_search_21 (by omega) (fun _ => ?_) (fun h => (by exfalso; omega))
        refine x_al c_Md_search_28 rfl ?_
        refine x_ci c_Md_search_29 ?_
        refine x_cv1z _ c_Md_search_30 (by first | rfl | exact hc1.1) (Nat.le_of_ble_eq_true rfl) (y_Md_find (d + 3) hc1.1 hE1 ((hc1.2.1 6 (by decide)).trans h6) hc1.2.2.2 (k := 0) (by omega)) ?_
        rintro _ μx ⟨rfl, hμx⟩
        have hμx := hμx.symm
        subst hμx
        show kc_X _ _ _ _ _ [.int (oI (fd nm l n 0))] _ _
        rw [hfd]
        show kc_X _ _ _ _ _ [.int (nI b)] _ _
        refine x_is [_, _, _, _, _, _] c_Md_search_33 rfl ?_
        refine x_il c_Md_search_34 rfl ?_
        refine x_ci c_Md_search_35 ?_
        refine x_cmN_ne c_Md_search_36 (by omega) (by omega) (fun h => (by exfalso; omega)) (fun _ => ?_)
        refine x_il c_Md_search_39 rfl ?_
        refine x_ifN_ge c_Md_search_40 (by omega) (fun _ => ?_) (fun h => (by exfalso; omega))
        refine x_ci c_Md_search_46 ?_
        refine x_is [_, _, _, _, _, _] c_Md_search_47 rfl ?_
        refine x_ci c_Md_search_48 ?_
        refine x_is [_, _, _, _, _, _] c_Md_search_49 rfl ?_
        refine x_ci c_Md_search_51 ?_
        refine x_is [_, _, _, _, _, _] c_Md_search_52 rfl ?_
        exact (y_Md_searchLoop d (μ := μ1) (s := s1) hc1.1 hE1 hne hdi hk ((hc1.2.1 16 (by decide)).trans h16) ((hc1.2.1 6 (by decide)).trans h6) hs2 ((hc1.2.1 28 (by decide)).trans h28) hli ((hc1.2.1 29 (by decide)).trans h29') ((hc1.2.1 30 (by decide)).trans h30) ((hc1.2.1 31 (by decide)).trans h31) ((hc1.2.1 32 (by decide)).trans h32) hW12 ((hc1.2.1 40 (by decide)).trans h40) h20 hG hW hA1 hen hV1 hgd hL1 hL284 (l := l) (Or.inr ⟨b, by omega, rfl, hfi.2.2⟩) _ _ (fun w hw μ' s' hq => ⟨by rw [hK]; exact hw, s', ⟨hq.1, fun i i1 i2 => (hq.2.1 i i1).trans (hc1.2.1 i i2), fun q q1 q2 q3 q4 q5 => (hq.2.2.1 q q1 q2 q5).trans (hc1.2.2.1 q q1 q3 q4)⟩, by rw [hK]; exact hq.2.2.2.1, hq.2.2.2.2, l, mN_k hc1.2.2.2 (hq.2.1 20 (by decide)) (hq.2.2.1 145 (by decide) (by decide) (by decide)) (hq.2.2.1 146 (by decide) (by decide) (by decide)), fun q => absurd q (by rw [hK]; have := srC_lt (liN li) (seR n nm pr k sc li ta G W l L); show ¬ srC _ _ = 32; omega)⟩) n 0 0 true L μ1 s1 rfl (Nat.zero_le _) (Nat.le_refl _) hL284 ⟨hc1.1, fun _ _ => rfl, fun _ _ _ _ => rfl, hL1, hV1⟩ rfl)
  · have hL1 : oL μ1 s1 L := by obtain ⟨a, b, ou9, c, d9⟩ := hL; exact ⟨(hc1.2.1 5 (by decide)).trans a, b, ou9, (hc1.2.2.1 138 (by decide) (by decide) (by decide)).trans c, d9⟩
    have hV1 : ∃ f, μ1.1 156 = some (ce_I 20 f) := by obtain ⟨f, q⟩ := hV; exact ⟨f, (hc1.2.2.1 156 (by decide) (by decide) (by decide)).trans q⟩
    have hK : (seK tb n nm pr k L (some (x2, y2, sc, li, ta, G, W))) = (34, L) := by unfold seK; dsimp only; rw [ho]
    show kc_X _ _ _ _ _ [.int (-1)] _ _
    refine x_is [_, _, _, _, _, _] c_Md_search_12 rfl ?_
    refine x_il c_Md_search_13 rfl ?_
    refine x_if_ge c_Md_search_14 (fun h => absurd h (by decide)) (fun _ => ?_)
    refine x_ci c_Md_search_17 ?_
    refine x_ri c_Md_search_19 ?_
    exact ⟨by rw [hK], s1, ⟨hc1.1, fun i _ i2 => hc1.2.1 i i2, fun q q1 _ q3 q4 _ => hc1.2.2.1 q q1 q3 q4⟩, by rw [hK]; exact hL1, hV1, l, hc1.2.2.2, fun q => absurd (show 34 = 32 by rw [hK] at q; exact q) (by decide)⟩
