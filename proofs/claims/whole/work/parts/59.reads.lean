/-! what holds between the calls, of class and reference; the calls that only read -/
def CI (μ : kc_M) (lo so : Bool) (tb : Nat → Nat) (sz : Nat) (w : Nat → Int32) (wn n : Nat) (ad : Nat → Nat) (nm pr : Nat → List tv) : Prop :=
  μ.1 0 = some (ce_Dk lo so) ∧ (∃ at_ en wr id sf st, rd_at μ tb sz at_ en wr id sf st) ∧ wr_at μ w wn ∧ tr_at μ n ad nm pr ∧ sc_at μ
def MI (μ : kc_M) (lo so : Bool) (tb : Nat → Nat) (sz : Nat) (w : Nat → Int32) (wn n : Nat) (nm pr : Nat → List tv) : Prop :=
  ∃ s ou pa pt pv pn qt qv, μ.1 136 = some (ce_Md s) ∧ s 0 = bI (!lo) ∧ s 1 = bI so ∧ s 3 = nI sz ∧ s 5 = nI wn ∧ s 6 = nI n ∧ mr_at μ tb ou pa pt pv pn qt qv ∧ me_at n pa pt pv pn qt qv nm pr ∧ ms_at μ ∧ (∀ k, k < wn → ou k = w k) ∧ ∃ k, k ≤ 4 ∧ s 20 = nI k
def WF (tb : Nat → Nat) (sz wn n : Nat) (nm pr : Nat → List tv) : Prop :=
  (∀ j, tb j < 256) ∧ sz ≤ 200 ∧ wn ≤ 400 ∧ n ≤ 16 ∧ (∀ e, e < n → 1 ≤ (nm e).length ∧ (pr e).Nodup ∧ ∀ p ∈ pr e, 0 ≤ p.2) ∧ ∀ i j, i < n → j < n → nm i = nm j → i = j
def Inv (μ : kc_M) : Prop := ∃ lo so tb sz w wn n ad nm pr, CI μ lo so tb sz w wn n ad nm pr ∧ MI μ lo so tb sz w wn n nm pr ∧ WF tb sz wn n nm pr
theorem ms_k {μ μ' : kc_M} (h : ms_at μ) (hk : ∀ q, 136 ≤ q → μ'.1 q = μ.1 q) : ms_at μ' := by
  obtain ⟨⟨f1, h1⟩, ⟨f2, h2⟩, ⟨f3, h3⟩, ⟨f4, h4⟩, ⟨f5, h5⟩, ⟨f6, h6⟩, ⟨f7, h7⟩, ⟨f8, h8⟩, ⟨f9, h9⟩, ⟨f10, h10⟩, ⟨f11, h11⟩, ⟨f12, h12⟩, ⟨f13, h13⟩, ⟨f14, h14⟩, ⟨f15, h15⟩, ⟨f16, h16⟩⟩ := h
  exact ⟨⟨f1, (hk _ (by omega)).trans h1⟩, ⟨f2, (hk _ (by omega)).trans h2⟩, ⟨f3, (hk _ (by omega)).trans h3⟩, ⟨f4, (hk _ (by omega)).trans h4⟩, ⟨f5, (hk _ (by omega)).trans h5⟩, ⟨f6, (hk _ (by omega)).trans h6⟩, ⟨f7, (hk _ (by omega)).trans h7⟩, ⟨f8, (hk _ (by omega)).trans h8⟩, ⟨f9, (hk _ (by omega)).trans h9⟩, ⟨f10, (hk _ (by omega)).trans h10⟩, ⟨f11, (hk _ (by omega)).trans h11⟩, ⟨f12, (hk _ (by omega)).trans h12⟩, ⟨f13, (hk _ (by omega)).trans h13⟩, ⟨f14, (hk _ (by omega)).trans h14⟩, ⟨f15, (hk _ (by omega)).trans h15⟩, ⟨f16, (hk _ (by omega)).trans h16⟩⟩
theorem mr_k {μ μ' : kc_M} {tb : Nat → Nat} {ou pa pt : Nat → Int32} {pv : Nat → Int64} {pn qt : Nat → Int32} {qv : Nat → Int64} (h : mr_at μ tb ou pa pt pv pn qt qv) (hk : ∀ q, 137 ≤ q → μ'.1 q = μ.1 q) : mr_at μ' tb ou pa pt pv pn qt qv := by
  obtain ⟨h1, h2, h3, h4, h5, h6, h7, h8⟩ := h
  exact ⟨(hk _ (by omega)).trans h1, (hk _ (by omega)).trans h2, (hk _ (by omega)).trans h3, (hk _ (by omega)).trans h4, (hk _ (by omega)).trans h5, (hk _ (by omega)).trans h6, (hk _ (by omega)).trans h7, (hk _ (by omega)).trans h8⟩
theorem MI_k {μ μ' : kc_M} {lo so : Bool} {tb : Nat → Nat} {sz : Nat} {w : Nat → Int32} {wn n : Nat} {nm pr : Nat → List tv} (h : MI μ lo so tb sz w wn n nm pr) (hk : ∀ q, 136 ≤ q → μ'.1 q = μ.1 q) : MI μ' lo so tb sz w wn n nm pr := by
  obtain ⟨s, ou, pa, pt, pv, pn, qt, qv, a1, a2, a3, a4, a5, a6, a7, a8, a9, a10⟩ := h
  exact ⟨s, ou, pa, pt, pv, pn, qt, qv, (hk _ (by omega)).trans a1, a2, a3, a4, a5, a6, mr_k a7 (fun q hq => hk q (by omega)), a8, ms_k a9 hk, a10⟩
theorem CI_k {μ μ' : kc_M} {lo so : Bool} {tb : Nat → Nat} {sz : Nat} {w : Nat → Int32} {wn n : Nat} {ad : Nat → Nat} {nm pr : Nat → List tv} (h : CI μ lo so tb sz w wn n ad nm pr) (hk : ∀ q, q < 136 → μ'.1 q = μ.1 q) : CI μ' lo so tb sz w wn n ad nm pr := by
  obtain ⟨a1, ⟨x1, x2, x3, x4, x5, x6, b1, b2⟩, ⟨c1, c2⟩, a4, a5⟩ := h
  exact ⟨(hk _ (by omega)).trans a1, ⟨x1, x2, x3, x4, x5, x6, (hk _ (by omega)).trans b1, (hk _ (by omega)).trans b2⟩, ⟨(hk _ (by omega)).trans c1, (hk _ (by omega)).trans c2⟩, tr_k a4 (fun q _ hq => hk q (by omega)), sc_k a5 (fun q _ hq => hk q hq)⟩
def shl8 (w : Nat → Int32) : Nat → Nat → Int64 → Int64
  | 0, _, v => v
  | m + 1, k, v => shl8 w m (k + 1) ((v <<< ((nI 8).toInt64 &&& 63)) ||| (w k).toInt64)
theorem shl8_eq {w u : Nat → Int32} : ∀ (m k : Nat) (v : Int64), (∀ j, k ≤ j → j < k + m → w j = u j) → shl8 w m k v = shl8 u m k v
  | 0, _, _, _ => rfl
  | m + 1, k, v, h => by
    unfold shl8
    rw [h k (by omega) (by omega)]
    exact shl8_eq m (k + 1) _ (fun j h1 h2 => h j (by omega) (by omega))
/-- is there a pair k of the entry e? -/
def isP (n : Nat) (pr : Nat → List tv) (e k : Int32) (b : Bool) : Prop := (b = false ∧ (e < 0 ∨ nI n ≤ e ∨ ∃ j, j < n ∧ e = nI j ∧ (k < 0 ∨ nI (pr j).length ≤ k))) ∨ (b = true ∧ ∃ j i, j < n ∧ e = nI j ∧ i < (pr j).length ∧ k = nI i)
theorem isP_or {n : Nat} {pr : Nat → List tv} (hn : n < 2 ^ 31) (hp : ∀ j, j < n → (pr j).length < 2 ^ 31) (e k : Int32) : ∃ b, isP n pr e k b := by
  rcases pk_ix e hn with h | h | ⟨j, hj, rfl⟩
  · exact ⟨false, Or.inl ⟨rfl, Or.inl h⟩⟩
  · exact ⟨false, Or.inl ⟨rfl, Or.inr (Or.inl h)⟩⟩
  · rcases pk_ix k (hp j hj) with h | h | ⟨i, hi, rfl⟩
    · exact ⟨false, Or.inl ⟨rfl, Or.inr (Or.inr ⟨j, hj, rfl, Or.inl h⟩)⟩⟩
    · exact ⟨false, Or.inl ⟨rfl, Or.inr (Or.inr ⟨j, hj, rfl, Or.inr h⟩)⟩⟩
    · exact ⟨true, Or.inr ⟨rfl, j, i, hj, rfl, hi, rfl⟩⟩
set_option maxRecDepth 100000 in
set_option maxHeartbeats 2000000 in
theorem y_Dk_answered (d : Nat) {μ : kc_M} {lo so : Bool} {w : Nat → Int32} {wn : Nat} (h0 : μ.1 0 = some (ce_Dk lo so)) (hw : wr_at μ w wn) : kc_Y kt kC (d + 1) j_Dk_answered [.ref 0] μ (fun v μ' => v = some (.int (nI wn)) ∧ μ' = μ) := by
  refine ⟨Nat.le_of_ble_eq_true rfl, ?_⟩
  refine x_al c_Dk_answered_0 rfl ?_
  refine x_get c_Dk_answered_1 (by first | rfl | exact h0 | exact hw.1) rfl ?_
  refine x_get c_Dk_answered_4 (by first | rfl | exact h0 | exact hw.1) rfl ?_
  refine x_ri c_Dk_answered_7 ?_
  exact ⟨rfl, rfl⟩
set_option maxRecDepth 100000 in
set_option maxHeartbeats 2000000 in
theorem y_Dk_entries (d : Nat) {μ : kc_M} {lo so : Bool} {n : Nat} (h0 : μ.1 0 = some (ce_Dk lo so)) (hw : μ.1 5 = some (ce_Tr n)) : kc_Y kt kC (d + 1) j_Dk_entries [.ref 0] μ (fun v μ' => v = some (.int (nI n)) ∧ μ' = μ) := by
  refine ⟨Nat.le_of_ble_eq_true rfl, ?_⟩
  refine x_al c_Dk_entries_0 rfl ?_
  refine x_get c_Dk_entries_1 (by first | rfl | exact h0 | exact hw) rfl ?_
  refine x_get c_Dk_entries_4 (by first | rfl | exact h0 | exact hw) rfl ?_
  refine x_ri c_Dk_entries_7 ?_
  exact ⟨rfl, rfl⟩
set_option maxRecDepth 100000 in
set_option maxHeartbeats 2000000 in
theorem y_Dk_signed (d : Nat) {μ : kc_M} {lo so : Bool} (h0 : μ.1 0 = some (ce_Dk lo so)) : kc_Y kt kC (d + 1) j_Dk_signed [.ref 0] μ (fun v μ' => v = some (.int (bI so)) ∧ μ' = μ) := by
  refine ⟨Nat.le_of_ble_eq_true rfl, ?_⟩
  refine x_al c_Dk_signed_0 rfl ?_
  refine x_get c_Dk_signed_1 (by first | rfl | exact h0) rfl ?_
  refine x_rz c_Dk_signed_4 (by first | decide | exact kz_n _) ?_
  exact ⟨rfl, rfl⟩
set_option maxRecDepth 100000 in
set_option maxHeartbeats 2000000 in
theorem y_Dk_open (d : Nat) {μ : kc_M} {lo so : Bool} (h0 : μ.1 0 = some (ce_Dk lo so)) : kc_Y kt kC (d + 1) j_Dk_open [.ref 0] μ (fun v μ' => v = some (.int (bI lo)) ∧ μ' = μ) := by
  refine ⟨Nat.le_of_ble_eq_true rfl, ?_⟩
  refine x_al c_Dk_open_0 rfl ?_
  refine x_get c_Dk_open_1 (by first | rfl | exact h0) rfl ?_
  refine x_rz c_Dk_open_4 (by first | decide | exact kz_n _) ?_
  exact ⟨rfl, rfl⟩
set_option maxRecDepth 100000 in
set_option maxHeartbeats 2000000 in
theorem y_Dk_entry0 (d : Nat) {μ : kc_M} {lo so : Bool} {n : Nat} {ad : Nat → Nat} {nm pr : Nat → List tv} (h0 : μ.1 0 = some (ce_Dk lo so)) (ht : tr_at μ n ad nm pr) {e : Int32} (he : e < 0 ∨ nI n ≤ e) : kc_Y kt kC (d + 1) j_Dk_entry [.ref 0, .int e] μ (fun v μ' => v = some (.int (-2)) ∧ μ' = μ) := by
  obtain ⟨t1, ⟨rf, t2, t3⟩, t4, t5, t6, t7⟩ := ht
  refine ⟨Nat.le_of_ble_eq_true rfl, ?_⟩
  by_cases hb : e < 0
  · skip
    refine x_il c_Dk_entry_0 rfl ?_
    refine x_if_lt c_Dk_entry_1 (fun _ => ?_) (fun h => absurd (hb) h)
    refine x_ci c_Dk_entry_15 ?_
    refine x_ri c_Dk_entry_17 ?_
    exact ⟨rfl, rfl⟩
  · have he := he.resolve_left hb
    refine x_il c_Dk_entry_0 rfl ?_
    refine x_if_lt c_Dk_entry_1 (fun h => absurd h (hb)) (fun _ => ?_)
    refine x_il c_Dk_entry_4 rfl ?_
    refine x_al c_Dk_entry_5 rfl ?_
    refine x_get c_Dk_entry_6 (by first | rfl | exact h0 | exact t1) rfl ?_
    refine x_get c_Dk_entry_9 (by first | rfl | exact h0 | exact t1) rfl ?_
    refine x_cm_lt c_Dk_entry_12 (fun h => absurd h (Int32.not_lt.mpr he)) (fun _ => ?_)
    refine x_ci c_Dk_entry_15 ?_
    refine x_ri c_Dk_entry_17 ?_
    exact ⟨rfl, rfl⟩
set_option maxRecDepth 100000 in
set_option maxHeartbeats 2000000 in
theorem y_Dk_entry1 (d : Nat) {μ : kc_M} {lo so : Bool} {n : Nat} {ad : Nat → Nat} {nm pr : Nat → List tv} (h0 : μ.1 0 = some (ce_Dk lo so)) (ht : tr_at μ n ad nm pr) {j : Nat} (hj : j < n) : kc_Y kt kC (d + 1) j_Dk_entry [.ref 0, .int (nI j)] μ (fun v μ' => v = some (.int (nI ((nm j).length + 8 * (pr j).length))) ∧ μ' = μ) := by
  obtain ⟨t1, ⟨rf, t2, t3⟩, t4, t5, t6, t7⟩ := ht
  have e0 := t4 j (by omega)
  refine ⟨Nat.le_of_ble_eq_true rfl, ?_⟩
  refine x_il c_Dk_entry_0 rfl ?_
  refine x_if_lt c_Dk_entry_1 (fun h => absurd h (nI_pos (by omega))) (fun _ => ?_)
  refine x_il c_Dk_entry_4 rfl ?_
  refine x_al c_Dk_entry_5 rfl ?_
  refine x_get c_Dk_entry_6 (by first | rfl | exact h0 | exact t1 | exact t2 | exact e0.1 | exact (nm_c e0.2.1) | exact (pa_c e0.2.2)) rfl ?_
  refine x_get c_Dk_entry_9 (by first | rfl | exact h0 | exact t1 | exact t2 | exact e0.1 | exact (nm_c e0.2.1) | exact (pa_c e0.2.2)) rfl ?_
  refine x_cm_lt c_Dk_entry_12 (fun _ => ?_) (fun h => absurd (nI_lt hj (by omega)) h)
  refine x_al c_Dk_entry_18 rfl ?_
  refine x_get c_Dk_entry_19 (by first | rfl | exact h0 | exact t1 | exact t2 | exact e0.1 | exact (nm_c e0.2.1) | exact (pa_c e0.2.2)) rfl ?_
  refine x_get c_Dk_entry_22 (by first | rfl | exact h0 | exact t1 | exact t2 | exact e0.1 | exact (nm_c e0.2.1) | exact (pa_c e0.2.2)) rfl ?_
  refine x_il c_Dk_entry_25 rfl ?_
  refine x_aaldN c_Dk_entry_26 (by first | rfl | exact h0 | exact t1 | exact t2 | exact e0.1 | exact (nm_c e0.2.1) | exact (pa_c e0.2.2)) (by omega) (by omega) (t3 j (by omega)) ?_
  refine x_get c_Dk_entry_27 (by first | rfl | exact h0 | exact t1 | exact t2 | exact e0.1 | exact (nm_c e0.2.1) | exact (pa_c e0.2.2)) rfl ?_
  refine x_get c_Dk_entry_30 (by first | rfl | exact h0 | exact t1 | exact t2 | exact e0.1 | exact (nm_c e0.2.1) | exact (pa_c e0.2.2)) rfl ?_
  refine x_ci c_Dk_entry_33 ?_
  refine x_al c_Dk_entry_35 rfl ?_
  refine x_get c_Dk_entry_36 (by first | rfl | exact h0 | exact t1 | exact t2 | exact e0.1 | exact (nm_c e0.2.1) | exact (pa_c e0.2.2)) rfl ?_
  refine x_get c_Dk_entry_39 (by first | rfl | exact h0 | exact t1 | exact t2 | exact e0.1 | exact (nm_c e0.2.1) | exact (pa_c e0.2.2)) rfl ?_
  refine x_il c_Dk_entry_42 rfl ?_
  refine x_aaldN c_Dk_entry_43 (by first | rfl | exact h0 | exact t1 | exact t2 | exact e0.1 | exact (nm_c e0.2.1) | exact (pa_c e0.2.2)) (by omega) (by omega) (t3 j (by omega)) ?_
  refine x_get c_Dk_entry_44 (by first | rfl | exact h0 | exact t1 | exact t2 | exact e0.1 | exact (nm_c e0.2.1) | exact (pa_c e0.2.2)) rfl ?_
  refine x_get c_Dk_entry_47 (by first | rfl | exact h0 | exact t1 | exact t2 | exact e0.1 | exact (nm_c e0.2.1) | exact (pa_c e0.2.2)) rfl ?_
  first | refine x_imulN c_Dk_entry_50 ?_ | refine x_imul c_Dk_entry_50 ?_
  first | refine x_iaddN c_Dk_entry_51 ?_ | refine x_iadd c_Dk_entry_51 ?_
  refine x_ri c_Dk_entry_52 ?_
  exact ⟨rfl, rfl⟩
set_option maxRecDepth 100000 in
set_option maxHeartbeats 2000000 in
theorem y_Dk_isPair (d : Nat) {μ : kc_M} {lo so : Bool} {n : Nat} {ad : Nat → Nat} {nm pr : Nat → List tv} (h0 : μ.1 0 = some (ce_Dk lo so)) (ht : tr_at μ n ad nm pr) {e k : Int32} {b : Bool} (hP : isP n pr e k b) : kc_Y kt kC (d + 1) j_Dk_isPair [.ref 0, .int e, .int k] μ (fun v μ' => v = some (.int (bI b)) ∧ μ' = μ) := by
  obtain ⟨t1, ⟨rf, t2, t3⟩, t4, t5, t6, t7⟩ := ht
  refine ⟨Nat.le_of_ble_eq_true rfl, ?_⟩
  rcases hP with ⟨rfl, he | he | ⟨j, hj, rfl, hk⟩⟩ | ⟨rfl, j, i, hj, rfl, hi, rfl⟩
  · skip
    refine x_il c_Dk_isPair_0 rfl ?_
    refine x_if_lt c_Dk_isPair_1 (fun _ => ?_) (fun h => absurd (he) h)
    refine x_ci c_Dk_isPair_42 ?_
    refine x_rz c_Dk_isPair_43 (by first | decide | exact kz_n _) ?_
    exact ⟨rfl, rfl⟩
  · by_cases hb : e < 0
    · skip
      refine x_il c_Dk_isPair_0 rfl ?_
      refine x_if_lt c_Dk_isPair_1 (fun _ => ?_) (fun h => absurd (hb) h)
      refine x_ci c_Dk_isPair_42 ?_
      refine x_rz c_Dk_isPair_43 (by first | decide | exact kz_n _) ?_
      exact ⟨rfl, rfl⟩
    · skip
      refine x_il c_Dk_isPair_0 rfl ?_
      refine x_if_lt c_Dk_isPair_1 (fun h => absurd h (hb)) (fun _ => ?_)
      refine x_il c_Dk_isPair_4 rfl ?_
      refine x_al c_Dk_isPair_5 rfl ?_
      refine x_get c_Dk_isPair_6 (by first | rfl | exact h0 | exact t1 | exact t2 | exact e0.1 | exact (pa_c e0.2.2)) rfl ?_
      refine x_get c_Dk_isPair_9 (by first | rfl | exact h0 | exact t1 | exact t2 | exact e0.1 | exact (pa_c e0.2.2)) rfl ?_
      refine x_cm_ge c_Dk_isPair_12 (fun _ => ?_) (fun h => absurd (he) h)
      refine x_ci c_Dk_isPair_42 ?_
      refine x_rz c_Dk_isPair_43 (by first | decide | exact kz_n _) ?_
      exact ⟨rfl, rfl⟩
  · have e0 := t4 j (by omega)
    by_cases hb : k < 0
    · skip
      refine x_il c_Dk_isPair_0 rfl ?_
      refine x_if_lt c_Dk_isPair_1 (fun h => absurd h (nI_pos (by omega))) (fun _ => ?_)
      refine x_il c_Dk_isPair_4 rfl ?_
      refine x_al c_Dk_isPair_5 rfl ?_
      refine x_get c_Dk_isPair_6 (by first | rfl | exact h0 | exact t1 | exact t2 | exact e0.1 | exact (pa_c e0.2.2)) rfl ?_
      refine x_get c_Dk_isPair_9 (by first | rfl | exact h0 | exact t1 | exact t2 | exact e0.1 | exact (pa_c e0.2.2)) rfl ?_
      refine x_cm_ge c_Dk_isPair_12 (fun h => absurd h (nI_ge hj (by omega))) (fun _ => ?_)
      refine x_il c_Dk_isPair_15 rfl ?_
      refine x_if_lt c_Dk_isPair_16 (fun _ => ?_) (fun h => absurd (hb) h)
      refine x_ci c_Dk_isPair_42 ?_
      refine x_rz c_Dk_isPair_43 (by first | decide | exact kz_n _) ?_
      exact ⟨rfl, rfl⟩
    · have hk := hk.resolve_left hb
      refine x_il c_Dk_isPair_0 rfl ?_
      refine x_if_lt c_Dk_isPair_1 (fun h => absurd h (nI_pos (by omega))) (fun _ => ?_)
      refine x_il c_Dk_isPair_4 rfl ?_
      refine x_al c_Dk_isPair_5 rfl ?_
      refine x_get c_Dk_isPair_6 (by first | rfl | exact h0 | exact t1 | exact t2 | exact e0.1 | exact (pa_c e0.2.2)) rfl ?_
      refine x_get c_Dk_isPair_9 (by first | rfl | exact h0 | exact t1 | exact t2 | exact e0.1 | exact (pa_c e0.2.2)) rfl ?_
      refine x_cm_ge c_Dk_isPair_12 (fun h => absurd h (nI_ge hj (by omega))) (fun _ => ?_)
      refine x_il c_Dk_isPair_15 rfl ?_
      refine x_if_lt c_Dk_isPair_16 (fun h => absurd h (hb)) (fun _ => ?_)
      refine x_il c_Dk_isPair_19 rfl ?_
      refine x_al c_Dk_isPair_20 rfl ?_
      refine x_get c_Dk_isPair_21 (by first | rfl | exact h0 | exact t1 | exact t2 | exact e0.1 | exact (pa_c e0.2.2)) rfl ?_
      refine x_get c_Dk_isPair_24 (by first | rfl | exact h0 | exact t1 | exact t2 | exact e0.1 | exact (pa_c e0.2.2)) rfl ?_
      refine x_il c_Dk_isPair_27 rfl ?_
      refine x_aaldN c_Dk_isPair_28 (by first | rfl | exact h0 | exact t1 | exact t2 | exact e0.1 | exact (pa_c e0.2.2)) (by omega) (by omega) (t3 j (by omega)) ?_
      refine x_get c_Dk_isPair_29 (by first | rfl | exact h0 | exact t1 | exact t2 | exact e0.1 | exact (pa_c e0.2.2)) rfl ?_
      refine x_get c_Dk_isPair_32 (by first | rfl | exact h0 | exact t1 | exact t2 | exact e0.1 | exact (pa_c e0.2.2)) rfl ?_
      refine x_cm_ge c_Dk_isPair_35 (fun _ => ?_) (fun h => absurd (hk) h)
      refine x_ci c_Dk_isPair_42 ?_
      refine x_rz c_Dk_isPair_43 (by first | decide | exact kz_n _) ?_
      exact ⟨rfl, rfl⟩
  · have e0 := t4 j (by omega)
    have hl : (pr j).length ≤ 6 := by obtain ⟨_, _, _, _, _, _, h⟩ := e0.2.2; exact h
    refine x_il c_Dk_isPair_0 rfl ?_
    refine x_if_lt c_Dk_isPair_1 (fun h => absurd h (nI_pos (by omega))) (fun _ => ?_)
    refine x_il c_Dk_isPair_4 rfl ?_
    refine x_al c_Dk_isPair_5 rfl ?_
    refine x_get c_Dk_isPair_6 (by first | rfl | exact h0 | exact t1 | exact t2 | exact e0.1 | exact (pa_c e0.2.2)) rfl ?_
    refine x_get c_Dk_isPair_9 (by first | rfl | exact h0 | exact t1 | exact t2 | exact e0.1 | exact (pa_c e0.2.2)) rfl ?_
    refine x_cm_ge c_Dk_isPair_12 (fun h => absurd h (nI_ge hj (by omega))) (fun _ => ?_)
    refine x_il c_Dk_isPair_15 rfl ?_
    refine x_if_lt c_Dk_isPair_16 (fun h => absurd h (nI_pos (by omega))) (fun _ => ?_)
    refine x_il c_Dk_isPair_19 rfl ?_
    refine x_al c_Dk_isPair_20 rfl ?_
    refine x_get c_Dk_isPair_21 (by first | rfl | exact h0 | exact t1 | exact t2 | exact e0.1 | exact (pa_c e0.2.2)) rfl ?_
    refine x_get c_Dk_isPair_24 (by first | rfl | exact h0 | exact t1 | exact t2 | exact e0.1 | exact (pa_c e0.2.2)) rfl ?_
    refine x_il c_Dk_isPair_27 rfl ?_
    refine x_aaldN c_Dk_isPair_28 (by first | rfl | exact h0 | exact t1 | exact t2 | exact e0.1 | exact (pa_c e0.2.2)) (by omega) (by omega) (t3 j (by omega)) ?_
    refine x_get c_Dk_isPair_29 (by first | rfl | exact h0 | exact t1 | exact t2 | exact e0.1 | exact (pa_c e0.2.2)) rfl ?_
    refine x_get c_Dk_isPair_32 (by first | rfl | exact h0 | exact t1 | exact t2 | exact e0.1 | exact (pa_c e0.2.2)) rfl ?_
    refine x_cm_ge c_Dk_isPair_35 (fun h => absurd h (nI_ge hi (by omega))) (fun _ => ?_)
    refine x_ci c_Dk_isPair_38 ?_
    refine x_goto c_Dk_isPair_39 ?_
    refine x_rz c_Dk_isPair_43 (by first | decide | exact kz_n _) ?_
    exact ⟨rfl, rfl⟩
set_option maxRecDepth 100000 in
set_option maxHeartbeats 2000000 in
theorem y_Dk_pairType0 (d : Nat) {μ : kc_M} {lo so : Bool} {n : Nat} {ad : Nat → Nat} {nm pr : Nat → List tv} (h0 : μ.1 0 = some (ce_Dk lo so)) (ht : tr_at μ n ad nm pr) {e k : Int32} (hP : isP n pr e k false) : kc_Y kt kC (d + 2) j_Dk_pairType [.ref 0, .int e, .int k] μ (fun v μ' => v = some (.int (-1)) ∧ μ' = μ) := by
  refine ⟨Nat.le_of_ble_eq_true rfl, ?_⟩
  refine x_al c_Dk_pairType_0 rfl ?_
  refine x_il c_Dk_pairType_1 rfl ?_
  refine x_il c_Dk_pairType_2 rfl ?_
  refine x_cv2z _ c_Dk_pairType_3 (by first | rfl | exact h0) (Nat.le_of_ble_eq_true rfl) (y_Dk_isPair d h0 ht hP) ?_
  rintro _ _ ⟨rfl, rfl⟩
  show kc_X _ _ _ _ _ [.int (bI _)] _ _
  refine x_if_eq c_Dk_pairType_6 (fun _ => ?_) (fun h => absurd (rfl) h)
  refine x_ci c_Dk_pairType_29 ?_
  refine x_ri c_Dk_pairType_30 ?_
  exact ⟨rfl, rfl⟩
set_option maxRecDepth 100000 in
set_option maxHeartbeats 2000000 in
theorem y_Dk_pairType1 (d : Nat) {μ : kc_M} {lo so : Bool} {n : Nat} {ad : Nat → Nat} {nm pr : Nat → List tv} (h0 : μ.1 0 = some (ce_Dk lo so)) (ht : tr_at μ n ad nm pr) {j i : Nat} {p : tv} (hj : j < n) (hp : (pr j)[i]? = some p) : kc_Y kt kC (d + 2) j_Dk_pairType [.ref 0, .int (nI j), .int (nI i)] μ (fun v μ' => v = some (.int p.1) ∧ μ' = μ) := by
  have hi : i < (pr j).length := (List.getElem?_eq_some_iff.mp hp).1
  have hP : isP n pr (nI j) (nI i) true := Or.inr ⟨rfl, j, i, hj, rfl, hi, rfl⟩
  have ht' := ht
  obtain ⟨t1, ⟨rf, t2, t3⟩, t4, t5, t6, t7⟩ := ht
  have e0 := t4 j (by omega)
  have e0' := e0.2.2
  obtain ⟨f, g, p1, p2, p3, p4, p5⟩ := e0'
  refine ⟨Nat.le_of_ble_eq_true rfl, ?_⟩
  refine x_al c_Dk_pairType_0 rfl ?_
  refine x_il c_Dk_pairType_1 rfl ?_
  refine x_il c_Dk_pairType_2 rfl ?_
  refine x_cv2z _ c_Dk_pairType_3 (by first | rfl | exact h0 | exact t1 | exact t2 | exact e0.1 | exact p1 | exact p2 | exact p3) (Nat.le_of_ble_eq_true rfl) (y_Dk_isPair d h0 ht' hP) ?_
  rintro _ _ ⟨rfl, rfl⟩
  show kc_X _ _ _ _ _ [.int (bI _)] _ _
  refine x_if_eq c_Dk_pairType_6 (fun h => absurd h (by decide)) (fun _ => ?_)
  refine x_al c_Dk_pairType_9 rfl ?_
  refine x_get c_Dk_pairType_10 (by first | rfl | exact h0 | exact t1 | exact t2 | exact e0.1 | exact p1 | exact p2 | exact p3) rfl ?_
  refine x_get c_Dk_pairType_13 (by first | rfl | exact h0 | exact t1 | exact t2 | exact e0.1 | exact p1 | exact p2 | exact p3) rfl ?_
  refine x_il c_Dk_pairType_16 rfl ?_
  refine x_aaldN c_Dk_pairType_17 (by first | rfl | exact h0 | exact t1 | exact t2 | exact e0.1 | exact p1 | exact p2 | exact p3) (by omega) (by omega) (t3 j (by omega)) ?_
  refine x_get c_Dk_pairType_18 (by first | rfl | exact h0 | exact t1 | exact t2 | exact e0.1 | exact p1 | exact p2 | exact p3) rfl ?_
  refine x_get c_Dk_pairType_21 (by first | rfl | exact h0 | exact t1 | exact t2 | exact e0.1 | exact p1 | exact p2 | exact p3) rfl ?_
  refine x_il c_Dk_pairType_24 rfl ?_
  refine x_ialdN c_Dk_pairType_25 (by first | rfl | exact h0 | exact t1 | exact t2 | exact e0.1 | exact p1 | exact p2 | exact p3) (by omega) (by omega) ?_
  refine x_goto c_Dk_pairType_26 ?_
  refine x_ri c_Dk_pairType_30 ?_
  exact ⟨by have h9 := p4 i hi; rw [hp] at h9; rw [Option.some.inj h9], rfl⟩
set_option maxRecDepth 100000 in
set_option maxHeartbeats 2000000 in
theorem y_Dk_pairValue0 (d : Nat) {μ : kc_M} {lo so : Bool} {n : Nat} {ad : Nat → Nat} {nm pr : Nat → List tv} (h0 : μ.1 0 = some (ce_Dk lo so)) (ht : tr_at μ n ad nm pr) {e k : Int32} (hP : isP n pr e k false) : kc_Y kt kC (d + 2) j_Dk_pairValue [.ref 0, .int e, .int k] μ (fun v μ' => v = some (.long (-1)) ∧ μ' = μ) := by
  refine ⟨Nat.le_of_ble_eq_true rfl, ?_⟩
  refine x_al c_Dk_pairValue_0 rfl ?_
  refine x_il c_Dk_pairValue_1 rfl ?_
  refine x_il c_Dk_pairValue_2 rfl ?_
  refine x_cv2z _ c_Dk_pairValue_3 (by first | rfl | exact h0) (Nat.le_of_ble_eq_true rfl) (y_Dk_isPair d h0 ht hP) ?_
  rintro _ _ ⟨rfl, rfl⟩
  show kc_X _ _ _ _ _ [.int (bI _)] _ _
  refine x_if_eq c_Dk_pairValue_6 (fun _ => ?_) (fun h => absurd (rfl) h)
  refine x_cl c_Dk_pairValue_29 ?_
  refine x_rl c_Dk_pairValue_32 ?_
  exact ⟨rfl, rfl⟩
set_option maxRecDepth 100000 in
set_option maxHeartbeats 2000000 in
theorem y_Dk_pairValue1 (d : Nat) {μ : kc_M} {lo so : Bool} {n : Nat} {ad : Nat → Nat} {nm pr : Nat → List tv} (h0 : μ.1 0 = some (ce_Dk lo so)) (ht : tr_at μ n ad nm pr) {j i : Nat} {p : tv} (hj : j < n) (hp : (pr j)[i]? = some p) : kc_Y kt kC (d + 2) j_Dk_pairValue [.ref 0, .int (nI j), .int (nI i)] μ (fun v μ' => v = some (.long p.2) ∧ μ' = μ) := by
  have hi : i < (pr j).length := (List.getElem?_eq_some_iff.mp hp).1
  have hP : isP n pr (nI j) (nI i) true := Or.inr ⟨rfl, j, i, hj, rfl, hi, rfl⟩
  have ht' := ht
  obtain ⟨t1, ⟨rf, t2, t3⟩, t4, t5, t6, t7⟩ := ht
  have e0 := t4 j (by omega)
  have e0' := e0.2.2
  obtain ⟨f, g, p1, p2, p3, p4, p5⟩ := e0'
  refine ⟨Nat.le_of_ble_eq_true rfl, ?_⟩
  refine x_al c_Dk_pairValue_0 rfl ?_
  refine x_il c_Dk_pairValue_1 rfl ?_
  refine x_il c_Dk_pairValue_2 rfl ?_
  refine x_cv2z _ c_Dk_pairValue_3 (by first | rfl | exact h0 | exact t1 | exact t2 | exact e0.1 | exact p1 | exact p2 | exact p3) (Nat.le_of_ble_eq_true rfl) (y_Dk_isPair d h0 ht' hP) ?_
  rintro _ _ ⟨rfl, rfl⟩
  show kc_X _ _ _ _ _ [.int (bI _)] _ _
  refine x_if_eq c_Dk_pairValue_6 (fun h => absurd h (by decide)) (fun _ => ?_)
  refine x_al c_Dk_pairValue_9 rfl ?_
  refine x_get c_Dk_pairValue_10 (by first | rfl | exact h0 | exact t1 | exact t2 | exact e0.1 | exact p1 | exact p2 | exact p3) rfl ?_
  refine x_get c_Dk_pairValue_13 (by first | rfl | exact h0 | exact t1 | exact t2 | exact e0.1 | exact p1 | exact p2 | exact p3) rfl ?_
  refine x_il c_Dk_pairValue_16 rfl ?_
  refine x_aaldN c_Dk_pairValue_17 (by first | rfl | exact h0 | exact t1 | exact t2 | exact e0.1 | exact p1 | exact p2 | exact p3) (by omega) (by omega) (t3 j (by omega)) ?_
  refine x_get c_Dk_pairValue_18 (by first | rfl | exact h0 | exact t1 | exact t2 | exact e0.1 | exact p1 | exact p2 | exact p3) rfl ?_
  refine x_get c_Dk_pairValue_21 (by first | rfl | exact h0 | exact t1 | exact t2 | exact e0.1 | exact p1 | exact p2 | exact p3) rfl ?_
  refine x_il c_Dk_pairValue_24 rfl ?_
  refine x_laldN c_Dk_pairValue_25 (by first | rfl | exact h0 | exact t1 | exact t2 | exact e0.1 | exact p1 | exact p2 | exact p3) (by omega) (by omega) ?_
  refine x_goto c_Dk_pairValue_26 ?_
  refine x_rl c_Dk_pairValue_32 ?_
  exact ⟨by have h9 := p4 i hi; rw [hp] at h9; rw [Option.some.inj h9], rfl⟩
set_option maxRecDepth 100000 in
set_option maxHeartbeats 2000000 in
theorem y_Dk_answer0 (d : Nat) {μ : kc_M} {lo so : Bool} {w : Nat → Int32} {wn : Nat} (h0 : μ.1 0 = some (ce_Dk lo so)) (hw : wr_at μ w wn) (hwn : wn ≤ 400) {i : Int32} (he : i < 0 ∨ nI wn ≤ i) : kc_Y kt kC (d + 1) j_Dk_answer [.ref 0, .int i] μ (fun v μ' => v = some (.long (-1)) ∧ μ' = μ) := by
  refine ⟨Nat.le_of_ble_eq_true rfl, ?_⟩
  by_cases hb : i < 0
  · skip
    refine x_il c_Dk_answer_0 rfl ?_
    refine x_if_lt c_Dk_answer_1 (fun _ => ?_) (fun h => absurd (hb) h)
    refine x_cl c_Dk_answer_15 ?_
    refine x_rl c_Dk_answer_18 ?_
    exact ⟨rfl, rfl⟩
  · have he := he.resolve_left hb
    refine x_il c_Dk_answer_0 rfl ?_
    refine x_if_lt c_Dk_answer_1 (fun h => absurd h (hb)) (fun _ => ?_)
    refine x_il c_Dk_answer_4 rfl ?_
    refine x_al c_Dk_answer_5 rfl ?_
    refine x_get c_Dk_answer_6 (by first | rfl | exact h0 | exact hw.1) rfl ?_
    refine x_get c_Dk_answer_9 (by first | rfl | exact h0 | exact hw.1) rfl ?_
    refine x_cm_lt c_Dk_answer_12 (fun h => absurd h (Int32.not_lt.mpr he)) (fun _ => ?_)
    refine x_cl c_Dk_answer_15 ?_
    refine x_rl c_Dk_answer_18 ?_
    exact ⟨rfl, rfl⟩
set_option maxRecDepth 100000 in
set_option maxHeartbeats 2000000 in
theorem y_Dk_answer1 (d : Nat) {μ : kc_M} {lo so : Bool} {w : Nat → Int32} {wn : Nat} (h0 : μ.1 0 = some (ce_Dk lo so)) (hw : wr_at μ w wn) (hwn : wn ≤ 400) {i : Nat} (hi : i < wn) : kc_Y kt kC (d + 1) j_Dk_answer [.ref 0, .int (nI i)] μ (fun v μ' => v = some (.long (shl8 w (min (i + 7) wn - i) i 0)) ∧ μ' = μ) := by
  refine ⟨Nat.le_of_ble_eq_true rfl, ?_⟩
  have loop : ∀ m k : Nat, ∀ v : Int64, min (i + 7) wn - k = m → k ≤ min (i + 7) wn → shl8 w m k v = shl8 w (min (i + 7) wn - i) i 0 → kc_X (kC j_Dk_answer) (kc_Y kt kC d) (fun v μ' => v = some (.long (shl8 w (min (i + 7) wn - i) i 0)) ∧ μ' = μ) 24 [some (.ref 0), some (.int (nI i)), some (.long v), none, some (.int (nI k))] [] μ (0, 0) := by
    intro m
    induction m with
    | zero =>
      intro k v hm hk hs
      have hs : v = shl8 w (min (i + 7) wn - i) i 0 := hs
      by_cases hb : i + 7 ≤ k
      · skip
        refine x_il c_Dk_answer_24 rfl ?_
        refine x_il c_Dk_answer_26 rfl ?_
        refine x_ci c_Dk_answer_27 ?_
        first | refine x_iaddN c_Dk_answer_29 ?_ | refine x_iadd c_Dk_answer_29 ?_
        refine x_cm_ge c_Dk_answer_30 (fun _ => ?_) (fun h => absurd (nI_le hb (by omega)) h)
        refine x_ll c_Dk_answer_68 rfl ?_
        refine x_rl c_Dk_answer_69 ?_
        exact ⟨by rw [hs], rfl⟩
      · skip
        refine x_il c_Dk_answer_24 rfl ?_
        refine x_il c_Dk_answer_26 rfl ?_
        refine x_ci c_Dk_answer_27 ?_
        first | refine x_iaddN c_Dk_answer_29 ?_ | refine x_iadd c_Dk_answer_29 ?_
        refine x_cm_ge c_Dk_answer_30 (fun h => absurd h (nI_ge (by omega) (by omega))) (fun _ => ?_)
        refine x_il c_Dk_answer_33 rfl ?_
        refine x_al c_Dk_answer_35 rfl ?_
        refine x_get c_Dk_answer_36 (by first | rfl | exact h0 | exact hw.1 | exact hw.2) rfl ?_
        refine x_get c_Dk_answer_39 (by first | rfl | exact h0 | exact hw.1 | exact hw.2) rfl ?_
        refine x_cm_ge c_Dk_answer_42 (fun _ => ?_) (fun h => absurd (nI_le (by omega) (by omega)) h)
        refine x_ll c_Dk_answer_68 rfl ?_
        refine x_rl c_Dk_answer_69 ?_
        exact ⟨by rw [hs], rfl⟩
    | succ m ih =>
      intro k v hm hk hs
      refine x_il c_Dk_answer_24 rfl ?_
      refine x_il c_Dk_answer_26 rfl ?_
      refine x_ci c_Dk_answer_27 ?_
      first | refine x_iaddN c_Dk_answer_29 ?_ | refine x_iadd c_Dk_answer_29 ?_
      refine x_cm_ge c_Dk_answer_30 (fun h => absurd h (nI_ge (by omega) (by omega))) (fun _ => ?_)
      refine x_il c_Dk_answer_33 rfl ?_
      refine x_al c_Dk_answer_35 rfl ?_
      refine x_get c_Dk_answer_36 (by first | rfl | exact h0 | exact hw.1 | exact hw.2) rfl ?_
      refine x_get c_Dk_answer_39 (by first | rfl | exact h0 | exact hw.1 | exact hw.2) rfl ?_
      refine x_cm_ge c_Dk_answer_42 (fun h => absurd h (nI_ge (by omega) (by omega))) (fun _ => ?_)
      refine x_ll c_Dk_answer_45 rfl ?_
      refine x_ci c_Dk_answer_46 ?_
      refine x_lshl c_Dk_answer_48 ?_
      refine x_al c_Dk_answer_49 rfl ?_
      refine x_get c_Dk_answer_50 (by first | rfl | exact h0 | exact hw.1 | exact hw.2) rfl ?_
      refine x_get c_Dk_answer_53 (by first | rfl | exact h0 | exact hw.1 | exact hw.2) rfl ?_
      refine x_il c_Dk_answer_56 rfl ?_
      refine x_ialdN c_Dk_answer_58 (by first | rfl | exact h0 | exact hw.1 | exact hw.2) (by omega) (by omega) ?_
      refine x_i2l c_Dk_answer_59 ?_
      refine x_lor c_Dk_answer_60 ?_
      refine x_ls [_, _, _, _, _] c_Dk_answer_61 rfl ?_
      first | refine x_incN [_, _, _, _, _] c_Dk_answer_62 rfl rfl ?_ | refine x_inc [_, _, _, _, _] c_Dk_answer_62 rfl rfl ?_
      refine x_goto c_Dk_answer_65 ?_
      exact ih (k + 1) _ (by omega) (by omega) hs
  refine x_il c_Dk_answer_0 rfl ?_
  refine x_if_lt c_Dk_answer_1 (fun h => absurd h (nI_pos (by omega))) (fun _ => ?_)
  refine x_il c_Dk_answer_4 rfl ?_
  refine x_al c_Dk_answer_5 rfl ?_
  refine x_get c_Dk_answer_6 (by first | rfl | exact h0 | exact hw.1) rfl ?_
  refine x_get c_Dk_answer_9 (by first | rfl | exact h0 | exact hw.1) rfl ?_
  refine x_cm_lt c_Dk_answer_12 (fun _ => ?_) (fun h => absurd (nI_lt hi (by omega)) h)
  refine x_cl c_Dk_answer_19 ?_
  refine x_ls [_, _, _, _, _] c_Dk_answer_20 rfl ?_
  refine x_il c_Dk_answer_21 rfl ?_
  refine x_is [_, _, _, _, _] c_Dk_answer_22 rfl ?_
  exact loop _ i 0 rfl (by omega) rfl
set_option maxRecDepth 100000 in
set_option maxHeartbeats 2000000 in
theorem y_Md_answered (d : Nat) {μ : kc_M} {s : Nat → Int32} (h0 : μ.1 136 = some (ce_Md s)) {wn : Nat} (hs : s 5 = nI wn) : kc_Y kt kC (d + 1) j_Md_answered [.ref 136] μ (fun v μ' => v = some (.int (nI wn)) ∧ μ' = μ) := by
  refine ⟨Nat.le_of_ble_eq_true rfl, ?_⟩
  refine x_al c_Md_answered_0 rfl ?_
  refine x_getE c_Md_answered_1 (by first | rfl | exact h0) rfl (by first | exact hs | rfl) ?_
  refine x_ri c_Md_answered_4 ?_
  exact ⟨rfl, rfl⟩
set_option maxRecDepth 100000 in
set_option maxHeartbeats 2000000 in
theorem y_Md_entries (d : Nat) {μ : kc_M} {s : Nat → Int32} (h0 : μ.1 136 = some (ce_Md s)) {n : Nat} (hs : s 6 = nI n) : kc_Y kt kC (d + 1) j_Md_entries [.ref 136] μ (fun v μ' => v = some (.int (nI n)) ∧ μ' = μ) := by
  refine ⟨Nat.le_of_ble_eq_true rfl, ?_⟩
  refine x_al c_Md_entries_0 rfl ?_
  refine x_getE c_Md_entries_1 (by first | rfl | exact h0) rfl (by first | exact hs | rfl) ?_
  refine x_ri c_Md_entries_4 ?_
  exact ⟨rfl, rfl⟩
set_option maxRecDepth 100000 in
set_option maxHeartbeats 2000000 in
theorem y_Md_signed (d : Nat) {μ : kc_M} {s : Nat → Int32} (h0 : μ.1 136 = some (ce_Md s)) {so : Bool} (hs : s 1 = bI so) : kc_Y kt kC (d + 1) j_Md_signed [.ref 136] μ (fun v μ' => v = some (.int (bI so)) ∧ μ' = μ) := by
  refine ⟨Nat.le_of_ble_eq_true rfl, ?_⟩
  refine x_al c_Md_signed_0 rfl ?_
  refine x_getE c_Md_signed_1 (by first | rfl | exact h0) rfl (by first | exact hs | rfl) ?_
  refine x_rz c_Md_signed_4 (by first | decide | exact kz_n _) ?_
  exact ⟨rfl, rfl⟩
set_option maxRecDepth 100000 in
set_option maxHeartbeats 2000000 in
theorem y_Md_open (d : Nat) {μ : kc_M} {s : Nat → Int32} (h0 : μ.1 136 = some (ce_Md s)) {lo : Bool} (hs : s 0 = bI (!lo)) : kc_Y kt kC (d + 1) j_Md_open [.ref 136] μ (fun v μ' => v = some (.int (bI lo)) ∧ μ' = μ) := by
  refine ⟨Nat.le_of_ble_eq_true rfl, ?_⟩
  refine x_al c_Md_open_0 rfl ?_
  refine x_getE c_Md_open_1 (by first | rfl | exact h0) rfl (by first | exact hs | rfl) ?_
  first | refine x_ifB_ne c_Md_open_4 (fun h4 => ?_) (fun h4 => ?_) | refine x_ifN_ne c_Md_open_4 (by omega) (fun h4 => ?_) (fun h4 => ?_) | refine x_if_ne c_Md_open_4 (fun h4 => ?_) (fun h4 => ?_)
  · refine x_ci c_Md_open_11 ?_
    refine x_rz c_Md_open_12 (by first | decide | exact kz_n _) ?_
    cases lo <;> first | exact ⟨rfl, rfl⟩ | (simp at h4)
  · refine x_ci c_Md_open_7 ?_
    refine x_goto c_Md_open_8 ?_
    refine x_rz c_Md_open_12 (by first | decide | exact kz_n _) ?_
    cases lo <;> first | exact ⟨rfl, rfl⟩ | (simp at h4)
set_option maxRecDepth 100000 in
set_option maxHeartbeats 2000000 in
theorem y_Md_entry0 (d : Nat) {μ : kc_M} {s : Nat → Int32} (h0 : μ.1 136 = some (ce_Md s)) {tb : Nat → Nat} {ou pa pt : Nat → Int32} {pv : Nat → Int64} {pn qt : Nat → Int32} {qv : Nat → Int64} {n : Nat} {nm pr : Nat → List tv} (hs : s 6 = nI n) (hr : mr_at μ tb ou pa pt pv pn qt qv) (hm : me_at n pa pt pv pn qt qv nm pr) (hn : n ≤ 16) {e : Int32} (he : e < 0 ∨ nI n ≤ e) : kc_Y kt kC (d + 1) j_Md_entry [.ref 136, .int e] μ (fun v μ' => v = some (.int (-2)) ∧ μ' = μ) := by
  obtain ⟨r1, r2, r3, r4, r5, r6, r7, r8⟩ := hr
  refine ⟨Nat.le_of_ble_eq_true rfl, ?_⟩
  by_cases hb : e < 0
  · skip
    refine x_il c_Md_entry_0 rfl ?_
    refine x_if_lt c_Md_entry_1 (fun _ => ?_) (fun h => absurd (hb) h)
    refine x_ci c_Md_entry_12 ?_
    refine x_goto c_Md_entry_14 ?_
    refine x_ri c_Md_entry_33 ?_
    exact ⟨rfl, rfl⟩
  · have he := he.resolve_left hb
    refine x_il c_Md_entry_0 rfl ?_
    refine x_if_lt c_Md_entry_1 (fun h => absurd h (hb)) (fun _ => ?_)
    refine x_il c_Md_entry_4 rfl ?_
    refine x_al c_Md_entry_5 rfl ?_
    refine x_getE c_Md_entry_6 (by first | rfl | exact h0 | exact r1 | exact r2 | exact r3 | exact r4 | exact r5 | exact r6 | exact r7 | exact r8) rfl (by first | exact hs | rfl) ?_
    refine x_cm_lt c_Md_entry_9 (fun h => absurd h (Int32.not_lt.mpr he)) (fun _ => ?_)
    refine x_ci c_Md_entry_12 ?_
    refine x_goto c_Md_entry_14 ?_
    refine x_ri c_Md_entry_33 ?_
    exact ⟨rfl, rfl⟩
set_option maxRecDepth 100000 in
set_option maxHeartbeats 2000000 in
theorem y_Md_entry1 (d : Nat) {μ : kc_M} {s : Nat → Int32} (h0 : μ.1 136 = some (ce_Md s)) {tb : Nat → Nat} {ou pa pt : Nat → Int32} {pv : Nat → Int64} {pn qt : Nat → Int32} {qv : Nat → Int64} {n : Nat} {nm pr : Nat → List tv} (hs : s 6 = nI n) (hr : mr_at μ tb ou pa pt pv pn qt qv) (hm : me_at n pa pt pv pn qt qv nm pr) (hn : n ≤ 16) {j : Nat} (hj : j < n) : kc_Y kt kC (d + 1) j_Md_entry [.ref 136, .int (nI j)] μ (fun v μ' => v = some (.int (nI ((nm j).length + 8 * (pr j).length))) ∧ μ' = μ) := by
  obtain ⟨r1, r2, r3, r4, r5, r6, r7, r8⟩ := hr
  have e0 := hm j hj
  refine ⟨Nat.le_of_ble_eq_true rfl, ?_⟩
  refine x_il c_Md_entry_0 rfl ?_
  refine x_if_lt c_Md_entry_1 (fun h => absurd h (nI_pos (by omega))) (fun _ => ?_)
  refine x_il c_Md_entry_4 rfl ?_
  refine x_al c_Md_entry_5 rfl ?_
  refine x_getE c_Md_entry_6 (by first | rfl | exact h0 | exact r1 | exact r2 | exact r3 | exact r4 | exact r5 | exact r6 | exact r7 | exact r8) rfl (by first | exact hs | rfl) ?_
  refine x_cm_lt c_Md_entry_9 (fun _ => ?_) (fun h => absurd (nI_lt hj (by omega)) h)
  refine x_al c_Md_entry_17 rfl ?_
  refine x_get c_Md_entry_18 (by first | rfl | exact h0 | exact r1 | exact r2 | exact r3 | exact r4 | exact r5 | exact r6 | exact r7 | exact r8) rfl ?_
  refine x_il c_Md_entry_21 rfl ?_
  refine x_ialdN c_Md_entry_22 (by first | rfl | exact h0 | exact r1 | exact r2 | exact r3 | exact r4 | exact r5 | exact r6 | exact r7 | exact r8) (by omega) (by omega) ?_
  refine x_ci c_Md_entry_23 ?_
  refine x_al c_Md_entry_25 rfl ?_
  refine x_get c_Md_entry_26 (by first | rfl | exact h0 | exact r1 | exact r2 | exact r3 | exact r4 | exact r5 | exact r6 | exact r7 | exact r8) rfl ?_
  refine x_il c_Md_entry_29 rfl ?_
  refine x_ialdN c_Md_entry_30 (by first | rfl | exact h0 | exact r1 | exact r2 | exact r3 | exact r4 | exact r5 | exact r6 | exact r7 | exact r8) (by omega) (by omega) ?_
  first | refine x_imulN c_Md_entry_31 ?_ | refine x_imul c_Md_entry_31 ?_
  first | refine x_iaddN c_Md_entry_32 ?_ | refine x_iadd c_Md_entry_32 ?_
  refine x_ri c_Md_entry_33 ?_
  exact ⟨by rw [e0.1, e0.2.2.1, pk_mul, nI_add], rfl⟩
set_option maxRecDepth 100000 in
set_option maxHeartbeats 2000000 in
theorem y_Md_isPair (d : Nat) {μ : kc_M} {s : Nat → Int32} (h0 : μ.1 136 = some (ce_Md s)) {tb : Nat → Nat} {ou pa pt : Nat → Int32} {pv : Nat → Int64} {pn qt : Nat → Int32} {qv : Nat → Int64} {n : Nat} {nm pr : Nat → List tv} (hs : s 6 = nI n) (hr : mr_at μ tb ou pa pt pv pn qt qv) (hm : me_at n pa pt pv pn qt qv nm pr) (hn : n ≤ 16) (hpl : ∀ j, j < n → (pr j).length ≤ 6) {e k : Int32} {b : Bool} (hP : isP n pr e k b) : kc_Y kt kC (d + 1) j_Md_isPair [.ref 136, .int e, .int k] μ (fun v μ' => v = some (.int (bI b)) ∧ μ' = μ) := by
  obtain ⟨r1, r2, r3, r4, r5, r6, r7, r8⟩ := hr
  refine ⟨Nat.le_of_ble_eq_true rfl, ?_⟩
  rcases hP with ⟨rfl, he | he | ⟨j, hj, rfl, hk⟩⟩ | ⟨rfl, j, i, hj, rfl, hi, rfl⟩
  · skip
    refine x_il c_Md_isPair_0 rfl ?_
    refine x_if_lt c_Md_isPair_1 (fun _ => ?_) (fun h => absurd (he) h)
    refine x_ci c_Md_isPair_30 ?_
    refine x_rz c_Md_isPair_31 (by first | decide | exact kz_n _) ?_
    exact ⟨rfl, rfl⟩
  · by_cases hb : e < 0
    · skip
      refine x_il c_Md_isPair_0 rfl ?_
      refine x_if_lt c_Md_isPair_1 (fun _ => ?_) (fun h => absurd (hb) h)
      refine x_ci c_Md_isPair_30 ?_
      refine x_rz c_Md_isPair_31 (by first | decide | exact kz_n _) ?_
      exact ⟨rfl, rfl⟩
    · skip
      refine x_il c_Md_isPair_0 rfl ?_
      refine x_if_lt c_Md_isPair_1 (fun h => absurd h (hb)) (fun _ => ?_)
      refine x_il c_Md_isPair_4 rfl ?_
      refine x_al c_Md_isPair_5 rfl ?_
      refine x_getE c_Md_isPair_6 (by first | rfl | exact h0 | exact r1 | exact r2 | exact r3 | exact r4 | exact r5 | exact r6 | exact r7 | exact r8) rfl (by first | exact hs | rfl) ?_
      refine x_cm_ge c_Md_isPair_9 (fun _ => ?_) (fun h => absurd (he) h)
      refine x_ci c_Md_isPair_30 ?_
      refine x_rz c_Md_isPair_31 (by first | decide | exact kz_n _) ?_
      exact ⟨rfl, rfl⟩
  · have e0 := hm j (by omega)
    by_cases hb : k < 0
    · skip
      refine x_il c_Md_isPair_0 rfl ?_
      refine x_if_lt c_Md_isPair_1 (fun h => absurd h (nI_pos (by omega))) (fun _ => ?_)
      refine x_il c_Md_isPair_4 rfl ?_
      refine x_al c_Md_isPair_5 rfl ?_
      refine x_getE c_Md_isPair_6 (by first | rfl | exact h0 | exact r1 | exact r2 | exact r3 | exact r4 | exact r5 | exact r6 | exact r7 | exact r8) rfl (by first | exact hs | rfl) ?_
      refine x_cm_ge c_Md_isPair_9 (fun h => absurd h (nI_ge hj (by omega))) (fun _ => ?_)
      refine x_il c_Md_isPair_12 rfl ?_
      refine x_if_lt c_Md_isPair_13 (fun _ => ?_) (fun h => absurd (hb) h)
      refine x_ci c_Md_isPair_30 ?_
      refine x_rz c_Md_isPair_31 (by first | decide | exact kz_n _) ?_
      exact ⟨rfl, rfl⟩
    · have hk := hk.resolve_left hb
      refine x_il c_Md_isPair_0 rfl ?_
      refine x_if_lt c_Md_isPair_1 (fun h => absurd h (nI_pos (by omega))) (fun _ => ?_)
      refine x_il c_Md_isPair_4 rfl ?_
      refine x_al c_Md_isPair_5 rfl ?_
      refine x_getE c_Md_isPair_6 (by first | rfl | exact h0 | exact r1 | exact r2 | exact r3 | exact r4 | exact r5 | exact r6 | exact r7 | exact r8) rfl (by first | exact hs | rfl) ?_
      refine x_cm_ge c_Md_isPair_9 (fun h => absurd h (nI_ge hj (by omega))) (fun _ => ?_)
      refine x_il c_Md_isPair_12 rfl ?_
      refine x_if_lt c_Md_isPair_13 (fun h => absurd h (hb)) (fun _ => ?_)
      refine x_il c_Md_isPair_16 rfl ?_
      refine x_al c_Md_isPair_17 rfl ?_
      refine x_get c_Md_isPair_18 (by first | rfl | exact h0 | exact r1 | exact r2 | exact r3 | exact r4 | exact r5 | exact r6 | exact r7 | exact r8) rfl ?_
      refine x_il c_Md_isPair_21 rfl ?_
      refine x_ialdN c_Md_isPair_22 (by first | rfl | exact h0 | exact r1 | exact r2 | exact r3 | exact r4 | exact r5 | exact r6 | exact r7 | exact r8) (by omega) (by omega) ?_
      refine x_cm_ge c_Md_isPair_23 (fun _ => ?_) (fun h => absurd (by rw [e0.2.2.1]; exact hk) h)
      refine x_ci c_Md_isPair_30 ?_
      refine x_rz c_Md_isPair_31 (by first | decide | exact kz_n _) ?_
      exact ⟨rfl, rfl⟩
  · have e0 := hm j (by omega)
    have hl := hpl j hj
    refine x_il c_Md_isPair_0 rfl ?_
    refine x_if_lt c_Md_isPair_1 (fun h => absurd h (nI_pos (by omega))) (fun _ => ?_)
    refine x_il c_Md_isPair_4 rfl ?_
    refine x_al c_Md_isPair_5 rfl ?_
    refine x_getE c_Md_isPair_6 (by first | rfl | exact h0 | exact r1 | exact r2 | exact r3 | exact r4 | exact r5 | exact r6 | exact r7 | exact r8) rfl (by first | exact hs | rfl) ?_
    refine x_cm_ge c_Md_isPair_9 (fun h => absurd h (nI_ge hj (by omega))) (fun _ => ?_)
    refine x_il c_Md_isPair_12 rfl ?_
    refine x_if_lt c_Md_isPair_13 (fun h => absurd h (nI_pos (by omega))) (fun _ => ?_)
    refine x_il c_Md_isPair_16 rfl ?_
    refine x_al c_Md_isPair_17 rfl ?_
    refine x_get c_Md_isPair_18 (by first | rfl | exact h0 | exact r1 | exact r2 | exact r3 | exact r4 | exact r5 | exact r6 | exact r7 | exact r8) rfl ?_
    refine x_il c_Md_isPair_21 rfl ?_
    refine x_ialdN c_Md_isPair_22 (by first | rfl | exact h0 | exact r1 | exact r2 | exact r3 | exact r4 | exact r5 | exact r6 | exact r7 | exact r8) (by omega) (by omega) ?_
    refine x_cm_ge c_Md_isPair_23 (fun h => absurd h (by rw [e0.2.2.1]; exact nI_ge hi (by omega))) (fun _ => ?_)
    refine x_ci c_Md_isPair_26 ?_
    refine x_goto c_Md_isPair_27 ?_
    refine x_rz c_Md_isPair_31 (by first | decide | exact kz_n _) ?_
    exact ⟨rfl, rfl⟩
set_option maxRecDepth 100000 in
set_option maxHeartbeats 2000000 in
theorem y_Md_pairType0 (d : Nat) {μ : kc_M} {s : Nat → Int32} (h0 : μ.1 136 = some (ce_Md s)) {tb : Nat → Nat} {ou pa pt : Nat → Int32} {pv : Nat → Int64} {pn qt : Nat → Int32} {qv : Nat → Int64} {n : Nat} {nm pr : Nat → List tv} (hs : s 6 = nI n) (hr : mr_at μ tb ou pa pt pv pn qt qv) (hm : me_at n pa pt pv pn qt qv nm pr) (hn : n ≤ 16) (hpl : ∀ j, j < n → (pr j).length ≤ 6) {e k : Int32} (hP : isP n pr e k false) : kc_Y kt kC (d + 2) j_Md_pairType [.ref 136, .int e, .int k] μ (fun v μ' => v = some (.int (-1)) ∧ μ' = μ) := by
  refine ⟨Nat.le_of_ble_eq_true rfl, ?_⟩
  refine x_al c_Md_pairType_0 rfl ?_
  refine x_il c_Md_pairType_1 rfl ?_
  refine x_il c_Md_pairType_2 rfl ?_
  refine x_cv2z _ c_Md_pairType_3 (by first | rfl | exact h0) (Nat.le_of_ble_eq_true rfl) (y_Md_isPair d h0 hs hr hm hn hpl hP) ?_
  rintro _ _ ⟨rfl, rfl⟩
  show kc_X _ _ _ _ _ [.int (bI _)] _ _
  refine x_if_eq c_Md_pairType_6 (fun _ => ?_) (fun h => absurd (rfl) h)
  refine x_ci c_Md_pairType_23 ?_
  refine x_ri c_Md_pairType_24 ?_
  exact ⟨rfl, rfl⟩
set_option maxRecDepth 100000 in
set_option maxHeartbeats 2000000 in
theorem y_Md_pairType1 (d : Nat) {μ : kc_M} {s : Nat → Int32} (h0 : μ.1 136 = some (ce_Md s)) {tb : Nat → Nat} {ou pa pt : Nat → Int32} {pv : Nat → Int64} {pn qt : Nat → Int32} {qv : Nat → Int64} {n : Nat} {nm pr : Nat → List tv} (hs : s 6 = nI n) (hr : mr_at μ tb ou pa pt pv pn qt qv) (hm : me_at n pa pt pv pn qt qv nm pr) (hn : n ≤ 16) (hpl : ∀ j, j < n → (pr j).length ≤ 6) {j i : Nat} {p : tv} (hj : j < n) (hp : (pr j)[i]? = some p) : kc_Y kt kC (d + 2) j_Md_pairType [.ref 136, .int (nI j), .int (nI i)] μ (fun v μ' => v = some (.int p.1) ∧ μ' = μ) := by
  have hi : i < (pr j).length := (List.getElem?_eq_some_iff.mp hp).1
  have hl := hpl j hj
  have hP : isP n pr (nI j) (nI i) true := Or.inr ⟨rfl, j, i, hj, rfl, hi, rfl⟩
  have hr' := hr
  obtain ⟨r1, r2, r3, r4, r5, r6, r7, r8⟩ := hr
  have e0 := hm j hj
  refine ⟨Nat.le_of_ble_eq_true rfl, ?_⟩
  refine x_al c_Md_pairType_0 rfl ?_
  refine x_il c_Md_pairType_1 rfl ?_
  refine x_il c_Md_pairType_2 rfl ?_
  refine x_cv2z _ c_Md_pairType_3 (by first | rfl | exact h0 | exact r1 | exact r2 | exact r3 | exact r4 | exact r5 | exact r6 | exact r7 | exact r8) (Nat.le_of_ble_eq_true rfl) (y_Md_isPair d h0 hs hr' hm hn hpl hP) ?_
  rintro _ _ ⟨rfl, rfl⟩
  show kc_X _ _ _ _ _ [.int (bI _)] _ _
  refine x_if_eq c_Md_pairType_6 (fun h => absurd h (by decide)) (fun _ => ?_)
  refine x_al c_Md_pairType_9 rfl ?_
  refine x_get c_Md_pairType_10 (by first | rfl | exact h0 | exact r1 | exact r2 | exact r3 | exact r4 | exact r5 | exact r6 | exact r7 | exact r8) rfl ?_
  refine x_ci c_Md_pairType_13 ?_
  refine x_il c_Md_pairType_15 rfl ?_
  first | refine x_imulN c_Md_pairType_16 ?_ | refine x_imul c_Md_pairType_16 ?_
  refine x_il c_Md_pairType_17 rfl ?_
  first | refine x_iaddN c_Md_pairType_18 ?_ | refine x_iadd c_Md_pairType_18 ?_
  refine x_ialdN c_Md_pairType_19 (by first | rfl | exact h0 | exact r1 | exact r2 | exact r3 | exact r4 | exact r5 | exact r6 | exact r7 | exact r8) (by omega) (by omega) ?_
  refine x_goto c_Md_pairType_20 ?_
  refine x_ri c_Md_pairType_24 ?_
  exact ⟨by have h9 := e0.2.2.2 i hi; rw [hp] at h9; rw [Option.some.inj h9], rfl⟩
set_option maxRecDepth 100000 in
set_option maxHeartbeats 2000000 in
theorem y_Md_pairValue0 (d : Nat) {μ : kc_M} {s : Nat → Int32} (h0 : μ.1 136 = some (ce_Md s)) {tb : Nat → Nat} {ou pa pt : Nat → Int32} {pv : Nat → Int64} {pn qt : Nat → Int32} {qv : Nat → Int64} {n : Nat} {nm pr : Nat → List tv} (hs : s 6 = nI n) (hr : mr_at μ tb ou pa pt pv pn qt qv) (hm : me_at n pa pt pv pn qt qv nm pr) (hn : n ≤ 16) (hpl : ∀ j, j < n → (pr j).length ≤ 6) {e k : Int32} (hP : isP n pr e k false) : kc_Y kt kC (d + 2) j_Md_pairValue [.ref 136, .int e, .int k] μ (fun v μ' => v = some (.long (-1)) ∧ μ' = μ) := by
  refine ⟨Nat.le_of_ble_eq_true rfl, ?_⟩
  refine x_al c_Md_pairValue_0 rfl ?_
  refine x_il c_Md_pairValue_1 rfl ?_
  refine x_il c_Md_pairValue_2 rfl ?_
  refine x_cv2z _ c_Md_pairValue_3 (by first | rfl | exact h0) (Nat.le_of_ble_eq_true rfl) (y_Md_isPair d h0 hs hr hm hn hpl hP) ?_
  rintro _ _ ⟨rfl, rfl⟩
  show kc_X _ _ _ _ _ [.int (bI _)] _ _
  refine x_if_eq c_Md_pairValue_6 (fun _ => ?_) (fun h => absurd (rfl) h)
  refine x_cl c_Md_pairValue_23 ?_
  refine x_rl c_Md_pairValue_26 ?_
  exact ⟨rfl, rfl⟩
set_option maxRecDepth 100000 in
set_option maxHeartbeats 2000000 in
theorem y_Md_pairValue1 (d : Nat) {μ : kc_M} {s : Nat → Int32} (h0 : μ.1 136 = some (ce_Md s)) {tb : Nat → Nat} {ou pa pt : Nat → Int32} {pv : Nat → Int64} {pn qt : Nat → Int32} {qv : Nat → Int64} {n : Nat} {nm pr : Nat → List tv} (hs : s 6 = nI n) (hr : mr_at μ tb ou pa pt pv pn qt qv) (hm : me_at n pa pt pv pn qt qv nm pr) (hn : n ≤ 16) (hpl : ∀ j, j < n → (pr j).length ≤ 6) {j i : Nat} {p : tv} (hj : j < n) (hp : (pr j)[i]? = some p) : kc_Y kt kC (d + 2) j_Md_pairValue [.ref 136, .int (nI j), .int (nI i)] μ (fun v μ' => v = some (.long p.2) ∧ μ' = μ) := by
  have hi : i < (pr j).length := (List.getElem?_eq_some_iff.mp hp).1
  have hl := hpl j hj
  have hP : isP n pr (nI j) (nI i) true := Or.inr ⟨rfl, j, i, hj, rfl, hi, rfl⟩
  have hr' := hr
  obtain ⟨r1, r2, r3, r4, r5, r6, r7, r8⟩ := hr
  have e0 := hm j hj
  refine ⟨Nat.le_of_ble_eq_true rfl, ?_⟩
  refine x_al c_Md_pairValue_0 rfl ?_
  refine x_il c_Md_pairValue_1 rfl ?_
  refine x_il c_Md_pairValue_2 rfl ?_
  refine x_cv2z _ c_Md_pairValue_3 (by first | rfl | exact h0 | exact r1 | exact r2 | exact r3 | exact r4 | exact r5 | exact r6 | exact r7 | exact r8) (Nat.le_of_ble_eq_true rfl) (y_Md_isPair d h0 hs hr' hm hn hpl hP) ?_
  rintro _ _ ⟨rfl, rfl⟩
  show kc_X _ _ _ _ _ [.int (bI _)] _ _
  refine x_if_eq c_Md_pairValue_6 (fun h => absurd h (by decide)) (fun _ => ?_)
  refine x_al c_Md_pairValue_9 rfl ?_
  refine x_get c_Md_pairValue_10 (by first | rfl | exact h0 | exact r1 | exact r2 | exact r3 | exact r4 | exact r5 | exact r6 | exact r7 | exact r8) rfl ?_
  refine x_ci c_Md_pairValue_13 ?_
  refine x_il c_Md_pairValue_15 rfl ?_
  first | refine x_imulN c_Md_pairValue_16 ?_ | refine x_imul c_Md_pairValue_16 ?_
  refine x_il c_Md_pairValue_17 rfl ?_
  first | refine x_iaddN c_Md_pairValue_18 ?_ | refine x_iadd c_Md_pairValue_18 ?_
  refine x_laldN c_Md_pairValue_19 (by first | rfl | exact h0 | exact r1 | exact r2 | exact r3 | exact r4 | exact r5 | exact r6 | exact r7 | exact r8) (by omega) (by omega) ?_
  refine x_goto c_Md_pairValue_20 ?_
  refine x_rl c_Md_pairValue_26 ?_
  exact ⟨by have h9 := e0.2.2.2 i hi; rw [hp] at h9; rw [Option.some.inj h9], rfl⟩
set_option maxRecDepth 100000 in
set_option maxHeartbeats 2000000 in
theorem y_Md_answer0 (d : Nat) {μ : kc_M} {s : Nat → Int32} (h0 : μ.1 136 = some (ce_Md s)) {tb : Nat → Nat} {w pa pt : Nat → Int32} {pv : Nat → Int64} {pn qt : Nat → Int32} {qv : Nat → Int64} {wn : Nat} (hs5 : s 5 = nI wn) (hr : mr_at μ tb w pa pt pv pn qt qv) (hwn : wn ≤ 400) {i : Int32} (he : i < 0 ∨ nI wn ≤ i) : kc_Y kt kC (d + 1) j_Md_answer [.ref 136, .int i] μ (fun v μ' => v = some (.long (-1)) ∧ μ' = μ) := by
  refine ⟨Nat.le_of_ble_eq_true rfl, ?_⟩
  by_cases hb : i < 0
  · skip
    refine x_il c_Md_answer_0 rfl ?_
    refine x_if_lt c_Md_answer_1 (fun _ => ?_) (fun h => absurd (hb) h)
    refine x_cl c_Md_answer_12 ?_
    refine x_rl c_Md_answer_15 ?_
    exact ⟨rfl, rfl⟩
  · have he := he.resolve_left hb
    refine x_il c_Md_answer_0 rfl ?_
    refine x_if_lt c_Md_answer_1 (fun h => absurd h (hb)) (fun _ => ?_)
    refine x_il c_Md_answer_4 rfl ?_
    refine x_al c_Md_answer_5 rfl ?_
    refine x_getE c_Md_answer_6 (by first | rfl | exact h0) rfl (by first | exact hs5 | rfl) ?_
    refine x_cm_lt c_Md_answer_9 (fun h => absurd h (Int32.not_lt.mpr he)) (fun _ => ?_)
    refine x_cl c_Md_answer_12 ?_
    refine x_rl c_Md_answer_15 ?_
    exact ⟨rfl, rfl⟩
set_option maxRecDepth 100000 in
set_option maxHeartbeats 2000000 in
theorem y_Md_answer1 (d : Nat) {μ : kc_M} {s : Nat → Int32} (h0 : μ.1 136 = some (ce_Md s)) {tb : Nat → Nat} {w pa pt : Nat → Int32} {pv : Nat → Int64} {pn qt : Nat → Int32} {qv : Nat → Int64} {wn : Nat} (hs5 : s 5 = nI wn) (hr : mr_at μ tb w pa pt pv pn qt qv) (hwn : wn ≤ 400) {i : Nat} (hi : i < wn) : kc_Y kt kC (d + 1) j_Md_answer [.ref 136, .int (nI i)] μ (fun v μ' => v = some (.long (shl8 w (min (i + 7) wn - i) i 0)) ∧ μ' = μ) := by
  obtain ⟨r1, r2, r3, r4, r5, r6, r7, r8⟩ := hr
  refine ⟨Nat.le_of_ble_eq_true rfl, ?_⟩
  have loop : ∀ m k : Nat, ∀ v : Int64, min (i + 7) wn - k = m → k ≤ min (i + 7) wn → shl8 w m k v = shl8 w (min (i + 7) wn - i) i 0 → kc_X (kC j_Md_answer) (kc_Y kt kC d) (fun v μ' => v = some (.long (shl8 w (min (i + 7) wn - i) i 0)) ∧ μ' = μ) 21 [some (.ref 136), some (.int (nI i)), some (.long v), none, some (.int (nI k))] [] μ (0, 0) := by
    intro m
    induction m with
    | zero =>
      intro k v hm hk hs
      have hs : v = shl8 w (min (i + 7) wn - i) i 0 := hs
      by_cases hb : i + 7 ≤ k ∧ k < wn
      · skip
        refine x_il c_Md_answer_21 rfl ?_
        refine x_al c_Md_answer_23 rfl ?_
        refine x_getE c_Md_answer_24 (by first | rfl | exact h0 | exact r1 | exact r2 | exact r3 | exact r4 | exact r5 | exact r6 | exact r7 | exact r8) rfl (by first | exact hs5 | rfl) ?_
        refine x_cm_ge c_Md_answer_27 (fun h => absurd h (nI_ge (by omega) (by omega))) (fun _ => ?_)
        refine x_il c_Md_answer_30 rfl ?_
        refine x_il c_Md_answer_32 rfl ?_
        refine x_ci c_Md_answer_33 ?_
        first | refine x_iaddN c_Md_answer_35 ?_ | refine x_iadd c_Md_answer_35 ?_
        refine x_cm_ge c_Md_answer_36 (fun _ => ?_) (fun h => absurd (nI_le hb.1 (by omega)) h)
        refine x_ll c_Md_answer_59 rfl ?_
        refine x_rl c_Md_answer_60 ?_
        exact ⟨by rw [hs], rfl⟩
      · skip
        refine x_il c_Md_answer_21 rfl ?_
        refine x_al c_Md_answer_23 rfl ?_
        refine x_getE c_Md_answer_24 (by first | rfl | exact h0 | exact r1 | exact r2 | exact r3 | exact r4 | exact r5 | exact r6 | exact r7 | exact r8) rfl (by first | exact hs5 | rfl) ?_
        refine x_cm_ge c_Md_answer_27 (fun _ => ?_) (fun h => absurd (nI_le (by omega) (by omega)) h)
        refine x_ll c_Md_answer_59 rfl ?_
        refine x_rl c_Md_answer_60 ?_
        exact ⟨by rw [hs], rfl⟩
    | succ m ih =>
      intro k v hm hk hs
      refine x_il c_Md_answer_21 rfl ?_
      refine x_al c_Md_answer_23 rfl ?_
      refine x_getE c_Md_answer_24 (by first | rfl | exact h0 | exact r1 | exact r2 | exact r3 | exact r4 | exact r5 | exact r6 | exact r7 | exact r8) rfl (by first | exact hs5 | rfl) ?_
      refine x_cm_ge c_Md_answer_27 (fun h => absurd h (nI_ge (by omega) (by omega))) (fun _ => ?_)
      refine x_il c_Md_answer_30 rfl ?_
      refine x_il c_Md_answer_32 rfl ?_
      refine x_ci c_Md_answer_33 ?_
      first | refine x_iaddN c_Md_answer_35 ?_ | refine x_iadd c_Md_answer_35 ?_
      refine x_cm_ge c_Md_answer_36 (fun h => absurd h (nI_ge (by omega) (by omega))) (fun _ => ?_)
      refine x_ll c_Md_answer_39 rfl ?_
      refine x_ci c_Md_answer_40 ?_
      refine x_lshl c_Md_answer_42 ?_
      refine x_al c_Md_answer_43 rfl ?_
      refine x_get c_Md_answer_44 (by first | rfl | exact h0 | exact r1 | exact r2 | exact r3 | exact r4 | exact r5 | exact r6 | exact r7 | exact r8) rfl ?_
      refine x_il c_Md_answer_47 rfl ?_
      refine x_ialdN c_Md_answer_49 (by first | rfl | exact h0 | exact r1 | exact r2 | exact r3 | exact r4 | exact r5 | exact r6 | exact r7 | exact r8) (by omega) (by omega) ?_
      refine x_i2l c_Md_answer_50 ?_
      refine x_lor c_Md_answer_51 ?_
      refine x_ls [_, _, _, _, _] c_Md_answer_52 rfl ?_
      first | refine x_incN [_, _, _, _, _] c_Md_answer_53 rfl rfl ?_ | refine x_inc [_, _, _, _, _] c_Md_answer_53 rfl rfl ?_
      refine x_goto c_Md_answer_56 ?_
      exact ih (k + 1) _ (by omega) (by omega) hs
  refine x_il c_Md_answer_0 rfl ?_
  refine x_if_lt c_Md_answer_1 (fun h => absurd h (nI_pos (by omega))) (fun _ => ?_)
  refine x_il c_Md_answer_4 rfl ?_
  refine x_al c_Md_answer_5 rfl ?_
  refine x_getE c_Md_answer_6 (by first | rfl | exact h0) rfl (by first | exact hs5 | rfl) ?_
  refine x_cm_lt c_Md_answer_9 (fun _ => ?_) (fun h => absurd (nI_lt hi (by omega)) h)
  refine x_cl c_Md_answer_16 ?_
  refine x_ls [_, _, _, _, _] c_Md_answer_17 rfl ?_
  refine x_il c_Md_answer_18 rfl ?_
  refine x_is [_, _, _, _, _] c_Md_answer_19 rfl ?_
  exact loop _ i 0 rfl (by omega) rfl
