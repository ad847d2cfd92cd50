/-! the tree of entries; Tree(), the other constructors, DirectoryDesk() -/
theorem kc_Be {C : Nat → kc_A} {R : kc_R} {Q : Option Value → kc_M → Prop} {pc : Nat} {L : kc_L} {st : List Value} {μ : kc_M} {B B' : Nat × Nat} (h : B = B') (k : kc_X C R Q pc L st μ B') : kc_X C R Q pc L st μ B := h ▸ k
/-- an entry at e: its name and its pairs -/
def en_l (μ : kc_M) (e : Nat) (nl pl : List tv) : Prop := μ.1 e = some (ce_En (e + 1) (e + 4)) ∧ nm_at μ (e + 1) (e + 2) (e + 3) nl ∧ pa_at μ (e + 4) (e + 5) (e + 6) 6 pl
theorem en_l0 {μ : kc_M} {e : Nat} (h : en_at μ e 0 (fun _ => 0) (fun _ => 0) 0 (fun _ => 0) (fun _ => 0)) : en_l μ e [] [] := by
  obtain ⟨h1, h2, h3, h4, h5, h6, h7⟩ := h
  exact ⟨h1, ⟨_, _, h2, h3, h4, fun k hk => by simp at hk, by simp⟩, ⟨_, _, h5, h6, h7, fun k hk => by simp at hk, by simp⟩⟩
theorem nm_c {μ : kc_M} {a t v : Nat} {l : List tv} (h : nm_at μ a t v l) : μ.1 a = some (ce_Nm t v (nI l.length)) := by obtain ⟨_, _, h, _⟩ := h; exact h
theorem pa_c {μ : kc_M} {a t v c : Nat} {l : List tv} (h : pa_at μ a t v c l) : μ.1 a = some (ce_Pa t v l.length) := by obtain ⟨_, _, h, _⟩ := h; exact h
theorem nm_k {μ μ' : kc_M} {a t v : Nat} {l : List tv} (h : nm_at μ a t v l) (h1 : μ'.1 a = μ.1 a) (h2 : μ'.1 t = μ.1 t) (h3 : μ'.1 v = μ.1 v) : nm_at μ' a t v l := by
  obtain ⟨f, g, a1, a2, a3, a4⟩ := h
  exact ⟨f, g, h1.trans a1, h2.trans a2, h3.trans a3, a4⟩
theorem pa_k {μ μ' : kc_M} {a t v c : Nat} {l : List tv} (h : pa_at μ a t v c l) (h1 : μ'.1 a = μ.1 a) (h2 : μ'.1 t = μ.1 t) (h3 : μ'.1 v = μ.1 v) : pa_at μ' a t v c l := by
  obtain ⟨f, g, a1, a2, a3, a4⟩ := h
  exact ⟨f, g, h1.trans a1, h2.trans a2, h3.trans a3, a4⟩
theorem en_k {μ μ' : kc_M} {e : Nat} {nl pl : List tv} (h : en_l μ e nl pl) (hk : ∀ q, e ≤ q → q < e + 7 → μ'.1 q = μ.1 q) : en_l μ' e nl pl :=
  ⟨(hk e (by omega) (by omega)).trans h.1, nm_k h.2.1 (hk _ (by omega) (by omega)) (hk _ (by omega) (by omega)) (hk _ (by omega) (by omega)), pa_k h.2.2 (hk _ (by omega) (by omega)) (hk _ (by omega) (by omega)) (hk _ (by omega) (by omega))⟩
/-- the tree: n entries, row e at the address ad e -/
def tr_at (μ : kc_M) (n : Nat) (ad : Nat → Nat) (nm pr : Nat → List tv) : Prop :=
  μ.1 5 = some (ce_Tr n) ∧ (∃ rf : Nat → Option Nat, μ.1 6 = some (ce_Q 16 rf) ∧ ∀ e, e < 16 → rf e = some (ad e)) ∧ (∀ e, e < 16 → en_l μ (ad e) (nm e) (pr e)) ∧ (∀ e, e < 16 → ∃ k, k < 16 ∧ ad e = 7 + 7 * k) ∧ (∀ i j, i < 16 → j < 16 → ad i = ad j → i = j) ∧ n ≤ 16
def v_r : Int64 := 8214565720323784704
def v_x : Int64 := 8646911284551352320
set_option maxRecDepth 100000 in
set_option maxHeartbeats 2000000 in
theorem y_Tr_init (d : Nat) {μ : kc_M} (hn : μ.2 = some 6) (hm : μ.1 5 = some (.inl (3, [.null, .int 0]))) : kc_Y kt kC (d + 4) j_Tr_init [.ref 5] μ (fun v μ' => v = none ∧ μ'.2 = some 119 ∧ tr_at μ' 1 (fun e => 7 + 7 * e) (fun e => if e = 0 then [(nI 97, v_r)] else []) (fun e => if e = 0 then [(nI 97, v_r), (nI 102, v_x)] else []) ∧ ∀ q, q < 5 ∨ 119 ≤ q → μ'.1 q = μ.1 q) := by
  refine ⟨Nat.le_of_ble_eq_true rfl, ?_⟩
  have loop : ∀ m i : Nat, 16 - i = m → i ≤ 16 → ∀ μ1 : kc_M, μ1.2 = some (7 + 7 * i) → μ1.1 5 = some (ce_Tr 0) → (∃ rf : Nat → Option Nat, μ1.1 6 = some (ce_Q 16 rf) ∧ ∀ e, e < i → rf e = some (7 + 7 * e)) → (∀ e, e < i → en_l μ1 (7 + 7 * e) [] []) → (∀ q, q < 5 ∨ 7 + 7 * i ≤ q → μ1.1 q = μ.1 q) →
      kc_X (kC j_Tr_init) (kc_Y kt kC (d + 3)) (fun v μ' => v = none ∧ μ'.2 = some 119 ∧ tr_at μ' 1 (fun e => 7 + 7 * e) (fun e => if e = 0 then [(nI 97, v_r)] else []) (fun e => if e = 0 then [(nI 97, v_r), (nI 102, v_x)] else []) ∧ ∀ q, q < 5 ∨ 119 ≤ q → μ'.1 q = μ.1 q) 15 [some (.ref 5), some (.int (nI i)), none] [] μ1 (112 - 7 * i, 1216 - 76 * i) := by
    intro m
    induction m with
    | zero =>
      intro i hm hi μ1 hsz h5 ⟨rf, h6, hrf⟩ hen hfr
      refine x_il c_Tr_init_15 rfl ?_
      refine x_ci c_Tr_init_16 ?_
      refine x_cm_ge c_Tr_init_18 (fun _ => ?_) (fun h => absurd (nI_le (by omega) (by omega)) h)
      have e0 := hen 0 (by omega)
      refine x_cl c_Tr_init_40 ?_
      refine x_ls [_, _, _] c_Tr_init_43 rfl ?_
      refine x_al c_Tr_init_44 rfl ?_
      refine x_get c_Tr_init_45 (by first | rfl | exact h5 | exact h6 | exact e0.1 | exact k5 | exact k6 | exact k7 | exact l5 | exact l6 | exact l7 | exact q5 | exact q6 | exact q7 | exact (nm_c e0.2.1) | exact (pa_c p2) | exact (pa_c a3)) rfl ?_
      refine x_ci c_Tr_init_48 ?_
      refine x_aaldN c_Tr_init_49 (by first | rfl | exact h5 | exact h6 | exact e0.1 | exact k5 | exact k6 | exact k7 | exact l5 | exact l6 | exact l7 | exact q5 | exact q6 | exact q7 | exact (nm_c e0.2.1) | exact (pa_c p2) | exact (pa_c a3)) (by omega) (by omega) (hrf 0 (by omega)) ?_
      refine x_get c_Tr_init_50 (by first | rfl | exact h5 | exact h6 | exact e0.1 | exact k5 | exact k6 | exact k7 | exact l5 | exact l6 | exact l7 | exact q5 | exact q6 | exact q7 | exact (nm_c e0.2.1) | exact (pa_c p2) | exact (pa_c a3)) rfl ?_
      refine x_ci c_Tr_init_53 ?_
      refine x_ll c_Tr_init_55 rfl ?_
      refine x_cv2z _ c_Tr_init_56 (by first | rfl | exact h5 | exact h6 | exact e0.1 | exact k5 | exact k6 | exact k7 | exact l5 | exact l6 | exact l7 | exact q5 | exact q6 | exact q7 | exact (nm_c e0.2.1) | exact (pa_c p2) | exact (pa_c a3)) (Nat.le_of_ble_eq_true rfl) (y_Nm_append (d + 2) (l := []) e0.2.1 (by omega) (by omega) (by omega) (by omega) (by simp)) ?_
      rintro _ μ2 ⟨rfl, a2, s2, f2⟩
      show kc_X _ _ _ _ _ [] _ _
      have k5 : μ2.1 5 = some (ce_Tr 0) := (f2 5 (by omega) (by omega) (by omega)).trans h5
      have k6 : μ2.1 6 = some (ce_Q 16 rf) := (f2 6 (by omega) (by omega) (by omega)).trans h6
      have k7 : μ2.1 7 = some (ce_En 8 11) := (f2 7 (by omega) (by omega) (by omega)).trans e0.1
      have p2 := pa_k (μ' := μ2) e0.2.2 (f2 _ (by omega) (by omega) (by omega)) (f2 _ (by omega) (by omega) (by omega)) (f2 _ (by omega) (by omega) (by omega))
      refine x_al c_Tr_init_59 rfl ?_
      refine x_get c_Tr_init_60 (by first | rfl | exact h5 | exact h6 | exact e0.1 | exact k5 | exact k6 | exact k7 | exact l5 | exact l6 | exact l7 | exact q5 | exact q6 | exact q7 | exact (nm_c e0.2.1) | exact (pa_c p2) | exact (pa_c a3)) rfl ?_
      refine x_ci c_Tr_init_63 ?_
      refine x_aaldN c_Tr_init_64 (by first | rfl | exact h5 | exact h6 | exact e0.1 | exact k5 | exact k6 | exact k7 | exact l5 | exact l6 | exact l7 | exact q5 | exact q6 | exact q7 | exact (nm_c e0.2.1) | exact (pa_c p2) | exact (pa_c a3)) (by omega) (by omega) (hrf 0 (by omega)) ?_
      refine x_get c_Tr_init_65 (by first | rfl | exact h5 | exact h6 | exact e0.1 | exact k5 | exact k6 | exact k7 | exact l5 | exact l6 | exact l7 | exact q5 | exact q6 | exact q7 | exact (nm_c e0.2.1) | exact (pa_c p2) | exact (pa_c a3)) rfl ?_
      refine x_ci c_Tr_init_68 ?_
      refine x_ll c_Tr_init_70 rfl ?_
      refine x_cv2z _ c_Tr_init_71 (by first | rfl | exact h5 | exact h6 | exact e0.1 | exact k5 | exact k6 | exact k7 | exact l5 | exact l6 | exact l7 | exact q5 | exact q6 | exact q7 | exact (nm_c e0.2.1) | exact (pa_c p2) | exact (pa_c a3)) (Nat.le_of_ble_eq_true rfl) (y_Pa_append (d + 1) (l := []) p2 (by omega) (by omega) (by omega) (by omega) (by omega) (by simp) (by simp)) ?_
      rintro _ μ3 ⟨rfl, a3, s3, f3⟩
      show kc_X _ _ _ _ _ [.int (nI 1)] _ _
      have l5 : μ3.1 5 = some (ce_Tr 0) := (f3 5 (by omega) (by omega) (by omega)).trans k5
      have l6 : μ3.1 6 = some (ce_Q 16 rf) := (f3 6 (by omega) (by omega) (by omega)).trans k6
      have l7 : μ3.1 7 = some (ce_En 8 11) := (f3 7 (by omega) (by omega) (by omega)).trans k7
      refine x_pop c_Tr_init_74 rfl ?_
      refine x_al c_Tr_init_75 rfl ?_
      refine x_get c_Tr_init_76 (by first | rfl | exact h5 | exact h6 | exact e0.1 | exact k5 | exact k6 | exact k7 | exact l5 | exact l6 | exact l7 | exact q5 | exact q6 | exact q7 | exact (nm_c e0.2.1) | exact (pa_c p2) | exact (pa_c a3)) rfl ?_
      refine x_ci c_Tr_init_79 ?_
      refine x_aaldN c_Tr_init_80 (by first | rfl | exact h5 | exact h6 | exact e0.1 | exact k5 | exact k6 | exact k7 | exact l5 | exact l6 | exact l7 | exact q5 | exact q6 | exact q7 | exact (nm_c e0.2.1) | exact (pa_c p2) | exact (pa_c a3)) (by omega) (by omega) (hrf 0 (by omega)) ?_
      refine x_get c_Tr_init_81 (by first | rfl | exact h5 | exact h6 | exact e0.1 | exact k5 | exact k6 | exact k7 | exact l5 | exact l6 | exact l7 | exact q5 | exact q6 | exact q7 | exact (nm_c e0.2.1) | exact (pa_c p2) | exact (pa_c a3)) rfl ?_
      refine x_ci c_Tr_init_84 ?_
      refine x_cl c_Tr_init_86 ?_
      refine x_cv2z _ c_Tr_init_89 (by first | rfl | exact h5 | exact h6 | exact e0.1 | exact k5 | exact k6 | exact k7 | exact l5 | exact l6 | exact l7 | exact q5 | exact q6 | exact q7 | exact (nm_c e0.2.1) | exact (pa_c p2) | exact (pa_c a3)) (Nat.le_of_ble_eq_true rfl) (y_Pa_append (d + 1) (l := [(nI 97, v_r)]) a3 (by omega) (by omega) (by omega) (by omega) (by omega) (by simp) (by decide)) ?_
      rintro _ μ4 ⟨rfl, a4, s4, f4⟩
      show kc_X _ _ _ _ _ [.int (nI 1)] _ _
      have q5 : μ4.1 5 = some (ce_Tr 0) := (f4 5 (by omega) (by omega) (by omega)).trans l5
      have q6 : μ4.1 6 = some (ce_Q 16 rf) := (f4 6 (by omega) (by omega) (by omega)).trans l6
      have q7 : μ4.1 7 = some (ce_En 8 11) := (f4 7 (by omega) (by omega) (by omega)).trans l7
      refine x_pop c_Tr_init_92 rfl ?_
      refine x_al c_Tr_init_93 rfl ?_
      refine x_ci c_Tr_init_94 ?_
      refine x_put [_, _] c_Tr_init_95 (by first | rfl | exact h5 | exact h6 | exact e0.1 | exact k5 | exact k6 | exact k7 | exact l5 | exact l6 | exact l7 | exact q5 | exact q6 | exact q7 | exact (nm_c e0.2.1) | exact (pa_c p2) | exact (pa_c a3)) ⟨Nat.le_of_ble_eq_true rfl, rfl, rfl⟩ rfl ?_
      refine x_ret c_Tr_init_98 ?_
      have fr : ∀ q, q ≠ 5 → (q < 8 ∨ 14 ≤ q) → (kc_u μ4 5 (ce_Tr 1)).1 q = μ1.1 q := fun q q1 q2 => by rw [kc_gf q1, f4 q (by omega) (by omega) (by omega), f3 q (by omega) (by omega) (by omega), f2 q (by omega) (by omega) (by omega)]
      refine ⟨rfl, by show μ4.2 = _; rw [s4, s3, s2, hsz, show i = 16 by omega], ⟨kc_gs, ⟨rf, (fr 6 (by omega) (by omega)).trans h6, fun e he => hrf e (by omega)⟩, fun e he => ?_, fun e he => ⟨e, he, rfl⟩, fun i j _ _ hij => by have h9 : 7 + 7 * i = 7 + 7 * j := hij; omega, by omega⟩, fun q hq => (fr q (by omega) (by omega)).trans (hfr q (by omega))⟩
      by_cases he0 : e = 0
      · subst he0
        show en_l _ 7 [(nI 97, v_r)] [(nI 97, v_r), (nI 102, v_x)]
        refine ⟨(fr 7 (by omega) (by omega)).trans e0.1, nm_k a2 ?_ ?_ ?_, pa_k a4 (kc_gf (by omega)) (kc_gf (by omega)) (kc_gf (by omega))⟩
        · rw [kc_gf (by omega), f4 _ (by omega) (by omega) (by omega), f3 _ (by omega) (by omega) (by omega)]
        · rw [kc_gf (by omega), f4 _ (by omega) (by omega) (by omega), f3 _ (by omega) (by omega) (by omega)]
        · rw [kc_gf (by omega), f4 _ (by omega) (by omega) (by omega), f3 _ (by omega) (by omega) (by omega)]
      · simp only [he0, if_false]
        show en_l _ (7 + 7 * e) [] []
        exact en_k (hen e (by omega)) (fun q q1 q2 => fr q (by omega) (by omega))
    | succ m ih =>
      intro i hm hi μ1 hsz h5 ⟨rf, h6, hrf⟩ hen hfr
      refine x_il c_Tr_init_15 rfl ?_
      refine x_ci c_Tr_init_16 ?_
      refine x_cm_ge c_Tr_init_18 (fun h => absurd h (nI_ge (by omega) (by omega))) (fun _ => ?_)
      refine x_al c_Tr_init_21 rfl ?_
      refine x_get c_Tr_init_22 (by first | rfl | exact h5 | exact h6 | exact k5 | exact k6 | exact k7) rfl ?_
      refine x_il c_Tr_init_25 rfl ?_
      refine x_new c_Tr_init_26 hsz ⟨by show 1 ≤ 112 - 7 * i; omega, by show 2 ≤ 1216 - 76 * i; omega⟩ ?_
      refine x_dup c_Tr_init_29 rfl ?_
      refine x_cx0 _ c_Tr_init_30 (Nat.le_of_ble_eq_true rfl) ⟨by show 6 ≤ 112 - 7 * i - 1; omega, by show 74 ≤ 1216 - 76 * i - 2; omega⟩ (y_En_init (d + 1) (e := 7 + 7 * i) (by show some (7 + 7 * i + 1) = _; rfl) kc_ns) ?_
      rintro _ μ2 ⟨rfl, n2, e2, f2⟩
      show kc_X _ _ _ _ _ [.ref (7 + 7 * i), .int (nI i), .ref 6] _ _
      have k5 : μ2.1 5 = some (ce_Tr 0) := (f2 5 (Or.inl (by omega))).trans (kc_nn (by omega) h5)
      have k6 : μ2.1 6 = some (ce_Q 16 rf) := (f2 6 (Or.inl (by omega))).trans (kc_nn (by omega) h6)
      have k7 := e2.1
      refine x_aastN c_Tr_init_33 (by first | rfl | exact h5 | exact h6 | exact k5 | exact k6 | exact k7) (by first | rfl | exact h5 | exact h6 | exact k5 | exact k6 | exact k7) (by omega) (by omega) ?_
      first | refine x_incN [_, _, _] c_Tr_init_34 rfl rfl ?_ | refine x_inc [_, _, _] c_Tr_init_34 rfl rfl ?_
      refine x_goto c_Tr_init_37 ?_
      refine kc_Be (B' := (112 - 7 * (i + 1), 1216 - 76 * (i + 1))) (Prod.ext (by show 112 - 7 * i - 1 - 6 = 112 - 7 * (i + 1); omega) (by show 1216 - 76 * i - 2 - 74 = 1216 - 76 * (i + 1); omega)) ?_
      refine ih (i + 1) (by omega) (by omega) _ (by show μ2.2 = _; rw [n2]; first | rfl | (congr 1; omega)) ((kc_gf (by omega)).trans k5) ⟨_, kc_gs, fun e he => ?_⟩ (fun e he => ?_) (fun q hq => ?_)
      · by_cases hei : e = i
        · subst hei; simp [va_up]
        · simp only [va_up, hei, if_false]; exact hrf e (by omega)
      · by_cases hei : e = i
        · subst hei; exact en_k (en_l0 e2) (fun q q1 q2 => kc_gf (by omega))
        · refine en_k (hen e (by omega)) (fun q q1 q2 => ?_)
          rw [kc_gf (by omega), f2 q (Or.inl (by omega))]
          exact kc_nn (by omega) rfl
      · rw [kc_gf (by omega), f2 q (by omega), kc_nn (by omega) rfl]
        exact hfr q (by omega)
  refine x_al c_Tr_init_0 rfl ?_
  refine x_obj c_Tr_init_1 (Nat.le_of_ble_eq_true rfl) ?_
  refine x_al c_Tr_init_4 rfl ?_
  refine x_ci c_Tr_init_5 ?_
  refine x_newq 16 c_Tr_init_7 (by first | rfl | exact hn) ⟨by decide, by decide, by decide⟩ ⟨Nat.le_of_ble_eq_true rfl, Nat.le_of_ble_eq_true rfl⟩ ?_
  refine x_put [_, _] c_Tr_init_10 (by first | rfl | exact hm | exact (kc_nn (by omega) hm)) ⟨Nat.le_of_ble_eq_true rfl, rfl, rfl⟩ rfl ?_
  refine x_ci c_Tr_init_13 ?_
  refine x_is [_, _, _] c_Tr_init_14 rfl ?_
  exact loop 16 0 rfl (by omega) _ rfl kc_gs ⟨_, kc_gn (by omega) kc_ns, fun e he => by omega⟩ (fun e he => by omega) (fun q hq => by rw [kc_gf (by omega)]; exact kc_nn (by omega) rfl)
