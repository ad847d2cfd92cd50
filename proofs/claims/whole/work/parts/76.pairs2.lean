/-! the class's pairs: taken out, copied, put in -/
theorem x_cpiN {C : Nat → kc_A} {R : kc_R} {Q : Option Value → kc_M → Prop} {pc : Nat} {L : kc_L} {μ : kc_M} {B : Nat × Nat} {a0 a1 n0 n1 n : Nat} {f g : Nat → Int32} {r : List Value} (hC : C pc = ka_cpi) (hs : (r.map fun v => v.category).sum ≤ 8) (h0 : μ.1 a0 = some (ce_I n0 f)) (h1 : μ.1 a1 = some (ce_I n1 g)) (hn0 : n ≤ n0) (hn1 : n ≤ n1) (hne : a0 ≠ a1) (hn : n < 2 ^ 31) (h : kc_X C R Q (pc + 3) L r ((kc_u μ a1 (ce_I n1 (fun j => if j < n then f j else g j))).1, none) B) : kc_X C R Q pc L (.int (nI n) :: .int (nI 0) :: .ref a1 :: .int (nI 0) :: .ref a0 :: r) μ B := by
  refine x_cpi hC hs ⟨h0, h1, by decide, by decide, nI_pos hn, by rw [nI_clamp hn]; show 0 + n ≤ n0; omega, by rw [nI_clamp hn]; show 0 + n ≤ n1; omega, hne⟩ ?_
  rw [nI_clamp hn]
  have e : va_cpy f g (nI 0).toNatClampNeg (nI 0).toNatClampNeg n = (fun j => if j < n then f j else g j) := by
    funext j
    show va_cpy f g 0 0 n j = _
    unfold va_cpy
    by_cases hj : j < n
    · simp [hj]
    · simp [hj]
  rw [e]
  exact h
theorem x_cplN {C : Nat → kc_A} {R : kc_R} {Q : Option Value → kc_M → Prop} {pc : Nat} {L : kc_L} {μ : kc_M} {B : Nat × Nat} {a0 a1 n0 n1 n : Nat} {f g : Nat → Int64} {r : List Value} (hC : C pc = ka_cpl) (hs : (r.map fun v => v.category).sum ≤ 8) (h0 : μ.1 a0 = some (ce_L n0 f)) (h1 : μ.1 a1 = some (ce_L n1 g)) (hn0 : n ≤ n0) (hn1 : n ≤ n1) (hne : a0 ≠ a1) (hn : n < 2 ^ 31) (h : kc_X C R Q (pc + 3) L r ((kc_u μ a1 (ce_L n1 (fun j => if j < n then f j else g j))).1, none) B) : kc_X C R Q pc L (.int (nI n) :: .int (nI 0) :: .ref a1 :: .int (nI 0) :: .ref a0 :: r) μ B := by
  refine x_cpl hC hs ⟨h0, h1, by decide, by decide, nI_pos hn, by rw [nI_clamp hn]; show 0 + n ≤ n0; omega, by rw [nI_clamp hn]; show 0 + n ≤ n1; omega, hne⟩ ?_
  rw [nI_clamp hn]
  have e : va_cpy f g (nI 0).toNatClampNeg (nI 0).toNatClampNeg n = (fun j => if j < n then f j else g j) := by
    funext j
    show va_cpy f g 0 0 n j = _
    unfold va_cpy
    by_cases hj : j < n
    · simp [hj]
    · simp [hj]
  rw [e]
  exact h
/-- stays when those of a type between two values go -/
def kp (ty : Int32) (lo hi : Int64) (p : tv) : Bool := !(decide (p.1 = ty) && decide (lo ≤ p.2) && decide (p.2 ≤ hi))
theorem kp_t {ty : Int32} {lo hi : Int64} {p : tv} (h : ¬ p.1 = ty ∨ p.2 < lo ∨ hi < p.2) : kp ty lo hi p = true := by
  unfold kp
  rcases h with h | h | h
  · rw [decide_eq_false h]; rfl
  · rw [decide_eq_false (p := lo ≤ p.2) (by rw [Int64.not_le]; exact h)]; simp
  · rw [decide_eq_false (p := p.2 ≤ hi) (by rw [Int64.not_le]; exact h)]; simp
theorem kp_f {ty : Int32} {lo hi : Int64} {p : tv} (h : p.1 = ty) (h1 : ¬ p.2 < lo) (h2 : p.2 ≤ hi) : kp ty lo hi p = false := by
  unfold kp
  rw [decide_eq_true h, decide_eq_true (p := lo ≤ p.2) (by rw [← Int64.not_lt]; exact h1), decide_eq_true h2]; rfl
theorem tk_s {l : List tv} {k : Nat} {q : tv} {P : tv → Bool} (h : l[k]? = some q) : (l.take (k + 1)).filter P = (l.take k).filter P ++ (if P q = true then [q] else []) := by
  obtain ⟨hk, rfl⟩ := List.getElem?_eq_some_iff.mp h
  rw [List.take_succ_eq_append_getElem hk, List.filter_append]
  congr 1
  by_cases hp : P l[k] = true
  · rw [if_pos hp, List.filter_cons_of_pos hp]; rfl
  · rw [if_neg hp, List.filter_cons_of_neg hp]; rfl
set_option maxRecDepth 100000 in
set_option maxHeartbeats 4000000 in
theorem y_Pa_removeBetween (d : Nat) {μ : kc_M} {a t v cap : Nat} {l : List tv} {ty : Int32} {lo hi : Int64} (hp : pa_at μ a t v cap l) (hcap : cap < 2 ^ 31) (n1 : a ≠ t) (n2 : a ≠ v) (n3 : v ≠ t) (n3' : t ≠ v) (n1s : t ≠ a) (n2s : v ≠ a) : kc_Y kt kC (d + 1) j_Pa_removeBetween [.ref a, .int ty, .long lo, .long hi] μ (fun w μ' => w = some (.int (bI (decide ((l.filter (kp ty lo hi)).length < l.length)))) ∧ pa_at μ' a t v cap (l.filter (kp ty lo hi)) ∧ ∀ q, q ≠ a → q ≠ t → q ≠ v → μ'.1 q = μ.1 q) := by
  refine ⟨Nat.le_of_ble_eq_true rfl, ?_⟩
  obtain ⟨f, g, a1, a2, a3, a4, a5⟩ := hp
  have loop : ∀ m k (f1 : Nat → Int32) (g1' : Nat → Int64) (μ1 : kc_M), l.length - k = m → k ≤ l.length → ho ((l.take k).filter (kp ty lo hi)) f1 g1' → (∀ j, k ≤ j → j < l.length → f1 j = f j ∧ g1' j = g j) → μ1.1 a = some (ce_Pa t v l.length) → μ1.1 t = some (ce_I cap f1) → μ1.1 v = some (ce_L cap g1') → (∀ q, q ≠ a → q ≠ t → q ≠ v → μ1.1 q = μ.1 q) → kc_X (kC j_Pa_removeBetween) (kc_Y kt kC d) (fun w μ' => w = some (.int (bI (decide ((l.filter (kp ty lo hi)).length < l.length)))) ∧ pa_at μ' a t v cap (l.filter (kp ty lo hi)) ∧ ∀ q, q ≠ a → q ≠ t → q ≠ v → μ'.1 q = μ.1 q) 6 [some (.ref a), some (.int ty), some (.long lo), none, some (.long hi), none, some (.int (nI ((l.take k).filter (kp ty lo hi)).length)), some (.int (nI k))] [] μ1 (0, 0) := by
    intro m
    induction m with
    | zero =>
      intro k f1 g1' μ1 hm hk hho hrest g1 g2 g3 hf
      have hfin : (l.take k).filter (kp ty lo hi) = (l.filter (kp ty lo hi)) := by rw [List.take_of_length_le (by omega)]
      have hle := List.length_filter_le (kp ty lo hi) l
      rw [hfin] at hho ⊢
      refine x_il c_Pa_removeBetween_6 rfl ?_
      refine x_al c_Pa_removeBetween_8 rfl ?_
      refine x_get c_Pa_removeBetween_9 (by first | rfl | exact g1 | exact g2 | exact g3) rfl ?_
      refine x_cmN_ge c_Pa_removeBetween_12 (by omega) (by omega) (fun _ => ?_) (fun h => (by exfalso; omega))
      refine x_il c_Pa_removeBetween_88 rfl ?_
      refine x_al c_Pa_removeBetween_90 rfl ?_
      refine x_get c_Pa_removeBetween_91 (by first | rfl | exact g1 | exact g2 | exact g3) rfl ?_
      refine x_cmN_ge c_Pa_removeBetween_94 (by omega) (by omega) (fun h94 => ?_) (fun h94 => ?_)
      · refine x_ci c_Pa_removeBetween_101 ?_
        refine x_is [_, _, _, _, _, _, _, _] c_Pa_removeBetween_102 rfl ?_
        refine x_al c_Pa_removeBetween_104 rfl ?_
        refine x_il c_Pa_removeBetween_105 rfl ?_
        refine x_put [_, _, _] c_Pa_removeBetween_107 (by first | rfl | exact g1 | exact g2 | exact g3) ⟨Nat.le_of_ble_eq_true rfl, rfl, rfl⟩ rfl ?_
        refine x_il c_Pa_removeBetween_110 rfl ?_
        refine x_rz c_Pa_removeBetween_112 (by first | decide | exact kz_n _) ?_
        first | exact ⟨by rw [decide_eq_true h94]; rfl, ⟨f1, g1', kc_gs, (kc_gf n1s).trans g2, (kc_gf n2s).trans g3, hho, by omega⟩, fun q q1 q2 q3 => (kc_gf q1).trans (hf q q1 q2 q3)⟩ | exact ⟨by rw [decide_eq_false (by omega)]; rfl, ⟨f1, g1', kc_gs, (kc_gf n1s).trans g2, (kc_gf n2s).trans g3, hho, by omega⟩, fun q q1 q2 q3 => (kc_gf q1).trans (hf q q1 q2 q3)⟩
      · refine x_ci c_Pa_removeBetween_97 ?_
        refine x_goto c_Pa_removeBetween_98 ?_
        refine x_is [_, _, _, _, _, _, _, _] c_Pa_removeBetween_102 rfl ?_
        refine x_al c_Pa_removeBetween_104 rfl ?_
        refine x_il c_Pa_removeBetween_105 rfl ?_
        refine x_put [_, _, _] c_Pa_removeBetween_107 (by first | rfl | exact g1 | exact g2 | exact g3) ⟨Nat.le_of_ble_eq_true rfl, rfl, rfl⟩ rfl ?_
        refine x_il c_Pa_removeBetween_110 rfl ?_
        refine x_rz c_Pa_removeBetween_112 (by first | decide | exact kz_n _) ?_
        first | exact ⟨by rw [decide_eq_true h94]; rfl, ⟨f1, g1', kc_gs, (kc_gf n1s).trans g2, (kc_gf n2s).trans g3, hho, by omega⟩, fun q q1 q2 q3 => (kc_gf q1).trans (hf q q1 q2 q3)⟩ | exact ⟨by rw [decide_eq_false (by omega)]; rfl, ⟨f1, g1', kc_gs, (kc_gf n1s).trans g2, (kc_gf n2s).trans g3, hho, by omega⟩, fun q q1 q2 q3 => (kc_gf q1).trans (hf q q1 q2 q3)⟩
    | succ m ih =>
      intro k f1 g1' μ1 hm hk hho hrest g1 g2 g3 hf
      have hkl : ((l.take k).filter (kp ty lo hi)).length ≤ k := Nat.le_trans (List.length_filter_le _ _) (by rw [List.length_take]; omega)
      have hlk : l[k]? = some (f1 k, g1' k) := by rw [(hrest k (by omega) (by omega)).1, (hrest k (by omega) (by omega)).2]; exact a4 k (by omega)
      have hkeep : kp ty lo hi (f1 k, g1' k) = true → kc_X (kC j_Pa_removeBetween) (kc_Y kt kC d) (fun w μ' => w = some (.int (bI (decide ((l.filter (kp ty lo hi)).length < l.length)))) ∧ pa_at μ' a t v cap (l.filter (kp ty lo hi)) ∧ ∀ q, q ≠ a → q ≠ t → q ≠ v → μ'.1 q = μ.1 q) 6 [some (.ref a), some (.int ty), some (.long lo), none, some (.long hi), none, some (.int (nI (((l.take k).filter (kp ty lo hi)).length + 1))), some (.int (nI (k + 1)))] [] (kc_u (kc_u μ1 t (ce_I cap (upd f1 ((l.take k).filter (kp ty lo hi)).length (f1 k)))) v (ce_L cap (vp_updL g1' ((l.take k).filter (kp ty lo hi)).length (g1' k)))) (0, 0) := by
        intro hkp
        have hT := tk_s (P := kp ty lo hi) hlk
        rw [if_pos hkp] at hT
        have hlen : ((l.take (k + 1)).filter (kp ty lo hi)).length = ((l.take k).filter (kp ty lo hi)).length + 1 := by rw [hT, List.length_append]; rfl
        rw [← hlen]
        refine ih (k + 1) _ _ _ (by omega) (by omega) (by rw [hT]; exact ho_app hho _ _) (fun j h1 h2 => ?_) ((kc_gf n2).trans ((kc_gf n1).trans g1)) ((kc_gf n3').trans kc_gs) kc_gs (fun q q1 q2 q3 => (kc_gf q3).trans ((kc_gf q2).trans (hf q q1 q2 q3)))
        show (if j = _ then _ else f1 j) = f j ∧ (if j = _ then _ else g1' j) = g j
        rw [if_neg (by omega), if_neg (by omega)]
        exact hrest j (by omega) h2
      have hdrop : kp ty lo hi (f1 k, g1' k) = false → kc_X (kC j_Pa_removeBetween) (kc_Y kt kC d) (fun w μ' => w = some (.int (bI (decide ((l.filter (kp ty lo hi)).length < l.length)))) ∧ pa_at μ' a t v cap (l.filter (kp ty lo hi)) ∧ ∀ q, q ≠ a → q ≠ t → q ≠ v → μ'.1 q = μ.1 q) 6 [some (.ref a), some (.int ty), some (.long lo), none, some (.long hi), none, some (.int (nI (((l.take k).filter (kp ty lo hi)).length))), some (.int (nI (k + 1)))] [] μ1 (0, 0) := by
        intro hkp
        have hT := tk_s (P := kp ty lo hi) hlk
        rw [if_neg (by rw [hkp]; decide), List.append_nil] at hT
        rw [← hT]
        exact ih (k + 1) _ _ _ (by omega) (by omega) (by rw [hT]; exact hho) (fun j h1 h2 => hrest j (by omega) h2) g1 g2 g3 hf
      refine x_il c_Pa_removeBetween_6 rfl ?_
      refine x_al c_Pa_removeBetween_8 rfl ?_
      refine x_get c_Pa_removeBetween_9 (by first | rfl | exact g1 | exact g2 | exact g3 | exact ((kc_gf n1).trans g1) | exact ((kc_gf n3).trans g3) | exact kc_gs | exact ((kc_gf n2).trans ((kc_gf n1).trans g1))) rfl ?_
      refine x_cmN_ge c_Pa_removeBetween_12 (by omega) (by omega) (fun h => (by exfalso; omega)) (fun _ => ?_)
      refine x_al c_Pa_removeBetween_15 rfl ?_
      refine x_get c_Pa_removeBetween_16 (by first | rfl | exact g1 | exact g2 | exact g3 | exact ((kc_gf n1).trans g1) | exact ((kc_gf n3).trans g3) | exact kc_gs | exact ((kc_gf n2).trans ((kc_gf n1).trans g1))) rfl ?_
      refine x_il c_Pa_removeBetween_19 rfl ?_
      refine x_ialdN c_Pa_removeBetween_21 (by first | rfl | exact g1 | exact g2 | exact g3 | exact ((kc_gf n1).trans g1) | exact ((kc_gf n3).trans g3) | exact kc_gs | exact ((kc_gf n2).trans ((kc_gf n1).trans g1))) (by omega) (by omega) ?_
      refine x_il c_Pa_removeBetween_22 rfl ?_
      refine x_cm_ne c_Pa_removeBetween_23 (fun h23 => ?_) (fun h23 => ?_)
      · refine x_al c_Pa_removeBetween_51 rfl ?_
        refine x_get c_Pa_removeBetween_52 (by first | rfl | exact g1 | exact g2 | exact g3 | exact ((kc_gf n1).trans g1) | exact ((kc_gf n3).trans g3) | exact kc_gs | exact ((kc_gf n2).trans ((kc_gf n1).trans g1))) rfl ?_
        refine x_il c_Pa_removeBetween_55 rfl ?_
        refine x_al c_Pa_removeBetween_57 rfl ?_
        refine x_get c_Pa_removeBetween_58 (by first | rfl | exact g1 | exact g2 | exact g3 | exact ((kc_gf n1).trans g1) | exact ((kc_gf n3).trans g3) | exact kc_gs | exact ((kc_gf n2).trans ((kc_gf n1).trans g1))) rfl ?_
        refine x_il c_Pa_removeBetween_61 rfl ?_
        refine x_ialdN c_Pa_removeBetween_63 (by first | rfl | exact g1 | exact g2 | exact g3 | exact ((kc_gf n1).trans g1) | exact ((kc_gf n3).trans g3) | exact kc_gs | exact ((kc_gf n2).trans ((kc_gf n1).trans g1))) (by omega) (by omega) ?_
        refine x_iastN c_Pa_removeBetween_64 (by first | rfl | exact g1 | exact g2 | exact g3 | exact ((kc_gf n1).trans g1) | exact ((kc_gf n3).trans g3) | exact kc_gs | exact ((kc_gf n2).trans ((kc_gf n1).trans g1))) (by omega) (by omega) ?_
        refine x_al c_Pa_removeBetween_65 rfl ?_
        refine x_get c_Pa_removeBetween_66 (by first | rfl | exact g1 | exact g2 | exact g3 | exact ((kc_gf n1).trans g1) | exact ((kc_gf n3).trans g3) | exact kc_gs | exact ((kc_gf n2).trans ((kc_gf n1).trans g1))) rfl ?_
        refine x_il c_Pa_removeBetween_69 rfl ?_
        refine x_al c_Pa_removeBetween_71 rfl ?_
        refine x_get c_Pa_removeBetween_72 (by first | rfl | exact g1 | exact g2 | exact g3 | exact ((kc_gf n1).trans g1) | exact ((kc_gf n3).trans g3) | exact kc_gs | exact ((kc_gf n2).trans ((kc_gf n1).trans g1))) rfl ?_
        refine x_il c_Pa_removeBetween_75 rfl ?_
        refine x_laldN c_Pa_removeBetween_77 (by first | rfl | exact g1 | exact g2 | exact g3 | exact ((kc_gf n1).trans g1) | exact ((kc_gf n3).trans g3) | exact kc_gs | exact ((kc_gf n2).trans ((kc_gf n1).trans g1))) (by omega) (by omega) ?_
        refine x_lastN c_Pa_removeBetween_78 (by first | rfl | exact g1 | exact g2 | exact g3 | exact ((kc_gf n1).trans g1) | exact ((kc_gf n3).trans g3) | exact kc_gs | exact ((kc_gf n2).trans ((kc_gf n1).trans g1))) (by omega) (by omega) ?_
        first | refine x_incN [_, _, _, _, _, _, _, _] c_Pa_removeBetween_79 rfl rfl ?_ | refine x_inc [_, _, _, _, _, _, _, _] c_Pa_removeBetween_79 rfl rfl ?_
        first | refine x_incN [_, _, _, _, _, _, _, _] c_Pa_removeBetween_82 rfl rfl ?_ | refine x_inc [_, _, _, _, _, _, _, _] c_Pa_removeBetween_82 rfl rfl ?_
        refine x_goto c_Pa_removeBetween_85 ?_
        first | exact hkeep (kp_t (Or.inl h23)) | exact hkeep (kp_t (Or.inr (Or.inl h35))) | exact hkeep (kp_t (Or.inr (Or.inr (Int64.not_le.mp h48)))) | exact hdrop (kp_f h23 h35 h48)
      · refine x_al c_Pa_removeBetween_26 rfl ?_
        refine x_get c_Pa_removeBetween_27 (by first | rfl | exact g1 | exact g2 | exact g3 | exact ((kc_gf n1).trans g1) | exact ((kc_gf n3).trans g3) | exact kc_gs | exact ((kc_gf n2).trans ((kc_gf n1).trans g1))) rfl ?_
        refine x_il c_Pa_removeBetween_30 rfl ?_
        refine x_laldN c_Pa_removeBetween_32 (by first | rfl | exact g1 | exact g2 | exact g3 | exact ((kc_gf n1).trans g1) | exact ((kc_gf n3).trans g3) | exact kc_gs | exact ((kc_gf n2).trans ((kc_gf n1).trans g1))) (by omega) (by omega) ?_
        refine x_ll c_Pa_removeBetween_33 rfl ?_
        refine x_lcmp c_Pa_removeBetween_34 ?_
        refine x_ifL_lt c_Pa_removeBetween_35 (fun h35 => ?_) (fun h35 => ?_)
        · refine x_al c_Pa_removeBetween_51 rfl ?_
          refine x_get c_Pa_removeBetween_52 (by first | rfl | exact g1 | exact g2 | exact g3 | exact ((kc_gf n1).trans g1) | exact ((kc_gf n3).trans g3) | exact kc_gs | exact ((kc_gf n2).trans ((kc_gf n1).trans g1))) rfl ?_
          refine x_il c_Pa_removeBetween_55 rfl ?_
          refine x_al c_Pa_removeBetween_57 rfl ?_
          refine x_get c_Pa_removeBetween_58 (by first | rfl | exact g1 | exact g2 | exact g3 | exact ((kc_gf n1).trans g1) | exact ((kc_gf n3).trans g3) | exact kc_gs | exact ((kc_gf n2).trans ((kc_gf n1).trans g1))) rfl ?_
          refine x_il c_Pa_removeBetween_61 rfl ?_
          refine x_ialdN c_Pa_removeBetween_63 (by first | rfl | exact g1 | exact g2 | exact g3 | exact ((kc_gf n1).trans g1) | exact ((kc_gf n3).trans g3) | exact kc_gs | exact ((kc_gf n2).trans ((kc_gf n1).trans g1))) (by omega) (by omega) ?_
          refine x_iastN c_Pa_removeBetween_64 (by first | rfl | exact g1 | exact g2 | exact g3 | exact ((kc_gf n1).trans g1) | exact ((kc_gf n3).trans g3) | exact kc_gs | exact ((kc_gf n2).trans ((kc_gf n1).trans g1))) (by omega) (by omega) ?_
          refine x_al c_Pa_removeBetween_65 rfl ?_
          refine x_get c_Pa_removeBetween_66 (by first | rfl | exact g1 | exact g2 | exact g3 | exact ((kc_gf n1).trans g1) | exact ((kc_gf n3).trans g3) | exact kc_gs | exact ((kc_gf n2).trans ((kc_gf n1).trans g1))) rfl ?_
          refine x_il c_Pa_removeBetween_69 rfl ?_
          refine x_al c_Pa_removeBetween_71 rfl ?_
          refine x_get c_Pa_removeBetween_72 (by first | rfl | exact g1 | exact g2 | exact g3 | exact ((kc_gf n1).trans g1) | exact ((kc_gf n3).trans g3) | exact kc_gs | exact ((kc_gf n2).trans ((kc_gf n1).trans g1))) rfl ?_
          refine x_il c_Pa_removeBetween_75 rfl ?_
          refine x_laldN c_Pa_removeBetween_77 (by first | rfl | exact g1 | exact g2 | exact g3 | exact ((kc_gf n1).trans g1) | exact ((kc_gf n3).trans g3) | exact kc_gs | exact ((kc_gf n2).trans ((kc_gf n1).trans g1))) (by omega) (by omega) ?_
          refine x_lastN c_Pa_removeBetween_78 (by first | rfl | exact g1 | exact g2 | exact g3 | exact ((kc_gf n1).trans g1) | exact ((kc_gf n3).trans g3) | exact kc_gs | exact ((kc_gf n2).trans ((kc_gf n1).trans g1))) (by omega) (by omega) ?_
          first | refine x_incN [_, _, _, _, _, _, _, _] c_Pa_removeBetween_79 rfl rfl ?_ | refine x_inc [_, _, _, _, _, _, _, _] c_Pa_removeBetween_79 rfl rfl ?_
          first | refine x_incN [_, _, _, _, _, _, _, _] c_Pa_removeBetween_82 rfl rfl ?_ | refine x_inc [_, _, _, _, _, _, _, _] c_Pa_removeBetween_82 rfl rfl ?_
          refine x_goto c_Pa_removeBetween_85 ?_
          first | exact hkeep (kp_t (Or.inl h23)) | exact hkeep (kp_t (Or.inr (Or.inl h35))) | exact hkeep (kp_t (Or.inr (Or.inr (Int64.not_le.mp h48)))) | exact hdrop (kp_f h23 h35 h48)
        · refine x_al c_Pa_removeBetween_38 rfl ?_
          refine x_get c_Pa_removeBetween_39 (by first | rfl | exact g1 | exact g2 | exact g3 | exact ((kc_gf n1).trans g1) | exact ((kc_gf n3).trans g3) | exact kc_gs | exact ((kc_gf n2).trans ((kc_gf n1).trans g1))) rfl ?_
          refine x_il c_Pa_removeBetween_42 rfl ?_
          refine x_laldN c_Pa_removeBetween_44 (by first | rfl | exact g1 | exact g2 | exact g3 | exact ((kc_gf n1).trans g1) | exact ((kc_gf n3).trans g3) | exact kc_gs | exact ((kc_gf n2).trans ((kc_gf n1).trans g1))) (by omega) (by omega) ?_
          refine x_ll c_Pa_removeBetween_45 rfl ?_
          refine x_lcmp c_Pa_removeBetween_47 ?_
          refine x_ifL_le c_Pa_removeBetween_48 (fun h48 => ?_) (fun h48 => ?_)
          · first | refine x_incN [_, _, _, _, _, _, _, _] c_Pa_removeBetween_82 rfl rfl ?_ | refine x_inc [_, _, _, _, _, _, _, _] c_Pa_removeBetween_82 rfl rfl ?_
            refine x_goto c_Pa_removeBetween_85 ?_
            first | exact hkeep (kp_t (Or.inl h23)) | exact hkeep (kp_t (Or.inr (Or.inl h35))) | exact hkeep (kp_t (Or.inr (Or.inr (Int64.not_le.mp h48)))) | exact hdrop (kp_f h23 h35 h48)
          · refine x_al c_Pa_removeBetween_51 rfl ?_
            refine x_get c_Pa_removeBetween_52 (by first | rfl | exact g1 | exact g2 | exact g3 | exact ((kc_gf n1).trans g1) | exact ((kc_gf n3).trans g3) | exact kc_gs | exact ((kc_gf n2).trans ((kc_gf n1).trans g1))) rfl ?_
            refine x_il c_Pa_removeBetween_55 rfl ?_
            refine x_al c_Pa_removeBetween_57 rfl ?_
            refine x_get c_Pa_removeBetween_58 (by first | rfl | exact g1 | exact g2 | exact g3 | exact ((kc_gf n1).trans g1) | exact ((kc_gf n3).trans g3) | exact kc_gs | exact ((kc_gf n2).trans ((kc_gf n1).trans g1))) rfl ?_
            refine x_il c_Pa_removeBetween_61 rfl ?_
            refine x_ialdN c_Pa_removeBetween_63 (by first | rfl | exact g1 | exact g2 | exact g3 | exact ((kc_gf n1).trans g1) | exact ((kc_gf n3).trans g3) | exact kc_gs | exact ((kc_gf n2).trans ((kc_gf n1).trans g1))) (by omega) (by omega) ?_
            refine x_iastN c_Pa_removeBetween_64 (by first | rfl | exact g1 | exact g2 | exact g3 | exact ((kc_gf n1).trans g1) | exact ((kc_gf n3).trans g3) | exact kc_gs | exact ((kc_gf n2).trans ((kc_gf n1).trans g1))) (by omega) (by omega) ?_
            refine x_al c_Pa_removeBetween_65 rfl ?_
            refine x_get c_Pa_removeBetween_66 (by first | rfl | exact g1 | exact g2 | exact g3 | exact ((kc_gf n1).trans g1) | exact ((kc_gf n3).trans g3) | exact kc_gs | exact ((kc_gf n2).trans ((kc_gf n1).trans g1))) rfl ?_
            refine x_il c_Pa_removeBetween_69 rfl ?_
            refine x_al c_Pa_removeBetween_71 rfl ?_
            refine x_get c_Pa_removeBetween_72 (by first | rfl | exact g1 | exact g2 | exact g3 | exact ((kc_gf n1).trans g1) | exact ((kc_gf n3).trans g3) | exact kc_gs | exact ((kc_gf n2).trans ((kc_gf n1).trans g1))) rfl ?_
            refine x_il c_Pa_removeBetween_75 rfl ?_
            refine x_laldN c_Pa_removeBetween_77 (by first | rfl | exact g1 | exact g2 | exact g3 | exact ((kc_gf n1).trans g1) | exact ((kc_gf n3).trans g3) | exact kc_gs | exact ((kc_gf n2).trans ((kc_gf n1).trans g1))) (by omega) (by omega) ?_
            refine x_lastN c_Pa_removeBetween_78 (by first | rfl | exact g1 | exact g2 | exact g3 | exact ((kc_gf n1).trans g1) | exact ((kc_gf n3).trans g3) | exact kc_gs | exact ((kc_gf n2).trans ((kc_gf n1).trans g1))) (by omega) (by omega) ?_
            first | refine x_incN [_, _, _, _, _, _, _, _] c_Pa_removeBetween_79 rfl rfl ?_ | refine x_inc [_, _, _, _, _, _, _, _] c_Pa_removeBetween_79 rfl rfl ?_
            first | refine x_incN [_, _, _, _, _, _, _, _] c_Pa_removeBetween_82 rfl rfl ?_ | refine x_inc [_, _, _, _, _, _, _, _] c_Pa_removeBetween_82 rfl rfl ?_
            refine x_goto c_Pa_removeBetween_85 ?_
            first | exact hkeep (kp_t (Or.inl h23)) | exact hkeep (kp_t (Or.inr (Or.inl h35))) | exact hkeep (kp_t (Or.inr (Or.inr (Int64.not_le.mp h48)))) | exact hdrop (kp_f h23 h35 h48)
  refine x_ci c_Pa_removeBetween_0 ?_
  refine x_is [_, _, _, _, _, _, _, _] c_Pa_removeBetween_1 rfl ?_
  refine x_ci c_Pa_removeBetween_3 ?_
  refine x_is [_, _, _, _, _, _, _, _] c_Pa_removeBetween_4 rfl ?_
  exact loop _ 0 f g μ rfl (by omega) (fun k hk => by simp at hk) (fun j _ _ => ⟨rfl, rfl⟩) a1 a2 a3 (fun _ _ _ _ => rfl)
