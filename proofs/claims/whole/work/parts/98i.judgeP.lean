/-! what filters say of pairs -/
def btw (ty : Int32) (lo hi : Int64) (q : tv) : Bool := decide (q.1 = ty) && (decide (lo ≤ q.2) && decide (q.2 ≤ hi))
def hbw (ty : Int32) (lo hi : Int64) (P : List tv) : Bool := P.any (btw ty lo hi)
def undf (t : Nat) (ty : Int32) (v : Int64) : Prop := ty = -1 ∨ (t ≠ 135 ∧ v = -1) ∨ ((t = 165 ∨ t = 166) ∧ ty < nI 100)
def lv1 (P : List tv) (t : Nat) (ty : Int32) (v : Int64) : Nat := if ty = -1 ∨ (t ≠ 135 ∧ v = -1) ∨ ((t = 165 ∨ t = 166) ∧ ty < nI 100) then 1 else if hbw ty (if t = 163 ∨ t = 165 then v else 0) (if t = 163 ∨ t = 166 then v else 9223372036854775807) P = true then 2 else 0
def ev1 (P : List tv) (t : Nat) (p : Int32 × Int64) (l : List Nat) : Nat := if t = 160 then l.foldl min 2 else if t = 161 then l.foldl max 0 else if t = 162 then 2 - l.headD 0 else lv1 P t p.1 p.2
def evF (P : List tv) : Fo → List Nat
  | .leaf => []
  | .inner _ t p F R => ev1 P t p (evF P F) :: evF P R
theorem fmin_le : ∀ (l : List Nat) (a : Nat), a ≤ 2 → l.foldl min a ≤ 2
  | [], _, h => h
  | x :: l, a, h => fmin_le l (min a x) (by omega)
theorem fmax_le : ∀ (l : List Nat) (a : Nat), a ≤ 2 → (∀ x ∈ l, x ≤ 2) → l.foldl max a ≤ 2
  | [], _, h, _ => h
  | x :: l, a, h, hx => fmax_le l (max a x) (by have := hx x (List.mem_cons_self ..); omega) (fun y hy => hx y (List.mem_cons_of_mem _ hy))
theorem ite3 {p q : Prop} [Decidable p] [Decidable q] : (if p then 1 else if q then 2 else 0) ≤ 2 := by
  by_cases h : p
  · rw [if_pos h]; omega
  · rw [if_neg h]
    by_cases h2 : q
    · rw [if_pos h2]; omega
    · rw [if_neg h2]; omega
theorem lv1_le (P : List tv) (t : Nat) (ty : Int32) (v : Int64) : lv1 P t ty v ≤ 2 := by
  unfold lv1
  exact ite3
theorem ev1_le (P : List tv) (t : Nat) (p : Int32 × Int64) (l : List Nat) (h : ∀ x ∈ l, x ≤ 2) : ev1 P t p l ≤ 2 := by
  unfold ev1
  split
  · exact fmin_le l 2 (by omega)
  · split
    · exact fmax_le l 0 (by omega) h
    · split
      · omega
      · exact lv1_le _ _ _ _
theorem evF_le (P : List tv) : ∀ (F : Fo), ∀ x ∈ evF P F, x ≤ 2
  | .leaf, x, h => by cases h
  | .inner _ t p F R, x, h => by
    rcases List.mem_cons.mp h with q | q
    · rw [q]; exact ev1_le P t p _ (evF_le P F)
    · exact evF_le P R x q
/-- filters as only a parser makes them -/
def flW : Fo → Prop
  | .leaf => True
  | .inner _ t _ F R => (t < 256 ∧ ((lft t = true ∧ F = .leaf) ∨ (lft t = false ∧ 160 ≤ t ∧ t ≤ 162 ∧ ¬ (t = 162 ∧ fln F ≠ 1)))) ∧ flW F ∧ flW R
theorem flP_W {tb : Nat → Nat} (htb : ∀ j, tb j < 256) : ∀ (m g c p e : Nat) (F : Fo), flP tb m g c p e = some F → flW F
  | 0, g, c, p, e, F, h => by cases h
  | m + 1, g, c, p, e, F, h => by
    rw [flP_s] at h
    split at h
    · cases h; trivial
    · cases hO : flO tb (flP tb m) g c p e with
      | none => rw [hO] at h; cases h
      | some q =>
        obtain ⟨t, ty, v, Fi, y⟩ := q
        rw [hO] at h
        dsimp only at h
        cases hR : flP tb m g (c + 1 + fsz Fi) y e with
        | none => rw [hR] at h; cases h
        | some R =>
          rw [hR] at h
          have h := Option.some.inj h
          subst h
          obtain ⟨_, _, ht, x, _, hcase⟩ := flO_in hO
          have h256 : t < 256 := by rw [ht]; exact htb p
          refine ⟨⟨h256, ?_⟩, ?_, flP_W htb m g _ y e R hR⟩
          · rcases hcase with ⟨a, _, b⟩ | ⟨a, b1, b2, _, b3⟩
            · exact Or.inl ⟨a, b⟩
            · exact Or.inr ⟨a, b1, b2, b3⟩
          · rcases hcase with ⟨_, _, b⟩ | ⟨_, _, _, b, _⟩
            · rw [b]; trivial
            · exact flP_W htb m _ _ x y Fi b
theorem flO_W {tb : Nat → Nat} (htb : ∀ j, tb j < 256) {m g c p e t : Nat} {ty : Int32} {v : Int64} {F : Fo} {y : Nat} (h : flO tb (flP tb m) g c p e = some (t, ty, v, F, y)) : flW (Fo.cons t ty v F Fo.nil) := by
  obtain ⟨_, _, ht, x, _, hcase⟩ := flO_in h
  have h256 : t < 256 := by rw [ht]; exact htb p
  refine ⟨⟨h256, ?_⟩, ?_, trivial⟩
  · rcases hcase with ⟨a, _, b⟩ | ⟨a, b1, b2, _, b3⟩
    · exact Or.inl ⟨a, b⟩
    · exact Or.inr ⟨a, b1, b2, b3⟩
  · rcases hcase with ⟨_, _, b⟩ | ⟨_, _, _, b, _⟩
    · rw [b]; trivial
    · exact flP_W htb m _ _ x y F b
theorem nI_lt' {a b : Nat} (h : a < b) (hb : b < 2 ^ 31) : nI a < nI b := by
  rw [Int32.lt_iff_toInt_lt, nI_ti (by omega), nI_ti hb]; omega
theorem nI_lt'' {a b : Nat} (h : nI a < nI b) (hb : b < 2 ^ 31) (ha : a < 2 ^ 31) : a < b := by
  rw [Int32.lt_iff_toInt_lt, nI_ti ha, nI_ti hb] at h; omega
theorem nI_min {a b : Nat} (ha : a < 2 ^ 31) (hb : b < 2 ^ 31) : (if nI b < nI a then nI b else nI a) = nI (min a b) := by
  by_cases h : b < a
  · rw [if_pos (nI_lt' h ha), show min a b = b by omega]
  · rw [if_neg (fun q => h (nI_lt'' q ha hb)), show min a b = a by omega]
theorem nI_max {a b : Nat} (ha : a < 2 ^ 31) (hb : b < 2 ^ 31) : (if nI a < nI b then nI b else nI a) = nI (max a b) := by
  by_cases h : a < b
  · rw [if_pos (nI_lt' h hb), show max a b = b by omega]
  · rw [if_neg (fun q => h (nI_lt'' q hb ha)), show max a b = a by omega]
theorem hbw_s {ty : Int32} {lo hi : Int64} {l : List tv} {k : Nat} {q : tv} (h : l[k]? = some q) : hbw ty lo hi (l.drop k) = (btw ty lo hi q || hbw ty lo hi (l.drop (k + 1))) := by
  obtain ⟨h1, h2⟩ := List.getElem?_eq_some_iff.mp h
  rw [List.drop_eq_getElem_cons h1, h2]; rfl
set_option maxRecDepth 100000 in
set_option maxHeartbeats 4000000 in
theorem y_Pa_hasBetween (d : Nat) {μ : kc_M} {a t v cap : Nat} {l : List tv} (hp : pa_at μ a t v cap l) (hcap : cap < 2 ^ 31) {ty : Int32} {lo hi : Int64} : kc_Y kt kC (d + 1) j_Pa_hasBetween [.ref a, .int ty, .long lo, .long hi] μ (fun w μ' => w = some (.int (bI (hbw ty lo hi l))) ∧ μ' = μ) := by
  refine ⟨Nat.le_of_ble_eq_true rfl, ?_⟩
  obtain ⟨f, g, a1, a2, a3, a4, a5⟩ := hp
  have loop : ∀ m k, l.length - k = m → k ≤ l.length → hbw ty lo hi (l.drop k) = hbw ty lo hi l → kc_X (kC j_Pa_hasBetween) (kc_Y kt kC d) (fun w μ' => w = some (.int (bI (hbw ty lo hi l))) ∧ μ' = μ) 3 [some (.ref a), some (.int ty), some (.long lo), none, some (.long hi), none, some (.int (nI k))] [] μ (0, 0) := by
    intro m
    induction m with
    | zero =>
      intro k hm hk hR
      rw [List.drop_eq_nil_of_le (by omega)] at hR
      refine x_il c_Pa_hasBetween_3 rfl ?_
      refine x_al c_Pa_hasBetween_5 rfl ?_
      refine x_get c_Pa_hasBetween_6 (by first | rfl | exact a1) rfl ?_
      refine x_cmN_ge c_Pa_hasBetween_9 (by omega) (by omega) (fun _ => ?_) (fun h => (by exfalso; omega))
      refine x_ci c_Pa_hasBetween_56 ?_
      refine x_rz c_Pa_hasBetween_57 (by first | decide | exact kz_n _) ?_
      exact ⟨by rw [← hR]; rfl, rfl⟩
    | succ m ih =>
      intro k hm hk hR
      rw [hbw_s (a4 k (by omega))] at hR
      refine x_il c_Pa_hasBetween_3 rfl ?_
      refine x_al c_Pa_hasBetween_5 rfl ?_
      refine x_get c_Pa_hasBetween_6 (by first | rfl | exact a1 | exact a2 | exact a3) rfl ?_
      refine x_cmN_ge c_Pa_hasBetween_9 (by omega) (by omega) (fun h => (by exfalso; omega)) (fun _ => ?_)
      refine x_al c_Pa_hasBetween_12 rfl ?_
      refine x_get c_Pa_hasBetween_13 (by first | rfl | exact a1 | exact a2 | exact a3) rfl ?_
      refine x_il c_Pa_hasBetween_16 rfl ?_
      refine x_ialdN c_Pa_hasBetween_18 (by first | rfl | exact a1 | exact a2 | exact a3) (by omega) (by omega) ?_
      refine x_il c_Pa_hasBetween_19 rfl ?_
      refine x_cm_ne c_Pa_hasBetween_20 (fun h20 => ?_) (fun h20 => ?_)
      · first | refine x_incN [_, _, _, _, _, _, _] c_Pa_hasBetween_50 rfl rfl ?_ | refine x_inc [_, _, _, _, _, _, _] c_Pa_hasBetween_50 rfl rfl ?_
        refine x_goto c_Pa_hasBetween_53 ?_
        first | exact ih (k + 1) (by omega) (by omega) (by rw [← hR, show btw ty lo hi (f k, g k) = false by unfold btw; rw [decide_eq_false h20]; rfl]; rfl) | exact ih (k + 1) (by omega) (by omega) (by rw [← hR, show btw ty lo hi (f k, g k) = false by unfold btw; rw [decide_eq_false (show ¬ lo ≤ g k from Int64.not_le.mpr h32)]; simp]; rfl) | exact ih (k + 1) (by omega) (by omega) (by rw [← hR, show btw ty lo hi (f k, g k) = false by unfold btw; rw [decide_eq_false (show ¬ g k ≤ hi from Int64.not_le.mpr h45)]; simp]; rfl)
      · refine x_al c_Pa_hasBetween_23 rfl ?_
        refine x_get c_Pa_hasBetween_24 (by first | rfl | exact a1 | exact a2 | exact a3) rfl ?_
        refine x_il c_Pa_hasBetween_27 rfl ?_
        refine x_laldN c_Pa_hasBetween_29 (by first | rfl | exact a1 | exact a2 | exact a3) (by omega) (by omega) ?_
        refine x_ll c_Pa_hasBetween_30 rfl ?_
        refine x_lcmp c_Pa_hasBetween_31 ?_
        refine x_ifL_lt c_Pa_hasBetween_32 (fun h32 => ?_) (fun h32 => ?_)
        · first | refine x_incN [_, _, _, _, _, _, _] c_Pa_hasBetween_50 rfl rfl ?_ | refine x_inc [_, _, _, _, _, _, _] c_Pa_hasBetween_50 rfl rfl ?_
          refine x_goto c_Pa_hasBetween_53 ?_
          first | exact ih (k + 1) (by omega) (by omega) (by rw [← hR, show btw ty lo hi (f k, g k) = false by unfold btw; rw [decide_eq_false h20]; rfl]; rfl) | exact ih (k + 1) (by omega) (by omega) (by rw [← hR, show btw ty lo hi (f k, g k) = false by unfold btw; rw [decide_eq_false (show ¬ lo ≤ g k from Int64.not_le.mpr h32)]; simp]; rfl) | exact ih (k + 1) (by omega) (by omega) (by rw [← hR, show btw ty lo hi (f k, g k) = false by unfold btw; rw [decide_eq_false (show ¬ g k ≤ hi from Int64.not_le.mpr h45)]; simp]; rfl)
        · refine x_al c_Pa_hasBetween_35 rfl ?_
          refine x_get c_Pa_hasBetween_36 (by first | rfl | exact a1 | exact a2 | exact a3) rfl ?_
          refine x_il c_Pa_hasBetween_39 rfl ?_
          refine x_laldN c_Pa_hasBetween_41 (by first | rfl | exact a1 | exact a2 | exact a3) (by omega) (by omega) ?_
          refine x_ll c_Pa_hasBetween_42 rfl ?_
          refine x_lcmp c_Pa_hasBetween_44 ?_
          refine x_ifL_gt c_Pa_hasBetween_45 (fun h45 => ?_) (fun h45 => ?_)
          · first | refine x_incN [_, _, _, _, _, _, _] c_Pa_hasBetween_50 rfl rfl ?_ | refine x_inc [_, _, _, _, _, _, _] c_Pa_hasBetween_50 rfl rfl ?_
            refine x_goto c_Pa_hasBetween_53 ?_
            first | exact ih (k + 1) (by omega) (by omega) (by rw [← hR, show btw ty lo hi (f k, g k) = false by unfold btw; rw [decide_eq_false h20]; rfl]; rfl) | exact ih (k + 1) (by omega) (by omega) (by rw [← hR, show btw ty lo hi (f k, g k) = false by unfold btw; rw [decide_eq_false (show ¬ lo ≤ g k from Int64.not_le.mpr h32)]; simp]; rfl) | exact ih (k + 1) (by omega) (by omega) (by rw [← hR, show btw ty lo hi (f k, g k) = false by unfold btw; rw [decide_eq_false (show ¬ g k ≤ hi from Int64.not_le.mpr h45)]; simp]; rfl)
          · refine x_ci c_Pa_hasBetween_48 ?_
            refine x_rz c_Pa_hasBetween_49 (by first | decide | exact kz_n _) ?_
            exact ⟨by rw [← hR, show btw ty lo hi (f k, g k) = true by unfold btw; rw [decide_eq_true h20, decide_eq_true (show lo ≤ g k by first | exact h32 | exact Int64.not_lt.mp h32), decide_eq_true (show g k ≤ hi by first | exact h45 | exact Int64.not_lt.mp h45)]; rfl]; rfl, rfl⟩
  refine x_ci c_Pa_hasBetween_0 ?_
  refine x_is [_, _, _, _, _, _, _] c_Pa_hasBetween_1 rfl ?_
  exact loop _ 0 rfl (by omega) rfl
set_option maxRecDepth 100000 in
set_option maxHeartbeats 4000000 in
theorem y_Fi_judgePair (d : Nat) {μ : kc_M} {c : Nat} {kf tf : Nat → Int32} {vf : Nat → Int64} {ef : Nat → Int32} (hA : fiA μ c kf tf vf ef) {a x y cap : Nat} {P : List tv} (hp : pa_at μ a x y cap P) (hcap : cap < 2 ^ 31) {i t : Nat} {ty : Int32} {v : Int64} (hi : i < 20) (hk : kf i = nI t) (ht4 : t = 163 ∨ t = 165 ∨ t = 166 ∨ t = 135) (ht : tf i = ty) (hv : t ≠ 135 → vf i = v) : kc_Y kt kC (d + 2) j_Fi_judgePair [.ref 128, .int (nI i), .ref a] μ (fun w μ' => w = some (.int (nI (lv1 P t ty v))) ∧ μ' = μ) := by
  refine ⟨Nat.le_of_ble_eq_true rfl, ?_⟩
  have h256 : t < 256 := by omega
  have hi20 := hi
  rcases ht4 with rfl | rfl | rfl | rfl
  · skip
    by_cases hm1 : ty = -1
    · skip
      refine x_al c_Fi_judgePair_0 rfl ?_
      refine x_get c_Fi_judgePair_1 (by first | rfl | exact hA.1 | exact hA.2.1 | exact hA.2.2.1 | exact hA.2.2.2.1 | exact (pa_c hp)) rfl ?_
      refine x_il c_Fi_judgePair_4 rfl ?_
      refine x_ialdE c_Fi_judgePair_5 (by first | rfl | exact hA.1 | exact hA.2.1 | exact hA.2.2.1 | exact hA.2.2.2.1 | exact (pa_c hp)) (by omega) (by omega) (hk) ?_
      refine x_is [_, _, _, _, _, _, _, _, _] c_Fi_judgePair_6 rfl ?_
      refine x_il c_Fi_judgePair_7 rfl ?_
      refine x_ci c_Fi_judgePair_8 ?_
      refine x_cmN_eq c_Fi_judgePair_11 (by omega) (by omega) (fun h => (by exfalso; omega)) (fun _ => ?_)
      refine x_il c_Fi_judgePair_14 rfl ?_
      refine x_ci c_Fi_judgePair_15 ?_
      refine x_cmN_ne c_Fi_judgePair_18 (by omega) (by omega) (fun _ => ?_) (fun h => (by exfalso; omega))
      refine x_ci c_Fi_judgePair_25 ?_
      refine x_is [_, _, _, _, _, _, _, _, _] c_Fi_judgePair_26 rfl ?_
      refine x_al c_Fi_judgePair_28 rfl ?_
      refine x_get c_Fi_judgePair_29 (by first | rfl | exact hA.1 | exact hA.2.1 | exact hA.2.2.1 | exact hA.2.2.2.1 | exact (pa_c hp)) rfl ?_
      refine x_il c_Fi_judgePair_32 rfl ?_
      refine x_ialdE c_Fi_judgePair_33 (by first | rfl | exact hA.1 | exact hA.2.1 | exact hA.2.2.1 | exact hA.2.2.2.1 | exact (pa_c hp)) (by omega) (by omega) (ht) ?_
      refine x_ci c_Fi_judgePair_34 ?_
      refine x_cm_eq c_Fi_judgePair_35 (fun _ => ?_) (fun h => absurd (hm1) h)
      refine x_ci c_Fi_judgePair_74 ?_
      refine x_ri c_Fi_judgePair_75 ?_
      exact ⟨by rw [show lv1 P 163 ty v = 1 by unfold lv1; rw [if_pos (Or.inl hm1)]] <;> rfl, rfl⟩
    · skip
      by_cases hvm : v = -1
      · skip
        refine x_al c_Fi_judgePair_0 rfl ?_
        refine x_get c_Fi_judgePair_1 (by first | rfl | exact hA.1 | exact hA.2.1 | exact hA.2.2.1 | exact hA.2.2.2.1 | exact (pa_c hp)) rfl ?_
        refine x_il c_Fi_judgePair_4 rfl ?_
        refine x_ialdE c_Fi_judgePair_5 (by first | rfl | exact hA.1 | exact hA.2.1 | exact hA.2.2.1 | exact hA.2.2.2.1 | exact (pa_c hp)) (by omega) (by omega) (hk) ?_
        refine x_is [_, _, _, _, _, _, _, _, _] c_Fi_judgePair_6 rfl ?_
        refine x_il c_Fi_judgePair_7 rfl ?_
        refine x_ci c_Fi_judgePair_8 ?_
        refine x_cmN_eq c_Fi_judgePair_11 (by omega) (by omega) (fun h => (by exfalso; omega)) (fun _ => ?_)
        refine x_il c_Fi_judgePair_14 rfl ?_
        refine x_ci c_Fi_judgePair_15 ?_
        refine x_cmN_ne c_Fi_judgePair_18 (by omega) (by omega) (fun _ => ?_) (fun h => (by exfalso; omega))
        refine x_ci c_Fi_judgePair_25 ?_
        refine x_is [_, _, _, _, _, _, _, _, _] c_Fi_judgePair_26 rfl ?_
        refine x_al c_Fi_judgePair_28 rfl ?_
        refine x_get c_Fi_judgePair_29 (by first | rfl | exact hA.1 | exact hA.2.1 | exact hA.2.2.1 | exact hA.2.2.2.1 | exact (pa_c hp)) rfl ?_
        refine x_il c_Fi_judgePair_32 rfl ?_
        refine x_ialdE c_Fi_judgePair_33 (by first | rfl | exact hA.1 | exact hA.2.1 | exact hA.2.2.1 | exact hA.2.2.2.1 | exact (pa_c hp)) (by omega) (by omega) (ht) ?_
        refine x_ci c_Fi_judgePair_34 ?_
        refine x_cm_eq c_Fi_judgePair_35 (fun h => absurd h (hm1)) (fun _ => ?_)
        refine x_il c_Fi_judgePair_38 rfl ?_
        refine x_ci c_Fi_judgePair_39 ?_
        refine x_cmN_eq c_Fi_judgePair_42 (by omega) (by omega) (fun h => (by exfalso; omega)) (fun _ => ?_)
        refine x_al c_Fi_judgePair_45 rfl ?_
        refine x_get c_Fi_judgePair_46 (by first | rfl | exact hA.1 | exact hA.2.1 | exact hA.2.2.1 | exact hA.2.2.2.1 | exact (pa_c hp)) rfl ?_
        refine x_il c_Fi_judgePair_49 rfl ?_
        refine x_laldE c_Fi_judgePair_50 (by first | rfl | exact hA.1 | exact hA.2.1 | exact hA.2.2.1 | exact hA.2.2.2.1 | exact (pa_c hp)) (by omega) (by omega) (hv (by decide)) ?_
        refine x_cl c_Fi_judgePair_51 ?_
        refine x_lcmp c_Fi_judgePair_54 ?_
        refine x_ifL_eq c_Fi_judgePair_55 (fun _ => ?_) (fun h => absurd (hvm) h)
        refine x_ci c_Fi_judgePair_74 ?_
        refine x_ri c_Fi_judgePair_75 ?_
        exact ⟨by rw [show lv1 P 163 ty v = 1 by unfold lv1; rw [if_pos (Or.inr (Or.inl ⟨by decide, hvm⟩))]] <;> rfl, rfl⟩
      · skip
        refine x_al c_Fi_judgePair_0 rfl ?_
        refine x_get c_Fi_judgePair_1 (by first | rfl | exact hA.1 | exact hA.2.1 | exact hA.2.2.1 | exact hA.2.2.2.1 | exact (pa_c hp)) rfl ?_
        refine x_il c_Fi_judgePair_4 rfl ?_
        refine x_ialdE c_Fi_judgePair_5 (by first | rfl | exact hA.1 | exact hA.2.1 | exact hA.2.2.1 | exact hA.2.2.2.1 | exact (pa_c hp)) (by omega) (by omega) (hk) ?_
        refine x_is [_, _, _, _, _, _, _, _, _] c_Fi_judgePair_6 rfl ?_
        refine x_il c_Fi_judgePair_7 rfl ?_
        refine x_ci c_Fi_judgePair_8 ?_
        refine x_cmN_eq c_Fi_judgePair_11 (by omega) (by omega) (fun h => (by exfalso; omega)) (fun _ => ?_)
        refine x_il c_Fi_judgePair_14 rfl ?_
        refine x_ci c_Fi_judgePair_15 ?_
        refine x_cmN_ne c_Fi_judgePair_18 (by omega) (by omega) (fun _ => ?_) (fun h => (by exfalso; omega))
        refine x_ci c_Fi_judgePair_25 ?_
        refine x_is [_, _, _, _, _, _, _, _, _] c_Fi_judgePair_26 rfl ?_
        refine x_al c_Fi_judgePair_28 rfl ?_
        refine x_get c_Fi_judgePair_29 (by first | rfl | exact hA.1 | exact hA.2.1 | exact hA.2.2.1 | exact hA.2.2.2.1 | exact (pa_c hp)) rfl ?_
        refine x_il c_Fi_judgePair_32 rfl ?_
        refine x_ialdE c_Fi_judgePair_33 (by first | rfl | exact hA.1 | exact hA.2.1 | exact hA.2.2.1 | exact hA.2.2.2.1 | exact (pa_c hp)) (by omega) (by omega) (ht) ?_
        refine x_ci c_Fi_judgePair_34 ?_
        refine x_cm_eq c_Fi_judgePair_35 (fun h => absurd h (hm1)) (fun _ => ?_)
        refine x_il c_Fi_judgePair_38 rfl ?_
        refine x_ci c_Fi_judgePair_39 ?_
        refine x_cmN_eq c_Fi_judgePair_42 (by omega) (by omega) (fun h => (by exfalso; omega)) (fun _ => ?_)
        refine x_al c_Fi_judgePair_45 rfl ?_
        refine x_get c_Fi_judgePair_46 (by first | rfl | exact hA.1 | exact hA.2.1 | exact hA.2.2.1 | exact hA.2.2.2.1 | exact (pa_c hp)) rfl ?_
        refine x_il c_Fi_judgePair_49 rfl ?_
        refine x_laldE c_Fi_judgePair_50 (by first | rfl | exact hA.1 | exact hA.2.1 | exact hA.2.2.1 | exact hA.2.2.2.1 | exact (pa_c hp)) (by omega) (by omega) (hv (by decide)) ?_
        refine x_cl c_Fi_judgePair_51 ?_
        refine x_lcmp c_Fi_judgePair_54 ?_
        refine x_ifL_eq c_Fi_judgePair_55 (fun h => absurd h (hvm)) (fun _ => ?_)
        refine x_il c_Fi_judgePair_58 rfl ?_
        refine x_if_eq c_Fi_judgePair_60 (fun _ => ?_) (fun h => absurd (by decide) h)
        refine x_il c_Fi_judgePair_76 rfl ?_
        refine x_ci c_Fi_judgePair_77 ?_
        refine x_cmN_eq c_Fi_judgePair_80 (by omega) (by omega) (fun _ => ?_) (fun h => (by exfalso; omega))
        refine x_al c_Fi_judgePair_90 rfl ?_
        refine x_get c_Fi_judgePair_91 (by first | rfl | exact hA.1 | exact hA.2.1 | exact hA.2.2.1 | exact hA.2.2.2.1 | exact (pa_c hp)) rfl ?_
        refine x_il c_Fi_judgePair_94 rfl ?_
        refine x_laldE c_Fi_judgePair_95 (by first | rfl | exact hA.1 | exact hA.2.1 | exact hA.2.2.1 | exact hA.2.2.2.1 | exact (pa_c hp)) (by omega) (by omega) (hv (by decide)) ?_
        refine x_goto c_Fi_judgePair_96 ?_
        refine x_ls [_, _, _, _, _, _, _, _, _] c_Fi_judgePair_100 rfl ?_
        refine x_il c_Fi_judgePair_102 rfl ?_
        refine x_ci c_Fi_judgePair_103 ?_
        refine x_cmN_eq c_Fi_judgePair_106 (by omega) (by omega) (fun _ => ?_) (fun h => (by exfalso; omega))
        refine x_al c_Fi_judgePair_116 rfl ?_
        refine x_get c_Fi_judgePair_117 (by first | rfl | exact hA.1 | exact hA.2.1 | exact hA.2.2.1 | exact hA.2.2.2.1 | exact (pa_c hp)) rfl ?_
        refine x_il c_Fi_judgePair_120 rfl ?_
        refine x_laldE c_Fi_judgePair_121 (by first | rfl | exact hA.1 | exact hA.2.1 | exact hA.2.2.1 | exact hA.2.2.2.1 | exact (pa_c hp)) (by omega) (by omega) (hv (by decide)) ?_
        refine x_goto c_Fi_judgePair_122 ?_
        refine x_ls [_, _, _, _, _, _, _, _, _] c_Fi_judgePair_128 rfl ?_
        refine x_al c_Fi_judgePair_130 rfl ?_
        refine x_al c_Fi_judgePair_131 rfl ?_
        refine x_get c_Fi_judgePair_132 (by first | rfl | exact hA.1 | exact hA.2.1 | exact hA.2.2.1 | exact hA.2.2.2.1 | exact (pa_c hp)) rfl ?_
        refine x_il c_Fi_judgePair_135 rfl ?_
        refine x_ialdE c_Fi_judgePair_136 (by first | rfl | exact hA.1 | exact hA.2.1 | exact hA.2.2.1 | exact hA.2.2.2.1 | exact (pa_c hp)) (by omega) (by omega) (ht) ?_
        refine x_ll c_Fi_judgePair_137 rfl ?_
        refine x_ll c_Fi_judgePair_139 rfl ?_
        refine x_cv3z _ c_Fi_judgePair_141 (by first | rfl | exact hA.1 | exact hA.2.1 | exact hA.2.2.1 | exact hA.2.2.2.1 | exact (pa_c hp)) (Nat.le_of_ble_eq_true rfl) (y_Pa_hasBetween d hp hcap (ty := ty) (lo := v) (hi := v)) ?_
        rintro _ μx ⟨rfl, hμx⟩
        have hμx := hμx.symm
        subst hμx
        show kc_X _ _ _ _ _ [.int (bI (hbw ty (v) (v) P))] _ _
        refine x_ifB_eq c_Fi_judgePair_144 (fun h144 => ?_) (fun h144 => ?_)
        · refine x_ci c_Fi_judgePair_151 ?_
          refine x_ri c_Fi_judgePair_152 ?_
          first | exact ⟨by rw [show lv1 P 163 ty v = 2 by unfold lv1; rw [if_neg (fun q => by rcases q with q | q | q; exact hm1 q; exact hvm q.2; exact absurd q.1 (by decide))]; exact if_pos h144], rfl⟩ | exact ⟨by rw [show lv1 P 163 ty v = 0 by unfold lv1; rw [if_neg (fun q => by rcases q with q | q | q; exact hm1 q; exact hvm q.2; exact absurd q.1 (by decide))]; exact if_neg (by rw [show hbw ty (if 163 = 163 ∨ 163 = 165 then v else 0) (if 163 = 163 ∨ 163 = 166 then v else 9223372036854775807) P = hbw ty (v) (v) P from rfl, h144]; decide)], rfl⟩
        · refine x_ci c_Fi_judgePair_147 ?_
          refine x_goto c_Fi_judgePair_148 ?_
          refine x_ri c_Fi_judgePair_152 ?_
          first | exact ⟨by rw [show lv1 P 163 ty v = 2 by unfold lv1; rw [if_neg (fun q => by rcases q with q | q | q; exact hm1 q; exact hvm q.2; exact absurd q.1 (by decide))]; exact if_pos h144], rfl⟩ | exact ⟨by rw [show lv1 P 163 ty v = 0 by unfold lv1; rw [if_neg (fun q => by rcases q with q | q | q; exact hm1 q; exact hvm q.2; exact absurd q.1 (by decide))]; exact if_neg (by rw [show hbw ty (if 163 = 163 ∨ 163 = 165 then v else 0) (if 163 = 163 ∨ 163 = 166 then v else 9223372036854775807) P = hbw ty (v) (v) P from rfl, h144]; decide)], rfl⟩
  · skip
    by_cases hm1 : ty = -1
    · skip
      refine x_al c_Fi_judgePair_0 rfl ?_
      refine x_get c_Fi_judgePair_1 (by first | rfl | exact hA.1 | exact hA.2.1 | exact hA.2.2.1 | exact hA.2.2.2.1 | exact (pa_c hp)) rfl ?_
      refine x_il c_Fi_judgePair_4 rfl ?_
      refine x_ialdE c_Fi_judgePair_5 (by first | rfl | exact hA.1 | exact hA.2.1 | exact hA.2.2.1 | exact hA.2.2.2.1 | exact (pa_c hp)) (by omega) (by omega) (hk) ?_
      refine x_is [_, _, _, _, _, _, _, _, _] c_Fi_judgePair_6 rfl ?_
      refine x_il c_Fi_judgePair_7 rfl ?_
      refine x_ci c_Fi_judgePair_8 ?_
      refine x_cmN_eq c_Fi_judgePair_11 (by omega) (by omega) (fun _ => ?_) (fun h => (by exfalso; omega))
      refine x_ci c_Fi_judgePair_21 ?_
      refine x_goto c_Fi_judgePair_22 ?_
      refine x_is [_, _, _, _, _, _, _, _, _] c_Fi_judgePair_26 rfl ?_
      refine x_al c_Fi_judgePair_28 rfl ?_
      refine x_get c_Fi_judgePair_29 (by first | rfl | exact hA.1 | exact hA.2.1 | exact hA.2.2.1 | exact hA.2.2.2.1 | exact (pa_c hp)) rfl ?_
      refine x_il c_Fi_judgePair_32 rfl ?_
      refine x_ialdE c_Fi_judgePair_33 (by first | rfl | exact hA.1 | exact hA.2.1 | exact hA.2.2.1 | exact hA.2.2.2.1 | exact (pa_c hp)) (by omega) (by omega) (ht) ?_
      refine x_ci c_Fi_judgePair_34 ?_
      refine x_cm_eq c_Fi_judgePair_35 (fun _ => ?_) (fun h => absurd (hm1) h)
      refine x_ci c_Fi_judgePair_74 ?_
      refine x_ri c_Fi_judgePair_75 ?_
      exact ⟨by rw [show lv1 P 165 ty v = 1 by unfold lv1; rw [if_pos (Or.inl hm1)]] <;> rfl, rfl⟩
    · skip
      by_cases hvm : v = -1
      · skip
        refine x_al c_Fi_judgePair_0 rfl ?_
        refine x_get c_Fi_judgePair_1 (by first | rfl | exact hA.1 | exact hA.2.1 | exact hA.2.2.1 | exact hA.2.2.2.1 | exact (pa_c hp)) rfl ?_
        refine x_il c_Fi_judgePair_4 rfl ?_
        refine x_ialdE c_Fi_judgePair_5 (by first | rfl | exact hA.1 | exact hA.2.1 | exact hA.2.2.1 | exact hA.2.2.2.1 | exact (pa_c hp)) (by omega) (by omega) (hk) ?_
        refine x_is [_, _, _, _, _, _, _, _, _] c_Fi_judgePair_6 rfl ?_
        refine x_il c_Fi_judgePair_7 rfl ?_
        refine x_ci c_Fi_judgePair_8 ?_
        refine x_cmN_eq c_Fi_judgePair_11 (by omega) (by omega) (fun _ => ?_) (fun h => (by exfalso; omega))
        refine x_ci c_Fi_judgePair_21 ?_
        refine x_goto c_Fi_judgePair_22 ?_
        refine x_is [_, _, _, _, _, _, _, _, _] c_Fi_judgePair_26 rfl ?_
        refine x_al c_Fi_judgePair_28 rfl ?_
        refine x_get c_Fi_judgePair_29 (by first | rfl | exact hA.1 | exact hA.2.1 | exact hA.2.2.1 | exact hA.2.2.2.1 | exact (pa_c hp)) rfl ?_
        refine x_il c_Fi_judgePair_32 rfl ?_
        refine x_ialdE c_Fi_judgePair_33 (by first | rfl | exact hA.1 | exact hA.2.1 | exact hA.2.2.1 | exact hA.2.2.2.1 | exact (pa_c hp)) (by omega) (by omega) (ht) ?_
        refine x_ci c_Fi_judgePair_34 ?_
        refine x_cm_eq c_Fi_judgePair_35 (fun h => absurd h (hm1)) (fun _ => ?_)
        refine x_il c_Fi_judgePair_38 rfl ?_
        refine x_ci c_Fi_judgePair_39 ?_
        refine x_cmN_eq c_Fi_judgePair_42 (by omega) (by omega) (fun h => (by exfalso; omega)) (fun _ => ?_)
        refine x_al c_Fi_judgePair_45 rfl ?_
        refine x_get c_Fi_judgePair_46 (by first | rfl | exact hA.1 | exact hA.2.1 | exact hA.2.2.1 | exact hA.2.2.2.1 | exact (pa_c hp)) rfl ?_
        refine x_il c_Fi_judgePair_49 rfl ?_
        refine x_laldE c_Fi_judgePair_50 (by first | rfl | exact hA.1 | exact hA.2.1 | exact hA.2.2.1 | exact hA.2.2.2.1 | exact (pa_c hp)) (by omega) (by omega) (hv (by decide)) ?_
        refine x_cl c_Fi_judgePair_51 ?_
        refine x_lcmp c_Fi_judgePair_54 ?_
        refine x_ifL_eq c_Fi_judgePair_55 (fun _ => ?_) (fun h => absurd (hvm) h)
        refine x_ci c_Fi_judgePair_74 ?_
        refine x_ri c_Fi_judgePair_75 ?_
        exact ⟨by rw [show lv1 P 165 ty v = 1 by unfold lv1; rw [if_pos (Or.inr (Or.inl ⟨by decide, hvm⟩))]] <;> rfl, rfl⟩
      · skip
        by_cases ho : ty < nI 100
        · skip
          refine x_al c_Fi_judgePair_0 rfl ?_
          refine x_get c_Fi_judgePair_1 (by first | rfl | exact hA.1 | exact hA.2.1 | exact hA.2.2.1 | exact hA.2.2.2.1 | exact (pa_c hp)) rfl ?_
          refine x_il c_Fi_judgePair_4 rfl ?_
          refine x_ialdE c_Fi_judgePair_5 (by first | rfl | exact hA.1 | exact hA.2.1 | exact hA.2.2.1 | exact hA.2.2.2.1 | exact (pa_c hp)) (by omega) (by omega) (hk) ?_
          refine x_is [_, _, _, _, _, _, _, _, _] c_Fi_judgePair_6 rfl ?_
          refine x_il c_Fi_judgePair_7 rfl ?_
          refine x_ci c_Fi_judgePair_8 ?_
          refine x_cmN_eq c_Fi_judgePair_11 (by omega) (by omega) (fun _ => ?_) (fun h => (by exfalso; omega))
          refine x_ci c_Fi_judgePair_21 ?_
          refine x_goto c_Fi_judgePair_22 ?_
          refine x_is [_, _, _, _, _, _, _, _, _] c_Fi_judgePair_26 rfl ?_
          refine x_al c_Fi_judgePair_28 rfl ?_
          refine x_get c_Fi_judgePair_29 (by first | rfl | exact hA.1 | exact hA.2.1 | exact hA.2.2.1 | exact hA.2.2.2.1 | exact (pa_c hp)) rfl ?_
          refine x_il c_Fi_judgePair_32 rfl ?_
          refine x_ialdE c_Fi_judgePair_33 (by first | rfl | exact hA.1 | exact hA.2.1 | exact hA.2.2.1 | exact hA.2.2.2.1 | exact (pa_c hp)) (by omega) (by omega) (ht) ?_
          refine x_ci c_Fi_judgePair_34 ?_
          refine x_cm_eq c_Fi_judgePair_35 (fun h => absurd h (hm1)) (fun _ => ?_)
          refine x_il c_Fi_judgePair_38 rfl ?_
          refine x_ci c_Fi_judgePair_39 ?_
          refine x_cmN_eq c_Fi_judgePair_42 (by omega) (by omega) (fun h => (by exfalso; omega)) (fun _ => ?_)
          refine x_al c_Fi_judgePair_45 rfl ?_
          refine x_get c_Fi_judgePair_46 (by first | rfl | exact hA.1 | exact hA.2.1 | exact hA.2.2.1 | exact hA.2.2.2.1 | exact (pa_c hp)) rfl ?_
          refine x_il c_Fi_judgePair_49 rfl ?_
          refine x_laldE c_Fi_judgePair_50 (by first | rfl | exact hA.1 | exact hA.2.1 | exact hA.2.2.1 | exact hA.2.2.2.1 | exact (pa_c hp)) (by omega) (by omega) (hv (by decide)) ?_
          refine x_cl c_Fi_judgePair_51 ?_
          refine x_lcmp c_Fi_judgePair_54 ?_
          refine x_ifL_eq c_Fi_judgePair_55 (fun h => absurd h (hvm)) (fun _ => ?_)
          refine x_il c_Fi_judgePair_58 rfl ?_
          refine x_if_eq c_Fi_judgePair_60 (fun h => absurd h (by decide)) (fun _ => ?_)
          refine x_al c_Fi_judgePair_63 rfl ?_
          refine x_get c_Fi_judgePair_64 (by first | rfl | exact hA.1 | exact hA.2.1 | exact hA.2.2.1 | exact hA.2.2.2.1 | exact (pa_c hp)) rfl ?_
          refine x_il c_Fi_judgePair_67 rfl ?_
          refine x_ialdE c_Fi_judgePair_68 (by first | rfl | exact hA.1 | exact hA.2.1 | exact hA.2.2.1 | exact hA.2.2.2.1 | exact (pa_c hp)) (by omega) (by omega) (ht) ?_
          refine x_ci c_Fi_judgePair_69 ?_
          refine x_cm_ge c_Fi_judgePair_71 (fun h => absurd h (Int32.not_le.mpr ho)) (fun _ => ?_)
          refine x_ci c_Fi_judgePair_74 ?_
          refine x_ri c_Fi_judgePair_75 ?_
          exact ⟨by rw [show lv1 P 165 ty v = 1 by unfold lv1; rw [if_pos (Or.inr (Or.inr ⟨by decide, ho⟩))]] <;> rfl, rfl⟩
        · skip
          refine x_al c_Fi_judgePair_0 rfl ?_
          refine x_get c_Fi_judgePair_1 (by first | rfl | exact hA.1 | exact hA.2.1 | exact hA.2.2.1 | exact hA.2.2.2.1 | exact (pa_c hp)) rfl ?_
          refine x_il c_Fi_judgePair_4 rfl ?_
          refine x_ialdE c_Fi_judgePair_5 (by first | rfl | exact hA.1 | exact hA.2.1 | exact hA.2.2.1 | exact hA.2.2.2.1 | exact (pa_c hp)) (by omega) (by omega) (hk) ?_
          refine x_is [_, _, _, _, _, _, _, _, _] c_Fi_judgePair_6 rfl ?_
          refine x_il c_Fi_judgePair_7 rfl ?_
          refine x_ci c_Fi_judgePair_8 ?_
          refine x_cmN_eq c_Fi_judgePair_11 (by omega) (by omega) (fun _ => ?_) (fun h => (by exfalso; omega))
          refine x_ci c_Fi_judgePair_21 ?_
          refine x_goto c_Fi_judgePair_22 ?_
          refine x_is [_, _, _, _, _, _, _, _, _] c_Fi_judgePair_26 rfl ?_
          refine x_al c_Fi_judgePair_28 rfl ?_
          refine x_get c_Fi_judgePair_29 (by first | rfl | exact hA.1 | exact hA.2.1 | exact hA.2.2.1 | exact hA.2.2.2.1 | exact (pa_c hp)) rfl ?_
          refine x_il c_Fi_judgePair_32 rfl ?_
          refine x_ialdE c_Fi_judgePair_33 (by first | rfl | exact hA.1 | exact hA.2.1 | exact hA.2.2.1 | exact hA.2.2.2.1 | exact (pa_c hp)) (by omega) (by omega) (ht) ?_
          refine x_ci c_Fi_judgePair_34 ?_
          refine x_cm_eq c_Fi_judgePair_35 (fun h => absurd h (hm1)) (fun _ => ?_)
          refine x_il c_Fi_judgePair_38 rfl ?_
          refine x_ci c_Fi_judgePair_39 ?_
          refine x_cmN_eq c_Fi_judgePair_42 (by omega) (by omega) (fun h => (by exfalso; omega)) (fun _ => ?_)
          refine x_al c_Fi_judgePair_45 rfl ?_
          refine x_get c_Fi_judgePair_46 (by first | rfl | exact hA.1 | exact hA.2.1 | exact hA.2.2.1 | exact hA.2.2.2.1 | exact (pa_c hp)) rfl ?_
          refine x_il c_Fi_judgePair_49 rfl ?_
          refine x_laldE c_Fi_judgePair_50 (by first | rfl | exact hA.1 | exact hA.2.1 | exact hA.2.2.1 | exact hA.2.2.2.1 | exact (pa_c hp)) (by omega) (by omega) (hv (by decide)) ?_
          refine x_cl c_Fi_judgePair_51 ?_
          refine x_lcmp c_Fi_judgePair_54 ?_
          refine x_ifL_eq c_Fi_judgePair_55 (fun h => absurd h (hvm)) (fun _ => ?_)
          refine x_il c_Fi_judgePair_58 rfl ?_
          refine x_if_eq c_Fi_judgePair_60 (fun h => absurd h (by decide)) (fun _ => ?_)
          refine x_al c_Fi_judgePair_63 rfl ?_
          refine x_get c_Fi_judgePair_64 (by first | rfl | exact hA.1 | exact hA.2.1 | exact hA.2.2.1 | exact hA.2.2.2.1 | exact (pa_c hp)) rfl ?_
          refine x_il c_Fi_judgePair_67 rfl ?_
          refine x_ialdE c_Fi_judgePair_68 (by first | rfl | exact hA.1 | exact hA.2.1 | exact hA.2.2.1 | exact hA.2.2.2.1 | exact (pa_c hp)) (by omega) (by omega) (ht) ?_
          refine x_ci c_Fi_judgePair_69 ?_
          refine x_cm_ge c_Fi_judgePair_71 (fun _ => ?_) (fun h => absurd (Int32.not_lt.mp ho) h)
          refine x_il c_Fi_judgePair_76 rfl ?_
          refine x_ci c_Fi_judgePair_77 ?_
          refine x_cmN_eq c_Fi_judgePair_80 (by omega) (by omega) (fun h => (by exfalso; omega)) (fun _ => ?_)
          refine x_il c_Fi_judgePair_83 rfl ?_
          refine x_ci c_Fi_judgePair_84 ?_
          refine x_cmN_ne c_Fi_judgePair_87 (by omega) (by omega) (fun h => (by exfalso; omega)) (fun _ => ?_)
          refine x_al c_Fi_judgePair_90 rfl ?_
          refine x_get c_Fi_judgePair_91 (by first | rfl | exact hA.1 | exact hA.2.1 | exact hA.2.2.1 | exact hA.2.2.2.1 | exact (pa_c hp)) rfl ?_
          refine x_il c_Fi_judgePair_94 rfl ?_
          refine x_laldE c_Fi_judgePair_95 (by first | rfl | exact hA.1 | exact hA.2.1 | exact hA.2.2.1 | exact hA.2.2.2.1 | exact (pa_c hp)) (by omega) (by omega) (hv (by decide)) ?_
          refine x_goto c_Fi_judgePair_96 ?_
          refine x_ls [_, _, _, _, _, _, _, _, _] c_Fi_judgePair_100 rfl ?_
          refine x_il c_Fi_judgePair_102 rfl ?_
          refine x_ci c_Fi_judgePair_103 ?_
          refine x_cmN_eq c_Fi_judgePair_106 (by omega) (by omega) (fun h => (by exfalso; omega)) (fun _ => ?_)
          refine x_il c_Fi_judgePair_109 rfl ?_
          refine x_ci c_Fi_judgePair_110 ?_
          refine x_cmN_ne c_Fi_judgePair_113 (by omega) (by omega) (fun _ => ?_) (fun h => (by exfalso; omega))
          refine x_cl c_Fi_judgePair_125 ?_
          refine x_ls [_, _, _, _, _, _, _, _, _] c_Fi_judgePair_128 rfl ?_
          refine x_al c_Fi_judgePair_130 rfl ?_
          refine x_al c_Fi_judgePair_131 rfl ?_
          refine x_get c_Fi_judgePair_132 (by first | rfl | exact hA.1 | exact hA.2.1 | exact hA.2.2.1 | exact hA.2.2.2.1 | exact (pa_c hp)) rfl ?_
          refine x_il c_Fi_judgePair_135 rfl ?_
          refine x_ialdE c_Fi_judgePair_136 (by first | rfl | exact hA.1 | exact hA.2.1 | exact hA.2.2.1 | exact hA.2.2.2.1 | exact (pa_c hp)) (by omega) (by omega) (ht) ?_
          refine x_ll c_Fi_judgePair_137 rfl ?_
          refine x_ll c_Fi_judgePair_139 rfl ?_
          refine x_cv3z _ c_Fi_judgePair_141 (by first | rfl | exact hA.1 | exact hA.2.1 | exact hA.2.2.1 | exact hA.2.2.2.1 | exact (pa_c hp)) (Nat.le_of_ble_eq_true rfl) (y_Pa_hasBetween d hp hcap (ty := ty) (lo := v) (hi := 9223372036854775807)) ?_
          rintro _ μx ⟨rfl, hμx⟩
          have hμx := hμx.symm
          subst hμx
          show kc_X _ _ _ _ _ [.int (bI (hbw ty (v) (9223372036854775807) P))] _ _
          refine x_ifB_eq c_Fi_judgePair_144 (fun h144 => ?_) (fun h144 => ?_)
          · refine x_ci c_Fi_judgePair_151 ?_
            refine x_ri c_Fi_judgePair_152 ?_
            first | exact ⟨by rw [show lv1 P 165 ty v = 2 by unfold lv1; rw [if_neg (fun q => by rcases q with q | q | q; exact hm1 q; exact hvm q.2; exact ho q.2)]; exact if_pos h144], rfl⟩ | exact ⟨by rw [show lv1 P 165 ty v = 0 by unfold lv1; rw [if_neg (fun q => by rcases q with q | q | q; exact hm1 q; exact hvm q.2; exact ho q.2)]; exact if_neg (by rw [show hbw ty (if 165 = 163 ∨ 165 = 165 then v else 0) (if 165 = 163 ∨ 165 = 166 then v else 9223372036854775807) P = hbw ty (v) (9223372036854775807) P from rfl, h144]; decide)], rfl⟩
          · refine x_ci c_Fi_judgePair_147 ?_
            refine x_goto c_Fi_judgePair_148 ?_
            refine x_ri c_Fi_judgePair_152 ?_
            first | exact ⟨by rw [show lv1 P 165 ty v = 2 by unfold lv1; rw [if_neg (fun q => by rcases q with q | q | q; exact hm1 q; exact hvm q.2; exact ho q.2)]; exact if_pos h144], rfl⟩ | exact ⟨by rw [show lv1 P 165 ty v = 0 by unfold lv1; rw [if_neg (fun q => by rcases q with q | q | q; exact hm1 q; exact hvm q.2; exact ho q.2)]; exact if_neg (by rw [show hbw ty (if 165 = 163 ∨ 165 = 165 then v else 0) (if 165 = 163 ∨ 165 = 166 then v else 9223372036854775807) P = hbw ty (v) (9223372036854775807) P from rfl, h144]; decide)], rfl⟩
  · skip
    by_cases hm1 : ty = -1
    · skip
      refine x_al c_Fi_judgePair_0 rfl ?_
      refine x_get c_Fi_judgePair_1 (by first | rfl | exact hA.1 | exact hA.2.1 | exact hA.2.2.1 | exact hA.2.2.2.1 | exact (pa_c hp)) rfl ?_
      refine x_il c_Fi_judgePair_4 rfl ?_
      refine x_ialdE c_Fi_judgePair_5 (by first | rfl | exact hA.1 | exact hA.2.1 | exact hA.2.2.1 | exact hA.2.2.2.1 | exact (pa_c hp)) (by omega) (by omega) (hk) ?_
      refine x_is [_, _, _, _, _, _, _, _, _] c_Fi_judgePair_6 rfl ?_
      refine x_il c_Fi_judgePair_7 rfl ?_
      refine x_ci c_Fi_judgePair_8 ?_
      refine x_cmN_eq c_Fi_judgePair_11 (by omega) (by omega) (fun h => (by exfalso; omega)) (fun _ => ?_)
      refine x_il c_Fi_judgePair_14 rfl ?_
      refine x_ci c_Fi_judgePair_15 ?_
      refine x_cmN_ne c_Fi_judgePair_18 (by omega) (by omega) (fun h => (by exfalso; omega)) (fun _ => ?_)
      refine x_ci c_Fi_judgePair_21 ?_
      refine x_goto c_Fi_judgePair_22 ?_
      refine x_is [_, _, _, _, _, _, _, _, _] c_Fi_judgePair_26 rfl ?_
      refine x_al c_Fi_judgePair_28 rfl ?_
      refine x_get c_Fi_judgePair_29 (by first | rfl | exact hA.1 | exact hA.2.1 | exact hA.2.2.1 | exact hA.2.2.2.1 | exact (pa_c hp)) rfl ?_
      refine x_il c_Fi_judgePair_32 rfl ?_
      refine x_ialdE c_Fi_judgePair_33 (by first | rfl | exact hA.1 | exact hA.2.1 | exact hA.2.2.1 | exact hA.2.2.2.1 | exact (pa_c hp)) (by omega) (by omega) (ht) ?_
      refine x_ci c_Fi_judgePair_34 ?_
      refine x_cm_eq c_Fi_judgePair_35 (fun _ => ?_) (fun h => absurd (hm1) h)
      refine x_ci c_Fi_judgePair_74 ?_
      refine x_ri c_Fi_judgePair_75 ?_
      exact ⟨by rw [show lv1 P 166 ty v = 1 by unfold lv1; rw [if_pos (Or.inl hm1)]] <;> rfl, rfl⟩
    · skip
      by_cases hvm : v = -1
      · skip
        refine x_al c_Fi_judgePair_0 rfl ?_
        refine x_get c_Fi_judgePair_1 (by first | rfl | exact hA.1 | exact hA.2.1 | exact hA.2.2.1 | exact hA.2.2.2.1 | exact (pa_c hp)) rfl ?_
        refine x_il c_Fi_judgePair_4 rfl ?_
        refine x_ialdE c_Fi_judgePair_5 (by first | rfl | exact hA.1 | exact hA.2.1 | exact hA.2.2.1 | exact hA.2.2.2.1 | exact (pa_c hp)) (by omega) (by omega) (hk) ?_
        refine x_is [_, _, _, _, _, _, _, _, _] c_Fi_judgePair_6 rfl ?_
        refine x_il c_Fi_judgePair_7 rfl ?_
        refine x_ci c_Fi_judgePair_8 ?_
        refine x_cmN_eq c_Fi_judgePair_11 (by omega) (by omega) (fun h => (by exfalso; omega)) (fun _ => ?_)
        refine x_il c_Fi_judgePair_14 rfl ?_
        refine x_ci c_Fi_judgePair_15 ?_
        refine x_cmN_ne c_Fi_judgePair_18 (by omega) (by omega) (fun h => (by exfalso; omega)) (fun _ => ?_)
        refine x_ci c_Fi_judgePair_21 ?_
        refine x_goto c_Fi_judgePair_22 ?_
        refine x_is [_, _, _, _, _, _, _, _, _] c_Fi_judgePair_26 rfl ?_
        refine x_al c_Fi_judgePair_28 rfl ?_
        refine x_get c_Fi_judgePair_29 (by first | rfl | exact hA.1 | exact hA.2.1 | exact hA.2.2.1 | exact hA.2.2.2.1 | exact (pa_c hp)) rfl ?_
        refine x_il c_Fi_judgePair_32 rfl ?_
        refine x_ialdE c_Fi_judgePair_33 (by first | rfl | exact hA.1 | exact hA.2.1 | exact hA.2.2.1 | exact hA.2.2.2.1 | exact (pa_c hp)) (by omega) (by omega) (ht) ?_
        refine x_ci c_Fi_judgePair_34 ?_
        refine x_cm_eq c_Fi_judgePair_35 (fun h => absurd h (hm1)) (fun _ => ?_)
        refine x_il c_Fi_judgePair_38 rfl ?_
        refine x_ci c_Fi_judgePair_39 ?_
        refine x_cmN_eq c_Fi_judgePair_42 (by omega) (by omega) (fun h => (by exfalso; omega)) (fun _ => ?_)
        refine x_al c_Fi_judgePair_45 rfl ?_
        refine x_get c_Fi_judgePair_46 (by first | rfl | exact hA.1 | exact hA.2.1 | exact hA.2.2.1 | exact hA.2.2.2.1 | exact (pa_c hp)) rfl ?_
        refine x_il c_Fi_judgePair_49 rfl ?_
        refine x_laldE c_Fi_judgePair_50 (by first | rfl | exact hA.1 | exact hA.2.1 | exact hA.2.2.1 | exact hA.2.2.2.1 | exact (pa_c hp)) (by omega) (by omega) (hv (by decide)) ?_
        refine x_cl c_Fi_judgePair_51 ?_
        refine x_lcmp c_Fi_judgePair_54 ?_
        refine x_ifL_eq c_Fi_judgePair_55 (fun _ => ?_) (fun h => absurd (hvm) h)
        refine x_ci c_Fi_judgePair_74 ?_
        refine x_ri c_Fi_judgePair_75 ?_
        exact ⟨by rw [show lv1 P 166 ty v = 1 by unfold lv1; rw [if_pos (Or.inr (Or.inl ⟨by decide, hvm⟩))]] <;> rfl, rfl⟩
      · skip
        by_cases ho : ty < nI 100
        · skip
          refine x_al c_Fi_judgePair_0 rfl ?_
          refine x_get c_Fi_judgePair_1 (by first | rfl | exact hA.1 | exact hA.2.1 | exact hA.2.2.1 | exact hA.2.2.2.1 | exact (pa_c hp)) rfl ?_
          refine x_il c_Fi_judgePair_4 rfl ?_
          refine x_ialdE c_Fi_judgePair_5 (by first | rfl | exact hA.1 | exact hA.2.1 | exact hA.2.2.1 | exact hA.2.2.2.1 | exact (pa_c hp)) (by omega) (by omega) (hk) ?_
          refine x_is [_, _, _, _, _, _, _, _, _] c_Fi_judgePair_6 rfl ?_
          refine x_il c_Fi_judgePair_7 rfl ?_
          refine x_ci c_Fi_judgePair_8 ?_
          refine x_cmN_eq c_Fi_judgePair_11 (by omega) (by omega) (fun h => (by exfalso; omega)) (fun _ => ?_)
          refine x_il c_Fi_judgePair_14 rfl ?_
          refine x_ci c_Fi_judgePair_15 ?_
          refine x_cmN_ne c_Fi_judgePair_18 (by omega) (by omega) (fun h => (by exfalso; omega)) (fun _ => ?_)
          refine x_ci c_Fi_judgePair_21 ?_
          refine x_goto c_Fi_judgePair_22 ?_
          refine x_is [_, _, _, _, _, _, _, _, _] c_Fi_judgePair_26 rfl ?_
          refine x_al c_Fi_judgePair_28 rfl ?_
          refine x_get c_Fi_judgePair_29 (by first | rfl | exact hA.1 | exact hA.2.1 | exact hA.2.2.1 | exact hA.2.2.2.1 | exact (pa_c hp)) rfl ?_
          refine x_il c_Fi_judgePair_32 rfl ?_
          refine x_ialdE c_Fi_judgePair_33 (by first | rfl | exact hA.1 | exact hA.2.1 | exact hA.2.2.1 | exact hA.2.2.2.1 | exact (pa_c hp)) (by omega) (by omega) (ht) ?_
          refine x_ci c_Fi_judgePair_34 ?_
          refine x_cm_eq c_Fi_judgePair_35 (fun h => absurd h (hm1)) (fun _ => ?_)
          refine x_il c_Fi_judgePair_38 rfl ?_
          refine x_ci c_Fi_judgePair_39 ?_
          refine x_cmN_eq c_Fi_judgePair_42 (by omega) (by omega) (fun h => (by exfalso; omega)) (fun _ => ?_)
          refine x_al c_Fi_judgePair_45 rfl ?_
          refine x_get c_Fi_judgePair_46 (by first | rfl | exact hA.1 | exact hA.2.1 | exact hA.2.2.1 | exact hA.2.2.2.1 | exact (pa_c hp)) rfl ?_
          refine x_il c_Fi_judgePair_49 rfl ?_
          refine x_laldE c_Fi_judgePair_50 (by first | rfl | exact hA.1 | exact hA.2.1 | exact hA.2.2.1 | exact hA.2.2.2.1 | exact (pa_c hp)) (by omega) (by omega) (hv (by decide)) ?_
          refine x_cl c_Fi_judgePair_51 ?_
          refine x_lcmp c_Fi_judgePair_54 ?_
          refine x_ifL_eq c_Fi_judgePair_55 (fun h => absurd h (hvm)) (fun _ => ?_)
          refine x_il c_Fi_judgePair_58 rfl ?_
          refine x_if_eq c_Fi_judgePair_60 (fun h => absurd h (by decide)) (fun _ => ?_)
          refine x_al c_Fi_judgePair_63 rfl ?_
          refine x_get c_Fi_judgePair_64 (by first | rfl | exact hA.1 | exact hA.2.1 | exact hA.2.2.1 | exact hA.2.2.2.1 | exact (pa_c hp)) rfl ?_
          refine x_il c_Fi_judgePair_67 rfl ?_
          refine x_ialdE c_Fi_judgePair_68 (by first | rfl | exact hA.1 | exact hA.2.1 | exact hA.2.2.1 | exact hA.2.2.2.1 | exact (pa_c hp)) (by omega) (by omega) (ht) ?_
          refine x_ci c_Fi_judgePair_69 ?_
          refine x_cm_ge c_Fi_judgePair_71 (fun h => absurd h (Int32.not_le.mpr ho)) (fun _ => ?_)
          refine x_ci c_Fi_judgePair_74 ?_
          refine x_ri c_Fi_judgePair_75 ?_
          exact ⟨by rw [show lv1 P 166 ty v = 1 by unfold lv1; rw [if_pos (Or.inr (Or.inr ⟨by decide, ho⟩))]] <;> rfl, rfl⟩
        · skip
          refine x_al c_Fi_judgePair_0 rfl ?_
          refine x_get c_Fi_judgePair_1 (by first | rfl | exact hA.1 | exact hA.2.1 | exact hA.2.2.1 | exact hA.2.2.2.1 | exact (pa_c hp)) rfl ?_
          refine x_il c_Fi_judgePair_4 rfl ?_
          refine x_ialdE c_Fi_judgePair_5 (by first | rfl | exact hA.1 | exact hA.2.1 | exact hA.2.2.1 | exact hA.2.2.2.1 | exact (pa_c hp)) (by omega) (by omega) (hk) ?_
          refine x_is [_, _, _, _, _, _, _, _, _] c_Fi_judgePair_6 rfl ?_
          refine x_il c_Fi_judgePair_7 rfl ?_
          refine x_ci c_Fi_judgePair_8 ?_
          refine x_cmN_eq c_Fi_judgePair_11 (by omega) (by omega) (fun h => (by exfalso; omega)) (fun _ => ?_)
          refine x_il c_Fi_judgePair_14 rfl ?_
          refine x_ci c_Fi_judgePair_15 ?_
          refine x_cmN_ne c_Fi_judgePair_18 (by omega) (by omega) (fun h => (by exfalso; omega)) (fun _ => ?_)
          refine x_ci c_Fi_judgePair_21 ?_
          refine x_goto c_Fi_judgePair_22 ?_
          refine x_is [_, _, _, _, _, _, _, _, _] c_Fi_judgePair_26 rfl ?_
          refine x_al c_Fi_judgePair_28 rfl ?_
          refine x_get c_Fi_judgePair_29 (by first | rfl | exact hA.1 | exact hA.2.1 | exact hA.2.2.1 | exact hA.2.2.2.1 | exact (pa_c hp)) rfl ?_
          refine x_il c_Fi_judgePair_32 rfl ?_
          refine x_ialdE c_Fi_judgePair_33 (by first | rfl | exact hA.1 | exact hA.2.1 | exact hA.2.2.1 | exact hA.2.2.2.1 | exact (pa_c hp)) (by omega) (by omega) (ht) ?_
          refine x_ci c_Fi_judgePair_34 ?_
          refine x_cm_eq c_Fi_judgePair_35 (fun h => absurd h (hm1)) (fun _ => ?_)
          refine x_il c_Fi_judgePair_38 rfl ?_
          refine x_ci c_Fi_judgePair_39 ?_
          refine x_cmN_eq c_Fi_judgePair_42 (by omega) (by omega) (fun h => (by exfalso; omega)) (fun _ => ?_)
          refine x_al c_Fi_judgePair_45 rfl ?_
          refine x_get c_Fi_judgePair_46 (by first | rfl | exact hA.1 | exact hA.2.1 | exact hA.2.2.1 | exact hA.2.2.2.1 | exact (pa_c hp)) rfl ?_
          refine x_il c_Fi_judgePair_49 rfl ?_
          refine x_laldE c_Fi_judgePair_50 (by first | rfl | exact hA.1 | exact hA.2.1 | exact hA.2.2.1 | exact hA.2.2.2.1 | exact (pa_c hp)) (by omega) (by omega) (hv (by decide)) ?_
          refine x_cl c_Fi_judgePair_51 ?_
          refine x_lcmp c_Fi_judgePair_54 ?_
          refine x_ifL_eq c_Fi_judgePair_55 (fun h => absurd h (hvm)) (fun _ => ?_)
          refine x_il c_Fi_judgePair_58 rfl ?_
          refine x_if_eq c_Fi_judgePair_60 (fun h => absurd h (by decide)) (fun _ => ?_)
          refine x_al c_Fi_judgePair_63 rfl ?_
          refine x_get c_Fi_judgePair_64 (by first | rfl | exact hA.1 | exact hA.2.1 | exact hA.2.2.1 | exact hA.2.2.2.1 | exact (pa_c hp)) rfl ?_
          refine x_il c_Fi_judgePair_67 rfl ?_
          refine x_ialdE c_Fi_judgePair_68 (by first | rfl | exact hA.1 | exact hA.2.1 | exact hA.2.2.1 | exact hA.2.2.2.1 | exact (pa_c hp)) (by omega) (by omega) (ht) ?_
          refine x_ci c_Fi_judgePair_69 ?_
          refine x_cm_ge c_Fi_judgePair_71 (fun _ => ?_) (fun h => absurd (Int32.not_lt.mp ho) h)
          refine x_il c_Fi_judgePair_76 rfl ?_
          refine x_ci c_Fi_judgePair_77 ?_
          refine x_cmN_eq c_Fi_judgePair_80 (by omega) (by omega) (fun h => (by exfalso; omega)) (fun _ => ?_)
          refine x_il c_Fi_judgePair_83 rfl ?_
          refine x_ci c_Fi_judgePair_84 ?_
          refine x_cmN_ne c_Fi_judgePair_87 (by omega) (by omega) (fun _ => ?_) (fun h => (by exfalso; omega))
          refine x_cl c_Fi_judgePair_99 ?_
          refine x_ls [_, _, _, _, _, _, _, _, _] c_Fi_judgePair_100 rfl ?_
          refine x_il c_Fi_judgePair_102 rfl ?_
          refine x_ci c_Fi_judgePair_103 ?_
          refine x_cmN_eq c_Fi_judgePair_106 (by omega) (by omega) (fun h => (by exfalso; omega)) (fun _ => ?_)
          refine x_il c_Fi_judgePair_109 rfl ?_
          refine x_ci c_Fi_judgePair_110 ?_
          refine x_cmN_ne c_Fi_judgePair_113 (by omega) (by omega) (fun h => (by exfalso; omega)) (fun _ => ?_)
          refine x_al c_Fi_judgePair_116 rfl ?_
          refine x_get c_Fi_judgePair_117 (by first | rfl | exact hA.1 | exact hA.2.1 | exact hA.2.2.1 | exact hA.2.2.2.1 | exact (pa_c hp)) rfl ?_
          refine x_il c_Fi_judgePair_120 rfl ?_
          refine x_laldE c_Fi_judgePair_121 (by first | rfl | exact hA.1 | exact hA.2.1 | exact hA.2.2.1 | exact hA.2.2.2.1 | exact (pa_c hp)) (by omega) (by omega) (hv (by decide)) ?_
          refine x_goto c_Fi_judgePair_122 ?_
          refine x_ls [_, _, _, _, _, _, _, _, _] c_Fi_judgePair_128 rfl ?_
          refine x_al c_Fi_judgePair_130 rfl ?_
          refine x_al c_Fi_judgePair_131 rfl ?_
          refine x_get c_Fi_judgePair_132 (by first | rfl | exact hA.1 | exact hA.2.1 | exact hA.2.2.1 | exact hA.2.2.2.1 | exact (pa_c hp)) rfl ?_
          refine x_il c_Fi_judgePair_135 rfl ?_
          refine x_ialdE c_Fi_judgePair_136 (by first | rfl | exact hA.1 | exact hA.2.1 | exact hA.2.2.1 | exact hA.2.2.2.1 | exact (pa_c hp)) (by omega) (by omega) (ht) ?_
          refine x_ll c_Fi_judgePair_137 rfl ?_
          refine x_ll c_Fi_judgePair_139 rfl ?_
          refine x_cv3z _ c_Fi_judgePair_141 (by first | rfl | exact hA.1 | exact hA.2.1 | exact hA.2.2.1 | exact hA.2.2.2.1 | exact (pa_c hp)) (Nat.le_of_ble_eq_true rfl) (y_Pa_hasBetween d hp hcap (ty := ty) (lo := 0) (hi := v)) ?_
          rintro _ μx ⟨rfl, hμx⟩
          have hμx := hμx.symm
          subst hμx
          show kc_X _ _ _ _ _ [.int (bI (hbw ty (0) (v) P))] _ _
          refine x_ifB_eq c_Fi_judgePair_144 (fun h144 => ?_) (fun h144 => ?_)
          · refine x_ci c_Fi_judgePair_151 ?_
            refine x_ri c_Fi_judgePair_152 ?_
            first | exact ⟨by rw [show lv1 P 166 ty v = 2 by unfold lv1; rw [if_neg (fun q => by rcases q with q | q | q; exact hm1 q; exact hvm q.2; exact ho q.2)]; exact if_pos h144], rfl⟩ | exact ⟨by rw [show lv1 P 166 ty v = 0 by unfold lv1; rw [if_neg (fun q => by rcases q with q | q | q; exact hm1 q; exact hvm q.2; exact ho q.2)]; exact if_neg (by rw [show hbw ty (if 166 = 163 ∨ 166 = 165 then v else 0) (if 166 = 163 ∨ 166 = 166 then v else 9223372036854775807) P = hbw ty (0) (v) P from rfl, h144]; decide)], rfl⟩
          · refine x_ci c_Fi_judgePair_147 ?_
            refine x_goto c_Fi_judgePair_148 ?_
            refine x_ri c_Fi_judgePair_152 ?_
            first | exact ⟨by rw [show lv1 P 166 ty v = 2 by unfold lv1; rw [if_neg (fun q => by rcases q with q | q | q; exact hm1 q; exact hvm q.2; exact ho q.2)]; exact if_pos h144], rfl⟩ | exact ⟨by rw [show lv1 P 166 ty v = 0 by unfold lv1; rw [if_neg (fun q => by rcases q with q | q | q; exact hm1 q; exact hvm q.2; exact ho q.2)]; exact if_neg (by rw [show hbw ty (if 166 = 163 ∨ 166 = 165 then v else 0) (if 166 = 163 ∨ 166 = 166 then v else 9223372036854775807) P = hbw ty (0) (v) P from rfl, h144]; decide)], rfl⟩
  · skip
    by_cases hm1 : ty = -1
    · skip
      refine x_al c_Fi_judgePair_0 rfl ?_
      refine x_get c_Fi_judgePair_1 (by first | rfl | exact hA.1 | exact hA.2.1 | exact hA.2.2.1 | exact hA.2.2.2.1 | exact (pa_c hp)) rfl ?_
      refine x_il c_Fi_judgePair_4 rfl ?_
      refine x_ialdE c_Fi_judgePair_5 (by first | rfl | exact hA.1 | exact hA.2.1 | exact hA.2.2.1 | exact hA.2.2.2.1 | exact (pa_c hp)) (by omega) (by omega) (hk) ?_
      refine x_is [_, _, _, _, _, _, _, _, _] c_Fi_judgePair_6 rfl ?_
      refine x_il c_Fi_judgePair_7 rfl ?_
      refine x_ci c_Fi_judgePair_8 ?_
      refine x_cmN_eq c_Fi_judgePair_11 (by omega) (by omega) (fun h => (by exfalso; omega)) (fun _ => ?_)
      refine x_il c_Fi_judgePair_14 rfl ?_
      refine x_ci c_Fi_judgePair_15 ?_
      refine x_cmN_ne c_Fi_judgePair_18 (by omega) (by omega) (fun _ => ?_) (fun h => (by exfalso; omega))
      refine x_ci c_Fi_judgePair_25 ?_
      refine x_is [_, _, _, _, _, _, _, _, _] c_Fi_judgePair_26 rfl ?_
      refine x_al c_Fi_judgePair_28 rfl ?_
      refine x_get c_Fi_judgePair_29 (by first | rfl | exact hA.1 | exact hA.2.1 | exact hA.2.2.1 | exact hA.2.2.2.1 | exact (pa_c hp)) rfl ?_
      refine x_il c_Fi_judgePair_32 rfl ?_
      refine x_ialdE c_Fi_judgePair_33 (by first | rfl | exact hA.1 | exact hA.2.1 | exact hA.2.2.1 | exact hA.2.2.2.1 | exact (pa_c hp)) (by omega) (by omega) (ht) ?_
      refine x_ci c_Fi_judgePair_34 ?_
      refine x_cm_eq c_Fi_judgePair_35 (fun _ => ?_) (fun h => absurd (hm1) h)
      refine x_ci c_Fi_judgePair_74 ?_
      refine x_ri c_Fi_judgePair_75 ?_
      exact ⟨by rw [show lv1 P 135 ty v = 1 by unfold lv1; rw [if_pos (Or.inl hm1)]] <;> rfl, rfl⟩
    · skip
      refine x_al c_Fi_judgePair_0 rfl ?_
      refine x_get c_Fi_judgePair_1 (by first | rfl | exact hA.1 | exact hA.2.1 | exact hA.2.2.1 | exact hA.2.2.2.1 | exact (pa_c hp)) rfl ?_
      refine x_il c_Fi_judgePair_4 rfl ?_
      refine x_ialdE c_Fi_judgePair_5 (by first | rfl | exact hA.1 | exact hA.2.1 | exact hA.2.2.1 | exact hA.2.2.2.1 | exact (pa_c hp)) (by omega) (by omega) (hk) ?_
      refine x_is [_, _, _, _, _, _, _, _, _] c_Fi_judgePair_6 rfl ?_
      refine x_il c_Fi_judgePair_7 rfl ?_
      refine x_ci c_Fi_judgePair_8 ?_
      refine x_cmN_eq c_Fi_judgePair_11 (by omega) (by omega) (fun h => (by exfalso; omega)) (fun _ => ?_)
      refine x_il c_Fi_judgePair_14 rfl ?_
      refine x_ci c_Fi_judgePair_15 ?_
      refine x_cmN_ne c_Fi_judgePair_18 (by omega) (by omega) (fun _ => ?_) (fun h => (by exfalso; omega))
      refine x_ci c_Fi_judgePair_25 ?_
      refine x_is [_, _, _, _, _, _, _, _, _] c_Fi_judgePair_26 rfl ?_
      refine x_al c_Fi_judgePair_28 rfl ?_
      refine x_get c_Fi_judgePair_29 (by first | rfl | exact hA.1 | exact hA.2.1 | exact hA.2.2.1 | exact hA.2.2.2.1 | exact (pa_c hp)) rfl ?_
      refine x_il c_Fi_judgePair_32 rfl ?_
      refine x_ialdE c_Fi_judgePair_33 (by first | rfl | exact hA.1 | exact hA.2.1 | exact hA.2.2.1 | exact hA.2.2.2.1 | exact (pa_c hp)) (by omega) (by omega) (ht) ?_
      refine x_ci c_Fi_judgePair_34 ?_
      refine x_cm_eq c_Fi_judgePair_35 (fun h => absurd h (hm1)) (fun _ => ?_)
      refine x_il c_Fi_judgePair_38 rfl ?_
      refine x_ci c_Fi_judgePair_39 ?_
      refine x_cmN_eq c_Fi_judgePair_42 (by omega) (by omega) (fun _ => ?_) (fun h => (by exfalso; omega))
      refine x_il c_Fi_judgePair_58 rfl ?_
      refine x_if_eq c_Fi_judgePair_60 (fun _ => ?_) (fun h => absurd (by decide) h)
      refine x_il c_Fi_judgePair_76 rfl ?_
      refine x_ci c_Fi_judgePair_77 ?_
      refine x_cmN_eq c_Fi_judgePair_80 (by omega) (by omega) (fun h => (by exfalso; omega)) (fun _ => ?_)
      refine x_il c_Fi_judgePair_83 rfl ?_
      refine x_ci c_Fi_judgePair_84 ?_
      refine x_cmN_ne c_Fi_judgePair_87 (by omega) (by omega) (fun _ => ?_) (fun h => (by exfalso; omega))
      refine x_cl c_Fi_judgePair_99 ?_
      refine x_ls [_, _, _, _, _, _, _, _, _] c_Fi_judgePair_100 rfl ?_
      refine x_il c_Fi_judgePair_102 rfl ?_
      refine x_ci c_Fi_judgePair_103 ?_
      refine x_cmN_eq c_Fi_judgePair_106 (by omega) (by omega) (fun h => (by exfalso; omega)) (fun _ => ?_)
      refine x_il c_Fi_judgePair_109 rfl ?_
      refine x_ci c_Fi_judgePair_110 ?_
      refine x_cmN_ne c_Fi_judgePair_113 (by omega) (by omega) (fun _ => ?_) (fun h => (by exfalso; omega))
      refine x_cl c_Fi_judgePair_125 ?_
      refine x_ls [_, _, _, _, _, _, _, _, _] c_Fi_judgePair_128 rfl ?_
      refine x_al c_Fi_judgePair_130 rfl ?_
      refine x_al c_Fi_judgePair_131 rfl ?_
      refine x_get c_Fi_judgePair_132 (by first | rfl | exact hA.1 | exact hA.2.1 | exact hA.2.2.1 | exact hA.2.2.2.1 | exact (pa_c hp)) rfl ?_
      refine x_il c_Fi_judgePair_135 rfl ?_
      refine x_ialdE c_Fi_judgePair_136 (by first | rfl | exact hA.1 | exact hA.2.1 | exact hA.2.2.1 | exact hA.2.2.2.1 | exact (pa_c hp)) (by omega) (by omega) (ht) ?_
      refine x_ll c_Fi_judgePair_137 rfl ?_
      refine x_ll c_Fi_judgePair_139 rfl ?_
      refine x_cv3z _ c_Fi_judgePair_141 (by first | rfl | exact hA.1 | exact hA.2.1 | exact hA.2.2.1 | exact hA.2.2.2.1 | exact (pa_c hp)) (Nat.le_of_ble_eq_true rfl) (y_Pa_hasBetween d hp hcap (ty := ty) (lo := 0) (hi := 9223372036854775807)) ?_
      rintro _ μx ⟨rfl, hμx⟩
      have hμx := hμx.symm
      subst hμx
      show kc_X _ _ _ _ _ [.int (bI (hbw ty (0) (9223372036854775807) P))] _ _
      refine x_ifB_eq c_Fi_judgePair_144 (fun h144 => ?_) (fun h144 => ?_)
      · refine x_ci c_Fi_judgePair_151 ?_
        refine x_ri c_Fi_judgePair_152 ?_
        first | exact ⟨by rw [show lv1 P 135 ty v = 2 by unfold lv1; rw [if_neg (fun q => by rcases q with q | q | q; exact hm1 q; exact q.1 rfl; exact absurd q.1 (by decide))]; exact if_pos h144], rfl⟩ | exact ⟨by rw [show lv1 P 135 ty v = 0 by unfold lv1; rw [if_neg (fun q => by rcases q with q | q | q; exact hm1 q; exact q.1 rfl; exact absurd q.1 (by decide))]; exact if_neg (by rw [show hbw ty (if 135 = 163 ∨ 135 = 165 then v else 0) (if 135 = 163 ∨ 135 = 166 then v else 9223372036854775807) P = hbw ty (0) (9223372036854775807) P from rfl, h144]; decide)], rfl⟩
      · refine x_ci c_Fi_judgePair_147 ?_
        refine x_goto c_Fi_judgePair_148 ?_
        refine x_ri c_Fi_judgePair_152 ?_
        first | exact ⟨by rw [show lv1 P 135 ty v = 2 by unfold lv1; rw [if_neg (fun q => by rcases q with q | q | q; exact hm1 q; exact q.1 rfl; exact absurd q.1 (by decide))]; exact if_pos h144], rfl⟩ | exact ⟨by rw [show lv1 P 135 ty v = 0 by unfold lv1; rw [if_neg (fun q => by rcases q with q | q | q; exact hm1 q; exact q.1 rfl; exact absurd q.1 (by decide))]; exact if_neg (by rw [show hbw ty (if 135 = 163 ∨ 135 = 165 then v else 0) (if 135 = 163 ∨ 135 = 166 then v else 9223372036854775807) P = hbw ty (0) (9223372036854775807) P from rfl, h144]; decide)], rfl⟩
