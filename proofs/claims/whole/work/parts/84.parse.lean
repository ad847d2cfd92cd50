/-! what is read of changes -/
def vsS (tb : Nat → Nat) : Nat → Nat → Nat → Option (List Int64)
  | 0, p, e => if p < e then none else some []
  | m + 1, p, e => if p < e then (match tl tb 4 p e with
    | some (x, y) => (vsS tb m y e).map (fun l => vlS tb x y :: l)
    | none => none) else some []
theorem vsS_s (tb : Nat → Nat) (m p e : Nat) : vsS tb (m + 1) p e = if p < e then (match tl tb 4 p e with
    | some (x, y) => (vsS tb m y e).map (fun l => vlS tb x y :: l)
    | none => none) else some [] := rfl
/-- wrong, or not read to the end -/
def bad (r : RS) : Prop := r.2.2.1 = true ∨ r.1 ≠ r.2.1
theorem bad_L {ar : Nat} {r : RS} (h : bad r) : (rL ar r).2.2.1 = true := by
  unfold rL
  rcases h with h | h
  · show (r.2.2.1 || _) = true; rw [h]; rfl
  · show (r.2.2.1 || !decide (r.1 = r.2.1)) = true; rw [decide_eq_false h]; simp
theorem L_wr {ar : Nat} {r : RS} (h : r.2.2.1 = true) : (rL ar r).2.2.1 = true := bad_L (Or.inl h)
theorem L_ok {ar a sf st : Nat} : rL ar (a, a, false, sf, st) = (a, ar, false, sf, st) := by unfold rL; simp
theorem rM_t {p e sf st : Nat} (h : p < e) : rM (p, e, false, sf, st) = true := by unfold rM; simp [h]
theorem rM_f {p e sf st : Nat} (h : ¬ p < e) : ¬ rM (p, e, false, sf, st) = true := by unfold rM; simp; omega
theorem rM_w {r : RS} (h : r.2.2.1 = true) : ¬ rM r = true := by unfold rM; rw [h]; simp
theorem rsV_w {tb : Nat → Nat} {m : Nat} {r : RS} (h : r.2.2.1 = true) : (rsV tb m r).1.2.2.1 = true := by
  cases m with
  | zero => exact h
  | succ m => rw [rsV_s, if_neg (rM_w h)]; exact h
theorem vs_ok {tb : Nat → Nat} (htb : ∀ j, tb j < 256) : ∀ (m p e sf st : Nat) (V : List Int64), p ≤ e → vsS tb m p e = some V → ∃ sf' st', rsV tb m (p, e, false, sf, st) = ((e, e, false, sf', st'), V)
  | 0, p, e, sf, st, V, hpe, h => by
    unfold vsS at h
    split at h
    · cases h
    · cases h
      have : p = e := by omega
      subst this
      exact ⟨sf, st, rfl⟩
  | m + 1, p, e, sf, st, V, hpe, h => by
    rw [vsS_s] at h
    by_cases hp : p < e
    · rw [if_pos hp] at h
      cases ht : tl tb 4 p e with
      | none => rw [ht] at h; cases h
      | some q =>
        obtain ⟨x, y⟩ := q
        rw [ht] at h
        dsimp only at h
        rw [Option.map_eq_some_iff] at h
        obtain ⟨l, hl, rfl⟩ := h
        have hin := tl_in ht
        obtain ⟨s', t', hh⟩ := vs_ok htb m y e x y l hin.2.2 hl
        refine ⟨s', t', ?_⟩
        rw [rsV_s, if_pos (rM_t hp), rS_ok htb (by omega) ht, hh]
    · rw [if_neg hp] at h
      cases h
      have : p = e := by omega
      subst this
      refine ⟨sf, st, ?_⟩
      rw [rsV_s, if_neg (rM_f hp)]
theorem vs_no {tb : Nat → Nat} (htb : ∀ j, tb j < 256) : ∀ (m p e sf st : Nat), p ≤ e → vsS tb m p e = none → bad (rsV tb m (p, e, false, sf, st)).1
  | 0, p, e, sf, st, hpe, h => by
    unfold vsS at h
    split at h
    · exact Or.inr (by show p ≠ e; omega)
    · cases h
  | m + 1, p, e, sf, st, hpe, h => by
    rw [vsS_s] at h
    by_cases hp : p < e
    · rw [if_pos hp] at h
      rw [rsV_s, if_pos (rM_t hp)]
      cases ht : tl tb 4 p e with
      | none => exact Or.inl (rsV_w (rS_no htb (by omega) ht))
      | some q =>
        obtain ⟨x, y⟩ := q
        rw [ht] at h
        dsimp only at h
        rw [Option.map_eq_none_iff] at h
        have hin := tl_in ht
        rw [rS_ok htb (by omega) ht]
        exact vs_no htb m y e x y hin.2.2 h
    · rw [if_neg hp] at h
      cases h
/-- an attribute: where it ends, its type and values -/
def atG (tb : Nat → Nat) (m p b : Nat) : Option (Nat × Int32 × List Int64) := match tl tb 48 p b with
  | none => none
  | some (x, y) => match tl tb 4 x y with
    | none => none
    | some (x2, y2) => match tl tb 49 y2 y with
      | none => none
      | some (x3, y3) => if y3 = y then (vsS tb m x3 y3).map (fun vs => (y, tyS tb x2 y2, vs)) else none
theorem E_w {tb : Nat → Nat} {tag : Int32} {r : RS} (h : r.2.2.1 = true) : (rE tb tag r).2.2.1 = true := by rw [rE_wr h]; rfl
theorem at_ok {tb : Nat → Nat} (htb : ∀ j, tb j < 256) {m p b sf st y : Nat} {t : Int32} {V : List Int64} (h : atG tb m p b = some (y, t, V)) : (∃ sf' st', raA tb m (p, b, false, sf, st) = ((y, b, false, sf', st'), t, V)) ∧ p < y ∧ y ≤ b := by
  unfold atG at h
  cases h1 : tl tb 48 p b with
  | none => rw [h1] at h; cases h
  | some q =>
    obtain ⟨x, y1⟩ := q
    rw [h1] at h
    dsimp only at h
    cases h2 : tl tb 4 x y1 with
    | none => rw [h2] at h; cases h
    | some q =>
      obtain ⟨x2, y2⟩ := q
      rw [h2] at h
      dsimp only at h
      cases h3 : tl tb 49 y2 y1 with
      | none => rw [h3] at h; cases h
      | some q =>
        obtain ⟨x3, y3⟩ := q
        rw [h3] at h
        dsimp only at h
        split at h
        · rename_i hy
          subst hy
          rw [Option.map_eq_some_iff] at h
          obtain ⟨vs, hvs, h⟩ := h
          simp only [Prod.mk.injEq] at h
          obtain ⟨rfl, rfl, rfl⟩ := h
          have i1 := tl_in h1
          have i3 := tl_in h3
          obtain ⟨s', t', hv⟩ := vs_ok htb m x3 y3 x2 y2 vs i3.2.1 hvs
          refine ⟨⟨s', t', ?_⟩, by omega, i1.2.2⟩
          unfold raA
          rw [rE_ok htb (by omega) h1, rS_ok htb (by omega) h2]
          dsimp only
          rw [rE_ok htb (by omega) h3, hv]
          dsimp only
          rw [L_ok, L_ok]
        · cases h
theorem at_no {tb : Nat → Nat} (htb : ∀ j, tb j < 256) {m p b sf st : Nat} (h : atG tb m p b = none) : (raA tb m (p, b, false, sf, st)).1.2.2.1 = true := by
  unfold atG at h
  unfold raA
  dsimp only
  cases h1 : tl tb 48 p b with
  | none =>
    refine L_wr (L_wr (rsV_w (E_w (rS_wr ?_))))
    rw [rE_no htb (by omega) h1]; rfl
  | some q =>
    obtain ⟨x, y1⟩ := q
    rw [h1] at h
    dsimp only at h
    rw [rE_ok htb (by omega) h1]
    cases h2 : tl tb 4 x y1 with
    | none => exact L_wr (L_wr (rsV_w (E_w (rS_no htb (by omega) h2))))
    | some q =>
      obtain ⟨x2, y2⟩ := q
      rw [h2] at h
      dsimp only at h
      rw [rS_ok htb (by omega) h2]
      cases h3 : tl tb 49 y2 y1 with
      | none =>
        refine L_wr (L_wr (rsV_w ?_))
        rw [rE_no htb (by omega) h3]; rfl
      | some q =>
        obtain ⟨x3, y3⟩ := q
        rw [h3] at h
        dsimp only at h
        rw [rE_ok htb (by omega) h3]
        have i3 := tl_in h3
        split at h
        · rename_i hy
          subst hy
          rw [Option.map_eq_none_iff] at h
          exact L_wr (bad_L (vs_no htb m x3 y3 x2 y2 i3.2.1 h))
        · rename_i hy
          cases hv : vsS tb m x3 y3 with
          | none => exact L_wr (bad_L (vs_no htb m x3 y3 x2 y2 i3.2.1 hv))
          | some V =>
            obtain ⟨s', t', hv'⟩ := vs_ok htb m x3 y3 x2 y2 V i3.2.1 hv
            rw [hv', L_ok]
            exact bad_L (Or.inr hy)
/-- a change: where it ends, and itself -/
def a1S (tb : Nat → Nat) (kb : Bool) (nv p e : Nat) : Option (Nat × cg) := if kb = true then (match tl tb 48 p e with
  | none => none
  | some (x, y) => match cl_ tb 2 x y with
    | none => none
    | some (x2, y2) => match atG tb (24 - nv) y2 y with
      | none => none
      | some (z, t, vs) => if z = y then some (y, (tb x2, t, vs)) else none)
  else (match atG tb (24 - nv) p e with
    | none => none
    | some (y, t, vs) => some (y, (0, t, vs)))
theorem A_w {tb : Nat → Nat} {m : Nat} {r : RS} (h : r.2.2.1 = true) : (raA tb m r).1.2.2.1 = true := by
  unfold raA
  exact L_wr (L_wr (rsV_w (E_w (rS_wr (E_w h)))))
theorem a1_ok {tb : Nat → Nat} (htb : ∀ j, tb j < 256) {kb : Bool} {nv p e sf st y : Nat} {c : cg} (h : a1S tb kb nv p e = some (y, c)) : (∃ sf' st', rc1 tb kb nv (p, e, false, sf, st) = ((y, e, false, sf', st'), c)) ∧ p < y ∧ y ≤ e := by
  unfold a1S at h
  cases kb with
  | true =>
    rw [if_pos rfl] at h
    rw [rc1_t]
    cases h1 : tl tb 48 p e with
    | none => rw [h1] at h; cases h
    | some q =>
      obtain ⟨x, y1⟩ := q
      rw [h1] at h
      dsimp only at h
      rw [rE_ok htb (by omega) h1]
      have i1 := tl_in h1
      cases h2 : cl_ tb 2 x y1 with
      | none => rw [h2] at h; cases h
      | some q =>
        obtain ⟨x2, y2⟩ := q
        rw [h2] at h
        dsimp only at h
        obtain ⟨c1, c2⟩ := rC_ok htb (sf := sf) (st := st) h2
        rw [c1, c2]
        cases h3 : atG tb (24 - nv) y2 y1 with
        | none => rw [h3] at h; cases h
        | some q =>
          obtain ⟨z, t, vs⟩ := q
          rw [h3] at h
          dsimp only at h
          split at h
          · rename_i hz
            subst hz
            simp only [Option.some.injEq, Prod.mk.injEq] at h
            obtain ⟨rfl, rfl⟩ := h
            obtain ⟨⟨s', t', ha⟩, _⟩ := at_ok htb (sf := x2) (st := y2) h3
            refine ⟨⟨s', t', ?_⟩, by omega, i1.2.2⟩
            rw [ha]
            dsimp only
            rw [L_ok]
          · cases h
  | false =>
    rw [if_neg (by decide)] at h
    rw [rc1_f]
    cases h3 : atG tb (24 - nv) p e with
    | none => rw [h3] at h; cases h
    | some q =>
      obtain ⟨z, t, vs⟩ := q
      rw [h3] at h
      dsimp only at h
      simp only [Option.some.injEq, Prod.mk.injEq] at h
      obtain ⟨rfl, rfl⟩ := h
      obtain ⟨⟨s', t', ha⟩, i1⟩ := at_ok htb (sf := sf) (st := st) h3
      exact ⟨⟨s', t', by rw [ha]⟩, i1⟩
theorem a1_no {tb : Nat → Nat} (htb : ∀ j, tb j < 256) {kb : Bool} {nv p e sf st : Nat} (h : a1S tb kb nv p e = none) : (rc1 tb kb nv (p, e, false, sf, st)).1.2.2.1 = true := by
  unfold a1S at h
  cases kb with
  | true =>
    rw [if_pos rfl] at h
    rw [rc1_t]
    dsimp only
    cases h1 : tl tb 48 p e with
    | none =>
      refine L_wr (A_w (rC_wr ?_))
      rw [rE_no htb (by omega) h1]; rfl
    | some q =>
      obtain ⟨x, y1⟩ := q
      rw [h1] at h
      dsimp only at h
      rw [rE_ok htb (by omega) h1]
      cases h2 : cl_ tb 2 x y1 with
      | none => exact L_wr (A_w (rC_no htb h2))
      | some q =>
        obtain ⟨x2, y2⟩ := q
        rw [h2] at h
        dsimp only at h
        rw [(rC_ok htb (sf := sf) (st := st) h2).1]
        cases h3 : atG tb (24 - nv) y2 y1 with
        | none => exact L_wr (at_no htb h3)
        | some q =>
          obtain ⟨z, t, vs⟩ := q
          rw [h3] at h
          dsimp only at h
          split at h
          · cases h
          · rename_i hz
            obtain ⟨⟨s', t', ha⟩, _⟩ := at_ok htb (sf := x2) (st := y2) h3
            rw [ha]
            exact bad_L (Or.inr hz)
  | false =>
    rw [if_neg (by decide)] at h
    rw [rc1_f]
    cases h3 : atG tb (24 - nv) p e with
    | none => exact at_no htb h3
    | some q => rw [h3] at h; cases h
def asS (tb : Nat → Nat) (kb : Bool) : Nat → Nat → Nat → Nat → Option (List cg)
  | 0, _, p, e => if p < e then none else some []
  | m + 1, nv, p, e => if p < e then (match a1S tb kb nv p e with
    | some (y, c) => (asS tb kb m (nv + c.2.2.length) y e).map (fun l => c :: l)
    | none => none) else some []
theorem asS_s (tb : Nat → Nat) (kb : Bool) (m nv p e : Nat) : asS tb kb (m + 1) nv p e = if p < e then (match a1S tb kb nv p e with
    | some (y, c) => (asS tb kb m (nv + c.2.2.length) y e).map (fun l => c :: l)
    | none => none) else some [] := rfl
theorem raL_w {tb : Nat → Nat} {kb : Bool} {m nv : Nat} {r : RS} (h : r.2.2.1 = true) : (raL tb kb m nv r).1.2.2.1 = true := by
  cases m with
  | zero => exact h
  | succ m => rw [raL_s, if_neg (rM_w h)]; exact h
theorem as_ok {tb : Nat → Nat} (htb : ∀ j, tb j < 256) {kb : Bool} : ∀ (m nv p e sf st : Nat) (cs : List cg), p ≤ e → asS tb kb m nv p e = some cs → ∃ sf' st', raL tb kb m nv (p, e, false, sf, st) = ((e, e, false, sf', st'), cs)
  | 0, nv, p, e, sf, st, V, hpe, h => by
    unfold asS at h
    split at h
    · cases h
    · cases h
      have : p = e := by omega
      subst this
      exact ⟨sf, st, rfl⟩
  | m + 1, nv, p, e, sf, st, V, hpe, h => by
    rw [asS_s] at h
    by_cases hp : p < e
    · rw [if_pos hp] at h
      cases ht : a1S tb kb nv p e with
      | none => rw [ht] at h; cases h
      | some q =>
        obtain ⟨y, c⟩ := q
        rw [ht] at h
        dsimp only at h
        rw [Option.map_eq_some_iff] at h
        obtain ⟨l, hl, rfl⟩ := h
        obtain ⟨⟨s1, t1, ha⟩, i1⟩ := a1_ok htb (sf := sf) (st := st) ht
        obtain ⟨s', t', hh⟩ := as_ok htb m (nv + c.2.2.length) y e s1 t1 l i1.2 hl
        refine ⟨s', t', ?_⟩
        rw [raL_s, if_pos (rM_t hp), ha]
        dsimp only
        rw [hh]
    · rw [if_neg hp] at h
      cases h
      have : p = e := by omega
      subst this
      refine ⟨sf, st, ?_⟩
      rw [raL_s, if_neg (rM_f hp)]
theorem as_no {tb : Nat → Nat} (htb : ∀ j, tb j < 256) {kb : Bool} : ∀ (m nv p e sf st : Nat), p ≤ e → asS tb kb m nv p e = none → bad (raL tb kb m nv (p, e, false, sf, st)).1
  | 0, nv, p, e, sf, st, hpe, h => by
    unfold asS at h
    split at h
    · exact Or.inr (by show p ≠ e; omega)
    · cases h
  | m + 1, nv, p, e, sf, st, hpe, h => by
    rw [asS_s] at h
    by_cases hp : p < e
    · rw [if_pos hp] at h
      rw [raL_s, if_pos (rM_t hp)]
      cases ht : a1S tb kb nv p e with
      | none => exact Or.inl (raL_w (a1_no htb ht))
      | some q =>
        obtain ⟨y, c⟩ := q
        rw [ht] at h
        dsimp only at h
        rw [Option.map_eq_none_iff] at h
        obtain ⟨⟨s1, t1, ha⟩, i1⟩ := a1_ok htb (sf := sf) (st := st) ht
        rw [ha]
        exact as_no htb m (nv + c.2.2.length) y e s1 t1 i1.2 h
    · rw [if_neg hp] at h
      cases h
/-- a whole message that changes an entry: its name and its changes -/
def acS (tb : Nat → Nat) (kb : Bool) (c e : Nat) : Option (Nat × Nat × List cg) := match tl tb 4 c e with
  | none => none
  | some (x2, y2) => match tl tb 48 y2 e with
    | none => none
    | some (x, y) => if y = e then (asS tb kb 12 0 x y).map (fun cs => (x2, y2, cs)) else none
theorem ac_ok {tb : Nat → Nat} (htb : ∀ j, tb j < 256) {kb : Bool} {c e sf st x2 y2 : Nat} {cs : List cg} (h : acS tb kb c e = some (x2, y2, cs)) : (rS tb (nI 4) (c, e, false, sf, st)).2.2.2.1 = x2 ∧ (rS tb (nI 4) (c, e, false, sf, st)).2.2.2.2 = y2 ∧ (rcF tb kb (rS tb (nI 4) (c, e, false, sf, st))).2 = cs ∧ rD (rcF tb kb (rS tb (nI 4) (c, e, false, sf, st))).1 = true := by
  unfold acS at h
  cases h1 : tl tb 4 c e with
  | none => rw [h1] at h; cases h
  | some q =>
    obtain ⟨x, y⟩ := q
    rw [h1] at h
    dsimp only at h
    rw [rS_ok htb (by omega) h1]
    cases h2 : tl tb 48 y e with
    | none => rw [h2] at h; cases h
    | some q =>
      obtain ⟨x3, y3⟩ := q
      rw [h2] at h
      dsimp only at h
      split at h
      · rename_i hy
        subst hy
        rw [Option.map_eq_some_iff] at h
        obtain ⟨l, hl, h⟩ := h
        simp only [Prod.mk.injEq] at h
        obtain ⟨rfl, rfl, rfl⟩ := h
        have i2 := tl_in h2
        obtain ⟨s', t', ha⟩ := as_ok htb 12 0 x3 y3 x y l i2.2.1 hl
        refine ⟨rfl, rfl, ?_, ?_⟩
        · unfold rcF
          rw [rE_ok htb (by omega) h2, ha]
        · unfold rcF
          rw [rE_ok htb (by omega) h2, ha]
          dsimp only
          rw [L_ok]
          unfold rD
          simp
      · cases h
theorem ac_no {tb : Nat → Nat} (htb : ∀ j, tb j < 256) {kb : Bool} {c e sf st : Nat} (h : acS tb kb c e = none) : rD (rcF tb kb (rS tb (nI 4) (c, e, false, sf, st))).1 = false := by
  have hd : ∀ r : RS, r.2.2.1 = true → rD r = false := fun r h => by unfold rD; rw [h]; rfl
  unfold acS at h
  unfold rcF
  dsimp only
  cases h1 : tl tb 4 c e with
  | none => exact hd _ (L_wr (raL_w (E_w (rS_no htb (by omega) h1))))
  | some q =>
    obtain ⟨x, y⟩ := q
    rw [h1] at h
    dsimp only at h
    rw [rS_ok htb (by omega) h1]
    cases h2 : tl tb 48 y e with
    | none =>
      refine hd _ (L_wr (raL_w ?_))
      rw [rE_no htb (by omega) h2]; rfl
    | some q =>
      obtain ⟨x3, y3⟩ := q
      rw [h2] at h
      dsimp only at h
      rw [rE_ok htb (by omega) h2]
      have i2 := tl_in h2
      split at h
      · rename_i hy
        subst hy
        rw [Option.map_eq_none_iff] at h
        exact hd _ (bad_L (as_no htb 12 0 x3 y3 x y i2.2.1 h))
      · rename_i hy
        cases ha : asS tb kb 12 0 x3 y3 with
        | none => exact hd _ (bad_L (as_no htb 12 0 x3 y3 x y i2.2.1 ha))
        | some cs =>
          obtain ⟨s', t', ha'⟩ := as_ok htb 12 0 x3 y3 x y cs i2.2.1 ha
          rw [ha', L_ok]
          unfold rD
          simp [hy]
