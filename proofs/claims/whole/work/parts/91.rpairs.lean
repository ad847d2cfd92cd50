/-! the reference reads changes -/
theorem tl_re {tb : Nat → Nat} {t p e x y : Nat} (h : tl tb t p e = some (x, y)) : tl tb t p y = some (x, y) := by
  unfold tl at h ⊢
  split at h
  · rename_i ht
    rw [if_pos ht]
    unfold el at h ⊢
    split at h
    · rename_i g
      simp only [Option.some.injEq, Prod.mk.injEq] at h
      rw [if_pos (by omega)]
      simp only [Option.some.injEq, Prod.mk.injEq]
      omega
    · rename_i g1
      split at h
      · rename_i g
        simp only [Option.some.injEq, Prod.mk.injEq] at h
        rw [if_neg (by omega), if_pos (by omega)]
        simp only [Option.some.injEq, Prod.mk.injEq]
        omega
      · cases h
  · cases h
theorem atG_re {tb : Nat → Nat} {m p e x y : Nat} (h : tl tb 48 p e = some (x, y)) : atG tb m p e = atG tb m p y := by
  unfold atG
  rw [h, tl_re h]
theorem atG_e {tb : Nat → Nat} {m p e x y z : Nat} {t : Int32} {V : List Int64} (h : tl tb 48 p e = some (x, y)) (h2 : atG tb m p e = some (z, t, V)) : z = y := by
  unfold atG at h2
  rw [h] at h2
  dsimp only at h2
  (repeat' split at h2) <;> (try cases h2)
  rw [Option.map_eq_some_iff] at h2
  obtain ⟨_, _, h2⟩ := h2
  simp only [Prod.mk.injEq] at h2
  exact h2.1.symm
theorem a1_t {tb : Nat → Nat} {nv p e x y x2 y2 : Nat} {t : Int32} {V : List Int64} (h : tl tb 48 p e = some (x, y)) (h2 : cl_ tb 2 x y = some (x2, y2)) (h3 : atG tb (24 - nv) y2 y = some (y, t, V)) : a1S tb true nv p e = some (y, (tb x2, t, V)) := by
  unfold a1S
  rw [if_pos rfl, h]; dsimp only; rw [h2]; dsimp only; rw [h3]; dsimp only; rw [if_pos rfl]
theorem a1_tn {tb : Nat → Nat} {nv p e x y x2 y2 : Nat} (h : tl tb 48 p e = some (x, y)) (h2 : cl_ tb 2 x y = some (x2, y2)) (h3 : ∀ t V, atG tb (24 - nv) y2 y ≠ some (y, t, V)) : a1S tb true nv p e = none := by
  unfold a1S
  rw [if_pos rfl, h]; dsimp only; rw [h2]; dsimp only
  cases h4 : atG tb (24 - nv) y2 y with
  | none => rfl
  | some q =>
    obtain ⟨z, t, V⟩ := q
    dsimp only
    rw [if_neg]
    rintro rfl
    exact h3 t V h4
theorem a1_tc {tb : Nat → Nat} {nv p e x y : Nat} (h : tl tb 48 p e = some (x, y)) (h2 : cl_ tb 2 x y = none) : a1S tb true nv p e = none := by
  unfold a1S
  rw [if_pos rfl, h]; dsimp only; rw [h2]
theorem a1_0 {tb : Nat → Nat} {kb : Bool} {nv p e : Nat} (h : tl tb 48 p e = none) : a1S tb kb nv p e = none := by
  unfold a1S atG
  rw [h]
  cases kb <;> rfl
theorem a1_f {tb : Nat → Nat} {nv p e x y : Nat} {t : Int32} {V : List Int64} (h : tl tb 48 p e = some (x, y)) (h3 : atG tb (24 - nv) p y = some (y, t, V)) : a1S tb false nv p e = some (y, (0, t, V)) := by
  unfold a1S
  rw [if_neg (by decide), atG_re h, h3]
theorem a1_fn {tb : Nat → Nat} {nv p e x y : Nat} (h : tl tb 48 p e = some (x, y)) (h3 : ∀ t V, atG tb (24 - nv) p y ≠ some (y, t, V)) : a1S tb false nv p e = none := by
  unfold a1S
  rw [if_neg (by decide), atG_re h]
  cases h4 : atG tb (24 - nv) p y with
  | none => rfl
  | some q =>
    obtain ⟨z, t, V⟩ := q
    have := atG_e (tl_re h) h4
    subst this
    exact absurd h4 (h3 t V)
/-- the changes from the i-th row on, whose values begin at a -/
def maL (kb : Bool) (kf tf ff cf : Nat → Int32) (vf : Nat → Int64) : List cg → Nat → Nat → Prop
  | [], _, _ => True
  | c :: cs, i, a => (maR tf ff cf vf i a c ∧ (kb = true → kf i = nI c.1)) ∧ maL kb kf tf ff cf vf cs (i + 1) (a + c.2.2.length)
theorem maL_a {kb : Bool} {kf tf ff cf : Nat → Int32} {vf : Nat → Int64} {c : cg} : ∀ (cs : List cg) (i a : Nat), maL kb kf tf ff cf vf cs i a → maR tf ff cf vf (i + cs.length) (a + tot cs) c → (kb = true → kf (i + cs.length) = nI c.1) → maL kb kf tf ff cf vf (cs ++ [c]) i a
  | [], i, a, _, h, hk => ⟨⟨h, hk⟩, trivial⟩
  | b :: cs, i, a, h, hc, hk => by
    rw [List.length_cons, tot_c] at hc
    rw [List.length_cons] at hk
    refine ⟨h.1, maL_a cs (i + 1) (a + b.2.2.length) h.2 ?_ ?_⟩
    · rw [show i + 1 + cs.length = i + (cs.length + 1) by omega, show a + b.2.2.length + tot cs = a + (b.2.2.length + tot cs) by omega]
      exact hc
    · rw [show i + 1 + cs.length = i + (cs.length + 1) by omega]
      exact hk
theorem maL_k {kb : Bool} {kf tf ff cf kf' tf' ff' cf' : Nat → Int32} {vf vf' : Nat → Int64} : ∀ (cs : List cg) (i a : Nat), maL kb kf tf ff cf vf cs i a → (∀ j, j < i + cs.length → kf' j = kf j ∧ tf' j = tf j ∧ ff' j = ff j ∧ cf' j = cf j) → (∀ j, j < a + tot cs → vf' j = vf j) → maL kb kf' tf' ff' cf' vf' cs i a
  | [], _, _, _, _, _ => trivial
  | c :: cs, i, a, h, h1, h2 => by
    rw [List.length_cons] at h1
    rw [tot_c] at h2
    refine ⟨?_, maL_k cs (i + 1) (a + c.2.2.length) h.2 (fun j hj => h1 j (by omega)) (fun j hj => h2 j (by omega))⟩
    obtain ⟨⟨⟨a1, a2, a3, a4, a5, a6⟩, a7⟩, _⟩ := h
    obtain ⟨b1, b2, b3, b4⟩ := h1 i (by omega)
    exact ⟨⟨b2.trans a1, b3.trans a2, b4.trans a3, a4, fun j hj => by rw [h2 (a + j) (by omega)]; exact a5 j hj, a6⟩, fun h => b1.trans (a7 h)⟩
def mP (μ μ' : kc_M) (s s' : Nat → Int32) : Prop := μ'.1 136 = some (ce_Md s') ∧ (∀ i, i ∉ [13, 14, 15, 23, 24, 33, 38] → s' i = s i) ∧ (∀ q, q ≠ 136 → q < 147 ∨ 151 < q → μ'.1 q = μ.1 q)
theorem nin7 {i : Nat} (h : i ∉ [13, 14, 15, 23, 24, 33, 38]) : i ∉ [13, 14, 15] ∧ i ∉ [13, 14, 15, 33, 38] ∧ i ≠ 23 ∧ i ≠ 24 := by
  simp only [List.mem_cons, List.not_mem_nil, or_false, not_or] at h ⊢
  omega
theorem mP.re {μ : kc_M} {s : Nat → Int32} (h : μ.1 136 = some (ce_Md s)) : mP μ μ s s := ⟨h, fun _ _ => rfl, fun _ _ _ => rfl⟩
theorem mP.C {μ μ1 μ2 : kc_M} {s s1 s2 : Nat → Int32} (h : mP μ μ1 s s1) (h2 : mdC μ1 μ2 s1 s2 [13, 14, 15]) : mP μ μ2 s s2 := ⟨h2.1, fun i hi => (h2.2.1 i (nin7 hi).1).trans (h.2.1 i hi), fun q q1 q2 => (h2.2.2 q q1).trans (h.2.2 q q1 q2)⟩
theorem mP.A {μ μ1 μ2 : kc_M} {s s1 s2 : Nat → Int32} (h : mP μ μ1 s s1) (h2 : mA μ1 μ2 s1 s2) : mP μ μ2 s s2 := ⟨h2.1, fun i hi => (h2.2.1 i (nin7 hi).2.1).trans (h.2.1 i hi), fun q q1 q2 => (h2.2.2 q q1 (by omega)).trans (h.2.2 q q1 q2)⟩
theorem mP.q {μ μ1 : kc_M} {s s1 : Nat → Int32} {c : kc_C} (h : mP μ μ1 s s1) : mP μ (kc_u μ1 147 c) s s1 := ⟨(kc_gf (by decide)).trans h.1, h.2.1, fun q q1 q2 => (kc_gf (by omega)).trans (h.2.2 q q1 q2)⟩
theorem mP.p {μ μ1 : kc_M} {s s1 : Nat → Int32} {k : Nat} {v : Int32} (h : mP μ μ1 s s1) (hk : k = 23 ∨ k = 24) : mP μ (kc_u μ1 136 (ce_Md (upd s1 k v))) s (upd s1 k v) := ⟨kc_gs, fun i hi => (if_neg (by have := (nin7 hi).2.2; omega)).trans (h.2.1 i hi), fun q q1 q2 => (kc_gf q1).trans (h.2.2 q q1 q2)⟩
