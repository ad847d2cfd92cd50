/-! all changes applied, the class -/
/-- the changes from the i-th row on, whose values begin at a -/
def chL (kf tf ef : Nat → Int32) (vf : Nat → Int64) : List cg → Nat → Nat → Prop
  | [], _, _ => True
  | c :: cs, i, a => chR kf tf ef vf i a c ∧ chL kf tf ef vf cs (i + 1) (a + c.2.2.length)
def tot : List cg → Nat
  | [] => 0
  | c :: cs => c.2.2.length + tot cs
theorem tot_c (c : cg) (cs : List cg) : tot (c :: cs) = c.2.2.length + tot cs := rfl
theorem tot_a : ∀ (cs ds : List cg), tot (cs ++ ds) = tot cs + tot ds
  | [], ds => by show tot ds = 0 + tot ds; omega
  | c :: cs, ds => by
    show c.2.2.length + tot (cs ++ ds) = c.2.2.length + tot cs + tot ds
    rw [tot_a cs ds]; omega
theorem chL_a {kf tf ef : Nat → Int32} {vf : Nat → Int64} {c : cg} : ∀ (cs : List cg) (i a : Nat), chL kf tf ef vf cs i a → chR kf tf ef vf (i + cs.length) (a + tot cs) c → chL kf tf ef vf (cs ++ [c]) i a
  | [], i, a, _, h => ⟨h, trivial⟩
  | b :: cs, i, a, h, hc => by
    refine ⟨h.1, chL_a cs (i + 1) (a + b.2.2.length) h.2 ?_⟩
    rw [List.length_cons, tot_c] at hc
    rw [show i + 1 + cs.length = i + (cs.length + 1) by omega, show a + b.2.2.length + tot cs = a + (b.2.2.length + tot cs) by omega]
    exact hc
/-- the rows changed behind what cs uses -/
theorem chL_k {kf tf ef kf' tf' ef' : Nat → Int32} {vf vf' : Nat → Int64} : ∀ (cs : List cg) (i a : Nat), chL kf tf ef vf cs i a → (∀ j, j < i + cs.length → kf' j = kf j ∧ tf' j = tf j ∧ ef' j = ef j) → (∀ j, j < a + tot cs → vf' j = vf j) → chL kf' tf' ef' vf' cs i a
  | [], _, _, _, _, _ => trivial
  | c :: cs, i, a, h, h1, h2 => by
    rw [List.length_cons] at h1
    rw [tot_c] at h2
    refine ⟨?_, chL_k cs (i + 1) (a + c.2.2.length) h.2 (fun j hj => h1 j (by omega)) (fun j hj => h2 j (by omega))⟩
    obtain ⟨⟨a1, a2, a3, a4, a5, a6⟩, _⟩ := h
    obtain ⟨b1, b2, b3⟩ := h1 i (by omega)
    exact ⟨b1.trans a1, b2.trans a2, b3.trans a3, a4, fun j hj => by rw [h2 (a + j) (by omega)]; exact a5 j hj, a6⟩
set_option maxRecDepth 100000 in
set_option maxHeartbeats 4000000 in
theorem y_Ch_applyTo (d : Nat) {μ : kc_M} {vc : Nat} {kf tf ef : Nat → Int32} {vf : Nat → Int64} {cs : List cg} (hA : chA μ cs.length vc kf tf ef vf) (hcs : chL kf tf ef vf cs 0 0) (h12 : cs.length ≤ 12) {l : List tv} (hp : pa_at μ 133 134 135 30 l) (hg : gd l) (hl : l.length + tot cs ≤ 30) : kc_Y kt kC (d + 4) j_Ch_applyTo [.ref 122, .ref 133] μ (fun w μ' => w = some (.int (nI (apl cs l).1)) ∧ pa_at μ' 133 134 135 30 (apl cs l).2 ∧ (∀ q, q < 133 ∨ 135 < q → μ'.1 q = μ.1 q) ∧ gd (apl cs l).2 ∧ (apl cs l).1 < 64) := by
  refine ⟨Nat.le_of_ble_eq_true rfl, ?_⟩
  have loop : ∀ (ds : List cg) (i a : Nat) (jk : Option Value) (μ1 : kc_M) (l1 : List tv), i + ds.length = cs.length → chL kf tf ef vf ds i a → apl ds l1 = apl cs l → pa_at μ1 133 134 135 30 l1 → gd l1 → l1.length + tot ds ≤ 30 → (∀ q, q < 133 ∨ 135 < q → μ1.1 q = μ.1 q) → kc_X (kC j_Ch_applyTo) (kc_Y kt kC (d + 3)) (fun w μ' => w = some (.int (nI (apl cs l).1)) ∧ pa_at μ' 133 134 135 30 (apl cs l).2 ∧ (∀ q, q < 133 ∨ 135 < q → μ'.1 q = μ.1 q) ∧ gd (apl cs l).2 ∧ (apl cs l).1 < 64) 4 [some (.ref 122), some (.ref 133), some (.int (nI a)), some (.int (nI i)), jk] [] μ1 (0, 0) := by
    intro ds
    induction ds with
    | nil =>
      intro i a jk μ1 l1 hi hL hR hp1 hg1 hl1 hf
      have hi : i = cs.length := hi
      have k := chA_k hA (μ' := μ1) (fun q h1 h2 => hf q (by omega))
      refine x_il c_Ch_applyTo_4 rfl ?_
      refine x_al c_Ch_applyTo_5 rfl ?_
      refine x_get c_Ch_applyTo_6 (by first | rfl | exact k.1 | exact k.2.2.2.1 | exact k2.1 | exact k2.2.2.2.1) rfl ?_
      refine x_cmN_ge c_Ch_applyTo_9 (by omega) (by omega) (fun _ => ?_) (fun h => (by exfalso; omega))
      refine x_ci c_Ch_applyTo_42 ?_
      refine x_ri c_Ch_applyTo_43 ?_
      exact ⟨by rw [← hR]; rfl, by rw [← hR]; exact hp1, hf, by rw [← hR]; exact hg1, by rw [← hR]; exact Nat.le_of_ble_eq_true rfl⟩
    | cons c ds ih =>
      intro i a jk μ1 l1 hi hL hR hp1 hg1 hl1 hf
      rw [List.length_cons] at hi
      rw [tot_c] at hl1
      have k := chA_k hA (μ' := μ1) (fun q h1 h2 => hf q (by omega))
      have hok := ap1_ok (c := c) hg1 hL.1.2.2.2.2.2.1
      rw [apl_s] at hR
      refine x_il c_Ch_applyTo_4 rfl ?_
      refine x_al c_Ch_applyTo_5 rfl ?_
      refine x_get c_Ch_applyTo_6 (by first | rfl | exact k.1 | exact k.2.2.2.1 | exact k2.1 | exact k2.2.2.2.1) rfl ?_
      refine x_cmN_ge c_Ch_applyTo_9 (by omega) (by omega) (fun h => (by exfalso; omega)) (fun _ => ?_)
      refine x_al c_Ch_applyTo_12 rfl ?_
      refine x_il c_Ch_applyTo_13 rfl ?_
      refine x_il c_Ch_applyTo_14 rfl ?_
      refine x_al c_Ch_applyTo_15 rfl ?_
      refine x_cv3z _ c_Ch_applyTo_16 (by first | rfl | exact k.1 | exact k.2.2.2.1 | exact k2.1 | exact k2.2.2.2.1) (Nat.le_of_ble_eq_true rfl) (y_Ch_applyOne d k hL.1 (by omega) hp1 hg1 (by omega)) ?_
      rintro _ μ2 ⟨rfl, hp2, f2⟩
      have k2 := chA_k k (μ' := μ2) (fun q h1 h2 => f2 q (by omega))
      have h64 := hok.2.2
      show kc_X _ _ _ _ _ [.int (nI (ap1 c l1).1)] _ _
      refine x_is [_, _, _, _, _] c_Ch_applyTo_19 rfl ?_
      refine x_il c_Ch_applyTo_21 rfl ?_
      refine x_ifN_eq c_Ch_applyTo_23 (by omega) (fun h23 => ?_) (fun h23 => ?_)
      · refine x_al c_Ch_applyTo_29 rfl ?_
        refine x_get c_Ch_applyTo_30 (by first | rfl | exact k.1 | exact k.2.2.2.1 | exact k2.1 | exact k2.2.2.2.1) rfl ?_
        refine x_il c_Ch_applyTo_33 rfl ?_
        refine x_ialdE c_Ch_applyTo_34 (by first | rfl | exact k.1 | exact k.2.2.2.1 | exact k2.1 | exact k2.2.2.2.1) (by omega) (by omega) (hL.1.2.2.1) ?_
        refine x_is [_, _, _, _, _] c_Ch_applyTo_35 rfl ?_
        first | refine x_incN [_, _, _, _, _] c_Ch_applyTo_36 rfl rfl ?_ | refine x_inc [_, _, _, _, _] c_Ch_applyTo_36 rfl rfl ?_
        refine x_goto c_Ch_applyTo_39 ?_
        rw [if_pos h23] at hR
        exact ih (i + 1) _ _ μ2 _ (by omega) hL.2 hR hp2 hok.1 (by have := hok.2.1; omega) (fun q hq => (f2 q hq).trans (hf q hq))
      · refine x_il c_Ch_applyTo_26 rfl ?_
        refine x_ri c_Ch_applyTo_28 ?_
        rw [if_neg h23] at hR
        exact ⟨by rw [← hR], by rw [← hR]; exact hp2, fun q hq => (f2 q hq).trans (hf q hq), by rw [← hR]; exact hok.1, by rw [← hR]; exact hok.2.2⟩
  refine x_ci c_Ch_applyTo_0 ?_
  refine x_is [_, _, _, _, _] c_Ch_applyTo_1 rfl ?_
  refine x_ci c_Ch_applyTo_2 ?_
  refine x_is [_, _, _, _, _] c_Ch_applyTo_3 rfl ?_
  exact loop cs 0 0 _ μ l (by omega) hcs rfl hp hg hl (fun _ _ => rfl)
