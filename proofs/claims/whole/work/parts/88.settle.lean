/-! the reference settles pairs -/
/-- from b on the row holds the first m of f -/
def wrr {α : Type} (b m : Nat) (f q : Nat → α) : Nat → α := fun j => if b ≤ j ∧ j < b + m then f (j - b) else q j
theorem wrr_u {b m : Nat} {f q : Nat → Int32} : upd (wrr b m f q) (b + m) (f m) = wrr b (m + 1) f q := by
  funext j
  show (if j = b + m then f m else if b ≤ j ∧ j < b + m then f (j - b) else q j) = if b ≤ j ∧ j < b + (m + 1) then f (j - b) else q j
  by_cases hj : j = b + m
  · rw [if_pos hj, if_pos (by omega), show j - b = m by omega]
  · rw [if_neg hj]
    by_cases h2 : b ≤ j ∧ j < b + m
    · rw [if_pos h2, if_pos (by omega)]
    · rw [if_neg h2, if_neg (by omega)]
theorem wrr_uL {b m : Nat} {f q : Nat → Int64} : vp_updL (wrr b m f q) (b + m) (f m) = wrr b (m + 1) f q := by
  funext j
  show (if j = b + m then f m else if b ≤ j ∧ j < b + m then f (j - b) else q j) = if b ≤ j ∧ j < b + (m + 1) then f (j - b) else q j
  by_cases hj : j = b + m
  · rw [if_pos hj, if_pos (by omega), show j - b = m by omega]
  · rw [if_neg hj]
    by_cases h2 : b ≤ j ∧ j < b + m
    · rw [if_pos h2, if_pos (by omega)]
    · rw [if_neg h2, if_neg (by omega)]
theorem wrr_0 {α : Type} {b : Nat} {f q : Nat → α} : wrr b 0 f q = q := by
  funext j
  exact if_neg (by omega)
theorem wrr_i {α : Type} {b m k : Nat} {f q : Nat → α} (h : k < m) : wrr b m f q (b + k) = f k := by
  show (if b ≤ b + k ∧ b + k < b + m then f (b + k - b) else q (b + k)) = f k
  rw [if_pos (by omega), show b + k - b = k by omega]
theorem wrr_o {α : Type} {b m j : Nat} {f q : Nat → α} (h : j < b ∨ b + m ≤ j) : wrr b m f q j = q j := if_neg (by omega)
theorem ho_w {l : List tv} {f q : Nat → Int32} {g w : Nat → Int64} {b : Nat} (h : ho l f g) : ho l (fun k => wrr b l.length f q (b + k)) (fun k => wrr b l.length g w (b + k)) := by
  intro k hk
  dsimp only
  rw [wrr_i hk, wrr_i hk]
  exact h k hk
set_option maxRecDepth 100000 in
set_option maxHeartbeats 4000000 in
theorem y_Md_settle (d : Nat) {μ : kc_M} {s : Nat → Int32} {l : List tv} (h0 : μ.1 136 = some (ce_Md s)) (c0 : s 49 = nI l.length) {f : Nat → Int32} {g : Nat → Int64} (c1 : μ.1 159 = some (ce_I 32 f)) (c2 : μ.1 160 = some (ce_L 32 g)) {pn qt : Nat → Int32} {qv : Nat → Int64} (r6 : μ.1 142 = some (ce_I 16 pn)) (r7 : μ.1 143 = some (ce_I 96 qt)) (r8 : μ.1 144 = some (ce_L 96 qv)) {e : Nat} (he : e < 16) (hl : l.length ≤ 6) : kc_Y kt kC (d + 1) j_Md_settle [.ref 136, .int (nI e)] μ (fun v μ' => v = none ∧ μ'.1 142 = some (ce_I 16 (upd pn e (nI l.length))) ∧ μ'.1 143 = some (ce_I 96 (wrr (6 * e) l.length f qt)) ∧ μ'.1 144 = some (ce_L 96 (wrr (6 * e) l.length g qv)) ∧ ∀ q, q ≠ 142 → q ≠ 143 → q ≠ 144 → μ'.1 q = μ.1 q) := by
  refine ⟨Nat.le_of_ble_eq_true rfl, ?_⟩
  have loop : ∀ m k (μ1 : kc_M), l.length - k = m → k ≤ l.length → μ1.1 142 = some (ce_I 16 (upd pn e (nI l.length))) → μ1.1 143 = some (ce_I 96 (wrr (6 * e) k f qt)) → μ1.1 144 = some (ce_L 96 (wrr (6 * e) k g qv)) → (∀ q, q ≠ 142 → q ≠ 143 → q ≠ 144 → μ1.1 q = μ.1 q) → kc_X (kC j_Md_settle) (kc_Y kt kC d) (fun v μ' => v = none ∧ μ'.1 142 = some (ce_I 16 (upd pn e (nI l.length))) ∧ μ'.1 143 = some (ce_I 96 (wrr (6 * e) l.length f qt)) ∧ μ'.1 144 = some (ce_L 96 (wrr (6 * e) l.length g qv)) ∧ ∀ q, q ≠ 142 → q ≠ 143 → q ≠ 144 → μ'.1 q = μ.1 q) 12 [some (.ref 136), some (.int (nI e)), some (.int (nI k))] [] μ1 (0, 0) := by
    intro m
    induction m with
    | zero =>
      intro k μ1 hm hk k6 k7 k8 hf
      have k0 : μ1.1 136 = some (ce_Md s) := (hf 136 (by decide) (by decide) (by decide)).trans h0
      have k1 : μ1.1 159 = some (ce_I 32 f) := (hf 159 (by decide) (by decide) (by decide)).trans c1
      have k2 : μ1.1 160 = some (ce_L 32 g) := (hf 160 (by decide) (by decide) (by decide)).trans c2
      have hk : k = l.length := by omega
      subst hk
      refine x_il c_Md_settle_12 rfl ?_
      refine x_al c_Md_settle_13 rfl ?_
      refine x_getE c_Md_settle_14 (by first | rfl | exact k0 | exact k6 | exact k7 | exact k8 | exact k1 | exact k2) rfl (by first | exact c0 | rfl) ?_
      refine x_cmN_ge c_Md_settle_17 (by omega) (by omega) (fun _ => ?_) (fun h => (by exfalso; omega))
      refine x_ret c_Md_settle_60 ?_
      exact ⟨rfl, k6, k7, k8, hf⟩
    | succ m ih =>
      intro k μ1 hm hk k6 k7 k8 hf
      have k0 : μ1.1 136 = some (ce_Md s) := (hf 136 (by decide) (by decide) (by decide)).trans h0
      have k1 : μ1.1 159 = some (ce_I 32 f) := (hf 159 (by decide) (by decide) (by decide)).trans c1
      have k2 : μ1.1 160 = some (ce_L 32 g) := (hf 160 (by decide) (by decide) (by decide)).trans c2
      refine x_il c_Md_settle_12 rfl ?_
      refine x_al c_Md_settle_13 rfl ?_
      refine x_getE c_Md_settle_14 (by first | rfl | exact k0 | exact k6 | exact k7 | exact k8 | exact k1 | exact k2) rfl (by first | exact c0 | rfl) ?_
      refine x_cmN_ge c_Md_settle_17 (by omega) (by omega) (fun h => (by exfalso; omega)) (fun _ => ?_)
      refine x_al c_Md_settle_20 rfl ?_
      refine x_get c_Md_settle_21 (by first | rfl | exact k0 | exact k6 | exact k7 | exact k8 | exact k1 | exact k2) rfl ?_
      refine x_ci c_Md_settle_24 ?_
      refine x_il c_Md_settle_26 rfl ?_
      first | refine x_imulN c_Md_settle_27 ?_ | refine x_imul c_Md_settle_27 ?_
      refine x_il c_Md_settle_28 rfl ?_
      first | refine x_iaddN c_Md_settle_29 ?_ | refine x_iadd c_Md_settle_29 ?_
      refine x_al c_Md_settle_30 rfl ?_
      refine x_get c_Md_settle_31 (by first | rfl | exact k0 | exact k6 | exact k7 | exact k8 | exact k1 | exact k2) rfl ?_
      refine x_il c_Md_settle_34 rfl ?_
      refine x_ialdN c_Md_settle_35 (by first | rfl | exact k0 | exact k6 | exact k7 | exact k8 | exact k1 | exact k2) (by omega) (by omega) ?_
      refine x_iastN c_Md_settle_36 (by first | rfl | exact k0 | exact k6 | exact k7 | exact k8 | exact k1 | exact k2) (by omega) (by omega) ?_
      refine x_al c_Md_settle_37 rfl ?_
      refine x_get c_Md_settle_38 (by first | rfl | exact k0 | exact k6 | exact k7 | exact k8 | exact k1 | exact k2) rfl ?_
      refine x_ci c_Md_settle_41 ?_
      refine x_il c_Md_settle_43 rfl ?_
      first | refine x_imulN c_Md_settle_44 ?_ | refine x_imul c_Md_settle_44 ?_
      refine x_il c_Md_settle_45 rfl ?_
      first | refine x_iaddN c_Md_settle_46 ?_ | refine x_iadd c_Md_settle_46 ?_
      refine x_al c_Md_settle_47 rfl ?_
      refine x_get c_Md_settle_48 (by first | rfl | exact k0 | exact k6 | exact k7 | exact k8 | exact k1 | exact k2) rfl ?_
      refine x_il c_Md_settle_51 rfl ?_
      refine x_laldN c_Md_settle_52 (by first | rfl | exact k0 | exact k6 | exact k7 | exact k8 | exact k1 | exact k2) (by omega) (by omega) ?_
      refine x_lastN c_Md_settle_53 (by first | rfl | exact k0 | exact k6 | exact k7 | exact k8 | exact k1 | exact k2) (by omega) (by omega) ?_
      first | refine x_incN [_, _, _] c_Md_settle_54 rfl rfl ?_ | refine x_inc [_, _, _] c_Md_settle_54 rfl rfl ?_
      refine x_goto c_Md_settle_57 ?_
      exact ih (k + 1) _ (by omega) (by omega) k6 (congrArg (fun f => some (ce_I 96 f)) (wrr_u)) (congrArg (fun f => some (ce_L 96 f)) (wrr_uL)) (fun q q1 q2 q3 => (kc_gf q3).trans ((kc_gf q2).trans (hf q q1 q2 q3)))
  refine x_al c_Md_settle_0 rfl ?_
  refine x_get c_Md_settle_1 (by first | rfl | exact h0 | exact r6) rfl ?_
  refine x_il c_Md_settle_4 rfl ?_
  refine x_al c_Md_settle_5 rfl ?_
  refine x_getE c_Md_settle_6 (by first | rfl | exact h0 | exact r6) rfl (by first | exact c0 | rfl) ?_
  refine x_iastN c_Md_settle_9 (by first | rfl | exact h0 | exact r6) (by omega) (by omega) ?_
  refine x_ci c_Md_settle_10 ?_
  refine x_is [_, _, _] c_Md_settle_11 rfl ?_
  exact loop _ 0 _ rfl (by omega) rfl (by rw [wrr_0]; exact r7) (by rw [wrr_0]; exact r8) (fun q q1 q2 q3 => kc_gf q1)
