/-! deleting, the reference -/
/-- from a to b the row holds what stood w places behind -/
def sh {α : Type} (w a b : Nat) (f : Nat → α) : Nat → α := fun j => if a ≤ j ∧ j < b then f (j + w) else f j
theorem sh_u {w a b : Nat} {f : Nat → Int32} (h : a ≤ b) : upd (sh w a b f) b (f (b + w)) = sh w a (b + 1) f := by
  funext j
  show (if j = b then f (b + w) else if a ≤ j ∧ j < b then f (j + w) else f j) = if a ≤ j ∧ j < b + 1 then f (j + w) else f j
  by_cases hj : j = b
  · rw [if_pos hj, if_pos (by omega), hj]
  · rw [if_neg hj]
    by_cases h2 : a ≤ j ∧ j < b
    · rw [if_pos h2, if_pos (by omega)]
    · rw [if_neg h2, if_neg (by omega)]
theorem sh_uL {w a b : Nat} {f : Nat → Int64} (h : a ≤ b) : vp_updL (sh w a b f) b (f (b + w)) = sh w a (b + 1) f := by
  funext j
  show (if j = b then f (b + w) else if a ≤ j ∧ j < b then f (j + w) else f j) = if a ≤ j ∧ j < b + 1 then f (j + w) else f j
  by_cases hj : j = b
  · rw [if_pos hj, if_pos (by omega), hj]
  · rw [if_neg hj]
    by_cases h2 : a ≤ j ∧ j < b
    · rw [if_pos h2, if_pos (by omega)]
    · rw [if_neg h2, if_neg (by omega)]
theorem sh_o {α : Type} {w a b j : Nat} {f : Nat → α} (h : ¬ (a ≤ j ∧ j < b)) : sh w a b f j = f j := if_neg h
theorem sh_i {α : Type} {w a b j : Nat} {f : Nat → α} (h : a ≤ j ∧ j < b) : sh w a b f j = f (j + w) := if_pos h
theorem sh_0 {α : Type} {w a : Nat} {f : Nat → α} : sh w a a f = f := by
  funext j
  exact if_neg (by omega)
theorem ud_hc {l t : List tv} : ud l t false = decide (lv l t = some 1) := by
  unfold ud
  cases lv l t with
  | none => rfl
  | some m =>
    dsimp only
    by_cases h : m = 1
    · subst h; rfl
    · rw [decide_eq_false h, decide_eq_false (fun q : some m = some 1 => h (Option.some.inj q))]; simp
theorem me_rot {n : Nat} {pa pt : Nat → Int32} {pv : Nat → Int64} {pn qt : Nat → Int32} {qv : Nat → Int64} {nm pr : Nat → List tv} (h : me_at n pa pt pv pn qt qv nm pr) {e : Nat} (he : e < n) (hw : ∀ e, e < n → (nm e).length ≤ 4 ∧ (pr e).length ≤ 6) : me_at (n - 1) (sh 1 e (n - 1) pa) (sh 4 (4 * e) (4 * (n - 1)) pt) (sh 4 (4 * e) (4 * (n - 1)) pv) (sh 1 e (n - 1) pn) (sh 6 (6 * e) (6 * (n - 1)) qt) (sh 6 (6 * e) (6 * (n - 1)) qv) (fun i => nm (rot n e i)) (fun i => pr (rot n e i)) := by
  intro i hi
  dsimp only
  by_cases hie : i < e
  · have hr : rot n e i = i := by unfold rot; rw [if_pos hie]
    have hm := h i (by omega)
    have hw := hw i (by omega)
    rw [hr]
    refine ⟨(sh_o (by omega)).trans hm.1, fun k hk => ?_, (sh_o (by omega)).trans hm.2.2.1, fun k hk => ?_⟩
    · rw [hm.2.1 k hk]; dsimp only; rw [sh_o (by omega), sh_o (by omega)]
    · rw [hm.2.2.2 k hk]; dsimp only; rw [sh_o (by omega), sh_o (by omega)]
  · have hr : rot n e i = i + 1 := by unfold rot; rw [if_neg hie, if_pos hi]
    have hm := h (i + 1) (by omega)
    have hw := hw (i + 1) (by omega)
    rw [hr]
    refine ⟨(sh_i (by omega)).trans hm.1, fun k hk => ?_, (sh_i (by omega)).trans hm.2.2.1, fun k hk => ?_⟩
    · rw [hm.2.1 k hk]; dsimp only; rw [sh_i (by omega), sh_i (by omega), show 4 * (i + 1) + k = 4 * i + k + 4 by omega]
    · rw [hm.2.2.2 k hk]; dsimp only; rw [sh_i (by omega), sh_i (by omega), show 6 * (i + 1) + k = 6 * i + k + 6 by omega]
set_option maxRecDepth 100000 in
set_option maxHeartbeats 4000000 in
theorem y_Md_remove (d : Nat) {μ : kc_M} {s : Nat → Int32} {tb : Nat → Nat} {ou : Nat → Int32} {n : Nat} {nm pr : Nat → List tv} (h0 : μ.1 136 = some (ce_Md s)) (hE : mE μ tb ou n nm pr) (h6 : s 6 = nI n) {l : List tv} (hN : mN μ s l) (hl : 1 ≤ l.length) : kc_Y kt kC (d + 3) j_Md_remove [.ref 136] μ (fun v μ' => v = some (.int (nI (dlC true n nm (some l)).1)) ∧ ∃ s', μ'.1 136 = some (ce_Md s') ∧ (∀ i, i ≠ 6 → s' i = s i) ∧ s' 6 = nI (dn n (dlC true n nm (some l)).2) ∧ mE μ' tb ou (dn n (dlC true n nm (some l)).2) (fun i => nm (dr n (dlC true n nm (some l)).2 i)) (fun i => pr (dr n (dlC true n nm (some l)).2 i)) ∧ ∀ q, q ≠ 136 → q < 139 ∨ 144 < q → μ'.1 q = μ.1 q) := by
  refine ⟨Nat.le_of_ble_eq_true rfl, ?_⟩
  obtain ⟨pa, pt, pv, pn, qt, qv, ⟨r1, r2, r3, r4, r5, r6, r7, r8⟩, m2, hn16, hw⟩ := id hE
  have hll : ¬ l.length < 1 := by omega
  cases hfd : fd nm l n 0 with
  | none =>
    have hD : dlC true n nm (some l) = (32, none) := by unfold dlC; rw [if_pos rfl]; dsimp only; rw [if_neg hll, hfd]
    refine x_al c_Md_remove_0 rfl ?_
    refine x_ci c_Md_remove_1 ?_
    refine x_cv1z _ c_Md_remove_2 (by first | rfl | exact h0) (Nat.le_of_ble_eq_true rfl) (y_Md_find d h0 hE h6 hN (k := 0) (by omega)) ?_
    rintro _ μx ⟨rfl, hμx⟩
    have hμx := hμx.symm
    subst hμx
    show kc_X _ _ _ _ _ [.int (oI (fd nm l n 0))] _ _
    rw [hfd]
    show kc_X _ _ _ _ _ [.int (-1)] _ _
    refine x_is [_, _, _, _] c_Md_remove_5 rfl ?_
    refine x_il c_Md_remove_6 rfl ?_
    refine x_if_ge c_Md_remove_7 (fun h => absurd h (by decide)) (fun _ => ?_)
    refine x_ci c_Md_remove_10 ?_
    refine x_ri c_Md_remove_12 ?_
    exact ⟨by rw [hD], s, h0, fun _ _ => rfl, by rw [hD]; exact h6, by rw [hD]; exact hE, fun _ _ _ => rfl⟩
  | some e =>
    have hfi := fd_in hfd
    rw [Nat.zero_add] at hfi
    obtain ⟨_, he, hnl⟩ := hfi
    have fin : hc nm l n 0 = false → ∀ (j1 j2 : Option Value), kc_X (kC j_Md_remove) (kc_Y kt kC (d + 2)) (fun v μ' => v = some (.int (nI (dlC true n nm (some l)).1)) ∧ ∃ s', μ'.1 136 = some (ce_Md s') ∧ (∀ i, i ≠ 6 → s' i = s i) ∧ s' 6 = nI (dn n (dlC true n nm (some l)).2) ∧ mE μ' tb ou (dn n (dlC true n nm (some l)).2) (fun i => nm (dr n (dlC true n nm (some l)).2 i)) (fun i => pr (dr n (dlC true n nm (some l)).2 i)) ∧ ∀ q, q ≠ 136 → q < 139 ∨ 144 < q → μ'.1 q = μ.1 q) 42 [some (.ref 136), some (.int (nI e)), j1, j2] [] μ (0, 0) := by
      intro hhc j1 j2
      have hD : dlC true n nm (some l) = (0, some e) := by unfold dlC; rw [if_pos rfl]; dsimp only; rw [if_neg hll, hfd]; dsimp only; rw [if_neg (by rw [hhc]; decide)]
      have loop : ∀ m dd (μ1 : kc_M) (jk : Option Value), n - 1 - dd = m → e ≤ dd → dd ≤ n - 1 → μ1.1 136 = some (ce_Md (upd s 6 (nI (n - 1)))) → μ1.1 139 = some (ce_I 16 (sh 1 e (dd) pa)) → μ1.1 140 = some (ce_I 64 (sh 4 (4 * e) (4 * dd) pt)) → μ1.1 141 = some (ce_L 64 (sh 4 (4 * e) (4 * dd) pv)) → μ1.1 142 = some (ce_I 16 (sh 1 e (dd) pn)) → μ1.1 143 = some (ce_I 96 (sh 6 (6 * e) (6 * dd) qt)) → μ1.1 144 = some (ce_L 96 (sh 6 (6 * e) (6 * dd) qv)) → (∀ q, q ≠ 136 → q < 139 ∨ 144 < q → μ1.1 q = μ.1 q) → kc_X (kC j_Md_remove) (kc_Y kt kC (d + 2)) (fun v μ' => v = some (.int (nI (dlC true n nm (some l)).1)) ∧ ∃ s', μ'.1 136 = some (ce_Md s') ∧ (∀ i, i ≠ 6 → s' i = s i) ∧ s' 6 = nI (dn n (dlC true n nm (some l)).2) ∧ mE μ' tb ou (dn n (dlC true n nm (some l)).2) (fun i => nm (dr n (dlC true n nm (some l)).2 i)) (fun i => pr (dr n (dlC true n nm (some l)).2 i)) ∧ ∀ q, q ≠ 136 → q < 139 ∨ 144 < q → μ'.1 q = μ.1 q) 54 [some (.ref 136), some (.int (nI e)), some (.int (nI dd)), jk] [] μ1 (0, 0) := by
        intro m
        induction m with
        | zero =>
          intro dd μ1 jk hm hed hdn q0 c3 c4 c5 c6 c7 c8 hf
          refine x_il c_Md_remove_54 rfl ?_
          refine x_al c_Md_remove_55 rfl ?_
          refine x_getE c_Md_remove_56 (by first | rfl | exact q0 | exact c3 | exact c4 | exact c5 | exact c6 | exact c7 | exact c8) rfl (by first | exact (show upd s 6 (nI (n - 1)) 6 = nI (n - 1) from rfl) | rfl) ?_
          refine x_cmN_ge c_Md_remove_59 (by omega) (by omega) (fun _ => ?_) (fun h => (by exfalso; omega))
          refine x_ci c_Md_remove_217 ?_
          refine x_ri c_Md_remove_218 ?_
          have hdd : dd = n - 1 := by omega
          subst hdd
          exact ⟨by rw [hD], _, q0, fun i hi => if_neg hi, by rw [hD]; rfl, by rw [hD]; exact ⟨_, _, _, _, _, _, ⟨(hf 137 (by decide) (by decide)).trans r1, (hf 138 (by decide) (by decide)).trans r2, c3, c4, c5, c6, c7, c8⟩, me_rot m2 he hw, (by show n - 1 ≤ 16; omega), fun i hi => hw _ (by have hi : i < n - 1 := hi; show rot n e i < n; unfold rot; split <;> omega)⟩, hf⟩
        | succ m ihm =>
          intro dd μ1 jk hm hed hdn q0 c3 c4 c5 c6 c7 c8 hf
          have cont : ∀ (μ1 : kc_M) (jk : Option Value), μ1.1 136 = some (ce_Md (upd s 6 (nI (n - 1)))) → μ1.1 139 = some (ce_I 16 (sh 1 e (dd + 1) pa)) → μ1.1 140 = some (ce_I 64 (sh 4 (4 * e) (4 * (dd + 1)) pt)) → μ1.1 141 = some (ce_L 64 (sh 4 (4 * e) (4 * (dd + 1)) pv)) → μ1.1 142 = some (ce_I 16 (sh 1 e (dd + 1) pn)) → μ1.1 143 = some (ce_I 96 (sh 6 (6 * e) (6 * (dd + 1)) qt)) → μ1.1 144 = some (ce_L 96 (sh 6 (6 * e) (6 * (dd + 1)) qv)) → (∀ q, q ≠ 136 → q < 139 ∨ 144 < q → μ1.1 q = μ.1 q) → kc_X (kC j_Md_remove) (kc_Y kt kC (d + 2)) (fun v μ' => v = some (.int (nI (dlC true n nm (some l)).1)) ∧ ∃ s', μ'.1 136 = some (ce_Md s') ∧ (∀ i, i ≠ 6 → s' i = s i) ∧ s' 6 = nI (dn n (dlC true n nm (some l)).2) ∧ mE μ' tb ou (dn n (dlC true n nm (some l)).2) (fun i => nm (dr n (dlC true n nm (some l)).2 i)) (fun i => pr (dr n (dlC true n nm (some l)).2 i)) ∧ ∀ q, q ≠ 136 → q < 139 ∨ 144 < q → μ'.1 q = μ.1 q) 54 [some (.ref 136), some (.int (nI e)), some (.int (nI (dd + 1))), jk] [] μ1 (0, 0) := fun μ1 jk => ihm (dd + 1) μ1 jk (by omega) (by omega) (by omega)
          clear ihm
          have in6 : ∀ m k (μ1 : kc_M), 6 - k = m → k ≤ 6 → μ1.1 136 = some (ce_Md (upd s 6 (nI (n - 1)))) → μ1.1 139 = some (ce_I 16 (sh 1 e (dd + 1) pa)) → μ1.1 140 = some (ce_I 64 (sh 4 (4 * e) (4 * (dd + 1)) pt)) → μ1.1 141 = some (ce_L 64 (sh 4 (4 * e) (4 * (dd + 1)) pv)) → μ1.1 142 = some (ce_I 16 (sh 1 e (dd + 1) pn)) → μ1.1 143 = some (ce_I 96 (sh 6 (6 * e) (6 * dd + k) qt)) → μ1.1 144 = some (ce_L 96 (sh 6 (6 * e) (6 * dd + k) qv)) → (∀ q, q ≠ 136 → q < 139 ∨ 144 < q → μ1.1 q = μ.1 q) → kc_X (kC j_Md_remove) (kc_Y kt kC (d + 2)) (fun v μ' => v = some (.int (nI (dlC true n nm (some l)).1)) ∧ ∃ s', μ'.1 136 = some (ce_Md s') ∧ (∀ i, i ≠ 6 → s' i = s i) ∧ s' 6 = nI (dn n (dlC true n nm (some l)).2) ∧ mE μ' tb ou (dn n (dlC true n nm (some l)).2) (fun i => nm (dr n (dlC true n nm (some l)).2 i)) (fun i => pr (dr n (dlC true n nm (some l)).2 i)) ∧ ∀ q, q ≠ 136 → q < 139 ∨ 144 < q → μ'.1 q = μ.1 q) 149 [some (.ref 136), some (.int (nI e)), some (.int (nI dd)), some (.int (nI k))] [] μ1 (0, 0) := by
            intro m
            induction m with
            | zero =>
              intro k μ1 hm hk q0 c3 c4 c5 c6 c7 c8 hf
              refine x_il c_Md_remove_149 rfl ?_
              refine x_ci c_Md_remove_150 ?_
              refine x_cmN_ge c_Md_remove_152 (by omega) (by omega) (fun _ => ?_) (fun h => (by exfalso; omega))
              first | refine x_incN [_, _, _, _] c_Md_remove_211 rfl rfl ?_ | refine x_inc [_, _, _, _] c_Md_remove_211 rfl rfl ?_
              refine x_goto c_Md_remove_214 ?_
              exact cont μ1 _ q0 c3 c4 c5 c6 (by rw [show 6 * (dd + 1) = 6 * dd + k by omega]; exact c7) (by rw [show 6 * (dd + 1) = 6 * dd + k by omega]; exact c8) hf
            | succ m ih =>
              intro k μ1 hm hk q0 c3 c4 c5 c6 c7 c8 hf
              refine x_il c_Md_remove_149 rfl ?_
              refine x_ci c_Md_remove_150 ?_
              refine x_cmN_ge c_Md_remove_152 (by omega) (by omega) (fun h => (by exfalso; omega)) (fun _ => ?_)
              refine x_al c_Md_remove_155 rfl ?_
              refine x_get c_Md_remove_156 (by first | rfl | exact q0 | exact c3 | exact c4 | exact c5 | exact c6 | exact c7 | exact c8) rfl ?_
              refine x_ci c_Md_remove_159 ?_
              refine x_il c_Md_remove_161 rfl ?_
              first | refine x_imulN c_Md_remove_162 ?_ | refine x_imul c_Md_remove_162 ?_
              refine x_il c_Md_remove_163 rfl ?_
              first | refine x_iaddN c_Md_remove_164 ?_ | refine x_iadd c_Md_remove_164 ?_
              refine x_al c_Md_remove_165 rfl ?_
              refine x_get c_Md_remove_166 (by first | rfl | exact q0 | exact c3 | exact c4 | exact c5 | exact c6 | exact c7 | exact c8) rfl ?_
              refine x_ci c_Md_remove_169 ?_
              refine x_il c_Md_remove_171 rfl ?_
              first | refine x_imulN c_Md_remove_172 ?_ | refine x_imul c_Md_remove_172 ?_
              refine x_ci c_Md_remove_173 ?_
              first | refine x_iaddN c_Md_remove_175 ?_ | refine x_iadd c_Md_remove_175 ?_
              refine x_il c_Md_remove_176 rfl ?_
              first | refine x_iaddN c_Md_remove_177 ?_ | refine x_iadd c_Md_remove_177 ?_
              refine x_ialdE c_Md_remove_178 (by first | rfl | exact q0 | exact c3 | exact c4 | exact c5 | exact c6 | exact c7 | exact c8) (by omega) (by omega) ((sh_o (by omega)).trans (congrArg qt (by omega : 6 * dd + 6 + k = 6 * dd + k + 6))) ?_
              refine x_iastN c_Md_remove_179 (by first | rfl | exact q0 | exact c3 | exact c4 | exact c5 | exact c6 | exact c7 | exact c8) (by omega) (by omega) ?_
              refine x_al c_Md_remove_180 rfl ?_
              refine x_get c_Md_remove_181 (by first | rfl | exact q0 | exact c3 | exact c4 | exact c5 | exact c6 | exact c7 | exact c8) rfl ?_
              refine x_ci c_Md_remove_184 ?_
              refine x_il c_Md_remove_186 rfl ?_
              first | refine x_imulN c_Md_remove_187 ?_ | refine x_imul c_Md_remove_187 ?_
              refine x_il c_Md_remove_188 rfl ?_
              first | refine x_iaddN c_Md_remove_189 ?_ | refine x_iadd c_Md_remove_189 ?_
              refine x_al c_Md_remove_190 rfl ?_
              refine x_get c_Md_remove_191 (by first | rfl | exact q0 | exact c3 | exact c4 | exact c5 | exact c6 | exact c7 | exact c8) rfl ?_
              refine x_ci c_Md_remove_194 ?_
              refine x_il c_Md_remove_196 rfl ?_
              first | refine x_imulN c_Md_remove_197 ?_ | refine x_imul c_Md_remove_197 ?_
              refine x_ci c_Md_remove_198 ?_
              first | refine x_iaddN c_Md_remove_200 ?_ | refine x_iadd c_Md_remove_200 ?_
              refine x_il c_Md_remove_201 rfl ?_
              first | refine x_iaddN c_Md_remove_202 ?_ | refine x_iadd c_Md_remove_202 ?_
              refine x_laldE c_Md_remove_203 (by first | rfl | exact q0 | exact c3 | exact c4 | exact c5 | exact c6 | exact c7 | exact c8) (by omega) (by omega) ((sh_o (by omega)).trans (congrArg qv (by omega : 6 * dd + 6 + k = 6 * dd + k + 6))) ?_
              refine x_lastN c_Md_remove_204 (by first | rfl | exact q0 | exact c3 | exact c4 | exact c5 | exact c6 | exact c7 | exact c8) (by omega) (by omega) ?_
              first | refine x_incN [_, _, _, _] c_Md_remove_205 rfl rfl ?_ | refine x_inc [_, _, _, _] c_Md_remove_205 rfl rfl ?_
              refine x_goto c_Md_remove_208 ?_
              exact ih (k + 1) _ (by omega) (by omega) q0 c3 c4 c5 c6 (congrArg (fun f => some (ce_I 96 f)) (sh_u (w := 6) (by omega : 6 * e ≤ 6 * dd + k))) (congrArg (fun f => some (ce_L 96 f)) (sh_uL (w := 6) (by omega : 6 * e ≤ 6 * dd + k))) (fun q q1 q2 => (kc_gf (by omega)).trans ((kc_gf (by omega)).trans (hf q q1 q2)))
          have in4 : ∀ m k (μ1 : kc_M), 4 - k = m → k ≤ 4 → μ1.1 136 = some (ce_Md (upd s 6 (nI (n - 1)))) → μ1.1 139 = some (ce_I 16 (sh 1 e (dd + 1) pa)) → μ1.1 140 = some (ce_I 64 (sh 4 (4 * e) (4 * dd + k) pt)) → μ1.1 141 = some (ce_L 64 (sh 4 (4 * e) (4 * dd + k) pv)) → μ1.1 142 = some (ce_I 16 (sh 1 e (dd + 1) pn)) → μ1.1 143 = some (ce_I 96 (sh 6 (6 * e) (6 * dd) qt)) → μ1.1 144 = some (ce_L 96 (sh 6 (6 * e) (6 * dd) qv)) → (∀ q, q ≠ 136 → q < 139 ∨ 144 < q → μ1.1 q = μ.1 q) → kc_X (kC j_Md_remove) (kc_Y kt kC (d + 2)) (fun v μ' => v = some (.int (nI (dlC true n nm (some l)).1)) ∧ ∃ s', μ'.1 136 = some (ce_Md s') ∧ (∀ i, i ≠ 6 → s' i = s i) ∧ s' 6 = nI (dn n (dlC true n nm (some l)).2) ∧ mE μ' tb ou (dn n (dlC true n nm (some l)).2) (fun i => nm (dr n (dlC true n nm (some l)).2 i)) (fun i => pr (dr n (dlC true n nm (some l)).2 i)) ∧ ∀ q, q ≠ 136 → q < 139 ∨ 144 < q → μ'.1 q = μ.1 q) 92 [some (.ref 136), some (.int (nI e)), some (.int (nI dd)), some (.int (nI k))] [] μ1 (0, 0) := by
            intro m
            induction m with
            | zero =>
              intro k μ1 hm hk q0 c3 c4 c5 c6 c7 c8 hf
              refine x_il c_Md_remove_92 rfl ?_
              refine x_ci c_Md_remove_93 ?_
              refine x_cmN_ge c_Md_remove_94 (by omega) (by omega) (fun _ => ?_) (fun h => (by exfalso; omega))
              refine x_ci c_Md_remove_147 ?_
              refine x_is [_, _, _, _] c_Md_remove_148 rfl ?_
              exact in6 6 0 μ1 rfl (by omega) q0 c3 (by rw [show 4 * (dd + 1) = 4 * dd + k by omega]; exact c4) (by rw [show 4 * (dd + 1) = 4 * dd + k by omega]; exact c5) c6 c7 c8 hf
            | succ m ih =>
              intro k μ1 hm hk q0 c3 c4 c5 c6 c7 c8 hf
              refine x_il c_Md_remove_92 rfl ?_
              refine x_ci c_Md_remove_93 ?_
              refine x_cmN_ge c_Md_remove_94 (by omega) (by omega) (fun h => (by exfalso; omega)) (fun _ => ?_)
              refine x_al c_Md_remove_97 rfl ?_
              refine x_get c_Md_remove_98 (by first | rfl | exact q0 | exact c3 | exact c4 | exact c5 | exact c6 | exact c7 | exact c8) rfl ?_
              refine x_ci c_Md_remove_101 ?_
              refine x_il c_Md_remove_102 rfl ?_
              first | refine x_imulN c_Md_remove_103 ?_ | refine x_imul c_Md_remove_103 ?_
              refine x_il c_Md_remove_104 rfl ?_
              first | refine x_iaddN c_Md_remove_105 ?_ | refine x_iadd c_Md_remove_105 ?_
              refine x_al c_Md_remove_106 rfl ?_
              refine x_get c_Md_remove_107 (by first | rfl | exact q0 | exact c3 | exact c4 | exact c5 | exact c6 | exact c7 | exact c8) rfl ?_
              refine x_ci c_Md_remove_110 ?_
              refine x_il c_Md_remove_111 rfl ?_
              first | refine x_imulN c_Md_remove_112 ?_ | refine x_imul c_Md_remove_112 ?_
              refine x_ci c_Md_remove_113 ?_
              first | refine x_iaddN c_Md_remove_114 ?_ | refine x_iadd c_Md_remove_114 ?_
              refine x_il c_Md_remove_115 rfl ?_
              first | refine x_iaddN c_Md_remove_116 ?_ | refine x_iadd c_Md_remove_116 ?_
              refine x_ialdE c_Md_remove_117 (by first | rfl | exact q0 | exact c3 | exact c4 | exact c5 | exact c6 | exact c7 | exact c8) (by omega) (by omega) ((sh_o (by omega)).trans (congrArg pt (by omega : 4 * dd + 4 + k = 4 * dd + k + 4))) ?_
              refine x_iastN c_Md_remove_118 (by first | rfl | exact q0 | exact c3 | exact c4 | exact c5 | exact c6 | exact c7 | exact c8) (by omega) (by omega) ?_
              refine x_al c_Md_remove_119 rfl ?_
              refine x_get c_Md_remove_120 (by first | rfl | exact q0 | exact c3 | exact c4 | exact c5 | exact c6 | exact c7 | exact c8) rfl ?_
              refine x_ci c_Md_remove_123 ?_
              refine x_il c_Md_remove_124 rfl ?_
              first | refine x_imulN c_Md_remove_125 ?_ | refine x_imul c_Md_remove_125 ?_
              refine x_il c_Md_remove_126 rfl ?_
              first | refine x_iaddN c_Md_remove_127 ?_ | refine x_iadd c_Md_remove_127 ?_
              refine x_al c_Md_remove_128 rfl ?_
              refine x_get c_Md_remove_129 (by first | rfl | exact q0 | exact c3 | exact c4 | exact c5 | exact c6 | exact c7 | exact c8) rfl ?_
              refine x_ci c_Md_remove_132 ?_
              refine x_il c_Md_remove_133 rfl ?_
              first | refine x_imulN c_Md_remove_134 ?_ | refine x_imul c_Md_remove_134 ?_
              refine x_ci c_Md_remove_135 ?_
              first | refine x_iaddN c_Md_remove_136 ?_ | refine x_iadd c_Md_remove_136 ?_
              refine x_il c_Md_remove_137 rfl ?_
              first | refine x_iaddN c_Md_remove_138 ?_ | refine x_iadd c_Md_remove_138 ?_
              refine x_laldE c_Md_remove_139 (by first | rfl | exact q0 | exact c3 | exact c4 | exact c5 | exact c6 | exact c7 | exact c8) (by omega) (by omega) ((sh_o (by omega)).trans (congrArg pv (by omega : 4 * dd + 4 + k = 4 * dd + k + 4))) ?_
              refine x_lastN c_Md_remove_140 (by first | rfl | exact q0 | exact c3 | exact c4 | exact c5 | exact c6 | exact c7 | exact c8) (by omega) (by omega) ?_
              first | refine x_incN [_, _, _, _] c_Md_remove_141 rfl rfl ?_ | refine x_inc [_, _, _, _] c_Md_remove_141 rfl rfl ?_
              refine x_goto c_Md_remove_144 ?_
              exact ih (k + 1) _ (by omega) (by omega) q0 c3 (congrArg (fun f => some (ce_I 64 f)) (sh_u (w := 4) (by omega : 4 * e ≤ 4 * dd + k))) (congrArg (fun f => some (ce_L 64 f)) (sh_uL (w := 4) (by omega : 4 * e ≤ 4 * dd + k))) c6 c7 c8 (fun q q1 q2 => (kc_gf (by omega)).trans ((kc_gf (by omega)).trans (hf q q1 q2)))
          refine x_il c_Md_remove_54 rfl ?_
          refine x_al c_Md_remove_55 rfl ?_
          refine x_getE c_Md_remove_56 (by first | rfl | exact q0 | exact c3 | exact c4 | exact c5 | exact c6 | exact c7 | exact c8) rfl (by first | exact (show upd s 6 (nI (n - 1)) 6 = nI (n - 1) from rfl) | rfl) ?_
          refine x_cmN_ge c_Md_remove_59 (by omega) (by omega) (fun h => (by exfalso; omega)) (fun _ => ?_)
          refine x_al c_Md_remove_62 rfl ?_
          refine x_get c_Md_remove_63 (by first | rfl | exact q0 | exact c3 | exact c4 | exact c5 | exact c6 | exact c7 | exact c8) rfl ?_
          refine x_il c_Md_remove_66 rfl ?_
          refine x_al c_Md_remove_67 rfl ?_
          refine x_get c_Md_remove_68 (by first | rfl | exact q0 | exact c3 | exact c4 | exact c5 | exact c6 | exact c7 | exact c8) rfl ?_
          refine x_il c_Md_remove_71 rfl ?_
          refine x_ci c_Md_remove_72 ?_
          first | refine x_iaddN c_Md_remove_73 ?_ | refine x_iadd c_Md_remove_73 ?_
          refine x_ialdE c_Md_remove_74 (by first | rfl | exact q0 | exact c3 | exact c4 | exact c5 | exact c6 | exact c7 | exact c8) (by omega) (by omega) ((sh_o (by omega))) ?_
          refine x_iastN c_Md_remove_75 (by first | rfl | exact q0 | exact c3 | exact c4 | exact c5 | exact c6 | exact c7 | exact c8) (by omega) (by omega) ?_
          refine x_al c_Md_remove_76 rfl ?_
          refine x_get c_Md_remove_77 (by first | rfl | exact q0 | exact c3 | exact c4 | exact c5 | exact c6 | exact c7 | exact c8) rfl ?_
          refine x_il c_Md_remove_80 rfl ?_
          refine x_al c_Md_remove_81 rfl ?_
          refine x_get c_Md_remove_82 (by first | rfl | exact q0 | exact c3 | exact c4 | exact c5 | exact c6 | exact c7 | exact c8) rfl ?_
          refine x_il c_Md_remove_85 rfl ?_
          refine x_ci c_Md_remove_86 ?_
          first | refine x_iaddN c_Md_remove_87 ?_ | refine x_iadd c_Md_remove_87 ?_
          refine x_ialdE c_Md_remove_88 (by first | rfl | exact q0 | exact c3 | exact c4 | exact c5 | exact c6 | exact c7 | exact c8) (by omega) (by omega) ((sh_o (by omega))) ?_
          refine x_iastN c_Md_remove_89 (by first | rfl | exact q0 | exact c3 | exact c4 | exact c5 | exact c6 | exact c7 | exact c8) (by omega) (by omega) ?_
          refine x_ci c_Md_remove_90 ?_
          refine x_is [_, _, _, _] c_Md_remove_91 rfl ?_
          exact in4 4 0 _ rfl (by omega) q0 (congrArg (fun f => some (ce_I 16 f)) (sh_u (w := 1) hed)) c4 c5 (congrArg (fun f => some (ce_I 16 f)) (sh_u (w := 1) hed)) c7 c8 (fun q q1 q2 => (kc_gf (by omega)).trans ((kc_gf (by omega)).trans (hf q q1 q2)))
      refine x_al c_Md_remove_42 rfl ?_
      refine x_dup c_Md_remove_43 rfl ?_
      refine x_getE c_Md_remove_44 (by first | rfl | exact h0) rfl (by first | exact h6 | rfl) ?_
      refine x_ci c_Md_remove_47 ?_
      first | refine x_isubN c_Md_remove_48 (by omega) ?_ | refine x_isub c_Md_remove_48 ?_
      refine x_putM c_Md_remove_49 (by first | rfl | exact h0) ⟨by decide, rfl, rfl⟩ rfl ?_
      refine x_il c_Md_remove_52 rfl ?_
      refine x_is [_, _, _, _] c_Md_remove_53 rfl ?_
      exact loop _ e _ _ rfl (by omega) (by omega) kc_gs (by rw [sh_0]; exact r3) (by rw [sh_0]; exact r4) (by rw [sh_0]; exact r5) (by rw [sh_0]; exact r6) (by rw [sh_0]; exact r7) (by rw [sh_0]; exact r8) (fun q q1 q2 => kc_gf q1)
    have loop : ∀ m i, n - i = m → i ≤ n → hc nm l m i = hc nm l n 0 → kc_X (kC j_Md_remove) (kc_Y kt kC (d + 2)) (fun v μ' => v = some (.int (nI (dlC true n nm (some l)).1)) ∧ ∃ s', μ'.1 136 = some (ce_Md s') ∧ (∀ i, i ≠ 6 → s' i = s i) ∧ s' 6 = nI (dn n (dlC true n nm (some l)).2) ∧ mE μ' tb ou (dn n (dlC true n nm (some l)).2) (fun i => nm (dr n (dlC true n nm (some l)).2 i)) (fun i => pr (dr n (dlC true n nm (some l)).2 i)) ∧ ∀ q, q ≠ 136 → q < 139 ∨ 144 < q → μ'.1 q = μ.1 q) 15 [some (.ref 136), some (.int (nI e)), some (.int (nI i)), none] [] μ (0, 0) := by
      intro m
      induction m with
      | zero =>
        intro i hm hi hf
        refine x_il c_Md_remove_15 rfl ?_
        refine x_al c_Md_remove_16 rfl ?_
        refine x_getE c_Md_remove_17 (by first | rfl | exact h0) rfl (by first | exact h6 | rfl) ?_
        refine x_cmN_ge c_Md_remove_20 (by omega) (by omega) (fun _ => ?_) (fun h => (by exfalso; omega))
        exact fin (by rw [← hf]; rfl) _ _
      | succ m ih =>
        intro i hm hi hf
        rw [hc_s] at hf
        have hiu := y_Md_isUnder (d + 1) h0 hE (e := i) (b := e) (by omega) he false
        rw [hnl, ud_hc] at hiu
        refine x_il c_Md_remove_15 rfl ?_
        refine x_al c_Md_remove_16 rfl ?_
        refine x_getE c_Md_remove_17 (by first | rfl | exact h0) rfl (by first | exact h6 | rfl) ?_
        refine x_cmN_ge c_Md_remove_20 (by omega) (by omega) (fun h => (by exfalso; omega)) (fun _ => ?_)
        refine x_al c_Md_remove_23 rfl ?_
        refine x_il c_Md_remove_24 rfl ?_
        refine x_il c_Md_remove_25 rfl ?_
        refine x_ci c_Md_remove_26 ?_
        refine x_cv3z _ c_Md_remove_27 (by first | rfl | exact h0) (Nat.le_of_ble_eq_true rfl) (hiu) ?_
        rintro _ μx ⟨rfl, hμx⟩
        have hμx := hμx.symm
        subst hμx
        show kc_X _ _ _ _ _ [.int (bI (decide (lv (nm i) l = some 1)))] _ _
        refine x_ifB_eq c_Md_remove_30 (fun h30 => ?_) (fun h30 => ?_)
        · first | refine x_incN [_, _, _, _] c_Md_remove_36 rfl rfl ?_ | refine x_inc [_, _, _, _] c_Md_remove_36 rfl rfl ?_
          refine x_goto c_Md_remove_39 ?_
          rw [if_neg (of_decide_eq_false h30)] at hf
          exact ih (i + 1) (by omega) (by omega) hf
        · refine x_ci c_Md_remove_33 ?_
          refine x_ri c_Md_remove_35 ?_
          rw [if_pos (of_decide_eq_true h30)] at hf
          have hD : dlC true n nm (some l) = (66, none) := by unfold dlC; rw [if_pos rfl]; dsimp only; rw [if_neg hll, hfd]; dsimp only; rw [if_pos hf.symm]
          exact ⟨by rw [hD], s, h0, fun _ _ => rfl, by rw [hD]; exact h6, by rw [hD]; exact hE, fun _ _ _ => rfl⟩
    refine x_al c_Md_remove_0 rfl ?_
    refine x_ci c_Md_remove_1 ?_
    refine x_cv1z _ c_Md_remove_2 (by first | rfl | exact h0) (Nat.le_of_ble_eq_true rfl) (y_Md_find d h0 hE h6 hN (k := 0) (by omega)) ?_
    rintro _ μx ⟨rfl, hμx⟩
    have hμx := hμx.symm
    subst hμx
    show kc_X _ _ _ _ _ [.int (oI (fd nm l n 0))] _ _
    rw [hfd]
    show kc_X _ _ _ _ _ [.int (nI e)] _ _
    refine x_is [_, _, _, _] c_Md_remove_5 rfl ?_
    refine x_il c_Md_remove_6 rfl ?_
    refine x_ifN_ge c_Md_remove_7 (by omega) (fun _ => ?_) (fun h => (by exfalso; omega))
    refine x_ci c_Md_remove_13 ?_
    refine x_is [_, _, _, _] c_Md_remove_14 rfl ?_
    exact loop n 0 rfl (by omega) rfl
