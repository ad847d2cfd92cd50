/-! the reference's readFilter -/
/-- while filters are read: c of them so far, those of S open -/
def fST (μ μ1 : kc_M) (s s1 : Nat → Int32) (c : Nat) (S : List (Nat × Nat)) (wf af tf : Nat → Int32) (vf : Nat → Int64) : Prop :=
  mF μ μ1 s s1 ∧ s1 40 = nI c ∧ c ≤ 20 ∧ s1 46 = nI S.length ∧ S.length ≤ 6 ∧ fmA μ1 wf af tf vf ∧ (∀ q ∈ S, q.1 ≤ 200 ∧ q.2 < c) ∧ ∃ oe of, μ1.1 157 = some (ce_I 6 oe) ∧ μ1.1 158 = some (ce_I 6 of) ∧ stK oe of S
/-- when it ends -/
def fSE (μ μ1 : kc_M) (s s1 : Nat → Int32) : Prop := mF μ μ1 s s1 ∧ (∃ wf af tf vf, fmA μ1 wf af tf vf) ∧ (∃ f, μ1.1 157 = some (ce_I 6 f)) ∧ ∃ f, μ1.1 158 = some (ce_I 6 f)
theorem fST.E {μ μ1 : kc_M} {s s1 : Nat → Int32} {c : Nat} {S : List (Nat × Nat)} {wf af tf : Nat → Int32} {vf : Nat → Int64} (h : fST μ μ1 s s1 c S wf af tf vf) : fSE μ μ1 s s1 := by
  obtain ⟨a, _, _, _, _, b, _, oe, of, c1, c2, _⟩ := h
  exact ⟨a, ⟨_, _, _, _, b⟩, ⟨_, c1⟩, ⟨_, c2⟩⟩
def bnd (to : Nat) : List (Nat × Nat) → Nat
  | [] => to
  | q :: _ => q.1
def par (S : List (Nat × Nat)) : Int32 := match S with
  | [] => -1
  | q :: _ => nI q.2
/-- the rows below c stand -/
def rwK (c : Nat) (wf af tf : Nat → Int32) (vf : Nat → Int64) (wf' af' tf' : Nat → Int32) (vf' : Nat → Int64) : Prop := ∀ j, j < c → wf' j = wf j ∧ af' j = af j ∧ tf' j = tf j ∧ vf' j = vf j
theorem rwK.to {c c1 : Nat} {wf af tf : Nat → Int32} {vf : Nat → Int64} {wf1 af1 tf1 : Nat → Int32} {vf1 : Nat → Int64} {wf2 af2 tf2 : Nat → Int32} {vf2 : Nat → Int64} (h1 : rwK c wf af tf vf wf1 af1 tf1 vf1) (h2 : rwK c1 wf1 af1 tf1 vf1 wf2 af2 tf2 vf2) (hc : c ≤ c1) : rwK c wf af tf vf wf2 af2 tf2 vf2 := fun j hj => ⟨(h2 j (by omega)).1.trans (h1 j hj).1, (h2 j (by omega)).2.1.trans (h1 j hj).2.1, (h2 j (by omega)).2.2.1.trans (h1 j hj).2.2.1, (h2 j (by omega)).2.2.2.trans (h1 j hj).2.2.2⟩
theorem flO_c {tb : Nat → Nat} {m g c p e : Nat} : (flO tb (flP tb m) g c p e = none → flP tb (m + 1) g c p e = none ∨ p = e) := by
  intro h
  by_cases hp : p = e
  · exact Or.inr hp
  · left; rw [flP_s, if_neg hp, h]
theorem clR_mem {wf af : Nat → Int32} {c p : Nat} : ∀ (S : List (Nat × Nat)) {S' : List (Nat × Nat)}, clR wf af c p S (some S') → ∀ q ∈ S', q ∈ S
  | [], S', h, q, hq => by
    have h : some S' = some [] := h
    cases h
    exact hq
  | x :: S, S', h, q, hq => by
    unfold clR at h
    split at h
    · rcases h with ⟨_, h⟩ | ⟨_, h⟩
      · cases h
      · exact List.mem_cons_of_mem _ (clR_mem S h q hq)
    · cases h; exact hq
set_option maxRecDepth 100000 in
set_option maxHeartbeats 4000000 in
theorem y_Md_readFilter (d : Nat) {μ : kc_M} {s : Nat → Int32} (h0 : μ.1 136 = some (ce_Md s)) {tb : Nat → Nat} (h1 : μ.1 137 = some (ce_I 200 (fun j => nI (tb j)))) (htb : ∀ j, tb j < 256) {wf af tf : Nat → Int32} {vf : Nat → Int64} (hA : fmA μ wf af tf vf) {oe of : Nat → Int32} (m1 : μ.1 157 = some (ce_I 6 oe)) (m2 : μ.1 158 = some (ce_I 6 of)) {p0 to : Nat} (h19 : s 19 = nI to) (h40 : s 40 = nI 0) (h46 : s 46 = nI 0) (hp : p0 ≤ 200) (hto : to ≤ 200) : kc_Y kt kC (d + 4) j_Md_readFilter [.ref 136, .int (nI p0)] μ (fun w μ' => ∃ s' wf' af' tf' vf', mF μ μ' s s' ∧ fmA μ' wf' af' tf' vf' ∧ (∃ f, μ'.1 157 = some (ce_I 6 f)) ∧ (∃ f, μ'.1 158 = some (ce_I 6 f)) ∧ ((∃ t ty v F y, (flO tb (flP tb 200) 6 0 p0 to) = some (t, ty, v, F, y) ∧ w = some (.int (nI y)) ∧ s' 40 = nI (1 + fsz F) ∧ enM wf' af' tf' vf' (Fo.cons t ty v F Fo.nil) (-1) 0) ∨ ((flO tb (flP tb 200) 6 0 p0 to) = none ∧ w = some (.int (-1))))) := by
  refine ⟨Nat.le_of_ble_eq_true rfl, ?_⟩
  have aft : ∀ (c p : Nat) (S : List (Nat × Nat)) (wf1 af1 tf1 : Nat → Int32) (vf1 : Nat → Int64) (x y : Nat) (μ4 : kc_M) (s2 : Nat → Int32) (wf4 af4 : Nat → Int32) (jb : Option Value), el tb p (bnd to S) = some (x, y) → p + 2 ≤ x → x ≤ y → y ≤ 200 → mF μ μ4 s (upd s2 40 (nI (c + 1))) → μ4.1 137 = some (ce_I 200 (fun j => nI (tb j))) → fmA μ4 wf4 af4 tf1 vf1 → (∃ oe of, μ4.1 157 = some (ce_I 6 oe) ∧ μ4.1 158 = some (ce_I 6 of) ∧ stK oe of S) → s2 46 = nI S.length → s2 13 = nI (tb p) → s2 14 = nI x → s2 15 = nI y → c < 20 → S.length < 6 → (∀ q ∈ S, q.1 ≤ 200 ∧ q.2 < c) → wf4 c = nI (tb p) → af4 c = par S → (∀ j, j < c → wf4 j = wf1 j ∧ af4 j = af1 j) → (∀ (x y : Nat) (ty : Int32) (v : Int64) (μ2 : kc_M) (s2 : Nat → Int32) (wf2 af2 tf2 : Nat → Int32) (vf2 : Nat → Int64) (jb jf : Option Value), c < 20 → S.length < 6 → el tb p (bnd to S) = some (x, y) → lft (tb p) = true → lfP tb (tb p) x y = some (ty, v) → fST μ μ2 s s2 (c + 1) S wf2 af2 tf2 vf2 → rwK c wf1 af1 tf1 vf1 wf2 af2 tf2 vf2 → wf2 c = nI (tb p) → af2 c = par S → tf2 c = ty → (tb p ≠ 135 → vf2 c = v) → kc_X (kC j_Md_readFilter) (kc_Y kt kC (d + 3)) (fun w μ' => ∃ s' wf' af' tf' vf', mF μ μ' s s' ∧ fmA μ' wf' af' tf' vf' ∧ (∃ f, μ'.1 157 = some (ce_I 6 f)) ∧ (∃ f, μ'.1 158 = some (ce_I 6 f)) ∧ ((∃ t ty v F y, (flO tb (flP tb 200) 6 0 p0 to) = some (t, ty, v, F, y) ∧ w = some (.int (nI y)) ∧ s' 40 = nI (1 + fsz F) ∧ enM wf' af' tf' vf' (Fo.cons t ty v F Fo.nil) (-1) 0) ∨ ((flO tb (flP tb 200) 6 0 p0 to) = none ∧ w = some (.int (-1))))) 200 [some (.ref 136), some (.int (nI p0)), some (.int (nI y)), jb, jf] [] μ2 (0, 0)) → (∀ (x y : Nat) (μ2 : kc_M) (s2 : Nat → Int32) (wf2 af2 tf2 : Nat → Int32) (vf2 : Nat → Int64) (jb jf : Option Value), c < 20 → S.length < 6 → el tb p (bnd to S) = some (x, y) → lft (tb p) = false → 160 ≤ tb p ∧ tb p ≤ 162 → fST μ μ2 s s2 (c + 1) ((y, c) :: S) wf2 af2 tf2 vf2 → rwK c wf1 af1 tf1 vf1 wf2 af2 tf2 vf2 → wf2 c = nI (tb p) → af2 c = par S → kc_X (kC j_Md_readFilter) (kc_Y kt kC (d + 3)) (fun w μ' => ∃ s' wf' af' tf' vf', mF μ μ' s s' ∧ fmA μ' wf' af' tf' vf' ∧ (∃ f, μ'.1 157 = some (ce_I 6 f)) ∧ (∃ f, μ'.1 158 = some (ce_I 6 f)) ∧ ((∃ t ty v F y, (flO tb (flP tb 200) 6 0 p0 to) = some (t, ty, v, F, y) ∧ w = some (.int (nI y)) ∧ s' 40 = nI (1 + fsz F) ∧ enM wf' af' tf' vf' (Fo.cons t ty v F Fo.nil) (-1) 0) ∨ ((flO tb (flP tb 200) 6 0 p0 to) = none ∧ w = some (.int (-1))))) 200 [some (.ref 136), some (.int (nI p0)), some (.int (nI x)), jb, jf] [] μ2 (0, 0)) → ((20 ≤ c ∨ 6 ≤ S.length ∨ el tb p (bnd to S) = none ∨ ∃ x y, el tb p (bnd to S) = some (x, y) ∧ ((lft (tb p) = true ∧ lfP tb (tb p) x y = none) ∨ (lft (tb p) = false ∧ ¬ (160 ≤ tb p ∧ tb p ≤ 162)))) → ∀ (μ2 : kc_M) (s2 : Nat → Int32), fSE μ μ2 s s2 → ((fun w μ' => ∃ s' wf' af' tf' vf', mF μ μ' s s' ∧ fmA μ' wf' af' tf' vf' ∧ (∃ f, μ'.1 157 = some (ce_I 6 f)) ∧ (∃ f, μ'.1 158 = some (ce_I 6 f)) ∧ ((∃ t ty v F y, (flO tb (flP tb 200) 6 0 p0 to) = some (t, ty, v, F, y) ∧ w = some (.int (nI y)) ∧ s' 40 = nI (1 + fsz F) ∧ enM wf' af' tf' vf' (Fo.cons t ty v F Fo.nil) (-1) 0) ∨ ((flO tb (flP tb 200) 6 0 p0 to) = none ∧ w = some (.int (-1))))) : Option Value → kc_M → Prop) (some (.int (-1))) μ2) → kc_X (kC j_Md_readFilter) (kc_Y kt kC (d + 3)) (fun w μ' => ∃ s' wf' af' tf' vf', mF μ μ' s s' ∧ fmA μ' wf' af' tf' vf' ∧ (∃ f, μ'.1 157 = some (ce_I 6 f)) ∧ (∃ f, μ'.1 158 = some (ce_I 6 f)) ∧ ((∃ t ty v F y, (flO tb (flP tb 200) 6 0 p0 to) = some (t, ty, v, F, y) ∧ w = some (.int (nI y)) ∧ s' 40 = nI (1 + fsz F) ∧ enM wf' af' tf' vf' (Fo.cons t ty v F Fo.nil) (-1) 0) ∨ ((flO tb (flP tb 200) 6 0 p0 to) = none ∧ w = some (.int (-1))))) 113 [some (.ref 136), some (.int (nI p0)), some (.int (nI p)), jb, some (.int (nI c))] [] μ4 (0, 0) := by
    intro c p S wf1 af1 tf1 vf1
    intro x y μ4 s2 wf4 af4 jb hel hx hxy hy mm k1 g4 hoe e46 e13 e14 e15 hc20 hS6 hq hw4 ha4 hrw hL hN hF
    obtain ⟨oe, of, b1, b2, st⟩ := hoe
    have h256 := htb p
    have e13' : upd s2 40 (nI (c + 1)) 13 = nI (tb p) := e13
    have e15' : upd s2 40 (nI (c + 1)) 15 = nI y := e15
    have e14' : upd s2 40 (nI (c + 1)) 14 = nI x := e14
    have e46' : upd s2 40 (nI (c + 1)) 46 = nI S.length := e46
    have isl := y_Md_isLeaf (d + 2) (μ := μ4) (t := tb p) h256
    cases hlf : lft (tb p) with
    | true =>
      rw [hlf] at isl
      refine x_al c_Md_readFilter_113 rfl ?_
      refine x_getE c_Md_readFilter_114 (by first | rfl | exact mm.1) rfl (by first | exact e15' | exact e13' | rfl) ?_
      refine x_is [_, _, _, _, _] c_Md_readFilter_117 rfl ?_
      refine x_al c_Md_readFilter_118 rfl ?_
      refine x_getE c_Md_readFilter_119 (by first | rfl | exact mm.1) rfl (by first | exact e15' | exact e13' | rfl) ?_
      refine x_cs1z _ c_Md_readFilter_122 (Nat.le_of_ble_eq_true rfl) (isl) ?_
      rintro _ μx ⟨rfl, hμx⟩
      have hμx := hμx.symm
      subst hμx
      show kc_X _ _ _ _ _ [.int (bI true)] _ _
      refine x_if_eq c_Md_readFilter_125 (fun h => absurd h (by decide)) (fun _ => ?_)
      refine x_al c_Md_readFilter_128 rfl ?_
      refine x_il c_Md_readFilter_129 rfl ?_
      refine x_cv1z _ c_Md_readFilter_131 (by first | rfl | exact mm.1) (Nat.le_of_ble_eq_true rfl) (y_Md_readLeaf d mm.1 k1 htb g4.1 g4.2.2.1 g4.2.2.2 (f := c) (t := tb p) (x := x) (y := y) (by omega) (htb p) hw4 (by exact e14) (by exact e15) (by omega) (by omega)) ?_
      rintro _ μ5 ⟨s5, hm5, ⟨ty, v', vf', hl5, rfl, t5, v5, w5, u5⟩ | ⟨hl5, rfl, ⟨tf5, t5⟩, v5⟩⟩
      · show kc_X _ _ _ _ _ [.int (bI true)] _ _
        have mm5 : mF μ μ5 s s5 := mm.to ⟨hm5.1, fun i hi => hm5.2.1 i (nin9 hi).1, fun q q1 q2 => hm5.2.2 q q1 (by omega) (by omega)⟩
        refine x_if_ne c_Md_readFilter_134 (fun _ => ?_) (fun h => absurd h (by decide))
        exact hL x y ty v' μ5 s5 wf4 af4 _ vf' _ _ hc20 hS6 hel hlf hl5 ⟨mm5, hm5.2.1 40 (by decide), by omega, (hm5.2.1 46 (by decide)).trans e46, by omega, ⟨(hm5.2.2 152 (by decide) (by decide) (by decide)).trans g4.1, (hm5.2.2 153 (by decide) (by decide) (by decide)).trans g4.2.1, t5, v5⟩, fun q hh => ⟨(hq q hh).1, by have := (hq q hh).2; omega⟩, oe, of, (hm5.2.2 157 (by decide) (by decide) (by decide)).trans b1, (hm5.2.2 158 (by decide) (by decide) (by decide)).trans b2, st⟩ (fun j hj => ⟨(hrw j hj).1, (hrw j hj).2, if_neg (by omega), w5 j (by omega)⟩) hw4 ha4 (if_pos rfl) u5
      · show kc_X _ _ _ _ _ [.int (bI false)] _ _
        refine x_if_ne c_Md_readFilter_134 (fun h => absurd (rfl) h) (fun _ => ?_)
        refine x_ci c_Md_readFilter_137 ?_
        refine x_ri c_Md_readFilter_138 ?_
        exact hF (Or.inr (Or.inr (Or.inr ⟨x, y, hel, Or.inl ⟨hlf, hl5⟩⟩))) μ5 s5 ⟨mm.to ⟨hm5.1, fun i hi => hm5.2.1 i (nin9 hi).1, fun q q1 q2 => hm5.2.2 q q1 (by omega) (by omega)⟩, ⟨_, _, _, _, ⟨(hm5.2.2 152 (by decide) (by decide) (by decide)).trans g4.1, (hm5.2.2 153 (by decide) (by decide) (by decide)).trans g4.2.1, t5, v5⟩⟩, ⟨_, (hm5.2.2 157 (by decide) (by decide) (by decide)).trans b1⟩, ⟨_, (hm5.2.2 158 (by decide) (by decide) (by decide)).trans b2⟩⟩
    | false =>
      rw [hlf] at isl
      by_cases hnode : 160 ≤ tb p ∧ tb p ≤ 162
      · skip
        refine x_al c_Md_readFilter_113 rfl ?_
        refine x_getE c_Md_readFilter_114 (by first | rfl | exact mm.1 | exact b1 | exact b2 | exact rfl) rfl (by first | exact e15' | exact e13' | exact e46' | exact e14' | rfl) ?_
        refine x_is [_, _, _, _, _] c_Md_readFilter_117 rfl ?_
        refine x_al c_Md_readFilter_118 rfl ?_
        refine x_getE c_Md_readFilter_119 (by first | rfl | exact mm.1 | exact b1 | exact b2 | exact rfl) rfl (by first | exact e15' | exact e13' | exact e46' | exact e14' | rfl) ?_
        refine x_cs1z _ c_Md_readFilter_122 (Nat.le_of_ble_eq_true rfl) (isl) ?_
        rintro _ μx ⟨rfl, hμx⟩
        have hμx := hμx.symm
        subst hμx
        show kc_X _ _ _ _ _ [.int (bI false)] _ _
        refine x_if_eq c_Md_readFilter_125 (fun _ => ?_) (fun h => absurd (rfl) h)
        refine x_al c_Md_readFilter_139 rfl ?_
        refine x_getE c_Md_readFilter_140 (by first | rfl | exact mm.1 | exact b1 | exact b2 | exact rfl) rfl (by first | exact e15' | exact e13' | exact e46' | exact e14' | rfl) ?_
        refine x_ci c_Md_readFilter_143 ?_
        refine x_cmN_lt c_Md_readFilter_146 (by omega) (by omega) (fun h => (by exfalso; omega)) (fun _ => ?_)
        refine x_al c_Md_readFilter_149 rfl ?_
        refine x_getE c_Md_readFilter_150 (by first | rfl | exact mm.1 | exact b1 | exact b2 | exact rfl) rfl (by first | exact e15' | exact e13' | exact e46' | exact e14' | rfl) ?_
        refine x_ci c_Md_readFilter_153 ?_
        refine x_cmN_le c_Md_readFilter_156 (by omega) (by omega) (fun _ => ?_) (fun h => (by exfalso; omega))
        refine x_al c_Md_readFilter_161 rfl ?_
        refine x_get c_Md_readFilter_162 (by first | rfl | exact mm.1 | exact b1 | exact b2 | exact rfl) rfl ?_
        refine x_al c_Md_readFilter_165 rfl ?_
        refine x_getE c_Md_readFilter_166 (by first | rfl | exact mm.1 | exact b1 | exact b2 | exact rfl) rfl (by first | exact e15' | exact e13' | exact e46' | exact e14' | rfl) ?_
        refine x_al c_Md_readFilter_169 rfl ?_
        refine x_getE c_Md_readFilter_170 (by first | rfl | exact mm.1 | exact b1 | exact b2 | exact rfl) rfl (by first | exact e15' | exact e13' | exact e46' | exact e14' | rfl) ?_
        refine x_iastN c_Md_readFilter_173 (by first | rfl | exact mm.1 | exact b1 | exact b2 | exact rfl) (by omega) (by omega) ?_
        refine x_al c_Md_readFilter_174 rfl ?_
        refine x_get c_Md_readFilter_175 (by first | rfl | exact mm.1 | exact b1 | exact b2 | exact rfl) rfl ?_
        refine x_al c_Md_readFilter_178 rfl ?_
        refine x_getE c_Md_readFilter_179 (by first | rfl | exact mm.1 | exact b1 | exact b2 | exact rfl) rfl (by first | exact e15' | exact e13' | exact e46' | exact e14' | rfl) ?_
        refine x_il c_Md_readFilter_182 rfl ?_
        refine x_iastN c_Md_readFilter_184 (by first | rfl | exact mm.1 | exact b1 | exact b2 | exact rfl) (by omega) (by omega) ?_
        refine x_al c_Md_readFilter_185 rfl ?_
        refine x_dup c_Md_readFilter_186 rfl ?_
        refine x_getE c_Md_readFilter_187 (by first | rfl | exact mm.1 | exact b1 | exact b2 | exact rfl) rfl (by first | exact e15' | exact e13' | exact e46' | exact e14' | rfl) ?_
        refine x_ci c_Md_readFilter_190 ?_
        first | refine x_iaddN c_Md_readFilter_191 ?_ | refine x_iadd c_Md_readFilter_191 ?_
        refine x_putM c_Md_readFilter_192 (by first | rfl | exact mm.1 | exact b1 | exact b2 | exact rfl) ⟨by decide, rfl, rfl⟩ rfl ?_
        refine x_al c_Md_readFilter_195 rfl ?_
        refine x_getE c_Md_readFilter_196 (by first | rfl | exact mm.1 | exact b1 | exact b2 | exact rfl) rfl (by first | exact e15' | exact e13' | exact e46' | exact e14' | rfl) ?_
        refine x_is [_, _, _, _, _] c_Md_readFilter_199 rfl ?_
        exact hN x y _ _ wf4 af4 tf1 vf1 _ _ hc20 hS6 hel hlf hnode ⟨((mm.q (by omega)).q (by omega)).p (Or.inr rfl), rfl, by omega, rfl, hS6, ⟨(kc_gf (by decide)).trans ((kc_gf (by decide)).trans ((kc_gf (by decide)).trans g4.1)), (kc_gf (by decide)).trans ((kc_gf (by decide)).trans ((kc_gf (by decide)).trans g4.2.1)), (kc_gf (by decide)).trans ((kc_gf (by decide)).trans ((kc_gf (by decide)).trans g4.2.2.1)), (kc_gf (by decide)).trans ((kc_gf (by decide)).trans ((kc_gf (by decide)).trans g4.2.2.2))⟩, (by intro q hh; rcases List.mem_cons.mp hh with q1 | q1; (rw [q1]; exact ⟨hy, by show c < c + 1; omega⟩); exact ⟨(hq q q1).1, by have := (hq q q1).2; omega⟩), upd oe S.length (nI y), upd of S.length (nI c), (kc_gf (by decide)).trans ((kc_gf (by decide)).trans kc_gs), (kc_gf (by decide)).trans kc_gs, if_pos rfl, if_pos rfl, stK_k S st (fun j hj => ⟨if_neg (by omega), if_neg (by omega)⟩)⟩ (fun j hj => ⟨(hrw j hj).1, (hrw j hj).2, rfl, rfl⟩) hw4 ha4
      · skip
        refine x_al c_Md_readFilter_113 rfl ?_
        refine x_getE c_Md_readFilter_114 (by first | rfl | exact mm.1) rfl (by first | exact e15' | exact e13' | rfl) ?_
        refine x_is [_, _, _, _, _] c_Md_readFilter_117 rfl ?_
        refine x_al c_Md_readFilter_118 rfl ?_
        refine x_getE c_Md_readFilter_119 (by first | rfl | exact mm.1) rfl (by first | exact e15' | exact e13' | rfl) ?_
        refine x_cs1z _ c_Md_readFilter_122 (Nat.le_of_ble_eq_true rfl) (isl) ?_
        rintro _ μx ⟨rfl, hμx⟩
        have hμx := hμx.symm
        subst hμx
        show kc_X _ _ _ _ _ [.int (bI false)] _ _
        refine x_if_eq c_Md_readFilter_125 (fun _ => ?_) (fun h => absurd (rfl) h)
        refine x_al c_Md_readFilter_139 rfl ?_
        refine x_getE c_Md_readFilter_140 (by first | rfl | exact mm.1) rfl (by first | exact e15' | exact e13' | rfl) ?_
        refine x_ci c_Md_readFilter_143 ?_
        refine x_cmN_lt c_Md_readFilter_146 (by omega) (by omega) (fun h146 => ?_) (fun h146 => ?_)
        · refine x_ci c_Md_readFilter_159 ?_
          refine x_ri c_Md_readFilter_160 ?_
          exact hF (Or.inr (Or.inr (Or.inr ⟨x, y, hel, Or.inr ⟨hlf, hnode⟩⟩))) μ4 _ ⟨mm, ⟨_, _, _, _, g4⟩, ⟨_, b1⟩, ⟨_, b2⟩⟩
        · refine x_al c_Md_readFilter_149 rfl ?_
          refine x_getE c_Md_readFilter_150 (by first | rfl | exact mm.1) rfl (by first | exact e15' | exact e13' | rfl) ?_
          refine x_ci c_Md_readFilter_153 ?_
          refine x_cmN_le c_Md_readFilter_156 (by omega) (by omega) (fun h156 => ?_) (fun h156 => ?_)
          · exact absurd ⟨h146, h156⟩ hnode
          · refine x_ci c_Md_readFilter_159 ?_
            refine x_ri c_Md_readFilter_160 ?_
            exact hF (Or.inr (Or.inr (Or.inr ⟨x, y, hel, Or.inr ⟨hlf, hnode⟩⟩))) μ4 _ ⟨mm, ⟨_, _, _, _, g4⟩, ⟨_, b1⟩, ⟨_, b2⟩⟩
  have stepA : ∀ (c p : Nat) (S : List (Nat × Nat)) (μ1 : kc_M) (s1 : Nat → Int32) (wf1 af1 tf1 : Nat → Int32) (vf1 : Nat → Int64) (jb jf : Option Value), fST μ μ1 s s1 (c) S wf1 af1 tf1 vf1 → p ≤ 200 → bnd to S ≤ 200 → (∀ (x y : Nat) (ty : Int32) (v : Int64) (μ2 : kc_M) (s2 : Nat → Int32) (wf2 af2 tf2 : Nat → Int32) (vf2 : Nat → Int64) (jb jf : Option Value), c < 20 → S.length < 6 → el tb p (bnd to S) = some (x, y) → lft (tb p) = true → lfP tb (tb p) x y = some (ty, v) → fST μ μ2 s s2 (c + 1) S wf2 af2 tf2 vf2 → rwK c wf1 af1 tf1 vf1 wf2 af2 tf2 vf2 → wf2 c = nI (tb p) → af2 c = par S → tf2 c = ty → (tb p ≠ 135 → vf2 c = v) → kc_X (kC j_Md_readFilter) (kc_Y kt kC (d + 3)) (fun w μ' => ∃ s' wf' af' tf' vf', mF μ μ' s s' ∧ fmA μ' wf' af' tf' vf' ∧ (∃ f, μ'.1 157 = some (ce_I 6 f)) ∧ (∃ f, μ'.1 158 = some (ce_I 6 f)) ∧ ((∃ t ty v F y, (flO tb (flP tb 200) 6 0 p0 to) = some (t, ty, v, F, y) ∧ w = some (.int (nI y)) ∧ s' 40 = nI (1 + fsz F) ∧ enM wf' af' tf' vf' (Fo.cons t ty v F Fo.nil) (-1) 0) ∨ ((flO tb (flP tb 200) 6 0 p0 to) = none ∧ w = some (.int (-1))))) 200 [some (.ref 136), some (.int (nI p0)), some (.int (nI y)), jb, jf] [] μ2 (0, 0)) → (∀ (x y : Nat) (μ2 : kc_M) (s2 : Nat → Int32) (wf2 af2 tf2 : Nat → Int32) (vf2 : Nat → Int64) (jb jf : Option Value), c < 20 → S.length < 6 → el tb p (bnd to S) = some (x, y) → lft (tb p) = false → 160 ≤ tb p ∧ tb p ≤ 162 → fST μ μ2 s s2 (c + 1) ((y, c) :: S) wf2 af2 tf2 vf2 → rwK c wf1 af1 tf1 vf1 wf2 af2 tf2 vf2 → wf2 c = nI (tb p) → af2 c = par S → kc_X (kC j_Md_readFilter) (kc_Y kt kC (d + 3)) (fun w μ' => ∃ s' wf' af' tf' vf', mF μ μ' s s' ∧ fmA μ' wf' af' tf' vf' ∧ (∃ f, μ'.1 157 = some (ce_I 6 f)) ∧ (∃ f, μ'.1 158 = some (ce_I 6 f)) ∧ ((∃ t ty v F y, (flO tb (flP tb 200) 6 0 p0 to) = some (t, ty, v, F, y) ∧ w = some (.int (nI y)) ∧ s' 40 = nI (1 + fsz F) ∧ enM wf' af' tf' vf' (Fo.cons t ty v F Fo.nil) (-1) 0) ∨ ((flO tb (flP tb 200) 6 0 p0 to) = none ∧ w = some (.int (-1))))) 200 [some (.ref 136), some (.int (nI p0)), some (.int (nI x)), jb, jf] [] μ2 (0, 0)) → ((20 ≤ c ∨ 6 ≤ S.length ∨ el tb p (bnd to S) = none ∨ ∃ x y, el tb p (bnd to S) = some (x, y) ∧ ((lft (tb p) = true ∧ lfP tb (tb p) x y = none) ∨ (lft (tb p) = false ∧ ¬ (160 ≤ tb p ∧ tb p ≤ 162)))) → ∀ (μ2 : kc_M) (s2 : Nat → Int32), fSE μ μ2 s s2 → ((fun w μ' => ∃ s' wf' af' tf' vf', mF μ μ' s s' ∧ fmA μ' wf' af' tf' vf' ∧ (∃ f, μ'.1 157 = some (ce_I 6 f)) ∧ (∃ f, μ'.1 158 = some (ce_I 6 f)) ∧ ((∃ t ty v F y, (flO tb (flP tb 200) 6 0 p0 to) = some (t, ty, v, F, y) ∧ w = some (.int (nI y)) ∧ s' 40 = nI (1 + fsz F) ∧ enM wf' af' tf' vf' (Fo.cons t ty v F Fo.nil) (-1) 0) ∨ ((flO tb (flP tb 200) 6 0 p0 to) = none ∧ w = some (.int (-1))))) : Option Value → kc_M → Prop) (some (.int (-1))) μ2) → kc_X (kC j_Md_readFilter) (kc_Y kt kC (d + 3)) (fun w μ' => ∃ s' wf' af' tf' vf', mF μ μ' s s' ∧ fmA μ' wf' af' tf' vf' ∧ (∃ f, μ'.1 157 = some (ce_I 6 f)) ∧ (∃ f, μ'.1 158 = some (ce_I 6 f)) ∧ ((∃ t ty v F y, (flO tb (flP tb 200) 6 0 p0 to) = some (t, ty, v, F, y) ∧ w = some (.int (nI y)) ∧ s' 40 = nI (1 + fsz F) ∧ enM wf' af' tf' vf' (Fo.cons t ty v F Fo.nil) (-1) 0) ∨ ((flO tb (flP tb 200) 6 0 p0 to) = none ∧ w = some (.int (-1))))) 2 [some (.ref 136), some (.int (nI p0)), some (.int (nI p)), jb, jf] [] μ1 (0, 0) := by
    intro c p S μ1 s1 wf1 af1 tf1 vf1 jb jf hST hp hb hL hN hF
    obtain ⟨a1, a2', a3, a4, a5, a6, a7, oe, of, b1, b2, st⟩ := id hST
    have k1 : μ1.1 137 = some (ce_I 200 (fun j => nI (tb j))) := (a1.2.2 137 (by decide) (by decide)).trans h1
    have h19' : s1 19 = nI to := (a1.2.1 19 (by decide)).trans h19
    cases S with
    | nil =>
      have a4 : s1 46 = nI 0 := a4
      refine x_al c_Md_readFilter_2 rfl ?_
      refine x_getE c_Md_readFilter_3 (by first | rfl | exact a1.1 | exact b1 | exact b2) rfl (by first | exact a4 | exact a2' | exact h19' | rfl) ?_
      refine x_ifN_ne c_Md_readFilter_6 (by omega) (fun h => (by exfalso; omega)) (fun _ => ?_)
      refine x_al c_Md_readFilter_9 rfl ?_
      refine x_getE c_Md_readFilter_10 (by first | rfl | exact a1.1 | exact b1 | exact b2) rfl (by first | exact a4 | exact a2' | exact h19' | rfl) ?_
      refine x_goto c_Md_readFilter_13 ?_
      refine x_is [_, _, _, _, _] c_Md_readFilter_27 rfl ?_
      refine x_al c_Md_readFilter_28 rfl ?_
      refine x_getE c_Md_readFilter_29 (by first | rfl | exact a1.1 | exact b1 | exact b2) rfl (by first | exact a4 | exact a2' | exact h19' | rfl) ?_
      refine x_ci c_Md_readFilter_32 ?_
      refine x_cmN_eq c_Md_readFilter_34 (by omega) (by omega) (fun h34 => ?_) (fun h34 => ?_)
      · refine x_ci c_Md_readFilter_55 ?_
        refine x_ri c_Md_readFilter_56 ?_
        first | exact hF (Or.inl (by omega)) _ _ hST.E | exact hF (Or.inr (Or.inl (by show 6 ≤ 0; omega))) _ _ hST.E
      · refine x_al c_Md_readFilter_37 rfl ?_
        refine x_getE c_Md_readFilter_38 (by first | rfl | exact a1.1 | exact b1 | exact b2) rfl (by first | exact a4 | exact a2' | exact h19' | rfl) ?_
        refine x_ci c_Md_readFilter_41 ?_
        refine x_cmN_eq c_Md_readFilter_43 (by omega) (by omega) (fun h43 => ?_) (fun h43 => ?_)
        · refine x_ci c_Md_readFilter_55 ?_
          refine x_ri c_Md_readFilter_56 ?_
          first | exact hF (Or.inl (by omega)) _ _ hST.E | exact hF (Or.inr (Or.inl (by show 6 ≤ 0; omega))) _ _ hST.E
        · refine x_al c_Md_readFilter_46 rfl ?_
          refine x_il c_Md_readFilter_47 rfl ?_
          refine x_il c_Md_readFilter_48 rfl ?_
          refine x_cv2z _ c_Md_readFilter_49 (by first | rfl | exact a1.1 | exact b1 | exact b2) (Nat.le_of_ble_eq_true rfl) (y_Md_element (d + 2) a1.1 k1 htb (p := p) (e := to) (by omega) (by omega)) ?_
          rintro v μ2 ⟨s2, hc2, ⟨x, y, r2, rfl, a2, b2_, d2⟩ | ⟨r2, rfl⟩⟩
          · show kc_X _ _ _ _ _ [.int (bI true)] _ _
            have i2 := el_in r2
            have mm := a1.C hc2
            have k12 := (hc2.2.2 137 (by decide)).trans k1
            have g2 := fmA_k a6 (μ' := μ2) (fun q q1 q2 => hc2.2.2 q (by omega))
            have b1' := (hc2.2.2 157 (by decide)).trans b1
            have b2' := (hc2.2.2 158 (by decide)).trans b2
            have e40' := (hc2.2.1 40 (by decide)).trans a2'
            have e46' := (hc2.2.1 46 (by decide)).trans a4
            have e13 := a2 _ rfl
            have h256 := htb p
            refine x_if_ne c_Md_readFilter_52 (fun _ => ?_) (fun h => absurd h (by decide))
            refine x_al c_Md_readFilter_57 rfl ?_
            refine x_getE c_Md_readFilter_58 (by first | rfl | exact mm.1 | exact g2.1 | exact g2.2.1 | exact b1' | exact b2' | exact kc_gs) rfl (by first | exact e40' | exact e46' | exact e13 | exact b2_ | exact d2 | rfl) ?_
            refine x_is [_, _, _, _, _] c_Md_readFilter_61 rfl ?_
            refine x_al c_Md_readFilter_63 rfl ?_
            refine x_get c_Md_readFilter_64 (by first | rfl | exact mm.1 | exact g2.1 | exact g2.2.1 | exact b1' | exact b2' | exact kc_gs) rfl ?_
            refine x_il c_Md_readFilter_67 rfl ?_
            refine x_al c_Md_readFilter_69 rfl ?_
            refine x_getE c_Md_readFilter_70 (by first | rfl | exact mm.1 | exact g2.1 | exact g2.2.1 | exact b1' | exact b2' | exact kc_gs) rfl (by first | exact e40' | exact e46' | exact e13 | exact b2_ | exact d2 | rfl) ?_
            refine x_iastN c_Md_readFilter_73 (by first | rfl | exact mm.1 | exact g2.1 | exact g2.2.1 | exact b1' | exact b2' | exact kc_gs) (by omega) (by omega) ?_
            refine x_al c_Md_readFilter_74 rfl ?_
            refine x_get c_Md_readFilter_75 (by first | rfl | exact mm.1 | exact g2.1 | exact g2.2.1 | exact b1' | exact b2' | exact kc_gs) rfl ?_
            refine x_il c_Md_readFilter_78 rfl ?_
            refine x_al c_Md_readFilter_80 rfl ?_
            refine x_getE c_Md_readFilter_81 (by first | rfl | exact mm.1 | exact g2.1 | exact g2.2.1 | exact b1' | exact b2' | exact kc_gs) rfl (by first | exact e40' | exact e46' | exact e13 | exact b2_ | exact d2 | rfl) ?_
            refine x_ifN_ne c_Md_readFilter_84 (by omega) (fun h => (by exfalso; omega)) (fun _ => ?_)
            refine x_ci c_Md_readFilter_87 ?_
            refine x_goto c_Md_readFilter_88 ?_
            refine x_iastN c_Md_readFilter_102 (by first | rfl | exact mm.1 | exact g2.1 | exact g2.2.1 | exact b1' | exact b2' | exact kc_gs) (by omega) (by omega) ?_
            refine x_al c_Md_readFilter_103 rfl ?_
            refine x_dup c_Md_readFilter_104 rfl ?_
            refine x_getE c_Md_readFilter_105 (by first | rfl | exact mm.1 | exact g2.1 | exact g2.2.1 | exact b1' | exact b2' | exact kc_gs) rfl (by first | exact e40' | exact e46' | exact e13 | exact b2_ | exact d2 | rfl) ?_
            refine x_ci c_Md_readFilter_108 ?_
            first | refine x_iaddN c_Md_readFilter_109 ?_ | refine x_iadd c_Md_readFilter_109 ?_
            refine x_putM c_Md_readFilter_110 (by first | rfl | exact mm.1 | exact g2.1 | exact g2.2.1 | exact b1' | exact b2' | exact kc_gs) ⟨by decide, rfl, rfl⟩ rfl ?_
            exact aft c p [] wf1 af1 tf1 vf1 x y _ s2 (upd wf1 c (nI (tb p))) (upd af1 c (-1)) _ r2 (by omega) (by omega) (by omega) (((mm.q (a := 152) (by omega)).q (a := 153) (by omega)).p (Or.inl rfl)) (by exact k12) (by exact ⟨rfl, rfl, g2.2.2.1, g2.2.2.2⟩) ⟨oe, of, by exact b1', by exact b2', trivial⟩ e46' e13 b2_ d2 (by omega) (by show 0 < 6; omega) a7 (if_pos rfl) (if_pos rfl) (fun j hj => ⟨if_neg (by omega), if_neg (by omega)⟩) hL hN hF
          · show kc_X _ _ _ _ _ [.int (bI false)] _ _
            refine x_if_ne c_Md_readFilter_52 (fun h => absurd (rfl) h) (fun _ => ?_)
            refine x_ci c_Md_readFilter_55 ?_
            refine x_ri c_Md_readFilter_56 ?_
            exact hF (Or.inr (Or.inr (Or.inl r2))) μ2 s2 ⟨a1.C hc2, ⟨_, _, _, _, fmA_k a6 (fun q q1 q2 => hc2.2.2 q (by omega))⟩, ⟨_, (hc2.2.2 157 (by decide)).trans b1⟩, ⟨_, (hc2.2.2 158 (by decide)).trans b2⟩⟩
    | cons q S =>
      obtain ⟨qe, qf⟩ := q
      have a4 : s1 46 = nI (S.length + 1) := a4
      have a5 : S.length + 1 ≤ 6 := a5
      have hb : qe ≤ 200 := hb
      refine x_al c_Md_readFilter_2 rfl ?_
      refine x_getE c_Md_readFilter_3 (by first | rfl | exact a1.1 | exact b1 | exact b2) rfl (by first | exact a4 | exact a2' | exact h19' | rfl) ?_
      refine x_ifN_ne c_Md_readFilter_6 (by omega) (fun _ => ?_) (fun h => (by exfalso; omega))
      refine x_al c_Md_readFilter_16 rfl ?_
      refine x_get c_Md_readFilter_17 (by first | rfl | exact a1.1 | exact b1 | exact b2) rfl ?_
      refine x_al c_Md_readFilter_20 rfl ?_
      refine x_getE c_Md_readFilter_21 (by first | rfl | exact a1.1 | exact b1 | exact b2) rfl (by first | exact a4 | exact a2' | exact h19' | rfl) ?_
      refine x_ci c_Md_readFilter_24 ?_
      first | refine x_isubN c_Md_readFilter_25 (by omega) ?_ | refine x_isub c_Md_readFilter_25 ?_
      refine x_ialdE c_Md_readFilter_26 (by first | rfl | exact a1.1 | exact b1 | exact b2) (by omega) (by omega) (st.1) ?_
      refine x_is [_, _, _, _, _] c_Md_readFilter_27 rfl ?_
      refine x_al c_Md_readFilter_28 rfl ?_
      refine x_getE c_Md_readFilter_29 (by first | rfl | exact a1.1 | exact b1 | exact b2) rfl (by first | exact a4 | exact a2' | exact h19' | rfl) ?_
      refine x_ci c_Md_readFilter_32 ?_
      refine x_cmN_eq c_Md_readFilter_34 (by omega) (by omega) (fun h34 => ?_) (fun h34 => ?_)
      · refine x_ci c_Md_readFilter_55 ?_
        refine x_ri c_Md_readFilter_56 ?_
        first | exact hF (Or.inl (by omega)) _ _ hST.E | exact hF (Or.inr (Or.inl (by show 6 ≤ (S.length + 1); omega))) _ _ hST.E
      · refine x_al c_Md_readFilter_37 rfl ?_
        refine x_getE c_Md_readFilter_38 (by first | rfl | exact a1.1 | exact b1 | exact b2) rfl (by first | exact a4 | exact a2' | exact h19' | rfl) ?_
        refine x_ci c_Md_readFilter_41 ?_
        refine x_cmN_eq c_Md_readFilter_43 (by omega) (by omega) (fun h43 => ?_) (fun h43 => ?_)
        · refine x_ci c_Md_readFilter_55 ?_
          refine x_ri c_Md_readFilter_56 ?_
          first | exact hF (Or.inl (by omega)) _ _ hST.E | exact hF (Or.inr (Or.inl (by show 6 ≤ (S.length + 1); omega))) _ _ hST.E
        · refine x_al c_Md_readFilter_46 rfl ?_
          refine x_il c_Md_readFilter_47 rfl ?_
          refine x_il c_Md_readFilter_48 rfl ?_
          refine x_cv2z _ c_Md_readFilter_49 (by first | rfl | exact a1.1 | exact b1 | exact b2) (Nat.le_of_ble_eq_true rfl) (y_Md_element (d + 2) a1.1 k1 htb (p := p) (e := qe) (by omega) (by omega)) ?_
          rintro v μ2 ⟨s2, hc2, ⟨x, y, r2, rfl, a2, b2_, d2⟩ | ⟨r2, rfl⟩⟩
          · show kc_X _ _ _ _ _ [.int (bI true)] _ _
            have i2 := el_in r2
            have mm := a1.C hc2
            have k12 := (hc2.2.2 137 (by decide)).trans k1
            have g2 := fmA_k a6 (μ' := μ2) (fun q q1 q2 => hc2.2.2 q (by omega))
            have b1' := (hc2.2.2 157 (by decide)).trans b1
            have b2' := (hc2.2.2 158 (by decide)).trans b2
            have e40' := (hc2.2.1 40 (by decide)).trans a2'
            have e46' := (hc2.2.1 46 (by decide)).trans a4
            have e13 := a2 _ rfl
            have h256 := htb p
            refine x_if_ne c_Md_readFilter_52 (fun _ => ?_) (fun h => absurd h (by decide))
            refine x_al c_Md_readFilter_57 rfl ?_
            refine x_getE c_Md_readFilter_58 (by first | rfl | exact mm.1 | exact g2.1 | exact g2.2.1 | exact b1' | exact b2' | exact kc_gs) rfl (by first | exact e40' | exact e46' | exact e13 | exact b2_ | exact d2 | rfl) ?_
            refine x_is [_, _, _, _, _] c_Md_readFilter_61 rfl ?_
            refine x_al c_Md_readFilter_63 rfl ?_
            refine x_get c_Md_readFilter_64 (by first | rfl | exact mm.1 | exact g2.1 | exact g2.2.1 | exact b1' | exact b2' | exact kc_gs) rfl ?_
            refine x_il c_Md_readFilter_67 rfl ?_
            refine x_al c_Md_readFilter_69 rfl ?_
            refine x_getE c_Md_readFilter_70 (by first | rfl | exact mm.1 | exact g2.1 | exact g2.2.1 | exact b1' | exact b2' | exact kc_gs) rfl (by first | exact e40' | exact e46' | exact e13 | exact b2_ | exact d2 | rfl) ?_
            refine x_iastN c_Md_readFilter_73 (by first | rfl | exact mm.1 | exact g2.1 | exact g2.2.1 | exact b1' | exact b2' | exact kc_gs) (by omega) (by omega) ?_
            refine x_al c_Md_readFilter_74 rfl ?_
            refine x_get c_Md_readFilter_75 (by first | rfl | exact mm.1 | exact g2.1 | exact g2.2.1 | exact b1' | exact b2' | exact kc_gs) rfl ?_
            refine x_il c_Md_readFilter_78 rfl ?_
            refine x_al c_Md_readFilter_80 rfl ?_
            refine x_getE c_Md_readFilter_81 (by first | rfl | exact mm.1 | exact g2.1 | exact g2.2.1 | exact b1' | exact b2' | exact kc_gs) rfl (by first | exact e40' | exact e46' | exact e13 | exact b2_ | exact d2 | rfl) ?_
            refine x_ifN_ne c_Md_readFilter_84 (by omega) (fun _ => ?_) (fun h => (by exfalso; omega))
            refine x_al c_Md_readFilter_91 rfl ?_
            refine x_get c_Md_readFilter_92 (by first | rfl | exact mm.1 | exact g2.1 | exact g2.2.1 | exact b1' | exact b2' | exact kc_gs) rfl ?_
            refine x_al c_Md_readFilter_95 rfl ?_
            refine x_getE c_Md_readFilter_96 (by first | rfl | exact mm.1 | exact g2.1 | exact g2.2.1 | exact b1' | exact b2' | exact kc_gs) rfl (by first | exact e40' | exact e46' | exact e13 | exact b2_ | exact d2 | rfl) ?_
            refine x_ci c_Md_readFilter_99 ?_
            first | refine x_isubN c_Md_readFilter_100 (by omega) ?_ | refine x_isub c_Md_readFilter_100 ?_
            refine x_ialdE c_Md_readFilter_101 (by first | rfl | exact mm.1 | exact g2.1 | exact g2.2.1 | exact b1' | exact b2' | exact kc_gs) (by omega) (by omega) (st.2.1) ?_
            refine x_iastN c_Md_readFilter_102 (by first | rfl | exact mm.1 | exact g2.1 | exact g2.2.1 | exact b1' | exact b2' | exact kc_gs) (by omega) (by omega) ?_
            refine x_al c_Md_readFilter_103 rfl ?_
            refine x_dup c_Md_readFilter_104 rfl ?_
            refine x_getE c_Md_readFilter_105 (by first | rfl | exact mm.1 | exact g2.1 | exact g2.2.1 | exact b1' | exact b2' | exact kc_gs) rfl (by first | exact e40' | exact e46' | exact e13 | exact b2_ | exact d2 | rfl) ?_
            refine x_ci c_Md_readFilter_108 ?_
            first | refine x_iaddN c_Md_readFilter_109 ?_ | refine x_iadd c_Md_readFilter_109 ?_
            refine x_putM c_Md_readFilter_110 (by first | rfl | exact mm.1 | exact g2.1 | exact g2.2.1 | exact b1' | exact b2' | exact kc_gs) ⟨by decide, rfl, rfl⟩ rfl ?_
            exact aft c p ((qe, qf) :: S) wf1 af1 tf1 vf1 x y _ s2 (upd wf1 c (nI (tb p))) (upd af1 c (nI qf)) _ r2 (by omega) (by omega) (by omega) (((mm.q (a := 152) (by omega)).q (a := 153) (by omega)).p (Or.inl rfl)) (by exact k12) (by exact ⟨rfl, rfl, g2.2.2.1, g2.2.2.2⟩) ⟨oe, of, by exact b1', by exact b2', st⟩ e46' e13 b2_ d2 (by omega) (by show (S.length + 1) < 6; omega) a7 (if_pos rfl) (if_pos rfl) (fun j hj => ⟨if_neg (by omega), if_neg (by omega)⟩) hL hN hF
          · show kc_X _ _ _ _ _ [.int (bI false)] _ _
            refine x_if_ne c_Md_readFilter_52 (fun h => absurd (rfl) h) (fun _ => ?_)
            refine x_ci c_Md_readFilter_55 ?_
            refine x_ri c_Md_readFilter_56 ?_
            exact hF (Or.inr (Or.inr (Or.inl r2))) μ2 s2 ⟨a1.C hc2, ⟨_, _, _, _, fmA_k a6 (fun q q1 q2 => hc2.2.2 q (by omega))⟩, ⟨_, (hc2.2.2 157 (by decide)).trans b1⟩, ⟨_, (hc2.2.2 158 (by decide)).trans b2⟩⟩
  have stepB : ∀ (c p : Nat) (S : List (Nat × Nat)) (μ1 : kc_M) (s1 : Nat → Int32) (wf1 af1 tf1 : Nat → Int32) (vf1 : Nat → Int64) (jb jf : Option Value), fST μ μ1 s s1 (c) S wf1 af1 tf1 vf1 → p ≤ 200 → ((clR wf1 af1 (c) p S none → ∀ (μ2 : kc_M) (s2 : Nat → Int32), fSE μ μ2 s s2 → ((fun w μ' => ∃ s' wf' af' tf' vf', mF μ μ' s s' ∧ fmA μ' wf' af' tf' vf' ∧ (∃ f, μ'.1 157 = some (ce_I 6 f)) ∧ (∃ f, μ'.1 158 = some (ce_I 6 f)) ∧ ((∃ t ty v F y, (flO tb (flP tb 200) 6 0 p0 to) = some (t, ty, v, F, y) ∧ w = some (.int (nI y)) ∧ s' 40 = nI (1 + fsz F) ∧ enM wf' af' tf' vf' (Fo.cons t ty v F Fo.nil) (-1) 0) ∨ ((flO tb (flP tb 200) 6 0 p0 to) = none ∧ w = some (.int (-1))))) : Option Value → kc_M → Prop) (some (.int (-1))) μ2) ∧ (clR wf1 af1 (c) p S (some []) → ∀ (μ2 : kc_M) (s2 : Nat → Int32), fST μ μ2 s s2 (c) [] wf1 af1 tf1 vf1 → ((fun w μ' => ∃ s' wf' af' tf' vf', mF μ μ' s s' ∧ fmA μ' wf' af' tf' vf' ∧ (∃ f, μ'.1 157 = some (ce_I 6 f)) ∧ (∃ f, μ'.1 158 = some (ce_I 6 f)) ∧ ((∃ t ty v F y, (flO tb (flP tb 200) 6 0 p0 to) = some (t, ty, v, F, y) ∧ w = some (.int (nI y)) ∧ s' 40 = nI (1 + fsz F) ∧ enM wf' af' tf' vf' (Fo.cons t ty v F Fo.nil) (-1) 0) ∨ ((flO tb (flP tb 200) 6 0 p0 to) = none ∧ w = some (.int (-1))))) : Option Value → kc_M → Prop) (some (.int (nI p))) μ2) ∧ (∀ (q9 : Nat × Nat) (S9 : List (Nat × Nat)), clR wf1 af1 (c) p S (some (q9 :: S9)) → ∀ (μ2 : kc_M) (s2 : Nat → Int32) (jb jf : Option Value), fST μ μ2 s s2 (c) (q9 :: S9) wf1 af1 tf1 vf1 → kc_X (kC j_Md_readFilter) (kc_Y kt kC (d + 3)) (fun w μ' => ∃ s' wf' af' tf' vf', mF μ μ' s s' ∧ fmA μ' wf' af' tf' vf' ∧ (∃ f, μ'.1 157 = some (ce_I 6 f)) ∧ (∃ f, μ'.1 158 = some (ce_I 6 f)) ∧ ((∃ t ty v F y, (flO tb (flP tb 200) 6 0 p0 to) = some (t, ty, v, F, y) ∧ w = some (.int (nI y)) ∧ s' 40 = nI (1 + fsz F) ∧ enM wf' af' tf' vf' (Fo.cons t ty v F Fo.nil) (-1) 0) ∨ ((flO tb (flP tb 200) 6 0 p0 to) = none ∧ w = some (.int (-1))))) 2 [some (.ref 136), some (.int (nI p0)), some (.int (nI p)), jb, jf] [] μ2 (0, 0))) → kc_X (kC j_Md_readFilter) (kc_Y kt kC (d + 3)) (fun w μ' => ∃ s' wf' af' tf' vf', mF μ μ' s s' ∧ fmA μ' wf' af' tf' vf' ∧ (∃ f, μ'.1 157 = some (ce_I 6 f)) ∧ (∃ f, μ'.1 158 = some (ce_I 6 f)) ∧ ((∃ t ty v F y, (flO tb (flP tb 200) 6 0 p0 to) = some (t, ty, v, F, y) ∧ w = some (.int (nI y)) ∧ s' 40 = nI (1 + fsz F) ∧ enM wf' af' tf' vf' (Fo.cons t ty v F Fo.nil) (-1) 0) ∨ ((flO tb (flP tb 200) 6 0 p0 to) = none ∧ w = some (.int (-1))))) 200 [some (.ref 136), some (.int (nI p0)), some (.int (nI p)), jb, jf] [] μ1 (0, 0) := by
    intro c p S μ1 s1 wf1 af1 tf1 vf1 jb jf hST hp hO
    obtain ⟨a1, a2', a3, a4, a5, a6, a7, oe, of, b1, b2, st⟩ := id hST
    refine x_al c_Md_readFilter_200 rfl ?_
    refine x_il c_Md_readFilter_201 rfl ?_
    refine x_cv1z _ c_Md_readFilter_202 (by first | rfl | exact a1.1) (Nat.le_of_ble_eq_true rfl) (y_Md_closeAt (d + 1) a1.1 a6.1 a6.2.1 b1 b2 a2' a3 hp a4 a5 st a7) ?_
    rintro _ μ2 ⟨s2, hm2, ⟨S', hcl, rfl, e46, hSl, hst'⟩ | ⟨hcl, rfl⟩⟩
    · show kc_X _ _ _ _ _ [.int (bI true)] _ _
      have mm : mF μ μ2 s s2 := a1.to ⟨hm2.1, fun i hi => hm2.2.1 i (nin9 hi).2.2, fun q q1 q2 => hm2.2.2 q q1⟩
      have g2 := fmA_k a6 (μ' := μ2) (fun q q1 q2 => hm2.2.2 q (by omega))
      have hmem := clR_mem S hcl
      have hst2 : fST μ μ2 s s2 c S' wf1 af1 tf1 vf1 := ⟨mm, (hm2.2.1 40 (by decide)).trans a2', a3, e46, by omega, g2, fun q hh => a7 q (hmem q hh), oe, of, (hm2.2.2 157 (by decide)).trans b1, (hm2.2.2 158 (by decide)).trans b2, hst'⟩
      have hS'l : S'.length ≤ 6 := by omega
      refine x_if_ne c_Md_readFilter_205 (fun _ => ?_) (fun h => absurd h (by decide))
      refine x_al c_Md_readFilter_210 rfl ?_
      refine x_getE c_Md_readFilter_211 (by first | rfl | exact hm2.1) rfl (by first | exact e46 | rfl) ?_
      refine x_ifN_gt c_Md_readFilter_214 (by omega) (fun h214 => ?_) (fun h214 => ?_)
      · cases S' with
        | nil => exact absurd h214 (by decide)
        | cons q S' => exact hO.2.2 q S' hcl μ2 s2 _ _ hst2
      · refine x_il c_Md_readFilter_217 rfl ?_
        refine x_ri c_Md_readFilter_218 ?_
        have hnil : S' = [] := List.length_eq_zero_iff.mp (by omega)
        subst hnil
        exact hO.2.1 hcl μ2 s2 hst2
    · show kc_X _ _ _ _ _ [.int (bI false)] _ _
      refine x_if_ne c_Md_readFilter_205 (fun h => absurd (rfl) h) (fun _ => ?_)
      refine x_ci c_Md_readFilter_208 ?_
      refine x_ri c_Md_readFilter_209 ?_
      exact hO.1 hcl μ2 s2 ⟨a1.to ⟨hm2.1, fun i hi => hm2.2.1 i (nin9 hi).2.2, fun q q1 q2 => hm2.2.2 q q1⟩, ⟨_, _, _, _, fmA_k a6 (fun q q1 q2 => hm2.2.2 q (by omega))⟩, ⟨_, (hm2.2.2 157 (by decide)).trans b1⟩, ⟨_, (hm2.2.2 158 (by decide)).trans b2⟩⟩
  have stay : ∀ (c p : Nat) (q : Nat × Nat) (S : List (Nat × Nat)) (wf1 af1 tf1 : Nat → Int32) (vf1 : Nat → Int64), q.1 ≠ p → (∀ (μ2 : kc_M) (s2 : Nat → Int32) (jb jf : Option Value), fST μ μ2 s s2 (c) (q :: S) wf1 af1 tf1 vf1 → kc_X (kC j_Md_readFilter) (kc_Y kt kC (d + 3)) (fun w μ' => ∃ s' wf' af' tf' vf', mF μ μ' s s' ∧ fmA μ' wf' af' tf' vf' ∧ (∃ f, μ'.1 157 = some (ce_I 6 f)) ∧ (∃ f, μ'.1 158 = some (ce_I 6 f)) ∧ ((∃ t ty v F y, (flO tb (flP tb 200) 6 0 p0 to) = some (t, ty, v, F, y) ∧ w = some (.int (nI y)) ∧ s' 40 = nI (1 + fsz F) ∧ enM wf' af' tf' vf' (Fo.cons t ty v F Fo.nil) (-1) 0) ∨ ((flO tb (flP tb 200) 6 0 p0 to) = none ∧ w = some (.int (-1))))) 2 [some (.ref 136), some (.int (nI p0)), some (.int (nI p)), jb, jf] [] μ2 (0, 0)) → ((clR wf1 af1 (c) p (q :: S) none → ∀ (μ2 : kc_M) (s2 : Nat → Int32), fSE μ μ2 s s2 → ((fun w μ' => ∃ s' wf' af' tf' vf', mF μ μ' s s' ∧ fmA μ' wf' af' tf' vf' ∧ (∃ f, μ'.1 157 = some (ce_I 6 f)) ∧ (∃ f, μ'.1 158 = some (ce_I 6 f)) ∧ ((∃ t ty v F y, (flO tb (flP tb 200) 6 0 p0 to) = some (t, ty, v, F, y) ∧ w = some (.int (nI y)) ∧ s' 40 = nI (1 + fsz F) ∧ enM wf' af' tf' vf' (Fo.cons t ty v F Fo.nil) (-1) 0) ∨ ((flO tb (flP tb 200) 6 0 p0 to) = none ∧ w = some (.int (-1))))) : Option Value → kc_M → Prop) (some (.int (-1))) μ2) ∧ (clR wf1 af1 (c) p (q :: S) (some []) → ∀ (μ2 : kc_M) (s2 : Nat → Int32), fST μ μ2 s s2 (c) [] wf1 af1 tf1 vf1 → ((fun w μ' => ∃ s' wf' af' tf' vf', mF μ μ' s s' ∧ fmA μ' wf' af' tf' vf' ∧ (∃ f, μ'.1 157 = some (ce_I 6 f)) ∧ (∃ f, μ'.1 158 = some (ce_I 6 f)) ∧ ((∃ t ty v F y, (flO tb (flP tb 200) 6 0 p0 to) = some (t, ty, v, F, y) ∧ w = some (.int (nI y)) ∧ s' 40 = nI (1 + fsz F) ∧ enM wf' af' tf' vf' (Fo.cons t ty v F Fo.nil) (-1) 0) ∨ ((flO tb (flP tb 200) 6 0 p0 to) = none ∧ w = some (.int (-1))))) : Option Value → kc_M → Prop) (some (.int (nI p))) μ2) ∧ (∀ (q9 : Nat × Nat) (S9 : List (Nat × Nat)), clR wf1 af1 (c) p (q :: S) (some (q9 :: S9)) → ∀ (μ2 : kc_M) (s2 : Nat → Int32) (jb jf : Option Value), fST μ μ2 s s2 (c) (q9 :: S9) wf1 af1 tf1 vf1 → kc_X (kC j_Md_readFilter) (kc_Y kt kC (d + 3)) (fun w μ' => ∃ s' wf' af' tf' vf', mF μ μ' s s' ∧ fmA μ' wf' af' tf' vf' ∧ (∃ f, μ'.1 157 = some (ce_I 6 f)) ∧ (∃ f, μ'.1 158 = some (ce_I 6 f)) ∧ ((∃ t ty v F y, (flO tb (flP tb 200) 6 0 p0 to) = some (t, ty, v, F, y) ∧ w = some (.int (nI y)) ∧ s' 40 = nI (1 + fsz F) ∧ enM wf' af' tf' vf' (Fo.cons t ty v F Fo.nil) (-1) 0) ∨ ((flO tb (flP tb 200) 6 0 p0 to) = none ∧ w = some (.int (-1))))) 2 [some (.ref 136), some (.int (nI p0)), some (.int (nI p)), jb, jf] [] μ2 (0, 0))) := by
    intro c p q S wf1 af1 tf1 vf1 hne hX
    have hcl : ∀ r, clR wf1 af1 c p (q :: S) r → r = some (q :: S) := by
      intro r hr
      unfold clR at hr
      rw [if_neg hne] at hr
      exact hr
    refine ⟨fun hr => ?_, fun hr => ?_, fun q' S' hr => ?_⟩
    · cases hcl _ hr
    · have := hcl _ hr; cases this
    · have := hcl _ hr
      cases this
      exact hX
  have forest : ∀ (m g c p e f : Nat) (S0 : List (Nat × Nat)) (μ1 : kc_M) (s1 : Nat → Int32) (wf1 af1 tf1 : Nat → Int32) (vf1 : Nat → Int64) (jb jf : Option Value), fST μ μ1 s s1 (c) ((e, f) :: S0) wf1 af1 tf1 vf1 → g + (S0.length + 1) = 6 → p < e → e ≤ 200 → e - p < m → (∀ (F : Fo) (wf2 af2 tf2 : Nat → Int32) (vf2 : Nat → Int64), flP tb m g c p e = some F → rwK c wf1 af1 tf1 vf1 wf2 af2 tf2 vf2 → enM wf2 af2 tf2 vf2 F (nI f) c → ((clR wf2 af2 (c + fsz F) e ((e, f) :: S0) none → ∀ (μ2 : kc_M) (s2 : Nat → Int32), fSE μ μ2 s s2 → ((fun w μ' => ∃ s' wf' af' tf' vf', mF μ μ' s s' ∧ fmA μ' wf' af' tf' vf' ∧ (∃ f, μ'.1 157 = some (ce_I 6 f)) ∧ (∃ f, μ'.1 158 = some (ce_I 6 f)) ∧ ((∃ t ty v F y, (flO tb (flP tb 200) 6 0 p0 to) = some (t, ty, v, F, y) ∧ w = some (.int (nI y)) ∧ s' 40 = nI (1 + fsz F) ∧ enM wf' af' tf' vf' (Fo.cons t ty v F Fo.nil) (-1) 0) ∨ ((flO tb (flP tb 200) 6 0 p0 to) = none ∧ w = some (.int (-1))))) : Option Value → kc_M → Prop) (some (.int (-1))) μ2) ∧ (clR wf2 af2 (c + fsz F) e ((e, f) :: S0) (some []) → ∀ (μ2 : kc_M) (s2 : Nat → Int32), fST μ μ2 s s2 (c + fsz F) [] wf2 af2 tf2 vf2 → ((fun w μ' => ∃ s' wf' af' tf' vf', mF μ μ' s s' ∧ fmA μ' wf' af' tf' vf' ∧ (∃ f, μ'.1 157 = some (ce_I 6 f)) ∧ (∃ f, μ'.1 158 = some (ce_I 6 f)) ∧ ((∃ t ty v F y, (flO tb (flP tb 200) 6 0 p0 to) = some (t, ty, v, F, y) ∧ w = some (.int (nI y)) ∧ s' 40 = nI (1 + fsz F) ∧ enM wf' af' tf' vf' (Fo.cons t ty v F Fo.nil) (-1) 0) ∨ ((flO tb (flP tb 200) 6 0 p0 to) = none ∧ w = some (.int (-1))))) : Option Value → kc_M → Prop) (some (.int (nI e))) μ2) ∧ (∀ (q9 : Nat × Nat) (S9 : List (Nat × Nat)), clR wf2 af2 (c + fsz F) e ((e, f) :: S0) (some (q9 :: S9)) → ∀ (μ2 : kc_M) (s2 : Nat → Int32) (jb jf : Option Value), fST μ μ2 s s2 (c + fsz F) (q9 :: S9) wf2 af2 tf2 vf2 → kc_X (kC j_Md_readFilter) (kc_Y kt kC (d + 3)) (fun w μ' => ∃ s' wf' af' tf' vf', mF μ μ' s s' ∧ fmA μ' wf' af' tf' vf' ∧ (∃ f, μ'.1 157 = some (ce_I 6 f)) ∧ (∃ f, μ'.1 158 = some (ce_I 6 f)) ∧ ((∃ t ty v F y, (flO tb (flP tb 200) 6 0 p0 to) = some (t, ty, v, F, y) ∧ w = some (.int (nI y)) ∧ s' 40 = nI (1 + fsz F) ∧ enM wf' af' tf' vf' (Fo.cons t ty v F Fo.nil) (-1) 0) ∨ ((flO tb (flP tb 200) 6 0 p0 to) = none ∧ w = some (.int (-1))))) 2 [some (.ref 136), some (.int (nI p0)), some (.int (nI e)), jb, jf] [] μ2 (0, 0)))) → (flP tb m g c p e = none → ∀ (μ2 : kc_M) (s2 : Nat → Int32), fSE μ μ2 s s2 → ((fun w μ' => ∃ s' wf' af' tf' vf', mF μ μ' s s' ∧ fmA μ' wf' af' tf' vf' ∧ (∃ f, μ'.1 157 = some (ce_I 6 f)) ∧ (∃ f, μ'.1 158 = some (ce_I 6 f)) ∧ ((∃ t ty v F y, (flO tb (flP tb 200) 6 0 p0 to) = some (t, ty, v, F, y) ∧ w = some (.int (nI y)) ∧ s' 40 = nI (1 + fsz F) ∧ enM wf' af' tf' vf' (Fo.cons t ty v F Fo.nil) (-1) 0) ∨ ((flO tb (flP tb 200) 6 0 p0 to) = none ∧ w = some (.int (-1))))) : Option Value → kc_M → Prop) (some (.int (-1))) μ2) → kc_X (kC j_Md_readFilter) (kc_Y kt kC (d + 3)) (fun w μ' => ∃ s' wf' af' tf' vf', mF μ μ' s s' ∧ fmA μ' wf' af' tf' vf' ∧ (∃ f, μ'.1 157 = some (ce_I 6 f)) ∧ (∃ f, μ'.1 158 = some (ce_I 6 f)) ∧ ((∃ t ty v F y, (flO tb (flP tb 200) 6 0 p0 to) = some (t, ty, v, F, y) ∧ w = some (.int (nI y)) ∧ s' 40 = nI (1 + fsz F) ∧ enM wf' af' tf' vf' (Fo.cons t ty v F Fo.nil) (-1) 0) ∨ ((flO tb (flP tb 200) 6 0 p0 to) = none ∧ w = some (.int (-1))))) 2 [some (.ref 136), some (.int (nI p0)), some (.int (nI p)), jb, jf] [] μ1 (0, 0) := by
    intro m
    induction m with
    | zero => intro g c p e f S0 μ1 s1 wf1 af1 tf1 vf1 jb jf _ _ _ _ hm; exact absurd hm (Nat.not_lt_zero _)
    | succ m ih =>
      intro g c p e f S0 μ1 s1 wf1 af1 tf1 vf1 jb jf hST hg hpe he hm hsome hnone
      have hpne : p ≠ e := by omega
      rw [flP_s, if_neg hpne] at hnone
      refine stepA c p ((e, f) :: S0) μ1 s1 wf1 af1 tf1 vf1 jb jf hST (by omega) he ?_ ?_ ?_
      · intro x y ty v μ2 s2 wf2 af2 tf2 vf2 jb jf hc20 hS6 hel hlf hlp hST2 hrw hw ha ht hv
        have hel : el tb p e = some (x, y) := hel
        have i2 := el_in hel
        have hg1 : ¬ (20 ≤ c ∨ g = 0) := by have : S0.length + 1 < 6 := hS6; omega
        have hO : flO tb (flP tb m) g c p e = some (tb p, ty, v, Fo.nil, y) := by
          unfold flO
          rw [if_neg hg1, hel]
          dsimp only
          rw [if_pos hlf, hlp]
        have hO' : ∀ F', flP tb m g (c + 1 + 0) y e = some F' → flP tb (m + 1) g c p e = some (Fo.cons (tb p) ty v Fo.nil F') := by
          intro F' q
          rw [flP_s, if_neg hpne, hO]
          show (flP tb m g (c + 1 + 0) y e).map _ = _
          rw [q]; rfl
        by_cases hye : y = e
        · subst hye
          obtain ⟨m1, rfl⟩ : ∃ m1, m = m1 + 1 := ⟨m - 1, by omega⟩
          have hs := hsome _ wf2 af2 tf2 vf2 (hO' Fo.nil (by rw [flP_s, if_pos rfl])) hrw ⟨⟨hw, ha, fun _ => ⟨ht, hv⟩⟩, trivial, trivial⟩
          exact stepB (c + 1) y _ μ2 s2 wf2 af2 tf2 vf2 jb jf hST2 he hs
        · refine stepB (c + 1) y _ μ2 s2 wf2 af2 tf2 vf2 jb jf hST2 (by omega) (stay (c + 1) y (e, f) S0 wf2 af2 tf2 vf2 (fun q => hye q.symm) (fun μ3 s3 jb jf hST3 => ?_))
          refine ih g (c + 1) y e f S0 μ3 s3 wf2 af2 tf2 vf2 jb jf hST3 hg (by omega) he (by omega) (fun F' wf3 af3 tf3 vf3 hF' hrw' hen' => ?_) (fun q => hnone (by rw [hO]; show (flP tb m g (c + 1 + 0) y e).map _ = none; rw [show c + 1 + 0 = c + 1 from rfl, q]; rfl))
          have hs := hsome _ wf3 af3 tf3 vf3 (hO' F' hF') (hrw.to hrw' (by omega)) ⟨⟨(hrw' c (by omega)).1.trans hw, (hrw' c (by omega)).2.1.trans ha, fun _ => ⟨(hrw' c (by omega)).2.2.1.trans ht, fun q => (hrw' c (by omega)).2.2.2.trans (hv q)⟩⟩, trivial, hen'⟩
          rw [fsz_c, show c + (1 + fsz Fo.nil + fsz F') = c + 1 + fsz F' by have : fsz Fo.nil = 0 := rfl; omega] at hs
          exact hs
      · intro x y μ2 s2 wf2 af2 tf2 vf2 jb jf hc20 hS6 hel hlf hnode hST2 hrw hw ha
        have hel : el tb p e = some (x, y) := hel
        have i2 := el_in hel
        have hS6' : S0.length + 1 < 6 := hS6
        have hg1 : ¬ (20 ≤ c ∨ g = 0) := by omega
        have hlf' : ¬ lft (tb p) = true := by rw [hlf]; decide
        have hO1 : flP tb m (g - 1) (c + 1) x y = none → flO tb (flP tb m) g c p e = none := by
          intro q
          unfold flO
          rw [if_neg hg1, hel]
          dsimp only
          rw [if_neg hlf', if_pos hnode, q]
        have hO2 : ∀ Fi, flP tb m (g - 1) (c + 1) x y = some Fi → (tb p = 162 ∧ fln Fi ≠ 1) → flO tb (flP tb m) g c p e = none := by
          intro Fi q hb
          unfold flO
          rw [if_neg hg1, hel]
          dsimp only
          rw [if_neg hlf', if_pos hnode, q]
          dsimp only
          rw [if_pos hb]
        have hO3 : ∀ Fi, flP tb m (g - 1) (c + 1) x y = some Fi → ¬ (tb p = 162 ∧ fln Fi ≠ 1) → flO tb (flP tb m) g c p e = some (tb p, 0, 0, Fi, y) := by
          intro Fi q hb
          unfold flO
          rw [if_neg hg1, hel]
          dsimp only
          rw [if_neg hlf', if_pos hnode, q]
          dsimp only
          rw [if_neg hb]
        have clN : ∀ (Fi : Fo) (wf3 af3 tf3 : Nat → Int32) (vf3 : Nat → Int64), flP tb m (g - 1) (c + 1) x y = some Fi → rwK (c + 1) wf2 af2 tf2 vf2 wf3 af3 tf3 vf3 → enM wf3 af3 tf3 vf3 Fi (nI c) (c + 1) → c + 1 + fsz Fi ≤ 20 → ((clR wf3 af3 (c + 1 + fsz Fi) y ((y, c) :: (e, f) :: S0) none → ∀ (μ2 : kc_M) (s2 : Nat → Int32), fSE μ μ2 s s2 → ((fun w μ' => ∃ s' wf' af' tf' vf', mF μ μ' s s' ∧ fmA μ' wf' af' tf' vf' ∧ (∃ f, μ'.1 157 = some (ce_I 6 f)) ∧ (∃ f, μ'.1 158 = some (ce_I 6 f)) ∧ ((∃ t ty v F y, (flO tb (flP tb 200) 6 0 p0 to) = some (t, ty, v, F, y) ∧ w = some (.int (nI y)) ∧ s' 40 = nI (1 + fsz F) ∧ enM wf' af' tf' vf' (Fo.cons t ty v F Fo.nil) (-1) 0) ∨ ((flO tb (flP tb 200) 6 0 p0 to) = none ∧ w = some (.int (-1))))) : Option Value → kc_M → Prop) (some (.int (-1))) μ2) ∧ (clR wf3 af3 (c + 1 + fsz Fi) y ((y, c) :: (e, f) :: S0) (some []) → ∀ (μ2 : kc_M) (s2 : Nat → Int32), fST μ μ2 s s2 (c + 1 + fsz Fi) [] wf3 af3 tf3 vf3 → ((fun w μ' => ∃ s' wf' af' tf' vf', mF μ μ' s s' ∧ fmA μ' wf' af' tf' vf' ∧ (∃ f, μ'.1 157 = some (ce_I 6 f)) ∧ (∃ f, μ'.1 158 = some (ce_I 6 f)) ∧ ((∃ t ty v F y, (flO tb (flP tb 200) 6 0 p0 to) = some (t, ty, v, F, y) ∧ w = some (.int (nI y)) ∧ s' 40 = nI (1 + fsz F) ∧ enM wf' af' tf' vf' (Fo.cons t ty v F Fo.nil) (-1) 0) ∨ ((flO tb (flP tb 200) 6 0 p0 to) = none ∧ w = some (.int (-1))))) : Option Value → kc_M → Prop) (some (.int (nI y))) μ2) ∧ (∀ (q9 : Nat × Nat) (S9 : List (Nat × Nat)), clR wf3 af3 (c + 1 + fsz Fi) y ((y, c) :: (e, f) :: S0) (some (q9 :: S9)) → ∀ (μ2 : kc_M) (s2 : Nat → Int32) (jb jf : Option Value), fST μ μ2 s s2 (c + 1 + fsz Fi) (q9 :: S9) wf3 af3 tf3 vf3 → kc_X (kC j_Md_readFilter) (kc_Y kt kC (d + 3)) (fun w μ' => ∃ s' wf' af' tf' vf', mF μ μ' s s' ∧ fmA μ' wf' af' tf' vf' ∧ (∃ f, μ'.1 157 = some (ce_I 6 f)) ∧ (∃ f, μ'.1 158 = some (ce_I 6 f)) ∧ ((∃ t ty v F y, (flO tb (flP tb 200) 6 0 p0 to) = some (t, ty, v, F, y) ∧ w = some (.int (nI y)) ∧ s' 40 = nI (1 + fsz F) ∧ enM wf' af' tf' vf' (Fo.cons t ty v F Fo.nil) (-1) 0) ∨ ((flO tb (flP tb 200) 6 0 p0 to) = none ∧ w = some (.int (-1))))) 2 [some (.ref 136), some (.int (nI p0)), some (.int (nI y)), jb, jf] [] μ2 (0, 0))) := by
          intro Fi wf3 af3 tf3 vf3 hFi hrw3 hen3 h20
          have hcnt := enM_cnt Fi c (c + 1) (by omega) h20 hen3
          have hw3 : wf3 c = nI (tb p) := (hrw3 c (by omega)).1.trans hw
          have h256 := htb p
          have hbf : badF wf3 af3 (c + 1 + fsz Fi) c ↔ (tb p = 162 ∧ fln Fi ≠ 1) := by
            unfold badF
            rw [show c + 1 + fsz Fi - (c + 1) = fsz Fi by omega, hcnt, hw3, nI_eq (by omega) (by omega)]
          have hcl : ∀ r, clR wf3 af3 (c + 1 + fsz Fi) y ((y, c) :: (e, f) :: S0) r → ((tb p = 162 ∧ fln Fi ≠ 1) ∧ r = none) ∨ (¬ (tb p = 162 ∧ fln Fi ≠ 1) ∧ clR wf3 af3 (c + 1 + fsz Fi) y ((e, f) :: S0) r) := by
            intro r hr
            unfold clR at hr
            rw [if_pos rfl] at hr
            rcases hr with ⟨q1, q2⟩ | ⟨q1, q2⟩
            · exact Or.inl ⟨hbf.mp q1, q2⟩
            · exact Or.inr ⟨fun q => q1 (hbf.mpr q), q2⟩
          have good : ¬ (tb p = 162 ∧ fln Fi ≠ 1) → ((clR wf3 af3 (c + 1 + fsz Fi) y ((e, f) :: S0) none → ∀ (μ2 : kc_M) (s2 : Nat → Int32), fSE μ μ2 s s2 → ((fun w μ' => ∃ s' wf' af' tf' vf', mF μ μ' s s' ∧ fmA μ' wf' af' tf' vf' ∧ (∃ f, μ'.1 157 = some (ce_I 6 f)) ∧ (∃ f, μ'.1 158 = some (ce_I 6 f)) ∧ ((∃ t ty v F y, (flO tb (flP tb 200) 6 0 p0 to) = some (t, ty, v, F, y) ∧ w = some (.int (nI y)) ∧ s' 40 = nI (1 + fsz F) ∧ enM wf' af' tf' vf' (Fo.cons t ty v F Fo.nil) (-1) 0) ∨ ((flO tb (flP tb 200) 6 0 p0 to) = none ∧ w = some (.int (-1))))) : Option Value → kc_M → Prop) (some (.int (-1))) μ2) ∧ (clR wf3 af3 (c + 1 + fsz Fi) y ((e, f) :: S0) (some []) → ∀ (μ2 : kc_M) (s2 : Nat → Int32), fST μ μ2 s s2 (c + 1 + fsz Fi) [] wf3 af3 tf3 vf3 → ((fun w μ' => ∃ s' wf' af' tf' vf', mF μ μ' s s' ∧ fmA μ' wf' af' tf' vf' ∧ (∃ f, μ'.1 157 = some (ce_I 6 f)) ∧ (∃ f, μ'.1 158 = some (ce_I 6 f)) ∧ ((∃ t ty v F y, (flO tb (flP tb 200) 6 0 p0 to) = some (t, ty, v, F, y) ∧ w = some (.int (nI y)) ∧ s' 40 = nI (1 + fsz F) ∧ enM wf' af' tf' vf' (Fo.cons t ty v F Fo.nil) (-1) 0) ∨ ((flO tb (flP tb 200) 6 0 p0 to) = none ∧ w = some (.int (-1))))) : Option Value → kc_M → Prop) (some (.int (nI y))) μ2) ∧ (∀ (q9 : Nat × Nat) (S9 : List (Nat × Nat)), clR wf3 af3 (c + 1 + fsz Fi) y ((e, f) :: S0) (some (q9 :: S9)) → ∀ (μ2 : kc_M) (s2 : Nat → Int32) (jb jf : Option Value), fST μ μ2 s s2 (c + 1 + fsz Fi) (q9 :: S9) wf3 af3 tf3 vf3 → kc_X (kC j_Md_readFilter) (kc_Y kt kC (d + 3)) (fun w μ' => ∃ s' wf' af' tf' vf', mF μ μ' s s' ∧ fmA μ' wf' af' tf' vf' ∧ (∃ f, μ'.1 157 = some (ce_I 6 f)) ∧ (∃ f, μ'.1 158 = some (ce_I 6 f)) ∧ ((∃ t ty v F y, (flO tb (flP tb 200) 6 0 p0 to) = some (t, ty, v, F, y) ∧ w = some (.int (nI y)) ∧ s' 40 = nI (1 + fsz F) ∧ enM wf' af' tf' vf' (Fo.cons t ty v F Fo.nil) (-1) 0) ∨ ((flO tb (flP tb 200) 6 0 p0 to) = none ∧ w = some (.int (-1))))) 2 [some (.ref 136), some (.int (nI p0)), some (.int (nI y)), jb, jf] [] μ2 (0, 0))) := by
            intro hb
            have hO := hO3 Fi hFi hb
            have hO' : ∀ F', flP tb m g (c + 1 + fsz Fi) y e = some F' → flP tb (m + 1) g c p e = some (Fo.cons (tb p) 0 0 Fi F') := by
              intro F' q
              rw [flP_s, if_neg hpne, hO]
              dsimp only
              rw [q]; rfl
            have hnl : lft (tb p) = true → tf3 c = (0 : Int32) ∧ (tb p ≠ 135 → vf3 c = (0 : Int64)) := fun q => absurd q hlf'
            have ha3 : af3 c = nI f := (hrw3 c (by omega)).2.1.trans ha
            by_cases hye : y = e
            · subst hye
              obtain ⟨m1, rfl⟩ : ∃ m1, m = m1 + 1 := ⟨m - 1, by omega⟩
              have hs := hsome _ wf3 af3 tf3 vf3 (hO' Fo.nil (by rw [flP_s, if_pos rfl])) (hrw.to hrw3 (by omega)) ⟨⟨hw3, ha3, hnl⟩, hen3, trivial⟩
              rw [fsz_c, show c + (1 + fsz Fi + fsz Fo.nil) = c + 1 + fsz Fi by have : fsz Fo.nil = 0 := rfl; omega] at hs
              exact hs
            · refine stay (c + 1 + fsz Fi) y (e, f) S0 wf3 af3 tf3 vf3 (fun q => hye q.symm) (fun μ4 s4 jb jf hST4 => ?_)
              refine ih g (c + 1 + fsz Fi) y e f S0 μ4 s4 wf3 af3 tf3 vf3 jb jf hST4 hg (by omega) he (by omega) (fun F' wf4 af4 tf4 vf4 hF' hrw4 hen4 => ?_) (fun q => hnone (by rw [hO]; dsimp only; rw [q]; rfl))
              have hs := hsome _ wf4 af4 tf4 vf4 (hO' F' hF') ((hrw.to hrw3 (by omega)).to hrw4 (by omega)) ⟨⟨(hrw4 c (by omega)).1.trans hw3, (hrw4 c (by omega)).2.1.trans ha3, fun q => absurd q hlf'⟩, enM_k Fi _ _ hen3 (fun j j1 j2 => hrw4 j (by omega)), hen4⟩
              rw [fsz_c, show c + (1 + fsz Fi + fsz F') = c + 1 + fsz Fi + fsz F' by omega] at hs
              exact hs
          refine ⟨fun hr => ?_, fun hr => ?_, fun q S' hr => ?_⟩
          · rcases hcl _ hr with ⟨q1, _⟩ | ⟨q1, q2⟩
            · exact hnone (by rw [hO2 Fi hFi q1])
            · exact (good q1).1 q2
          · rcases hcl _ hr with ⟨q1, q2⟩ | ⟨q1, q2⟩
            · cases q2
            · exact (good q1).2.1 q2
          · rcases hcl _ hr with ⟨q1, q2⟩ | ⟨q1, q2⟩
            · cases q2
            · exact (good q1).2.2 q S' q2
        by_cases hxy : x = y
        · subst hxy
          obtain ⟨m1, rfl⟩ : ∃ m1, m = m1 + 1 := ⟨m - 1, by omega⟩
          exact stepB (c + 1) x _ μ2 s2 wf2 af2 tf2 vf2 jb jf hST2 (by omega) (clN Fo.nil wf2 af2 tf2 vf2 (by rw [flP_s, if_pos rfl]) (fun _ _ => ⟨rfl, rfl, rfl, rfl⟩) trivial hc20)
        · refine stepB (c + 1) x _ μ2 s2 wf2 af2 tf2 vf2 jb jf hST2 (by omega) (stay (c + 1) x (y, c) ((e, f) :: S0) wf2 af2 tf2 vf2 (fun q => hxy q.symm) (fun μ3 s3 jb jf hST3 => ?_))
          exact ih (g - 1) (c + 1) x y c ((e, f) :: S0) μ3 s3 wf2 af2 tf2 vf2 jb jf hST3 (by show g - 1 + (S0.length + 1 + 1) = 6; omega) (by omega) (by omega) (by omega) (fun Fi wf3 af3 tf3 vf3 hFi hrw3 hen3 => clN Fi wf3 af3 tf3 vf3 hFi hrw3 hen3 (flP_in _ _ _ _ _ _ hFi (by omega)).1) (fun q => hnone (by rw [hO1 q]))
      · intro hc μ2 s2 hSE
        refine hnone ?_ μ2 s2 hSE
        have hO : flO tb (flP tb m) g c p e = none := by
          rcases hc with q | q | q | ⟨x, y, q1, q2⟩
          · exact flO_20 (Or.inl q)
          · exact flO_20 (Or.inr (by have q : 6 ≤ S0.length + 1 := q; omega))
          · exact flO_el q
          · have q1 : el tb p e = some (x, y) := q1
            rcases q2 with ⟨q2, q3⟩ | ⟨q2, q3⟩
            · unfold flO
              by_cases hz : 20 ≤ c ∨ g = 0
              · rw [if_pos hz]
              · rw [if_neg hz, q1]
                dsimp only
                rw [if_pos q2, q3]
            · exact flO_tag rfl q2 q3
        rw [hO]
  have done : ∀ (t : Nat) (ty : Int32) (v : Int64) (F : Fo) (y : Nat) (μ2 : kc_M) (s2 : Nat → Int32) (wf2 af2 tf2 : Nat → Int32) (vf2 : Nat → Int64), (flO tb (flP tb 200) 6 0 p0 to) = some (t, ty, v, F, y) → fST μ μ2 s s2 (1 + fsz F) [] wf2 af2 tf2 vf2 → enM wf2 af2 tf2 vf2 (Fo.cons t ty v F Fo.nil) (-1) 0 → ((fun w μ' => ∃ s' wf' af' tf' vf', mF μ μ' s s' ∧ fmA μ' wf' af' tf' vf' ∧ (∃ f, μ'.1 157 = some (ce_I 6 f)) ∧ (∃ f, μ'.1 158 = some (ce_I 6 f)) ∧ ((∃ t ty v F y, (flO tb (flP tb 200) 6 0 p0 to) = some (t, ty, v, F, y) ∧ w = some (.int (nI y)) ∧ s' 40 = nI (1 + fsz F) ∧ enM wf' af' tf' vf' (Fo.cons t ty v F Fo.nil) (-1) 0) ∨ ((flO tb (flP tb 200) 6 0 p0 to) = none ∧ w = some (.int (-1))))) : Option Value → kc_M → Prop) (some (.int (nI y))) μ2 := by
    intro t ty v F y μ2 s2 wf2 af2 tf2 vf2 hO hST2 hen
    obtain ⟨a1, a2', a3, a4, a5, a6, a7, oe, of, b1, b2, st⟩ := hST2
    exact ⟨s2, wf2, af2, tf2, vf2, a1, a6, ⟨_, b1⟩, ⟨_, b2⟩, Or.inl ⟨t, ty, v, F, y, hO, rfl, a2', hen⟩⟩
  have failed : (flO tb (flP tb 200) 6 0 p0 to) = none → ∀ (μ2 : kc_M) (s2 : Nat → Int32), fSE μ μ2 s s2 → ((fun w μ' => ∃ s' wf' af' tf' vf', mF μ μ' s s' ∧ fmA μ' wf' af' tf' vf' ∧ (∃ f, μ'.1 157 = some (ce_I 6 f)) ∧ (∃ f, μ'.1 158 = some (ce_I 6 f)) ∧ ((∃ t ty v F y, (flO tb (flP tb 200) 6 0 p0 to) = some (t, ty, v, F, y) ∧ w = some (.int (nI y)) ∧ s' 40 = nI (1 + fsz F) ∧ enM wf' af' tf' vf' (Fo.cons t ty v F Fo.nil) (-1) 0) ∨ ((flO tb (flP tb 200) 6 0 p0 to) = none ∧ w = some (.int (-1))))) : Option Value → kc_M → Prop) (some (.int (-1))) μ2 := by
    intro hO μ2 s2 ⟨a1, ⟨wf2, af2, tf2, vf2, a2⟩, a3, a4⟩
    exact ⟨s2, wf2, af2, tf2, vf2, a1, a2, a3, a4, Or.inr ⟨hO, rfl⟩⟩
  have nilO : ∀ (c p : Nat) (wf2 af2 tf2 : Nat → Int32) (vf2 : Nat → Int64), (∀ (μ2 : kc_M) (s2 : Nat → Int32), fST μ μ2 s s2 c [] wf2 af2 tf2 vf2 → ((fun w μ' => ∃ s' wf' af' tf' vf', mF μ μ' s s' ∧ fmA μ' wf' af' tf' vf' ∧ (∃ f, μ'.1 157 = some (ce_I 6 f)) ∧ (∃ f, μ'.1 158 = some (ce_I 6 f)) ∧ ((∃ t ty v F y, (flO tb (flP tb 200) 6 0 p0 to) = some (t, ty, v, F, y) ∧ w = some (.int (nI y)) ∧ s' 40 = nI (1 + fsz F) ∧ enM wf' af' tf' vf' (Fo.cons t ty v F Fo.nil) (-1) 0) ∨ ((flO tb (flP tb 200) 6 0 p0 to) = none ∧ w = some (.int (-1))))) : Option Value → kc_M → Prop) (some (.int (nI p))) μ2) → ((clR wf2 af2 (c) p [] none → ∀ (μ2 : kc_M) (s2 : Nat → Int32), fSE μ μ2 s s2 → ((fun w μ' => ∃ s' wf' af' tf' vf', mF μ μ' s s' ∧ fmA μ' wf' af' tf' vf' ∧ (∃ f, μ'.1 157 = some (ce_I 6 f)) ∧ (∃ f, μ'.1 158 = some (ce_I 6 f)) ∧ ((∃ t ty v F y, (flO tb (flP tb 200) 6 0 p0 to) = some (t, ty, v, F, y) ∧ w = some (.int (nI y)) ∧ s' 40 = nI (1 + fsz F) ∧ enM wf' af' tf' vf' (Fo.cons t ty v F Fo.nil) (-1) 0) ∨ ((flO tb (flP tb 200) 6 0 p0 to) = none ∧ w = some (.int (-1))))) : Option Value → kc_M → Prop) (some (.int (-1))) μ2) ∧ (clR wf2 af2 (c) p [] (some []) → ∀ (μ2 : kc_M) (s2 : Nat → Int32), fST μ μ2 s s2 (c) [] wf2 af2 tf2 vf2 → ((fun w μ' => ∃ s' wf' af' tf' vf', mF μ μ' s s' ∧ fmA μ' wf' af' tf' vf' ∧ (∃ f, μ'.1 157 = some (ce_I 6 f)) ∧ (∃ f, μ'.1 158 = some (ce_I 6 f)) ∧ ((∃ t ty v F y, (flO tb (flP tb 200) 6 0 p0 to) = some (t, ty, v, F, y) ∧ w = some (.int (nI y)) ∧ s' 40 = nI (1 + fsz F) ∧ enM wf' af' tf' vf' (Fo.cons t ty v F Fo.nil) (-1) 0) ∨ ((flO tb (flP tb 200) 6 0 p0 to) = none ∧ w = some (.int (-1))))) : Option Value → kc_M → Prop) (some (.int (nI p))) μ2) ∧ (∀ (q9 : Nat × Nat) (S9 : List (Nat × Nat)), clR wf2 af2 (c) p [] (some (q9 :: S9)) → ∀ (μ2 : kc_M) (s2 : Nat → Int32) (jb jf : Option Value), fST μ μ2 s s2 (c) (q9 :: S9) wf2 af2 tf2 vf2 → kc_X (kC j_Md_readFilter) (kc_Y kt kC (d + 3)) (fun w μ' => ∃ s' wf' af' tf' vf', mF μ μ' s s' ∧ fmA μ' wf' af' tf' vf' ∧ (∃ f, μ'.1 157 = some (ce_I 6 f)) ∧ (∃ f, μ'.1 158 = some (ce_I 6 f)) ∧ ((∃ t ty v F y, (flO tb (flP tb 200) 6 0 p0 to) = some (t, ty, v, F, y) ∧ w = some (.int (nI y)) ∧ s' 40 = nI (1 + fsz F) ∧ enM wf' af' tf' vf' (Fo.cons t ty v F Fo.nil) (-1) 0) ∨ ((flO tb (flP tb 200) 6 0 p0 to) = none ∧ w = some (.int (-1))))) 2 [some (.ref 136), some (.int (nI p0)), some (.int (nI p)), jb, jf] [] μ2 (0, 0))) := by
    intro c p wf2 af2 tf2 vf2 hQ
    refine ⟨fun hr => ?_, fun _ => hQ, fun q S' hr => ?_⟩
    · have hr : (none : Option (List (Nat × Nat))) = some [] := hr; cases hr
    · have hr : some (q :: S') = some [] := hr; cases hr
  have first : kc_X (kC j_Md_readFilter) (kc_Y kt kC (d + 3)) (fun w μ' => ∃ s' wf' af' tf' vf', mF μ μ' s s' ∧ fmA μ' wf' af' tf' vf' ∧ (∃ f, μ'.1 157 = some (ce_I 6 f)) ∧ (∃ f, μ'.1 158 = some (ce_I 6 f)) ∧ ((∃ t ty v F y, (flO tb (flP tb 200) 6 0 p0 to) = some (t, ty, v, F, y) ∧ w = some (.int (nI y)) ∧ s' 40 = nI (1 + fsz F) ∧ enM wf' af' tf' vf' (Fo.cons t ty v F Fo.nil) (-1) 0) ∨ ((flO tb (flP tb 200) 6 0 p0 to) = none ∧ w = some (.int (-1))))) 2 [some (.ref 136), some (.int (nI p0)), some (.int (nI p0)), none, none] [] μ (0, 0) := by
    refine stepA 0 p0 [] μ s wf af tf vf none none ⟨mF.re h0, h40, Nat.zero_le _, h46, Nat.zero_le _, hA, fun q hh => absurd hh (List.not_mem_nil), oe, of, m1, m2, trivial⟩ hp hto ?_ ?_ ?_
    · intro x y ty v μ2 s2 wf2 af2 tf2 vf2 jb jf hc20 hS6 hel hlf hlp hST2 hrw hw ha ht hv
      have hel : el tb p0 to = some (x, y) := hel
      have i2 := el_in hel
      have hO : (flO tb (flP tb 200) 6 0 p0 to) = some (tb p0, ty, v, Fo.nil, y) := by
        unfold flO
        rw [if_neg (by omega), hel]
        dsimp only
        rw [if_pos hlf, hlp]
      exact stepB 1 y [] μ2 s2 wf2 af2 tf2 vf2 jb jf hST2 (by omega) (nilO 1 y wf2 af2 tf2 vf2 (fun μ3 s3 h3 => done _ _ _ _ _ μ3 s3 wf2 af2 tf2 vf2 hO h3 ⟨⟨hw, ha, fun _ => ⟨ht, hv⟩⟩, trivial, trivial⟩))
    · intro x y μ2 s2 wf2 af2 tf2 vf2 jb jf hc20 hS6 hel hlf hnode hST2 hrw hw ha
      have hel : el tb p0 to = some (x, y) := hel
      have i2 := el_in hel
      have hlf' : ¬ lft (tb p0) = true := by rw [hlf]; decide
      have h256 := htb p0
      have hO1 : flP tb 200 5 1 x y = none → (flO tb (flP tb 200) 6 0 p0 to) = none := by
        intro q
        unfold flO
        rw [if_neg (by omega), hel]
        dsimp only
        rw [if_neg hlf', if_pos hnode, q]
      have clN : ∀ (Fi : Fo) (wf3 af3 tf3 : Nat → Int32) (vf3 : Nat → Int64), flP tb 200 5 1 x y = some Fi → rwK 1 wf2 af2 tf2 vf2 wf3 af3 tf3 vf3 → enM wf3 af3 tf3 vf3 Fi (nI 0) 1 → 1 + fsz Fi ≤ 20 → ((clR wf3 af3 (1 + fsz Fi) y [(y, 0)] none → ∀ (μ2 : kc_M) (s2 : Nat → Int32), fSE μ μ2 s s2 → ((fun w μ' => ∃ s' wf' af' tf' vf', mF μ μ' s s' ∧ fmA μ' wf' af' tf' vf' ∧ (∃ f, μ'.1 157 = some (ce_I 6 f)) ∧ (∃ f, μ'.1 158 = some (ce_I 6 f)) ∧ ((∃ t ty v F y, (flO tb (flP tb 200) 6 0 p0 to) = some (t, ty, v, F, y) ∧ w = some (.int (nI y)) ∧ s' 40 = nI (1 + fsz F) ∧ enM wf' af' tf' vf' (Fo.cons t ty v F Fo.nil) (-1) 0) ∨ ((flO tb (flP tb 200) 6 0 p0 to) = none ∧ w = some (.int (-1))))) : Option Value → kc_M → Prop) (some (.int (-1))) μ2) ∧ (clR wf3 af3 (1 + fsz Fi) y [(y, 0)] (some []) → ∀ (μ2 : kc_M) (s2 : Nat → Int32), fST μ μ2 s s2 (1 + fsz Fi) [] wf3 af3 tf3 vf3 → ((fun w μ' => ∃ s' wf' af' tf' vf', mF μ μ' s s' ∧ fmA μ' wf' af' tf' vf' ∧ (∃ f, μ'.1 157 = some (ce_I 6 f)) ∧ (∃ f, μ'.1 158 = some (ce_I 6 f)) ∧ ((∃ t ty v F y, (flO tb (flP tb 200) 6 0 p0 to) = some (t, ty, v, F, y) ∧ w = some (.int (nI y)) ∧ s' 40 = nI (1 + fsz F) ∧ enM wf' af' tf' vf' (Fo.cons t ty v F Fo.nil) (-1) 0) ∨ ((flO tb (flP tb 200) 6 0 p0 to) = none ∧ w = some (.int (-1))))) : Option Value → kc_M → Prop) (some (.int (nI y))) μ2) ∧ (∀ (q9 : Nat × Nat) (S9 : List (Nat × Nat)), clR wf3 af3 (1 + fsz Fi) y [(y, 0)] (some (q9 :: S9)) → ∀ (μ2 : kc_M) (s2 : Nat → Int32) (jb jf : Option Value), fST μ μ2 s s2 (1 + fsz Fi) (q9 :: S9) wf3 af3 tf3 vf3 → kc_X (kC j_Md_readFilter) (kc_Y kt kC (d + 3)) (fun w μ' => ∃ s' wf' af' tf' vf', mF μ μ' s s' ∧ fmA μ' wf' af' tf' vf' ∧ (∃ f, μ'.1 157 = some (ce_I 6 f)) ∧ (∃ f, μ'.1 158 = some (ce_I 6 f)) ∧ ((∃ t ty v F y, (flO tb (flP tb 200) 6 0 p0 to) = some (t, ty, v, F, y) ∧ w = some (.int (nI y)) ∧ s' 40 = nI (1 + fsz F) ∧ enM wf' af' tf' vf' (Fo.cons t ty v F Fo.nil) (-1) 0) ∨ ((flO tb (flP tb 200) 6 0 p0 to) = none ∧ w = some (.int (-1))))) 2 [some (.ref 136), some (.int (nI p0)), some (.int (nI y)), jb, jf] [] μ2 (0, 0))) := by
        intro Fi wf3 af3 tf3 vf3 hFi hrw3 hen3 h20
        have hcnt := enM_cnt Fi 0 1 (by omega) h20 hen3
        have hw3 : wf3 0 = nI (tb p0) := (hrw3 0 (by omega)).1.trans hw
        have hbf : badF wf3 af3 (1 + fsz Fi) 0 ↔ (tb p0 = 162 ∧ fln Fi ≠ 1) := by
          unfold badF
          rw [show 1 + fsz Fi - (0 + 1) = fsz Fi by omega, show 0 + 1 = 1 from rfl, hcnt, hw3, nI_eq (by omega) (by omega)]
        by_cases hb : tb p0 = 162 ∧ fln Fi ≠ 1
        · have hO : (flO tb (flP tb 200) 6 0 p0 to) = none := by
            unfold flO
            rw [if_neg (by omega), hel]
            dsimp only
            rw [if_neg hlf', if_pos hnode, show 6 - 1 = 5 from rfl, show 0 + 1 = 1 from rfl, hFi]
            dsimp only
            rw [if_pos hb]
          have hcl : ∀ r, clR wf3 af3 (1 + fsz Fi) y [(y, 0)] r → r = none := by
            intro r hr
            unfold clR at hr
            rw [if_pos rfl] at hr
            rcases hr with ⟨_, q2⟩ | ⟨q1, _⟩
            · exact q2
            · exact absurd (hbf.mpr hb) q1
          refine ⟨fun _ => failed hO, fun hr => ?_, fun q S' hr => ?_⟩
          · cases hcl _ hr
          · cases hcl _ hr
        · have hO : (flO tb (flP tb 200) 6 0 p0 to) = some (tb p0, 0, 0, Fi, y) := by
            unfold flO
            rw [if_neg (by omega), hel]
            dsimp only
            rw [if_neg hlf', if_pos hnode, show 6 - 1 = 5 from rfl, show 0 + 1 = 1 from rfl, hFi]
            dsimp only
            rw [if_neg hb]
          have hn := nilO (1 + fsz Fi) y wf3 af3 tf3 vf3 (fun μ3 s3 h3 => done _ _ _ _ _ μ3 s3 wf3 af3 tf3 vf3 hO h3 ⟨⟨hw3, (hrw3 0 (by omega)).2.1.trans ha, fun q => absurd q hlf'⟩, hen3, trivial⟩)
          have hcl : ∀ r, clR wf3 af3 (1 + fsz Fi) y [(y, 0)] r → clR wf3 af3 (1 + fsz Fi) y [] r := by
            intro r hr
            unfold clR at hr
            rw [if_pos rfl] at hr
            rcases hr with ⟨q1, _⟩ | ⟨_, q2⟩
            · exact absurd (hbf.mp q1) hb
            · exact q2
          exact ⟨fun hr => hn.1 (hcl _ hr), fun hr => hn.2.1 (hcl _ hr), fun q S' hr => hn.2.2 q S' (hcl _ hr)⟩
      by_cases hxy : x = y
      · subst hxy
        exact stepB 1 x _ μ2 s2 wf2 af2 tf2 vf2 jb jf hST2 (by omega) (clN Fo.nil wf2 af2 tf2 vf2 (by rw [flP_s, if_pos rfl]) (fun _ _ => ⟨rfl, rfl, rfl, rfl⟩) trivial (by decide))
      · refine stepB 1 x _ μ2 s2 wf2 af2 tf2 vf2 jb jf hST2 (by omega) (stay 1 x (y, 0) [] wf2 af2 tf2 vf2 (fun q => hxy q.symm) (fun μ3 s3 jb jf hST3 => ?_))
        exact forest 200 5 1 x y 0 [] μ3 s3 wf2 af2 tf2 vf2 jb jf hST3 rfl (by omega) (by omega) (by omega) (fun Fi wf3 af3 tf3 vf3 hFi hrw3 hen3 => clN Fi wf3 af3 tf3 vf3 hFi hrw3 hen3 (flP_in _ _ _ _ _ _ hFi (by omega)).1) (fun q => failed (hO1 q))
    · intro hc
      refine failed ?_
      rcases hc with q | q | q | ⟨x, y, q1, q2⟩
      · exact absurd q (by decide)
      · exact absurd q (by decide)
      · exact flO_el q
      · have q1 : el tb p0 to = some (x, y) := q1
        rcases q2 with ⟨q2, q3⟩ | ⟨q2, q3⟩
        · unfold flO
          rw [if_neg (by omega), q1]
          dsimp only
          rw [if_pos q2, q3]
        · exact flO_tag rfl q2 q3
  refine x_il c_Md_readFilter_0 rfl ?_
  refine x_is [_, _, _, _, _] c_Md_readFilter_1 rfl ?_
  exact first
