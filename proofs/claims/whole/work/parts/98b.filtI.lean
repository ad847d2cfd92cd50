/-! the class reads filters -/
set_option maxRecDepth 100000 in
set_option maxHeartbeats 4000000 in
theorem y_Fi_readPair (d : Nat) {μ : kc_M} {tb : Nat → Nat} {sz : Nat} {ix : Int32} (htb : ∀ j, tb j < 256) {r : RS} (hr : rd_r μ tb sz ix r) (h : rok sz r) {c : Nat} {kf tf : Nat → Int32} {vf : Nat → Int64} {ef : Nat → Int32} (hA : fiA μ c kf tf vf ef) {i t : Nat} (hi : i < 20) (hki : kf i = nI t) : kc_Y kt kC (d + 4) j_Fi_readPair [.ref 128, .ref 1, .int (nI i)] μ (fun w μ' => w = none ∧ rd_r μ' tb sz ix (rpR tb t r) ∧ fiA μ' c kf (upd tf i (rpT tb t r)) (vp_updL vf i (rpV tb t r)) ef ∧ ∀ q, q ≠ 1 → q < 128 ∨ 132 < q → μ'.1 q = μ.1 q) := by
  refine ⟨Nat.le_of_ble_eq_true rfl, ?_⟩
  have h1 := rok_E (tb := tb) (tag := nI t) h
  have h2 := rok_S (tb := tb) (tag := nI 4) h1.1
  have h3 := rok_S (tb := tb) (tag := nI 4) h2.1
  have hz := h.2.2
  have A0 := hA
  refine x_al c_Fi_readPair_0 rfl ?_
  refine x_al c_Fi_readPair_1 rfl ?_
  refine x_get c_Fi_readPair_2 (by first | rfl | exact hr.1 | exact hA.1 | exact hA.2.1 | exact hr1.1 | exact A1.1 | exact A1.2.2.1 | exact hr2.1 | exact A2.1 | exact A2.2.2.1 | exact A2.2.2.2.1 | exact hr3.1 | exact A3.1 | exact A3.2.2.2.1 | exact kc_gs) rfl ?_
  refine x_il c_Fi_readPair_5 rfl ?_
  refine x_ialdE c_Fi_readPair_6 (by first | rfl | exact hr.1 | exact hA.1 | exact hA.2.1 | exact hr1.1 | exact A1.1 | exact A1.2.2.1 | exact hr2.1 | exact A2.1 | exact A2.2.2.1 | exact A2.2.2.2.1 | exact hr3.1 | exact A3.1 | exact A3.2.2.2.1 | exact kc_gs) (by omega) (by omega) (hki) ?_
  refine x_cv1z _ c_Fi_readPair_7 (by first | rfl | exact hr.1 | exact hA.1 | exact hA.2.1 | exact hr1.1 | exact A1.1 | exact A1.2.2.1 | exact hr2.1 | exact A2.1 | exact A2.2.2.1 | exact A2.2.2.2.1 | exact hr3.1 | exact A3.1 | exact A3.2.2.2.1 | exact kc_gs) (Nat.le_of_ble_eq_true rfl) (y_Rd_enter (d + 2) hr h htb (tag := nI t)) ?_
  rintro _ μ1 ⟨rfl, hr1, f1⟩
  have A1 := fiA_k hA (μ' := μ1) (fun q q1 q2 => f1 q (by omega))
  show kc_X _ _ _ _ _ [.int (nI r.2.1)] _ _
  refine x_is [_, _, _, _] c_Fi_readPair_10 rfl ?_
  refine x_al c_Fi_readPair_11 rfl ?_
  refine x_ci c_Fi_readPair_12 ?_
  refine x_cv1z _ c_Fi_readPair_13 (by first | rfl | exact hr.1 | exact hA.1 | exact hA.2.1 | exact hr1.1 | exact A1.1 | exact A1.2.2.1 | exact hr2.1 | exact A2.1 | exact A2.2.2.1 | exact A2.2.2.2.1 | exact hr3.1 | exact A3.1 | exact A3.2.2.2.1 | exact kc_gs) (Nat.le_of_ble_eq_true rfl) (y_Rd_span (d + 1) hr1 h1.1 htb (tag := nI 4)) ?_
  rintro _ μ2 ⟨rfl, hr2, f2⟩
  have A2 := fiA_k A1 (μ' := μ2) (fun q q1 q2 => f2 q (by omega))
  show kc_X _ _ _ _ _ [] _ _
  refine x_al c_Fi_readPair_16 rfl ?_
  refine x_get c_Fi_readPair_17 (by first | rfl | exact hr.1 | exact hA.1 | exact hA.2.1 | exact hr1.1 | exact A1.1 | exact A1.2.2.1 | exact hr2.1 | exact A2.1 | exact A2.2.2.1 | exact A2.2.2.2.1 | exact hr3.1 | exact A3.1 | exact A3.2.2.2.1 | exact kc_gs) rfl ?_
  refine x_il c_Fi_readPair_20 rfl ?_
  refine x_al c_Fi_readPair_21 rfl ?_
  refine x_cv0z _ c_Fi_readPair_22 (by first | rfl | exact hr.1 | exact hA.1 | exact hA.2.1 | exact hr1.1 | exact A1.1 | exact A1.2.2.1 | exact hr2.1 | exact A2.1 | exact A2.2.2.1 | exact A2.2.2.2.1 | exact hr3.1 | exact A3.1 | exact A3.2.2.2.1 | exact kc_gs) (Nat.le_of_ble_eq_true rfl) (y_Rd_spanType (d + 1) hr2 htb h2.2.2.1 (by have := h2.2.2.2.1; omega)) ?_
  rintro _ μx ⟨rfl, hμx⟩
  have hμx := hμx.symm
  subst hμx
  show kc_X _ _ _ _ _ (.int (rpT tb t r) :: _) _ _
  refine x_iastN c_Fi_readPair_25 (by first | rfl | exact hr.1 | exact hA.1 | exact hA.2.1 | exact hr1.1 | exact A1.1 | exact A1.2.2.1 | exact hr2.1 | exact A2.1 | exact A2.2.2.1 | exact A2.2.2.2.1 | exact hr3.1 | exact A3.1 | exact A3.2.2.2.1 | exact kc_gs) (by omega) (by omega) ?_
  refine x_al c_Fi_readPair_26 rfl ?_
  refine x_ci c_Fi_readPair_27 ?_
  refine x_cv1z _ c_Fi_readPair_28 (by first | rfl | exact hr.1 | exact hA.1 | exact hA.2.1 | exact hr1.1 | exact A1.1 | exact A1.2.2.1 | exact hr2.1 | exact A2.1 | exact A2.2.2.1 | exact A2.2.2.2.1 | exact hr3.1 | exact A3.1 | exact A3.2.2.2.1 | exact kc_gs) (Nat.le_of_ble_eq_true rfl) (y_Rd_span (d + 1) (r := (rS tb (nI 4) (rE tb (nI t) r))) (by exact ⟨hr2.1, hr2.2⟩) h2.1 htb (tag := nI 4)) ?_
  rintro _ μ3 ⟨rfl, hr3, f3⟩
  have A3 : fiA μ3 c kf (upd tf i (rpT tb t r)) vf ef := ⟨(f3 128 (by decide)).trans ((kc_gf (by decide)).trans A2.1), (f3 129 (by decide)).trans ((kc_gf (by decide)).trans A2.2.1), (f3 130 (by decide)).trans kc_gs, (f3 131 (by decide)).trans ((kc_gf (by decide)).trans A2.2.2.2.1), (f3 132 (by decide)).trans ((kc_gf (by decide)).trans A2.2.2.2.2)⟩
  show kc_X _ _ _ _ _ [] _ _
  refine x_al c_Fi_readPair_31 rfl ?_
  refine x_get c_Fi_readPair_32 (by first | rfl | exact hr.1 | exact hA.1 | exact hA.2.1 | exact hr1.1 | exact A1.1 | exact A1.2.2.1 | exact hr2.1 | exact A2.1 | exact A2.2.2.1 | exact A2.2.2.2.1 | exact hr3.1 | exact A3.1 | exact A3.2.2.2.1 | exact kc_gs) rfl ?_
  refine x_il c_Fi_readPair_35 rfl ?_
  refine x_al c_Fi_readPair_36 rfl ?_
  refine x_cv0z _ c_Fi_readPair_37 (by first | rfl | exact hr.1 | exact hA.1 | exact hA.2.1 | exact hr1.1 | exact A1.1 | exact A1.2.2.1 | exact hr2.1 | exact A2.1 | exact A2.2.2.1 | exact A2.2.2.2.1 | exact hr3.1 | exact A3.1 | exact A3.2.2.2.1 | exact kc_gs) (Nat.le_of_ble_eq_true rfl) (y_Rd_spanValue d hr3 htb h3.2.2.1 (by have := h3.2.2.2.1; omega)) ?_
  rintro _ μx ⟨rfl, hμx⟩
  have hμx := hμx.symm
  subst hμx
  show kc_X _ _ _ _ _ (.long (rpV tb t r) :: _) _ _
  refine x_lastN c_Fi_readPair_40 (by first | rfl | exact hr.1 | exact hA.1 | exact hA.2.1 | exact hr1.1 | exact A1.1 | exact A1.2.2.1 | exact hr2.1 | exact A2.1 | exact A2.2.2.1 | exact A2.2.2.2.1 | exact hr3.1 | exact A3.1 | exact A3.2.2.2.1 | exact kc_gs) (by omega) (by omega) ?_
  refine x_al c_Fi_readPair_41 rfl ?_
  refine x_il c_Fi_readPair_42 rfl ?_
  refine x_cv1z _ c_Fi_readPair_43 (by first | rfl | exact hr.1 | exact hA.1 | exact hA.2.1 | exact hr1.1 | exact A1.1 | exact A1.2.2.1 | exact hr2.1 | exact A2.1 | exact A2.2.2.1 | exact A2.2.2.2.1 | exact hr3.1 | exact A3.1 | exact A3.2.2.2.1 | exact kc_gs) (Nat.le_of_ble_eq_true rfl) (y_Rd_leave (d + 2) (r := (rS tb (nI 4) (rS tb (nI 4) (rE tb (nI t) r)))) (by exact ⟨hr3.1, hr3.2⟩) h3.1 htb) ?_
  rintro _ μ4 ⟨rfl, hr4, f4⟩
  show kc_X _ _ _ _ _ [] _ _
  refine x_ret c_Fi_readPair_46 ?_
  exact ⟨rfl, hr4, ⟨(f4 128 (by decide)).trans ((kc_gf (by decide)).trans A3.1), (f4 129 (by decide)).trans ((kc_gf (by decide)).trans A3.2.1), (f4 130 (by decide)).trans ((kc_gf (by decide)).trans A3.2.2.1), (f4 131 (by decide)).trans kc_gs, (f4 132 (by decide)).trans ((kc_gf (by decide)).trans A3.2.2.2.2)⟩, fun q q1 q2 => (f4 q q1).trans ((kc_gf (by omega)).trans ((f3 q q1).trans ((kc_gf (by omega)).trans ((f2 q q1).trans (f1 q q1)))))⟩
/-- what reading filters leaves: a reader and rows of filters; those before c stand -/
def foL (μ μ' : kc_M) (tb : Nat → Nat) (sz : Nat) (ix : Int32) (e c : Nat) (kf tf : Nat → Int32) (vf : Nat → Int64) (ef : Nat → Int32) (r' : RS) (c' : Nat) (kf' tf' : Nat → Int32) (vf' : Nat → Int64) (ef' : Nat → Int32) : Prop :=
  rd_r μ' tb sz ix r' ∧ rok sz r' ∧ r'.2.1 = e ∧ fiA μ' c' kf' tf' vf' ef' ∧ c ≤ c' ∧ c' ≤ 20 ∧ (∀ q, q ≠ 1 → q < 128 ∨ 132 < q → μ'.1 q = μ.1 q) ∧ ∀ j, j < c → kf' j = kf j ∧ tf' j = tf j ∧ vf' j = vf j ∧ ef' j = ef j
/-- a forest was read, or none: o says which -/
def foR (o : Option Fo) (e c : Nat) (r' : RS) (c' : Nat) (kf' tf' : Nat → Int32) (vf' : Nat → Int64) (ef' : Nat → Int32) : Prop := match o with
  | none => r'.2.2.1 = true
  | some F => r'.2.2.1 = false ∧ r'.1 = e ∧ c' = c + (fsz F) ∧ enC kf' tf' vf' ef' F c
def foO (o : Option (Nat × Int32 × Int64 × Fo × Nat)) (c : Nat) (r' : RS) (c' : Nat) (kf' tf' : Nat → Int32) (vf' : Nat → Int64) (ef' : Nat → Int32) : Prop := match o with
  | none => r'.2.2.1 = true
  | some (t, ty, v, F, y) => r'.2.2.1 = false ∧ r'.1 = y ∧ c' = c + (fsz (Fo.cons t ty v F Fo.nil)) ∧ enC kf' tf' vf' ef' (Fo.cons t ty v F Fo.nil) c
theorem rs_eta {r : RS} {p e : Nat} (h1 : r.1 = p) (h2 : r.2.1 = e) (h3 : r.2.2.1 = false) : r = (p, e, false, r.2.2.2.1, r.2.2.2.2) := by
  obtain ⟨a, b, c, d, f⟩ := r
  cases h1; cases h2; cases h3; rfl
theorem foR_join {o : Option Fo} {t : Nat} {ty : Int32} {v : Int64} {F : Fo} {e c c2 : Nat} {r' : RS} {c' : Nat} {kf1 tf1 : Nat → Int32} {vf1 : Nat → Int64} {ef1 kf' tf' : Nat → Int32} {vf' : Nat → Int64} {ef' : Nat → Int32} (h1 : enC kf1 tf1 vf1 ef1 (Fo.cons t ty v F Fo.nil) c) (hc2 : c2 = c + 1 + (fsz F)) (hk : ∀ j, j < c2 → kf' j = kf1 j ∧ tf' j = tf1 j ∧ vf' j = vf1 j ∧ ef' j = ef1 j) (h : foR o e c2 r' c' kf' tf' vf' ef') : foR (o.map (Fo.cons t ty v F)) e c r' c' kf' tf' vf' ef' := by
  cases o with
  | none => exact h
  | some R =>
    obtain ⟨a, b, c3, d⟩ := h
    have h2 := enC_k (kf' := kf') (tf' := tf') (vf' := vf') (ef' := ef') _ _ h1 (fun j j1 j2 => hk j (by rw [fsz_c] at j2; have : fsz Fo.nil = 0 := rfl; omega))
    refine ⟨a, b, ?_, h2.1, h2.2.1, ?_⟩
    · rw [fsz_c]; omega
    · rw [hc2] at d; exact d
def RdO (tb : Nat → Nat) (sz : Nat) (ix : Int32) (D g : Nat) : Prop := ∀ (m : Nat) (μ : kc_M) (r : RS) (c : Nat) (kf tf : Nat → Int32) (vf : Nat → Int64) (ef : Nat → Int32), rd_r μ tb sz ix r → rok sz r → r.2.2.1 = false → fiA μ c kf tf vf ef → c ≤ 20 → r.2.1 - r.1 ≤ m + 1 → kc_Y kt kC D j_Fi_readOne [.ref 128, .ref 1, .int (nI (7 - g))] μ (fun w μ' => w = none ∧ ∃ r' c' kf' tf' vf' ef', foL μ μ' tb sz ix r.2.1 c kf tf vf ef r' c' kf' tf' vf' ef' ∧ foO (flO tb (flP tb m) g c r.1 r.2.1) c r' c' kf' tf' vf' ef')
theorem foL.lv {μ μ' μ4 : kc_M} {tb : Nat → Nat} {sz : Nat} {ix : Int32} {e c : Nat} {kf tf : Nat → Int32} {vf : Nat → Int64} {ef : Nat → Int32} {r' : RS} {c' : Nat} {kf' tf' : Nat → Int32} {vf' : Nat → Int64} {ef' : Nat → Int32} {ar : Nat} (h : foL μ μ' tb sz ix e c kf tf vf ef r' c' kf' tf' vf' ef') (hr4 : rd_r μ4 tb sz ix (rL ar r')) (f4 : ∀ q, q ≠ 1 → μ4.1 q = μ'.1 q) (h1 : e ≤ ar) (h2 : ar ≤ sz) : foL μ μ4 tb sz ix ar c kf tf vf ef (rL ar r') c' kf' tf' vf' ef' := by
  obtain ⟨a1, a2, a3, a4, a5, a6, a7, a8⟩ := h
  exact ⟨hr4, rok_L a2 (by omega) h2, rfl, fiA_k a4 (fun q q1 q2 => f4 q (by omega)), a5, a6, fun q q1 q2 => (f4 q q1).trans (a7 q q1 q2), a8⟩
theorem foL.to {μ μ1 μ2 : kc_M} {tb : Nat → Nat} {sz : Nat} {ix : Int32} {e c c1 c2 : Nat} {kf tf : Nat → Int32} {vf : Nat → Int64} {ef : Nat → Int32} {r1 r2 : RS} {kf1 tf1 : Nat → Int32} {vf1 : Nat → Int64} {ef1 : Nat → Int32} {kf2 tf2 : Nat → Int32} {vf2 : Nat → Int64} {ef2 : Nat → Int32} {e1 : Nat} (h1 : foL μ μ1 tb sz ix e c kf tf vf ef r1 c1 kf1 tf1 vf1 ef1) (h2 : foL μ1 μ2 tb sz ix e1 c1 kf1 tf1 vf1 ef1 r2 c2 kf2 tf2 vf2 ef2) : foL μ μ2 tb sz ix e1 c kf tf vf ef r2 c2 kf2 tf2 vf2 ef2 := by
  obtain ⟨a1, a2, a3, a4, a5, a6, a7, a8⟩ := h1
  obtain ⟨b1, b2, b3, b4, b5, b6, b7, b8⟩ := h2
  exact ⟨b1, b2, b3, b4, by omega, b6, fun q q1 q2 => (b7 q q1 q2).trans (a7 q q1 q2), fun j hj => ⟨(b8 j (by omega)).1.trans (a8 j hj).1, (b8 j (by omega)).2.1.trans (a8 j hj).2.1, (b8 j (by omega)).2.2.1.trans (a8 j hj).2.2.1, (b8 j (by omega)).2.2.2.trans (a8 j hj).2.2.2⟩⟩
theorem rL_f {ar : Nat} {r : RS} (h1 : r.2.2.1 = false) (h2 : r.1 = r.2.1) : (rL ar r).2.2.1 = false ∧ (rL ar r).1 = r.1 := by
  unfold rL
  dsimp only
  rw [h1, decide_eq_true h2]
  exact ⟨rfl, rfl⟩
theorem el_or (tb : Nat → Nat) (p e : Nat) : el tb p e = none ∨ ∃ x y, el tb p e = some (x, y) := by
  cases el tb p e with
  | none => exact Or.inl rfl
  | some q => exact Or.inr ⟨q.1, q.2, rfl⟩
theorem rM_f2 {r : RS} (h : r.2.2.1 = true) : rM r = false := by unfold rM; rw [h]; rfl
set_option maxRecDepth 100000 in
set_option maxHeartbeats 4000000 in
theorem y_Fi_readInner (D : Nat) (hD : 1 ≤ D) {μ : kc_M} {tb : Nat → Nat} {sz : Nat} {ix : Int32} (htb : ∀ j, tb j < 256) {g : Nat} (hg : g + 1 ≤ 6) (hO : RdO tb sz ix D g) {m : Nat} {r : RS} (hr : rd_r μ tb sz ix r) (h : rok sz r) (hw0 : r.2.2.1 = false) {c : Nat} {kf tf : Nat → Int32} {vf : Nat → Int64} {ef : Nat → Int32} (hA : fiA μ (c + 1) kf tf vf ef) (hc : c + 1 ≤ 20) {t : Nat} (hki : kf c = nI t) (hp : tb r.1 = t) (h3 : 160 ≤ t ∧ t ≤ 162) (hm : r.2.1 - r.1 ≤ m + 1) : kc_Y kt kC (D + 1) j_Fi_readInner [.ref 128, .ref 1, .int (nI c), .int (nI (7 - (g + 1)))] μ (fun w μ' => w = none ∧ ∃ r' c' kf' tf' vf' ef', foL μ μ' tb sz ix r.2.1 (c + 1) kf tf vf ef r' c' kf' tf' vf' ef' ∧ (match (match el tb r.1 r.2.1 with | none => none | some (x, y) => (match flP tb m g (c + 1) x y with | none => none | some F => if t = 162 ∧ (fln F) ≠ 1 then none else some (t, (0 : Int32), (0 : Int64), F, y))) with | none => r'.2.2.1 = true | some (_, _, _, F, y) => r'.2.2.1 = false ∧ r'.1 = y ∧ c' = c + 1 + (fsz F) ∧ enC kf' tf' vf' ef' F (c + 1))) := by
  refine ⟨Nat.le_of_ble_eq_true rfl, ?_⟩
  obtain ⟨d2, rfl⟩ : ∃ d2, D = d2 + 1 := ⟨D - 1, by omega⟩
  have hz := h.2.2
  have htl : tl tb t r.1 r.2.1 = el tb r.1 r.2.1 := by unfold tl; rw [if_pos hp]
  have ht31 : t < 2 ^ 31 := by rw [← hp]; exact tbl htb _
  have htd : decide (t = 162) = true ↔ t = 162 := decide_eq_true_iff
  -- the loop, once something was wrong
  have bad : ∀ (j4 : Option Value) (most i : Nat) (μ1 : kc_M) (r1 : RS) (c1 : Nat) (kf1 tf1 : Nat → Int32) (vf1 : Nat → Int64) (ef1 : Nat → Int32), most ≤ 20 → i ≤ 20 → r1.2.2.1 = true → r1.2.1 ≤ r.2.1 → (foL μ μ1 tb sz ix r1.2.1 (c + 1) kf tf vf ef r1 c1 kf1 tf1 vf1 ef1) → (match (match el tb r.1 r.2.1 with | none => none | some (x, y) => (match flP tb m g (c + 1) x y with | none => none | some F => if t = 162 ∧ (fln F) ≠ 1 then none else some (t, (0 : Int32), (0 : Int64), F, y))) with | none => True | some _ => False) → kc_X (kC j_Fi_readInner) (kc_Y kt kC (d2 + 1)) (fun w μ' => w = none ∧ ∃ r' c' kf' tf' vf' ef', foL μ μ' tb sz ix r.2.1 (c + 1) kf tf vf ef r' c' kf' tf' vf' ef' ∧ (match (match el tb r.1 r.2.1 with | none => none | some (x, y) => (match flP tb m g (c + 1) x y with | none => none | some F => if t = 162 ∧ (fln F) ≠ 1 then none else some (t, (0 : Int32), (0 : Int64), F, y))) with | none => r'.2.2.1 = true | some (_, _, _, F, y) => r'.2.2.1 = false ∧ r'.1 = y ∧ c' = c + 1 + (fsz F) ∧ enC kf' tf' vf' ef' F (c + 1))) 64 [some (.ref 128), some (.ref 1), some (.int (nI c)), some (.int (nI (7 - (g + 1)))), j4, some (.int (nI r.2.1)), some (.int (nI most)), some (.int (nI i))] [] μ1 (0, 0) := by
    intro j4 most i μ1 r1 c1 kf1 tf1 vf1 ef1 hmo hi20 hw hre hL hno
    obtain ⟨hr1, hk1, _, hA1, _⟩ := id hL
    have hmore : rM r1 = false := by unfold rM; rw [hw]; rfl
    have hno2 : (match el tb r.1 r.2.1 with | none => none | some (x, y) => (match flP tb m g (c + 1) x y with | none => none | some F => if t = 162 ∧ (fln F) ≠ 1 then none else some (t, (0 : Int32), (0 : Int64), F, y))) = none := by revert hno; generalize (match el tb r.1 r.2.1 with | none => none | some (x, y) => (match flP tb m g (c + 1) x y with | none => none | some F => if t = 162 ∧ (fln F) ≠ 1 then none else some (t, (0 : Int32), (0 : Int64), F, y))) = o; cases o <;> simp
    refine x_il c_Fi_readInner_64 rfl ?_
    refine x_il c_Fi_readInner_66 rfl ?_
    refine x_cmN_ge c_Fi_readInner_68 (by omega) (by omega) (fun h68 => ?_) (fun h68 => ?_)
    · refine x_al c_Fi_readInner_92 rfl ?_
      refine x_il c_Fi_readInner_93 rfl ?_
      refine x_cv1z _ c_Fi_readInner_95 (by first | rfl | exact hr1.1 | exact hA1.1) (Nat.le_of_ble_eq_true rfl) (y_Rd_leave d2 hr1 hk1 htb) ?_
      rintro _ μ4 ⟨rfl, hr4, f4⟩
      show kc_X _ _ _ _ _ [] _ _
      refine x_ret c_Fi_readInner_98 ?_
      exact ⟨rfl, _, _, _, _, _, _, hL.lv hr4 f4 (by omega) h.2.1, by rw [hno2]; exact L_wr hw⟩
    · refine x_al c_Fi_readInner_71 rfl ?_
      refine x_cv0z _ c_Fi_readInner_72 (by first | rfl | exact hr1.1 | exact hA1.1) (Nat.le_of_ble_eq_true rfl) (y_Rd_hasMore d2 hr1 hk1 htb) ?_
      rintro _ μx ⟨rfl, hμx⟩
      have hμx := hμx.symm
      subst hμx
      show kc_X _ _ _ _ _ [.int (bI (rM r1))] _ _
      refine x_if_eq c_Fi_readInner_75 (fun _ => ?_) (fun h => absurd (by rw [hmore]; rfl) h)
      refine x_al c_Fi_readInner_92 rfl ?_
      refine x_il c_Fi_readInner_93 rfl ?_
      refine x_cv1z _ c_Fi_readInner_95 (by first | rfl | exact hr1.1 | exact hA1.1) (Nat.le_of_ble_eq_true rfl) (y_Rd_leave d2 hr1 hk1 htb) ?_
      rintro _ μ4 ⟨rfl, hr4, f4⟩
      show kc_X _ _ _ _ _ [] _ _
      refine x_ret c_Fi_readInner_98 ?_
      exact ⟨rfl, _, _, _, _, _, _, hL.lv hr4 f4 (by omega) h.2.1, by rw [hno2]; exact L_wr hw⟩
  rcases el_or tb r.1 r.2.1 with hel | ⟨x, y, hel⟩
  · have hno : (match el tb r.1 r.2.1 with | none => none | some (x, y) => (match flP tb m g (c + 1) x y with | none => none | some F => if t = 162 ∧ (fln F) ≠ 1 then none else some (t, (0 : Int32), (0 : Int64), F, y))) = none := by rw [hel]
    have hrE : rE tb (nI t) r = rW r := rE_no htb ht31 (by rw [htl]; exact hel)
    by_cases ht : t = 162
    · have hmore : rM (rW r) = false := rM_f2 rfl
      refine x_al c_Fi_readInner_0 rfl ?_
      refine x_get c_Fi_readInner_1 (by first | rfl | exact hr.1 | exact hA.1 | exact hA.2.1 | exact hA1.1 | exact hr1.1) rfl ?_
      refine x_il c_Fi_readInner_4 rfl ?_
      refine x_ialdE c_Fi_readInner_5 (by first | rfl | exact hr.1 | exact hA.1 | exact hA.2.1 | exact hA1.1 | exact hr1.1) (by omega) (by omega) (hki) ?_
      refine x_ci c_Fi_readInner_6 ?_
      refine x_cmN_ne c_Fi_readInner_9 (by omega) (by omega) (fun h => (by exfalso; omega)) (fun _ => ?_)
      refine x_ci c_Fi_readInner_12 ?_
      refine x_goto c_Fi_readInner_13 ?_
      refine x_is [_, _, _, _, _, _, _, _] c_Fi_readInner_17 rfl ?_
      refine x_al c_Fi_readInner_19 rfl ?_
      refine x_al c_Fi_readInner_20 rfl ?_
      refine x_get c_Fi_readInner_21 (by first | rfl | exact hr.1 | exact hA.1 | exact hA.2.1 | exact hA1.1 | exact hr1.1) rfl ?_
      refine x_il c_Fi_readInner_24 rfl ?_
      refine x_ialdE c_Fi_readInner_25 (by first | rfl | exact hr.1 | exact hA.1 | exact hA.2.1 | exact hA1.1 | exact hr1.1) (by omega) (by omega) (hki) ?_
      refine x_cv1z _ c_Fi_readInner_26 (by first | rfl | exact hr.1 | exact hA.1 | exact hA.2.1 | exact hA1.1 | exact hr1.1) (Nat.le_of_ble_eq_true rfl) (y_Rd_enter d2 hr h htb (tag := nI t)) ?_
      rintro _ μ1 ⟨rfl, hr1, f1⟩
      have hA1 := fiA_k hA (μ' := μ1) (fun q q1 q2 => f1 q (by omega))
      rw [hrE] at hr1
      show kc_X _ _ _ _ _ [.int (nI r.2.1)] _ _
      refine x_is [_, _, _, _, _, _, _, _] c_Fi_readInner_29 rfl ?_
      refine x_il c_Fi_readInner_31 rfl ?_
      refine x_if_eq c_Fi_readInner_33 (fun h => absurd h (by decide)) (fun _ => ?_)
      refine x_al c_Fi_readInner_36 rfl ?_
      refine x_cv0z _ c_Fi_readInner_37 (by first | rfl | exact hr.1 | exact hA.1 | exact hA.2.1 | exact hA1.1 | exact hr1.1) (Nat.le_of_ble_eq_true rfl) (y_Rd_hasMore d2 (r := (rW r)) hr1 h htb) ?_
      rintro _ μx ⟨rfl, hμx⟩
      have hμx := hμx.symm
      subst hμx
      show kc_X _ _ _ _ _ [.int (bI (rM (rW r)))] _ _
      refine x_if_ne c_Fi_readInner_40 (fun h => absurd (by rw [hmore]; rfl) h) (fun _ => ?_)
      refine x_al c_Fi_readInner_43 rfl ?_
      refine x_ci c_Fi_readInner_44 ?_
      refine x_put [_, _, _, _, _, _, _, _] c_Fi_readInner_45 (by first | rfl | exact hr.1 | exact hA.1 | exact hA.2.1 | exact hA1.1 | exact hr1.1) ⟨Nat.le_of_ble_eq_true rfl, by first | decide | exact kz_n _, by first | decide | exact kz_f _⟩ rfl ?_
      refine x_il c_Fi_readInner_48 rfl ?_
      refine x_if_eq c_Fi_readInner_50 (fun h => absurd h (by decide)) (fun _ => ?_)
      refine x_ci c_Fi_readInner_53 ?_
      refine x_goto c_Fi_readInner_54 ?_
      refine x_is [_, _, _, _, _, _, _, _] c_Fi_readInner_59 rfl ?_
      refine x_ci c_Fi_readInner_61 ?_
      refine x_is [_, _, _, _, _, _, _, _] c_Fi_readInner_62 rfl ?_
      exact bad _ 1 0 _ (rW (rW r)) (c + 1) kf tf vf ef (Nat.le_of_ble_eq_true rfl) (Nat.zero_le _) rfl (by first | exact Nat.le_refl _ | (show y ≤ r.2.1; omega)) ⟨(by exact ⟨rfl, hr1.2⟩), h, rfl, fiA_k hA1 (fun q q1 q2 => kc_gf (by omega)), Nat.le_refl _, by omega, (fun q q1 q2 => (kc_gf q1).trans (f1 q q1)), fun _ _ => ⟨rfl, rfl, rfl, rfl⟩⟩ (by rw [hno]; trivial)
    · skip
      refine x_al c_Fi_readInner_0 rfl ?_
      refine x_get c_Fi_readInner_1 (by first | rfl | exact hr.1 | exact hA.1 | exact hA.2.1 | exact hA1.1 | exact hr1.1) rfl ?_
      refine x_il c_Fi_readInner_4 rfl ?_
      refine x_ialdE c_Fi_readInner_5 (by first | rfl | exact hr.1 | exact hA.1 | exact hA.2.1 | exact hA1.1 | exact hr1.1) (by omega) (by omega) (hki) ?_
      refine x_ci c_Fi_readInner_6 ?_
      refine x_cmN_ne c_Fi_readInner_9 (by omega) (by omega) (fun _ => ?_) (fun h => (by exfalso; omega))
      refine x_ci c_Fi_readInner_16 ?_
      refine x_is [_, _, _, _, _, _, _, _] c_Fi_readInner_17 rfl ?_
      refine x_al c_Fi_readInner_19 rfl ?_
      refine x_al c_Fi_readInner_20 rfl ?_
      refine x_get c_Fi_readInner_21 (by first | rfl | exact hr.1 | exact hA.1 | exact hA.2.1 | exact hA1.1 | exact hr1.1) rfl ?_
      refine x_il c_Fi_readInner_24 rfl ?_
      refine x_ialdE c_Fi_readInner_25 (by first | rfl | exact hr.1 | exact hA.1 | exact hA.2.1 | exact hA1.1 | exact hr1.1) (by omega) (by omega) (hki) ?_
      refine x_cv1z _ c_Fi_readInner_26 (by first | rfl | exact hr.1 | exact hA.1 | exact hA.2.1 | exact hA1.1 | exact hr1.1) (Nat.le_of_ble_eq_true rfl) (y_Rd_enter d2 hr h htb (tag := nI t)) ?_
      rintro _ μ1 ⟨rfl, hr1, f1⟩
      have hA1 := fiA_k hA (μ' := μ1) (fun q q1 q2 => f1 q (by omega))
      rw [hrE] at hr1
      show kc_X _ _ _ _ _ [.int (nI r.2.1)] _ _
      refine x_is [_, _, _, _, _, _, _, _] c_Fi_readInner_29 rfl ?_
      refine x_il c_Fi_readInner_31 rfl ?_
      refine x_if_eq c_Fi_readInner_33 (fun _ => ?_) (fun h => absurd (rfl) h)
      refine x_il c_Fi_readInner_48 rfl ?_
      refine x_if_eq c_Fi_readInner_50 (fun _ => ?_) (fun h => absurd (rfl) h)
      refine x_ci c_Fi_readInner_57 ?_
      refine x_is [_, _, _, _, _, _, _, _] c_Fi_readInner_59 rfl ?_
      refine x_ci c_Fi_readInner_61 ?_
      refine x_is [_, _, _, _, _, _, _, _] c_Fi_readInner_62 rfl ?_
      exact bad _ 20 0 _ (rW r) (c + 1) kf tf vf ef (Nat.le_of_ble_eq_true rfl) (Nat.zero_le _) rfl (Nat.le_refl _) ⟨hr1, h, rfl, hA1, Nat.le_refl _, by omega, (fun q q1 q2 => f1 q q1), fun _ _ => ⟨rfl, rfl, rfl, rfl⟩⟩ (by rw [hno]; trivial)
  · have hxy := el_in hel
    have hrE : rE tb (nI t) r = (x, y, false, r.2.2.2.1, r.2.2.2.2) := by
      have := rE_ok htb (sf := r.2.2.2.1) (st := r.2.2.2.2) ht31 (by rw [htl]; exact hel)
      rw [← rs_eta rfl rfl hw0] at this
      exact this
    have hIN : (match el tb r.1 r.2.1 with | none => none | some (x, y) => (match flP tb m g (c + 1) x y with | none => none | some F => if t = 162 ∧ (fln F) ≠ 1 then none else some (t, (0 : Int32), (0 : Int64), F, y))) = (match flP tb m g (c + 1) x y with | none => none | some F => if t = 162 ∧ (fln F) ≠ 1 then none else some (t, (0 : Int32), (0 : Int64), F, y)) := by rw [hel]
    have hok : rok sz (x, y, false, r.2.2.2.1, r.2.2.2.2) := ⟨hxy.2.1, by have := h.2.1; show y ≤ sz; omega, hz⟩
    by_cases ht : t = 162
    · by_cases hxe : x = y
      · have hno : (match flP tb m g (c + 1) x y with | none => none | some F => if t = 162 ∧ (fln F) ≠ 1 then none else some (t, (0 : Int32), (0 : Int64), F, y)) = none := by
          obtain ⟨m1, rfl⟩ : ∃ m1, m = m1 + 1 := ⟨m - 1, by omega⟩
          rw [flP_s, if_pos hxe]; dsimp only; rw [if_pos ⟨ht, by decide⟩]
        rw [← hIN] at hno
        have hmore : rM (x, y, false, r.2.2.2.1, r.2.2.2.2) = false := by unfold rM; dsimp only; rw [decide_eq_false (by omega)]; rfl
        refine x_al c_Fi_readInner_0 rfl ?_
        refine x_get c_Fi_readInner_1 (by first | rfl | exact hr.1 | exact hA.1 | exact hA.2.1 | exact hA1.1 | exact hr1.1) rfl ?_
        refine x_il c_Fi_readInner_4 rfl ?_
        refine x_ialdE c_Fi_readInner_5 (by first | rfl | exact hr.1 | exact hA.1 | exact hA.2.1 | exact hA1.1 | exact hr1.1) (by omega) (by omega) (hki) ?_
        refine x_ci c_Fi_readInner_6 ?_
        refine x_cmN_ne c_Fi_readInner_9 (by omega) (by omega) (fun h => (by exfalso; omega)) (fun _ => ?_)
        refine x_ci c_Fi_readInner_12 ?_
        refine x_goto c_Fi_readInner_13 ?_
        refine x_is [_, _, _, _, _, _, _, _] c_Fi_readInner_17 rfl ?_
        refine x_al c_Fi_readInner_19 rfl ?_
        refine x_al c_Fi_readInner_20 rfl ?_
        refine x_get c_Fi_readInner_21 (by first | rfl | exact hr.1 | exact hA.1 | exact hA.2.1 | exact hA1.1 | exact hr1.1) rfl ?_
        refine x_il c_Fi_readInner_24 rfl ?_
        refine x_ialdE c_Fi_readInner_25 (by first | rfl | exact hr.1 | exact hA.1 | exact hA.2.1 | exact hA1.1 | exact hr1.1) (by omega) (by omega) (hki) ?_
        refine x_cv1z _ c_Fi_readInner_26 (by first | rfl | exact hr.1 | exact hA.1 | exact hA.2.1 | exact hA1.1 | exact hr1.1) (Nat.le_of_ble_eq_true rfl) (y_Rd_enter d2 hr h htb (tag := nI t)) ?_
        rintro _ μ1 ⟨rfl, hr1, f1⟩
        have hA1 := fiA_k hA (μ' := μ1) (fun q q1 q2 => f1 q (by omega))
        rw [hrE] at hr1
        show kc_X _ _ _ _ _ [.int (nI r.2.1)] _ _
        refine x_is [_, _, _, _, _, _, _, _] c_Fi_readInner_29 rfl ?_
        refine x_il c_Fi_readInner_31 rfl ?_
        refine x_if_eq c_Fi_readInner_33 (fun h => absurd h (by decide)) (fun _ => ?_)
        refine x_al c_Fi_readInner_36 rfl ?_
        refine x_cv0z _ c_Fi_readInner_37 (by first | rfl | exact hr.1 | exact hA.1 | exact hA.2.1 | exact hA1.1 | exact hr1.1) (Nat.le_of_ble_eq_true rfl) (y_Rd_hasMore d2 (r := (x, y, false, r.2.2.2.1, r.2.2.2.2)) hr1 hok htb) ?_
        rintro _ μx ⟨rfl, hμx⟩
        have hμx := hμx.symm
        subst hμx
        show kc_X _ _ _ _ _ [.int (bI (rM (x, y, false, r.2.2.2.1, r.2.2.2.2)))] _ _
        refine x_if_ne c_Fi_readInner_40 (fun h => absurd (by rw [hmore]; rfl) h) (fun _ => ?_)
        refine x_al c_Fi_readInner_43 rfl ?_
        refine x_ci c_Fi_readInner_44 ?_
        refine x_put [_, _, _, _, _, _, _, _] c_Fi_readInner_45 (by first | rfl | exact hr.1 | exact hA.1 | exact hA.2.1 | exact hA1.1 | exact hr1.1) ⟨Nat.le_of_ble_eq_true rfl, by first | decide | exact kz_n _, by first | decide | exact kz_f _⟩ rfl ?_
        refine x_il c_Fi_readInner_48 rfl ?_
        refine x_if_eq c_Fi_readInner_50 (fun h => absurd h (by decide)) (fun _ => ?_)
        refine x_ci c_Fi_readInner_53 ?_
        refine x_goto c_Fi_readInner_54 ?_
        refine x_is [_, _, _, _, _, _, _, _] c_Fi_readInner_59 rfl ?_
        refine x_ci c_Fi_readInner_61 ?_
        refine x_is [_, _, _, _, _, _, _, _] c_Fi_readInner_62 rfl ?_
        exact bad _ 1 0 _ (rW (x, y, false, r.2.2.2.1, r.2.2.2.2)) (c + 1) kf tf vf ef (Nat.le_of_ble_eq_true rfl) (Nat.zero_le _) rfl (by first | exact Nat.le_refl _ | (show y ≤ r.2.1; omega)) ⟨(by exact ⟨rfl, hr1.2⟩), hok, rfl, fiA_k hA1 (fun q q1 q2 => kc_gf (by omega)), Nat.le_refl _, by omega, (fun q q1 q2 => (kc_gf q1).trans (f1 q q1)), fun _ _ => ⟨rfl, rfl, rfl, rfl⟩⟩ (by rw [hno]; trivial)
      · have hmore : rM (x, y, false, r.2.2.2.1, r.2.2.2.2) = true := by unfold rM; dsimp only; rw [decide_eq_true (by omega)]; rfl
        obtain ⟨m1, rfl⟩ : ∃ m1, m = m1 + 1 := ⟨m - 1, by omega⟩
        have one : ∀ (μ2 : kc_M) (r2 : RS) (c2 : Nat) (kf2 tf2 : Nat → Int32) (vf2 : Nat → Int64) (ef2 : Nat → Int32), foL μ μ2 tb sz ix y (c + 1) kf tf vf ef r2 c2 kf2 tf2 vf2 ef2 → foO (flO tb (flP tb m1) g (c + 1) x y) (c + 1) r2 c2 kf2 tf2 vf2 ef2 → kc_X (kC j_Fi_readInner) (kc_Y kt kC (d2 + 1)) (fun w μ' => w = none ∧ ∃ r' c' kf' tf' vf' ef', foL μ μ' tb sz ix r.2.1 (c + 1) kf tf vf ef r' c' kf' tf' vf' ef' ∧ (match (match el tb r.1 r.2.1 with | none => none | some (x, y) => (match flP tb (m1 + 1) g (c + 1) x y with | none => none | some F => if t = 162 ∧ (fln F) ≠ 1 then none else some (t, (0 : Int32), (0 : Int64), F, y))) with | none => r'.2.2.1 = true | some (_, _, _, F, y) => r'.2.2.1 = false ∧ r'.1 = y ∧ c' = c + 1 + (fsz F) ∧ enC kf' tf' vf' ef' F (c + 1))) 86 [some (.ref 128), some (.ref 1), some (.int (nI c)), some (.int (nI (7 - (g + 1)))), some (.int (nI 1)), some (.int (nI r.2.1)), some (.int (nI 1)), some (.int (nI 0))] [] μ2 (0, 0) := by
          intro μ2 r2 c2 kf2 tf2 vf2 ef2 hL2 hO2
          obtain ⟨hr1, hk1, he1, hA1, _⟩ := id hL2
          have key : (match (match flP tb (m1 + 1) g (c + 1) x y with | none => none | some F => if t = 162 ∧ (fln F) ≠ 1 then none else some (t, (0 : Int32), (0 : Int64), F, y)) with | none => (rL r.2.1 r2).2.2.1 = true | some (_, _, _, F, y) => (rL r.2.1 r2).2.2.1 = false ∧ (rL r.2.1 r2).1 = y ∧ c2 = c + 1 + (fsz F) ∧ enC kf2 tf2 vf2 ef2 F (c + 1)) := by
            rw [flP_s, if_neg hxe]
            cases hfo : flO tb (flP tb m1) g (c + 1) x y with
            | none => rw [hfo] at hO2; exact L_wr hO2
            | some q =>
              obtain ⟨t1, ty1, v1, F1, y1⟩ := q
              rw [hfo] at hO2
              obtain ⟨a1, a2, a3, a4⟩ := hO2
              have h5 := flO_in2 hfo
              dsimp only
              by_cases hy : y1 = y
              · obtain ⟨m2, rfl⟩ : ∃ m2, m1 = m2 + 1 := ⟨m1 - 1, by omega⟩
                rw [flP_s, if_pos hy]
                show (match (if t = 162 ∧ (fln (Fo.cons t1 ty1 v1 F1 Fo.nil)) ≠ 1 then none else some (t, (0 : Int32), (0 : Int64), Fo.cons t1 ty1 v1 F1 Fo.nil, y)) with | none => _ | some (_, _, _, F, y) => _)
                rw [if_neg (fun q => q.2 rfl)]
                have hq := rL_f (ar := r.2.1) a1 (by rw [he1, a2]; exact hy)
                exact ⟨hq.1, hq.2.trans (a2.trans hy), a3, a4⟩
              · have hbad : (rL r.2.1 r2).2.2.1 = true := bad_L (Or.inr (by rw [he1, a2]; exact hy))
                cases hfr : flP tb m1 g (c + 1 + 1 + (fsz F1)) y1 y with
                | none => exact hbad
                | some R =>
                  obtain ⟨m2, rfl⟩ : ∃ m2, m1 = m2 + 1 := ⟨m1 - 1, by omega⟩
                  have hR0 : 1 ≤ (fln R) := by
                    rw [flP_s, if_neg hy] at hfr
                    split at hfr
                    · cases hfr
                    · rename_i t5 ty5 v5 F5 y5 _
                      cases hf5 : flP tb m2 g (c + 1 + 1 + (fsz F1) + 1 + (fsz F5)) y5 y with
                      | none => rw [hf5] at hfr; cases hfr
                      | some R5 => rw [hf5] at hfr; have hfr := Option.some.inj hfr; rw [← hfr, fln_c]; omega
                  show (match (if t = 162 ∧ (fln (Fo.cons t1 ty1 v1 F1 R)) ≠ 1 then none else some (t, (0 : Int32), (0 : Int64), Fo.cons t1 ty1 v1 F1 R, y)) with | none => _ | some (_, _, _, F, y) => _)
                  rw [if_pos ⟨ht, by rw [fln_c]; omega⟩]
                  exact hbad
          rw [← hIN] at key
          first | refine x_incN [_, _, _, _, _, _, _, _] c_Fi_readInner_86 rfl rfl ?_ | refine x_inc [_, _, _, _, _, _, _, _] c_Fi_readInner_86 rfl rfl ?_
          refine x_goto c_Fi_readInner_89 ?_
          refine x_il c_Fi_readInner_64 rfl ?_
          refine x_il c_Fi_readInner_66 rfl ?_
          refine x_cmN_ge c_Fi_readInner_68 (by omega) (by omega) (fun _ => ?_) (fun h => (by exfalso; omega))
          refine x_al c_Fi_readInner_92 rfl ?_
          refine x_il c_Fi_readInner_93 rfl ?_
          refine x_cv1z _ c_Fi_readInner_95 (by first | rfl | exact hr1.1 | exact hA1.1) (Nat.le_of_ble_eq_true rfl) (y_Rd_leave d2 hr1 hk1 htb) ?_
          rintro _ μ4 ⟨rfl, hr4, f4⟩
          show kc_X _ _ _ _ _ [] _ _
          refine x_ret c_Fi_readInner_98 ?_
          exact ⟨rfl, _, _, _, _, _, _, hL2.lv hr4 f4 (by omega) h.2.1, key⟩
        refine x_al c_Fi_readInner_0 rfl ?_
        refine x_get c_Fi_readInner_1 (by first | rfl | exact hr.1 | exact hA.1 | exact hA.2.1 | exact hA1.1 | exact hr1.1 | exact hr2.1 | exact hA2.1) rfl ?_
        refine x_il c_Fi_readInner_4 rfl ?_
        refine x_ialdE c_Fi_readInner_5 (by first | rfl | exact hr.1 | exact hA.1 | exact hA.2.1 | exact hA1.1 | exact hr1.1 | exact hr2.1 | exact hA2.1) (by omega) (by omega) (hki) ?_
        refine x_ci c_Fi_readInner_6 ?_
        refine x_cmN_ne c_Fi_readInner_9 (by omega) (by omega) (fun h => (by exfalso; omega)) (fun _ => ?_)
        refine x_ci c_Fi_readInner_12 ?_
        refine x_goto c_Fi_readInner_13 ?_
        refine x_is [_, _, _, _, _, _, _, _] c_Fi_readInner_17 rfl ?_
        refine x_al c_Fi_readInner_19 rfl ?_
        refine x_al c_Fi_readInner_20 rfl ?_
        refine x_get c_Fi_readInner_21 (by first | rfl | exact hr.1 | exact hA.1 | exact hA.2.1 | exact hA1.1 | exact hr1.1 | exact hr2.1 | exact hA2.1) rfl ?_
        refine x_il c_Fi_readInner_24 rfl ?_
        refine x_ialdE c_Fi_readInner_25 (by first | rfl | exact hr.1 | exact hA.1 | exact hA.2.1 | exact hA1.1 | exact hr1.1 | exact hr2.1 | exact hA2.1) (by omega) (by omega) (hki) ?_
        refine x_cv1z _ c_Fi_readInner_26 (by first | rfl | exact hr.1 | exact hA.1 | exact hA.2.1 | exact hA1.1 | exact hr1.1 | exact hr2.1 | exact hA2.1) (Nat.le_of_ble_eq_true rfl) (y_Rd_enter d2 hr h htb (tag := nI t)) ?_
        rintro _ μ1 ⟨rfl, hr1, f1⟩
        have hA1 := fiA_k hA (μ' := μ1) (fun q q1 q2 => f1 q (by omega))
        rw [hrE] at hr1
        show kc_X _ _ _ _ _ [.int (nI r.2.1)] _ _
        refine x_is [_, _, _, _, _, _, _, _] c_Fi_readInner_29 rfl ?_
        refine x_il c_Fi_readInner_31 rfl ?_
        refine x_if_eq c_Fi_readInner_33 (fun h => absurd h (by decide)) (fun _ => ?_)
        refine x_al c_Fi_readInner_36 rfl ?_
        refine x_cv0z _ c_Fi_readInner_37 (by first | rfl | exact hr.1 | exact hA.1 | exact hA.2.1 | exact hA1.1 | exact hr1.1 | exact hr2.1 | exact hA2.1) (Nat.le_of_ble_eq_true rfl) (y_Rd_hasMore d2 (r := (x, y, false, r.2.2.2.1, r.2.2.2.2)) hr1 hok htb) ?_
        rintro _ μx ⟨rfl, hμx⟩
        have hμx := hμx.symm
        subst hμx
        show kc_X _ _ _ _ _ [.int (bI (rM (x, y, false, r.2.2.2.1, r.2.2.2.2)))] _ _
        refine x_if_ne c_Fi_readInner_40 (fun _ => ?_) (fun h => absurd h (by rw [hmore]; decide))
        refine x_il c_Fi_readInner_48 rfl ?_
        refine x_if_eq c_Fi_readInner_50 (fun h => absurd h (by decide)) (fun _ => ?_)
        refine x_ci c_Fi_readInner_53 ?_
        refine x_goto c_Fi_readInner_54 ?_
        refine x_is [_, _, _, _, _, _, _, _] c_Fi_readInner_59 rfl ?_
        refine x_ci c_Fi_readInner_61 ?_
        refine x_is [_, _, _, _, _, _, _, _] c_Fi_readInner_62 rfl ?_
        refine x_il c_Fi_readInner_64 rfl ?_
        refine x_il c_Fi_readInner_66 rfl ?_
        refine x_cmN_ge c_Fi_readInner_68 (by omega) (by omega) (fun h => (by exfalso; omega)) (fun _ => ?_)
        refine x_al c_Fi_readInner_71 rfl ?_
        refine x_cv0z _ c_Fi_readInner_72 (by first | rfl | exact hr.1 | exact hA.1 | exact hA.2.1 | exact hA1.1 | exact hr1.1 | exact hr2.1 | exact hA2.1) (Nat.le_of_ble_eq_true rfl) (y_Rd_hasMore d2 (r := (x, y, false, r.2.2.2.1, r.2.2.2.2)) hr1 hok htb) ?_
        rintro _ μx ⟨rfl, hμx⟩
        have hμx := hμx.symm
        subst hμx
        show kc_X _ _ _ _ _ [.int (bI (rM (x, y, false, r.2.2.2.1, r.2.2.2.2)))] _ _
        refine x_if_eq c_Fi_readInner_75 (fun h => absurd h (by rw [hmore]; decide)) (fun _ => ?_)
        refine x_al c_Fi_readInner_78 rfl ?_
        refine x_al c_Fi_readInner_79 rfl ?_
        refine x_il c_Fi_readInner_80 rfl ?_
        refine x_ci c_Fi_readInner_81 ?_
        first | refine x_iaddN c_Fi_readInner_82 ?_ | refine x_iadd c_Fi_readInner_82 ?_
        show kc_X _ _ _ _ _ [.int (nI (7 - (g + 1) + 1)), .ref 1, .ref 128] _ _
        rw [show 7 - (g + 1) + 1 = 7 - g by omega]
        refine x_cv2z _ c_Fi_readInner_83 (by first | rfl | exact hr.1 | exact hA.1 | exact hA.2.1 | exact hA1.1 | exact hr1.1 | exact hr2.1 | exact hA2.1) (Nat.le_of_ble_eq_true rfl) (hO m1 μ1 (x, y, false, r.2.2.2.1, r.2.2.2.2) (c + 1) kf tf vf ef hr1 hok rfl hA1 (by omega) (by show y - x ≤ m1 + 1; omega)) ?_
        rintro _ μ2 ⟨rfl, r2, c2, kf2, tf2, vf2, ef2, hL2, hO2⟩
        have hL2 : foL μ μ2 tb sz ix y (c + 1) kf tf vf ef r2 c2 kf2 tf2 vf2 ef2 := ⟨hL2.1, hL2.2.1, hL2.2.2.1, hL2.2.2.2.1, hL2.2.2.2.2.1, hL2.2.2.2.2.2.1, fun q q1 q2 => (hL2.2.2.2.2.2.2.1 q q1 q2).trans (f1 q q1), hL2.2.2.2.2.2.2.2⟩
        show kc_X _ _ _ _ _ [] _ _
        exact one μ2 r2 c2 kf2 tf2 vf2 ef2 hL2 hO2
    · have hcl : ∀ o : Option Fo, (match o with | none => none | some F => if t = 162 ∧ (fln F) ≠ 1 then none else some (t, (0 : Int32), (0 : Int64), F, y)) = o.map (fun F => (t, (0 : Int32), (0 : Int64), F, y)) := by
        intro o
        cases o with
        | none => rfl
        | some F => dsimp only; rw [if_neg (fun q => ht q.1)]; rfl
      have loop : ∀ (j4 : Option Value) (m' : Nat) (i : Nat) (μ1 : kc_M) (r1 : RS) (c1 : Nat) (kf1 tf1 : Nat → Int32) (vf1 : Nat → Int64) (ef1 : Nat → Int32), y - r1.1 < m' → i + (c + 1) ≤ c1 → foL μ μ1 tb sz ix y (c + 1) kf tf vf ef r1 c1 kf1 tf1 vf1 ef1 → r1.2.2.1 = false → (∀ (r' : RS) (c' : Nat) (kf' tf' : Nat → Int32) (vf' : Nat → Int64) (ef' : Nat → Int32), (∀ j, j < c1 → kf' j = kf1 j ∧ tf' j = tf1 j ∧ vf' j = vf1 j ∧ ef' j = ef1 j) → foR (flP tb m' g c1 r1.1 y) y c1 r' c' kf' tf' vf' ef' → foR (flP tb m g (c + 1) x y) y (c + 1) r' c' kf' tf' vf' ef') → kc_X (kC j_Fi_readInner) (kc_Y kt kC (d2 + 1)) (fun w μ' => w = none ∧ ∃ r' c' kf' tf' vf' ef', foL μ μ' tb sz ix r.2.1 (c + 1) kf tf vf ef r' c' kf' tf' vf' ef' ∧ (match (match el tb r.1 r.2.1 with | none => none | some (x, y) => (match flP tb m g (c + 1) x y with | none => none | some F => if t = 162 ∧ (fln F) ≠ 1 then none else some (t, (0 : Int32), (0 : Int64), F, y))) with | none => r'.2.2.1 = true | some (_, _, _, F, y) => r'.2.2.1 = false ∧ r'.1 = y ∧ c' = c + 1 + (fsz F) ∧ enC kf' tf' vf' ef' F (c + 1))) 64 [some (.ref 128), some (.ref 1), some (.int (nI c)), some (.int (nI (7 - (g + 1)))), j4, some (.int (nI r.2.1)), some (.int (nI 20)), some (.int (nI i))] [] μ1 (0, 0) := by
        intro j4 m'
        induction m' with
        | zero => intro i μ1 r1 c1 kf1 tf1 vf1 ef1 hm; exact absurd hm (Nat.not_lt_zero _)
        | succ m' ih =>
          intro i μ1 r1 c1 kf1 tf1 vf1 ef1 hm hic hL hw1 hR
          obtain ⟨hr1, hk1, he1, hA1, hc1, hc20, hf1, hrow1⟩ := id hL
          have hi20 : i < 20 := by omega
          by_cases hpe : r1.1 = y
          · have hmore : rM r1 = false := by unfold rM; rw [hw1, he1, decide_eq_false (by omega)]; rfl
            have hR' := hR r1 c1 kf1 tf1 vf1 ef1 (fun _ _ => ⟨rfl, rfl, rfl, rfl⟩) (by rw [flP_s, if_pos hpe]; exact ⟨hw1, hpe, rfl, trivial⟩)
            refine x_il c_Fi_readInner_64 rfl ?_
            refine x_il c_Fi_readInner_66 rfl ?_
            refine x_cmN_ge c_Fi_readInner_68 (by omega) (by omega) (fun h => (by exfalso; omega)) (fun _ => ?_)
            refine x_al c_Fi_readInner_71 rfl ?_
            refine x_cv0z _ c_Fi_readInner_72 (by first | rfl | exact hr1.1 | exact hA1.1) (Nat.le_of_ble_eq_true rfl) (y_Rd_hasMore d2 hr1 hk1 htb) ?_
            rintro _ μx ⟨rfl, hμx⟩
            have hμx := hμx.symm
            subst hμx
            show kc_X _ _ _ _ _ [.int (bI (rM r1))] _ _
            refine x_if_eq c_Fi_readInner_75 (fun _ => ?_) (fun h => absurd (by rw [hmore]; rfl) h)
            refine x_al c_Fi_readInner_92 rfl ?_
            refine x_il c_Fi_readInner_93 rfl ?_
            refine x_cv1z _ c_Fi_readInner_95 (by first | rfl | exact hr1.1 | exact hA1.1) (Nat.le_of_ble_eq_true rfl) (y_Rd_leave d2 hr1 hk1 htb) ?_
            rintro _ μ4 ⟨rfl, hr4, f4⟩
            show kc_X _ _ _ _ _ [] _ _
            refine x_ret c_Fi_readInner_98 ?_
            exact ⟨rfl, _, _, _, _, _, _, hL.lv hr4 f4 (by omega) h.2.1, by rw [hIN, hcl]; revert hR'; generalize flP tb m g (c + 1) x y = o; cases o with | none => exact fun q => L_wr q | some F => exact fun q => ⟨(rL_f q.1 (by rw [he1]; exact q.2.1)).1, (rL_f q.1 (by rw [he1]; exact q.2.1)).2.trans q.2.1, q.2.2.1, q.2.2.2⟩⟩
          · have hmore : rM r1 = true := by unfold rM; rw [hw1, he1, decide_eq_true (by have := hk1.1; omega)]; rfl
            have hro := hO m' μ1 r1 c1 kf1 tf1 vf1 ef1 hr1 hk1 hw1 hA1 hc20 (by omega)
            refine x_il c_Fi_readInner_64 rfl ?_
            refine x_il c_Fi_readInner_66 rfl ?_
            refine x_cmN_ge c_Fi_readInner_68 (by omega) (by omega) (fun h => (by exfalso; omega)) (fun _ => ?_)
            refine x_al c_Fi_readInner_71 rfl ?_
            refine x_cv0z _ c_Fi_readInner_72 (by first | rfl | exact hr1.1 | exact hA1.1) (Nat.le_of_ble_eq_true rfl) (y_Rd_hasMore d2 hr1 hk1 htb) ?_
            rintro _ μx ⟨rfl, hμx⟩
            have hμx := hμx.symm
            subst hμx
            show kc_X _ _ _ _ _ [.int (bI (rM r1))] _ _
            refine x_if_eq c_Fi_readInner_75 (fun h => absurd h (by rw [hmore]; decide)) (fun _ => ?_)
            refine x_al c_Fi_readInner_78 rfl ?_
            refine x_al c_Fi_readInner_79 rfl ?_
            refine x_il c_Fi_readInner_80 rfl ?_
            refine x_ci c_Fi_readInner_81 ?_
            first | refine x_iaddN c_Fi_readInner_82 ?_ | refine x_iadd c_Fi_readInner_82 ?_
            show kc_X _ _ _ _ _ [.int (nI (7 - (g + 1) + 1)), .ref 1, .ref 128] _ _
            rw [show 7 - (g + 1) + 1 = 7 - g by omega]
            refine x_cv2z _ c_Fi_readInner_83 (by first | rfl | exact hr1.1 | exact hA1.1) (Nat.le_of_ble_eq_true rfl) (hro) ?_
            rintro _ μ2 ⟨rfl, r2, c2, kf2, tf2, vf2, ef2, hL2, hO2⟩
            show kc_X _ _ _ _ _ [] _ _
            first | refine x_incN [_, _, _, _, _, _, _, _] c_Fi_readInner_86 rfl rfl ?_ | refine x_inc [_, _, _, _, _, _, _, _] c_Fi_readInner_86 rfl rfl ?_
            refine x_goto c_Fi_readInner_89 ?_
            exact (by
              rw [flP_s, if_neg hpe] at hR
              cases hfo : flO tb (flP tb m') g c1 r1.1 y with
              | none =>
                rw [he1, hfo] at hO2
                have hO2 : r2.2.2.1 = true := hO2
                rw [hfo] at hR
                have hR' := hR r2 c2 kf2 tf2 vf2 ef2 hL2.2.2.2.2.2.2.2 hO2
                have he2 : r2.2.1 = y := hL2.2.2.1.trans he1
                exact bad j4 20 (i + 1) μ2 r2 c2 kf2 tf2 vf2 ef2 (by omega) (by omega) hO2 (by omega) (by have := hL.to hL2; rw [hL2.2.2.1]; exact this) (by rw [hIN, hcl]; revert hR'; generalize flP tb m g (c + 1) x y = o; cases o with | none => exact fun _ => trivial | some F => exact fun q => absurd (q.1.symm.trans hO2) (by decide))
              | some q =>
                obtain ⟨t1, ty1, v1, F1, y1⟩ := q
                rw [he1, hfo] at hO2
                obtain ⟨a1, a2, a3, a4⟩ := hO2
                have h5 := flO_in2 hfo
                have he2 : r2.2.1 = y := hL2.2.2.1.trans he1
                have hL3 := hL.to hL2
                rw [he1] at hL3
                have hc2 : c2 = c1 + 1 + (fsz F1) := by rw [a3, fsz_c]; have : fsz Fo.nil = 0 := rfl; omega
                refine ih (i + 1) μ2 r2 c2 kf2 tf2 vf2 ef2 (by omega) (by omega) hL3 a1 (fun r' c' kf' tf' vf' ef' hj hq => ?_)
                refine hR r' c' kf' tf' vf' ef' (fun j hj1 => ⟨(hj j (by omega)).1.trans (hL2.2.2.2.2.2.2.2 j hj1).1, (hj j (by omega)).2.1.trans (hL2.2.2.2.2.2.2.2 j hj1).2.1, (hj j (by omega)).2.2.1.trans (hL2.2.2.2.2.2.2.2 j hj1).2.2.1, (hj j (by omega)).2.2.2.trans (hL2.2.2.2.2.2.2.2 j hj1).2.2.2⟩) ?_
                rw [hfo]
                dsimp only
                rw [← hc2]
                rw [a2] at hq
                exact foR_join a4 hc2 hj hq)
      refine x_al c_Fi_readInner_0 rfl ?_
      refine x_get c_Fi_readInner_1 (by first | rfl | exact hr.1 | exact hA.1 | exact hA.2.1 | exact hA1.1 | exact hr1.1) rfl ?_
      refine x_il c_Fi_readInner_4 rfl ?_
      refine x_ialdE c_Fi_readInner_5 (by first | rfl | exact hr.1 | exact hA.1 | exact hA.2.1 | exact hA1.1 | exact hr1.1) (by omega) (by omega) (hki) ?_
      refine x_ci c_Fi_readInner_6 ?_
      refine x_cmN_ne c_Fi_readInner_9 (by omega) (by omega) (fun _ => ?_) (fun h => (by exfalso; omega))
      refine x_ci c_Fi_readInner_16 ?_
      refine x_is [_, _, _, _, _, _, _, _] c_Fi_readInner_17 rfl ?_
      refine x_al c_Fi_readInner_19 rfl ?_
      refine x_al c_Fi_readInner_20 rfl ?_
      refine x_get c_Fi_readInner_21 (by first | rfl | exact hr.1 | exact hA.1 | exact hA.2.1 | exact hA1.1 | exact hr1.1) rfl ?_
      refine x_il c_Fi_readInner_24 rfl ?_
      refine x_ialdE c_Fi_readInner_25 (by first | rfl | exact hr.1 | exact hA.1 | exact hA.2.1 | exact hA1.1 | exact hr1.1) (by omega) (by omega) (hki) ?_
      refine x_cv1z _ c_Fi_readInner_26 (by first | rfl | exact hr.1 | exact hA.1 | exact hA.2.1 | exact hA1.1 | exact hr1.1) (Nat.le_of_ble_eq_true rfl) (y_Rd_enter d2 hr h htb (tag := nI t)) ?_
      rintro _ μ1 ⟨rfl, hr1, f1⟩
      have hA1 := fiA_k hA (μ' := μ1) (fun q q1 q2 => f1 q (by omega))
      rw [hrE] at hr1
      show kc_X _ _ _ _ _ [.int (nI r.2.1)] _ _
      refine x_is [_, _, _, _, _, _, _, _] c_Fi_readInner_29 rfl ?_
      refine x_il c_Fi_readInner_31 rfl ?_
      refine x_if_eq c_Fi_readInner_33 (fun _ => ?_) (fun h => absurd (rfl) h)
      refine x_il c_Fi_readInner_48 rfl ?_
      refine x_if_eq c_Fi_readInner_50 (fun _ => ?_) (fun h => absurd (rfl) h)
      refine x_ci c_Fi_readInner_57 ?_
      refine x_is [_, _, _, _, _, _, _, _] c_Fi_readInner_59 rfl ?_
      refine x_ci c_Fi_readInner_61 ?_
      refine x_is [_, _, _, _, _, _, _, _] c_Fi_readInner_62 rfl ?_
      exact loop _ m 0 _ _ (c + 1) kf tf vf ef (by show y - x < m; omega) (by omega) ⟨hr1, hok, rfl, hA1, Nat.le_refl _, by omega, (fun q q1 q2 => f1 q q1), fun _ _ => ⟨rfl, rfl, rfl, rfl⟩⟩ rfl (fun _ _ _ _ _ _ _ q => q)
/-! the class reads one filter -/
theorem flO_node {tb : Nat → Nat} {fp : Nat → Nat → Nat → Nat → Option Fo} {g c p e t : Nat} (hc : c < 20) (hp : tb p = t) (h : 160 ≤ t ∧ t ≤ 162) : flO tb fp (g + 1) c p e = (match el tb p e with | none => none | some (x, y) => (match fp g (c + 1) x y with | none => none | some F => if t = 162 ∧ (fln F) ≠ 1 then none else some (t, (0 : Int32), (0 : Int64), F, y))) := by
  unfold flO
  rw [if_neg (by omega), hp]
  cases el tb p e with
  | none => rfl
  | some q =>
    dsimp only
    rw [if_neg (by unfold lft; rw [decide_eq_false (by omega), decide_eq_false (by omega), decide_eq_false (by omega), decide_eq_false (by omega)]; decide), if_pos h] <;> rfl
theorem flO_leaf {tb : Nat → Nat} {fp : Nat → Nat → Nat → Nat → Option Fo} {g c p e t : Nat} (hc : c < 20) (hp : tb p = t) (h : lft t = true) : flO tb fp (g + 1) c p e = (match el tb p e with | none => none | some (x, y) => (match lfP tb t x y with | none => none | some (ty, v) => some (t, ty, v, Fo.nil, y))) := by
  unfold flO
  rw [if_neg (by omega), hp]
  cases el tb p e with
  | none => rfl
  | some q =>
    dsimp only
    rw [if_pos h] <;> rfl
theorem flO_tag {tb : Nat → Nat} {fp : Nat → Nat → Nat → Nat → Option Fo} {g c p e t : Nat} (hp : tb p = t) (h : lft t = false) (h2 : ¬ (160 ≤ t ∧ t ≤ 162)) : flO tb fp g c p e = none := by
  unfold flO
  split
  · rfl
  · rw [hp]
    cases el tb p e with
    | none => rfl
    | some q =>
      dsimp only
      rw [if_neg (by rw [h]; decide), if_neg h2]
theorem flO_el {tb : Nat → Nat} {fp : Nat → Nat → Nat → Nat → Option Fo} {g c p e : Nat} (h : el tb p e = none) : flO tb fp g c p e = none := by
  unfold flO
  split
  · rfl
  · rw [h]
theorem flO_20 {tb : Nat → Nat} {fp : Nat → Nat → Nat → Nat → Option Fo} {g c p e : Nat} (h : 20 ≤ c ∨ g = 0) : flO tb fp g c p e = none := by
  unfold flO
  rw [if_pos h]
theorem el_pp {tb : Nat → Nat} {p e : Nat} (h : ¬ p < e) : el tb p e = none := by
  unfold el
  rw [if_neg (by omega), if_neg (by omega)]
theorem rok_P {tb : Nat → Nat} {t sz : Nat} {r : RS} (h : rok sz r) : rok sz (rpR tb t r) ∧ (rpR tb t r).2.1 = r.2.1 := by
  have h1 := rok_E (tb := tb) (tag := nI t) h
  have h2 := rok_S (tb := tb) (tag := nI 4) h1.1
  have h3 := rok_S (tb := tb) (tag := nI 4) h2.1
  exact ⟨rok_L h3.1 (by rw [h3.2.1, h2.2.1]; exact h1.2.1) h.2.1, rfl⟩
set_option maxRecDepth 100000 in
set_option maxHeartbeats 4000000 in
theorem y_Fi_readOne {tb : Nat → Nat} {sz : Nat} {ix : Int32} (htb : ∀ j, tb j < 256) : ∀ (g : Nat), g ≤ 6 → ∀ d, RdO tb sz ix (d + 5 + 2 * g) g := by
  intro g
  induction g with
  | zero =>
    intro _ d m μ r c kf tf vf ef hr h hw hA hc hm
    refine ⟨Nat.le_of_ble_eq_true rfl, ?_⟩
    refine x_il c_Fi_readOne_0 rfl ?_
    refine x_ci c_Fi_readOne_1 ?_
    refine x_cmN_gt c_Fi_readOne_3 (by omega) (by omega) (fun _ => ?_) (fun h => (by exfalso; omega))
    refine x_al c_Fi_readOne_15 rfl ?_
    refine x_ci c_Fi_readOne_16 ?_
    refine x_put [_, _, _, _, _, _, _, _] c_Fi_readOne_17 (by first | rfl | exact hr.1 | exact hA.1) ⟨Nat.le_of_ble_eq_true rfl, by first | decide | exact kz_n _, by first | decide | exact kz_f _⟩ rfl ?_
    refine x_ret c_Fi_readOne_20 ?_
    exact ⟨rfl, rW r, c, kf, tf, vf, ef, ⟨⟨rfl, hr.2⟩, h, rfl, fiA_k hA (fun q q1 q2 => kc_gf (by omega)), Nat.le_refl _, hc, fun q q1 _ => kc_gf q1, fun _ _ => ⟨rfl, rfl, rfl, rfl⟩⟩, by rw [flO_20 (Or.inr rfl)]; exact rfl⟩
  | succ g ihg =>
    intro hg d m μ r c kf tf vf ef hr h hw hA hc hm
    have ihg := ihg (by omega) d
    obtain ⟨E, hE⟩ : ∃ E, E = d + 2 * (g + 1) := ⟨_, rfl⟩
    rw [show d + 5 + 2 * (g + 1) = E + 4 + 1 by omega]
    refine ⟨Nat.le_of_ble_eq_true rfl, ?_⟩
    have hz := h.2.2
    by_cases hc20 : 20 ≤ c
    · skip
      refine x_il c_Fi_readOne_0 rfl ?_
      refine x_ci c_Fi_readOne_1 ?_
      refine x_cmN_gt c_Fi_readOne_3 (by omega) (by omega) (fun h => (by exfalso; omega)) (fun _ => ?_)
      refine x_al c_Fi_readOne_6 rfl ?_
      refine x_get c_Fi_readOne_7 (by first | rfl | exact hr.1 | exact hA.1) rfl ?_
      refine x_ci c_Fi_readOne_10 ?_
      refine x_cmN_lt c_Fi_readOne_12 (by omega) (by omega) (fun h => (by exfalso; omega)) (fun _ => ?_)
      refine x_al c_Fi_readOne_15 rfl ?_
      refine x_ci c_Fi_readOne_16 ?_
      refine x_put [_, _, _, _, _, _, _, _] c_Fi_readOne_17 (by first | rfl | exact hr.1 | exact hA.1) ⟨Nat.le_of_ble_eq_true rfl, by first | decide | exact kz_n _, by first | decide | exact kz_f _⟩ rfl ?_
      refine x_ret c_Fi_readOne_20 ?_
      exact ⟨rfl, rW r, c, kf, tf, vf, ef, ⟨⟨rfl, hr.2⟩, h, rfl, fiA_k hA (fun q q1 q2 => kc_gf (by omega)), Nat.le_refl _, hc, fun q q1 _ => kc_gf q1, fun _ _ => ⟨rfl, rfl, rfl, rfl⟩⟩, by rw [flO_20 (Or.inl hc20)]; exact rfl⟩
    · have fin : ∀ (μ3 : kc_M) (r3 : RS) (c3 : Nat) (kf3 tf3 : Nat → Int32) (vf3 : Nat → Int64) (ef3 : Nat → Int32), foL μ μ3 tb sz ix r.2.1 c kf tf vf ef r3 c3 kf3 tf3 vf3 ef3 → foO (flO tb (flP tb m) (g + 1) c r.1 r.2.1) c r3 c3 kf3 tf3 vf3 (upd ef3 c (nI c3)) → kc_X (kC j_Fi_readOne) (kc_Y kt kC (E + 4)) (fun w μ' => w = none ∧ ∃ r' c' kf' tf' vf' ef', foL μ μ' tb sz ix r.2.1 c kf tf vf ef r' c' kf' tf' vf' ef' ∧ foO (flO tb (flP tb m) (g + 1) c r.1 r.2.1) c r' c' kf' tf' vf' ef') 164 [some (.ref 128), some (.ref 1), some (.int (nI (7 - (g + 1)))), some (.int (nI c))] [] μ3 (0, 0) := by
        intro μ3 r3 c3 kf3 tf3 vf3 ef3 hL hO
        obtain ⟨b1, b2, b3, b4, b5, b6, b7, b8⟩ := hL
        refine x_al c_Fi_readOne_164 rfl ?_
        refine x_get c_Fi_readOne_165 (by first | rfl | exact b4.1 | exact b4.2.2.2.2) rfl ?_
        refine x_il c_Fi_readOne_168 rfl ?_
        refine x_al c_Fi_readOne_169 rfl ?_
        refine x_get c_Fi_readOne_170 (by first | rfl | exact b4.1 | exact b4.2.2.2.2) rfl ?_
        refine x_iastN c_Fi_readOne_173 (by first | rfl | exact b4.1 | exact b4.2.2.2.2) (by omega) (by omega) ?_
        refine x_ret c_Fi_readOne_174 ?_
        exact ⟨rfl, r3, c3, kf3, tf3, vf3, _, ⟨⟨(kc_gf (by decide)).trans b1.1, (kc_gf (by decide)).trans b1.2⟩, b2, b3, ⟨(kc_gf (by decide)).trans b4.1, (kc_gf (by decide)).trans b4.2.1, (kc_gf (by decide)).trans b4.2.2.1, (kc_gf (by decide)).trans b4.2.2.2.1, kc_gs⟩, b5, b6, fun q q1 q2 => (kc_gf (by omega)).trans (b7 q q1 q2), fun j hj => ⟨(b8 j hj).1, (b8 j hj).2.1, (b8 j hj).2.2.1, (if_neg (by omega)).trans (b8 j hj).2.2.2⟩⟩, hO⟩
      have rest : ∀ (t : Nat), tb r.1 = t → r.1 < r.2.1 → ∀ μ2 : kc_M, fiA μ2 (c + 1) (upd kf c (nI t)) tf vf ef → rd_r μ2 tb sz ix r → (∀ q, q ≠ 1 → q < 128 ∨ 132 < q → μ2.1 q = μ.1 q) → kc_X (kC j_Fi_readOne) (kc_Y kt kC (E + 4)) (fun w μ' => w = none ∧ ∃ r' c' kf' tf' vf' ef', foL μ μ' tb sz ix r.2.1 c kf tf vf ef r' c' kf' tf' vf' ef' ∧ foO (flO tb (flP tb m) (g + 1) c r.1 r.2.1) c r' c' kf' tf' vf' ef') 46 [some (.ref 128), some (.ref 1), some (.int (nI (7 - (g + 1)))), some (.int (nI c))] [] μ2 (0, 0) := by
        intro t hp hlt μ2 hA2 hr2 hf2
        have ht31 : t < 2 ^ 31 := by rw [← hp]; exact tbl htb _
        have hne : ∀ k, k < 2 ^ 31 → t ≠ k → ¬ nI t = nI k := fun k hk hh q => hh ((nI_eq ht31 hk).mp q)
        have hkc : (upd kf c (nI t)) c = nI t := if_pos rfl
        have hre : r = (r.1, r.2.1, false, r.2.2.2.1, r.2.2.2.2) := rs_eta rfl rfl hw
        by_cases hnode : 160 ≤ t ∧ t ≤ 162
        · have hri := y_Fi_readInner (d + 5 + 2 * g) (by omega) htb (g := g) (by omega) ihg (m := m) hr2 h hw hA2 (by omega) hkc hp hnode hm
          rw [show d + 5 + 2 * g + 1 = E + 4 by omega] at hri
          refine x_al c_Fi_readOne_46 rfl ?_
          refine x_get c_Fi_readOne_47 (by first | rfl | exact hr2.1 | exact hA2.1 | exact hA2.2.1) rfl ?_
          refine x_il c_Fi_readOne_50 rfl ?_
          refine x_ialdE c_Fi_readOne_51 (by first | rfl | exact hr2.1 | exact hA2.1 | exact hA2.2.1) (by omega) (by omega) (hkc) ?_
          refine x_sw 120 c_Fi_readOne_52 (by rcases (by omega : t = 160 ∨ t = 161 ∨ t = 162) with q | q | q <;> rw [q] <;> rfl) ?_
          refine x_al c_Fi_readOne_120 rfl ?_
          refine x_al c_Fi_readOne_121 rfl ?_
          refine x_il c_Fi_readOne_122 rfl ?_
          refine x_il c_Fi_readOne_123 rfl ?_
          refine x_cv3z _ c_Fi_readOne_124 (by first | rfl | exact hr2.1 | exact hA2.1 | exact hA2.2.1) (Nat.le_of_ble_eq_true rfl) (hri) ?_
          rintro _ μ3 ⟨rfl, r3, c3, kf3, tf3, vf3, ef3, hL3, hO3⟩
          show kc_X _ _ _ _ _ [] _ _
          refine x_goto c_Fi_readOne_127 ?_
          obtain ⟨b1, b2, b3, b4, b5, b6, b7, b8⟩ := id hL3
          refine fin μ3 r3 c3 kf3 tf3 vf3 ef3 ⟨b1, b2, b3, b4, by omega, b6, fun q q1 q2 => (b7 q q1 q2).trans (hf2 q q1 q2), fun j hj => ⟨(b8 j (by omega)).1.trans (if_neg (by omega)), (b8 j (by omega)).2.1, (b8 j (by omega)).2.2.1, (b8 j (by omega)).2.2.2⟩⟩ ?_
          rw [flO_node (by omega) hp hnode]
          have hsh : ∀ t' ty' v' F' y', (match el tb r.1 r.2.1 with | none => none | some (x, y) => (match flP tb m g (c + 1) x y with | none => none | some F => if t = 162 ∧ (fln F) ≠ 1 then none else some (t, (0 : Int32), (0 : Int64), F, y))) = some (t', ty', v', F', y') → t' = t ∧ ty' = 0 ∧ v' = 0 := by
            intro t' ty' v' F' y' q
            split at q
            · cases q
            · split at q
              · cases q
              · split at q
                · cases q
                · cases q; exact ⟨rfl, rfl, rfl⟩
          revert hO3 hsh
          generalize (match el tb r.1 r.2.1 with | none => none | some (x, y) => (match flP tb m g (c + 1) x y with | none => none | some F => if t = 162 ∧ (fln F) ≠ 1 then none else some (t, (0 : Int32), (0 : Int64), F, y))) = oo
          cases oo with
          | none => exact fun q _ => q
          | some q =>
            obtain ⟨t', ty', v', F', y'⟩ := q
            intro ⟨q1, q2, q3, q4⟩ hsh
            obtain ⟨rfl, rfl, rfl⟩ := hsh _ _ _ _ _ rfl
            have hnl : lft t' = false := by unfold lft; rw [decide_eq_false (by omega), decide_eq_false (by omega), decide_eq_false (by omega), decide_eq_false (by omega)]; rfl
            refine ⟨q1, q2, by rw [fsz_c]; have : fsz Fo.nil = 0 := rfl; omega, ⟨(b8 c (by omega)).1.trans (if_pos rfl), fun q => (by rw [hnl] at q; cases q), (if_pos rfl).trans (by rw [q3])⟩, enC_k _ _ q4 (fun j j1 j2 => ⟨rfl, rfl, rfl, if_neg (by omega)⟩), trivial⟩
        · by_cases hpair : t = 163 ∨ t = 165 ∨ t = 166
          · have hlf : lft t = true := by rcases hpair with q | q | q <;> rw [q] <;> rfl
            have h135 : t ≠ 135 := by omega
            have hrp := y_Fi_readPair E htb hr2 h hA2 (i := c) (t := t) (by omega) hkc
            have hkp := rok_P (tb := tb) (t := t) h
            refine x_al c_Fi_readOne_46 rfl ?_
            refine x_get c_Fi_readOne_47 (by first | rfl | exact hr2.1 | exact hA2.1 | exact hA2.2.1) rfl ?_
            refine x_il c_Fi_readOne_50 rfl ?_
            refine x_ialdE c_Fi_readOne_51 (by first | rfl | exact hr2.1 | exact hA2.1 | exact hA2.2.1) (by omega) (by omega) (hkc) ?_
            refine x_sw 130 c_Fi_readOne_52 (by rcases hpair with q | q | q <;> rw [q] <;> rfl) ?_
            refine x_al c_Fi_readOne_130 rfl ?_
            refine x_al c_Fi_readOne_131 rfl ?_
            refine x_il c_Fi_readOne_132 rfl ?_
            refine x_cv2z _ c_Fi_readOne_133 (by first | rfl | exact hr2.1 | exact hA2.1 | exact hA2.2.1) (Nat.le_of_ble_eq_true rfl) (hrp) ?_
            rintro _ μ3 ⟨rfl, hr3, hA3, f3⟩
            show kc_X _ _ _ _ _ [] _ _
            refine x_goto c_Fi_readOne_136 ?_
            refine fin μ3 (rpR tb t r) (c + 1) _ _ _ _ ⟨hr3, hkp.1, hkp.2, hA3, by omega, by omega, fun q q1 q2 => (f3 q q1 q2).trans (hf2 q q1 q2), fun j hj => ⟨if_neg (by omega), if_neg (by omega), if_neg (by omega), rfl⟩⟩ ?_
            rw [flO_leaf (by omega) hp hlf]
            (
              rw [hre]
              rcases el_or tb r.1 r.2.1 with hel | ⟨x, y, hel⟩
              · rw [hel]
                exact rp_no htb hp h135 (fun x y q => absurd (hel.symm.trans q) (fun q => by cases q))
              · rw [hel]
                dsimp only
                cases hlp : lfP tb t x y with
                | none =>
                  refine rp_no htb hp h135 (fun x' y' q => ?_)
                  rw [hel] at q
                  cases q
                  exact hlp
                | some tv' =>
                  obtain ⟨ty, v⟩ := tv'
                  obtain ⟨⟨sf', st', q1⟩, q2, q3⟩ := rp_ok htb (sf := r.2.2.2.1) (st := r.2.2.2.2) hp hel h135 hlp
                  dsimp only
                  rw [q1, q2, q3]
                  exact ⟨rfl, rfl, rfl, ⟨if_pos rfl, fun _ => ⟨if_pos rfl, fun _ => if_pos rfl⟩, if_pos rfl⟩, trivial, trivial⟩)
          · by_cases h135 : t = 135
            · have hlf : lft t = true := by rw [h135]; rfl
              have hks := rok_S (tb := tb) (tag := nI 135) h
              subst h135
              refine x_al c_Fi_readOne_46 rfl ?_
              refine x_get c_Fi_readOne_47 (by first | rfl | exact hr2.1 | exact hA2.1 | exact hA2.2.1 | exact hr3.1 | exact A3.1 | exact A3.2.2.1) rfl ?_
              refine x_il c_Fi_readOne_50 rfl ?_
              refine x_ialdE c_Fi_readOne_51 (by first | rfl | exact hr2.1 | exact hA2.1 | exact hA2.2.1 | exact hr3.1 | exact A3.1 | exact A3.2.2.1) (by omega) (by omega) (hkc) ?_
              refine x_sw 139 c_Fi_readOne_52 (by rfl) ?_
              refine x_al c_Fi_readOne_139 rfl ?_
              refine x_ci c_Fi_readOne_140 ?_
              refine x_cv1z _ c_Fi_readOne_143 (by first | rfl | exact hr2.1 | exact hA2.1 | exact hA2.2.1 | exact hr3.1 | exact A3.1 | exact A3.2.2.1) (Nat.le_of_ble_eq_true rfl) (y_Rd_span (E + 2) hr2 h htb (tag := nI 135)) ?_
              rintro _ μ3 ⟨rfl, hr3, f3⟩
              have A3 := fiA_k hA2 (μ' := μ3) (fun q q1 q2 => f3 q (by omega))
              show kc_X _ _ _ _ _ [] _ _
              refine x_al c_Fi_readOne_146 rfl ?_
              refine x_get c_Fi_readOne_147 (by first | rfl | exact hr2.1 | exact hA2.1 | exact hA2.2.1 | exact hr3.1 | exact A3.1 | exact A3.2.2.1) rfl ?_
              refine x_il c_Fi_readOne_150 rfl ?_
              refine x_al c_Fi_readOne_151 rfl ?_
              refine x_cv0z _ c_Fi_readOne_152 (by first | rfl | exact hr2.1 | exact hA2.1 | exact hA2.2.1 | exact hr3.1 | exact A3.1 | exact A3.2.2.1) (Nat.le_of_ble_eq_true rfl) (y_Rd_spanType (E + 2) hr3 htb hks.2.2.1 (by have := hks.2.2.2.1; omega)) ?_
              rintro _ μx ⟨rfl, hμx⟩
              have hμx := hμx.symm
              subst hμx
              show kc_X _ _ _ _ _ (.int (tyS tb (rS tb (nI 135) r).2.2.2.1 (rS tb (nI 135) r).2.2.2.2) :: _) _ _
              refine x_iastN c_Fi_readOne_155 (by first | rfl | exact hr2.1 | exact hA2.1 | exact hA2.2.1 | exact hr3.1 | exact A3.1 | exact A3.2.2.1) (by omega) (by omega) ?_
              refine x_goto c_Fi_readOne_156 ?_
              refine fin _ (rS tb (nI 135) r) (c + 1) (upd kf c (nI 135)) (upd tf c (tyS tb (rS tb (nI 135) r).2.2.2.1 (rS tb (nI 135) r).2.2.2.2)) vf ef ⟨(by exact ⟨hr3.1, hr3.2⟩), hks.1, hks.2.1, ⟨(kc_gf (by decide)).trans A3.1, (kc_gf (by decide)).trans A3.2.1, kc_gs, (kc_gf (by decide)).trans A3.2.2.2.1, (kc_gf (by decide)).trans A3.2.2.2.2⟩, by omega, by omega, fun q q1 q2 => (kc_gf (by omega)).trans ((f3 q q1).trans (hf2 q q1 q2)), fun j hj => ⟨if_neg (by omega), if_neg (by omega), rfl, rfl⟩⟩ ?_
              rw [flO_leaf (by omega) hp hlf]
              (
                rw [hre]
                rcases el_or tb r.1 r.2.1 with hel | ⟨x, y, hel⟩
                · rw [hel]
                  exact rS_no htb (by omega) (by unfold tl; rw [if_pos hp]; exact hel)
                · rw [hel]
                  rw [rS_ok htb (by omega) (by unfold tl; rw [if_pos hp]; exact hel)]
                  exact ⟨rfl, rfl, rfl, ⟨if_pos rfl, fun _ => ⟨if_pos rfl, fun q => absurd rfl q⟩, if_pos rfl⟩, trivial, trivial⟩)
            · have hlf : lft t = false := by unfold lft; rw [decide_eq_false (by omega), decide_eq_false (by omega), decide_eq_false (by omega), decide_eq_false (by omega)]; rfl
              refine x_al c_Fi_readOne_46 rfl ?_
              refine x_get c_Fi_readOne_47 (by first | rfl | exact hr2.1 | exact hA2.1 | exact hA2.2.1) rfl ?_
              refine x_il c_Fi_readOne_50 rfl ?_
              refine x_ialdE c_Fi_readOne_51 (by first | rfl | exact hr2.1 | exact hA2.1 | exact hA2.2.1) (by omega) (by omega) (hkc) ?_
              refine x_sw 159 c_Fi_readOne_52 ((if_neg (hne 135 (by decide) (by omega))).trans ((if_neg (hne 160 (by decide) (by omega))).trans ((if_neg (hne 161 (by decide) (by omega))).trans ((if_neg (hne 162 (by decide) (by omega))).trans ((if_neg (hne 163 (by decide) (by omega))).trans ((if_neg (hne 165 (by decide) (by omega))).trans (if_neg (hne 166 (by decide) (by omega))))))))) ?_
              refine x_al c_Fi_readOne_159 rfl ?_
              refine x_ci c_Fi_readOne_160 ?_
              refine x_put [_, _, _, _, _, _, _, _] c_Fi_readOne_161 (by first | rfl | exact hr2.1 | exact hA2.1 | exact hA2.2.1) ⟨Nat.le_of_ble_eq_true rfl, by first | decide | exact kz_n _, by first | decide | exact kz_f _⟩ rfl ?_
              refine fin _ (rW r) (c + 1) (upd kf c (nI t)) tf vf ef ⟨(by exact ⟨rfl, hr2.2⟩), h, rfl, fiA_k hA2 (fun q q1 q2 => kc_gf (by omega)), by omega, by omega, fun q q1 q2 => (kc_gf q1).trans (hf2 q q1 q2), fun j hj => ⟨if_neg (by omega), rfl, rfl, rfl⟩⟩ ?_
              rw [flO_tag hp hlf hnode]
              exact rfl
      by_cases hlt : r.1 < r.2.1
      · have hmo : rM r = true := by unfold rM; rw [hw, decide_eq_true hlt]; rfl
        refine x_il c_Fi_readOne_0 rfl ?_
        refine x_ci c_Fi_readOne_1 ?_
        refine x_cmN_gt c_Fi_readOne_3 (by omega) (by omega) (fun h => (by exfalso; omega)) (fun _ => ?_)
        refine x_al c_Fi_readOne_6 rfl ?_
        refine x_get c_Fi_readOne_7 (by first | rfl | exact hr.1 | exact hA.1 | exact hA.2.1) rfl ?_
        refine x_ci c_Fi_readOne_10 ?_
        refine x_cmN_lt c_Fi_readOne_12 (by omega) (by omega) (fun _ => ?_) (fun h => (by exfalso; omega))
        refine x_al c_Fi_readOne_21 rfl ?_
        refine x_get c_Fi_readOne_22 (by first | rfl | exact hr.1 | exact hA.1 | exact hA.2.1) rfl ?_
        refine x_is [_, _, _, _] c_Fi_readOne_25 rfl ?_
        refine x_al c_Fi_readOne_26 rfl ?_
        refine x_dup c_Fi_readOne_27 rfl ?_
        refine x_get c_Fi_readOne_28 (by first | rfl | exact hr.1 | exact hA.1 | exact hA.2.1) rfl ?_
        refine x_ci c_Fi_readOne_31 ?_
        first | refine x_iaddN c_Fi_readOne_32 ?_ | refine x_iadd c_Fi_readOne_32 ?_
        refine x_put [_, _, _, _, _] c_Fi_readOne_33 (by first | rfl | exact hr.1 | exact hA.1 | exact hA.2.1) ⟨Nat.le_of_ble_eq_true rfl, rfl, rfl⟩ rfl ?_
        refine x_al c_Fi_readOne_36 rfl ?_
        refine x_get c_Fi_readOne_37 (by first | rfl | exact hr.1 | exact hA.1 | exact hA.2.1) rfl ?_
        refine x_il c_Fi_readOne_40 rfl ?_
        refine x_al c_Fi_readOne_41 rfl ?_
        refine x_cv0z _ c_Fi_readOne_42 (by first | rfl | exact hr.1 | exact hA.1 | exact hA.2.1) (Nat.le_of_ble_eq_true rfl) (y_Rd_nextTag (E + 2) (r := r) (by exact ⟨hr.1, hr.2⟩) h htb) ?_
        rintro _ μx ⟨rfl, hμx⟩
        have hμx := hμx.symm
        subst hμx
        show kc_X _ _ _ _ _ (.int (rT tb r) :: _) _ _
        rw [show rT tb r = nI (tb r.1) by unfold rT; rw [if_pos hmo]]
        refine x_iastN c_Fi_readOne_45 (by first | rfl | exact hr.1 | exact hA.1 | exact hA.2.1) (by omega) (by omega) ?_
        exact rest _ rfl hlt _ ⟨(kc_gf (by decide)).trans kc_gs, kc_gs, (kc_gf (by decide)).trans ((kc_gf (by decide)).trans hA.2.2.1), (kc_gf (by decide)).trans ((kc_gf (by decide)).trans hA.2.2.2.1), (kc_gf (by decide)).trans ((kc_gf (by decide)).trans hA.2.2.2.2)⟩ (by exact ⟨hr.1, hr.2⟩) (fun q q1 q2 => (kc_gf (by omega)).trans (kc_gf (by omega)))
      · have hmo : ¬ rM r = true := by unfold rM; rw [hw, decide_eq_false hlt]; decide
        refine x_il c_Fi_readOne_0 rfl ?_
        refine x_ci c_Fi_readOne_1 ?_
        refine x_cmN_gt c_Fi_readOne_3 (by omega) (by omega) (fun h => (by exfalso; omega)) (fun _ => ?_)
        refine x_al c_Fi_readOne_6 rfl ?_
        refine x_get c_Fi_readOne_7 (by first | rfl | exact hr.1 | exact hA.1 | exact hA.2.1) rfl ?_
        refine x_ci c_Fi_readOne_10 ?_
        refine x_cmN_lt c_Fi_readOne_12 (by omega) (by omega) (fun _ => ?_) (fun h => (by exfalso; omega))
        refine x_al c_Fi_readOne_21 rfl ?_
        refine x_get c_Fi_readOne_22 (by first | rfl | exact hr.1 | exact hA.1 | exact hA.2.1) rfl ?_
        refine x_is [_, _, _, _] c_Fi_readOne_25 rfl ?_
        refine x_al c_Fi_readOne_26 rfl ?_
        refine x_dup c_Fi_readOne_27 rfl ?_
        refine x_get c_Fi_readOne_28 (by first | rfl | exact hr.1 | exact hA.1 | exact hA.2.1) rfl ?_
        refine x_ci c_Fi_readOne_31 ?_
        first | refine x_iaddN c_Fi_readOne_32 ?_ | refine x_iadd c_Fi_readOne_32 ?_
        refine x_put [_, _, _, _, _] c_Fi_readOne_33 (by first | rfl | exact hr.1 | exact hA.1 | exact hA.2.1) ⟨Nat.le_of_ble_eq_true rfl, rfl, rfl⟩ rfl ?_
        refine x_al c_Fi_readOne_36 rfl ?_
        refine x_get c_Fi_readOne_37 (by first | rfl | exact hr.1 | exact hA.1 | exact hA.2.1) rfl ?_
        refine x_il c_Fi_readOne_40 rfl ?_
        refine x_al c_Fi_readOne_41 rfl ?_
        refine x_cv0z _ c_Fi_readOne_42 (by first | rfl | exact hr.1 | exact hA.1 | exact hA.2.1) (Nat.le_of_ble_eq_true rfl) (y_Rd_nextTag (E + 2) (r := r) (by exact ⟨hr.1, hr.2⟩) h htb) ?_
        rintro _ μx ⟨rfl, hμx⟩
        have hμx := hμx.symm
        subst hμx
        show kc_X _ _ _ _ _ (.int (rT tb r) :: _) _ _
        rw [show rT tb r = -1 by unfold rT; rw [if_neg hmo]]
        refine x_iastN c_Fi_readOne_45 (by first | rfl | exact hr.1 | exact hA.1 | exact hA.2.1) (by omega) (by omega) ?_
        refine x_al c_Fi_readOne_46 rfl ?_
        refine x_get c_Fi_readOne_47 (by first | rfl | exact hr.1 | exact hA.1 | exact hA.2.1) rfl ?_
        refine x_il c_Fi_readOne_50 rfl ?_
        refine x_ialdE c_Fi_readOne_51 (by first | rfl | exact hr.1 | exact hA.1 | exact hA.2.1) (by omega) (by omega) (if_pos rfl) ?_
        refine x_sw 159 c_Fi_readOne_52 (rfl) ?_
        refine x_al c_Fi_readOne_159 rfl ?_
        refine x_ci c_Fi_readOne_160 ?_
        refine x_put [_, _, _, _, _, _, _, _] c_Fi_readOne_161 (by first | rfl | exact hr.1 | exact hA.1 | exact hA.2.1) ⟨Nat.le_of_ble_eq_true rfl, by first | decide | exact kz_n _, by first | decide | exact kz_f _⟩ rfl ?_
        refine fin _ (rW r) (c + 1) (upd kf c (-1)) tf vf ef ⟨(by exact ⟨rfl, hr.2⟩), h, rfl, ⟨(kc_gf (by decide)).trans ((kc_gf (by decide)).trans kc_gs), (kc_gf (by decide)).trans kc_gs, (kc_gf (by decide)).trans ((kc_gf (by decide)).trans ((kc_gf (by decide)).trans hA.2.2.1)), (kc_gf (by decide)).trans ((kc_gf (by decide)).trans ((kc_gf (by decide)).trans hA.2.2.2.1)), (kc_gf (by decide)).trans ((kc_gf (by decide)).trans ((kc_gf (by decide)).trans hA.2.2.2.2))⟩, by omega, by omega, fun q q1 q2 => (kc_gf q1).trans ((kc_gf (by omega)).trans (kc_gf (by omega))), fun j hj => ⟨if_neg (by omega), rfl, rfl, rfl⟩⟩ ?_
        rw [flO_el (el_pp hlt)]
        exact rfl
