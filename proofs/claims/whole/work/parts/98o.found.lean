/-! the class answers with what it found -/
def fitB (L X : List Int32) : Bool := decide (X.length ≤ 129 ∧ L.length + X.length ≤ 284)
theorem enB_2 (k : Nat) (ta : Bool) (W : List Int32) (l P : List tv) : 2 ≤ (enB k ta W l P).length := by unfold enB eb; simp only [List.length_cons]; omega
theorem enB_le (k : Nat) (ta : Bool) (W : List Int32) {l P : List tv} (hl : l.length ≤ 4) (hP : P.length ≤ 6) : (enB k ta W l P).length ≤ 158 := by
  have h1 := idB_len k
  have h2 := nB_len l
  have h3 := asB_len ta W P 6
  have h4 := cTs_le P 6 (by omega)
  unfold enB eb
  simp only [List.length_cons, List.length_append]
  omega
theorem wL_cut {μ : kc_M} {L X : List Int32} (h : wL μ (L ++ X)) : wL (kc_u μ 3 (ce_Wr L.length)) L := by
  obtain ⟨w, ⟨h1, h2⟩, h3, h4⟩ := h
  rw [List.length_append] at h3 h4
  exact ⟨w, ⟨kc_gs, (kc_gf (by decide)).trans h2⟩, fun k hk => by rw [← h3 k (by omega), List.getElem?_append_left hk], by omega⟩
def srF (sel : Nat → Bool) (en : Nat → List Int32) (li : Nat) : Nat → Nat → Nat → Bool → List Int32 → Nat × Bool × List Int32
  | 0, _, fo, ro, L => (fo, ro, L)
  | m + 1, e, fo, ro, L => if sel e = true then (if ro = true ∧ wln li (fo + 1) = true then (if fitB L (en e) = true then srF sel en li m (e + 1) (fo + 1) true (L ++ en e) else srF sel en li m (e + 1) (fo + 1) false L) else srF sel en li m (e + 1) (fo + 1) ro L) else srF sel en li m (e + 1) fo ro L
theorem srF_s (sel : Nat → Bool) (en : Nat → List Int32) (li m e fo : Nat) (ro : Bool) (L : List Int32) : srF sel en li (m + 1) e fo ro L = if sel e = true then (if ro = true ∧ wln li (fo + 1) = true then (if fitB L (en e) = true then srF sel en li m (e + 1) (fo + 1) true (L ++ en e) else srF sel en li m (e + 1) (fo + 1) false L) else srF sel en li m (e + 1) (fo + 1) ro L) else srF sel en li m (e + 1) fo ro L := rfl
def srC (li : Nat) (r : Nat × Bool × List Int32) : Nat := if wln li r.1 = true then (if r.2.1 = true then 0 else 11) else 4
def selB (sc : Nat) (l : List tv) (G : Fo) (nm pr : Nat → List tv) (e : Nat) : Bool := scp sc (lv (nm e) l) && decide ((evF (pr e) G).headD 0 = 2)
set_option maxRecDepth 100000 in
set_option maxHeartbeats 4000000 in
theorem y_Dk_answerEntry (d : Nat) {μ : kc_M} {lo so : Bool} (h0 : μ.1 0 = some (ce_Dk lo so)) {sz at_ en : Nat} {wr : Bool} {k sf st : Nat} (h1 : μ.1 1 = some (ce_Rd sz at_ en wr (nI k) sf st)) (hk : k < 2 ^ 31) {sc li : Int32} {ta : Bool} {W : List Int32} (hq : μ.1 127 = some (ce_Qu sc li ta (mkL (if W = [] then nI 63 else 0) W))) {L : List Int32} (h : wL μ L) (hL : L.length ≤ 284) {a : Nat} (ha : 7 ≤ a) (ha2 : a < 119) {l P : List tv} (he : en_l μ a l P) (hg : gd P) (hl4 : l.length ≤ 4) (hP6 : P.length ≤ 6) : kc_Y kt kC (d + 5) j_Dk_answerEntry [.ref 0, .ref a] μ (fun w μ' => w = some (.int (bI (fitB L (enB k ta W l P)))) ∧ wC μ μ' (if fitB L (enB k ta W l P) = true then L ++ (enB k ta W l P) else L)) := by
  refine ⟨Nat.le_of_ble_eq_true rfl, ?_⟩
  have cc := wC.re h
  have hid := idB_len k
  have hnb := nB_len l
  have he2 := enB_2 k ta W l P
  have hep := enB_le k ta W hl4 hP6
  have fin : ∀ (μ1 : kc_M) (jk : Option Value), wC μ μ1 (((((L ++ [nI 48, nI 0]) ++ eb (nI 2) (idB k)) ++ [nI 100, nI 0]) ++ eb (nI 4) (nB l)) ++ nI 48 :: nI 0 :: asB ta W P 6) → kc_X (kC j_Dk_answerEntry) (kc_Y kt kC (d + 4)) (fun w μ' => w = some (.int (bI (fitB L (enB k ta W l P)))) ∧ wC μ μ' (if fitB L (enB k ta W l P) = true then L ++ (enB k ta W l P) else L)) 120 [some (.ref 0), some (.ref a), some (.int (nI L.length)), some (.int (nI (L.length + 2))), some (.int (nI (((L ++ [nI 48, nI 0]) ++ eb (nI 2) (idB k)).length + 2))), some (.int (nI (((((L ++ [nI 48, nI 0]) ++ eb (nI 2) (idB k)) ++ [nI 100, nI 0]) ++ eb (nI 4) (nB l)).length + 2))), jk] [] μ1 (0, 0) := by
    intro μ1 jk cc
    have k0 := (cc.2 0 (by decide) (by decide)).trans h0
    have k1 := (cc.2 1 (by decide) (by decide)).trans h1
    have kq := (cc.2 127 (by decide) (by decide)).trans hq
    have ke := en_k he (μ' := μ1) (fun q q1 q2 => cc.2 q (by omega) (by omega))
    by_cases hfit : fitB L (enB k ta W l P) = true
    · rw [hfit, if_pos rfl]
      have hf2 := of_decide_eq_true hfit
      refine x_al c_Dk_answerEntry_120 rfl ?_
      refine x_get c_Dk_answerEntry_121 (by first | rfl | exact k0 | exact k1 | exact kq | exact cc.o | exact ke.1 | exact (nm_c ke.2.1) | exact (pa_c ke.2.2) | exact kw) rfl ?_
      refine x_il c_Dk_answerEntry_124 rfl ?_
      refine x_cv1z _ c_Dk_answerEntry_126 (by first | rfl | exact k0 | exact k1 | exact kq | exact cc.o | exact ke.1 | exact (nm_c ke.2.1) | exact (pa_c ke.2.2) | exact kw) (Nat.le_of_ble_eq_true rfl) (y_Wr_finish (d + 3) (L := ((((L ++ [nI 48, nI 0]) ++ eb (nI 2) (idB k)) ++ [nI 100, nI 0]) ++ eb (nI 4) (nB l))) (X := asB ta W P 6) (t := nI 48) (z := nI 0) rfl cc.1) ?_
      rintro _ μ11 ⟨rfl, c11⟩
      have cc := cc.to c11
      have k0 := (cc.2 0 (by decide) (by decide)).trans h0
      have k1 := (cc.2 1 (by decide) (by decide)).trans h1
      have kq := (cc.2 127 (by decide) (by decide)).trans hq
      have ke := en_k he (μ' := μ11) (fun q q1 q2 => cc.2 q (by omega) (by omega))
      show kc_X _ _ _ _ _ [] _ _
      refine x_al c_Dk_answerEntry_129 rfl ?_
      refine x_get c_Dk_answerEntry_130 (by first | rfl | exact k0 | exact k1 | exact kq | exact cc.o | exact ke.1 | exact (nm_c ke.2.1) | exact (pa_c ke.2.2) | exact kw) rfl ?_
      refine x_il c_Dk_answerEntry_133 rfl ?_
      refine x_cv1z _ c_Dk_answerEntry_135 (by first | rfl | exact k0 | exact k1 | exact kq | exact cc.o | exact ke.1 | exact (nm_c ke.2.1) | exact (pa_c ke.2.2) | exact kw) (Nat.le_of_ble_eq_true rfl) (y_Wr_finish (d + 3) (L := ((L ++ [nI 48, nI 0]) ++ eb (nI 2) (idB k))) (X := eb (nI 4) (nB l) ++ eb (nI 48) (asB ta W P 6)) (t := nI 100) (z := nI 0) (by simp only [eb, List.append_assoc, List.cons_append, List.nil_append]) cc.1) ?_
      rintro _ μ12 ⟨rfl, c12⟩
      have cc := cc.to c12
      have k0 := (cc.2 0 (by decide) (by decide)).trans h0
      have k1 := (cc.2 1 (by decide) (by decide)).trans h1
      have kq := (cc.2 127 (by decide) (by decide)).trans hq
      have ke := en_k he (μ' := μ12) (fun q q1 q2 => cc.2 q (by omega) (by omega))
      show kc_X _ _ _ _ _ [] _ _
      refine x_al c_Dk_answerEntry_138 rfl ?_
      refine x_get c_Dk_answerEntry_139 (by first | rfl | exact k0 | exact k1 | exact kq | exact cc.o | exact ke.1 | exact (nm_c ke.2.1) | exact (pa_c ke.2.2) | exact kw) rfl ?_
      refine x_il c_Dk_answerEntry_142 rfl ?_
      refine x_cv1z _ c_Dk_answerEntry_143 (by first | rfl | exact k0 | exact k1 | exact kq | exact cc.o | exact ke.1 | exact (nm_c ke.2.1) | exact (pa_c ke.2.2) | exact kw) (Nat.le_of_ble_eq_true rfl) (y_Wr_finish (d + 3) (L := L) (X := eb (nI 2) (idB k) ++ eb (nI 100) (eb (nI 4) (nB l) ++ eb (nI 48) (asB ta W P 6))) (t := nI 48) (z := nI 0) (by simp only [eb, List.append_assoc, List.cons_append, List.nil_append]) cc.1) ?_
      rintro _ μ13 ⟨rfl, c13⟩
      have cc := cc.to c13
      have k0 := (cc.2 0 (by decide) (by decide)).trans h0
      have k1 := (cc.2 1 (by decide) (by decide)).trans h1
      have kq := (cc.2 127 (by decide) (by decide)).trans hq
      have ke := en_k he (μ' := μ13) (fun q q1 q2 => cc.2 q (by omega) (by omega))
      have cc : wC μ μ13 (L ++ (enB k ta W l P)) := cc
      have hlen : (L ++ (enB k ta W l P)).length = L.length + (enB k ta W l P).length := List.length_append
      have kw := cc.o
      rw [hlen] at kw
      show kc_X _ _ _ _ _ [] _ _
      refine x_al c_Dk_answerEntry_146 rfl ?_
      refine x_get c_Dk_answerEntry_147 (by first | rfl | exact k0 | exact k1 | exact kq | exact cc.o | exact ke.1 | exact (nm_c ke.2.1) | exact (pa_c ke.2.2) | exact kw) rfl ?_
      refine x_get c_Dk_answerEntry_150 (by first | rfl | exact k0 | exact k1 | exact kq | exact cc.o | exact ke.1 | exact (nm_c ke.2.1) | exact (pa_c ke.2.2) | exact kw) rfl ?_
      refine x_il c_Dk_answerEntry_153 rfl ?_
      first | refine x_isubN c_Dk_answerEntry_154 (by omega) ?_ | refine x_isub c_Dk_answerEntry_154 ?_
      refine x_ci c_Dk_answerEntry_155 ?_
      refine x_cmN_gt c_Dk_answerEntry_157 (by omega) (by omega) (fun h => (by exfalso; omega)) (fun _ => ?_)
      refine x_al c_Dk_answerEntry_160 rfl ?_
      refine x_get c_Dk_answerEntry_161 (by first | rfl | exact k0 | exact k1 | exact kq | exact cc.o | exact ke.1 | exact (nm_c ke.2.1) | exact (pa_c ke.2.2) | exact kw) rfl ?_
      refine x_get c_Dk_answerEntry_164 (by first | rfl | exact k0 | exact k1 | exact kq | exact cc.o | exact ke.1 | exact (nm_c ke.2.1) | exact (pa_c ke.2.2) | exact kw) rfl ?_
      refine x_ci c_Dk_answerEntry_167 ?_
      refine x_cmN_gt c_Dk_answerEntry_170 (by omega) (by omega) (fun h => (by exfalso; omega)) (fun _ => ?_)
      refine x_ci c_Dk_answerEntry_173 ?_
      refine x_goto c_Dk_answerEntry_174 ?_
      refine x_is [_, _, _, _, _, _, _] c_Dk_answerEntry_178 rfl ?_
      refine x_il c_Dk_answerEntry_180 rfl ?_
      refine x_if_ne c_Dk_answerEntry_182 (fun _ => ?_) (fun h => absurd h (by decide))
      refine x_il c_Dk_answerEntry_193 rfl ?_
      refine x_rz c_Dk_answerEntry_195 (by first | decide | exact kz_n _) ?_
      exact ⟨rfl, cc⟩
    · rw [if_neg hfit, show fitB L (enB k ta W l P) = false by revert hfit; cases fitB L (enB k ta W l P) <;> simp]
      have hf2 : ¬ ((enB k ta W l P).length ≤ 129 ∧ L.length + (enB k ta W l P).length ≤ 284) := fun q => hfit (decide_eq_true q)
      refine x_al c_Dk_answerEntry_120 rfl ?_
      refine x_get c_Dk_answerEntry_121 (by first | rfl | exact k0 | exact k1 | exact kq | exact cc.o | exact ke.1 | exact (nm_c ke.2.1) | exact (pa_c ke.2.2) | exact kw) rfl ?_
      refine x_il c_Dk_answerEntry_124 rfl ?_
      refine x_cv1z _ c_Dk_answerEntry_126 (by first | rfl | exact k0 | exact k1 | exact kq | exact cc.o | exact ke.1 | exact (nm_c ke.2.1) | exact (pa_c ke.2.2) | exact kw) (Nat.le_of_ble_eq_true rfl) (y_Wr_finish (d + 3) (L := ((((L ++ [nI 48, nI 0]) ++ eb (nI 2) (idB k)) ++ [nI 100, nI 0]) ++ eb (nI 4) (nB l))) (X := asB ta W P 6) (t := nI 48) (z := nI 0) rfl cc.1) ?_
      rintro _ μ11 ⟨rfl, c11⟩
      have cc := cc.to c11
      have k0 := (cc.2 0 (by decide) (by decide)).trans h0
      have k1 := (cc.2 1 (by decide) (by decide)).trans h1
      have kq := (cc.2 127 (by decide) (by decide)).trans hq
      have ke := en_k he (μ' := μ11) (fun q q1 q2 => cc.2 q (by omega) (by omega))
      show kc_X _ _ _ _ _ [] _ _
      refine x_al c_Dk_answerEntry_129 rfl ?_
      refine x_get c_Dk_answerEntry_130 (by first | rfl | exact k0 | exact k1 | exact kq | exact cc.o | exact ke.1 | exact (nm_c ke.2.1) | exact (pa_c ke.2.2) | exact kw) rfl ?_
      refine x_il c_Dk_answerEntry_133 rfl ?_
      refine x_cv1z _ c_Dk_answerEntry_135 (by first | rfl | exact k0 | exact k1 | exact kq | exact cc.o | exact ke.1 | exact (nm_c ke.2.1) | exact (pa_c ke.2.2) | exact kw) (Nat.le_of_ble_eq_true rfl) (y_Wr_finish (d + 3) (L := ((L ++ [nI 48, nI 0]) ++ eb (nI 2) (idB k))) (X := eb (nI 4) (nB l) ++ eb (nI 48) (asB ta W P 6)) (t := nI 100) (z := nI 0) (by simp only [eb, List.append_assoc, List.cons_append, List.nil_append]) cc.1) ?_
      rintro _ μ12 ⟨rfl, c12⟩
      have cc := cc.to c12
      have k0 := (cc.2 0 (by decide) (by decide)).trans h0
      have k1 := (cc.2 1 (by decide) (by decide)).trans h1
      have kq := (cc.2 127 (by decide) (by decide)).trans hq
      have ke := en_k he (μ' := μ12) (fun q q1 q2 => cc.2 q (by omega) (by omega))
      show kc_X _ _ _ _ _ [] _ _
      refine x_al c_Dk_answerEntry_138 rfl ?_
      refine x_get c_Dk_answerEntry_139 (by first | rfl | exact k0 | exact k1 | exact kq | exact cc.o | exact ke.1 | exact (nm_c ke.2.1) | exact (pa_c ke.2.2) | exact kw) rfl ?_
      refine x_il c_Dk_answerEntry_142 rfl ?_
      refine x_cv1z _ c_Dk_answerEntry_143 (by first | rfl | exact k0 | exact k1 | exact kq | exact cc.o | exact ke.1 | exact (nm_c ke.2.1) | exact (pa_c ke.2.2) | exact kw) (Nat.le_of_ble_eq_true rfl) (y_Wr_finish (d + 3) (L := L) (X := eb (nI 2) (idB k) ++ eb (nI 100) (eb (nI 4) (nB l) ++ eb (nI 48) (asB ta W P 6))) (t := nI 48) (z := nI 0) (by simp only [eb, List.append_assoc, List.cons_append, List.nil_append]) cc.1) ?_
      rintro _ μ13 ⟨rfl, c13⟩
      have cc := cc.to c13
      have k0 := (cc.2 0 (by decide) (by decide)).trans h0
      have k1 := (cc.2 1 (by decide) (by decide)).trans h1
      have kq := (cc.2 127 (by decide) (by decide)).trans hq
      have ke := en_k he (μ' := μ13) (fun q q1 q2 => cc.2 q (by omega) (by omega))
      have cc : wC μ μ13 (L ++ (enB k ta W l P)) := cc
      have hlen : (L ++ (enB k ta W l P)).length = L.length + (enB k ta W l P).length := List.length_append
      have kw := cc.o
      rw [hlen] at kw
      show kc_X _ _ _ _ _ [] _ _
      refine x_al c_Dk_answerEntry_146 rfl ?_
      refine x_get c_Dk_answerEntry_147 (by first | rfl | exact k0 | exact k1 | exact kq | exact cc.o | exact ke.1 | exact (nm_c ke.2.1) | exact (pa_c ke.2.2) | exact kw) rfl ?_
      refine x_get c_Dk_answerEntry_150 (by first | rfl | exact k0 | exact k1 | exact kq | exact cc.o | exact ke.1 | exact (nm_c ke.2.1) | exact (pa_c ke.2.2) | exact kw) rfl ?_
      refine x_il c_Dk_answerEntry_153 rfl ?_
      first | refine x_isubN c_Dk_answerEntry_154 (by omega) ?_ | refine x_isub c_Dk_answerEntry_154 ?_
      refine x_ci c_Dk_answerEntry_155 ?_
      refine x_cmN_gt c_Dk_answerEntry_157 (by omega) (by omega) (fun h157 => ?_) (fun h157 => ?_)
      · refine x_ci c_Dk_answerEntry_177 ?_
        refine x_is [_, _, _, _, _, _, _] c_Dk_answerEntry_178 rfl ?_
        refine x_il c_Dk_answerEntry_180 rfl ?_
        refine x_if_ne c_Dk_answerEntry_182 (fun h => absurd (by decide) h) (fun _ => ?_)
        refine x_al c_Dk_answerEntry_185 rfl ?_
        refine x_get c_Dk_answerEntry_186 (by first | rfl | exact k0 | exact k1 | exact kq | exact cc.o | exact ke.1 | exact (nm_c ke.2.1) | exact (pa_c ke.2.2) | exact kw) rfl ?_
        refine x_il c_Dk_answerEntry_189 rfl ?_
        refine x_put [_, _] c_Dk_answerEntry_190 (by first | rfl | exact k0 | exact k1 | exact kq | exact cc.o | exact ke.1 | exact (nm_c ke.2.1) | exact (pa_c ke.2.2) | exact kw) ⟨Nat.le_of_ble_eq_true rfl, rfl, rfl⟩ rfl ?_
        refine x_il c_Dk_answerEntry_193 rfl ?_
        refine x_rz c_Dk_answerEntry_195 (by first | decide | exact kz_n _) ?_
        exact ⟨rfl, wL_cut cc.1, fun q q1 q2 => (kc_gf q1).trans (cc.2 q q1 q2)⟩
      · refine x_al c_Dk_answerEntry_160 rfl ?_
        refine x_get c_Dk_answerEntry_161 (by first | rfl | exact k0 | exact k1 | exact kq | exact cc.o | exact ke.1 | exact (nm_c ke.2.1) | exact (pa_c ke.2.2) | exact kw) rfl ?_
        refine x_get c_Dk_answerEntry_164 (by first | rfl | exact k0 | exact k1 | exact kq | exact cc.o | exact ke.1 | exact (nm_c ke.2.1) | exact (pa_c ke.2.2) | exact kw) rfl ?_
        refine x_ci c_Dk_answerEntry_167 ?_
        refine x_cmN_gt c_Dk_answerEntry_170 (by omega) (by omega) (fun h170 => ?_) (fun h170 => ?_)
        · refine x_ci c_Dk_answerEntry_177 ?_
          refine x_is [_, _, _, _, _, _, _] c_Dk_answerEntry_178 rfl ?_
          refine x_il c_Dk_answerEntry_180 rfl ?_
          refine x_if_ne c_Dk_answerEntry_182 (fun h => absurd (by decide) h) (fun _ => ?_)
          refine x_al c_Dk_answerEntry_185 rfl ?_
          refine x_get c_Dk_answerEntry_186 (by first | rfl | exact k0 | exact k1 | exact kq | exact cc.o | exact ke.1 | exact (nm_c ke.2.1) | exact (pa_c ke.2.2) | exact kw) rfl ?_
          refine x_il c_Dk_answerEntry_189 rfl ?_
          refine x_put [_, _] c_Dk_answerEntry_190 (by first | rfl | exact k0 | exact k1 | exact kq | exact cc.o | exact ke.1 | exact (nm_c ke.2.1) | exact (pa_c ke.2.2) | exact kw) ⟨Nat.le_of_ble_eq_true rfl, rfl, rfl⟩ rfl ?_
          refine x_il c_Dk_answerEntry_193 rfl ?_
          refine x_rz c_Dk_answerEntry_195 (by first | decide | exact kz_n _) ?_
          exact ⟨rfl, wL_cut cc.1, fun q q1 q2 => (kc_gf q1).trans (cc.2 q q1 q2)⟩
        · exact absurd ⟨by omega, by omega⟩ hf2
  have loop : ∀ m j (μ1 : kc_M), 6 - j = m → j ≤ 6 → wC μ μ1 (((((L ++ [nI 48, nI 0]) ++ eb (nI 2) (idB k)) ++ [nI 100, nI 0]) ++ eb (nI 4) (nB l)) ++ nI 48 :: nI 0 :: asB ta W P j) → kc_X (kC j_Dk_answerEntry) (kc_Y kt kC (d + 4)) (fun w μ' => w = some (.int (bI (fitB L (enB k ta W l P)))) ∧ wC μ μ' (if fitB L (enB k ta W l P) = true then L ++ (enB k ta W l P) else L)) 69 [some (.ref 0), some (.ref a), some (.int (nI L.length)), some (.int (nI (L.length + 2))), some (.int (nI (((L ++ [nI 48, nI 0]) ++ eb (nI 2) (idB k)).length + 2))), some (.int (nI (((((L ++ [nI 48, nI 0]) ++ eb (nI 2) (idB k)) ++ [nI 100, nI 0]) ++ eb (nI 4) (nB l)).length + 2))), some (.int (nI (97 + j)))] [] μ1 (0, 0) := by
    intro m
    induction m with
    | zero =>
      intro j μ1 hm hj cc
      have hj : j = 6 := by omega
      subst hj
      refine x_il c_Dk_answerEntry_69 rfl ?_
      refine x_ci c_Dk_answerEntry_71 ?_
      refine x_cmN_gt c_Dk_answerEntry_73 (by omega) (by omega) (fun _ => ?_) (fun h => (by exfalso; omega))
      exact fin μ1 _ cc
    | succ m ih =>
      intro j μ1 hm hj cc
      have k0 := (cc.2 0 (by decide) (by decide)).trans h0
      have k1 := (cc.2 1 (by decide) (by decide)).trans h1
      have kq := (cc.2 127 (by decide) (by decide)).trans hq
      have ke := en_k he (μ' := μ1) (fun q q1 q2 => cc.2 q (by omega) (by omega))
      have hal := asB_len ta W P j
      have hal2 := cTs_le P (j + 1) (by omega)
      rw [cTs_s] at hal2
      by_cases hw : wnt W (97 + j) = true
      · by_cases hh : hsT (nI (97 + j)) P = true
        · skip
          refine x_il c_Dk_answerEntry_69 rfl ?_
          refine x_ci c_Dk_answerEntry_71 ?_
          refine x_cmN_gt c_Dk_answerEntry_73 (by omega) (by omega) (fun h => (by exfalso; omega)) (fun _ => ?_)
          refine x_al c_Dk_answerEntry_76 rfl ?_
          refine x_get c_Dk_answerEntry_77 (by first | rfl | exact k0 | exact k1 | exact kq | exact cc.o | exact ke.1 | exact (nm_c ke.2.1) | exact (pa_c ke.2.2)) rfl ?_
          refine x_il c_Dk_answerEntry_80 rfl ?_
          refine x_cv1z _ c_Dk_answerEntry_82 (by first | rfl | exact k0 | exact k1 | exact kq | exact cc.o | exact ke.1 | exact (nm_c ke.2.1) | exact (pa_c ke.2.2)) (Nat.le_of_ble_eq_true rfl) (y_Qu_wants (d + 3) kq (t := 97 + j) (by omega) (by omega)) ?_
          rintro _ μx ⟨rfl, hμx⟩
          have hμx := hμx.symm
          subst hμx
          show kc_X _ _ _ _ _ [.int (bI (wnt W (97 + j)))] _ _
          refine x_if_eq c_Dk_answerEntry_85 (fun h => absurd h (by rw [hw]; decide)) (fun _ => ?_)
          refine x_al c_Dk_answerEntry_88 rfl ?_
          refine x_get c_Dk_answerEntry_89 (by first | rfl | exact k0 | exact k1 | exact kq | exact cc.o | exact ke.1 | exact (nm_c ke.2.1) | exact (pa_c ke.2.2)) rfl ?_
          refine x_il c_Dk_answerEntry_92 rfl ?_
          refine x_cl c_Dk_answerEntry_94 ?_
          refine x_cl c_Dk_answerEntry_95 ?_
          refine x_cv3z _ c_Dk_answerEntry_98 (by first | rfl | exact k0 | exact k1 | exact kq | exact cc.o | exact ke.1 | exact (nm_c ke.2.1) | exact (pa_c ke.2.2)) (Nat.le_of_ble_eq_true rfl) (y_Pa_hasBetween (d + 3) ke.2.2 (by omega) (ty := nI (97 + j)) (lo := 0) (hi := 9223372036854775807)) ?_
          rintro _ μx ⟨rfl, hμx⟩
          have hμx := hμx.symm
          subst hμx
          show kc_X _ _ _ _ _ [.int (bI (hbw (nI (97 + j)) 0 9223372036854775807 P))] _ _
          refine x_if_eq c_Dk_answerEntry_101 (fun h => absurd h (by rw [hbw_hsT hg.2, hh]; decide)) (fun _ => ?_)
          refine x_al c_Dk_answerEntry_104 rfl ?_
          refine x_al c_Dk_answerEntry_105 rfl ?_
          refine x_get c_Dk_answerEntry_106 (by first | rfl | exact k0 | exact k1 | exact kq | exact cc.o | exact ke.1 | exact (nm_c ke.2.1) | exact (pa_c ke.2.2)) rfl ?_
          refine x_il c_Dk_answerEntry_109 rfl ?_
          refine x_cv2z _ c_Dk_answerEntry_111 (by first | rfl | exact k0 | exact k1 | exact kq | exact cc.o | exact ke.1 | exact (nm_c ke.2.1) | exact (pa_c ke.2.2)) (Nat.le_of_ble_eq_true rfl) (y_Dk_answerAttribute d k0 kq cc.1 ke.2.2 (by omega) (by omega) (by omega) (by omega) (by omega) (by omega) (ty := nI (97 + j)) (by first | omega | (simp only [eb, List.length_append, List.length_cons, List.length_nil]; omega))) ?_
          rintro _ μ7 ⟨rfl, c7⟩
          have cc := cc.to c7
          have k0 := (cc.2 0 (by decide) (by decide)).trans h0
          have k1 := (cc.2 1 (by decide) (by decide)).trans h1
          have kq := (cc.2 127 (by decide) (by decide)).trans hq
          have ke := en_k he (μ' := μ7) (fun q q1 q2 => cc.2 q (by omega) (by omega))
          show kc_X _ _ _ _ _ [] _ _
          first | refine x_incN [_, _, _, _, _, _, _] c_Dk_answerEntry_114 rfl rfl ?_ | refine x_inc [_, _, _, _, _, _, _] c_Dk_answerEntry_114 rfl rfl ?_
          refine x_goto c_Dk_answerEntry_117 ?_
          refine ih (j + 1) _ (by omega) (by omega) ?_
          rw [asB_s, if_pos ⟨hw, hh⟩]
          simp only [List.append_assoc, List.cons_append, List.nil_append] at cc ⊢
          exact cc
        · skip
          refine x_il c_Dk_answerEntry_69 rfl ?_
          refine x_ci c_Dk_answerEntry_71 ?_
          refine x_cmN_gt c_Dk_answerEntry_73 (by omega) (by omega) (fun h => (by exfalso; omega)) (fun _ => ?_)
          refine x_al c_Dk_answerEntry_76 rfl ?_
          refine x_get c_Dk_answerEntry_77 (by first | rfl | exact k0 | exact k1 | exact kq | exact cc.o | exact ke.1 | exact (nm_c ke.2.1) | exact (pa_c ke.2.2)) rfl ?_
          refine x_il c_Dk_answerEntry_80 rfl ?_
          refine x_cv1z _ c_Dk_answerEntry_82 (by first | rfl | exact k0 | exact k1 | exact kq | exact cc.o | exact ke.1 | exact (nm_c ke.2.1) | exact (pa_c ke.2.2)) (Nat.le_of_ble_eq_true rfl) (y_Qu_wants (d + 3) kq (t := 97 + j) (by omega) (by omega)) ?_
          rintro _ μx ⟨rfl, hμx⟩
          have hμx := hμx.symm
          subst hμx
          show kc_X _ _ _ _ _ [.int (bI (wnt W (97 + j)))] _ _
          refine x_if_eq c_Dk_answerEntry_85 (fun h => absurd h (by rw [hw]; decide)) (fun _ => ?_)
          refine x_al c_Dk_answerEntry_88 rfl ?_
          refine x_get c_Dk_answerEntry_89 (by first | rfl | exact k0 | exact k1 | exact kq | exact cc.o | exact ke.1 | exact (nm_c ke.2.1) | exact (pa_c ke.2.2)) rfl ?_
          refine x_il c_Dk_answerEntry_92 rfl ?_
          refine x_cl c_Dk_answerEntry_94 ?_
          refine x_cl c_Dk_answerEntry_95 ?_
          refine x_cv3z _ c_Dk_answerEntry_98 (by first | rfl | exact k0 | exact k1 | exact kq | exact cc.o | exact ke.1 | exact (nm_c ke.2.1) | exact (pa_c ke.2.2)) (Nat.le_of_ble_eq_true rfl) (y_Pa_hasBetween (d + 3) ke.2.2 (by omega) (ty := nI (97 + j)) (lo := 0) (hi := 9223372036854775807)) ?_
          rintro _ μx ⟨rfl, hμx⟩
          have hμx := hμx.symm
          subst hμx
          show kc_X _ _ _ _ _ [.int (bI (hbw (nI (97 + j)) 0 9223372036854775807 P))] _ _
          refine x_if_eq c_Dk_answerEntry_101 (fun _ => ?_) (fun h => absurd (by rw [hbw_hsT hg.2]; cases hx : hsT (nI (97 + j)) P; rfl; exact absurd hx hh) h)
          first | refine x_incN [_, _, _, _, _, _, _] c_Dk_answerEntry_114 rfl rfl ?_ | refine x_inc [_, _, _, _, _, _, _] c_Dk_answerEntry_114 rfl rfl ?_
          refine x_goto c_Dk_answerEntry_117 ?_
          exact ih (j + 1) _ (by omega) (by omega) (by rw [asB_s, if_neg (fun q => hh q.2), List.append_nil]; exact cc)
      · skip
        refine x_il c_Dk_answerEntry_69 rfl ?_
        refine x_ci c_Dk_answerEntry_71 ?_
        refine x_cmN_gt c_Dk_answerEntry_73 (by omega) (by omega) (fun h => (by exfalso; omega)) (fun _ => ?_)
        refine x_al c_Dk_answerEntry_76 rfl ?_
        refine x_get c_Dk_answerEntry_77 (by first | rfl | exact k0 | exact k1 | exact kq | exact cc.o | exact ke.1 | exact (nm_c ke.2.1) | exact (pa_c ke.2.2)) rfl ?_
        refine x_il c_Dk_answerEntry_80 rfl ?_
        refine x_cv1z _ c_Dk_answerEntry_82 (by first | rfl | exact k0 | exact k1 | exact kq | exact cc.o | exact ke.1 | exact (nm_c ke.2.1) | exact (pa_c ke.2.2)) (Nat.le_of_ble_eq_true rfl) (y_Qu_wants (d + 3) kq (t := 97 + j) (by omega) (by omega)) ?_
        rintro _ μx ⟨rfl, hμx⟩
        have hμx := hμx.symm
        subst hμx
        show kc_X _ _ _ _ _ [.int (bI (wnt W (97 + j)))] _ _
        refine x_if_eq c_Dk_answerEntry_85 (fun _ => ?_) (fun h => absurd (by cases hx : wnt W (97 + j); rfl; exact absurd hx hw) h)
        first | refine x_incN [_, _, _, _, _, _, _] c_Dk_answerEntry_114 rfl rfl ?_ | refine x_inc [_, _, _, _, _, _, _] c_Dk_answerEntry_114 rfl rfl ?_
        refine x_goto c_Dk_answerEntry_117 ?_
        exact ih (j + 1) _ (by omega) (by omega) (by rw [asB_s, if_neg (fun q => hw q.1), List.append_nil]; exact cc)
  have k0 := h0
  have k1 := h1
  have kq := hq
  have ke := he
  refine x_al c_Dk_answerEntry_0 rfl ?_
  refine x_get c_Dk_answerEntry_1 (by first | rfl | exact k0 | exact k1 | exact kq | exact cc.o | exact ke.1 | exact (nm_c ke.2.1) | exact (pa_c ke.2.2)) rfl ?_
  refine x_get c_Dk_answerEntry_4 (by first | rfl | exact k0 | exact k1 | exact kq | exact cc.o | exact ke.1 | exact (nm_c ke.2.1) | exact (pa_c ke.2.2)) rfl ?_
  refine x_is [_, _, _, _, _, _, _] c_Dk_answerEntry_7 rfl ?_
  refine x_al c_Dk_answerEntry_8 rfl ?_
  refine x_get c_Dk_answerEntry_9 (by first | rfl | exact k0 | exact k1 | exact kq | exact cc.o | exact ke.1 | exact (nm_c ke.2.1) | exact (pa_c ke.2.2)) rfl ?_
  refine x_ci c_Dk_answerEntry_12 ?_
  refine x_cv1z _ c_Dk_answerEntry_14 (by first | rfl | exact k0 | exact k1 | exact kq | exact cc.o | exact ke.1 | exact (nm_c ke.2.1) | exact (pa_c ke.2.2)) (Nat.le_of_ble_eq_true rfl) (y_Wr_begin (d + 2) cc.1 (by first | omega | (simp only [eb, List.length_append, List.length_cons, List.length_nil]; omega))) ?_
  rintro _ μ1 ⟨rfl, c1⟩
  have cc := cc.to c1
  have k0 := (cc.2 0 (by decide) (by decide)).trans h0
  have k1 := (cc.2 1 (by decide) (by decide)).trans h1
  have kq := (cc.2 127 (by decide) (by decide)).trans hq
  have ke := en_k he (μ' := μ1) (fun q q1 q2 => cc.2 q (by omega) (by omega))
  show kc_X _ _ _ _ _ [.int (nI (L.length + 2))] _ _
  refine x_is [_, _, _, _, _, _, _] c_Dk_answerEntry_17 rfl ?_
  refine x_al c_Dk_answerEntry_18 rfl ?_
  refine x_get c_Dk_answerEntry_19 (by first | rfl | exact k0 | exact k1 | exact kq | exact cc.o | exact ke.1 | exact (nm_c ke.2.1) | exact (pa_c ke.2.2)) rfl ?_
  refine x_al c_Dk_answerEntry_22 rfl ?_
  refine x_get c_Dk_answerEntry_23 (by first | rfl | exact k0 | exact k1 | exact kq | exact cc.o | exact ke.1 | exact (nm_c ke.2.1) | exact (pa_c ke.2.2)) rfl ?_
  refine x_get c_Dk_answerEntry_26 (by first | rfl | exact k0 | exact k1 | exact kq | exact cc.o | exact ke.1 | exact (nm_c ke.2.1) | exact (pa_c ke.2.2)) rfl ?_
  refine x_cv1z _ c_Dk_answerEntry_29 (by first | rfl | exact k0 | exact k1 | exact kq | exact cc.o | exact ke.1 | exact (nm_c ke.2.1) | exact (pa_c ke.2.2)) (Nat.le_of_ble_eq_true rfl) (y_Wr_number (d + 1) cc.1 (by first | omega | (simp only [eb, List.length_append, List.length_cons, List.length_nil]; omega)) hk) ?_
  rintro _ μ2 ⟨rfl, c2⟩
  have cc := cc.to c2
  have k0 := (cc.2 0 (by decide) (by decide)).trans h0
  have k1 := (cc.2 1 (by decide) (by decide)).trans h1
  have kq := (cc.2 127 (by decide) (by decide)).trans hq
  have ke := en_k he (μ' := μ2) (fun q q1 q2 => cc.2 q (by omega) (by omega))
  show kc_X _ _ _ _ _ [] _ _
  refine x_al c_Dk_answerEntry_32 rfl ?_
  refine x_get c_Dk_answerEntry_33 (by first | rfl | exact k0 | exact k1 | exact kq | exact cc.o | exact ke.1 | exact (nm_c ke.2.1) | exact (pa_c ke.2.2)) rfl ?_
  refine x_ci c_Dk_answerEntry_36 ?_
  refine x_cv1z _ c_Dk_answerEntry_38 (by first | rfl | exact k0 | exact k1 | exact kq | exact cc.o | exact ke.1 | exact (nm_c ke.2.1) | exact (pa_c ke.2.2)) (Nat.le_of_ble_eq_true rfl) (y_Wr_begin (d + 2) cc.1 (by first | omega | (simp only [eb, List.length_append, List.length_cons, List.length_nil]; omega))) ?_
  rintro _ μ3 ⟨rfl, c3⟩
  have cc := cc.to c3
  have k0 := (cc.2 0 (by decide) (by decide)).trans h0
  have k1 := (cc.2 1 (by decide) (by decide)).trans h1
  have kq := (cc.2 127 (by decide) (by decide)).trans hq
  have ke := en_k he (μ' := μ3) (fun q q1 q2 => cc.2 q (by omega) (by omega))
  show kc_X _ _ _ _ _ [.int (nI (((L ++ [nI 48, nI 0]) ++ eb (nI 2) (idB k)).length + 2))] _ _
  refine x_is [_, _, _, _, _, _, _] c_Dk_answerEntry_41 rfl ?_
  refine x_al c_Dk_answerEntry_43 rfl ?_
  refine x_get c_Dk_answerEntry_44 (by first | rfl | exact k0 | exact k1 | exact kq | exact cc.o | exact ke.1 | exact (nm_c ke.2.1) | exact (pa_c ke.2.2)) rfl ?_
  refine x_al c_Dk_answerEntry_47 rfl ?_
  refine x_get c_Dk_answerEntry_48 (by first | rfl | exact k0 | exact k1 | exact kq | exact cc.o | exact ke.1 | exact (nm_c ke.2.1) | exact (pa_c ke.2.2)) rfl ?_
  refine x_cv1z _ c_Dk_answerEntry_51 (by first | rfl | exact k0 | exact k1 | exact kq | exact cc.o | exact ke.1 | exact (nm_c ke.2.1) | exact (pa_c ke.2.2)) (Nat.le_of_ble_eq_true rfl) (y_Wr_name (d + 1) cc.1 (by first | omega | (simp only [eb, List.length_append, List.length_cons, List.length_nil]; omega)) ke.2.1 (by omega) (by omega) (by omega) (by omega) (by omega) (by omega)) ?_
  rintro _ μ4 ⟨rfl, c4⟩
  have cc := cc.to c4
  have k0 := (cc.2 0 (by decide) (by decide)).trans h0
  have k1 := (cc.2 1 (by decide) (by decide)).trans h1
  have kq := (cc.2 127 (by decide) (by decide)).trans hq
  have ke := en_k he (μ' := μ4) (fun q q1 q2 => cc.2 q (by omega) (by omega))
  show kc_X _ _ _ _ _ [] _ _
  refine x_al c_Dk_answerEntry_54 rfl ?_
  refine x_get c_Dk_answerEntry_55 (by first | rfl | exact k0 | exact k1 | exact kq | exact cc.o | exact ke.1 | exact (nm_c ke.2.1) | exact (pa_c ke.2.2)) rfl ?_
  refine x_ci c_Dk_answerEntry_58 ?_
  refine x_cv1z _ c_Dk_answerEntry_60 (by first | rfl | exact k0 | exact k1 | exact kq | exact cc.o | exact ke.1 | exact (nm_c ke.2.1) | exact (pa_c ke.2.2)) (Nat.le_of_ble_eq_true rfl) (y_Wr_begin (d + 2) cc.1 (by first | omega | (simp only [eb, List.length_append, List.length_cons, List.length_nil]; omega))) ?_
  rintro _ μ5 ⟨rfl, c5⟩
  have cc := cc.to c5
  have k0 := (cc.2 0 (by decide) (by decide)).trans h0
  have k1 := (cc.2 1 (by decide) (by decide)).trans h1
  have kq := (cc.2 127 (by decide) (by decide)).trans hq
  have ke := en_k he (μ' := μ5) (fun q q1 q2 => cc.2 q (by omega) (by omega))
  show kc_X _ _ _ _ _ [.int (nI (((((L ++ [nI 48, nI 0]) ++ eb (nI 2) (idB k)) ++ [nI 100, nI 0]) ++ eb (nI 4) (nB l)).length + 2))] _ _
  refine x_is [_, _, _, _, _, _, _] c_Dk_answerEntry_63 rfl ?_
  refine x_ci c_Dk_answerEntry_65 ?_
  refine x_is [_, _, _, _, _, _, _] c_Dk_answerEntry_67 rfl ?_
  exact loop 6 0 _ rfl (by omega) cc
set_option maxRecDepth 100000 in
set_option maxHeartbeats 4000000 in
theorem y_Fi_areTrueFor (d : Nat) {μ : kc_M} {c : Nat} {kf tf : Nat → Int32} {vf : Nat → Int64} {ef : Nat → Int32} (hA : fiA μ c kf tf vf ef) (hc : c ≤ 20) {a x y : Nat} {P : List tv} (hp : pa_at μ a x y 6 P) {G : Fo} (hG : ∃ t ty v F, G = Fo.cons t ty v F Fo.nil) (hcz : fsz G = c) (hht : fht G ≤ 6) (hen : enC kf tf vf ef G 0) (hW : flW G) : kc_Y kt kC (d + 14) j_Fi_areTrueFor [.ref 128, .ref a] μ (fun w μ' => w = some (.int (bI (decide ((evF P G).headD 0 = 2)))) ∧ μ' = μ) := by
  obtain ⟨t, ty, v, F, rfl⟩ := hG
  have hjd := y_Fi_judge 5 d μ c kf tf vf ef a x y P 0 1 t (ty, v) F hA hc hp (by rw [fsz_c] at hcz; omega) hen.1 hen.2.1 hW.1 hW.2.1 (by have h9 : max (1 + fht F) (fht Fo.nil) ≤ 6 := hht; omega) (by have h9 : max (1 + fht F) (fht Fo.nil) ≤ 6 := hht; omega)
  obtain ⟨x1, hx⟩ : ∃ x1, ev1 P t (ty, v) (evF P F) = x1 := ⟨_, rfl⟩
  have hx2 : x1 ≤ 2 := by rw [← hx]; exact ev1_le _ _ _ _ (evF_le _ F)
  have hres : (evF P (Fo.cons t ty v F Fo.nil)).headD 0 = x1 := hx
  rw [hx] at hjd
  rw [hres]
  refine ⟨Nat.le_of_ble_eq_true rfl, ?_⟩
  refine x_al c_Fi_areTrueFor_0 rfl ?_
  refine x_ci c_Fi_areTrueFor_1 ?_
  refine x_al c_Fi_areTrueFor_2 rfl ?_
  refine x_ci c_Fi_areTrueFor_3 ?_
  refine x_cv3z _ c_Fi_areTrueFor_4 (by first | rfl | exact hA.1) (Nat.le_of_ble_eq_true rfl) (hjd) ?_
  rintro _ μx ⟨rfl, hμx⟩
  have hμx := hμx.symm
  subst hμx
  show kc_X _ _ _ _ _ [.int (nI x1)] _ _
  refine x_ci c_Fi_areTrueFor_7 ?_
  refine x_cmN_ne c_Fi_areTrueFor_8 (by omega) (by omega) (fun h8 => ?_) (fun h8 => ?_)
  · refine x_ci c_Fi_areTrueFor_15 ?_
    refine x_rz c_Fi_areTrueFor_16 (by first | decide | exact kz_n _) ?_
    first | exact ⟨by rw [decide_eq_true h8] <;> rfl, rfl⟩ | exact ⟨by rw [decide_eq_false h8] <;> rfl, rfl⟩
  · refine x_ci c_Fi_areTrueFor_11 ?_
    refine x_goto c_Fi_areTrueFor_12 ?_
    refine x_rz c_Fi_areTrueFor_16 (by first | decide | exact kz_n _) ?_
    first | exact ⟨by rw [decide_eq_true h8] <;> rfl, rfl⟩ | exact ⟨by rw [decide_eq_false h8] <;> rfl, rfl⟩
set_option maxRecDepth 100000 in
set_option maxHeartbeats 4000000 in
theorem y_Dk_answerFound (d : Nat) {μ : kc_M} {lo so : Bool} (h0 : μ.1 0 = some (ce_Dk lo so)) {sz at_ en : Nat} {wr : Bool} {k sf st : Nat} (h1 : μ.1 1 = some (ce_Rd sz at_ en wr (nI k) sf st)) (hk : k < 2 ^ 31) {n : Nat} {ad : Nat → Nat} {nm pr : Nat → List tv} (ht : tr_at μ n ad nm pr) {l : List tv} (htg : nm_at μ 119 120 121 l) {sc li : Nat} {ta : Bool} {W : List Int32} (hq : μ.1 127 = some (ce_Qu (nI sc) (nI li) ta (mkL (if W = [] then nI 63 else 0) W))) (hs2 : sc ≤ 2) (hli : li < 2 ^ 31) {c : Nat} {kf tf : Nat → Int32} {vf : Nat → Int64} {ef : Nat → Int32} (hA : fiA μ c kf tf vf ef) (hc : c ≤ 20) {G : Fo} (hG : ∃ t ty v F, G = Fo.cons t ty v F Fo.nil) (hcz : fsz G = c) (hht : fht G ≤ 6) (hen : enC kf tf vf ef G 0) (hW : flW G) (hgd : ∀ e, e < n → gd (pr e)) {L : List Int32} (h : wL μ L) (hL : L.length ≤ 284) : kc_Y kt kC (d + 15) j_Dk_answerFound [.ref 0] μ (fun w μ' => w = some (.int (nI (srC li (srF (selB sc l G nm pr) (fun e => enB k ta W (nm e) (pr e)) li n 0 0 true L)))) ∧ wC μ μ' (srF (selB sc l G nm pr) (fun e => enB k ta W (nm e) (pr e)) li n 0 0 true L).2.2 ∧ (srF (selB sc l G nm pr) (fun e => enB k ta W (nm e) (pr e)) li n 0 0 true L).2.2.length ≤ 284) := by
  refine ⟨Nat.le_of_ble_eq_true rfl, ?_⟩
  have hn16 : n ≤ 16 := ht.2.2.2.2.2
  have loop : ∀ m e fo (ro : Bool) (L1 : List Int32) (μ1 : kc_M) (jk : Option Value), n - e = m → e ≤ n → fo ≤ e → L1.length ≤ 284 → wC μ μ1 L1 → srF (selB sc l G nm pr) (fun e => enB k ta W (nm e) (pr e)) li m e fo ro L1 = (srF (selB sc l G nm pr) (fun e => enB k ta W (nm e) (pr e)) li n 0 0 true L) → kc_X (kC j_Dk_answerFound) (kc_Y kt kC (d + 14)) (fun w μ' => w = some (.int (nI (srC li (srF (selB sc l G nm pr) (fun e => enB k ta W (nm e) (pr e)) li n 0 0 true L)))) ∧ wC μ μ' (srF (selB sc l G nm pr) (fun e => enB k ta W (nm e) (pr e)) li n 0 0 true L).2.2 ∧ (srF (selB sc l G nm pr) (fun e => enB k ta W (nm e) (pr e)) li n 0 0 true L).2.2.length ≤ 284) 6 [some (.ref 0), some (.int (nI fo)), some (.int (bI ro)), some (.int (nI e)), jk] [] μ1 (0, 0) := by
    intro m
    induction m with
    | zero =>
      intro e fo ro L1 μ1 jk hm he hfo hL1 cc hR
      have k0 := (cc.2 0 (by decide) (by decide)).trans h0
      have k1 := (cc.2 1 (by decide) (by decide)).trans h1
      have kq := (cc.2 127 (by decide) (by decide)).trans hq
      have ht1 := tr_k ht (μ' := μ1) (fun q q1 q2 => cc.2 q (by omega) (by omega))
      have ktg := nm_k htg (μ' := μ1) (cc.2 _ (by decide) (by decide)) (cc.2 _ (by decide) (by decide)) (cc.2 _ (by decide) (by decide))
      have kA := fiA_k hA (μ' := μ1) (fun q q1 q2 => cc.2 q (by omega) (by omega))
      obtain ⟨t1, ⟨rf, t2, t3⟩, t4, t5, t6, t7⟩ := id ht1
      have hR : (fo, ro, L1) = (srF (selB sc l G nm pr) (fun e => enB k ta W (nm e) (pr e)) li n 0 0 true L) := hR
      have hc1 : srC li (fo, ro, L1) = if wln li fo = true then (if ro = true then 0 else 11) else 4 := rfl
      refine x_il c_Dk_answerFound_6 rfl ?_
      refine x_al c_Dk_answerFound_7 rfl ?_
      refine x_get c_Dk_answerFound_8 (by first | rfl | exact k0 | exact k1 | exact kq | exact t1 | exact t2 | exact e0.1 | exact (nm_c e0.2.1) | exact (pa_c e0.2.2) | exact (nm_c ktg) | exact kA.1) rfl ?_
      refine x_get c_Dk_answerFound_11 (by first | rfl | exact k0 | exact k1 | exact kq | exact t1 | exact t2 | exact e0.1 | exact (nm_c e0.2.1) | exact (pa_c e0.2.2) | exact (nm_c ktg) | exact kA.1) rfl ?_
      refine x_cmN_ge c_Dk_answerFound_14 (by omega) (by omega) (fun _ => ?_) (fun h => (by exfalso; omega))
      refine x_al c_Dk_answerFound_110 rfl ?_
      refine x_get c_Dk_answerFound_111 (by first | rfl | exact k0 | exact k1 | exact kq | exact t1 | exact t2 | exact e0.1 | exact (nm_c e0.2.1) | exact (pa_c e0.2.2) | exact (nm_c ktg) | exact kA.1) rfl ?_
      refine x_il c_Dk_answerFound_114 rfl ?_
      refine x_cv1z _ c_Dk_answerFound_115 (by first | rfl | exact k0 | exact k1 | exact kq | exact t1 | exact t2 | exact e0.1 | exact (nm_c e0.2.1) | exact (pa_c e0.2.2) | exact (nm_c ktg) | exact kA.1) (Nat.le_of_ble_eq_true rfl) (y_Qu_isWithinLimit (d + 13) kq (by omega) (k := fo) (by omega)) ?_
      rintro _ μx ⟨rfl, hμx⟩
      have hμx := hμx.symm
      subst hμx
      show kc_X _ _ _ _ _ [.int (bI (wln li fo))] _ _
      refine x_ifB_ne c_Dk_answerFound_118 (fun h118 => ?_) (fun h118 => ?_)
      · refine x_il c_Dk_answerFound_123 rfl ?_
        refine x_ifB_eq c_Dk_answerFound_124 (fun h124 => ?_) (fun h124 => ?_)
        · refine x_ci c_Dk_answerFound_131 ?_
          refine x_ri c_Dk_answerFound_133 ?_
          first | exact ⟨by rw [← hR, hc1, if_neg (by rw [h118]; decide)] <;> rfl, by rw [← hR]; exact cc, by rw [← hR]; exact hL1⟩ | exact ⟨by rw [← hR, hc1, if_pos h118, if_pos h124] <;> rfl, by rw [← hR]; exact cc, by rw [← hR]; exact hL1⟩ | exact ⟨by rw [← hR, hc1, if_pos h118, if_neg (by rw [h124]; decide)] <;> rfl, by rw [← hR]; exact cc, by rw [← hR]; exact hL1⟩
        · refine x_ci c_Dk_answerFound_127 ?_
          refine x_goto c_Dk_answerFound_128 ?_
          refine x_ri c_Dk_answerFound_133 ?_
          first | exact ⟨by rw [← hR, hc1, if_neg (by rw [h118]; decide)] <;> rfl, by rw [← hR]; exact cc, by rw [← hR]; exact hL1⟩ | exact ⟨by rw [← hR, hc1, if_pos h118, if_pos h124] <;> rfl, by rw [← hR]; exact cc, by rw [← hR]; exact hL1⟩ | exact ⟨by rw [← hR, hc1, if_pos h118, if_neg (by rw [h124]; decide)] <;> rfl, by rw [← hR]; exact cc, by rw [← hR]; exact hL1⟩
      · refine x_ci c_Dk_answerFound_121 ?_
        refine x_ri c_Dk_answerFound_122 ?_
        first | exact ⟨by rw [← hR, hc1, if_neg (by rw [h118]; decide)] <;> rfl, by rw [← hR]; exact cc, by rw [← hR]; exact hL1⟩ | exact ⟨by rw [← hR, hc1, if_pos h118, if_pos h124] <;> rfl, by rw [← hR]; exact cc, by rw [← hR]; exact hL1⟩ | exact ⟨by rw [← hR, hc1, if_pos h118, if_neg (by rw [h124]; decide)] <;> rfl, by rw [← hR]; exact cc, by rw [← hR]; exact hL1⟩
    | succ m ih =>
      intro e fo ro L1 μ1 jk hm he hfo hL1 cc hR
      have k0 := (cc.2 0 (by decide) (by decide)).trans h0
      have k1 := (cc.2 1 (by decide) (by decide)).trans h1
      have kq := (cc.2 127 (by decide) (by decide)).trans hq
      have ht1 := tr_k ht (μ' := μ1) (fun q q1 q2 => cc.2 q (by omega) (by omega))
      have ktg := nm_k htg (μ' := μ1) (cc.2 _ (by decide) (by decide)) (cc.2 _ (by decide) (by decide)) (cc.2 _ (by decide) (by decide))
      have kA := fiA_k hA (μ' := μ1) (fun q q1 q2 => cc.2 q (by omega) (by omega))
      obtain ⟨t1, ⟨rf, t2, t3⟩, t4, t5, t6, t7⟩ := id ht1
      rw [srF_s] at hR
      have e0 := t4 e (by omega)
      have hlen : (nm e).length ≤ 4 ∧ (pr e).length ≤ 6 := by obtain ⟨_, _, _, _, _, _, h9⟩ := e0.2.1; obtain ⟨_, _, _, _, _, _, h8⟩ := e0.2.2; exact ⟨h9, h8⟩
      obtain ⟨ka, hka, hae⟩ := t5 e (by omega)
      by_cases hsel : selB sc l G nm pr e = true
      · have hsA := hsel
        unfold selB at hsA
        rw [Bool.and_eq_true] at hsA
        rw [if_pos hsel] at hR
        by_cases hgo : ro = true ∧ wln li (fo + 1) = true
        · rw [if_pos hgo] at hR
          obtain ⟨rfl, hwl⟩ := hgo
          by_cases hfit : fitB L1 (enB k ta W (nm e) (pr e)) = true
          · rw [if_pos hfit] at hR
            have hf2 := of_decide_eq_true hfit
            refine x_il c_Dk_answerFound_6 rfl ?_
            refine x_al c_Dk_answerFound_7 rfl ?_
            refine x_get c_Dk_answerFound_8 (by first | rfl | exact k0 | exact k1 | exact kq | exact t1 | exact t2 | exact e0.1 | exact (nm_c e0.2.1) | exact (pa_c e0.2.2) | exact (nm_c ktg) | exact kA.1) rfl ?_
            refine x_get c_Dk_answerFound_11 (by first | rfl | exact k0 | exact k1 | exact kq | exact t1 | exact t2 | exact e0.1 | exact (nm_c e0.2.1) | exact (pa_c e0.2.2) | exact (nm_c ktg) | exact kA.1) rfl ?_
            refine x_cmN_ge c_Dk_answerFound_14 (by omega) (by omega) (fun h => (by exfalso; omega)) (fun _ => ?_)
            refine x_al c_Dk_answerFound_17 rfl ?_
            refine x_get c_Dk_answerFound_18 (by first | rfl | exact k0 | exact k1 | exact kq | exact t1 | exact t2 | exact e0.1 | exact (nm_c e0.2.1) | exact (pa_c e0.2.2) | exact (nm_c ktg) | exact kA.1) rfl ?_
            refine x_al c_Dk_answerFound_21 rfl ?_
            refine x_get c_Dk_answerFound_22 (by first | rfl | exact k0 | exact k1 | exact kq | exact t1 | exact t2 | exact e0.1 | exact (nm_c e0.2.1) | exact (pa_c e0.2.2) | exact (nm_c ktg) | exact kA.1) rfl ?_
            refine x_get c_Dk_answerFound_25 (by first | rfl | exact k0 | exact k1 | exact kq | exact t1 | exact t2 | exact e0.1 | exact (nm_c e0.2.1) | exact (pa_c e0.2.2) | exact (nm_c ktg) | exact kA.1) rfl ?_
            refine x_il c_Dk_answerFound_28 rfl ?_
            refine x_aaldN c_Dk_answerFound_29 (by first | rfl | exact k0 | exact k1 | exact kq | exact t1 | exact t2 | exact e0.1 | exact (nm_c e0.2.1) | exact (pa_c e0.2.2) | exact (nm_c ktg) | exact kA.1) (by omega) (by omega) (t3 e (by omega)) ?_
            refine x_get c_Dk_answerFound_30 (by first | rfl | exact k0 | exact k1 | exact kq | exact t1 | exact t2 | exact e0.1 | exact (nm_c e0.2.1) | exact (pa_c e0.2.2) | exact (nm_c ktg) | exact kA.1) rfl ?_
            refine x_al c_Dk_answerFound_33 rfl ?_
            refine x_get c_Dk_answerFound_34 (by first | rfl | exact k0 | exact k1 | exact kq | exact t1 | exact t2 | exact e0.1 | exact (nm_c e0.2.1) | exact (pa_c e0.2.2) | exact (nm_c ktg) | exact kA.1) rfl ?_
            refine x_cv1z _ c_Dk_answerFound_37 (by first | rfl | exact k0 | exact k1 | exact kq | exact t1 | exact t2 | exact e0.1 | exact (nm_c e0.2.1) | exact (pa_c e0.2.2) | exact (nm_c ktg) | exact kA.1) (Nat.le_of_ble_eq_true rfl) (y_Nm_levelsUnder (d + 13) e0.2.1 ktg) ?_
            rintro _ μx ⟨rfl, hμx⟩
            have hμx := hμx.symm
            subst hμx
            show kc_X _ _ _ _ _ (.int (oI (lv (nm e) l)) :: _) _ _
            refine x_cv1z _ c_Dk_answerFound_40 (by first | rfl | exact k0 | exact k1 | exact kq | exact t1 | exact t2 | exact e0.1 | exact (nm_c e0.2.1) | exact (pa_c e0.2.2) | exact (nm_c ktg) | exact kA.1) (Nat.le_of_ble_eq_true rfl) (y_Qu_isInScope (d + 13) kq hs2 (o := lv (nm e) l) (fun m h => by have := (lv_b h).1; obtain ⟨_, _, _, _, _, _, h9⟩ := e0.2.1; omega)) ?_
            rintro _ μx ⟨rfl, hμx⟩
            have hμx := hμx.symm
            subst hμx
            show kc_X _ _ _ _ _ [.int (bI (scp sc (lv (nm e) l)))] _ _
            refine x_is [_, _, _, _, _] c_Dk_answerFound_43 rfl ?_
            refine x_il c_Dk_answerFound_45 rfl ?_
            refine x_if_eq c_Dk_answerFound_47 (fun h => absurd h (by rw [hsA.1]; decide)) (fun _ => ?_)
            refine x_al c_Dk_answerFound_50 rfl ?_
            refine x_get c_Dk_answerFound_51 (by first | rfl | exact k0 | exact k1 | exact kq | exact t1 | exact t2 | exact e0.1 | exact (nm_c e0.2.1) | exact (pa_c e0.2.2) | exact (nm_c ktg) | exact kA.1) rfl ?_
            refine x_al c_Dk_answerFound_54 rfl ?_
            refine x_get c_Dk_answerFound_55 (by first | rfl | exact k0 | exact k1 | exact kq | exact t1 | exact t2 | exact e0.1 | exact (nm_c e0.2.1) | exact (pa_c e0.2.2) | exact (nm_c ktg) | exact kA.1) rfl ?_
            refine x_get c_Dk_answerFound_58 (by first | rfl | exact k0 | exact k1 | exact kq | exact t1 | exact t2 | exact e0.1 | exact (nm_c e0.2.1) | exact (pa_c e0.2.2) | exact (nm_c ktg) | exact kA.1) rfl ?_
            refine x_il c_Dk_answerFound_61 rfl ?_
            refine x_aaldN c_Dk_answerFound_62 (by first | rfl | exact k0 | exact k1 | exact kq | exact t1 | exact t2 | exact e0.1 | exact (nm_c e0.2.1) | exact (pa_c e0.2.2) | exact (nm_c ktg) | exact kA.1) (by omega) (by omega) (t3 e (by omega)) ?_
            refine x_get c_Dk_answerFound_63 (by first | rfl | exact k0 | exact k1 | exact kq | exact t1 | exact t2 | exact e0.1 | exact (nm_c e0.2.1) | exact (pa_c e0.2.2) | exact (nm_c ktg) | exact kA.1) rfl ?_
            refine x_cv1z _ c_Dk_answerFound_66 (by first | rfl | exact k0 | exact k1 | exact kq | exact t1 | exact t2 | exact e0.1 | exact (nm_c e0.2.1) | exact (pa_c e0.2.2) | exact (nm_c ktg) | exact kA.1) (Nat.le_of_ble_eq_true rfl) (y_Fi_areTrueFor d kA hc e0.2.2 hG hcz hht hen hW) ?_
            rintro _ μx ⟨rfl, hμx⟩
            have hμx := hμx.symm
            subst hμx
            show kc_X _ _ _ _ _ [.int (bI (decide ((evF (pr e) G).headD 0 = 2)))] _ _
            refine x_if_eq c_Dk_answerFound_69 (fun h => absurd h (by rw [hsA.2]; decide)) (fun _ => ?_)
            first | refine x_incN [_, _, _, _, _] c_Dk_answerFound_72 rfl rfl ?_ | refine x_inc [_, _, _, _, _] c_Dk_answerFound_72 rfl rfl ?_
            refine x_il c_Dk_answerFound_75 rfl ?_
            refine x_if_eq c_Dk_answerFound_76 (fun h => absurd h (by decide)) (fun _ => ?_)
            refine x_al c_Dk_answerFound_79 rfl ?_
            refine x_get c_Dk_answerFound_80 (by first | rfl | exact k0 | exact k1 | exact kq | exact t1 | exact t2 | exact e0.1 | exact (nm_c e0.2.1) | exact (pa_c e0.2.2) | exact (nm_c ktg) | exact kA.1) rfl ?_
            refine x_il c_Dk_answerFound_83 rfl ?_
            refine x_cv1z _ c_Dk_answerFound_84 (by first | rfl | exact k0 | exact k1 | exact kq | exact t1 | exact t2 | exact e0.1 | exact (nm_c e0.2.1) | exact (pa_c e0.2.2) | exact (nm_c ktg) | exact kA.1) (Nat.le_of_ble_eq_true rfl) (y_Qu_isWithinLimit (d + 13) kq (by omega) (k := fo + 1) (by omega)) ?_
            rintro _ μx ⟨rfl, hμx⟩
            have hμx := hμx.symm
            subst hμx
            show kc_X _ _ _ _ _ [.int (bI (wln li (fo + 1)))] _ _
            refine x_if_eq c_Dk_answerFound_87 (fun h => absurd h (by rw [hwl]; decide)) (fun _ => ?_)
            refine x_al c_Dk_answerFound_90 rfl ?_
            refine x_al c_Dk_answerFound_91 rfl ?_
            refine x_get c_Dk_answerFound_92 (by first | rfl | exact k0 | exact k1 | exact kq | exact t1 | exact t2 | exact e0.1 | exact (nm_c e0.2.1) | exact (pa_c e0.2.2) | exact (nm_c ktg) | exact kA.1) rfl ?_
            refine x_get c_Dk_answerFound_95 (by first | rfl | exact k0 | exact k1 | exact kq | exact t1 | exact t2 | exact e0.1 | exact (nm_c e0.2.1) | exact (pa_c e0.2.2) | exact (nm_c ktg) | exact kA.1) rfl ?_
            refine x_il c_Dk_answerFound_98 rfl ?_
            refine x_aaldN c_Dk_answerFound_99 (by first | rfl | exact k0 | exact k1 | exact kq | exact t1 | exact t2 | exact e0.1 | exact (nm_c e0.2.1) | exact (pa_c e0.2.2) | exact (nm_c ktg) | exact kA.1) (by omega) (by omega) (t3 e (by omega)) ?_
            refine x_cv1z _ c_Dk_answerFound_100 (by first | rfl | exact k0 | exact k1 | exact kq | exact t1 | exact t2 | exact e0.1 | exact (nm_c e0.2.1) | exact (pa_c e0.2.2) | exact (nm_c ktg) | exact kA.1) (Nat.le_of_ble_eq_true rfl) (y_Dk_answerEntry (d + 9) k0 k1 hk kq cc.1 hL1 (a := ad e) (by omega) (by omega) e0 (hgd e (by omega)) hlen.1 hlen.2) ?_
            rintro _ μ2 ⟨rfl, c2⟩
            have cc := cc.to c2
            show kc_X _ _ _ _ _ [.int (bI (fitB L1 (enB k ta W (nm e) (pr e))))] _ _
            refine x_is [_, _, _, _, _] c_Dk_answerFound_103 rfl ?_
            first | refine x_incN [_, _, _, _, _] c_Dk_answerFound_104 rfl rfl ?_ | refine x_inc [_, _, _, _, _] c_Dk_answerFound_104 rfl rfl ?_
            refine x_goto c_Dk_answerFound_107 ?_
            rw [hfit] at *
            exact ih (e + 1) (fo + 1) true _ _ _ (by omega) (by omega) (by omega) (by rw [List.length_append]; exact hf2.2) (by rw [if_pos rfl] at cc; exact cc) hR
          · rw [if_neg hfit] at hR
            have hff : fitB L1 (enB k ta W (nm e) (pr e)) = false := by revert hfit; cases fitB L1 (enB k ta W (nm e) (pr e)) <;> simp
            refine x_il c_Dk_answerFound_6 rfl ?_
            refine x_al c_Dk_answerFound_7 rfl ?_
            refine x_get c_Dk_answerFound_8 (by first | rfl | exact k0 | exact k1 | exact kq | exact t1 | exact t2 | exact e0.1 | exact (nm_c e0.2.1) | exact (pa_c e0.2.2) | exact (nm_c ktg) | exact kA.1) rfl ?_
            refine x_get c_Dk_answerFound_11 (by first | rfl | exact k0 | exact k1 | exact kq | exact t1 | exact t2 | exact e0.1 | exact (nm_c e0.2.1) | exact (pa_c e0.2.2) | exact (nm_c ktg) | exact kA.1) rfl ?_
            refine x_cmN_ge c_Dk_answerFound_14 (by omega) (by omega) (fun h => (by exfalso; omega)) (fun _ => ?_)
            refine x_al c_Dk_answerFound_17 rfl ?_
            refine x_get c_Dk_answerFound_18 (by first | rfl | exact k0 | exact k1 | exact kq | exact t1 | exact t2 | exact e0.1 | exact (nm_c e0.2.1) | exact (pa_c e0.2.2) | exact (nm_c ktg) | exact kA.1) rfl ?_
            refine x_al c_Dk_answerFound_21 rfl ?_
            refine x_get c_Dk_answerFound_22 (by first | rfl | exact k0 | exact k1 | exact kq | exact t1 | exact t2 | exact e0.1 | exact (nm_c e0.2.1) | exact (pa_c e0.2.2) | exact (nm_c ktg) | exact kA.1) rfl ?_
            refine x_get c_Dk_answerFound_25 (by first | rfl | exact k0 | exact k1 | exact kq | exact t1 | exact t2 | exact e0.1 | exact (nm_c e0.2.1) | exact (pa_c e0.2.2) | exact (nm_c ktg) | exact kA.1) rfl ?_
            refine x_il c_Dk_answerFound_28 rfl ?_
            refine x_aaldN c_Dk_answerFound_29 (by first | rfl | exact k0 | exact k1 | exact kq | exact t1 | exact t2 | exact e0.1 | exact (nm_c e0.2.1) | exact (pa_c e0.2.2) | exact (nm_c ktg) | exact kA.1) (by omega) (by omega) (t3 e (by omega)) ?_
            refine x_get c_Dk_answerFound_30 (by first | rfl | exact k0 | exact k1 | exact kq | exact t1 | exact t2 | exact e0.1 | exact (nm_c e0.2.1) | exact (pa_c e0.2.2) | exact (nm_c ktg) | exact kA.1) rfl ?_
            refine x_al c_Dk_answerFound_33 rfl ?_
            refine x_get c_Dk_answerFound_34 (by first | rfl | exact k0 | exact k1 | exact kq | exact t1 | exact t2 | exact e0.1 | exact (nm_c e0.2.1) | exact (pa_c e0.2.2) | exact (nm_c ktg) | exact kA.1) rfl ?_
            refine x_cv1z _ c_Dk_answerFound_37 (by first | rfl | exact k0 | exact k1 | exact kq | exact t1 | exact t2 | exact e0.1 | exact (nm_c e0.2.1) | exact (pa_c e0.2.2) | exact (nm_c ktg) | exact kA.1) (Nat.le_of_ble_eq_true rfl) (y_Nm_levelsUnder (d + 13) e0.2.1 ktg) ?_
            rintro _ μx ⟨rfl, hμx⟩
            have hμx := hμx.symm
            subst hμx
            show kc_X _ _ _ _ _ (.int (oI (lv (nm e) l)) :: _) _ _
            refine x_cv1z _ c_Dk_answerFound_40 (by first | rfl | exact k0 | exact k1 | exact kq | exact t1 | exact t2 | exact e0.1 | exact (nm_c e0.2.1) | exact (pa_c e0.2.2) | exact (nm_c ktg) | exact kA.1) (Nat.le_of_ble_eq_true rfl) (y_Qu_isInScope (d + 13) kq hs2 (o := lv (nm e) l) (fun m h => by have := (lv_b h).1; obtain ⟨_, _, _, _, _, _, h9⟩ := e0.2.1; omega)) ?_
            rintro _ μx ⟨rfl, hμx⟩
            have hμx := hμx.symm
            subst hμx
            show kc_X _ _ _ _ _ [.int (bI (scp sc (lv (nm e) l)))] _ _
            refine x_is [_, _, _, _, _] c_Dk_answerFound_43 rfl ?_
            refine x_il c_Dk_answerFound_45 rfl ?_
            refine x_if_eq c_Dk_answerFound_47 (fun h => absurd h (by rw [hsA.1]; decide)) (fun _ => ?_)
            refine x_al c_Dk_answerFound_50 rfl ?_
            refine x_get c_Dk_answerFound_51 (by first | rfl | exact k0 | exact k1 | exact kq | exact t1 | exact t2 | exact e0.1 | exact (nm_c e0.2.1) | exact (pa_c e0.2.2) | exact (nm_c ktg) | exact kA.1) rfl ?_
            refine x_al c_Dk_answerFound_54 rfl ?_
            refine x_get c_Dk_answerFound_55 (by first | rfl | exact k0 | exact k1 | exact kq | exact t1 | exact t2 | exact e0.1 | exact (nm_c e0.2.1) | exact (pa_c e0.2.2) | exact (nm_c ktg) | exact kA.1) rfl ?_
            refine x_get c_Dk_answerFound_58 (by first | rfl | exact k0 | exact k1 | exact kq | exact t1 | exact t2 | exact e0.1 | exact (nm_c e0.2.1) | exact (pa_c e0.2.2) | exact (nm_c ktg) | exact kA.1) rfl ?_
            refine x_il c_Dk_answerFound_61 rfl ?_
            refine x_aaldN c_Dk_answerFound_62 (by first | rfl | exact k0 | exact k1 | exact kq | exact t1 | exact t2 | exact e0.1 | exact (nm_c e0.2.1) | exact (pa_c e0.2.2) | exact (nm_c ktg) | exact kA.1) (by omega) (by omega) (t3 e (by omega)) ?_
            refine x_get c_Dk_answerFound_63 (by first | rfl | exact k0 | exact k1 | exact kq | exact t1 | exact t2 | exact e0.1 | exact (nm_c e0.2.1) | exact (pa_c e0.2.2) | exact (nm_c ktg) | exact kA.1) rfl ?_
            refine x_cv1z _ c_Dk_answerFound_66 (by first | rfl | exact k0 | exact k1 | exact kq | exact t1 | exact t2 | exact e0.1 | exact (nm_c e0.2.1) | exact (pa_c e0.2.2) | exact (nm_c ktg) | exact kA.1) (Nat.le_of_ble_eq_true rfl) (y_Fi_areTrueFor d kA hc e0.2.2 hG hcz hht hen hW) ?_
            rintro _ μx ⟨rfl, hμx⟩
            have hμx := hμx.symm
            subst hμx
            show kc_X _ _ _ _ _ [.int (bI (decide ((evF (pr e) G).headD 0 = 2)))] _ _
            refine x_if_eq c_Dk_answerFound_69 (fun h => absurd h (by rw [hsA.2]; decide)) (fun _ => ?_)
            first | refine x_incN [_, _, _, _, _] c_Dk_answerFound_72 rfl rfl ?_ | refine x_inc [_, _, _, _, _] c_Dk_answerFound_72 rfl rfl ?_
            refine x_il c_Dk_answerFound_75 rfl ?_
            refine x_if_eq c_Dk_answerFound_76 (fun h => absurd h (by decide)) (fun _ => ?_)
            refine x_al c_Dk_answerFound_79 rfl ?_
            refine x_get c_Dk_answerFound_80 (by first | rfl | exact k0 | exact k1 | exact kq | exact t1 | exact t2 | exact e0.1 | exact (nm_c e0.2.1) | exact (pa_c e0.2.2) | exact (nm_c ktg) | exact kA.1) rfl ?_
            refine x_il c_Dk_answerFound_83 rfl ?_
            refine x_cv1z _ c_Dk_answerFound_84 (by first | rfl | exact k0 | exact k1 | exact kq | exact t1 | exact t2 | exact e0.1 | exact (nm_c e0.2.1) | exact (pa_c e0.2.2) | exact (nm_c ktg) | exact kA.1) (Nat.le_of_ble_eq_true rfl) (y_Qu_isWithinLimit (d + 13) kq (by omega) (k := fo + 1) (by omega)) ?_
            rintro _ μx ⟨rfl, hμx⟩
            have hμx := hμx.symm
            subst hμx
            show kc_X _ _ _ _ _ [.int (bI (wln li (fo + 1)))] _ _
            refine x_if_eq c_Dk_answerFound_87 (fun h => absurd h (by rw [hwl]; decide)) (fun _ => ?_)
            refine x_al c_Dk_answerFound_90 rfl ?_
            refine x_al c_Dk_answerFound_91 rfl ?_
            refine x_get c_Dk_answerFound_92 (by first | rfl | exact k0 | exact k1 | exact kq | exact t1 | exact t2 | exact e0.1 | exact (nm_c e0.2.1) | exact (pa_c e0.2.2) | exact (nm_c ktg) | exact kA.1) rfl ?_
            refine x_get c_Dk_answerFound_95 (by first | rfl | exact k0 | exact k1 | exact kq | exact t1 | exact t2 | exact e0.1 | exact (nm_c e0.2.1) | exact (pa_c e0.2.2) | exact (nm_c ktg) | exact kA.1) rfl ?_
            refine x_il c_Dk_answerFound_98 rfl ?_
            refine x_aaldN c_Dk_answerFound_99 (by first | rfl | exact k0 | exact k1 | exact kq | exact t1 | exact t2 | exact e0.1 | exact (nm_c e0.2.1) | exact (pa_c e0.2.2) | exact (nm_c ktg) | exact kA.1) (by omega) (by omega) (t3 e (by omega)) ?_
            refine x_cv1z _ c_Dk_answerFound_100 (by first | rfl | exact k0 | exact k1 | exact kq | exact t1 | exact t2 | exact e0.1 | exact (nm_c e0.2.1) | exact (pa_c e0.2.2) | exact (nm_c ktg) | exact kA.1) (Nat.le_of_ble_eq_true rfl) (y_Dk_answerEntry (d + 9) k0 k1 hk kq cc.1 hL1 (a := ad e) (by omega) (by omega) e0 (hgd e (by omega)) hlen.1 hlen.2) ?_
            rintro _ μ2 ⟨rfl, c2⟩
            have cc := cc.to c2
            show kc_X _ _ _ _ _ [.int (bI (fitB L1 (enB k ta W (nm e) (pr e))))] _ _
            refine x_is [_, _, _, _, _] c_Dk_answerFound_103 rfl ?_
            first | refine x_incN [_, _, _, _, _] c_Dk_answerFound_104 rfl rfl ?_ | refine x_inc [_, _, _, _, _] c_Dk_answerFound_104 rfl rfl ?_
            refine x_goto c_Dk_answerFound_107 ?_
            rw [hff] at cc ⊢
            exact ih (e + 1) (fo + 1) false _ _ _ (by omega) (by omega) (by omega) hL1 (by rw [if_neg (by decide)] at cc; exact cc) hR
        · rw [if_neg hgo] at hR
          cases hro : ro with
          | false =>
            rw [hro] at hR
            refine x_il c_Dk_answerFound_6 rfl ?_
            refine x_al c_Dk_answerFound_7 rfl ?_
            refine x_get c_Dk_answerFound_8 (by first | rfl | exact k0 | exact k1 | exact kq | exact t1 | exact t2 | exact e0.1 | exact (nm_c e0.2.1) | exact (pa_c e0.2.2) | exact (nm_c ktg) | exact kA.1) rfl ?_
            refine x_get c_Dk_answerFound_11 (by first | rfl | exact k0 | exact k1 | exact kq | exact t1 | exact t2 | exact e0.1 | exact (nm_c e0.2.1) | exact (pa_c e0.2.2) | exact (nm_c ktg) | exact kA.1) rfl ?_
            refine x_cmN_ge c_Dk_answerFound_14 (by omega) (by omega) (fun h => (by exfalso; omega)) (fun _ => ?_)
            refine x_al c_Dk_answerFound_17 rfl ?_
            refine x_get c_Dk_answerFound_18 (by first | rfl | exact k0 | exact k1 | exact kq | exact t1 | exact t2 | exact e0.1 | exact (nm_c e0.2.1) | exact (pa_c e0.2.2) | exact (nm_c ktg) | exact kA.1) rfl ?_
            refine x_al c_Dk_answerFound_21 rfl ?_
            refine x_get c_Dk_answerFound_22 (by first | rfl | exact k0 | exact k1 | exact kq | exact t1 | exact t2 | exact e0.1 | exact (nm_c e0.2.1) | exact (pa_c e0.2.2) | exact (nm_c ktg) | exact kA.1) rfl ?_
            refine x_get c_Dk_answerFound_25 (by first | rfl | exact k0 | exact k1 | exact kq | exact t1 | exact t2 | exact e0.1 | exact (nm_c e0.2.1) | exact (pa_c e0.2.2) | exact (nm_c ktg) | exact kA.1) rfl ?_
            refine x_il c_Dk_answerFound_28 rfl ?_
            refine x_aaldN c_Dk_answerFound_29 (by first | rfl | exact k0 | exact k1 | exact kq | exact t1 | exact t2 | exact e0.1 | exact (nm_c e0.2.1) | exact (pa_c e0.2.2) | exact (nm_c ktg) | exact kA.1) (by omega) (by omega) (t3 e (by omega)) ?_
            refine x_get c_Dk_answerFound_30 (by first | rfl | exact k0 | exact k1 | exact kq | exact t1 | exact t2 | exact e0.1 | exact (nm_c e0.2.1) | exact (pa_c e0.2.2) | exact (nm_c ktg) | exact kA.1) rfl ?_
            refine x_al c_Dk_answerFound_33 rfl ?_
            refine x_get c_Dk_answerFound_34 (by first | rfl | exact k0 | exact k1 | exact kq | exact t1 | exact t2 | exact e0.1 | exact (nm_c e0.2.1) | exact (pa_c e0.2.2) | exact (nm_c ktg) | exact kA.1) rfl ?_
            refine x_cv1z _ c_Dk_answerFound_37 (by first | rfl | exact k0 | exact k1 | exact kq | exact t1 | exact t2 | exact e0.1 | exact (nm_c e0.2.1) | exact (pa_c e0.2.2) | exact (nm_c ktg) | exact kA.1) (Nat.le_of_ble_eq_true rfl) (y_Nm_levelsUnder (d + 13) e0.2.1 ktg) ?_
            rintro _ μx ⟨rfl, hμx⟩
            have hμx := hμx.symm
            subst hμx
            show kc_X _ _ _ _ _ (.int (oI (lv (nm e) l)) :: _) _ _
            refine x_cv1z _ c_Dk_answerFound_40 (by first | rfl | exact k0 | exact k1 | exact kq | exact t1 | exact t2 | exact e0.1 | exact (nm_c e0.2.1) | exact (pa_c e0.2.2) | exact (nm_c ktg) | exact kA.1) (Nat.le_of_ble_eq_true rfl) (y_Qu_isInScope (d + 13) kq hs2 (o := lv (nm e) l) (fun m h => by have := (lv_b h).1; obtain ⟨_, _, _, _, _, _, h9⟩ := e0.2.1; omega)) ?_
            rintro _ μx ⟨rfl, hμx⟩
            have hμx := hμx.symm
            subst hμx
            show kc_X _ _ _ _ _ [.int (bI (scp sc (lv (nm e) l)))] _ _
            refine x_is [_, _, _, _, _] c_Dk_answerFound_43 rfl ?_
            refine x_il c_Dk_answerFound_45 rfl ?_
            refine x_if_eq c_Dk_answerFound_47 (fun h => absurd h (by rw [hsA.1]; decide)) (fun _ => ?_)
            refine x_al c_Dk_answerFound_50 rfl ?_
            refine x_get c_Dk_answerFound_51 (by first | rfl | exact k0 | exact k1 | exact kq | exact t1 | exact t2 | exact e0.1 | exact (nm_c e0.2.1) | exact (pa_c e0.2.2) | exact (nm_c ktg) | exact kA.1) rfl ?_
            refine x_al c_Dk_answerFound_54 rfl ?_
            refine x_get c_Dk_answerFound_55 (by first | rfl | exact k0 | exact k1 | exact kq | exact t1 | exact t2 | exact e0.1 | exact (nm_c e0.2.1) | exact (pa_c e0.2.2) | exact (nm_c ktg) | exact kA.1) rfl ?_
            refine x_get c_Dk_answerFound_58 (by first | rfl | exact k0 | exact k1 | exact kq | exact t1 | exact t2 | exact e0.1 | exact (nm_c e0.2.1) | exact (pa_c e0.2.2) | exact (nm_c ktg) | exact kA.1) rfl ?_
            refine x_il c_Dk_answerFound_61 rfl ?_
            refine x_aaldN c_Dk_answerFound_62 (by first | rfl | exact k0 | exact k1 | exact kq | exact t1 | exact t2 | exact e0.1 | exact (nm_c e0.2.1) | exact (pa_c e0.2.2) | exact (nm_c ktg) | exact kA.1) (by omega) (by omega) (t3 e (by omega)) ?_
            refine x_get c_Dk_answerFound_63 (by first | rfl | exact k0 | exact k1 | exact kq | exact t1 | exact t2 | exact e0.1 | exact (nm_c e0.2.1) | exact (pa_c e0.2.2) | exact (nm_c ktg) | exact kA.1) rfl ?_
            refine x_cv1z _ c_Dk_answerFound_66 (by first | rfl | exact k0 | exact k1 | exact kq | exact t1 | exact t2 | exact e0.1 | exact (nm_c e0.2.1) | exact (pa_c e0.2.2) | exact (nm_c ktg) | exact kA.1) (Nat.le_of_ble_eq_true rfl) (y_Fi_areTrueFor d kA hc e0.2.2 hG hcz hht hen hW) ?_
            rintro _ μx ⟨rfl, hμx⟩
            have hμx := hμx.symm
            subst hμx
            show kc_X _ _ _ _ _ [.int (bI (decide ((evF (pr e) G).headD 0 = 2)))] _ _
            refine x_if_eq c_Dk_answerFound_69 (fun h => absurd h (by rw [hsA.2]; decide)) (fun _ => ?_)
            first | refine x_incN [_, _, _, _, _] c_Dk_answerFound_72 rfl rfl ?_ | refine x_inc [_, _, _, _, _] c_Dk_answerFound_72 rfl rfl ?_
            refine x_il c_Dk_answerFound_75 rfl ?_
            refine x_if_eq c_Dk_answerFound_76 (fun _ => ?_) (fun h => absurd (rfl) h)
            first | refine x_incN [_, _, _, _, _] c_Dk_answerFound_104 rfl rfl ?_ | refine x_inc [_, _, _, _, _] c_Dk_answerFound_104 rfl rfl ?_
            refine x_goto c_Dk_answerFound_107 ?_
            exact ih (e + 1) (fo + 1) false L1 μ1 _ (by omega) (by omega) (by omega) hL1 cc hR
          | true =>
            rw [hro] at hR
            have hwl : wln li (fo + 1) = false := by cases hx : wln li (fo + 1) with | false => rfl | true => exact absurd ⟨hro, hx⟩ hgo
            refine x_il c_Dk_answerFound_6 rfl ?_
            refine x_al c_Dk_answerFound_7 rfl ?_
            refine x_get c_Dk_answerFound_8 (by first | rfl | exact k0 | exact k1 | exact kq | exact t1 | exact t2 | exact e0.1 | exact (nm_c e0.2.1) | exact (pa_c e0.2.2) | exact (nm_c ktg) | exact kA.1) rfl ?_
            refine x_get c_Dk_answerFound_11 (by first | rfl | exact k0 | exact k1 | exact kq | exact t1 | exact t2 | exact e0.1 | exact (nm_c e0.2.1) | exact (pa_c e0.2.2) | exact (nm_c ktg) | exact kA.1) rfl ?_
            refine x_cmN_ge c_Dk_answerFound_14 (by omega) (by omega) (fun h => (by exfalso; omega)) (fun _ => ?_)
            refine x_al c_Dk_answerFound_17 rfl ?_
            refine x_get c_Dk_answerFound_18 (by first | rfl | exact k0 | exact k1 | exact kq | exact t1 | exact t2 | exact e0.1 | exact (nm_c e0.2.1) | exact (pa_c e0.2.2) | exact (nm_c ktg) | exact kA.1) rfl ?_
            refine x_al c_Dk_answerFound_21 rfl ?_
            refine x_get c_Dk_answerFound_22 (by first | rfl | exact k0 | exact k1 | exact kq | exact t1 | exact t2 | exact e0.1 | exact (nm_c e0.2.1) | exact (pa_c e0.2.2) | exact (nm_c ktg) | exact kA.1) rfl ?_
            refine x_get c_Dk_answerFound_25 (by first | rfl | exact k0 | exact k1 | exact kq | exact t1 | exact t2 | exact e0.1 | exact (nm_c e0.2.1) | exact (pa_c e0.2.2) | exact (nm_c ktg) | exact kA.1) rfl ?_
            refine x_il c_Dk_answerFound_28 rfl ?_
            refine x_aaldN c_Dk_answerFound_29 (by first | rfl | exact k0 | exact k1 | exact kq | exact t1 | exact t2 | exact e0.1 | exact (nm_c e0.2.1) | exact (pa_c e0.2.2) | exact (nm_c ktg) | exact kA.1) (by omega) (by omega) (t3 e (by omega)) ?_
            refine x_get c_Dk_answerFound_30 (by first | rfl | exact k0 | exact k1 | exact kq | exact t1 | exact t2 | exact e0.1 | exact (nm_c e0.2.1) | exact (pa_c e0.2.2) | exact (nm_c ktg) | exact kA.1) rfl ?_
            refine x_al c_Dk_answerFound_33 rfl ?_
            refine x_get c_Dk_answerFound_34 (by first | rfl | exact k0 | exact k1 | exact kq | exact t1 | exact t2 | exact e0.1 | exact (nm_c e0.2.1) | exact (pa_c e0.2.2) | exact (nm_c ktg) | exact kA.1) rfl ?_
            refine x_cv1z _ c_Dk_answerFound_37 (by first | rfl | exact k0 | exact k1 | exact kq | exact t1 | exact t2 | exact e0.1 | exact (nm_c e0.2.1) | exact (pa_c e0.2.2) | exact (nm_c ktg) | exact kA.1) (Nat.le_of_ble_eq_true rfl) (y_Nm_levelsUnder (d + 13) e0.2.1 ktg) ?_
            rintro _ μx ⟨rfl, hμx⟩
            have hμx := hμx.symm
            subst hμx
            show kc_X _ _ _ _ _ (.int (oI (lv (nm e) l)) :: _) _ _
            refine x_cv1z _ c_Dk_answerFound_40 (by first | rfl | exact k0 | exact k1 | exact kq | exact t1 | exact t2 | exact e0.1 | exact (nm_c e0.2.1) | exact (pa_c e0.2.2) | exact (nm_c ktg) | exact kA.1) (Nat.le_of_ble_eq_true rfl) (y_Qu_isInScope (d + 13) kq hs2 (o := lv (nm e) l) (fun m h => by have := (lv_b h).1; obtain ⟨_, _, _, _, _, _, h9⟩ := e0.2.1; omega)) ?_
            rintro _ μx ⟨rfl, hμx⟩
            have hμx := hμx.symm
            subst hμx
            show kc_X _ _ _ _ _ [.int (bI (scp sc (lv (nm e) l)))] _ _
            refine x_is [_, _, _, _, _] c_Dk_answerFound_43 rfl ?_
            refine x_il c_Dk_answerFound_45 rfl ?_
            refine x_if_eq c_Dk_answerFound_47 (fun h => absurd h (by rw [hsA.1]; decide)) (fun _ => ?_)
            refine x_al c_Dk_answerFound_50 rfl ?_
            refine x_get c_Dk_answerFound_51 (by first | rfl | exact k0 | exact k1 | exact kq | exact t1 | exact t2 | exact e0.1 | exact (nm_c e0.2.1) | exact (pa_c e0.2.2) | exact (nm_c ktg) | exact kA.1) rfl ?_
            refine x_al c_Dk_answerFound_54 rfl ?_
            refine x_get c_Dk_answerFound_55 (by first | rfl | exact k0 | exact k1 | exact kq | exact t1 | exact t2 | exact e0.1 | exact (nm_c e0.2.1) | exact (pa_c e0.2.2) | exact (nm_c ktg) | exact kA.1) rfl ?_
            refine x_get c_Dk_answerFound_58 (by first | rfl | exact k0 | exact k1 | exact kq | exact t1 | exact t2 | exact e0.1 | exact (nm_c e0.2.1) | exact (pa_c e0.2.2) | exact (nm_c ktg) | exact kA.1) rfl ?_
            refine x_il c_Dk_answerFound_61 rfl ?_
            refine x_aaldN c_Dk_answerFound_62 (by first | rfl | exact k0 | exact k1 | exact kq | exact t1 | exact t2 | exact e0.1 | exact (nm_c e0.2.1) | exact (pa_c e0.2.2) | exact (nm_c ktg) | exact kA.1) (by omega) (by omega) (t3 e (by omega)) ?_
            refine x_get c_Dk_answerFound_63 (by first | rfl | exact k0 | exact k1 | exact kq | exact t1 | exact t2 | exact e0.1 | exact (nm_c e0.2.1) | exact (pa_c e0.2.2) | exact (nm_c ktg) | exact kA.1) rfl ?_
            refine x_cv1z _ c_Dk_answerFound_66 (by first | rfl | exact k0 | exact k1 | exact kq | exact t1 | exact t2 | exact e0.1 | exact (nm_c e0.2.1) | exact (pa_c e0.2.2) | exact (nm_c ktg) | exact kA.1) (Nat.le_of_ble_eq_true rfl) (y_Fi_areTrueFor d kA hc e0.2.2 hG hcz hht hen hW) ?_
            rintro _ μx ⟨rfl, hμx⟩
            have hμx := hμx.symm
            subst hμx
            show kc_X _ _ _ _ _ [.int (bI (decide ((evF (pr e) G).headD 0 = 2)))] _ _
            refine x_if_eq c_Dk_answerFound_69 (fun h => absurd h (by rw [hsA.2]; decide)) (fun _ => ?_)
            first | refine x_incN [_, _, _, _, _] c_Dk_answerFound_72 rfl rfl ?_ | refine x_inc [_, _, _, _, _] c_Dk_answerFound_72 rfl rfl ?_
            refine x_il c_Dk_answerFound_75 rfl ?_
            refine x_if_eq c_Dk_answerFound_76 (fun h => absurd h (by decide)) (fun _ => ?_)
            refine x_al c_Dk_answerFound_79 rfl ?_
            refine x_get c_Dk_answerFound_80 (by first | rfl | exact k0 | exact k1 | exact kq | exact t1 | exact t2 | exact e0.1 | exact (nm_c e0.2.1) | exact (pa_c e0.2.2) | exact (nm_c ktg) | exact kA.1) rfl ?_
            refine x_il c_Dk_answerFound_83 rfl ?_
            refine x_cv1z _ c_Dk_answerFound_84 (by first | rfl | exact k0 | exact k1 | exact kq | exact t1 | exact t2 | exact e0.1 | exact (nm_c e0.2.1) | exact (pa_c e0.2.2) | exact (nm_c ktg) | exact kA.1) (Nat.le_of_ble_eq_true rfl) (y_Qu_isWithinLimit (d + 13) kq (by omega) (k := fo + 1) (by omega)) ?_
            rintro _ μx ⟨rfl, hμx⟩
            have hμx := hμx.symm
            subst hμx
            show kc_X _ _ _ _ _ [.int (bI (wln li (fo + 1)))] _ _
            refine x_if_eq c_Dk_answerFound_87 (fun _ => ?_) (fun h => absurd (by rw [hwl]; rfl) h)
            first | refine x_incN [_, _, _, _, _] c_Dk_answerFound_104 rfl rfl ?_ | refine x_inc [_, _, _, _, _] c_Dk_answerFound_104 rfl rfl ?_
            refine x_goto c_Dk_answerFound_107 ?_
            exact ih (e + 1) (fo + 1) true L1 μ1 _ (by omega) (by omega) (by omega) hL1 cc hR
      · rw [if_neg hsel] at hR
        by_cases hs1 : scp sc (lv (nm e) l) = true
        · have hsB : decide ((evF (pr e) G).headD 0 = 2) = false := by
            unfold selB at hsel
            rw [hs1, Bool.true_and] at hsel
            revert hsel
            cases decide ((evF (pr e) G).headD 0 = 2) <;> simp
          refine x_il c_Dk_answerFound_6 rfl ?_
          refine x_al c_Dk_answerFound_7 rfl ?_
          refine x_get c_Dk_answerFound_8 (by first | rfl | exact k0 | exact k1 | exact kq | exact t1 | exact t2 | exact e0.1 | exact (nm_c e0.2.1) | exact (pa_c e0.2.2) | exact (nm_c ktg) | exact kA.1) rfl ?_
          refine x_get c_Dk_answerFound_11 (by first | rfl | exact k0 | exact k1 | exact kq | exact t1 | exact t2 | exact e0.1 | exact (nm_c e0.2.1) | exact (pa_c e0.2.2) | exact (nm_c ktg) | exact kA.1) rfl ?_
          refine x_cmN_ge c_Dk_answerFound_14 (by omega) (by omega) (fun h => (by exfalso; omega)) (fun _ => ?_)
          refine x_al c_Dk_answerFound_17 rfl ?_
          refine x_get c_Dk_answerFound_18 (by first | rfl | exact k0 | exact k1 | exact kq | exact t1 | exact t2 | exact e0.1 | exact (nm_c e0.2.1) | exact (pa_c e0.2.2) | exact (nm_c ktg) | exact kA.1) rfl ?_
          refine x_al c_Dk_answerFound_21 rfl ?_
          refine x_get c_Dk_answerFound_22 (by first | rfl | exact k0 | exact k1 | exact kq | exact t1 | exact t2 | exact e0.1 | exact (nm_c e0.2.1) | exact (pa_c e0.2.2) | exact (nm_c ktg) | exact kA.1) rfl ?_
          refine x_get c_Dk_answerFound_25 (by first | rfl | exact k0 | exact k1 | exact kq | exact t1 | exact t2 | exact e0.1 | exact (nm_c e0.2.1) | exact (pa_c e0.2.2) | exact (nm_c ktg) | exact kA.1) rfl ?_
          refine x_il c_Dk_answerFound_28 rfl ?_
          refine x_aaldN c_Dk_answerFound_29 (by first | rfl | exact k0 | exact k1 | exact kq | exact t1 | exact t2 | exact e0.1 | exact (nm_c e0.2.1) | exact (pa_c e0.2.2) | exact (nm_c ktg) | exact kA.1) (by omega) (by omega) (t3 e (by omega)) ?_
          refine x_get c_Dk_answerFound_30 (by first | rfl | exact k0 | exact k1 | exact kq | exact t1 | exact t2 | exact e0.1 | exact (nm_c e0.2.1) | exact (pa_c e0.2.2) | exact (nm_c ktg) | exact kA.1) rfl ?_
          refine x_al c_Dk_answerFound_33 rfl ?_
          refine x_get c_Dk_answerFound_34 (by first | rfl | exact k0 | exact k1 | exact kq | exact t1 | exact t2 | exact e0.1 | exact (nm_c e0.2.1) | exact (pa_c e0.2.2) | exact (nm_c ktg) | exact kA.1) rfl ?_
          refine x_cv1z _ c_Dk_answerFound_37 (by first | rfl | exact k0 | exact k1 | exact kq | exact t1 | exact t2 | exact e0.1 | exact (nm_c e0.2.1) | exact (pa_c e0.2.2) | exact (nm_c ktg) | exact kA.1) (Nat.le_of_ble_eq_true rfl) (y_Nm_levelsUnder (d + 13) e0.2.1 ktg) ?_
          rintro _ μx ⟨rfl, hμx⟩
          have hμx := hμx.symm
          subst hμx
          show kc_X _ _ _ _ _ (.int (oI (lv (nm e) l)) :: _) _ _
          refine x_cv1z _ c_Dk_answerFound_40 (by first | rfl | exact k0 | exact k1 | exact kq | exact t1 | exact t2 | exact e0.1 | exact (nm_c e0.2.1) | exact (pa_c e0.2.2) | exact (nm_c ktg) | exact kA.1) (Nat.le_of_ble_eq_true rfl) (y_Qu_isInScope (d + 13) kq hs2 (o := lv (nm e) l) (fun m h => by have := (lv_b h).1; obtain ⟨_, _, _, _, _, _, h9⟩ := e0.2.1; omega)) ?_
          rintro _ μx ⟨rfl, hμx⟩
          have hμx := hμx.symm
          subst hμx
          show kc_X _ _ _ _ _ [.int (bI (scp sc (lv (nm e) l)))] _ _
          refine x_is [_, _, _, _, _] c_Dk_answerFound_43 rfl ?_
          refine x_il c_Dk_answerFound_45 rfl ?_
          refine x_if_eq c_Dk_answerFound_47 (fun h => absurd h (by rw [hs1]; decide)) (fun _ => ?_)
          refine x_al c_Dk_answerFound_50 rfl ?_
          refine x_get c_Dk_answerFound_51 (by first | rfl | exact k0 | exact k1 | exact kq | exact t1 | exact t2 | exact e0.1 | exact (nm_c e0.2.1) | exact (pa_c e0.2.2) | exact (nm_c ktg) | exact kA.1) rfl ?_
          refine x_al c_Dk_answerFound_54 rfl ?_
          refine x_get c_Dk_answerFound_55 (by first | rfl | exact k0 | exact k1 | exact kq | exact t1 | exact t2 | exact e0.1 | exact (nm_c e0.2.1) | exact (pa_c e0.2.2) | exact (nm_c ktg) | exact kA.1) rfl ?_
          refine x_get c_Dk_answerFound_58 (by first | rfl | exact k0 | exact k1 | exact kq | exact t1 | exact t2 | exact e0.1 | exact (nm_c e0.2.1) | exact (pa_c e0.2.2) | exact (nm_c ktg) | exact kA.1) rfl ?_
          refine x_il c_Dk_answerFound_61 rfl ?_
          refine x_aaldN c_Dk_answerFound_62 (by first | rfl | exact k0 | exact k1 | exact kq | exact t1 | exact t2 | exact e0.1 | exact (nm_c e0.2.1) | exact (pa_c e0.2.2) | exact (nm_c ktg) | exact kA.1) (by omega) (by omega) (t3 e (by omega)) ?_
          refine x_get c_Dk_answerFound_63 (by first | rfl | exact k0 | exact k1 | exact kq | exact t1 | exact t2 | exact e0.1 | exact (nm_c e0.2.1) | exact (pa_c e0.2.2) | exact (nm_c ktg) | exact kA.1) rfl ?_
          refine x_cv1z _ c_Dk_answerFound_66 (by first | rfl | exact k0 | exact k1 | exact kq | exact t1 | exact t2 | exact e0.1 | exact (nm_c e0.2.1) | exact (pa_c e0.2.2) | exact (nm_c ktg) | exact kA.1) (Nat.le_of_ble_eq_true rfl) (y_Fi_areTrueFor d kA hc e0.2.2 hG hcz hht hen hW) ?_
          rintro _ μx ⟨rfl, hμx⟩
          have hμx := hμx.symm
          subst hμx
          show kc_X _ _ _ _ _ [.int (bI (decide ((evF (pr e) G).headD 0 = 2)))] _ _
          refine x_if_eq c_Dk_answerFound_69 (fun _ => ?_) (fun h => absurd (by rw [hsB]; rfl) h)
          first | refine x_incN [_, _, _, _, _] c_Dk_answerFound_104 rfl rfl ?_ | refine x_inc [_, _, _, _, _] c_Dk_answerFound_104 rfl rfl ?_
          refine x_goto c_Dk_answerFound_107 ?_
          exact ih (e + 1) fo ro L1 μ1 _ (by omega) (by omega) (by omega) hL1 cc hR
        · have hsC : scp sc (lv (nm e) l) = false := by revert hs1; cases scp sc (lv (nm e) l) <;> simp
          refine x_il c_Dk_answerFound_6 rfl ?_
          refine x_al c_Dk_answerFound_7 rfl ?_
          refine x_get c_Dk_answerFound_8 (by first | rfl | exact k0 | exact k1 | exact kq | exact t1 | exact t2 | exact e0.1 | exact (nm_c e0.2.1) | exact (pa_c e0.2.2) | exact (nm_c ktg) | exact kA.1) rfl ?_
          refine x_get c_Dk_answerFound_11 (by first | rfl | exact k0 | exact k1 | exact kq | exact t1 | exact t2 | exact e0.1 | exact (nm_c e0.2.1) | exact (pa_c e0.2.2) | exact (nm_c ktg) | exact kA.1) rfl ?_
          refine x_cmN_ge c_Dk_answerFound_14 (by omega) (by omega) (fun h => (by exfalso; omega)) (fun _ => ?_)
          refine x_al c_Dk_answerFound_17 rfl ?_
          refine x_get c_Dk_answerFound_18 (by first | rfl | exact k0 | exact k1 | exact kq | exact t1 | exact t2 | exact e0.1 | exact (nm_c e0.2.1) | exact (pa_c e0.2.2) | exact (nm_c ktg) | exact kA.1) rfl ?_
          refine x_al c_Dk_answerFound_21 rfl ?_
          refine x_get c_Dk_answerFound_22 (by first | rfl | exact k0 | exact k1 | exact kq | exact t1 | exact t2 | exact e0.1 | exact (nm_c e0.2.1) | exact (pa_c e0.2.2) | exact (nm_c ktg) | exact kA.1) rfl ?_
          refine x_get c_Dk_answerFound_25 (by first | rfl | exact k0 | exact k1 | exact kq | exact t1 | exact t2 | exact e0.1 | exact (nm_c e0.2.1) | exact (pa_c e0.2.2) | exact (nm_c ktg) | exact kA.1) rfl ?_
          refine x_il c_Dk_answerFound_28 rfl ?_
          refine x_aaldN c_Dk_answerFound_29 (by first | rfl | exact k0 | exact k1 | exact kq | exact t1 | exact t2 | exact e0.1 | exact (nm_c e0.2.1) | exact (pa_c e0.2.2) | exact (nm_c ktg) | exact kA.1) (by omega) (by omega) (t3 e (by omega)) ?_
          refine x_get c_Dk_answerFound_30 (by first | rfl | exact k0 | exact k1 | exact kq | exact t1 | exact t2 | exact e0.1 | exact (nm_c e0.2.1) | exact (pa_c e0.2.2) | exact (nm_c ktg) | exact kA.1) rfl ?_
          refine x_al c_Dk_answerFound_33 rfl ?_
          refine x_get c_Dk_answerFound_34 (by first | rfl | exact k0 | exact k1 | exact kq | exact t1 | exact t2 | exact e0.1 | exact (nm_c e0.2.1) | exact (pa_c e0.2.2) | exact (nm_c ktg) | exact kA.1) rfl ?_
          refine x_cv1z _ c_Dk_answerFound_37 (by first | rfl | exact k0 | exact k1 | exact kq | exact t1 | exact t2 | exact e0.1 | exact (nm_c e0.2.1) | exact (pa_c e0.2.2) | exact (nm_c ktg) | exact kA.1) (Nat.le_of_ble_eq_true rfl) (y_Nm_levelsUnder (d + 13) e0.2.1 ktg) ?_
          rintro _ μx ⟨rfl, hμx⟩
          have hμx := hμx.symm
          subst hμx
          show kc_X _ _ _ _ _ (.int (oI (lv (nm e) l)) :: _) _ _
          refine x_cv1z _ c_Dk_answerFound_40 (by first | rfl | exact k0 | exact k1 | exact kq | exact t1 | exact t2 | exact e0.1 | exact (nm_c e0.2.1) | exact (pa_c e0.2.2) | exact (nm_c ktg) | exact kA.1) (Nat.le_of_ble_eq_true rfl) (y_Qu_isInScope (d + 13) kq hs2 (o := lv (nm e) l) (fun m h => by have := (lv_b h).1; obtain ⟨_, _, _, _, _, _, h9⟩ := e0.2.1; omega)) ?_
          rintro _ μx ⟨rfl, hμx⟩
          have hμx := hμx.symm
          subst hμx
          show kc_X _ _ _ _ _ [.int (bI (scp sc (lv (nm e) l)))] _ _
          refine x_is [_, _, _, _, _] c_Dk_answerFound_43 rfl ?_
          refine x_il c_Dk_answerFound_45 rfl ?_
          refine x_if_eq c_Dk_answerFound_47 (fun _ => ?_) (fun h => absurd (by rw [hsC]; rfl) h)
          first | refine x_incN [_, _, _, _, _] c_Dk_answerFound_104 rfl rfl ?_ | refine x_inc [_, _, _, _, _] c_Dk_answerFound_104 rfl rfl ?_
          refine x_goto c_Dk_answerFound_107 ?_
          exact ih (e + 1) fo ro L1 μ1 _ (by omega) (by omega) (by omega) hL1 cc hR
  refine x_ci c_Dk_answerFound_0 ?_
  refine x_is [_, _, _, _, _] c_Dk_answerFound_1 rfl ?_
  refine x_ci c_Dk_answerFound_2 ?_
  refine x_is [_, _, _, _, _] c_Dk_answerFound_3 rfl ?_
  refine x_ci c_Dk_answerFound_4 ?_
  refine x_is [_, _, _, _, _] c_Dk_answerFound_5 rfl ?_
  exact loop n 0 0 true L μ _ rfl (by omega) (by omega) hL (wC.re h) rfl
