/-! the class's pairs and rows, more -/
theorem kp_1 {ty : Int32} {x : Int64} {p : tv} : kp ty x x p = !decide (p = (ty, x)) := by
  by_cases h : p = (ty, x)
  · subst h
    have h9 : kp ty x x (ty, x) = false := kp_f (p := (ty, x)) rfl (fun q => Int64.lt_irrefl q) (Int64.le_refl x)
    rw [h9, decide_eq_true rfl]; rfl
  · rw [decide_eq_false h]
    refine kp_t ?_
    by_cases h1 : p.1 = ty
    · right
      by_cases h2 : p.2 < x
      · exact Or.inl h2
      · right
        rw [Int64.not_lt] at h2
        rw [← Int64.not_le]
        intro h3
        apply h
        obtain ⟨p1, p2⟩ := p
        dsimp only at h1 h2 h3
        rw [h1, Int64.le_antisymm h3 h2]
    · exact Or.inl h1
theorem fl_1 {ty : Int32} {x : Int64} {l : List tv} : l.filter (kp ty x x) = l.filter (fun p => !decide (p = (ty, x))) := by
  congr 1
  funext p
  exact kp_1
theorem ho_if {l : List tv} {f f' : Nat → Int32} {g g' : Nat → Int64} {n : Nat} (h : ho l f g) (hn : l.length ≤ n) : ho l (fun j => if j < n then f j else f' j) (fun j => if j < n then g j else g' j) := by
  intro k hk
  rw [h k hk]
  dsimp only
  rw [if_pos (by omega), if_pos (by omega)]
set_option maxRecDepth 100000 in
set_option maxHeartbeats 4000000 in
theorem y_Pa_remove (d : Nat) {μ : kc_M} {a t v cap : Nat} {l : List tv} {ty : Int32} {x : Int64} (hp : pa_at μ a t v cap l) (hcap : cap < 2 ^ 31) (n1 : a ≠ t) (n2 : a ≠ v) (n3 : v ≠ t) (n3' : t ≠ v) (n1s : t ≠ a) (n2s : v ≠ a) : kc_Y kt kC (d + 2) j_Pa_remove [.ref a, .int ty, .long x] μ (fun w μ' => w = some (.int (bI (decide ((l.filter (kp ty x x)).length < l.length)))) ∧ pa_at μ' a t v cap (l.filter (kp ty x x)) ∧ ∀ q, q ≠ a → q ≠ t → q ≠ v → μ'.1 q = μ.1 q) := by
  refine ⟨Nat.le_of_ble_eq_true rfl, ?_⟩
  refine x_al c_Pa_remove_0 rfl ?_
  refine x_il c_Pa_remove_1 rfl ?_
  refine x_ll c_Pa_remove_2 rfl ?_
  refine x_ll c_Pa_remove_3 rfl ?_
  refine x_cv3z _ c_Pa_remove_4 (by first | rfl | exact (pa_c hp)) (Nat.le_of_ble_eq_true rfl) (y_Pa_removeBetween d hp hcap n1 n2 n3 n3' n1s n2s) ?_
  rintro _ μ1 ⟨rfl, g1, g2⟩
  show kc_X _ _ _ _ _ [.int (bI (decide ((l.filter (kp ty x x)).length < l.length)))] _ _
  refine x_rz c_Pa_remove_7 (by first | decide | exact kz_n _) ?_
  exact ⟨rfl, g1, g2⟩
set_option maxRecDepth 100000 in
set_option maxHeartbeats 4000000 in
theorem y_Pa_append0 (d : Nat) {μ : kc_M} {a t v cap : Nat} {l : List tv} {ty : Int32} {x : Int64} (hp : pa_at μ a t v cap l) (hcap : cap < 2 ^ 31) (hc : l.length < cap) (hin : (ty, x) ∈ l) : kc_Y kt kC (d + 2) j_Pa_append [.ref a, .int ty, .long x] μ (fun w μ' => w = some (.int (bI false)) ∧ μ' = μ) := by
  have hp' := hp
  obtain ⟨f, g, a1, a2, a3, a4, a5⟩ := hp'
  have hfm := fi_mem (ty, x) l 0 (by omega)
  refine ⟨Nat.le_of_ble_eq_true rfl, ?_⟩
  refine x_al c_Pa_append_0 rfl ?_
  refine x_get c_Pa_append_1 (by first | rfl | exact a1 | exact a2 | exact a3) rfl ?_
  refine x_al c_Pa_append_4 rfl ?_
  refine x_get c_Pa_append_5 (by first | rfl | exact a1 | exact a2 | exact a3) rfl ?_
  refine x_alenN c_Pa_append_8 (by first | rfl | exact a1 | exact a2 | exact a3) ?_
  refine x_cmN_ge c_Pa_append_9 (by omega) (by omega) (fun h => (by exfalso; omega)) (fun _ => ?_)
  refine x_al c_Pa_append_12 rfl ?_
  refine x_il c_Pa_append_13 rfl ?_
  refine x_ll c_Pa_append_14 rfl ?_
  refine x_cv2z _ c_Pa_append_15 (by first | rfl | exact a1 | exact a2 | exact a3) (Nat.le_of_ble_eq_true rfl) (y_Pa_find d hp hcap) ?_
  rintro _ μx ⟨rfl, hμx⟩
  have hμx := hμx.symm
  subst hμx
  show kc_X _ _ _ _ _ [.int (fi (ty, x) l 0)] _ _
  refine x_ci c_Pa_append_18 ?_
  refine x_cm_eq c_Pa_append_19 (fun h => absurd h (fun q => hfm.mp q hin)) (fun _ => ?_)
  refine x_ci c_Pa_append_22 ?_
  refine x_rz c_Pa_append_23 (by first | decide | exact kz_n _) ?_
  exact ⟨rfl, rfl⟩
set_option maxRecDepth 100000 in
set_option maxHeartbeats 4000000 in
theorem y_Pa_copyFrom (d : Nat) {μ : kc_M} {a t v cap : Nat} {l : List tv} {a' t' v' cap' : Nat} {l' : List tv} (hp : pa_at μ a t v cap l) (hp' : pa_at μ a' t' v' cap' l') (hcap : cap < 2 ^ 31) (hl : l'.length ≤ cap) (n1 : a ≠ t) (n2 : a ≠ v) (n3 : v ≠ t) (n3' : t ≠ v) (n1s : t ≠ a) (n2s : v ≠ a) (m1 : a' ≠ a) (m2 : t' ≠ a) (m3 : v' ≠ a) (m4 : t' ≠ t) (m5 : v' ≠ v) (m7 : a' ≠ t) (m8 : v' ≠ t) : kc_Y kt kC (d + 1) j_Pa_copyFrom [.ref a, .ref a'] μ (fun w μ' => w = none ∧ pa_at μ' a t v cap l' ∧ ∀ q, q ≠ a → q ≠ t → q ≠ v → μ'.1 q = μ.1 q) := by
  refine ⟨Nat.le_of_ble_eq_true rfl, ?_⟩
  obtain ⟨f, g, a1, a2, a3, a4, a5⟩ := hp
  obtain ⟨f', g', b1, b2, b3, b4, b5⟩ := hp'
  have hmin : (if nI cap < nI l'.length then nI cap else nI l'.length) = nI l'.length := if_neg (fun h => absurd ((nI_ltI (by omega) (by omega)).mp h) (by omega))
  have hb : l'.length ≤ cap' := b5
  refine x_al c_Pa_copyFrom_0 rfl ?_
  refine x_al c_Pa_copyFrom_1 rfl ?_
  refine x_get c_Pa_copyFrom_2 (by first | rfl | exact b1 | exact b2 | exact b3 | exact a1 | exact a2 | exact a3 | exact ((kc_gf m1).trans b1) | exact ((kc_gf m2).trans b2) | exact ((kc_gf m3).trans b3) | exact kc_gs | exact ((kc_gf n1s).trans a2) | exact ((kc_gf n2s).trans a3) | exact ((kc_gf m7).trans ((kc_gf m1).trans b1)) | exact ((kc_gf m8).trans ((kc_gf m3).trans b3)) | exact ((kc_gf n1).trans kc_gs) | exact ((kc_gf n3).trans ((kc_gf n2s).trans a3))) rfl ?_
  refine x_al c_Pa_copyFrom_5 rfl ?_
  refine x_get c_Pa_copyFrom_6 (by first | rfl | exact b1 | exact b2 | exact b3 | exact a1 | exact a2 | exact a3 | exact ((kc_gf m1).trans b1) | exact ((kc_gf m2).trans b2) | exact ((kc_gf m3).trans b3) | exact kc_gs | exact ((kc_gf n1s).trans a2) | exact ((kc_gf n2s).trans a3) | exact ((kc_gf m7).trans ((kc_gf m1).trans b1)) | exact ((kc_gf m8).trans ((kc_gf m3).trans b3)) | exact ((kc_gf n1).trans kc_gs) | exact ((kc_gf n3).trans ((kc_gf n2s).trans a3))) rfl ?_
  refine x_alenN c_Pa_copyFrom_9 (by first | rfl | exact b1 | exact b2 | exact b3 | exact a1 | exact a2 | exact a3 | exact ((kc_gf m1).trans b1) | exact ((kc_gf m2).trans b2) | exact ((kc_gf m3).trans b3) | exact kc_gs | exact ((kc_gf n1s).trans a2) | exact ((kc_gf n2s).trans a3) | exact ((kc_gf m7).trans ((kc_gf m1).trans b1)) | exact ((kc_gf m8).trans ((kc_gf m3).trans b3)) | exact ((kc_gf n1).trans kc_gs) | exact ((kc_gf n3).trans ((kc_gf n2s).trans a3))) ?_
  refine x_min c_Pa_copyFrom_10 (Nat.le_of_ble_eq_true rfl) ?_
  rw [hmin]
  refine x_put [_, _, _] c_Pa_copyFrom_13 (by first | rfl | exact b1 | exact b2 | exact b3 | exact a1 | exact a2 | exact a3 | exact ((kc_gf m1).trans b1) | exact ((kc_gf m2).trans b2) | exact ((kc_gf m3).trans b3) | exact kc_gs | exact ((kc_gf n1s).trans a2) | exact ((kc_gf n2s).trans a3) | exact ((kc_gf m7).trans ((kc_gf m1).trans b1)) | exact ((kc_gf m8).trans ((kc_gf m3).trans b3)) | exact ((kc_gf n1).trans kc_gs) | exact ((kc_gf n3).trans ((kc_gf n2s).trans a3))) ⟨Nat.le_of_ble_eq_true rfl, rfl, rfl⟩ rfl ?_
  refine x_al c_Pa_copyFrom_16 rfl ?_
  refine x_get c_Pa_copyFrom_17 (by first | rfl | exact b1 | exact b2 | exact b3 | exact a1 | exact a2 | exact a3 | exact ((kc_gf m1).trans b1) | exact ((kc_gf m2).trans b2) | exact ((kc_gf m3).trans b3) | exact kc_gs | exact ((kc_gf n1s).trans a2) | exact ((kc_gf n2s).trans a3) | exact ((kc_gf m7).trans ((kc_gf m1).trans b1)) | exact ((kc_gf m8).trans ((kc_gf m3).trans b3)) | exact ((kc_gf n1).trans kc_gs) | exact ((kc_gf n3).trans ((kc_gf n2s).trans a3))) rfl ?_
  refine x_ci c_Pa_copyFrom_20 ?_
  refine x_al c_Pa_copyFrom_21 rfl ?_
  refine x_get c_Pa_copyFrom_22 (by first | rfl | exact b1 | exact b2 | exact b3 | exact a1 | exact a2 | exact a3 | exact ((kc_gf m1).trans b1) | exact ((kc_gf m2).trans b2) | exact ((kc_gf m3).trans b3) | exact kc_gs | exact ((kc_gf n1s).trans a2) | exact ((kc_gf n2s).trans a3) | exact ((kc_gf m7).trans ((kc_gf m1).trans b1)) | exact ((kc_gf m8).trans ((kc_gf m3).trans b3)) | exact ((kc_gf n1).trans kc_gs) | exact ((kc_gf n3).trans ((kc_gf n2s).trans a3))) rfl ?_
  refine x_ci c_Pa_copyFrom_25 ?_
  refine x_al c_Pa_copyFrom_26 rfl ?_
  refine x_get c_Pa_copyFrom_27 (by first | rfl | exact b1 | exact b2 | exact b3 | exact a1 | exact a2 | exact a3 | exact ((kc_gf m1).trans b1) | exact ((kc_gf m2).trans b2) | exact ((kc_gf m3).trans b3) | exact kc_gs | exact ((kc_gf n1s).trans a2) | exact ((kc_gf n2s).trans a3) | exact ((kc_gf m7).trans ((kc_gf m1).trans b1)) | exact ((kc_gf m8).trans ((kc_gf m3).trans b3)) | exact ((kc_gf n1).trans kc_gs) | exact ((kc_gf n3).trans ((kc_gf n2s).trans a3))) rfl ?_
  refine x_cpiN c_Pa_copyFrom_30 (Nat.le_of_ble_eq_true rfl) ((kc_gf m2).trans b2) ((kc_gf n1s).trans a2) hb (by omega) m4 (by omega) ?_
  refine x_al c_Pa_copyFrom_33 rfl ?_
  refine x_get c_Pa_copyFrom_34 (by first | rfl | exact b1 | exact b2 | exact b3 | exact a1 | exact a2 | exact a3 | exact ((kc_gf m1).trans b1) | exact ((kc_gf m2).trans b2) | exact ((kc_gf m3).trans b3) | exact kc_gs | exact ((kc_gf n1s).trans a2) | exact ((kc_gf n2s).trans a3) | exact ((kc_gf m7).trans ((kc_gf m1).trans b1)) | exact ((kc_gf m8).trans ((kc_gf m3).trans b3)) | exact ((kc_gf n1).trans kc_gs) | exact ((kc_gf n3).trans ((kc_gf n2s).trans a3))) rfl ?_
  refine x_ci c_Pa_copyFrom_37 ?_
  refine x_al c_Pa_copyFrom_38 rfl ?_
  refine x_get c_Pa_copyFrom_39 (by first | rfl | exact b1 | exact b2 | exact b3 | exact a1 | exact a2 | exact a3 | exact ((kc_gf m1).trans b1) | exact ((kc_gf m2).trans b2) | exact ((kc_gf m3).trans b3) | exact kc_gs | exact ((kc_gf n1s).trans a2) | exact ((kc_gf n2s).trans a3) | exact ((kc_gf m7).trans ((kc_gf m1).trans b1)) | exact ((kc_gf m8).trans ((kc_gf m3).trans b3)) | exact ((kc_gf n1).trans kc_gs) | exact ((kc_gf n3).trans ((kc_gf n2s).trans a3))) rfl ?_
  refine x_ci c_Pa_copyFrom_42 ?_
  refine x_al c_Pa_copyFrom_43 rfl ?_
  refine x_get c_Pa_copyFrom_44 (by first | rfl | exact b1 | exact b2 | exact b3 | exact a1 | exact a2 | exact a3 | exact ((kc_gf m1).trans b1) | exact ((kc_gf m2).trans b2) | exact ((kc_gf m3).trans b3) | exact kc_gs | exact ((kc_gf n1s).trans a2) | exact ((kc_gf n2s).trans a3) | exact ((kc_gf m7).trans ((kc_gf m1).trans b1)) | exact ((kc_gf m8).trans ((kc_gf m3).trans b3)) | exact ((kc_gf n1).trans kc_gs) | exact ((kc_gf n3).trans ((kc_gf n2s).trans a3))) rfl ?_
  refine x_cplN c_Pa_copyFrom_47 (Nat.le_of_ble_eq_true rfl) ((kc_gf m8).trans ((kc_gf m3).trans b3)) ((kc_gf n3).trans ((kc_gf n2s).trans a3)) hb (by omega) m5 (by omega) ?_
  refine x_ret c_Pa_copyFrom_50 ?_
  exact ⟨rfl, ⟨_, _, (kc_gf n2).trans ((kc_gf n1).trans kc_gs), (kc_gf n3').trans kc_gs, kc_gs, ho_if b4 (Nat.le_refl _), hl⟩, fun q q1 q2 q3 => (kc_gf q3).trans ((kc_gf q2).trans (kc_gf q1))⟩
set_option maxRecDepth 100000 in
set_option maxHeartbeats 4000000 in
theorem y_Nm_copyFrom (d : Nat) {μ : kc_M} {a t v : Nat} {l : List tv} {a' t' v' : Nat} {l' : List tv} (hp : nm_at μ a t v l) (hp' : nm_at μ a' t' v' l') (n1 : a ≠ t) (n2 : a ≠ v) (n3 : v ≠ t) (n3' : t ≠ v) (n1s : t ≠ a) (n2s : v ≠ a) (m4 : t' ≠ t) (m5 : v' ≠ v) (m7 : a' ≠ t) (m8 : v' ≠ t) (m9 : a' ≠ v) : kc_Y kt kC (d + 1) j_Nm_copyFrom [.ref a, .ref a'] μ (fun w μ' => w = none ∧ nm_at μ' a t v l' ∧ ∀ q, q ≠ a → q ≠ t → q ≠ v → μ'.1 q = μ.1 q) := by
  refine ⟨Nat.le_of_ble_eq_true rfl, ?_⟩
  obtain ⟨f, g, a1, a2, a3, a4, a5⟩ := hp
  obtain ⟨f', g', b1, b2, b3, b4, b5⟩ := hp'
  refine x_al c_Nm_copyFrom_0 rfl ?_
  refine x_get c_Nm_copyFrom_1 (by first | rfl | exact a1 | exact a2 | exact a3 | exact b1 | exact b2 | exact b3 | exact ((kc_gf m7).trans b1) | exact ((kc_gf n1).trans a1) | exact ((kc_gf m8).trans b3) | exact ((kc_gf m9).trans ((kc_gf m7).trans b1)) | exact ((kc_gf n2).trans ((kc_gf n1).trans a1))) rfl ?_
  refine x_ci c_Nm_copyFrom_4 ?_
  refine x_al c_Nm_copyFrom_5 rfl ?_
  refine x_get c_Nm_copyFrom_6 (by first | rfl | exact a1 | exact a2 | exact a3 | exact b1 | exact b2 | exact b3 | exact ((kc_gf m7).trans b1) | exact ((kc_gf n1).trans a1) | exact ((kc_gf m8).trans b3) | exact ((kc_gf m9).trans ((kc_gf m7).trans b1)) | exact ((kc_gf n2).trans ((kc_gf n1).trans a1))) rfl ?_
  refine x_ci c_Nm_copyFrom_9 ?_
  refine x_ci c_Nm_copyFrom_10 ?_
  refine x_cpiN (n := 4) c_Nm_copyFrom_11 (Nat.le_of_ble_eq_true rfl) b2 a2 (by omega) (by omega) m4 (by omega) ?_
  refine x_al c_Nm_copyFrom_14 rfl ?_
  refine x_get c_Nm_copyFrom_15 (by first | rfl | exact a1 | exact a2 | exact a3 | exact b1 | exact b2 | exact b3 | exact ((kc_gf m7).trans b1) | exact ((kc_gf n1).trans a1) | exact ((kc_gf m8).trans b3) | exact ((kc_gf m9).trans ((kc_gf m7).trans b1)) | exact ((kc_gf n2).trans ((kc_gf n1).trans a1))) rfl ?_
  refine x_ci c_Nm_copyFrom_18 ?_
  refine x_al c_Nm_copyFrom_19 rfl ?_
  refine x_get c_Nm_copyFrom_20 (by first | rfl | exact a1 | exact a2 | exact a3 | exact b1 | exact b2 | exact b3 | exact ((kc_gf m7).trans b1) | exact ((kc_gf n1).trans a1) | exact ((kc_gf m8).trans b3) | exact ((kc_gf m9).trans ((kc_gf m7).trans b1)) | exact ((kc_gf n2).trans ((kc_gf n1).trans a1))) rfl ?_
  refine x_ci c_Nm_copyFrom_23 ?_
  refine x_ci c_Nm_copyFrom_24 ?_
  refine x_cplN (n := 4) c_Nm_copyFrom_25 (Nat.le_of_ble_eq_true rfl) ((kc_gf m8).trans b3) ((kc_gf n3).trans a3) (by omega) (by omega) m5 (by omega) ?_
  refine x_al c_Nm_copyFrom_28 rfl ?_
  refine x_al c_Nm_copyFrom_29 rfl ?_
  refine x_get c_Nm_copyFrom_30 (by first | rfl | exact a1 | exact a2 | exact a3 | exact b1 | exact b2 | exact b3 | exact ((kc_gf m7).trans b1) | exact ((kc_gf n1).trans a1) | exact ((kc_gf m8).trans b3) | exact ((kc_gf m9).trans ((kc_gf m7).trans b1)) | exact ((kc_gf n2).trans ((kc_gf n1).trans a1))) rfl ?_
  refine x_put [_, _, _] c_Nm_copyFrom_33 (by first | rfl | exact a1 | exact a2 | exact a3 | exact b1 | exact b2 | exact b3 | exact ((kc_gf m7).trans b1) | exact ((kc_gf n1).trans a1) | exact ((kc_gf m8).trans b3) | exact ((kc_gf m9).trans ((kc_gf m7).trans b1)) | exact ((kc_gf n2).trans ((kc_gf n1).trans a1))) ⟨Nat.le_of_ble_eq_true rfl, rfl, rfl⟩ rfl ?_
  refine x_ret c_Nm_copyFrom_36 ?_
  exact ⟨rfl, ⟨_, _, kc_gs, (kc_gf n1s).trans ((kc_gf n3').trans kc_gs), (kc_gf n2s).trans kc_gs, ho_if b4 b5, b5⟩, fun q q1 q2 q3 => (kc_gf q1).trans ((kc_gf q3).trans (kc_gf q2))⟩
theorem l0_get {l : List tv} {p : tv} (h : l[0]? = some p) : l.head? = some p := by rw [List.head?_eq_getElem?]; exact h
set_option maxRecDepth 100000 in
set_option maxHeartbeats 4000000 in
theorem y_Pa_hasOwnPartOf (d : Nat) {μ : kc_M} {a t v cap : Nat} {l : List tv} {b tt vv : Nat} {nl : List tv} {ty : Int32} {x : Int64} (hp : pa_at μ a t v cap l) (hcap : cap < 2 ^ 31) (hn : nm_at μ b tt vv nl) (hl : 1 ≤ nl.length) (hh : nl[0]? = some (ty, x)) : kc_Y kt kC (d + 2) j_Pa_hasOwnPartOf [.ref a, .ref b] μ (fun w μ' => w = some (.int (bI (decide ((ty, x) ∈ l)))) ∧ μ' = μ) := by
  have hp' := hp
  obtain ⟨f, g, a1, a2, a3, a4, a5⟩ := hp'
  obtain ⟨f', g', b1, b2, b3, b4, b5⟩ := hn
  have h00 := b4 0 (by omega)
  rw [hh] at h00
  obtain ⟨e1, e2⟩ := Prod.mk.inj (Option.some.inj h00)
  have hfm := fi_mem (ty, x) l 0 (by omega)
  refine ⟨Nat.le_of_ble_eq_true rfl, ?_⟩
  refine x_al c_Pa_hasOwnPartOf_0 rfl ?_
  refine x_get c_Pa_hasOwnPartOf_1 (by first | rfl | exact b1 | exact b2 | exact b3 | exact a1) rfl ?_
  refine x_ifN_le c_Pa_hasOwnPartOf_4 (by omega) (fun h => (by exfalso; omega)) (fun _ => ?_)
  refine x_al c_Pa_hasOwnPartOf_7 rfl ?_
  refine x_al c_Pa_hasOwnPartOf_8 rfl ?_
  refine x_get c_Pa_hasOwnPartOf_9 (by first | rfl | exact b1 | exact b2 | exact b3 | exact a1) rfl ?_
  refine x_ci c_Pa_hasOwnPartOf_12 ?_
  refine x_ialdE c_Pa_hasOwnPartOf_13 (by first | rfl | exact b1 | exact b2 | exact b3 | exact a1) (by omega) (by omega) (e1.symm) ?_
  refine x_al c_Pa_hasOwnPartOf_14 rfl ?_
  refine x_get c_Pa_hasOwnPartOf_15 (by first | rfl | exact b1 | exact b2 | exact b3 | exact a1) rfl ?_
  refine x_ci c_Pa_hasOwnPartOf_18 ?_
  refine x_laldE c_Pa_hasOwnPartOf_19 (by first | rfl | exact b1 | exact b2 | exact b3 | exact a1) (by omega) (by omega) (e2.symm) ?_
  refine x_cv2z _ c_Pa_hasOwnPartOf_20 (by first | rfl | exact b1 | exact b2 | exact b3 | exact a1) (Nat.le_of_ble_eq_true rfl) (y_Pa_find d hp hcap) ?_
  rintro _ μx ⟨rfl, hμx⟩
  have hμx := hμx.symm
  subst hμx
  show kc_X _ _ _ _ _ [.int (fi (ty, x) l 0)] _ _
  refine x_ci c_Pa_hasOwnPartOf_23 ?_
  refine x_cm_eq c_Pa_hasOwnPartOf_24 (fun h24 => ?_) (fun h24 => ?_)
  · refine x_ci c_Pa_hasOwnPartOf_31 ?_
    refine x_rz c_Pa_hasOwnPartOf_32 (by first | decide | exact kz_n _) ?_
    first | exact ⟨by rw [decide_eq_false (hfm.mp h24)]; rfl, rfl⟩ | exact ⟨by rw [decide_eq_true (Classical.not_not.mp (fun q => h24 (hfm.mpr q)))]; rfl, rfl⟩
  · refine x_ci c_Pa_hasOwnPartOf_27 ?_
    refine x_goto c_Pa_hasOwnPartOf_28 ?_
    refine x_rz c_Pa_hasOwnPartOf_32 (by first | decide | exact kz_n _) ?_
    first | exact ⟨by rw [decide_eq_false (hfm.mp h24)]; rfl, rfl⟩ | exact ⟨by rw [decide_eq_true (Classical.not_not.mp (fun q => h24 (hfm.mpr q)))]; rfl, rfl⟩
set_option maxRecDepth 100000 in
set_option maxHeartbeats 4000000 in
theorem y_Tr_append (d : Nat) {μ : kc_M} {n : Nat} {ad : Nat → Nat} {nm pr : Nat → List tv} (ht : tr_at μ n ad nm pr) {l p : List tv} (hn : nm_at μ 119 120 121 l) (hp : pa_at μ 133 134 135 30 p) (hn16 : n < 16) (hp6 : p.length ≤ 6) : kc_Y kt kC (d + 2) j_Tr_append [.ref 5, .ref 119, .ref 133] μ (fun w μ' => w = none ∧ tr_at μ' (n + 1) ad (fun i => if i = n then l else nm i) (fun i => if i = n then p else pr i) ∧ ∀ q, q < 5 ∨ 119 ≤ q → μ'.1 q = μ.1 q) := by
  refine ⟨Nat.le_of_ble_eq_true rfl, ?_⟩
  have ht' := ht
  obtain ⟨t1, ⟨rf, t2, t3⟩, t4, t5, t6, t7⟩ := ht'
  have e0 := t4 n (by omega)
  obtain ⟨k9, k91, k92⟩ := t5 n (by omega)
  generalize hA : ad n = A at e0 k92
  have t3n : rf n = some A := by rw [t3 n (by omega), hA]
  refine x_al c_Tr_append_0 rfl ?_
  refine x_get c_Tr_append_1 (by first | rfl | exact t1 | exact t2 | exact e0.1 | exact u1 | exact u2 | exact u3 | exact w1 | exact w2 | exact (nm_c e0.2.1) | exact (pa_c u4)) rfl ?_
  refine x_ci c_Tr_append_4 ?_
  refine x_cmN_ge c_Tr_append_6 (by omega) (by omega) (fun h => (by exfalso; omega)) (fun _ => ?_)
  refine x_al c_Tr_append_9 rfl ?_
  refine x_get c_Tr_append_10 (by first | rfl | exact t1 | exact t2 | exact e0.1 | exact u1 | exact u2 | exact u3 | exact w1 | exact w2 | exact (nm_c e0.2.1) | exact (pa_c u4)) rfl ?_
  refine x_al c_Tr_append_13 rfl ?_
  refine x_get c_Tr_append_14 (by first | rfl | exact t1 | exact t2 | exact e0.1 | exact u1 | exact u2 | exact u3 | exact w1 | exact w2 | exact (nm_c e0.2.1) | exact (pa_c u4)) rfl ?_
  refine x_aaldN c_Tr_append_17 (by first | rfl | exact t1 | exact t2 | exact e0.1 | exact u1 | exact u2 | exact u3 | exact w1 | exact w2 | exact (nm_c e0.2.1) | exact (pa_c u4)) (by omega) (by omega) t3n ?_
  refine x_get c_Tr_append_18 (by first | rfl | exact t1 | exact t2 | exact e0.1 | exact u1 | exact u2 | exact u3 | exact w1 | exact w2 | exact (nm_c e0.2.1) | exact (pa_c u4)) rfl ?_
  refine x_al c_Tr_append_21 rfl ?_
  refine x_cv1z _ c_Tr_append_22 (by first | rfl | exact t1 | exact t2 | exact e0.1 | exact u1 | exact u2 | exact u3 | exact w1 | exact w2 | exact (nm_c e0.2.1) | exact (pa_c u4)) (Nat.le_of_ble_eq_true rfl) (y_Nm_copyFrom d e0.2.1 hn (by omega) (by omega) (by omega) (by omega) (by omega) (by omega) (by omega) (by omega) (by omega) (by omega) (by omega)) ?_
  rintro _ μ1 ⟨rfl, g1, f1⟩
  have u1 := (f1 5 (by omega) (by omega) (by omega)).trans t1
  have u2 := (f1 6 (by omega) (by omega) (by omega)).trans t2
  have u3 := (f1 A (by omega) (by omega) (by omega)).trans e0.1
  have u4 : pa_at μ1 (A + 4) (A + 5) (A + 6) 6 (pr n) := pa_k e0.2.2 (f1 _ (by omega) (by omega) (by omega)) (f1 _ (by omega) (by omega) (by omega)) (f1 _ (by omega) (by omega) (by omega))
  have u5 : pa_at μ1 133 134 135 30 p := pa_k hp (f1 _ (by omega) (by omega) (by omega)) (f1 _ (by omega) (by omega) (by omega)) (f1 _ (by omega) (by omega) (by omega))
  show kc_X _ _ _ _ _ [] _ _
  refine x_al c_Tr_append_25 rfl ?_
  refine x_get c_Tr_append_26 (by first | rfl | exact t1 | exact t2 | exact e0.1 | exact u1 | exact u2 | exact u3 | exact w1 | exact w2 | exact (nm_c e0.2.1) | exact (pa_c u4)) rfl ?_
  refine x_al c_Tr_append_29 rfl ?_
  refine x_get c_Tr_append_30 (by first | rfl | exact t1 | exact t2 | exact e0.1 | exact u1 | exact u2 | exact u3 | exact w1 | exact w2 | exact (nm_c e0.2.1) | exact (pa_c u4)) rfl ?_
  refine x_aaldN c_Tr_append_33 (by first | rfl | exact t1 | exact t2 | exact e0.1 | exact u1 | exact u2 | exact u3 | exact w1 | exact w2 | exact (nm_c e0.2.1) | exact (pa_c u4)) (by omega) (by omega) t3n ?_
  refine x_get c_Tr_append_34 (by first | rfl | exact t1 | exact t2 | exact e0.1 | exact u1 | exact u2 | exact u3 | exact w1 | exact w2 | exact (nm_c e0.2.1) | exact (pa_c u4)) rfl ?_
  refine x_al c_Tr_append_37 rfl ?_
  refine x_cv1z _ c_Tr_append_38 (by first | rfl | exact t1 | exact t2 | exact e0.1 | exact u1 | exact u2 | exact u3 | exact w1 | exact w2 | exact (nm_c e0.2.1) | exact (pa_c u4)) (Nat.le_of_ble_eq_true rfl) (y_Pa_copyFrom d u4 u5 (by omega) hp6 (by omega) (by omega) (by omega) (by omega) (by omega) (by omega) (by omega) (by omega) (by omega) (by omega) (by omega) (by omega) (by omega)) ?_
  rintro _ μ2 ⟨rfl, g2, f2⟩
  have w1 := (f2 5 (by omega) (by omega) (by omega)).trans u1
  have w2 := (f2 6 (by omega) (by omega) (by omega)).trans u2
  have w3 := (f2 A (by omega) (by omega) (by omega)).trans u3
  show kc_X _ _ _ _ _ [] _ _
  refine x_al c_Tr_append_41 rfl ?_
  refine x_dup c_Tr_append_42 rfl ?_
  refine x_get c_Tr_append_43 (by first | rfl | exact t1 | exact t2 | exact e0.1 | exact u1 | exact u2 | exact u3 | exact w1 | exact w2 | exact (nm_c e0.2.1) | exact (pa_c u4)) rfl ?_
  refine x_ci c_Tr_append_46 ?_
  first | refine x_iaddN c_Tr_append_47 ?_ | refine x_iadd c_Tr_append_47 ?_
  refine x_put [_, _] c_Tr_append_48 (by first | rfl | exact t1 | exact t2 | exact e0.1 | exact u1 | exact u2 | exact u3 | exact w1 | exact w2 | exact (nm_c e0.2.1) | exact (pa_c u4)) ⟨Nat.le_of_ble_eq_true rfl, rfl, rfl⟩ rfl ?_
  refine x_ret c_Tr_append_51 ?_
  refine ⟨rfl, ⟨kc_gs, ⟨rf, (kc_gf (by omega)).trans w2, t3⟩, fun e he => ?_, t5, t6, by omega⟩, fun q hq => (kc_gf (by omega)).trans ((f2 q (by omega) (by omega) (by omega)).trans (f1 q (by omega) (by omega) (by omega)))⟩
  dsimp only
  by_cases hen : e = n
  · rw [if_pos hen, if_pos hen, hen, hA]
    exact ⟨(kc_gf (by omega)).trans w3, nm_k g1 ((kc_gf (by omega)).trans (f2 _ (by omega) (by omega) (by omega))) ((kc_gf (by omega)).trans (f2 _ (by omega) (by omega) (by omega))) ((kc_gf (by omega)).trans (f2 _ (by omega) (by omega) (by omega))), pa_k g2 (kc_gf (by omega)) (kc_gf (by omega)) (kc_gf (by omega))⟩
  · rw [if_neg hen, if_neg hen]
    obtain ⟨k8, k81, k82⟩ := t5 e he
    have hne : k8 ≠ k9 := fun q => hen (t6 e n he (by omega) (by rw [k82, hA, k92, q]))
    exact en_k (t4 e he) (fun q q1 q2 => (kc_gf (by omega)).trans ((f2 q (by omega) (by omega) (by omega)).trans (f1 q (by omega) (by omega) (by omega))))
