/-! modifying, the class -/
set_option maxRecDepth 100000 in
set_option maxHeartbeats 4000000 in
theorem y_Pa_copyInto (d : Nat) {μ : kc_M} {a t v cap k : Nat} {f : Nat → Int32} {g : Nat → Int64} (a1 : μ.1 a = some (ce_Pa t v k)) (a2 : μ.1 t = some (ce_I cap f)) (a3 : μ.1 v = some (ce_L cap g)) {a' t' v' cap' : Nat} {l' : List tv} (hp' : pa_at μ a' t' v' cap' l') (hcap : cap < 2 ^ 31) (hl : l'.length ≤ cap) (n1 : a ≠ t) (n2 : a ≠ v) (n3 : v ≠ t) (n3' : t ≠ v) (n1s : t ≠ a) (n2s : v ≠ a) (m1 : a' ≠ a) (m2 : t' ≠ a) (m3 : v' ≠ a) (m4 : t' ≠ t) (m5 : v' ≠ v) (m7 : a' ≠ t) (m8 : v' ≠ t) : kc_Y kt kC (d + 1) j_Pa_copyFrom [.ref a, .ref a'] μ (fun w μ' => w = none ∧ pa_at μ' a t v cap l' ∧ ∀ q, q ≠ a → q ≠ t → q ≠ v → μ'.1 q = μ.1 q) := by
  refine ⟨Nat.le_of_ble_eq_true rfl, ?_⟩
  obtain ⟨f', g', b1, b2, b3, b4, b5⟩ := hp'
  have hmin : (if nI cap < nI l'.length then nI cap else nI l'.length) = nI l'.length := if_neg (fun h => absurd ((nI_ltI (by omega) (by omega)).mp h) (by omega))
  have hb : l'.length ≤ cap' := b5
  refine x_al c_Pa_copyFrom_0 rfl ?_
  refine x_al c_Pa_copyFrom_1 rfl ?_
  refine x_get c_Pa_copyFrom_2 (by first | rfl | exact b1 | exact b2 | exact b3 | exact a1 | exact a2 | exact a3 | exact ((kc_gf m1).trans b1) | exact ((kc_gf m2).trans b2) | exact ((kc_gf m3).trans b3) | exact kc_gs | exact ((kc_gf n1s).trans a2) | exact ((kc_gf n2s).trans a3) | exact ((kc_gf m7).trans ((kc_gf m1).trans b1)) | exact ((kc_gf m8).trans ((kc_gf m3).trans b3)) | exact ((kc_gf n1).trans kc_gs) | exact ((kc_gf n3).trans ((kc_gf n2s).trans a3))) rfl ?_
  refine x_al c_Pa_copyFrom_5 rfl ?_
  refine x_get c_Pa_copyFrom_6 (by first | rfl | exact b1 | exact b2 | exact b3 | exact a1 | exact a2 | exact a3 | exact ((kc_gf m1).trans b1) | exact ((kc_gf m2).trans b2) | exact ((kc_gf m3).trans b3) | exact kc_gs | exact ((kc_gf n1s).trans a2) | exact ((kc_gf n2s).trans a3) | exact ((kc_gf m7).trans ((kc_gf m1).trans b1)) | exact ((kc_gf m8).trans ((kc_gf m3).trans b3)) | exact ((kc_gf n1).trans kc_gs) | exact ((kc_gf n3).trans ((kc_gf n2s).trans a3))) rfl ?_
  refine x_alenN c_Pa_copyFrom_9 (by first | rfl | exact b1 | exact b2 | exact b3 | exact a1 | exact a2 | exact a3 | exact ((kc_gf m1).trans b1) | exact ((kc_gf m2).trans b2) | exact ((kc_gf m3).trans b3) | exact kc_gs | exact ((kc_gf n1s).trans a2) | exact ((kc_gf n2s).trans a3) | exact ((kc_gf m7).trans ((kc_gf m1).trans b1)) | exact ((kc_gf m8).trans ((kc_gf m3).trans b3)) | exact ((kc_gf n1).trans kc_gs) | exact ((kc_gf n3).trans ((kc_gf n2s).trans a3))) ?_
  refine x_min c_Pa_copyFrom_10 (Nat.le_of_ble_eq_true rfl) ?_
  rw [hmin]
  refine x_put [_, _, _] c_Pa_copyFrom_13 (by first | rfl | exact b1 | exact b2 | exact b3 | exact a1 | exact a2 | exact a3 | exact ((kc_gf m1).trans b1) | exact ((kc_gf m2).trans b2) | exact ((kc_gf m3).trans b3) | exact kc_gs | exact ((kc_gf n1s).trans a2) | exact ((kc_gf n2s).trans a3) | exact ((kc_gf m7).trans ((kc_gf m1).trans b1)) | exact ((kc_gf m8).trans ((kc_gf m3).trans b3)) | exact ((kc_gf n1).trans kc_gs) | exact ((kc_gf n3).trans ((kc_gf n2s).trans a3))) ⟨Nat.le_of_ble_eq_true rfl, rfl, rfl⟩ rfl ?_
  refine x_al c_Pa_copyFrom_16 rfl ?_
  refine x_get c_Pa_copyFrom_17 (by first | rfl | exact b1 | exact b2 | exact b3 | exact a1 | exact a2 | exact a3 | exact ((kc_gf m1).trans b1) | exact ((kc_gf m2).trans b2) | exact ((kc_gf m3).trans b3) | exact kc_gs | exact ((kc_gf n1s).trans a2) | exact ((kc_gf n2s).trans a3) | exact ((kc_gf m7).trans ((kc_gf m1).trans b1)) | exact ((kc_gf m8).trans ((kc_gf m3).trans b3)) | exact ((kc_gf n1).trans kc_gs) | exact ((kc_gf n3).trans ((kc_gf n2s).trans a3))) rfl ?_
  refine x_ci c_Pa_copyFrom_20 ?_
  refine x_al c_Pa_copyFrom_21 rfl ?_
  refine x_get c_Pa_copyFrom_22 (by first | rfl | exact b1 | exact b2 | exact b3 | exact a1 | exact a2 | exact a3 | exact ((kc_gf m1).trans b1) | exact ((kc_gf m2).trans b2) | exact ((kc_gf m3).trans b3) | exact kc_gs | exact ((kc_gf n1s).trans a2) | exact ((kc_gf n2s).trans a3) | exact ((kc_gf m7).trans ((kc_gf m1).trans b1)) | exact ((kc_gf m8).trans ((kc_gf m3).trans b3)) | exact ((kc_gf n1).trans kc_gs) | exact ((kc_gf n3).trans ((kc_gf n2s).trans a3))) rfl ?_
  refine x_ci c_Pa_copyFrom_25 ?_
  refine x_al c_Pa_copyFrom_26 rfl ?_
  refine x_get c_Pa_copyFrom_27 (by first | rfl | exact b1 | exact b2 | exact b3 | exact a1 | exact a2 | exact a3 | exact ((kc_gf m1).trans b1) | exact ((kc_gf m2).trans b2) | exact ((kc_gf m3).trans b3) | exact kc_gs | exact ((kc_gf n1s).trans a2) | exact ((kc_gf n2s).trans a3) | exact ((kc_gf m7).trans ((kc_gf m1).trans b1)) | exact ((kc_gf m8).trans ((kc_gf m3).trans b3)) | exact ((kc_gf n1).trans kc_gs) | exact ((kc_gf n3).trans ((kc_gf n2s).trans a3))) rfl ?_
  refine x_cpiN c_Pa_copyFrom_30 (Nat.le_of_ble_eq_true rfl) ((kc_gf m2).trans b2) ((kc_gf n1s).trans a2) hb (by omega) m4 (by omega) ?_
  refine x_al c_Pa_copyFrom_33 rfl ?_
  refine x_get c_Pa_copyFrom_34 (by first | rfl | exact b1 | exact b2 | exact b3 | exact a1 | exact a2 | exact a3 | exact ((kc_gf m1).trans b1) | exact ((kc_gf m2).trans b2) | exact ((kc_gf m3).trans b3) | exact kc_gs | exact ((kc_gf n1s).trans a2) | exact ((kc_gf n2s).trans a3) | exact ((kc_gf m7).trans ((kc_gf m1).trans b1)) | exact ((kc_gf m8).trans ((kc_gf m3).trans b3)) | exact ((kc_gf n1).trans kc_gs) | exact ((kc_gf n3).trans ((kc_gf n2s).trans a3))) rfl ?_
  refine x_ci c_Pa_copyFrom_37 ?_
  refine x_al c_Pa_copyFrom_38 rfl ?_
  refine x_get c_Pa_copyFrom_39 (by first | rfl | exact b1 | exact b2 | exact b3 | exact a1 | exact a2 | exact a3 | exact ((kc_gf m1).trans b1) | exact ((kc_gf m2).trans b2) | exact ((kc_gf m3).trans b3) | exact kc_gs | exact ((kc_gf n1s).trans a2) | exact ((kc_gf n2s).trans a3) | exact ((kc_gf m7).trans ((kc_gf m1).trans b1)) | exact ((kc_gf m8).trans ((kc_gf m3).trans b3)) | exact ((kc_gf n1).trans kc_gs) | exact ((kc_gf n3).trans ((kc_gf n2s).trans a3))) rfl ?_
  refine x_ci c_Pa_copyFrom_42 ?_
  refine x_al c_Pa_copyFrom_43 rfl ?_
  refine x_get c_Pa_copyFrom_44 (by first | rfl | exact b1 | exact b2 | exact b3 | exact a1 | exact a2 | exact a3 | exact ((kc_gf m1).trans b1) | exact ((kc_gf m2).trans b2) | exact ((kc_gf m3).trans b3) | exact kc_gs | exact ((kc_gf n1s).trans a2) | exact ((kc_gf n2s).trans a3) | exact ((kc_gf m7).trans ((kc_gf m1).trans b1)) | exact ((kc_gf m8).trans ((kc_gf m3).trans b3)) | exact ((kc_gf n1).trans kc_gs) | exact ((kc_gf n3).trans ((kc_gf n2s).trans a3))) rfl ?_
  refine x_cplN c_Pa_copyFrom_47 (Nat.le_of_ble_eq_true rfl) ((kc_gf m8).trans ((kc_gf m3).trans b3)) ((kc_gf n3).trans ((kc_gf n2s).trans a3)) hb (by omega) m5 (by omega) ?_
  refine x_ret c_Pa_copyFrom_50 ?_
  exact ⟨rfl, ⟨_, _, (kc_gf n2).trans ((kc_gf n1).trans kc_gs), (kc_gf n3').trans kc_gs, kc_gs, ho_if b4 (Nat.le_refl _), hl⟩, fun q q1 q2 q3 => (kc_gf q3).trans ((kc_gf q2).trans (kc_gf q1))⟩
set_option maxRecDepth 100000 in
set_option maxHeartbeats 4000000 in
theorem y_Dk_modify (d : Nat) {μ : kc_M} {lo so : Bool} {tb : Nat → Nat} {sz : Nat} {id : Int32} {r : RS} (k0 : μ.1 0 = some (ce_Dk lo so)) (hr : rd_r μ tb sz id r) (hk : rok sz r) (htb : ∀ j, tb j < 256) {n : Nat} {ad : Nat → Nat} {nm pr : Nat → List tv} (ht : tr_at μ n ad nm pr) (hsc : sc_at μ) (hgd : ∀ e, e < n → gd (pr e)) : kc_Y kt kC (d + 7) j_Dk_modify [.ref 0] μ (fun v μ' => v = some (.int (nI (opK so (nmS tb (rS tb (nI 4) r).2.2.2.1 (rS tb (nI 4) r).2.2.2.2) (rD (rcF tb true (rS tb (nI 4) r)).1) (fun l => moK n nm pr l (rcF tb true (rS tb (nI 4) r)).2)).1)) ∧ μ'.1 0 = some (ce_Dk lo so) ∧ (∃ r', rd_r μ' tb sz id r' ∧ rok sz r') ∧ tr_at μ' n ad nm (moF pr (opK so (nmS tb (rS tb (nI 4) r).2.2.2.1 (rS tb (nI 4) r).2.2.2.2) (rD (rcF tb true (rS tb (nI 4) r)).1) (fun l => moK n nm pr l (rcF tb true (rS tb (nI 4) r)).2)).2) ∧ (∀ q, q ≠ 1 → q < 5 ∨ 136 ≤ q → μ'.1 q = μ.1 q) ∧ sc_at μ' ∧ tg_at μ' (nmS tb (rS tb (nI 4) r).2.2.2.1 (rS tb (nI 4) r).2.2.2.2)) := by
  refine ⟨Nat.le_of_ble_eq_true rfl, ?_⟩
  refine x_al c_Dk_modify_0 rfl ?_
  refine x_get c_Dk_modify_1 (by first | rfl | exact k0 | exact hr.1 | exact m1 | exact hr1.1 | exact hs9 | exact m2 | exact hs2 | exact hr2.1 | exact m3) rfl ?_
  refine x_ci c_Dk_modify_4 ?_
  refine x_cv1z _ c_Dk_modify_5 (by first | rfl | exact k0 | exact hr.1 | exact m1 | exact hr1.1 | exact hs9 | exact m2 | exact hs2 | exact hr2.1 | exact m3) (Nat.le_of_ble_eq_true rfl) (y_Rd_span (d + 4) hr hk htb (tag := nI 4)) ?_
  rintro _ μ1 ⟨rfl, hr1, f1⟩
  have hk1 := rok_S (tb := tb) (tag := nI 4) hk
  have m1 := (f1 0 (by decide)).trans k0
  have hz := hk.2.2
  have hsc1 : sc_at μ1 := sc_k hsc (fun q h1 h2 => f1 q (by omega))
  have hsc1' := hsc1
  obtain ⟨⟨p9, f9, g9, hs9, _⟩, ⟨c8, vc8, f8, g8, h8, k8, hs8, _⟩, _⟩ := hsc1'
  show kc_X _ _ _ _ _ [] _ _
  refine x_al c_Dk_modify_8 rfl ?_
  refine x_get c_Dk_modify_9 (by first | rfl | exact k0 | exact hr.1 | exact m1 | exact hr1.1 | exact hs9 | exact m2 | exact hs2 | exact hr2.1 | exact m3) rfl ?_
  refine x_al c_Dk_modify_12 rfl ?_
  refine x_get c_Dk_modify_13 (by first | rfl | exact k0 | exact hr.1 | exact m1 | exact hr1.1 | exact hs9 | exact m2 | exact hs2 | exact hr2.1 | exact m3) rfl ?_
  refine x_cv1z _ c_Dk_modify_16 (by first | rfl | exact k0 | exact hr.1 | exact m1 | exact hr1.1 | exact hs9 | exact m2 | exact hs2 | exact hr2.1 | exact m3) (Nat.le_of_ble_eq_true rfl) (y_Nm_readFrom (d + 2) hr1 htb hk1.2.2.1 (by have := hk1.2.2.2.1; omega) hsc1) ?_
  rintro _ μ2 ⟨rfl, g2, f2⟩
  have m2 := (f2 0 (by decide) (by decide) (by decide)).trans m1
  have hr2 : rd_r μ2 tb sz id (rS tb (nI 4) r) := ⟨(f2 1 (by decide) (by decide) (by decide)).trans hr1.1, (f2 2 (by decide) (by decide) (by decide)).trans hr1.2⟩
  have hsc2 : sc_at μ2 := sc_tg hsc1 g2 (fun q h1 h2 => f2 q (by omega) (by omega) (by omega))
  have hs2 := (f2 122 (by decide) (by decide) (by decide)).trans hs8
  show kc_X _ _ _ _ _ [] _ _
  refine x_al c_Dk_modify_19 rfl ?_
  refine x_get c_Dk_modify_20 (by first | rfl | exact k0 | exact hr.1 | exact m1 | exact hr1.1 | exact hs9 | exact m2 | exact hs2 | exact hr2.1 | exact m3) rfl ?_
  refine x_al c_Dk_modify_23 rfl ?_
  refine x_get c_Dk_modify_24 (by first | rfl | exact k0 | exact hr.1 | exact m1 | exact hr1.1 | exact hs9 | exact m2 | exact hs2 | exact hr2.1 | exact m3) rfl ?_
  refine x_ci c_Dk_modify_27 ?_
  refine x_cv2z _ c_Dk_modify_28 (by first | rfl | exact k0 | exact hr.1 | exact m1 | exact hr1.1 | exact hs9 | exact m2 | exact hs2 | exact hr2.1 | exact m3) (Nat.le_of_ble_eq_true rfl) (y_Ch_readFrom (d + 1) hr2 hk1.1 htb hsc2 true) ?_
  rintro _ μ3 ⟨rfl, hr3, hk3, ⟨kf, tf, ef, vf, hA3, hL3⟩, h12, h24, f3⟩
  have m3 := (f3 0 (by decide) (by decide)).trans m2
  have g3 := tg_k g2 (μ' := μ3) (fun q h1 h2 => f3 q (by omega) (by omega))
  have hsc3 : sc_at μ3 := sc_ch hsc2 hA3 (fun q h1 h2 h3 => f3 q (by omega) h2)
  have ff : ∀ q, q ≠ 1 → q < 119 ∨ 136 ≤ q → μ3.1 q = μ.1 q := fun q q1 q2 => (f3 q q1 (by omega)).trans ((f2 q (by omega) (by omega) (by omega)).trans (f1 q q1))
  have ht3 := tr_k ht (μ' := μ3) (fun q h1 h2 => ff q (by omega) (by omega))
  generalize (nmS tb (rS tb (nI 4) r).2.2.2.1 (rS tb (nI 4) r).2.2.2.2) = o at g3 ⊢
  generalize (rcF tb true (rS tb (nI 4) r)).2 = cs at hA3 hL3 h12 h24 ⊢
  generalize (rcF tb true (rS tb (nI 4) r)).1 = x3 at hr3 hk3 ⊢
  show kc_X _ _ _ _ _ [] _ _
  refine x_al c_Dk_modify_31 rfl ?_
  refine x_cv0z _ c_Dk_modify_32 (by first | rfl | exact k0 | exact hr.1 | exact m1 | exact hr1.1 | exact hs9 | exact m2 | exact hs2 | exact hr2.1 | exact m3) (Nat.le_of_ble_eq_true rfl) (y_Dk_changingCode (d + 4) m3 hr3 hk3 htb g3) ?_
  rintro _ μx ⟨rfl, hμx⟩
  have hμx := hμx.symm
  subst hμx
  show kc_X _ _ _ _ _ [.int (nI (chC so o (rD x3)))] _ _
  have hc64 := chC_lt (so := so) (o := o) (ok := rD x3)
  generalize hcc : chC so o (rD x3) = cc at hc64 ⊢
  refine x_is [_, _, _] c_Dk_modify_35 rfl ?_
  refine x_il c_Dk_modify_36 rfl ?_
  refine x_ifN_eq c_Dk_modify_37 (by omega) (fun h37 => ?_) (fun h37 => ?_)
  · subst h37
    obtain ⟨l, rfl, hl1⟩ := chC_z hcc
    have hD : opK so (some l) (rD x3) (fun l => moK n nm pr l cs) = moK n nm pr l cs := by unfold opK; rw [if_pos hcc]; rfl
    rw [hD]
    have g3 : nm_at μ3 119 120 121 l := g3
    have h4 : l.length ≤ 4 := by obtain ⟨_, _, _, _, _, _, h⟩ := g3; exact h
    have hs3 := nm_c g3
    have hsc3' := hsc3
    obtain ⟨_, _, _, _, ⟨dn0, df, dg, hd1, hd2, hd3⟩⟩ := hsc3'
    cases hfd : fd nm l n 0 with
    | none =>
      refine x_al c_Dk_modify_42 rfl ?_
      refine x_get c_Dk_modify_43 (by first | rfl | exact m3 | exact hs3 | exact ht3.1) rfl ?_
      refine x_al c_Dk_modify_46 rfl ?_
      refine x_get c_Dk_modify_47 (by first | rfl | exact m3 | exact hs3 | exact ht3.1) rfl ?_
      refine x_ci c_Dk_modify_50 ?_
      refine x_cv2z _ c_Dk_modify_51 (by first | rfl | exact m3 | exact hs3 | exact ht3.1) (Nat.le_of_ble_eq_true rfl) (y_Tr_find (d + 4) ht3 g3 h4 (k := 0) (by omega)) ?_
      rintro _ μx ⟨rfl, hμx⟩
      have hμx := hμx.symm
      subst hμx
      show kc_X _ _ _ _ _ [.int (oI (fd nm l n 0))] _ _
      rw [hfd]
      show kc_X _ _ _ _ _ [.int (-1)] _ _
      refine x_is [_, _, _] c_Dk_modify_54 rfl ?_
      refine x_il c_Dk_modify_55 rfl ?_
      refine x_ci c_Dk_modify_56 ?_
      refine x_cm_ne c_Dk_modify_57 (fun h => absurd (rfl) h) (fun _ => ?_)
      refine x_ci c_Dk_modify_60 ?_
      refine x_ri c_Dk_modify_62 ?_
      have hK : moK n nm pr l cs = (32, none) := by unfold moK; rw [hfd]
      rw [hK]
      exact ⟨rfl, m3, ⟨_, hr3, hk3⟩, ht3, (fun q q1 q2 => ff q q1 (by omega)), hsc3, g3⟩
    | some e =>
      have hfi := fd_in hfd
      rw [Nat.zero_add] at hfi
      have ht3' := ht3
      obtain ⟨v1, ⟨rf, v2, v3⟩, v4, v5, v6, v7⟩ := ht3'
      have e0 := v4 e (by omega)
      obtain ⟨j9, j91, j92⟩ := v5 e (by omega)
      have hpr6 : (pr e).length ≤ 6 := by obtain ⟨_, _, _, _, _, _, h⟩ := e0.2.2; exact h
      refine x_al c_Dk_modify_42 rfl ?_
      refine x_get c_Dk_modify_43 (by first | rfl | exact m3 | exact hs3 | exact ht3.1 | exact v2 | exact e0.1 | exact hd1 | exact m4 | exact hA4.1 | exact m5 | exact (pa_c hp5) | exact w1 | exact w2 | exact e5.1 | exact (pa_c e5.2.2)) rfl ?_
      refine x_al c_Dk_modify_46 rfl ?_
      refine x_get c_Dk_modify_47 (by first | rfl | exact m3 | exact hs3 | exact ht3.1 | exact v2 | exact e0.1 | exact hd1 | exact m4 | exact hA4.1 | exact m5 | exact (pa_c hp5) | exact w1 | exact w2 | exact e5.1 | exact (pa_c e5.2.2)) rfl ?_
      refine x_ci c_Dk_modify_50 ?_
      refine x_cv2z _ c_Dk_modify_51 (by first | rfl | exact m3 | exact hs3 | exact ht3.1 | exact v2 | exact e0.1 | exact hd1 | exact m4 | exact hA4.1 | exact m5 | exact (pa_c hp5) | exact w1 | exact w2 | exact e5.1 | exact (pa_c e5.2.2)) (Nat.le_of_ble_eq_true rfl) (y_Tr_find (d + 4) ht3 g3 h4 (k := 0) (by omega)) ?_
      rintro _ μx ⟨rfl, hμx⟩
      have hμx := hμx.symm
      subst hμx
      show kc_X _ _ _ _ _ [.int (oI (fd nm l n 0))] _ _
      rw [hfd]
      show kc_X _ _ _ _ _ [.int (nI e)] _ _
      refine x_is [_, _, _] c_Dk_modify_54 rfl ?_
      refine x_il c_Dk_modify_55 rfl ?_
      refine x_ci c_Dk_modify_56 ?_
      refine x_cm_ne c_Dk_modify_57 (fun _ => ?_) (fun h => absurd h (nI_nm1 (by omega)))
      refine x_al c_Dk_modify_63 rfl ?_
      refine x_get c_Dk_modify_64 (by first | rfl | exact m3 | exact hs3 | exact ht3.1 | exact v2 | exact e0.1 | exact hd1 | exact m4 | exact hA4.1 | exact m5 | exact (pa_c hp5) | exact w1 | exact w2 | exact e5.1 | exact (pa_c e5.2.2)) rfl ?_
      refine x_al c_Dk_modify_67 rfl ?_
      refine x_get c_Dk_modify_68 (by first | rfl | exact m3 | exact hs3 | exact ht3.1 | exact v2 | exact e0.1 | exact hd1 | exact m4 | exact hA4.1 | exact m5 | exact (pa_c hp5) | exact w1 | exact w2 | exact e5.1 | exact (pa_c e5.2.2)) rfl ?_
      refine x_get c_Dk_modify_71 (by first | rfl | exact m3 | exact hs3 | exact ht3.1 | exact v2 | exact e0.1 | exact hd1 | exact m4 | exact hA4.1 | exact m5 | exact (pa_c hp5) | exact w1 | exact w2 | exact e5.1 | exact (pa_c e5.2.2)) rfl ?_
      refine x_il c_Dk_modify_74 rfl ?_
      refine x_aaldN c_Dk_modify_75 (by first | rfl | exact m3 | exact hs3 | exact ht3.1 | exact v2 | exact e0.1 | exact hd1 | exact m4 | exact hA4.1 | exact m5 | exact (pa_c hp5) | exact w1 | exact w2 | exact e5.1 | exact (pa_c e5.2.2)) (by omega) (by omega) (v3 e (by omega)) ?_
      refine x_get c_Dk_modify_76 (by first | rfl | exact m3 | exact hs3 | exact ht3.1 | exact v2 | exact e0.1 | exact hd1 | exact m4 | exact hA4.1 | exact m5 | exact (pa_c hp5) | exact w1 | exact w2 | exact e5.1 | exact (pa_c e5.2.2)) rfl ?_
      refine x_cv1z _ c_Dk_modify_79 (by first | rfl | exact m3 | exact hs3 | exact ht3.1 | exact v2 | exact e0.1 | exact hd1 | exact m4 | exact hA4.1 | exact m5 | exact (pa_c hp5) | exact w1 | exact w2 | exact e5.1 | exact (pa_c e5.2.2)) (Nat.le_of_ble_eq_true rfl) (y_Pa_copyInto (d + 5) hd1 hd2 hd3 e0.2.2 (by omega) (by omega) (by omega) (by omega) (by omega) (by omega) (by omega) (by omega) (by omega) (by omega) (by omega) (by omega) (by omega) (by omega) (by omega)) ?_
      rintro _ μ4 ⟨rfl, hp4, f4⟩
      have m4 := (f4 0 (by decide) (by decide) (by decide)).trans m3
      have hA4 := chA_k hA3 (μ' := μ4) (fun q h1 h2 => f4 q (by omega) (by omega) (by omega))
      show kc_X _ _ _ _ _ [] _ _
      refine x_al c_Dk_modify_82 rfl ?_
      refine x_get c_Dk_modify_83 (by first | rfl | exact m3 | exact hs3 | exact ht3.1 | exact v2 | exact e0.1 | exact hd1 | exact m4 | exact hA4.1 | exact m5 | exact (pa_c hp5) | exact w1 | exact w2 | exact e5.1 | exact (pa_c e5.2.2)) rfl ?_
      refine x_al c_Dk_modify_86 rfl ?_
      refine x_get c_Dk_modify_87 (by first | rfl | exact m3 | exact hs3 | exact ht3.1 | exact v2 | exact e0.1 | exact hd1 | exact m4 | exact hA4.1 | exact m5 | exact (pa_c hp5) | exact w1 | exact w2 | exact e5.1 | exact (pa_c e5.2.2)) rfl ?_
      refine x_cv1z _ c_Dk_modify_90 (by first | rfl | exact m3 | exact hs3 | exact ht3.1 | exact v2 | exact e0.1 | exact hd1 | exact m4 | exact hA4.1 | exact m5 | exact (pa_c hp5) | exact w1 | exact w2 | exact e5.1 | exact (pa_c e5.2.2)) (Nat.le_of_ble_eq_true rfl) (y_Ch_applyTo (d + 2) hA4 hL3 h12 hp4 (hgd e (by omega)) (by omega)) ?_
      rintro _ μ5 ⟨rfl, hp5, f5, hg5, h64⟩
      have m5 := (f5 0 (by decide)).trans m4
      have hsc5 : sc_at μ5 := sc_pa hsc3 hp5 (fun q h1 h2 => (f5 q (by omega)).trans (f4 q (by omega) (by omega) (by omega)))
      have g5 : nm_at μ5 119 120 121 l := nm_k g3 ((f5 119 (by decide)).trans (f4 119 (by decide) (by decide) (by decide))) ((f5 120 (by decide)).trans (f4 120 (by decide) (by decide) (by decide))) ((f5 121 (by decide)).trans (f4 121 (by decide) (by decide) (by decide)))
      have ht5 := tr_k ht3 (μ' := μ5) (fun q h1 h2 => (f5 q (by omega)).trans (f4 q (by omega) (by omega) (by omega)))
      have hpl : (apl cs (pr e)).2.length ≤ 30 := by obtain ⟨_, _, _, _, _, _, h⟩ := hp5; exact h
      have ht5' := ht5
      obtain ⟨w1, ⟨rf5, w2, w3⟩, w4, w5, w6, w7⟩ := ht5'
      have e5 := w4 e (by omega)
      generalize hB : ad e = A at e5 e0
      have w3e : rf5 e = some A := by rw [w3 e (by omega), hB]
      show kc_X _ _ _ _ _ [.int (nI (apl cs (pr e)).1)] _ _
      refine x_is [_, _, _] c_Dk_modify_93 rfl ?_
      refine x_il c_Dk_modify_94 rfl ?_
      refine x_ifN_eq c_Dk_modify_95 (by omega) (fun h95 => ?_) (fun h95 => ?_)
      · refine x_al c_Dk_modify_100 rfl ?_
        refine x_get c_Dk_modify_101 (by first | rfl | exact m3 | exact hs3 | exact ht3.1 | exact v2 | exact e0.1 | exact hd1 | exact m4 | exact hA4.1 | exact m5 | exact (pa_c hp5) | exact w1 | exact w2 | exact e5.1 | exact (pa_c e5.2.2)) rfl ?_
        refine x_al c_Dk_modify_104 rfl ?_
        refine x_get c_Dk_modify_105 (by first | rfl | exact m3 | exact hs3 | exact ht3.1 | exact v2 | exact e0.1 | exact hd1 | exact m4 | exact hA4.1 | exact m5 | exact (pa_c hp5) | exact w1 | exact w2 | exact e5.1 | exact (pa_c e5.2.2)) rfl ?_
        refine x_cv1z _ c_Dk_modify_108 (by first | rfl | exact m3 | exact hs3 | exact ht3.1 | exact v2 | exact e0.1 | exact hd1 | exact m4 | exact hA4.1 | exact m5 | exact (pa_c hp5) | exact w1 | exact w2 | exact e5.1 | exact (pa_c e5.2.2)) (Nat.le_of_ble_eq_true rfl) (y_Pa_hasOwnPartOf (d + 4) hp5 (by omega) g5 hl1 (hdp_0 hl1)) ?_
        rintro _ μx ⟨rfl, hμx⟩
        have hμx := hμx.symm
        subst hμx
        show kc_X _ _ _ _ _ [.int (bI (decide (hdp l ∈ (apl cs (pr e)).2)))] _ _
        refine x_ifB_ne c_Dk_modify_111 (fun h111 => ?_) (fun h111 => ?_)
        · refine x_al c_Dk_modify_117 rfl ?_
          refine x_get c_Dk_modify_118 (by first | rfl | exact m3 | exact hs3 | exact ht3.1 | exact v2 | exact e0.1 | exact hd1 | exact m4 | exact hA4.1 | exact m5 | exact (pa_c hp5) | exact w1 | exact w2 | exact e5.1 | exact (pa_c e5.2.2)) rfl ?_
          refine x_get c_Dk_modify_121 (by first | rfl | exact m3 | exact hs3 | exact ht3.1 | exact v2 | exact e0.1 | exact hd1 | exact m4 | exact hA4.1 | exact m5 | exact (pa_c hp5) | exact w1 | exact w2 | exact e5.1 | exact (pa_c e5.2.2)) rfl ?_
          refine x_ci c_Dk_modify_124 ?_
          refine x_cmN_le c_Dk_modify_126 (by omega) (by omega) (fun h126 => ?_) (fun h126 => ?_)
          · refine x_al c_Dk_modify_132 rfl ?_
            refine x_get c_Dk_modify_133 (by first | rfl | exact m3 | exact hs3 | exact ht3.1 | exact v2 | exact e0.1 | exact hd1 | exact m4 | exact hA4.1 | exact m5 | exact (pa_c hp5) | exact w1 | exact w2 | exact e5.1 | exact (pa_c e5.2.2)) rfl ?_
            refine x_get c_Dk_modify_136 (by first | rfl | exact m3 | exact hs3 | exact ht3.1 | exact v2 | exact e0.1 | exact hd1 | exact m4 | exact hA4.1 | exact m5 | exact (pa_c hp5) | exact w1 | exact w2 | exact e5.1 | exact (pa_c e5.2.2)) rfl ?_
            refine x_il c_Dk_modify_139 rfl ?_
            refine x_aaldN c_Dk_modify_140 (by first | rfl | exact m3 | exact hs3 | exact ht3.1 | exact v2 | exact e0.1 | exact hd1 | exact m4 | exact hA4.1 | exact m5 | exact (pa_c hp5) | exact w1 | exact w2 | exact e5.1 | exact (pa_c e5.2.2)) (by omega) (by omega) w3e ?_
            refine x_get c_Dk_modify_141 (by first | rfl | exact m3 | exact hs3 | exact ht3.1 | exact v2 | exact e0.1 | exact hd1 | exact m4 | exact hA4.1 | exact m5 | exact (pa_c hp5) | exact w1 | exact w2 | exact e5.1 | exact (pa_c e5.2.2)) rfl ?_
            refine x_al c_Dk_modify_144 rfl ?_
            refine x_get c_Dk_modify_145 (by first | rfl | exact m3 | exact hs3 | exact ht3.1 | exact v2 | exact e0.1 | exact hd1 | exact m4 | exact hA4.1 | exact m5 | exact (pa_c hp5) | exact w1 | exact w2 | exact e5.1 | exact (pa_c e5.2.2)) rfl ?_
            obtain ⟨k9, k91, k92⟩ := w5 e (by omega)
            rw [hB] at k92
            refine x_cv1z _ c_Dk_modify_148 (by first | rfl | exact m3 | exact hs3 | exact ht3.1 | exact v2 | exact e0.1 | exact hd1 | exact m4 | exact hA4.1 | exact m5 | exact (pa_c hp5) | exact w1 | exact w2 | exact e5.1 | exact (pa_c e5.2.2)) (Nat.le_of_ble_eq_true rfl) (y_Pa_copyFrom (d + 5) e5.2.2 hp5 (by omega) (by omega) (by omega) (by omega) (by omega) (by omega) (by omega) (by omega) (by omega) (by omega) (by omega) (by omega) (by omega) (by omega) (by omega)) ?_
            rintro _ μ6 ⟨rfl, hp6, f6⟩
            show kc_X _ _ _ _ _ [] _ _
            refine x_ci c_Dk_modify_151 ?_
            refine x_ri c_Dk_modify_152 ?_
            have hK : moK n nm pr l cs = (0, some (e, (apl cs (pr e)).2)) := by unfold moK; rw [hfd]; dsimp only; rw [if_pos h95, if_pos (of_decide_eq_true h111), if_neg (by omega)]
            rw [hK]
            have fr5h : ∀ q, q ≠ 1 → q < 5 ∨ 136 ≤ q → μ5.1 q = μ.1 q := (fun q q1 q2 => (f5 q (by omega)).trans ((f4 q (by omega) (by omega) (by omega)).trans (ff q q1 (by omega))))
            refine ⟨rfl, (f6 0 (by omega) (by omega) (by omega)).trans m5, ⟨_, ⟨(f6 1 (by omega) (by omega) (by omega)).trans ((f5 1 (by decide)).trans ((f4 1 (by decide) (by decide) (by decide)).trans hr3.1)), (f6 2 (by omega) (by omega) (by omega)).trans ((f5 2 (by decide)).trans ((f4 2 (by decide) (by decide) (by decide)).trans hr3.2))⟩, hk3⟩, ⟨(f6 5 (by omega) (by omega) (by omega)).trans w1, ⟨rf5, (f6 6 (by omega) (by omega) (by omega)).trans w2, w3⟩, fun i hi => ?_, w5, w6, w7⟩, (fun q q1 q2 => (f6 q (by omega) (by omega) (by omega)).trans (fr5h q q1 q2)), sc_k hsc5 (fun q h1 h2 => f6 q (by omega) (by omega) (by omega)), nm_k g5 (f6 119 (by omega) (by omega) (by omega)) (f6 120 (by omega) (by omega) (by omega)) (f6 121 (by omega) (by omega) (by omega))⟩
            show en_l μ6 (ad i) (nm i) (if i = e then (apl cs (pr e)).2 else pr i)
            by_cases hie : i = e
            · rw [if_pos hie, hie, hB]
              exact ⟨(f6 _ (by omega) (by omega) (by omega)).trans e5.1, nm_k e5.2.1 (f6 _ (by omega) (by omega) (by omega)) (f6 _ (by omega) (by omega) (by omega)) (f6 _ (by omega) (by omega) (by omega)), hp6⟩
            · rw [if_neg hie]
              obtain ⟨k8, k81, k82⟩ := w5 i hi
              have hne : k8 ≠ k9 := fun q => hie (w6 i e hi (by omega) (by rw [k82, hB, k92, q]))
              exact en_k (w4 i hi) (fun q q1 q2 => f6 q (by omega) (by omega) (by omega))
          · refine x_ci c_Dk_modify_129 ?_
            refine x_ri c_Dk_modify_131 ?_
            have hK : moK n nm pr l cs = (53, none) := by unfold moK; rw [hfd]; dsimp only; rw [if_pos h95, if_pos (of_decide_eq_true h111), if_pos (by omega)]
            rw [hK]
            exact ⟨rfl, m5, ⟨_, ⟨(f5 1 (by decide)).trans ((f4 1 (by decide) (by decide) (by decide)).trans hr3.1), (f5 2 (by decide)).trans ((f4 2 (by decide) (by decide) (by decide)).trans hr3.2)⟩, hk3⟩, ht5, (fun q q1 q2 => (f5 q (by omega)).trans ((f4 q (by omega) (by omega) (by omega)).trans (ff q q1 (by omega)))), hsc5, g5⟩
        · refine x_ci c_Dk_modify_114 ?_
          refine x_ri c_Dk_modify_116 ?_
          have hK : moK n nm pr l cs = (67, none) := by unfold moK; rw [hfd]; dsimp only; rw [if_pos h95, if_neg (of_decide_eq_false h111)]
          rw [hK]
          exact ⟨rfl, m5, ⟨_, ⟨(f5 1 (by decide)).trans ((f4 1 (by decide) (by decide) (by decide)).trans hr3.1), (f5 2 (by decide)).trans ((f4 2 (by decide) (by decide) (by decide)).trans hr3.2)⟩, hk3⟩, ht5, (fun q q1 q2 => (f5 q (by omega)).trans ((f4 q (by omega) (by omega) (by omega)).trans (ff q q1 (by omega)))), hsc5, g5⟩
      · refine x_il c_Dk_modify_98 rfl ?_
        refine x_ri c_Dk_modify_99 ?_
        have hK : moK n nm pr l cs = ((apl cs (pr e)).1, none) := by unfold moK; rw [hfd]; dsimp only; rw [if_neg h95]
        rw [hK]
        exact ⟨rfl, m5, ⟨_, ⟨(f5 1 (by decide)).trans ((f4 1 (by decide) (by decide) (by decide)).trans hr3.1), (f5 2 (by decide)).trans ((f4 2 (by decide) (by decide) (by decide)).trans hr3.2)⟩, hk3⟩, ht5, (fun q q1 q2 => (f5 q (by omega)).trans ((f4 q (by omega) (by omega) (by omega)).trans (ff q q1 (by omega)))), hsc5, g5⟩
  · refine x_il c_Dk_modify_40 rfl ?_
    refine x_ri c_Dk_modify_41 ?_
    have hD : opK so o (rD x3) (fun l => moK n nm pr l cs) = (cc, none) := by unfold opK; rw [hcc, if_neg h37]
    rw [hD]
    exact ⟨rfl, m3, ⟨_, hr3, hk3⟩, ht3, (fun q q1 q2 => ff q q1 (by omega)), hsc3, g3⟩
