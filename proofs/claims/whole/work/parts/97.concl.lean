/-! what comes last in every answer -/
/-- the name of the nearest entry above -/
def naL (nm : Nat → List tv) (l : List tv) (n : Nat) : List tv := match fu nm l n (l.length - 1) 1 with
  | some (_, e) => nm e
  | none => []
def cB (k dn code : Nat) (X : List tv) : List Int32 := eb (nI 48) (eb (nI 2) (idB k) ++ eb (nI dn) (eb (nI 10) [nI code] ++ (eb (nI 4) (nB X) ++ eb (nI 4) [])))
theorem cB_len (k dn code : Nat) {X : List tv} (hX : X.length ≤ 4) : (cB k dn code X).length ≤ 61 := by
  have h1 := idB_len k
  have h2 := nB_len X
  unfold cB
  simp only [eb, List.length_append, List.length_cons, List.length_nil]
  omega
theorem fu_in {nm : Nat → List tv} {l : List tv} {n : Nat} : ∀ (m k : Nat) {i e : Nat}, fu nm l n m k = some (i, e) → k ≤ i ∧ i < k + m ∧ fd nm (l.drop i) n 0 = some e
  | 0, k, i, e, h => by cases h
  | m + 1, k, i, e, h => by
    rw [fu_s] at h
    split at h
    · rename_i e' he
      cases h
      exact ⟨Nat.le_refl _, by omega, he⟩
    · obtain ⟨a, b, c⟩ := fu_in m (k + 1) h
      exact ⟨by omega, by omega, c⟩
theorem naL_s {nm : Nat → List tv} {l : List tv} {n i e : Nat} (h : fu nm l n (l.length - 1) 1 = some (i, e)) : naL nm l n = nm e := by unfold naL; rw [h]
theorem naL_n {nm : Nat → List tv} {l : List tv} {n : Nat} (h : fu nm l n (l.length - 1) 1 = none) : naL nm l n = [] := by unfold naL; rw [h]
set_option maxRecDepth 100000 in
set_option maxHeartbeats 4000000 in
theorem y_Dk_conclude (d : Nat) {μ : kc_M} {lo so : Bool} {sz at_ en : Nat} {wr : Bool} {k : Nat} {sf st : Nat} (k0 : μ.1 0 = some (ce_Dk lo so)) (k1 : μ.1 1 = some (ce_Rd sz at_ en wr (nI k) sf st)) (hk : k < 2 ^ 31) {n : Nat} {ad : Nat → Nat} {nm pr : Nat → List tv} (ht : tr_at μ n ad nm pr) {o : Option (List tv)} (htg : tg_at μ o) {dn code : Nat} (hc : code < 256) (ho : code = 32 → ∃ l, o = some l) {L : List Int32} (h : wL μ L) (hL : L.length + 61 ≤ 460) : kc_Y kt kC (d + 4) j_Dk_conclude [.ref 0, .int (nI dn), .int (nI code)] μ (fun v μ' => v = none ∧ wC μ μ' (L ++ cB k dn code (if code = 32 then naL nm (o.getD []) n else []))) := by
  refine ⟨Nat.le_of_ble_eq_true rfl, ?_⟩
  have cc := wC.re h
  have hid := idB_len k
  by_cases h32 : code = 32
  · obtain ⟨l, rfl⟩ := ho h32
    rw [if_pos h32]
    show kc_X _ _ (fun v μ' => v = none ∧ wC μ μ' (L ++ cB k dn code (naL nm l n))) _ _ _ _ _
    have hl4 : l.length ≤ 4 := by obtain ⟨_, _, _, _, _, _, h9⟩ := htg; exact h9
    cases hfu : fu nm l n (l.length - 1) 1 with
    | none =>
      rw [naL_n hfu]
      refine x_al c_Dk_conclude_0 rfl ?_
      refine x_get c_Dk_conclude_1 (by first | rfl | exact k0 | exact k1 | exact cc.o | exact t1 | exact t2 | exact (nm_c htg)) rfl ?_
      refine x_ci c_Dk_conclude_4 ?_
      refine x_cv1z _ c_Dk_conclude_6 (by first | rfl | exact k0 | exact k1 | exact cc.o | exact t1 | exact t2 | exact (nm_c htg)) (Nat.le_of_ble_eq_true rfl) (y_Wr_begin (d + 1) cc.1 (by first | omega | (simp only [eb, List.length_append, List.length_cons, List.length_nil]; omega))) ?_
      rintro _ μ1 ⟨rfl, c1⟩
      have cc := cc.to c1
      have k0 := (c1.2 0 (by decide) (by decide)).trans k0
      have k1 := (c1.2 1 (by decide) (by decide)).trans k1
      show kc_X _ _ _ _ _ [.int (nI (L.length + 2))] _ _
      refine x_is [_, _, _, _, _, _, _] c_Dk_conclude_9 rfl ?_
      refine x_al c_Dk_conclude_10 rfl ?_
      refine x_get c_Dk_conclude_11 (by first | rfl | exact k0 | exact k1 | exact cc.o | exact t1 | exact t2 | exact (nm_c htg)) rfl ?_
      refine x_al c_Dk_conclude_14 rfl ?_
      refine x_get c_Dk_conclude_15 (by first | rfl | exact k0 | exact k1 | exact cc.o | exact t1 | exact t2 | exact (nm_c htg)) rfl ?_
      refine x_get c_Dk_conclude_18 (by first | rfl | exact k0 | exact k1 | exact cc.o | exact t1 | exact t2 | exact (nm_c htg)) rfl ?_
      refine x_cv1z _ c_Dk_conclude_21 (by first | rfl | exact k0 | exact k1 | exact cc.o | exact t1 | exact t2 | exact (nm_c htg)) (Nat.le_of_ble_eq_true rfl) (y_Wr_number d cc.1 (by first | omega | (simp only [eb, List.length_append, List.length_cons, List.length_nil]; omega)) hk) ?_
      rintro _ μ2 ⟨rfl, c2⟩
      have cc := cc.to c2
      have k0 := (c2.2 0 (by decide) (by decide)).trans k0
      have k1 := (c2.2 1 (by decide) (by decide)).trans k1
      show kc_X _ _ _ _ _ [] _ _
      refine x_al c_Dk_conclude_24 rfl ?_
      refine x_get c_Dk_conclude_25 (by first | rfl | exact k0 | exact k1 | exact cc.o | exact t1 | exact t2 | exact (nm_c htg)) rfl ?_
      refine x_il c_Dk_conclude_28 rfl ?_
      refine x_cv1z _ c_Dk_conclude_29 (by first | rfl | exact k0 | exact k1 | exact cc.o | exact t1 | exact t2 | exact (nm_c htg)) (Nat.le_of_ble_eq_true rfl) (y_Wr_begin (d + 1) cc.1 (by first | omega | (simp only [eb, List.length_append, List.length_cons, List.length_nil]; omega))) ?_
      rintro _ μ3 ⟨rfl, c3⟩
      have cc := cc.to c3
      have k0 := (c3.2 0 (by decide) (by decide)).trans k0
      have k1 := (c3.2 1 (by decide) (by decide)).trans k1
      show kc_X _ _ _ _ _ [.int (nI (((L ++ [nI 48, nI 0]) ++ eb (nI 2) (idB k)).length + 2))] _ _
      refine x_is [_, _, _, _, _, _, _] c_Dk_conclude_32 rfl ?_
      refine x_al c_Dk_conclude_34 rfl ?_
      refine x_get c_Dk_conclude_35 (by first | rfl | exact k0 | exact k1 | exact cc.o | exact t1 | exact t2 | exact (nm_c htg)) rfl ?_
      refine x_ci c_Dk_conclude_38 ?_
      refine x_cv1z _ c_Dk_conclude_40 (by first | rfl | exact k0 | exact k1 | exact cc.o | exact t1 | exact t2 | exact (nm_c htg)) (Nat.le_of_ble_eq_true rfl) (y_Wr_begin (d + 1) cc.1 (by first | omega | (simp only [eb, List.length_append, List.length_cons, List.length_nil]; omega))) ?_
      rintro _ μ4 ⟨rfl, c4⟩
      have cc := cc.to c4
      have k0 := (c4.2 0 (by decide) (by decide)).trans k0
      have k1 := (c4.2 1 (by decide) (by decide)).trans k1
      show kc_X _ _ _ _ _ [.int (nI ((((L ++ [nI 48, nI 0]) ++ eb (nI 2) (idB k)) ++ [nI dn, nI 0]).length + 2))] _ _
      refine x_is [_, _, _, _, _, _, _] c_Dk_conclude_43 rfl ?_
      refine x_al c_Dk_conclude_45 rfl ?_
      refine x_get c_Dk_conclude_46 (by first | rfl | exact k0 | exact k1 | exact cc.o | exact t1 | exact t2 | exact (nm_c htg)) rfl ?_
      refine x_il c_Dk_conclude_49 rfl ?_
      refine x_cv1z _ c_Dk_conclude_50 (by first | rfl | exact k0 | exact k1 | exact cc.o | exact t1 | exact t2 | exact (nm_c htg)) (Nat.le_of_ble_eq_true rfl) (y_Wr_put (d + 2) cc.1 (by first | omega | (simp only [eb, List.length_append, List.length_cons, List.length_nil]; omega))) ?_
      rintro _ μ5 ⟨rfl, c5⟩
      have cc := cc.to c5
      have k0 := (c5.2 0 (by decide) (by decide)).trans k0
      have k1 := (c5.2 1 (by decide) (by decide)).trans k1
      show kc_X _ _ _ _ _ [] _ _
      refine x_al c_Dk_conclude_53 rfl ?_
      refine x_get c_Dk_conclude_54 (by first | rfl | exact k0 | exact k1 | exact cc.o | exact t1 | exact t2 | exact (nm_c htg)) rfl ?_
      refine x_il c_Dk_conclude_57 rfl ?_
      refine x_cv1z _ c_Dk_conclude_59 (by first | rfl | exact k0 | exact k1 | exact cc.o | exact t1 | exact t2 | exact (nm_c htg)) (Nat.le_of_ble_eq_true rfl) (y_Wr_finish (d + 2) (L := (((L ++ [nI 48, nI 0]) ++ eb (nI 2) (idB k)) ++ [nI dn, nI 0])) (X := [nI code]) (t := nI 10) (z := nI 0) (by simp only [eb, nB, List.append_assoc, List.cons_append, List.nil_append, List.length_nil]) cc.1) ?_
      rintro _ μ6 ⟨rfl, c6⟩
      have cc := cc.to c6
      have k0 := (c6.2 0 (by decide) (by decide)).trans k0
      have k1 := (c6.2 1 (by decide) (by decide)).trans k1
      have ht := tr_k ht (fun q h1 h2 => cc.2 q (by omega) (by omega))
      have htg := tg_k htg (fun q h1 h2 => cc.2 q (by omega) (by omega))
      obtain ⟨t1, ⟨rf, t2, t3⟩, t4, t5, t6, t7⟩ := id ht
      show kc_X _ _ _ _ _ [] _ _
      refine x_il c_Dk_conclude_62 rfl ?_
      refine x_ci c_Dk_conclude_63 ?_
      refine x_cmN_ne c_Dk_conclude_65 (by omega) (by omega) (fun h => (by exfalso; omega)) (fun _ => ?_)
      refine x_al c_Dk_conclude_68 rfl ?_
      refine x_get c_Dk_conclude_69 (by first | rfl | exact k0 | exact k1 | exact cc.o | exact t1 | exact t2 | exact (nm_c htg)) rfl ?_
      refine x_al c_Dk_conclude_72 rfl ?_
      refine x_get c_Dk_conclude_73 (by first | rfl | exact k0 | exact k1 | exact cc.o | exact t1 | exact t2 | exact (nm_c htg)) rfl ?_
      refine x_cv1z _ c_Dk_conclude_76 (by first | rfl | exact k0 | exact k1 | exact cc.o | exact t1 | exact t2 | exact (nm_c htg)) (Nat.le_of_ble_eq_true rfl) (y_Tr_findNearestAbove d ht htg hl4) ?_
      rintro _ μx ⟨rfl, hμx⟩
      have hμx := hμx.symm
      subst hμx
      show kc_X _ _ _ _ _ [.int (oI ((fu nm l n (l.length - 1) 1).map (·.2)))] _ _
      rw [hfu]
      show kc_X _ _ _ _ _ [.int (-1)] _ _
      refine x_goto c_Dk_conclude_79 ?_
      refine x_is [_, _, _, _, _, _, _] c_Dk_conclude_83 rfl ?_
      refine x_il c_Dk_conclude_85 rfl ?_
      refine x_ci c_Dk_conclude_87 ?_
      refine x_cm_ne c_Dk_conclude_88 (fun h => absurd (rfl) h) (fun _ => ?_)
      refine x_al c_Dk_conclude_91 rfl ?_
      refine x_get c_Dk_conclude_92 (by first | rfl | exact k0 | exact k1 | exact cc.o | exact t1 | exact t2 | exact (nm_c htg)) rfl ?_
      refine x_ci c_Dk_conclude_95 ?_
      refine x_cv1z _ c_Dk_conclude_96 (by first | rfl | exact k0 | exact k1 | exact cc.o | exact t1 | exact t2 | exact (nm_c htg)) (Nat.le_of_ble_eq_true rfl) (y_Wr_begin (d + 1) cc.1 (by first | omega | (simp only [eb, List.length_append, List.length_cons, List.length_nil]; omega))) ?_
      rintro _ μ7 ⟨rfl, c7⟩
      have cc := cc.to c7
      have k0 := (c7.2 0 (by decide) (by decide)).trans k0
      have k1 := (c7.2 1 (by decide) (by decide)).trans k1
      show kc_X _ _ _ _ _ [.int (nI (((((L ++ [nI 48, nI 0]) ++ eb (nI 2) (idB k)) ++ [nI dn, nI 0]) ++ eb (nI 10) [nI code]).length + 2))] _ _
      refine x_pop c_Dk_conclude_99 rfl ?_
      refine x_goto c_Dk_conclude_100 ?_
      refine x_al c_Dk_conclude_123 rfl ?_
      refine x_get c_Dk_conclude_124 (by first | rfl | exact k0 | exact k1 | exact cc.o | exact t1 | exact t2 | exact (nm_c htg)) rfl ?_
      refine x_ci c_Dk_conclude_127 ?_
      refine x_cv1z _ c_Dk_conclude_128 (by first | rfl | exact k0 | exact k1 | exact cc.o | exact t1 | exact t2 | exact (nm_c htg)) (Nat.le_of_ble_eq_true rfl) (y_Wr_begin (d + 1) cc.1 (by first | omega | (simp only [eb, List.length_append, List.length_cons, List.length_nil]; omega))) ?_
      rintro _ μ8 ⟨rfl, c8⟩
      have cc := cc.to c8
      have k0 := (c8.2 0 (by decide) (by decide)).trans k0
      have k1 := (c8.2 1 (by decide) (by decide)).trans k1
      show kc_X _ _ _ _ _ [.int (nI ((((((L ++ [nI 48, nI 0]) ++ eb (nI 2) (idB k)) ++ [nI dn, nI 0]) ++ eb (nI 10) [nI code]) ++ eb (nI 4) (nB [])).length + 2))] _ _
      refine x_pop c_Dk_conclude_131 rfl ?_
      refine x_al c_Dk_conclude_132 rfl ?_
      refine x_get c_Dk_conclude_133 (by first | rfl | exact k0 | exact k1 | exact cc.o | exact t1 | exact t2 | exact (nm_c htg)) rfl ?_
      refine x_il c_Dk_conclude_136 rfl ?_
      refine x_cv1z _ c_Dk_conclude_138 (by first | rfl | exact k0 | exact k1 | exact cc.o | exact t1 | exact t2 | exact (nm_c htg)) (Nat.le_of_ble_eq_true rfl) (y_Wr_finish (d + 2) (L := ((L ++ [nI 48, nI 0]) ++ eb (nI 2) (idB k))) (X := eb (nI 10) [nI code] ++ (eb (nI 4) (nB []) ++ eb (nI 4) [])) (t := nI dn) (z := nI 0) (by simp only [eb, nB, List.append_assoc, List.cons_append, List.nil_append, List.length_nil]) cc.1) ?_
      rintro _ μ9 ⟨rfl, c9⟩
      have cc := cc.to c9
      have k0 := (c9.2 0 (by decide) (by decide)).trans k0
      have k1 := (c9.2 1 (by decide) (by decide)).trans k1
      show kc_X _ _ _ _ _ [] _ _
      refine x_al c_Dk_conclude_141 rfl ?_
      refine x_get c_Dk_conclude_142 (by first | rfl | exact k0 | exact k1 | exact cc.o | exact t1 | exact t2 | exact (nm_c htg)) rfl ?_
      refine x_il c_Dk_conclude_145 rfl ?_
      refine x_cv1z _ c_Dk_conclude_146 (by first | rfl | exact k0 | exact k1 | exact cc.o | exact t1 | exact t2 | exact (nm_c htg)) (Nat.le_of_ble_eq_true rfl) (y_Wr_finish (d + 2) (L := L) (X := eb (nI 2) (idB k) ++ eb (nI dn) (eb (nI 10) [nI code] ++ (eb (nI 4) (nB []) ++ eb (nI 4) []))) (t := nI 48) (z := nI 0) (by simp only [eb, nB, List.append_assoc, List.cons_append, List.nil_append, List.length_nil]) cc.1) ?_
      rintro _ μ10 ⟨rfl, c10⟩
      have cc := cc.to c10
      have k0 := (c10.2 0 (by decide) (by decide)).trans k0
      have k1 := (c10.2 1 (by decide) (by decide)).trans k1
      show kc_X _ _ _ _ _ [] _ _
      refine x_ret c_Dk_conclude_149 ?_
      exact ⟨rfl, cc⟩
    | some ie =>
      obtain ⟨i, e⟩ := ie
      rw [naL_s hfu]
      have hfe := fu_in _ _ hfu
      have hfd := fd_in hfe.2.2
      have hn16 : n ≤ 16 := ht.2.2.2.2.2
      have he : e < n := by omega
      have hne4 : (nm e).length ≤ 4 := by obtain ⟨_, _, _, _, _, _, h9⟩ := (ht.2.2.1 e (by omega)).2.1; exact h9
      have hnb := nB_len (nm e)
      obtain ⟨ka, hka, hae⟩ := ht.2.2.2.1 e (by omega)
      refine x_al c_Dk_conclude_0 rfl ?_
      refine x_get c_Dk_conclude_1 (by first | rfl | exact k0 | exact k1 | exact cc.o | exact t1 | exact t2 | exact (nm_c htg) | exact e0.1 | exact (nm_c e0.2.1)) rfl ?_
      refine x_ci c_Dk_conclude_4 ?_
      refine x_cv1z _ c_Dk_conclude_6 (by first | rfl | exact k0 | exact k1 | exact cc.o | exact t1 | exact t2 | exact (nm_c htg) | exact e0.1 | exact (nm_c e0.2.1)) (Nat.le_of_ble_eq_true rfl) (y_Wr_begin (d + 1) cc.1 (by first | omega | (simp only [eb, List.length_append, List.length_cons, List.length_nil]; omega))) ?_
      rintro _ μ1 ⟨rfl, c1⟩
      have cc := cc.to c1
      have k0 := (c1.2 0 (by decide) (by decide)).trans k0
      have k1 := (c1.2 1 (by decide) (by decide)).trans k1
      show kc_X _ _ _ _ _ [.int (nI (L.length + 2))] _ _
      refine x_is [_, _, _, _, _, _, _] c_Dk_conclude_9 rfl ?_
      refine x_al c_Dk_conclude_10 rfl ?_
      refine x_get c_Dk_conclude_11 (by first | rfl | exact k0 | exact k1 | exact cc.o | exact t1 | exact t2 | exact (nm_c htg) | exact e0.1 | exact (nm_c e0.2.1)) rfl ?_
      refine x_al c_Dk_conclude_14 rfl ?_
      refine x_get c_Dk_conclude_15 (by first | rfl | exact k0 | exact k1 | exact cc.o | exact t1 | exact t2 | exact (nm_c htg) | exact e0.1 | exact (nm_c e0.2.1)) rfl ?_
      refine x_get c_Dk_conclude_18 (by first | rfl | exact k0 | exact k1 | exact cc.o | exact t1 | exact t2 | exact (nm_c htg) | exact e0.1 | exact (nm_c e0.2.1)) rfl ?_
      refine x_cv1z _ c_Dk_conclude_21 (by first | rfl | exact k0 | exact k1 | exact cc.o | exact t1 | exact t2 | exact (nm_c htg) | exact e0.1 | exact (nm_c e0.2.1)) (Nat.le_of_ble_eq_true rfl) (y_Wr_number d cc.1 (by first | omega | (simp only [eb, List.length_append, List.length_cons, List.length_nil]; omega)) hk) ?_
      rintro _ μ2 ⟨rfl, c2⟩
      have cc := cc.to c2
      have k0 := (c2.2 0 (by decide) (by decide)).trans k0
      have k1 := (c2.2 1 (by decide) (by decide)).trans k1
      show kc_X _ _ _ _ _ [] _ _
      refine x_al c_Dk_conclude_24 rfl ?_
      refine x_get c_Dk_conclude_25 (by first | rfl | exact k0 | exact k1 | exact cc.o | exact t1 | exact t2 | exact (nm_c htg) | exact e0.1 | exact (nm_c e0.2.1)) rfl ?_
      refine x_il c_Dk_conclude_28 rfl ?_
      refine x_cv1z _ c_Dk_conclude_29 (by first | rfl | exact k0 | exact k1 | exact cc.o | exact t1 | exact t2 | exact (nm_c htg) | exact e0.1 | exact (nm_c e0.2.1)) (Nat.le_of_ble_eq_true rfl) (y_Wr_begin (d + 1) cc.1 (by first | omega | (simp only [eb, List.length_append, List.length_cons, List.length_nil]; omega))) ?_
      rintro _ μ3 ⟨rfl, c3⟩
      have cc := cc.to c3
      have k0 := (c3.2 0 (by decide) (by decide)).trans k0
      have k1 := (c3.2 1 (by decide) (by decide)).trans k1
      show kc_X _ _ _ _ _ [.int (nI (((L ++ [nI 48, nI 0]) ++ eb (nI 2) (idB k)).length + 2))] _ _
      refine x_is [_, _, _, _, _, _, _] c_Dk_conclude_32 rfl ?_
      refine x_al c_Dk_conclude_34 rfl ?_
      refine x_get c_Dk_conclude_35 (by first | rfl | exact k0 | exact k1 | exact cc.o | exact t1 | exact t2 | exact (nm_c htg) | exact e0.1 | exact (nm_c e0.2.1)) rfl ?_
      refine x_ci c_Dk_conclude_38 ?_
      refine x_cv1z _ c_Dk_conclude_40 (by first | rfl | exact k0 | exact k1 | exact cc.o | exact t1 | exact t2 | exact (nm_c htg) | exact e0.1 | exact (nm_c e0.2.1)) (Nat.le_of_ble_eq_true rfl) (y_Wr_begin (d + 1) cc.1 (by first | omega | (simp only [eb, List.length_append, List.length_cons, List.length_nil]; omega))) ?_
      rintro _ μ4 ⟨rfl, c4⟩
      have cc := cc.to c4
      have k0 := (c4.2 0 (by decide) (by decide)).trans k0
      have k1 := (c4.2 1 (by decide) (by decide)).trans k1
      show kc_X _ _ _ _ _ [.int (nI ((((L ++ [nI 48, nI 0]) ++ eb (nI 2) (idB k)) ++ [nI dn, nI 0]).length + 2))] _ _
      refine x_is [_, _, _, _, _, _, _] c_Dk_conclude_43 rfl ?_
      refine x_al c_Dk_conclude_45 rfl ?_
      refine x_get c_Dk_conclude_46 (by first | rfl | exact k0 | exact k1 | exact cc.o | exact t1 | exact t2 | exact (nm_c htg) | exact e0.1 | exact (nm_c e0.2.1)) rfl ?_
      refine x_il c_Dk_conclude_49 rfl ?_
      refine x_cv1z _ c_Dk_conclude_50 (by first | rfl | exact k0 | exact k1 | exact cc.o | exact t1 | exact t2 | exact (nm_c htg) | exact e0.1 | exact (nm_c e0.2.1)) (Nat.le_of_ble_eq_true rfl) (y_Wr_put (d + 2) cc.1 (by first | omega | (simp only [eb, List.length_append, List.length_cons, List.length_nil]; omega))) ?_
      rintro _ μ5 ⟨rfl, c5⟩
      have cc := cc.to c5
      have k0 := (c5.2 0 (by decide) (by decide)).trans k0
      have k1 := (c5.2 1 (by decide) (by decide)).trans k1
      show kc_X _ _ _ _ _ [] _ _
      refine x_al c_Dk_conclude_53 rfl ?_
      refine x_get c_Dk_conclude_54 (by first | rfl | exact k0 | exact k1 | exact cc.o | exact t1 | exact t2 | exact (nm_c htg) | exact e0.1 | exact (nm_c e0.2.1)) rfl ?_
      refine x_il c_Dk_conclude_57 rfl ?_
      refine x_cv1z _ c_Dk_conclude_59 (by first | rfl | exact k0 | exact k1 | exact cc.o | exact t1 | exact t2 | exact (nm_c htg) | exact e0.1 | exact (nm_c e0.2.1)) (Nat.le_of_ble_eq_true rfl) (y_Wr_finish (d + 2) (L := (((L ++ [nI 48, nI 0]) ++ eb (nI 2) (idB k)) ++ [nI dn, nI 0])) (X := [nI code]) (t := nI 10) (z := nI 0) (by simp only [eb, nB, List.append_assoc, List.cons_append, List.nil_append, List.length_nil]) cc.1) ?_
      rintro _ μ6 ⟨rfl, c6⟩
      have cc := cc.to c6
      have k0 := (c6.2 0 (by decide) (by decide)).trans k0
      have k1 := (c6.2 1 (by decide) (by decide)).trans k1
      have ht := tr_k ht (fun q h1 h2 => cc.2 q (by omega) (by omega))
      have htg := tg_k htg (fun q h1 h2 => cc.2 q (by omega) (by omega))
      obtain ⟨t1, ⟨rf, t2, t3⟩, t4, t5, t6, t7⟩ := id ht
      show kc_X _ _ _ _ _ [] _ _
      refine x_il c_Dk_conclude_62 rfl ?_
      refine x_ci c_Dk_conclude_63 ?_
      refine x_cmN_ne c_Dk_conclude_65 (by omega) (by omega) (fun h => (by exfalso; omega)) (fun _ => ?_)
      refine x_al c_Dk_conclude_68 rfl ?_
      refine x_get c_Dk_conclude_69 (by first | rfl | exact k0 | exact k1 | exact cc.o | exact t1 | exact t2 | exact (nm_c htg) | exact e0.1 | exact (nm_c e0.2.1)) rfl ?_
      refine x_al c_Dk_conclude_72 rfl ?_
      refine x_get c_Dk_conclude_73 (by first | rfl | exact k0 | exact k1 | exact cc.o | exact t1 | exact t2 | exact (nm_c htg) | exact e0.1 | exact (nm_c e0.2.1)) rfl ?_
      refine x_cv1z _ c_Dk_conclude_76 (by first | rfl | exact k0 | exact k1 | exact cc.o | exact t1 | exact t2 | exact (nm_c htg) | exact e0.1 | exact (nm_c e0.2.1)) (Nat.le_of_ble_eq_true rfl) (y_Tr_findNearestAbove d ht htg hl4) ?_
      rintro _ μx ⟨rfl, hμx⟩
      have hμx := hμx.symm
      subst hμx
      show kc_X _ _ _ _ _ [.int (oI ((fu nm l n (l.length - 1) 1).map (·.2)))] _ _
      rw [hfu]
      have e0 := t4 e (by omega)
      show kc_X _ _ _ _ _ [.int (nI e)] _ _
      refine x_goto c_Dk_conclude_79 ?_
      refine x_is [_, _, _, _, _, _, _] c_Dk_conclude_83 rfl ?_
      refine x_il c_Dk_conclude_85 rfl ?_
      refine x_ci c_Dk_conclude_87 ?_
      refine x_cm_ne c_Dk_conclude_88 (fun _ => ?_) (fun h => absurd h (nI_nm1 (by omega)))
      refine x_al c_Dk_conclude_103 rfl ?_
      refine x_get c_Dk_conclude_104 (by first | rfl | exact k0 | exact k1 | exact cc.o | exact t1 | exact t2 | exact (nm_c htg) | exact e0.1 | exact (nm_c e0.2.1)) rfl ?_
      refine x_al c_Dk_conclude_107 rfl ?_
      refine x_get c_Dk_conclude_108 (by first | rfl | exact k0 | exact k1 | exact cc.o | exact t1 | exact t2 | exact (nm_c htg) | exact e0.1 | exact (nm_c e0.2.1)) rfl ?_
      refine x_get c_Dk_conclude_111 (by first | rfl | exact k0 | exact k1 | exact cc.o | exact t1 | exact t2 | exact (nm_c htg) | exact e0.1 | exact (nm_c e0.2.1)) rfl ?_
      refine x_il c_Dk_conclude_114 rfl ?_
      refine x_aaldN c_Dk_conclude_116 (by first | rfl | exact k0 | exact k1 | exact cc.o | exact t1 | exact t2 | exact (nm_c htg) | exact e0.1 | exact (nm_c e0.2.1)) (by omega) (by omega) (t3 e (by omega)) ?_
      refine x_get c_Dk_conclude_117 (by first | rfl | exact k0 | exact k1 | exact cc.o | exact t1 | exact t2 | exact (nm_c htg) | exact e0.1 | exact (nm_c e0.2.1)) rfl ?_
      refine x_cv1z _ c_Dk_conclude_120 (by first | rfl | exact k0 | exact k1 | exact cc.o | exact t1 | exact t2 | exact (nm_c htg) | exact e0.1 | exact (nm_c e0.2.1)) (Nat.le_of_ble_eq_true rfl) (y_Wr_name d cc.1 (by first | omega | (simp only [eb, List.length_append, List.length_cons, List.length_nil]; omega)) e0.2.1 (by omega) (by omega) (by omega) (by omega) (by omega) (by omega)) ?_
      rintro _ μ7 ⟨rfl, c7⟩
      have cc := cc.to c7
      have k0 := (c7.2 0 (by decide) (by decide)).trans k0
      have k1 := (c7.2 1 (by decide) (by decide)).trans k1
      show kc_X _ _ _ _ _ [] _ _
      refine x_al c_Dk_conclude_123 rfl ?_
      refine x_get c_Dk_conclude_124 (by first | rfl | exact k0 | exact k1 | exact cc.o | exact t1 | exact t2 | exact (nm_c htg) | exact e0.1 | exact (nm_c e0.2.1)) rfl ?_
      refine x_ci c_Dk_conclude_127 ?_
      refine x_cv1z _ c_Dk_conclude_128 (by first | rfl | exact k0 | exact k1 | exact cc.o | exact t1 | exact t2 | exact (nm_c htg) | exact e0.1 | exact (nm_c e0.2.1)) (Nat.le_of_ble_eq_true rfl) (y_Wr_begin (d + 1) cc.1 (by first | omega | (simp only [eb, List.length_append, List.length_cons, List.length_nil]; omega))) ?_
      rintro _ μ8 ⟨rfl, c8⟩
      have cc := cc.to c8
      have k0 := (c8.2 0 (by decide) (by decide)).trans k0
      have k1 := (c8.2 1 (by decide) (by decide)).trans k1
      show kc_X _ _ _ _ _ [.int (nI ((((((L ++ [nI 48, nI 0]) ++ eb (nI 2) (idB k)) ++ [nI dn, nI 0]) ++ eb (nI 10) [nI code]) ++ eb (nI 4) (nB (nm e))).length + 2))] _ _
      refine x_pop c_Dk_conclude_131 rfl ?_
      refine x_al c_Dk_conclude_132 rfl ?_
      refine x_get c_Dk_conclude_133 (by first | rfl | exact k0 | exact k1 | exact cc.o | exact t1 | exact t2 | exact (nm_c htg) | exact e0.1 | exact (nm_c e0.2.1)) rfl ?_
      refine x_il c_Dk_conclude_136 rfl ?_
      refine x_cv1z _ c_Dk_conclude_138 (by first | rfl | exact k0 | exact k1 | exact cc.o | exact t1 | exact t2 | exact (nm_c htg) | exact e0.1 | exact (nm_c e0.2.1)) (Nat.le_of_ble_eq_true rfl) (y_Wr_finish (d + 2) (L := ((L ++ [nI 48, nI 0]) ++ eb (nI 2) (idB k))) (X := eb (nI 10) [nI code] ++ (eb (nI 4) (nB (nm e)) ++ eb (nI 4) [])) (t := nI dn) (z := nI 0) (by simp only [eb, nB, List.append_assoc, List.cons_append, List.nil_append, List.length_nil]) cc.1) ?_
      rintro _ μ9 ⟨rfl, c9⟩
      have cc := cc.to c9
      have k0 := (c9.2 0 (by decide) (by decide)).trans k0
      have k1 := (c9.2 1 (by decide) (by decide)).trans k1
      show kc_X _ _ _ _ _ [] _ _
      refine x_al c_Dk_conclude_141 rfl ?_
      refine x_get c_Dk_conclude_142 (by first | rfl | exact k0 | exact k1 | exact cc.o | exact t1 | exact t2 | exact (nm_c htg) | exact e0.1 | exact (nm_c e0.2.1)) rfl ?_
      refine x_il c_Dk_conclude_145 rfl ?_
      refine x_cv1z _ c_Dk_conclude_146 (by first | rfl | exact k0 | exact k1 | exact cc.o | exact t1 | exact t2 | exact (nm_c htg) | exact e0.1 | exact (nm_c e0.2.1)) (Nat.le_of_ble_eq_true rfl) (y_Wr_finish (d + 2) (L := L) (X := eb (nI 2) (idB k) ++ eb (nI dn) (eb (nI 10) [nI code] ++ (eb (nI 4) (nB (nm e)) ++ eb (nI 4) []))) (t := nI 48) (z := nI 0) (by simp only [eb, nB, List.append_assoc, List.cons_append, List.nil_append, List.length_nil]) cc.1) ?_
      rintro _ μ10 ⟨rfl, c10⟩
      have cc := cc.to c10
      have k0 := (c10.2 0 (by decide) (by decide)).trans k0
      have k1 := (c10.2 1 (by decide) (by decide)).trans k1
      show kc_X _ _ _ _ _ [] _ _
      refine x_ret c_Dk_conclude_149 ?_
      exact ⟨rfl, cc⟩
  · rw [if_neg h32]
    refine x_al c_Dk_conclude_0 rfl ?_
    refine x_get c_Dk_conclude_1 (by first | rfl | exact k0 | exact k1 | exact cc.o | exact t1 | exact t2) rfl ?_
    refine x_ci c_Dk_conclude_4 ?_
    refine x_cv1z _ c_Dk_conclude_6 (by first | rfl | exact k0 | exact k1 | exact cc.o | exact t1 | exact t2) (Nat.le_of_ble_eq_true rfl) (y_Wr_begin (d + 1) cc.1 (by first | omega | (simp only [eb, List.length_append, List.length_cons, List.length_nil]; omega))) ?_
    rintro _ μ1 ⟨rfl, c1⟩
    have cc := cc.to c1
    have k0 := (c1.2 0 (by decide) (by decide)).trans k0
    have k1 := (c1.2 1 (by decide) (by decide)).trans k1
    show kc_X _ _ _ _ _ [.int (nI (L.length + 2))] _ _
    refine x_is [_, _, _, _, _, _, _] c_Dk_conclude_9 rfl ?_
    refine x_al c_Dk_conclude_10 rfl ?_
    refine x_get c_Dk_conclude_11 (by first | rfl | exact k0 | exact k1 | exact cc.o | exact t1 | exact t2) rfl ?_
    refine x_al c_Dk_conclude_14 rfl ?_
    refine x_get c_Dk_conclude_15 (by first | rfl | exact k0 | exact k1 | exact cc.o | exact t1 | exact t2) rfl ?_
    refine x_get c_Dk_conclude_18 (by first | rfl | exact k0 | exact k1 | exact cc.o | exact t1 | exact t2) rfl ?_
    refine x_cv1z _ c_Dk_conclude_21 (by first | rfl | exact k0 | exact k1 | exact cc.o | exact t1 | exact t2) (Nat.le_of_ble_eq_true rfl) (y_Wr_number d cc.1 (by first | omega | (simp only [eb, List.length_append, List.length_cons, List.length_nil]; omega)) hk) ?_
    rintro _ μ2 ⟨rfl, c2⟩
    have cc := cc.to c2
    have k0 := (c2.2 0 (by decide) (by decide)).trans k0
    have k1 := (c2.2 1 (by decide) (by decide)).trans k1
    show kc_X _ _ _ _ _ [] _ _
    refine x_al c_Dk_conclude_24 rfl ?_
    refine x_get c_Dk_conclude_25 (by first | rfl | exact k0 | exact k1 | exact cc.o | exact t1 | exact t2) rfl ?_
    refine x_il c_Dk_conclude_28 rfl ?_
    refine x_cv1z _ c_Dk_conclude_29 (by first | rfl | exact k0 | exact k1 | exact cc.o | exact t1 | exact t2) (Nat.le_of_ble_eq_true rfl) (y_Wr_begin (d + 1) cc.1 (by first | omega | (simp only [eb, List.length_append, List.length_cons, List.length_nil]; omega))) ?_
    rintro _ μ3 ⟨rfl, c3⟩
    have cc := cc.to c3
    have k0 := (c3.2 0 (by decide) (by decide)).trans k0
    have k1 := (c3.2 1 (by decide) (by decide)).trans k1
    show kc_X _ _ _ _ _ [.int (nI (((L ++ [nI 48, nI 0]) ++ eb (nI 2) (idB k)).length + 2))] _ _
    refine x_is [_, _, _, _, _, _, _] c_Dk_conclude_32 rfl ?_
    refine x_al c_Dk_conclude_34 rfl ?_
    refine x_get c_Dk_conclude_35 (by first | rfl | exact k0 | exact k1 | exact cc.o | exact t1 | exact t2) rfl ?_
    refine x_ci c_Dk_conclude_38 ?_
    refine x_cv1z _ c_Dk_conclude_40 (by first | rfl | exact k0 | exact k1 | exact cc.o | exact t1 | exact t2) (Nat.le_of_ble_eq_true rfl) (y_Wr_begin (d + 1) cc.1 (by first | omega | (simp only [eb, List.length_append, List.length_cons, List.length_nil]; omega))) ?_
    rintro _ μ4 ⟨rfl, c4⟩
    have cc := cc.to c4
    have k0 := (c4.2 0 (by decide) (by decide)).trans k0
    have k1 := (c4.2 1 (by decide) (by decide)).trans k1
    show kc_X _ _ _ _ _ [.int (nI ((((L ++ [nI 48, nI 0]) ++ eb (nI 2) (idB k)) ++ [nI dn, nI 0]).length + 2))] _ _
    refine x_is [_, _, _, _, _, _, _] c_Dk_conclude_43 rfl ?_
    refine x_al c_Dk_conclude_45 rfl ?_
    refine x_get c_Dk_conclude_46 (by first | rfl | exact k0 | exact k1 | exact cc.o | exact t1 | exact t2) rfl ?_
    refine x_il c_Dk_conclude_49 rfl ?_
    refine x_cv1z _ c_Dk_conclude_50 (by first | rfl | exact k0 | exact k1 | exact cc.o | exact t1 | exact t2) (Nat.le_of_ble_eq_true rfl) (y_Wr_put (d + 2) cc.1 (by first | omega | (simp only [eb, List.length_append, List.length_cons, List.length_nil]; omega))) ?_
    rintro _ μ5 ⟨rfl, c5⟩
    have cc := cc.to c5
    have k0 := (c5.2 0 (by decide) (by decide)).trans k0
    have k1 := (c5.2 1 (by decide) (by decide)).trans k1
    show kc_X _ _ _ _ _ [] _ _
    refine x_al c_Dk_conclude_53 rfl ?_
    refine x_get c_Dk_conclude_54 (by first | rfl | exact k0 | exact k1 | exact cc.o | exact t1 | exact t2) rfl ?_
    refine x_il c_Dk_conclude_57 rfl ?_
    refine x_cv1z _ c_Dk_conclude_59 (by first | rfl | exact k0 | exact k1 | exact cc.o | exact t1 | exact t2) (Nat.le_of_ble_eq_true rfl) (y_Wr_finish (d + 2) (L := (((L ++ [nI 48, nI 0]) ++ eb (nI 2) (idB k)) ++ [nI dn, nI 0])) (X := [nI code]) (t := nI 10) (z := nI 0) (by simp only [eb, nB, List.append_assoc, List.cons_append, List.nil_append, List.length_nil]) cc.1) ?_
    rintro _ μ6 ⟨rfl, c6⟩
    have cc := cc.to c6
    have k0 := (c6.2 0 (by decide) (by decide)).trans k0
    have k1 := (c6.2 1 (by decide) (by decide)).trans k1
    have ht := tr_k ht (fun q h1 h2 => cc.2 q (by omega) (by omega))
    have htg := tg_k htg (fun q h1 h2 => cc.2 q (by omega) (by omega))
    obtain ⟨t1, ⟨rf, t2, t3⟩, t4, t5, t6, t7⟩ := id ht
    show kc_X _ _ _ _ _ [] _ _
    refine x_il c_Dk_conclude_62 rfl ?_
    refine x_ci c_Dk_conclude_63 ?_
    refine x_cmN_ne c_Dk_conclude_65 (by omega) (by omega) (fun _ => ?_) (fun h => (by exfalso; omega))
    refine x_ci c_Dk_conclude_82 ?_
    refine x_is [_, _, _, _, _, _, _] c_Dk_conclude_83 rfl ?_
    refine x_il c_Dk_conclude_85 rfl ?_
    refine x_ci c_Dk_conclude_87 ?_
    refine x_cm_ne c_Dk_conclude_88 (fun h => absurd (rfl) h) (fun _ => ?_)
    refine x_al c_Dk_conclude_91 rfl ?_
    refine x_get c_Dk_conclude_92 (by first | rfl | exact k0 | exact k1 | exact cc.o | exact t1 | exact t2) rfl ?_
    refine x_ci c_Dk_conclude_95 ?_
    refine x_cv1z _ c_Dk_conclude_96 (by first | rfl | exact k0 | exact k1 | exact cc.o | exact t1 | exact t2) (Nat.le_of_ble_eq_true rfl) (y_Wr_begin (d + 1) cc.1 (by first | omega | (simp only [eb, List.length_append, List.length_cons, List.length_nil]; omega))) ?_
    rintro _ μ7 ⟨rfl, c7⟩
    have cc := cc.to c7
    have k0 := (c7.2 0 (by decide) (by decide)).trans k0
    have k1 := (c7.2 1 (by decide) (by decide)).trans k1
    show kc_X _ _ _ _ _ [.int (nI (((((L ++ [nI 48, nI 0]) ++ eb (nI 2) (idB k)) ++ [nI dn, nI 0]) ++ eb (nI 10) [nI code]).length + 2))] _ _
    refine x_pop c_Dk_conclude_99 rfl ?_
    refine x_goto c_Dk_conclude_100 ?_
    refine x_al c_Dk_conclude_123 rfl ?_
    refine x_get c_Dk_conclude_124 (by first | rfl | exact k0 | exact k1 | exact cc.o | exact t1 | exact t2) rfl ?_
    refine x_ci c_Dk_conclude_127 ?_
    refine x_cv1z _ c_Dk_conclude_128 (by first | rfl | exact k0 | exact k1 | exact cc.o | exact t1 | exact t2) (Nat.le_of_ble_eq_true rfl) (y_Wr_begin (d + 1) cc.1 (by first | omega | (simp only [eb, List.length_append, List.length_cons, List.length_nil]; omega))) ?_
    rintro _ μ8 ⟨rfl, c8⟩
    have cc := cc.to c8
    have k0 := (c8.2 0 (by decide) (by decide)).trans k0
    have k1 := (c8.2 1 (by decide) (by decide)).trans k1
    show kc_X _ _ _ _ _ [.int (nI ((((((L ++ [nI 48, nI 0]) ++ eb (nI 2) (idB k)) ++ [nI dn, nI 0]) ++ eb (nI 10) [nI code]) ++ eb (nI 4) (nB [])).length + 2))] _ _
    refine x_pop c_Dk_conclude_131 rfl ?_
    refine x_al c_Dk_conclude_132 rfl ?_
    refine x_get c_Dk_conclude_133 (by first | rfl | exact k0 | exact k1 | exact cc.o | exact t1 | exact t2) rfl ?_
    refine x_il c_Dk_conclude_136 rfl ?_
    refine x_cv1z _ c_Dk_conclude_138 (by first | rfl | exact k0 | exact k1 | exact cc.o | exact t1 | exact t2) (Nat.le_of_ble_eq_true rfl) (y_Wr_finish (d + 2) (L := ((L ++ [nI 48, nI 0]) ++ eb (nI 2) (idB k))) (X := eb (nI 10) [nI code] ++ (eb (nI 4) (nB []) ++ eb (nI 4) [])) (t := nI dn) (z := nI 0) (by simp only [eb, nB, List.append_assoc, List.cons_append, List.nil_append, List.length_nil]) cc.1) ?_
    rintro _ μ9 ⟨rfl, c9⟩
    have cc := cc.to c9
    have k0 := (c9.2 0 (by decide) (by decide)).trans k0
    have k1 := (c9.2 1 (by decide) (by decide)).trans k1
    show kc_X _ _ _ _ _ [] _ _
    refine x_al c_Dk_conclude_141 rfl ?_
    refine x_get c_Dk_conclude_142 (by first | rfl | exact k0 | exact k1 | exact cc.o | exact t1 | exact t2) rfl ?_
    refine x_il c_Dk_conclude_145 rfl ?_
    refine x_cv1z _ c_Dk_conclude_146 (by first | rfl | exact k0 | exact k1 | exact cc.o | exact t1 | exact t2) (Nat.le_of_ble_eq_true rfl) (y_Wr_finish (d + 2) (L := L) (X := eb (nI 2) (idB k) ++ eb (nI dn) (eb (nI 10) [nI code] ++ (eb (nI 4) (nB []) ++ eb (nI 4) []))) (t := nI 48) (z := nI 0) (by simp only [eb, nB, List.append_assoc, List.cons_append, List.nil_append, List.length_nil]) cc.1) ?_
    rintro _ μ10 ⟨rfl, c10⟩
    have cc := cc.to c10
    have k0 := (c10.2 0 (by decide) (by decide)).trans k0
    have k1 := (c10.2 1 (by decide) (by decide)).trans k1
    show kc_X _ _ _ _ _ [] _ _
    refine x_ret c_Dk_conclude_149 ?_
    exact ⟨rfl, cc⟩
def dnO (op : Nat) : Nat := if op = 96 then 97 else if op = 99 then 101 else if op = 102 then 103 else if op = 104 then 105 else 107
theorem dnO_lt (op : Nat) : dnO op < 256 := by unfold dnO; split <;> (try split) <;> (try split) <;> (try split) <;> omega
theorem drop_get {l : List tv} {a i : Nat} : (l.drop a)[i]? = l[a + i]? := List.getElem?_drop
theorem mE_o {μ μ' : kc_M} {s s' : Nat → Int32} {L : List Int32} {tb : Nat → Nat} {ou : Nat → Int32} {n : Nat} {nm pr : Nat → List tv} (h : mE μ tb ou n nm pr) (hc : oC μ μ' s s' L) : ∃ ou', mE μ' tb ou' n nm pr := by
  obtain ⟨_, _, ou', q, _⟩ := hc.2.2.2
  obtain ⟨pa, pt, pv, pn, qt, qv, ⟨r1, r2, r3, r4, r5, r6, r7, r8⟩, m⟩ := h
  exact ⟨ou', pa, pt, pv, pn, qt, qv, ⟨(hc.2.2.1 137 (by decide) (by decide)).trans r1, q, (hc.2.2.1 139 (by decide) (by decide)).trans r3, (hc.2.2.1 140 (by decide) (by decide)).trans r4, (hc.2.2.1 141 (by decide) (by decide)).trans r5, (hc.2.2.1 142 (by decide) (by decide)).trans r6, (hc.2.2.1 143 (by decide) (by decide)).trans r7, (hc.2.2.1 144 (by decide) (by decide)).trans r8⟩, m⟩
set_option maxRecDepth 100000 in
set_option maxHeartbeats 4000000 in
theorem y_Md_conclude (d : Nat) {μ : kc_M} {s : Nat → Int32} {tb : Nat → Nat} {ou : Nat → Int32} {n : Nat} {nm pr : Nat → List tv} {L : List Int32} (h0 : μ.1 136 = some (ce_Md s)) (h : oL μ s L) (hE : mE μ tb ou n nm pr) (h6 : s 6 = nI n) {l : List tv} (hN : mN μ s l) {k : Nat} (hk : k < 2 ^ 31) (h16 : s 16 = nI k) {op : Nat} (hop : op < 256) (h17 : s 17 = nI op) {code : Nat} (hc : code < 256) (hL : L.length + 80 ≤ 480) : kc_Y kt kC (d + 4) j_Md_conclude [.ref 136, .int (nI code)] μ (fun v μ' => v = none ∧ ∃ s', oC μ μ' s s' (L ++ cB k (dnO op) code (if code = 32 then naL nm l n else []))) := by
  refine ⟨Nat.le_of_ble_eq_true rfl, ?_⟩
  have cc := oC.re h0 h
  have hid := idB_len k
  obtain ⟨n1, n2, f, g, n3, n4, n5⟩ := id hN
  have fin : ∀ (i : Nat), (code = 32 → l.drop i = naL nm l n) → ∀ (μ1 : kc_M) (s1 : Nat → Int32), oC μ μ1 s s1 (((((L ++ [nI 48, nI 0]) ++ eb (nI 2) (idB k)) ++ [nI (dnO op), nI 0]) ++ eb (nI 10) [nI code]) ++ nI 4 :: nI 0 :: nB (if code = 32 then naL nm l n else [])) → ∀ j, kc_X (kC j_Md_conclude) (kc_Y kt kC (d + 3)) (fun v μ' => v = none ∧ ∃ s', oC μ μ' s s' (L ++ cB k (dnO op) code (if code = 32 then naL nm l n else []))) 183 [some (.ref 136), some (.int (nI code)), some (.int (nI (L.length + 2))), some (.int (nI (((L ++ [nI 48, nI 0]) ++ eb (nI 2) (idB k)).length + 2))), some (.int (nI ((((L ++ [nI 48, nI 0]) ++ eb (nI 2) (idB k)) ++ [nI (dnO op), nI 0]).length + 2))), some (.int (nI (((((L ++ [nI 48, nI 0]) ++ eb (nI 2) (idB k)) ++ [nI (dnO op), nI 0]) ++ eb (nI 10) [nI code]).length + 2))), some (.int (nI i)), j] [] μ1 (0, 0) := by
    intro i hi μ1 s1 cc j
    have hX : (if code = 32 then naL nm l n else []).length ≤ 4 := by
      split
      · rw [← hi (by assumption), List.length_drop]; omega
      · exact Nat.zero_le _
    have hnb := nB_len (if code = 32 then naL nm l n else [])
    generalize (if code = 32 then naL nm l n else []) = X at cc hX hnb ⊢
    refine x_al c_Md_conclude_183 rfl ?_
    refine x_il c_Md_conclude_184 rfl ?_
    refine x_cv1z _ c_Md_conclude_186 (by first | rfl | exact cc.1) (Nat.le_of_ble_eq_true rfl) (y_Md_close (d + 2) (L := ((((L ++ [nI 48, nI 0]) ++ eb (nI 2) (idB k)) ++ [nI (dnO op), nI 0]) ++ eb (nI 10) [nI code])) (X := nB X) (t := nI 4) (z := nI 0) cc.1 rfl cc.2.2.2) ?_
    rintro _ μ20 ⟨rfl, s20, c20⟩
    have cc := cc.to c20
    show kc_X _ _ _ _ _ [] _ _
    refine x_al c_Md_conclude_189 rfl ?_
    refine x_ci c_Md_conclude_190 ?_
    refine x_cv1z _ c_Md_conclude_191 (by first | rfl | exact cc.1) (Nat.le_of_ble_eq_true rfl) (y_Md_begin (d + 1) cc.1 cc.2.2.2 (by first | omega | (simp only [eb, List.length_append, List.length_cons, List.length_nil]; omega))) ?_
    rintro _ μ21 ⟨rfl, s21, c21⟩
    have cc := cc.to c21
    show kc_X _ _ _ _ _ [.int (nI ((((((L ++ [nI 48, nI 0]) ++ eb (nI 2) (idB k)) ++ [nI (dnO op), nI 0]) ++ eb (nI 10) [nI code]) ++ eb (nI 4) (nB X)).length + 2))] _ _
    refine x_is [_, _, _, _, _, _, _, _] c_Md_conclude_194 rfl ?_
    refine x_al c_Md_conclude_196 rfl ?_
    refine x_il c_Md_conclude_197 rfl ?_
    refine x_cv1z _ c_Md_conclude_199 (by first | rfl | exact cc.1) (Nat.le_of_ble_eq_true rfl) (y_Md_close (d + 2) (L := (((((L ++ [nI 48, nI 0]) ++ eb (nI 2) (idB k)) ++ [nI (dnO op), nI 0]) ++ eb (nI 10) [nI code]) ++ eb (nI 4) (nB X))) (X := []) (t := nI 4) (z := nI 0) cc.1 rfl cc.2.2.2) ?_
    rintro _ μ22 ⟨rfl, s22, c22⟩
    have cc := cc.to c22
    show kc_X _ _ _ _ _ [] _ _
    refine x_al c_Md_conclude_202 rfl ?_
    refine x_il c_Md_conclude_203 rfl ?_
    refine x_cv1z _ c_Md_conclude_204 (by first | rfl | exact cc.1) (Nat.le_of_ble_eq_true rfl) (y_Md_close (d + 2) (L := ((L ++ [nI 48, nI 0]) ++ eb (nI 2) (idB k))) (X := eb (nI 10) [nI code] ++ (eb (nI 4) (nB X) ++ eb (nI 4) [])) (t := nI (dnO op)) (z := nI 0) cc.1 (by simp only [eb, nB, List.append_assoc, List.cons_append, List.nil_append, List.length_nil]) cc.2.2.2) ?_
    rintro _ μ23 ⟨rfl, s23, c23⟩
    have cc := cc.to c23
    show kc_X _ _ _ _ _ [] _ _
    refine x_al c_Md_conclude_207 rfl ?_
    refine x_il c_Md_conclude_208 rfl ?_
    refine x_cv1z _ c_Md_conclude_209 (by first | rfl | exact cc.1) (Nat.le_of_ble_eq_true rfl) (y_Md_close (d + 2) (L := L) (X := eb (nI 2) (idB k) ++ eb (nI (dnO op)) (eb (nI 10) [nI code] ++ (eb (nI 4) (nB X) ++ eb (nI 4) []))) (t := nI 48) (z := nI 0) cc.1 (by simp only [eb, nB, List.append_assoc, List.cons_append, List.nil_append, List.length_nil]) cc.2.2.2) ?_
    rintro _ μ24 ⟨rfl, s24, c24⟩
    have cc := cc.to c24
    show kc_X _ _ _ _ _ [] _ _
    refine x_ret c_Md_conclude_212 ?_
    exact ⟨rfl, _, cc⟩
  have out : ∀ (i : Nat), (code = 32 → l.drop i = naL nm l n) → ∀ m j, l.length - j = m → i ≤ j → j ≤ l.length + 1 → ∀ (Z : List tv), (code = 32 → Z = (l.drop i).take (j - i)) → (¬ code = 32 → Z = []) → ∀ (μ1 : kc_M) (s1 : Nat → Int32), oC μ μ1 s s1 (((((L ++ [nI 48, nI 0]) ++ eb (nI 2) (idB k)) ++ [nI (dnO op), nI 0]) ++ eb (nI 10) [nI code]) ++ nI 4 :: nI 0 :: nB Z) → kc_X (kC j_Md_conclude) (kc_Y kt kC (d + 3)) (fun v μ' => v = none ∧ ∃ s', oC μ μ' s s' (L ++ cB k (dnO op) code (if code = 32 then naL nm l n else []))) 131 [some (.ref 136), some (.int (nI code)), some (.int (nI (L.length + 2))), some (.int (nI (((L ++ [nI 48, nI 0]) ++ eb (nI 2) (idB k)).length + 2))), some (.int (nI ((((L ++ [nI 48, nI 0]) ++ eb (nI 2) (idB k)) ++ [nI (dnO op), nI 0]).length + 2))), some (.int (nI (((((L ++ [nI 48, nI 0]) ++ eb (nI 2) (idB k)) ++ [nI (dnO op), nI 0]) ++ eb (nI 10) [nI code]).length + 2))), some (.int (nI i)), some (.int (nI j))] [] μ1 (0, 0) := by
    intro i hi m
    by_cases h32 : code = 32
    · induction m with
      | zero =>
        intro j hm hij hj5 Z hZ1 hZ2 μ1 s1 cc
        obtain rfl := hZ1 h32
        rw [List.take_of_length_le (by rw [List.length_drop]; omega), hi h32] at cc
        have e20 := (cc.2.1 20 (by decide)).trans n1
        refine x_il c_Md_conclude_131 rfl ?_
        refine x_ci c_Md_conclude_132 ?_
        refine x_cmN_ne c_Md_conclude_134 (by omega) (by omega) (fun h => (by exfalso; omega)) (fun _ => ?_)
        refine x_il c_Md_conclude_137 rfl ?_
        refine x_al c_Md_conclude_139 rfl ?_
        refine x_getE c_Md_conclude_140 (by first | rfl | exact cc.1) rfl (by first | exact e20 | rfl) ?_
        refine x_cmN_ge c_Md_conclude_143 (by omega) (by omega) (fun _ => ?_) (fun h => (by exfalso; omega))
        exact fin i hi μ1 s1 (by rw [if_pos h32]; exact cc) _
      | succ m ih =>
        intro j hm hij hj5 Z hZ1 hZ2 μ1 s1 cc
        obtain rfl := hZ1 h32
        have e20 := (cc.2.1 20 (by decide)).trans n1
        have k145 := (cc.2.2.1 145 (by decide) (by decide)).trans n3
        have k146 := (cc.2.2.1 146 (by decide) (by decide)).trans n4
        have hnt := nB_take (l := l.drop i) (k := j - i) (p := (f j, g j)) (by rw [drop_get, show i + (j - i) = j by omega]; exact n5 j (by omega))
        have hl1 := nB_len ((l.drop i).take (j - i))
        rw [List.length_take, List.length_drop] at hl1
        have hl2 : (nB ((l.drop i).take (j - i))).length ≤ 44 := by omega
        have fp : ∀ (μ2 : kc_M) (s2 : Nat → Int32) (Z : List Int32), oC μ μ2 s s2 (((((L ++ [nI 48, nI 0]) ++ eb (nI 2) (idB k)) ++ [nI (dnO op), nI 0]) ++ eb (nI 10) [nI code]) ++ nI 4 :: nI 0 :: nB ((l.drop i).take (j - i)) ++ Z) → Z = (if j - i = 0 then [] else [nI 44]) → kc_X (kC j_Md_conclude) (kc_Y kt kC (d + 3)) (fun v μ' => v = none ∧ ∃ s', oC μ μ' s s' (L ++ cB k (dnO op) code (if code = 32 then naL nm l n else []))) 159 [some (.ref 136), some (.int (nI code)), some (.int (nI (L.length + 2))), some (.int (nI (((L ++ [nI 48, nI 0]) ++ eb (nI 2) (idB k)).length + 2))), some (.int (nI ((((L ++ [nI 48, nI 0]) ++ eb (nI 2) (idB k)) ++ [nI (dnO op), nI 0]).length + 2))), some (.int (nI (((((L ++ [nI 48, nI 0]) ++ eb (nI 2) (idB k)) ++ [nI (dnO op), nI 0]) ++ eb (nI 10) [nI code]).length + 2))), some (.int (nI i)), some (.int (nI j))] [] μ2 (0, 0) := by
          intro μ2 s2 Z cc hZ
          have hZl : Z.length ≤ 1 := by rw [hZ]; split <;> exact Nat.le_of_ble_eq_true rfl
          have k145 := (cc.2.2.1 145 (by decide) (by decide)).trans n3
          have k146 := (cc.2.2.1 146 (by decide) (by decide)).trans n4
          refine x_al c_Md_conclude_159 rfl ?_
          refine x_al c_Md_conclude_160 rfl ?_
          refine x_get c_Md_conclude_161 (by first | rfl | exact cc.1 | exact k145 | exact k146) rfl ?_
          refine x_il c_Md_conclude_164 rfl ?_
          refine x_ialdN c_Md_conclude_166 (by first | rfl | exact cc.1 | exact k145 | exact k146) (by omega) (by omega) ?_
          refine x_al c_Md_conclude_167 rfl ?_
          refine x_get c_Md_conclude_168 (by first | rfl | exact cc.1 | exact k145 | exact k146) rfl ?_
          refine x_il c_Md_conclude_171 rfl ?_
          refine x_laldN c_Md_conclude_173 (by first | rfl | exact cc.1 | exact k145 | exact k146) (by omega) (by omega) ?_
          refine x_cv2z _ c_Md_conclude_174 (by first | rfl | exact cc.1 | exact k145 | exact k146) (Nat.le_of_ble_eq_true rfl) (y_Md_sayPart d cc.1 cc.2.2.2 (by first | omega | (simp only [eb, List.length_append, List.length_cons, List.length_nil]; omega))) ?_
          rintro _ μ12 ⟨rfl, s12, c12⟩
          have cc := cc.to c12
          show kc_X _ _ _ _ _ [] _ _
          first | refine x_incN [_, _, _, _, _, _, _, _] c_Md_conclude_177 rfl rfl ?_ | refine x_inc [_, _, _, _, _, _, _, _] c_Md_conclude_177 rfl rfl ?_
          refine x_goto c_Md_conclude_180 ?_
          refine ih (j + 1) (by omega) (by omega) (by omega) _ (fun _ => rfl) (fun q => absurd h32 q) μ12 s12 ?_
          rw [show j + 1 - i = j - i + 1 by omega, hnt, ← hZ]
          simp only [List.append_assoc, List.cons_append, List.nil_append] at cc ⊢
          exact cc
        refine x_il c_Md_conclude_131 rfl ?_
        refine x_ci c_Md_conclude_132 ?_
        refine x_cmN_ne c_Md_conclude_134 (by omega) (by omega) (fun h => (by exfalso; omega)) (fun _ => ?_)
        refine x_il c_Md_conclude_137 rfl ?_
        refine x_al c_Md_conclude_139 rfl ?_
        refine x_getE c_Md_conclude_140 (by first | rfl | exact cc.1) rfl (by first | exact e20 | rfl) ?_
        refine x_cmN_ge c_Md_conclude_143 (by omega) (by omega) (fun h => (by exfalso; omega)) (fun _ => ?_)
        refine x_il c_Md_conclude_146 rfl ?_
        refine x_il c_Md_conclude_148 rfl ?_
        refine x_cmN_le c_Md_conclude_150 (by omega) (by omega) (fun h150 => ?_) (fun h150 => ?_)
        · first | exact fp _ _ [] (by rw [List.append_nil]; exact cc) (by rw [if_pos (by omega)]) | exact fp _ _ [nI 44] cc (by rw [if_neg (by omega)])
        · refine x_al c_Md_conclude_153 rfl ?_
          refine x_ci c_Md_conclude_154 ?_
          refine x_cv1z _ c_Md_conclude_156 (by first | rfl | exact cc.1) (Nat.le_of_ble_eq_true rfl) (y_Md_say (d + 2) cc.1 cc.2.2.2 (by first | omega | (simp only [eb, List.length_append, List.length_cons, List.length_nil]; omega))) ?_
          rintro _ μ11 ⟨rfl, s11, c11⟩
          have cc := cc.to c11
          show kc_X _ _ _ _ _ [] _ _
          first | exact fp _ _ [] (by rw [List.append_nil]; exact cc) (by rw [if_pos (by omega)]) | exact fp _ _ [nI 44] cc (by rw [if_neg (by omega)])
    · intro j hm hij hj5 Z hZ1 hZ2 μ1 s1 cc
      obtain rfl := hZ2 h32
      refine x_il c_Md_conclude_131 rfl ?_
      refine x_ci c_Md_conclude_132 ?_
      refine x_cmN_ne c_Md_conclude_134 (by omega) (by omega) (fun _ => ?_) (fun h => (by exfalso; omega))
      exact fin i hi μ1 s1 (by rw [if_neg h32]; exact cc) _
  have sc : ∀ m i, l.length - i = m → 1 ≤ i → i ≤ l.length + 1 → fu nm l n m i = fu nm l n (l.length - 1) 1 → (l.length ≤ i → fu nm l n (l.length - 1) 1 = none) → ∀ (μ1 : kc_M) (s1 : Nat → Int32) (j : Option Value), oC μ μ1 s s1 (((((L ++ [nI 48, nI 0]) ++ eb (nI 2) (idB k)) ++ [nI (dnO op), nI 0]) ++ eb (nI 10) [nI code]) ++ [nI 4, nI 0]) → kc_X (kC j_Md_conclude) (kc_Y kt kC (d + 3)) (fun v μ' => v = none ∧ ∃ s', oC μ μ' s s' (L ++ cB k (dnO op) code (if code = 32 then naL nm l n else []))) 103 [some (.ref 136), some (.int (nI code)), some (.int (nI (L.length + 2))), some (.int (nI (((L ++ [nI 48, nI 0]) ++ eb (nI 2) (idB k)).length + 2))), some (.int (nI ((((L ++ [nI 48, nI 0]) ++ eb (nI 2) (idB k)) ++ [nI (dnO op), nI 0]).length + 2))), some (.int (nI (((((L ++ [nI 48, nI 0]) ++ eb (nI 2) (idB k)) ++ [nI (dnO op), nI 0]) ++ eb (nI 10) [nI code]).length + 2))), some (.int (nI i)), j] [] μ1 (0, 0) := by
    intro m
    induction m with
    | zero =>
      intro i hm h1i hi5 hR hR2 μ1 s1 j cc
      have e20 := (cc.2.1 20 (by decide)).trans n1
      refine x_il c_Md_conclude_103 rfl ?_
      refine x_al c_Md_conclude_105 rfl ?_
      refine x_getE c_Md_conclude_106 (by first | rfl | exact cc.1) rfl (by first | exact e20 | rfl) ?_
      refine x_cmN_ge c_Md_conclude_109 (by omega) (by omega) (fun _ => ?_) (fun h => (by exfalso; omega))
      refine x_il c_Md_conclude_127 rfl ?_
      refine x_is [_, _, _, _, _, _, _, _] c_Md_conclude_129 rfl ?_
      exact out i (fun _ => by rw [naL_n (hR2 (by omega)), List.drop_eq_nil_of_le (by omega)]) _ i rfl (Nat.le_refl _) hi5 [] (fun _ => by rw [Nat.sub_self, List.take_zero]) (fun _ => rfl) μ1 s1 cc
    | succ m ih =>
      intro i hm h1i hi5 hR hR2 μ1 s1 j cc
      have e20 := (cc.2.1 20 (by decide)).trans n1
      have e6 := (cc.2.1 6 (by decide)).trans h6
      obtain ⟨ou', hE'⟩ := mE_o hE cc
      have hN' := mN_k hN (cc.2.1 20 (by decide)) (cc.2.2.1 145 (by decide) (by decide)) (cc.2.2.1 146 (by decide) (by decide))
      rw [fu_s] at hR
      cases hfd : fd nm (l.drop i) n 0 with
      | some e =>
        rw [hfd] at hR
        have hfi := fd_in hfd
        have he : e < n := by omega
        have hn16 : n ≤ 16 := by obtain ⟨_, _, _, _, _, _, _, _, h9, _⟩ := hE; exact h9
        have hnl : nm e = l.drop i := by rw [Nat.zero_add] at hfi; exact hfi.2.2
        refine x_il c_Md_conclude_103 rfl ?_
        refine x_al c_Md_conclude_105 rfl ?_
        refine x_getE c_Md_conclude_106 (by first | rfl | exact cc.1) rfl (by first | exact e20 | rfl) ?_
        refine x_cmN_ge c_Md_conclude_109 (by omega) (by omega) (fun h => (by exfalso; omega)) (fun _ => ?_)
        refine x_al c_Md_conclude_112 rfl ?_
        refine x_il c_Md_conclude_113 rfl ?_
        refine x_cv1z _ c_Md_conclude_115 (by first | rfl | exact cc.1) (Nat.le_of_ble_eq_true rfl) (y_Md_find (d + 1) cc.1 hE' e6 hN' (by omega)) ?_
        rintro _ μx ⟨rfl, hμx⟩
        have hμx := hμx.symm
        subst hμx
        show kc_X _ _ _ _ _ [.int (oI (fd nm (l.drop i) n 0))] _ _
        rw [hfd]
        show kc_X _ _ _ _ _ [.int (nI e)] _ _
        refine x_ifN_ge c_Md_conclude_118 (by omega) (fun _ => ?_) (fun h => (by exfalso; omega))
        refine x_il c_Md_conclude_127 rfl ?_
        refine x_is [_, _, _, _, _, _, _, _] c_Md_conclude_129 rfl ?_
        exact out i (fun _ => by rw [naL_s hR.symm, hnl]) _ i rfl (Nat.le_refl _) hi5 [] (fun _ => by rw [Nat.sub_self, List.take_zero]) (fun _ => rfl) μ1 s1 cc
      | none =>
        rw [hfd] at hR
        refine x_il c_Md_conclude_103 rfl ?_
        refine x_al c_Md_conclude_105 rfl ?_
        refine x_getE c_Md_conclude_106 (by first | rfl | exact cc.1) rfl (by first | exact e20 | rfl) ?_
        refine x_cmN_ge c_Md_conclude_109 (by omega) (by omega) (fun h => (by exfalso; omega)) (fun _ => ?_)
        refine x_al c_Md_conclude_112 rfl ?_
        refine x_il c_Md_conclude_113 rfl ?_
        refine x_cv1z _ c_Md_conclude_115 (by first | rfl | exact cc.1) (Nat.le_of_ble_eq_true rfl) (y_Md_find (d + 1) cc.1 hE' e6 hN' (by omega)) ?_
        rintro _ μx ⟨rfl, hμx⟩
        have hμx := hμx.symm
        subst hμx
        show kc_X _ _ _ _ _ [.int (oI (fd nm (l.drop i) n 0))] _ _
        rw [hfd]
        show kc_X _ _ _ _ _ [.int (-1)] _ _
        refine x_if_ge c_Md_conclude_118 (fun h => absurd h (by decide)) (fun _ => ?_)
        first | refine x_incN [_, _, _, _, _, _, _, _] c_Md_conclude_121 rfl rfl ?_ | refine x_inc [_, _, _, _, _, _, _, _] c_Md_conclude_121 rfl rfl ?_
        refine x_goto c_Md_conclude_124 ?_
        exact ih (i + 1) (by omega) (by omega) (by omega) hR (fun q => by rw [← hR, show m = 0 by omega]; rfl) μ1 s1 _ cc
  have hd : ∀ x, dnO op = x → ∀ (μ1 : kc_M) (s1 : Nat → Int32) (j1 j2 j3 j4 j5 : Option Value), oC μ μ1 s s1 ((L ++ [nI 48, nI 0]) ++ eb (nI 2) (idB k)) → kc_X (kC j_Md_conclude) (kc_Y kt kC (d + 3)) (fun v μ' => v = none ∧ ∃ s', oC μ μ' s s' (L ++ cB k (dnO op) code (if code = 32 then naL nm l n else []))) 70 [some (.ref 136), some (.int (nI code)), some (.int (nI (L.length + 2))), j1, j2, j3, j4, j5] [.int (nI x), .ref 136] μ1 (0, 0) := by
    intro x hx μ1 s1 j1 j2 j3 j4 j5 cc
    subst hx
    refine x_cv1z _ c_Md_conclude_70 (by first | rfl | exact cc.1) (Nat.le_of_ble_eq_true rfl) (y_Md_begin (d + 1) cc.1 cc.2.2.2 (by first | omega | (simp only [eb, List.length_append, List.length_cons, List.length_nil]; omega))) ?_
    rintro _ μ3 ⟨rfl, s3, c3⟩
    have cc := cc.to c3
    show kc_X _ _ _ _ _ [.int (nI (((L ++ [nI 48, nI 0]) ++ eb (nI 2) (idB k)).length + 2))] _ _
    refine x_is [_, _, _, _, _, _, _, _] c_Md_conclude_73 rfl ?_
    refine x_al c_Md_conclude_74 rfl ?_
    refine x_ci c_Md_conclude_75 ?_
    refine x_cv1z _ c_Md_conclude_77 (by first | rfl | exact cc.1) (Nat.le_of_ble_eq_true rfl) (y_Md_begin (d + 1) cc.1 cc.2.2.2 (by first | omega | (simp only [eb, List.length_append, List.length_cons, List.length_nil]; omega))) ?_
    rintro _ μ4 ⟨rfl, s4, c4⟩
    have cc := cc.to c4
    show kc_X _ _ _ _ _ [.int (nI ((((L ++ [nI 48, nI 0]) ++ eb (nI 2) (idB k)) ++ [nI (dnO op), nI 0]).length + 2))] _ _
    refine x_is [_, _, _, _, _, _, _, _] c_Md_conclude_80 rfl ?_
    refine x_al c_Md_conclude_82 rfl ?_
    refine x_il c_Md_conclude_83 rfl ?_
    refine x_cv1z _ c_Md_conclude_84 (by first | rfl | exact cc.1) (Nat.le_of_ble_eq_true rfl) (y_Md_say (d + 2) cc.1 cc.2.2.2 (by first | omega | (simp only [eb, List.length_append, List.length_cons, List.length_nil]; omega))) ?_
    rintro _ μ5 ⟨rfl, s5, c5⟩
    have cc := cc.to c5
    show kc_X _ _ _ _ _ [] _ _
    refine x_al c_Md_conclude_87 rfl ?_
    refine x_il c_Md_conclude_88 rfl ?_
    refine x_cv1z _ c_Md_conclude_90 (by first | rfl | exact cc.1) (Nat.le_of_ble_eq_true rfl) (y_Md_close (d + 2) (L := (((L ++ [nI 48, nI 0]) ++ eb (nI 2) (idB k)) ++ [nI (dnO op), nI 0])) (X := [nI code]) (t := nI 10) (z := nI 0) cc.1 (by simp only [eb, nB, List.append_assoc, List.cons_append, List.nil_append, List.length_nil]) cc.2.2.2) ?_
    rintro _ μ6 ⟨rfl, s6, c6⟩
    have cc := cc.to c6
    show kc_X _ _ _ _ _ [] _ _
    refine x_al c_Md_conclude_93 rfl ?_
    refine x_ci c_Md_conclude_94 ?_
    refine x_cv1z _ c_Md_conclude_95 (by first | rfl | exact cc.1) (Nat.le_of_ble_eq_true rfl) (y_Md_begin (d + 1) cc.1 cc.2.2.2 (by first | omega | (simp only [eb, List.length_append, List.length_cons, List.length_nil]; omega))) ?_
    rintro _ μ7 ⟨rfl, s7, c7⟩
    have cc := cc.to c7
    show kc_X _ _ _ _ _ [.int (nI (((((L ++ [nI 48, nI 0]) ++ eb (nI 2) (idB k)) ++ [nI (dnO op), nI 0]) ++ eb (nI 10) [nI code]).length + 2))] _ _
    refine x_is [_, _, _, _, _, _, _, _] c_Md_conclude_98 rfl ?_
    refine x_ci c_Md_conclude_100 ?_
    refine x_is [_, _, _, _, _, _, _, _] c_Md_conclude_101 rfl ?_
    exact sc (l.length - 1) 1 (by omega) (by omega) (by omega) rfl (fun q => by rw [show l.length - 1 = 0 by omega]; rfl) _ _ _ cc
  refine x_al c_Md_conclude_0 rfl ?_
  refine x_ci c_Md_conclude_1 ?_
  refine x_cv1z _ c_Md_conclude_3 (by first | rfl | exact cc.1) (Nat.le_of_ble_eq_true rfl) (y_Md_begin (d + 1) cc.1 cc.2.2.2 (by first | omega | (simp only [eb, List.length_append, List.length_cons, List.length_nil]; omega))) ?_
  rintro _ μ1 ⟨rfl, s1, c1⟩
  have cc := cc.to c1
  show kc_X _ _ _ _ _ [.int (nI (L.length + 2))] _ _
  refine x_is [_, _, _, _, _, _, _, _] c_Md_conclude_6 rfl ?_
  refine x_al c_Md_conclude_7 rfl ?_
  refine x_cv0z _ c_Md_conclude_8 (by first | rfl | exact cc.1) (Nat.le_of_ble_eq_true rfl) (y_Md_sayId d cc.1 cc.2.2.2 (by first | omega | (simp only [eb, List.length_append, List.length_cons, List.length_nil]; omega)) hk ((cc.2.1 16 (by decide)).trans h16)) ?_
  rintro _ μ2 ⟨rfl, s2, c2⟩
  have cc := cc.to c2
  show kc_X _ _ _ _ _ [] _ _
  refine x_al c_Md_conclude_11 rfl ?_
  refine x_al c_Md_conclude_12 rfl ?_
  refine x_getE c_Md_conclude_13 (by first | rfl | exact cc.1) rfl (by first | exact (cc.2.1 17 (by decide)).trans h17 | rfl) ?_
  refine x_ci c_Md_conclude_16 ?_
  refine x_cmN_ne c_Md_conclude_18 (by omega) (by omega) (fun h18 => ?_) (fun h18 => ?_)
  · refine x_al c_Md_conclude_26 rfl ?_
    refine x_getE c_Md_conclude_27 (by first | rfl | exact cc.1) rfl (by first | exact (cc.2.1 17 (by decide)).trans h17 | rfl) ?_
    refine x_ci c_Md_conclude_30 ?_
    refine x_cmN_ne c_Md_conclude_32 (by omega) (by omega) (fun h32 => ?_) (fun h32 => ?_)
    · refine x_al c_Md_conclude_40 rfl ?_
      refine x_getE c_Md_conclude_41 (by first | rfl | exact cc.1) rfl (by first | exact (cc.2.1 17 (by decide)).trans h17 | rfl) ?_
      refine x_ci c_Md_conclude_44 ?_
      refine x_cmN_ne c_Md_conclude_46 (by omega) (by omega) (fun h46 => ?_) (fun h46 => ?_)
      · refine x_al c_Md_conclude_54 rfl ?_
        refine x_getE c_Md_conclude_55 (by first | rfl | exact cc.1) rfl (by first | exact (cc.2.1 17 (by decide)).trans h17 | rfl) ?_
        refine x_ci c_Md_conclude_58 ?_
        refine x_cmN_ne c_Md_conclude_60 (by omega) (by omega) (fun h60 => ?_) (fun h60 => ?_)
        · refine x_ci c_Md_conclude_68 ?_
          have hdn : dnO op = 107 := by unfold dnO; first | (rw [if_pos (by omega)]) | (rw [if_neg (by omega), if_pos (by omega)]) | (rw [if_neg (by omega), if_neg (by omega), if_pos (by omega)]) | (rw [if_neg (by omega), if_neg (by omega), if_neg (by omega), if_pos (by omega)]) | (rw [if_neg (by omega), if_neg (by omega), if_neg (by omega), if_neg (by omega)])
          exact hd _ hdn _ _ _ _ _ _ _ cc
        · refine x_ci c_Md_conclude_63 ?_
          refine x_goto c_Md_conclude_65 ?_
          have hdn : dnO op = 105 := by unfold dnO; first | (rw [if_pos (by omega)]) | (rw [if_neg (by omega), if_pos (by omega)]) | (rw [if_neg (by omega), if_neg (by omega), if_pos (by omega)]) | (rw [if_neg (by omega), if_neg (by omega), if_neg (by omega), if_pos (by omega)]) | (rw [if_neg (by omega), if_neg (by omega), if_neg (by omega), if_neg (by omega)])
          exact hd _ hdn _ _ _ _ _ _ _ cc
      · refine x_ci c_Md_conclude_49 ?_
        refine x_goto c_Md_conclude_51 ?_
        have hdn : dnO op = 103 := by unfold dnO; first | (rw [if_pos (by omega)]) | (rw [if_neg (by omega), if_pos (by omega)]) | (rw [if_neg (by omega), if_neg (by omega), if_pos (by omega)]) | (rw [if_neg (by omega), if_neg (by omega), if_neg (by omega), if_pos (by omega)]) | (rw [if_neg (by omega), if_neg (by omega), if_neg (by omega), if_neg (by omega)])
        exact hd _ hdn _ _ _ _ _ _ _ cc
    · refine x_ci c_Md_conclude_35 ?_
      refine x_goto c_Md_conclude_37 ?_
      have hdn : dnO op = 101 := by unfold dnO; first | (rw [if_pos (by omega)]) | (rw [if_neg (by omega), if_pos (by omega)]) | (rw [if_neg (by omega), if_neg (by omega), if_pos (by omega)]) | (rw [if_neg (by omega), if_neg (by omega), if_neg (by omega), if_pos (by omega)]) | (rw [if_neg (by omega), if_neg (by omega), if_neg (by omega), if_neg (by omega)])
      exact hd _ hdn _ _ _ _ _ _ _ cc
  · refine x_ci c_Md_conclude_21 ?_
    refine x_goto c_Md_conclude_23 ?_
    have hdn : dnO op = 97 := by unfold dnO; first | (rw [if_pos (by omega)]) | (rw [if_neg (by omega), if_pos (by omega)]) | (rw [if_neg (by omega), if_neg (by omega), if_pos (by omega)]) | (rw [if_neg (by omega), if_neg (by omega), if_neg (by omega), if_pos (by omega)]) | (rw [if_neg (by omega), if_neg (by omega), if_neg (by omega), if_neg (by omega)])
    exact hd _ hdn _ _ _ _ _ _ _ cc
