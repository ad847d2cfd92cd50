/-! signing on, the class -/
def nz : Option (List tv) → Bool
  | some l => decide (0 < l.length)
  | none => false
def pwC (tb : Nat → Nat) (n : Nat) (nm pr : Nat → List tv) (o : Option (List tv)) (x y : Nat) : Nat := match o with
  | none => 34
  | some l => if l.length = 0 then (if x = y then 0 else 49) else if x = y then 53 else match fd nm l n 0 with
    | none => 49
    | some i => if (nI 102, vlS tb x y) ∈ pr i then 0 else 49
def sgK (tb : Nat → Nat) (n : Nat) (nm pr : Nat → List tv) (v : Int32) (o : Option (List tv)) (x y : Nat) : Nat := if v = nI 3 then pwC tb n nm pr o x y else 2
def sgD (tb : Nat → Nat) (n : Nat) (nm pr : Nat → List tv) (so : Bool) (v : Int32) (o : Option (List tv)) (x y : Nat) (ok : Bool) : Nat × Bool :=
  if ok = true then (sgK tb n nm pr v o x y, decide (sgK tb n nm pr v o x y = 0) && nz o) else (2, so)
theorem pwC_lt {tb : Nat → Nat} {n : Nat} {nm pr : Nat → List tv} {o : Option (List tv)} {x y : Nat} : pwC tb n nm pr o x y < 64 := by
  unfold pwC
  split
  · omega
  · split
    · split <;> omega
    · split
      · omega
      · split
        · omega
        · split <;> omega
theorem sgK_lt {tb : Nat → Nat} {n : Nat} {nm pr : Nat → List tv} {v : Int32} {o : Option (List tv)} {x y : Nat} : sgK tb n nm pr v o x y < 64 := by
  unfold sgK
  split
  · exact pwC_lt
  · omega
theorem sgD_f {tb : Nat → Nat} {n : Nat} {nm pr : Nat → List tv} {so : Bool} {v : Int32} {o : Option (List tv)} {x y : Nat} {ok : Bool} (h : ok = false) : sgD tb n nm pr so v o x y ok = (2, so) := by
  unfold sgD
  rw [h]; rfl
theorem an_f1 {c : Nat} (h : ¬ c = 0) {o : Option (List tv)} : (decide (c = 0) && nz o) = false := by rw [decide_eq_false h]; rfl
theorem an_f2 {b : Bool} {l : List tv} (h : l.length = 0) : (b && nz (some l)) = false := by
  unfold nz
  dsimp only
  rw [decide_eq_false (by omega)]; simp
theorem an_t {c : Nat} {l : List tv} (hc : c = 0) (h : 0 < l.length) : (decide (c = 0) && nz (some l)) = true := by
  unfold nz
  dsimp only
  rw [decide_eq_true hc, decide_eq_true h]; rfl
theorem sc_tg {μ μ' : kc_M} {o : Option (List tv)} (h : sc_at μ) (ht : tg_at μ' o) (hk : ∀ q, 122 ≤ q → q < 136 → μ'.1 q = μ.1 q) : sc_at μ' := by
  obtain ⟨_, ⟨c, vc, f, g, h', k, a1, a2, a3, a4, a5⟩, ⟨b1, b2, b3, b4, b5⟩, ⟨c1, c2, c3, c4, c5, d1, d2, d3, d4, d5⟩, ⟨e1, e2, e3, e4, e5, e6⟩⟩ := h
  refine ⟨?_, ⟨c, vc, f, g, h', k, (hk _ (by omega) (by omega)).trans a1, (hk _ (by omega) (by omega)).trans a2, (hk _ (by omega) (by omega)).trans a3, (hk _ (by omega) (by omega)).trans a4, (hk _ (by omega) (by omega)).trans a5⟩, ⟨b1, b2, b3, b4, (hk _ (by omega) (by omega)).trans b5⟩, ⟨c1, c2, c3, c4, c5, (hk _ (by omega) (by omega)).trans d1, (hk _ (by omega) (by omega)).trans d2, (hk _ (by omega) (by omega)).trans d3, (hk _ (by omega) (by omega)).trans d4, (hk _ (by omega) (by omega)).trans d5⟩, ⟨e1, e2, e3, (hk _ (by omega) (by omega)).trans e4, (hk _ (by omega) (by omega)).trans e5, (hk _ (by omega) (by omega)).trans e6⟩⟩
  cases o with
  | none => obtain ⟨f, g, a1, a2, a3⟩ := ht; exact ⟨_, f, g, a1, a2, a3⟩
  | some l => obtain ⟨f, g, a1, a2, a3, _⟩ := ht; exact ⟨_, f, g, a1, a2, a3⟩
theorem tg_k {μ μ' : kc_M} {o : Option (List tv)} (h : tg_at μ o) (hk : ∀ q, 119 ≤ q → q < 122 → μ'.1 q = μ.1 q) : tg_at μ' o := by
  cases o with
  | none => obtain ⟨f, g, a1, a2, a3⟩ := h; exact ⟨f, g, (hk _ (by omega) (by omega)).trans a1, (hk _ (by omega) (by omega)).trans a2, (hk _ (by omega) (by omega)).trans a3⟩
  | some l => exact nm_k h (hk _ (by omega) (by omega)) (hk _ (by omega) (by omega)) (hk _ (by omega) (by omega))
set_option maxRecDepth 100000 in
set_option maxHeartbeats 4000000 in
theorem y_Dk_passwordCode (d : Nat) {μ : kc_M} {lo so : Bool} {tb : Nat → Nat} {sz : Nat} {id : Int32} {r : RS} {n : Nat} {ad : Nat → Nat} {nm pr : Nat → List tv} (k0 : μ.1 0 = some (ce_Dk lo so)) (hr : rd_r μ tb sz id r) (hk : rok sz r) (htb : ∀ j, tb j < 256) (ht : tr_at μ n ad nm pr) {o : Option (List tv)} (hg : tg_at μ o) (hsp : r.2.2.2.1 ≤ r.2.2.2.2) (hst : r.2.2.2.2 ≤ 200) : kc_Y kt kC (d + 4) j_Dk_passwordCode [.ref 0] μ (fun v μ' => v = some (.int (nI (pwC tb n nm pr o r.2.2.2.1 r.2.2.2.2))) ∧ μ' = μ) := by
  have hk1 := hk.2.1
  have hk2 := hk.2.2
  have k1 := hr.1
  have hs1 : r.2.2.2.1 < 2 ^ 31 := by omega
  have hs2 : r.2.2.2.2 < 2 ^ 31 := by omega
  refine ⟨Nat.le_of_ble_eq_true rfl, ?_⟩
  cases o with
  | none =>
    obtain ⟨f, g, a1, a2, a3⟩ := hg
    refine x_al c_Dk_passwordCode_0 rfl ?_
    refine x_get c_Dk_passwordCode_1 (by first | rfl | exact k0 | exact k1 | exact a1) rfl ?_
    refine x_get c_Dk_passwordCode_4 (by first | rfl | exact k0 | exact k1 | exact a1) rfl ?_
    refine x_al c_Dk_passwordCode_7 rfl ?_
    refine x_get c_Dk_passwordCode_8 (by first | rfl | exact k0 | exact k1 | exact a1) rfl ?_
    refine x_get c_Dk_passwordCode_11 (by first | rfl | exact k0 | exact k1 | exact a1) rfl ?_
    first | refine x_cmN_ne c_Dk_passwordCode_14 (by omega) (by omega) (fun h14 => ?_) (fun h14 => ?_) | refine x_cm_ne c_Dk_passwordCode_14 (fun h14 => ?_) (fun h14 => ?_)
    · refine x_ci c_Dk_passwordCode_21 ?_
      refine x_is [_, _, _, _] c_Dk_passwordCode_22 rfl ?_
      refine x_al c_Dk_passwordCode_23 rfl ?_
      refine x_get c_Dk_passwordCode_24 (by first | rfl | exact k0 | exact k1 | exact a1) rfl ?_
      refine x_get c_Dk_passwordCode_27 (by first | rfl | exact k0 | exact k1 | exact a1) rfl ?_
      refine x_ci c_Dk_passwordCode_30 ?_
      refine x_cm_ne c_Dk_passwordCode_31 (fun h => absurd (rfl) h) (fun _ => ?_)
      refine x_ci c_Dk_passwordCode_34 ?_
      refine x_ri c_Dk_passwordCode_36 ?_
      exact ⟨rfl, rfl⟩
    · refine x_ci c_Dk_passwordCode_17 ?_
      refine x_goto c_Dk_passwordCode_18 ?_
      refine x_is [_, _, _, _] c_Dk_passwordCode_22 rfl ?_
      refine x_al c_Dk_passwordCode_23 rfl ?_
      refine x_get c_Dk_passwordCode_24 (by first | rfl | exact k0 | exact k1 | exact a1) rfl ?_
      refine x_get c_Dk_passwordCode_27 (by first | rfl | exact k0 | exact k1 | exact a1) rfl ?_
      refine x_ci c_Dk_passwordCode_30 ?_
      refine x_cm_ne c_Dk_passwordCode_31 (fun h => absurd (rfl) h) (fun _ => ?_)
      refine x_ci c_Dk_passwordCode_34 ?_
      refine x_ri c_Dk_passwordCode_36 ?_
      exact ⟨rfl, rfl⟩
  | some l =>
    have hn : nm_at μ 119 120 121 l := hg
    have h4 : l.length ≤ 4 := by obtain ⟨_, _, _, _, _, _, h⟩ := hn; exact h
    unfold pwC
    dsimp only
    by_cases hl : l.length = 0
    · rw [if_pos hl]
      have hn0 : μ.1 119 = some (ce_Nm 120 121 (nI 0)) := by rw [← hl]; exact nm_c hn
      refine x_al c_Dk_passwordCode_0 rfl ?_
      refine x_get c_Dk_passwordCode_1 (by first | rfl | exact k0 | exact k1 | exact hn0) rfl ?_
      refine x_get c_Dk_passwordCode_4 (by first | rfl | exact k0 | exact k1 | exact hn0) rfl ?_
      refine x_al c_Dk_passwordCode_7 rfl ?_
      refine x_get c_Dk_passwordCode_8 (by first | rfl | exact k0 | exact k1 | exact hn0) rfl ?_
      refine x_get c_Dk_passwordCode_11 (by first | rfl | exact k0 | exact k1 | exact hn0) rfl ?_
      first | refine x_cmN_ne c_Dk_passwordCode_14 (by omega) (by omega) (fun h14 => ?_) (fun h14 => ?_) | refine x_cm_ne c_Dk_passwordCode_14 (fun h14 => ?_) (fun h14 => ?_)
      · refine x_ci c_Dk_passwordCode_21 ?_
        refine x_is [_, _, _, _] c_Dk_passwordCode_22 rfl ?_
        refine x_al c_Dk_passwordCode_23 rfl ?_
        refine x_get c_Dk_passwordCode_24 (by first | rfl | exact k0 | exact k1 | exact hn0) rfl ?_
        refine x_get c_Dk_passwordCode_27 (by first | rfl | exact k0 | exact k1 | exact hn0) rfl ?_
        refine x_ci c_Dk_passwordCode_30 ?_
        refine x_cm_ne c_Dk_passwordCode_31 (fun _ => ?_) (fun h => absurd h (by decide))
        refine x_al c_Dk_passwordCode_37 rfl ?_
        refine x_get c_Dk_passwordCode_38 (by first | rfl | exact k0 | exact k1 | exact hn0) rfl ?_
        refine x_get c_Dk_passwordCode_41 (by first | rfl | exact k0 | exact k1 | exact hn0) rfl ?_
        refine x_ifN_ne c_Dk_passwordCode_44 (by omega) (fun h => (by exfalso; omega)) (fun _ => ?_)
        refine x_il c_Dk_passwordCode_47 rfl ?_
        first | refine x_ifB_eq c_Dk_passwordCode_48 (fun h48 => ?_) (fun h48 => ?_) | refine x_ifN_eq c_Dk_passwordCode_48 (by omega) (fun h48 => ?_) (fun h48 => ?_) | refine x_if_eq c_Dk_passwordCode_48 (fun h48 => ?_) (fun h48 => ?_)
        · refine x_ci c_Dk_passwordCode_55 ?_
          refine x_ri c_Dk_passwordCode_57 ?_
          first | exact absurd h48 (by decide) | exact absurd rfl h48 | exact ⟨by rw [if_pos h14] <;> rfl, rfl⟩ | exact ⟨by rw [if_neg h14] <;> rfl, rfl⟩
        · refine x_ci c_Dk_passwordCode_51 ?_
          refine x_goto c_Dk_passwordCode_52 ?_
          refine x_ri c_Dk_passwordCode_57 ?_
          first | exact absurd h48 (by decide) | exact absurd rfl h48 | exact ⟨by rw [if_pos h14] <;> rfl, rfl⟩ | exact ⟨by rw [if_neg h14] <;> rfl, rfl⟩
      · refine x_ci c_Dk_passwordCode_17 ?_
        refine x_goto c_Dk_passwordCode_18 ?_
        refine x_is [_, _, _, _] c_Dk_passwordCode_22 rfl ?_
        refine x_al c_Dk_passwordCode_23 rfl ?_
        refine x_get c_Dk_passwordCode_24 (by first | rfl | exact k0 | exact k1 | exact hn0) rfl ?_
        refine x_get c_Dk_passwordCode_27 (by first | rfl | exact k0 | exact k1 | exact hn0) rfl ?_
        refine x_ci c_Dk_passwordCode_30 ?_
        refine x_cm_ne c_Dk_passwordCode_31 (fun _ => ?_) (fun h => absurd h (by decide))
        refine x_al c_Dk_passwordCode_37 rfl ?_
        refine x_get c_Dk_passwordCode_38 (by first | rfl | exact k0 | exact k1 | exact hn0) rfl ?_
        refine x_get c_Dk_passwordCode_41 (by first | rfl | exact k0 | exact k1 | exact hn0) rfl ?_
        refine x_ifN_ne c_Dk_passwordCode_44 (by omega) (fun h => (by exfalso; omega)) (fun _ => ?_)
        refine x_il c_Dk_passwordCode_47 rfl ?_
        first | refine x_ifB_eq c_Dk_passwordCode_48 (fun h48 => ?_) (fun h48 => ?_) | refine x_ifN_eq c_Dk_passwordCode_48 (by omega) (fun h48 => ?_) (fun h48 => ?_) | refine x_if_eq c_Dk_passwordCode_48 (fun h48 => ?_) (fun h48 => ?_)
        · refine x_ci c_Dk_passwordCode_55 ?_
          refine x_ri c_Dk_passwordCode_57 ?_
          first | exact absurd h48 (by decide) | exact absurd rfl h48 | exact ⟨by rw [if_pos h14] <;> rfl, rfl⟩ | exact ⟨by rw [if_neg h14] <;> rfl, rfl⟩
        · refine x_ci c_Dk_passwordCode_51 ?_
          refine x_goto c_Dk_passwordCode_52 ?_
          refine x_ri c_Dk_passwordCode_57 ?_
          first | exact absurd h48 (by decide) | exact absurd rfl h48 | exact ⟨by rw [if_pos h14] <;> rfl, rfl⟩ | exact ⟨by rw [if_neg h14] <;> rfl, rfl⟩
    · rw [if_neg hl]
      by_cases hxy : r.2.2.2.1 = r.2.2.2.2
      · rw [if_pos hxy]
        refine x_al c_Dk_passwordCode_0 rfl ?_
        refine x_get c_Dk_passwordCode_1 (by first | rfl | exact k0 | exact k1 | exact (nm_c hn)) rfl ?_
        refine x_get c_Dk_passwordCode_4 (by first | rfl | exact k0 | exact k1 | exact (nm_c hn)) rfl ?_
        refine x_al c_Dk_passwordCode_7 rfl ?_
        refine x_get c_Dk_passwordCode_8 (by first | rfl | exact k0 | exact k1 | exact (nm_c hn)) rfl ?_
        refine x_get c_Dk_passwordCode_11 (by first | rfl | exact k0 | exact k1 | exact (nm_c hn)) rfl ?_
        refine x_cmN_ne c_Dk_passwordCode_14 (by omega) (by omega) (fun h => (by exfalso; omega)) (fun _ => ?_)
        refine x_ci c_Dk_passwordCode_17 ?_
        refine x_goto c_Dk_passwordCode_18 ?_
        refine x_is [_, _, _, _] c_Dk_passwordCode_22 rfl ?_
        refine x_al c_Dk_passwordCode_23 rfl ?_
        refine x_get c_Dk_passwordCode_24 (by first | rfl | exact k0 | exact k1 | exact (nm_c hn)) rfl ?_
        refine x_get c_Dk_passwordCode_27 (by first | rfl | exact k0 | exact k1 | exact (nm_c hn)) rfl ?_
        refine x_ci c_Dk_passwordCode_30 ?_
        refine x_cm_ne c_Dk_passwordCode_31 (fun _ => ?_) (fun h => absurd h (nI_nm1 (by omega)))
        refine x_al c_Dk_passwordCode_37 rfl ?_
        refine x_get c_Dk_passwordCode_38 (by first | rfl | exact k0 | exact k1 | exact (nm_c hn)) rfl ?_
        refine x_get c_Dk_passwordCode_41 (by first | rfl | exact k0 | exact k1 | exact (nm_c hn)) rfl ?_
        refine x_ifN_ne c_Dk_passwordCode_44 (by omega) (fun _ => ?_) (fun h => (by exfalso; omega))
        refine x_il c_Dk_passwordCode_58 rfl ?_
        refine x_if_eq c_Dk_passwordCode_59 (fun h => absurd h (by decide)) (fun _ => ?_)
        refine x_ci c_Dk_passwordCode_62 ?_
        refine x_ri c_Dk_passwordCode_64 ?_
        exact ⟨rfl, rfl⟩
      · rw [if_neg hxy]
        cases hfd : fd nm l n 0 with
        | none =>
          refine x_al c_Dk_passwordCode_0 rfl ?_
          refine x_get c_Dk_passwordCode_1 (by first | rfl | exact k0 | exact k1 | exact (nm_c hn) | exact ht.1) rfl ?_
          refine x_get c_Dk_passwordCode_4 (by first | rfl | exact k0 | exact k1 | exact (nm_c hn) | exact ht.1) rfl ?_
          refine x_al c_Dk_passwordCode_7 rfl ?_
          refine x_get c_Dk_passwordCode_8 (by first | rfl | exact k0 | exact k1 | exact (nm_c hn) | exact ht.1) rfl ?_
          refine x_get c_Dk_passwordCode_11 (by first | rfl | exact k0 | exact k1 | exact (nm_c hn) | exact ht.1) rfl ?_
          refine x_cmN_ne c_Dk_passwordCode_14 (by omega) (by omega) (fun _ => ?_) (fun h => (by exfalso; omega))
          refine x_ci c_Dk_passwordCode_21 ?_
          refine x_is [_, _, _, _] c_Dk_passwordCode_22 rfl ?_
          refine x_al c_Dk_passwordCode_23 rfl ?_
          refine x_get c_Dk_passwordCode_24 (by first | rfl | exact k0 | exact k1 | exact (nm_c hn) | exact ht.1) rfl ?_
          refine x_get c_Dk_passwordCode_27 (by first | rfl | exact k0 | exact k1 | exact (nm_c hn) | exact ht.1) rfl ?_
          refine x_ci c_Dk_passwordCode_30 ?_
          refine x_cm_ne c_Dk_passwordCode_31 (fun _ => ?_) (fun h => absurd h (nI_nm1 (by omega)))
          refine x_al c_Dk_passwordCode_37 rfl ?_
          refine x_get c_Dk_passwordCode_38 (by first | rfl | exact k0 | exact k1 | exact (nm_c hn) | exact ht.1) rfl ?_
          refine x_get c_Dk_passwordCode_41 (by first | rfl | exact k0 | exact k1 | exact (nm_c hn) | exact ht.1) rfl ?_
          refine x_ifN_ne c_Dk_passwordCode_44 (by omega) (fun _ => ?_) (fun h => (by exfalso; omega))
          refine x_il c_Dk_passwordCode_58 rfl ?_
          refine x_if_eq c_Dk_passwordCode_59 (fun _ => ?_) (fun h => absurd (rfl) h)
          refine x_al c_Dk_passwordCode_65 rfl ?_
          refine x_get c_Dk_passwordCode_66 (by first | rfl | exact k0 | exact k1 | exact (nm_c hn) | exact ht.1) rfl ?_
          refine x_al c_Dk_passwordCode_69 rfl ?_
          refine x_get c_Dk_passwordCode_70 (by first | rfl | exact k0 | exact k1 | exact (nm_c hn) | exact ht.1) rfl ?_
          refine x_ci c_Dk_passwordCode_73 ?_
          refine x_cv2z _ c_Dk_passwordCode_74 (by first | rfl | exact k0 | exact k1 | exact (nm_c hn) | exact ht.1) (Nat.le_of_ble_eq_true rfl) (y_Tr_find (d + 1) ht hn h4 (k := 0) (by omega)) ?_
          rintro _ μx ⟨rfl, hμx⟩
          have hμx := hμx.symm
          subst hμx
          show kc_X _ _ _ _ _ [.int (oI (fd nm l n 0))] _ _
          rw [hfd]
          show kc_X _ _ _ _ _ [.int (-1)] _ _
          refine x_is [_, _, _, _] c_Dk_passwordCode_77 rfl ?_
          refine x_il c_Dk_passwordCode_78 rfl ?_
          refine x_ci c_Dk_passwordCode_79 ?_
          refine x_cm_eq c_Dk_passwordCode_80 (fun _ => ?_) (fun h => absurd (rfl) h)
          refine x_ci c_Dk_passwordCode_115 ?_
          refine x_is [_, _, _, _] c_Dk_passwordCode_116 rfl ?_
          refine x_il c_Dk_passwordCode_117 rfl ?_
          refine x_if_eq c_Dk_passwordCode_118 (fun _ => ?_) (fun h => absurd (rfl) h)
          refine x_ci c_Dk_passwordCode_125 ?_
          refine x_ri c_Dk_passwordCode_127 ?_
          exact ⟨rfl, rfl⟩
        | some i =>
          have hfi := fd_in hfd
          have ht0 := ht
          obtain ⟨t1, ⟨rf, t2, t3⟩, t4, t5, t6, t7⟩ := ht0
          have e0 := t4 i (by omega)
          have hpl : (pr i).length ≤ 6 := by obtain ⟨_, _, _, _, _, _, h⟩ := e0.2.2; exact h
          have hfm := fi_mem (nI 102, vlS tb r.2.2.2.1 r.2.2.2.2) (pr i) 0 (by omega)
          dsimp only
          refine x_al c_Dk_passwordCode_0 rfl ?_
          refine x_get c_Dk_passwordCode_1 (by first | rfl | exact k0 | exact k1 | exact (nm_c hn) | exact ht.1 | exact t2 | exact e0.1 | exact (pa_c e0.2.2)) rfl ?_
          refine x_get c_Dk_passwordCode_4 (by first | rfl | exact k0 | exact k1 | exact (nm_c hn) | exact ht.1 | exact t2 | exact e0.1 | exact (pa_c e0.2.2)) rfl ?_
          refine x_al c_Dk_passwordCode_7 rfl ?_
          refine x_get c_Dk_passwordCode_8 (by first | rfl | exact k0 | exact k1 | exact (nm_c hn) | exact ht.1 | exact t2 | exact e0.1 | exact (pa_c e0.2.2)) rfl ?_
          refine x_get c_Dk_passwordCode_11 (by first | rfl | exact k0 | exact k1 | exact (nm_c hn) | exact ht.1 | exact t2 | exact e0.1 | exact (pa_c e0.2.2)) rfl ?_
          refine x_cmN_ne c_Dk_passwordCode_14 (by omega) (by omega) (fun _ => ?_) (fun h => (by exfalso; omega))
          refine x_ci c_Dk_passwordCode_21 ?_
          refine x_is [_, _, _, _] c_Dk_passwordCode_22 rfl ?_
          refine x_al c_Dk_passwordCode_23 rfl ?_
          refine x_get c_Dk_passwordCode_24 (by first | rfl | exact k0 | exact k1 | exact (nm_c hn) | exact ht.1 | exact t2 | exact e0.1 | exact (pa_c e0.2.2)) rfl ?_
          refine x_get c_Dk_passwordCode_27 (by first | rfl | exact k0 | exact k1 | exact (nm_c hn) | exact ht.1 | exact t2 | exact e0.1 | exact (pa_c e0.2.2)) rfl ?_
          refine x_ci c_Dk_passwordCode_30 ?_
          refine x_cm_ne c_Dk_passwordCode_31 (fun _ => ?_) (fun h => absurd h (nI_nm1 (by omega)))
          refine x_al c_Dk_passwordCode_37 rfl ?_
          refine x_get c_Dk_passwordCode_38 (by first | rfl | exact k0 | exact k1 | exact (nm_c hn) | exact ht.1 | exact t2 | exact e0.1 | exact (pa_c e0.2.2)) rfl ?_
          refine x_get c_Dk_passwordCode_41 (by first | rfl | exact k0 | exact k1 | exact (nm_c hn) | exact ht.1 | exact t2 | exact e0.1 | exact (pa_c e0.2.2)) rfl ?_
          refine x_ifN_ne c_Dk_passwordCode_44 (by omega) (fun _ => ?_) (fun h => (by exfalso; omega))
          refine x_il c_Dk_passwordCode_58 rfl ?_
          refine x_if_eq c_Dk_passwordCode_59 (fun _ => ?_) (fun h => absurd (rfl) h)
          refine x_al c_Dk_passwordCode_65 rfl ?_
          refine x_get c_Dk_passwordCode_66 (by first | rfl | exact k0 | exact k1 | exact (nm_c hn) | exact ht.1 | exact t2 | exact e0.1 | exact (pa_c e0.2.2)) rfl ?_
          refine x_al c_Dk_passwordCode_69 rfl ?_
          refine x_get c_Dk_passwordCode_70 (by first | rfl | exact k0 | exact k1 | exact (nm_c hn) | exact ht.1 | exact t2 | exact e0.1 | exact (pa_c e0.2.2)) rfl ?_
          refine x_ci c_Dk_passwordCode_73 ?_
          refine x_cv2z _ c_Dk_passwordCode_74 (by first | rfl | exact k0 | exact k1 | exact (nm_c hn) | exact ht.1 | exact t2 | exact e0.1 | exact (pa_c e0.2.2)) (Nat.le_of_ble_eq_true rfl) (y_Tr_find (d + 1) ht hn h4 (k := 0) (by omega)) ?_
          rintro _ μx ⟨rfl, hμx⟩
          have hμx := hμx.symm
          subst hμx
          show kc_X _ _ _ _ _ [.int (oI (fd nm l n 0))] _ _
          rw [hfd]
          show kc_X _ _ _ _ _ [.int (nI i)] _ _
          refine x_is [_, _, _, _] c_Dk_passwordCode_77 rfl ?_
          refine x_il c_Dk_passwordCode_78 rfl ?_
          refine x_ci c_Dk_passwordCode_79 ?_
          refine x_cm_eq c_Dk_passwordCode_80 (fun h => absurd h (nI_nm1 (by omega))) (fun _ => ?_)
          refine x_al c_Dk_passwordCode_83 rfl ?_
          refine x_get c_Dk_passwordCode_84 (by first | rfl | exact k0 | exact k1 | exact (nm_c hn) | exact ht.1 | exact t2 | exact e0.1 | exact (pa_c e0.2.2)) rfl ?_
          refine x_get c_Dk_passwordCode_87 (by first | rfl | exact k0 | exact k1 | exact (nm_c hn) | exact ht.1 | exact t2 | exact e0.1 | exact (pa_c e0.2.2)) rfl ?_
          refine x_il c_Dk_passwordCode_90 rfl ?_
          refine x_aaldN c_Dk_passwordCode_91 (by first | rfl | exact k0 | exact k1 | exact (nm_c hn) | exact ht.1 | exact t2 | exact e0.1 | exact (pa_c e0.2.2)) (by omega) (by omega) (t3 i (by omega)) ?_
          refine x_get c_Dk_passwordCode_92 (by first | rfl | exact k0 | exact k1 | exact (nm_c hn) | exact ht.1 | exact t2 | exact e0.1 | exact (pa_c e0.2.2)) rfl ?_
          refine x_ci c_Dk_passwordCode_95 ?_
          refine x_al c_Dk_passwordCode_97 rfl ?_
          refine x_get c_Dk_passwordCode_98 (by first | rfl | exact k0 | exact k1 | exact (nm_c hn) | exact ht.1 | exact t2 | exact e0.1 | exact (pa_c e0.2.2)) rfl ?_
          refine x_cv0z _ c_Dk_passwordCode_101 (by first | rfl | exact k0 | exact k1 | exact (nm_c hn) | exact ht.1 | exact t2 | exact e0.1 | exact (pa_c e0.2.2)) (Nat.le_of_ble_eq_true rfl) (y_Rd_spanValue d hr htb hsp hst) ?_
          rintro _ μx ⟨rfl, hμx⟩
          have hμx := hμx.symm
          subst hμx
          show kc_X _ _ _ _ _ [.long (vlS tb r.2.2.2.1 r.2.2.2.2), .int (nI 102), .ref (ad i + 4)] _ _
          refine x_cv2z _ c_Dk_passwordCode_104 (by first | rfl | exact k0 | exact k1 | exact (nm_c hn) | exact ht.1 | exact t2 | exact e0.1 | exact (pa_c e0.2.2)) (Nat.le_of_ble_eq_true rfl) (y_Pa_find (d + 2) e0.2.2 (by omega)) ?_
          rintro _ μx ⟨rfl, hμx⟩
          have hμx := hμx.symm
          subst hμx
          show kc_X _ _ _ _ _ [.int (fi (nI 102, vlS tb r.2.2.2.1 r.2.2.2.2) (pr i) 0)] _ _
          refine x_ci c_Dk_passwordCode_107 ?_
          refine x_cm_eq c_Dk_passwordCode_108 (fun h108 => ?_) (fun h108 => ?_)
          · refine x_ci c_Dk_passwordCode_115 ?_
            refine x_is [_, _, _, _] c_Dk_passwordCode_116 rfl ?_
            refine x_il c_Dk_passwordCode_117 rfl ?_
            first | refine x_ifB_eq c_Dk_passwordCode_118 (fun h118 => ?_) (fun h118 => ?_) | refine x_ifN_eq c_Dk_passwordCode_118 (by omega) (fun h118 => ?_) (fun h118 => ?_) | refine x_if_eq c_Dk_passwordCode_118 (fun h118 => ?_) (fun h118 => ?_)
            · refine x_ci c_Dk_passwordCode_125 ?_
              refine x_ri c_Dk_passwordCode_127 ?_
              first | exact absurd h118 (by decide) | exact absurd rfl h118 | exact ⟨by rw [if_neg (hfm.mp h108)], rfl⟩ | exact ⟨by rw [if_pos (Classical.not_not.mp (fun q => h108 (hfm.mpr q)))] <;> rfl, rfl⟩
            · refine x_ci c_Dk_passwordCode_121 ?_
              refine x_goto c_Dk_passwordCode_122 ?_
              refine x_ri c_Dk_passwordCode_127 ?_
              first | exact absurd h118 (by decide) | exact absurd rfl h118 | exact ⟨by rw [if_neg (hfm.mp h108)], rfl⟩ | exact ⟨by rw [if_pos (Classical.not_not.mp (fun q => h108 (hfm.mpr q)))] <;> rfl, rfl⟩
          · refine x_ci c_Dk_passwordCode_111 ?_
            refine x_goto c_Dk_passwordCode_112 ?_
            refine x_is [_, _, _, _] c_Dk_passwordCode_116 rfl ?_
            refine x_il c_Dk_passwordCode_117 rfl ?_
            first | refine x_ifB_eq c_Dk_passwordCode_118 (fun h118 => ?_) (fun h118 => ?_) | refine x_ifN_eq c_Dk_passwordCode_118 (by omega) (fun h118 => ?_) (fun h118 => ?_) | refine x_if_eq c_Dk_passwordCode_118 (fun h118 => ?_) (fun h118 => ?_)
            · refine x_ci c_Dk_passwordCode_125 ?_
              refine x_ri c_Dk_passwordCode_127 ?_
              first | exact absurd h118 (by decide) | exact absurd rfl h118 | exact ⟨by rw [if_neg (hfm.mp h108)], rfl⟩ | exact ⟨by rw [if_pos (Classical.not_not.mp (fun q => h108 (hfm.mpr q)))] <;> rfl, rfl⟩
            · refine x_ci c_Dk_passwordCode_121 ?_
              refine x_goto c_Dk_passwordCode_122 ?_
              refine x_ri c_Dk_passwordCode_127 ?_
              first | exact absurd h118 (by decide) | exact absurd rfl h118 | exact ⟨by rw [if_neg (hfm.mp h108)], rfl⟩ | exact ⟨by rw [if_pos (Classical.not_not.mp (fun q => h108 (hfm.mpr q)))] <;> rfl, rfl⟩
set_option maxRecDepth 100000 in
set_option maxHeartbeats 4000000 in
theorem y_Dk_signOn (d : Nat) {μ : kc_M} {lo so : Bool} {tb : Nat → Nat} {sz : Nat} {id : Int32} {r : RS} {n : Nat} {ad : Nat → Nat} {nm pr : Nat → List tv} (k0 : μ.1 0 = some (ce_Dk lo so)) (hr : rd_r μ tb sz id r) (hk : rok sz r) (htb : ∀ j, tb j < 256) (ht : tr_at μ n ad nm pr) (hsc : sc_at μ) : kc_Y kt kC (d + 5) j_Dk_signOn [.ref 0] μ (fun v μ' => v = some (.int (nI (sgD tb n nm pr so (vN tb r) (nmS tb (rS tb (nI 4) (rN tb r)).2.2.2.1 (rS tb (nI 4) (rN tb r)).2.2.2.2) (rS tb (nI 128) (rS tb (nI 4) (rN tb r))).2.2.2.1 (rS tb (nI 128) (rS tb (nI 4) (rN tb r))).2.2.2.2 (rD (rS tb (nI 128) (rS tb (nI 4) (rN tb r))))).1)) ∧ μ'.1 0 = some (ce_Dk lo (sgD tb n nm pr so (vN tb r) (nmS tb (rS tb (nI 4) (rN tb r)).2.2.2.1 (rS tb (nI 4) (rN tb r)).2.2.2.2) (rS tb (nI 128) (rS tb (nI 4) (rN tb r))).2.2.2.1 (rS tb (nI 128) (rS tb (nI 4) (rN tb r))).2.2.2.2 (rD (rS tb (nI 128) (rS tb (nI 4) (rN tb r))))).2) ∧ (∃ r', rd_r μ' tb sz id r' ∧ rok sz r') ∧ (∀ q, q ≠ 0 → q ≠ 1 → q < 119 ∨ 136 ≤ q → μ'.1 q = μ.1 q) ∧ sc_at μ') := by
  refine ⟨Nat.le_of_ble_eq_true rfl, ?_⟩
  refine x_al c_Dk_signOn_0 rfl ?_
  refine x_get c_Dk_signOn_1 (by first | rfl | exact k0 | exact hr.1 | exact m1 | exact hr1.1 | exact m2 | exact hr2.1 | exact hs9 | exact m3 | exact hr3.1 | exact m4 | exact hr4.1) rfl ?_
  refine x_cv0z _ c_Dk_signOn_4 (by first | rfl | exact k0 | exact hr.1 | exact m1 | exact hr1.1 | exact m2 | exact hr2.1 | exact hs9 | exact m3 | exact hr3.1 | exact m4 | exact hr4.1) (Nat.le_of_ble_eq_true rfl) (y_Rd_number (d + 1) hr hk htb) ?_
  rintro _ μ1 ⟨rfl, hr1, f1⟩
  have hk1 := (rok_N (tb := tb) hk).1
  have m1 := (f1 0 (by decide)).trans k0
  show kc_X _ _ _ _ _ [.int (vN tb r)] _ _
  refine x_is [_, _, _] c_Dk_signOn_7 rfl ?_
  refine x_al c_Dk_signOn_8 rfl ?_
  refine x_get c_Dk_signOn_9 (by first | rfl | exact k0 | exact hr.1 | exact m1 | exact hr1.1 | exact m2 | exact hr2.1 | exact hs9 | exact m3 | exact hr3.1 | exact m4 | exact hr4.1) rfl ?_
  refine x_ci c_Dk_signOn_12 ?_
  refine x_cv1z _ c_Dk_signOn_13 (by first | rfl | exact k0 | exact hr.1 | exact m1 | exact hr1.1 | exact m2 | exact hr2.1 | exact hs9 | exact m3 | exact hr3.1 | exact m4 | exact hr4.1) (Nat.le_of_ble_eq_true rfl) (y_Rd_span (d + 2) hr1 hk1 htb (tag := nI 4)) ?_
  rintro _ μ2 ⟨rfl, hr2, f2⟩
  have hk2 := rok_S (tb := tb) (tag := nI 4) hk1
  have m2 := (f2 0 (by decide)).trans m1
  have hsc2 : sc_at μ2 := sc_k hsc (fun q h1 h2 => (f2 q (by omega)).trans (f1 q (by omega)))
  have hz := hk.2.2
  have hsc2' := hsc2
  obtain ⟨⟨p9, f9, g9, hs9, _⟩, _⟩ := hsc2'
  show kc_X _ _ _ _ _ [] _ _
  refine x_al c_Dk_signOn_16 rfl ?_
  refine x_get c_Dk_signOn_17 (by first | rfl | exact k0 | exact hr.1 | exact m1 | exact hr1.1 | exact m2 | exact hr2.1 | exact hs9 | exact m3 | exact hr3.1 | exact m4 | exact hr4.1) rfl ?_
  refine x_al c_Dk_signOn_20 rfl ?_
  refine x_get c_Dk_signOn_21 (by first | rfl | exact k0 | exact hr.1 | exact m1 | exact hr1.1 | exact m2 | exact hr2.1 | exact hs9 | exact m3 | exact hr3.1 | exact m4 | exact hr4.1) rfl ?_
  refine x_cv1z _ c_Dk_signOn_24 (by first | rfl | exact k0 | exact hr.1 | exact m1 | exact hr1.1 | exact m2 | exact hr2.1 | exact hs9 | exact m3 | exact hr3.1 | exact m4 | exact hr4.1) (Nat.le_of_ble_eq_true rfl) (y_Nm_readFrom d hr2 htb hk2.2.2.1 (by omega) hsc2) ?_
  rintro _ μ3 ⟨rfl, g3, f3⟩
  have m3 := (f3 0 (by decide) (by decide) (by decide)).trans m2
  have hr3 : rd_r μ3 tb sz id (rS tb (nI 4) (rN tb r)) := ⟨(f3 1 (by decide) (by decide) (by decide)).trans hr2.1, (f3 2 (by decide) (by decide) (by decide)).trans hr2.2⟩
  show kc_X _ _ _ _ _ [] _ _
  refine x_al c_Dk_signOn_27 rfl ?_
  refine x_get c_Dk_signOn_28 (by first | rfl | exact k0 | exact hr.1 | exact m1 | exact hr1.1 | exact m2 | exact hr2.1 | exact hs9 | exact m3 | exact hr3.1 | exact m4 | exact hr4.1) rfl ?_
  refine x_ci c_Dk_signOn_31 ?_
  refine x_cv1z _ c_Dk_signOn_34 (by first | rfl | exact k0 | exact hr.1 | exact m1 | exact hr1.1 | exact m2 | exact hr2.1 | exact hs9 | exact m3 | exact hr3.1 | exact m4 | exact hr4.1) (Nat.le_of_ble_eq_true rfl) (y_Rd_span (d + 2) hr3 hk2.1 htb (tag := nI 128)) ?_
  rintro _ μ4 ⟨rfl, hr4, f4⟩
  have hk4' := rok_S (tb := tb) (tag := nI 128) hk2.1
  have hk4 := hk4'.1
  have m4 := (f4 0 (by decide)).trans m3
  have g4 := tg_k g3 (μ' := μ4) (fun q h1 h2 => f4 q (by omega))
  have hsc4 : sc_at μ4 := sc_tg hsc2 g4 (fun q h1 h2 => (f4 q (by omega)).trans (f3 q (by omega) (by omega) (by omega)))
  have ht4 := tr_k ht (μ' := μ4) (fun q h1 h2 => (f4 q (by omega)).trans ((f3 q (by omega) (by omega) (by omega)).trans ((f2 q (by omega)).trans (f1 q (by omega)))))
  generalize ho : nmS tb (rS tb (nI 4) (rN tb r)).2.2.2.1 (rS tb (nI 4) (rN tb r)).2.2.2.2 = o at g4 ⊢
  generalize hv : vN tb r = v
  show kc_X _ _ _ _ _ [] _ _
  refine x_al c_Dk_signOn_37 rfl ?_
  refine x_get c_Dk_signOn_38 (by first | rfl | exact k0 | exact hr.1 | exact m1 | exact hr1.1 | exact m2 | exact hr2.1 | exact hs9 | exact m3 | exact hr3.1 | exact m4 | exact hr4.1) rfl ?_
  refine x_cv0z _ c_Dk_signOn_41 (by first | rfl | exact k0 | exact hr.1 | exact m1 | exact hr1.1 | exact m2 | exact hr2.1 | exact hs9 | exact m3 | exact hr3.1 | exact m4 | exact hr4.1) (Nat.le_of_ble_eq_true rfl) (y_Rd_isReadWell (d + 3) hr4 hk4 htb) ?_
  rintro _ μx ⟨rfl, hμx⟩
  have hμx := hμx.symm
  subst hμx
  show kc_X _ _ _ _ _ [.int (bI (rD (rS tb (nI 128) (rS tb (nI 4) (rN tb r)))))] _ _
  rcases o with _ | l
  · have g4' := g4
    obtain ⟨f9, g9, g0⟩ := g4'
    refine x_ifB_ne c_Dk_signOn_44 (fun h44 => ?_) (fun h44 => ?_)
    · refine x_il c_Dk_signOn_49 rfl ?_
      refine x_ci c_Dk_signOn_50 ?_
      refine x_cm_ne c_Dk_signOn_51 (fun h51 => ?_) (fun h51 => ?_)
      · refine x_ci c_Dk_signOn_61 ?_
        refine x_is [_, _, _] c_Dk_signOn_62 rfl ?_
        refine x_al c_Dk_signOn_63 rfl ?_
        refine x_il c_Dk_signOn_64 rfl ?_
        refine x_ifN_ne c_Dk_signOn_65 (by omega) (fun h65 => ?_) (fun h65 => ?_)
        · refine x_ci c_Dk_signOn_82 ?_
          refine x_put [_, _, _, _, _, _, _, _, _, _] c_Dk_signOn_83 (by first | rfl | exact m4 | exact hr4.1 | exact (g0.1)) ⟨Nat.le_of_ble_eq_true rfl, by first | decide | exact kz_n _, by first | decide | exact kz_f _⟩ rfl ?_
          refine x_il c_Dk_signOn_86 rfl ?_
          refine x_ri c_Dk_signOn_87 ?_
          refine ⟨?_, ?_, ⟨_, ⟨hr4.1, hr4.2⟩, hk4⟩, (fun q q0 q1 q2 => (kc_gf q0).trans ((f4 q q1).trans ((f3 q (by omega) (by omega) (by omega)).trans ((f2 q q1).trans (f1 q q1))))), (sc_k hsc4 (fun q _ _ => kc_gf (by omega)))⟩
          · unfold sgD sgK; rw [if_pos h44]; first | (rw [if_pos h51] <;> rfl) | (rw [if_neg h51] <;> rfl)
          · refine kc_gs.trans ?_
            unfold sgD sgK
            rw [if_pos h44]
            first | rw [if_pos h51] | rw [if_neg h51]
            dsimp only
            rw [Bool.and_comm]; rfl
        · refine x_al c_Dk_signOn_68 rfl ?_
          refine x_get c_Dk_signOn_69 (by first | rfl | exact m4 | exact hr4.1 | exact (g0.1)) rfl ?_
          refine x_get c_Dk_signOn_72 (by first | rfl | exact m4 | exact hr4.1 | exact (g0.1)) rfl ?_
          refine x_if_le c_Dk_signOn_75 (fun _ => ?_) (fun h => absurd (by decide) h)
          refine x_ci c_Dk_signOn_82 ?_
          refine x_put [_, _, _, _, _, _, _, _, _, _] c_Dk_signOn_83 (by first | rfl | exact m4 | exact hr4.1 | exact (g0.1)) ⟨Nat.le_of_ble_eq_true rfl, by first | decide | exact kz_n _, by first | decide | exact kz_f _⟩ rfl ?_
          refine x_il c_Dk_signOn_86 rfl ?_
          refine x_ri c_Dk_signOn_87 ?_
          refine ⟨?_, ?_, ⟨_, ⟨hr4.1, hr4.2⟩, hk4⟩, (fun q q0 q1 q2 => (kc_gf q0).trans ((f4 q q1).trans ((f3 q (by omega) (by omega) (by omega)).trans ((f2 q q1).trans (f1 q q1))))), (sc_k hsc4 (fun q _ _ => kc_gf (by omega)))⟩
          · unfold sgD sgK; rw [if_pos h44]; first | (rw [if_pos h51] <;> rfl) | (rw [if_neg h51] <;> rfl)
          · refine kc_gs.trans ?_
            unfold sgD sgK
            rw [if_pos h44]
            first | rw [if_pos h51] | rw [if_neg h51]
            dsimp only
            rw [Bool.and_comm]; rfl
      · refine x_al c_Dk_signOn_54 rfl ?_
        refine x_cv0z _ c_Dk_signOn_55 (by first | rfl | exact m4 | exact hr4.1 | exact (g0.1)) (Nat.le_of_ble_eq_true rfl) (y_Dk_passwordCode d m4 hr4 hk4 htb ht4 g4 hk4'.2.2.1 (by have := hk4'.2.2.2.1; omega)) ?_
        rintro _ μx ⟨rfl, hμx⟩
        have hμx := hμx.symm
        subst hμx
        show kc_X _ _ _ _ _ [.int (nI (pwC tb n nm pr none (rS tb (nI 128) (rS tb (nI 4) (rN tb r))).2.2.2.1 (rS tb (nI 128) (rS tb (nI 4) (rN tb r))).2.2.2.2))] _ _
        have hlt := pwC_lt (tb := tb) (n := n) (nm := nm) (pr := pr) (o := none) (x := (rS tb (nI 128) (rS tb (nI 4) (rN tb r))).2.2.2.1) (y := (rS tb (nI 128) (rS tb (nI 4) (rN tb r))).2.2.2.2)
        refine x_goto c_Dk_signOn_58 ?_
        refine x_is [_, _, _] c_Dk_signOn_62 rfl ?_
        refine x_al c_Dk_signOn_63 rfl ?_
        refine x_il c_Dk_signOn_64 rfl ?_
        refine x_ifN_ne c_Dk_signOn_65 (by omega) (fun h65 => ?_) (fun h65 => ?_)
        · refine x_ci c_Dk_signOn_82 ?_
          refine x_put [_, _, _, _, _, _, _, _, _, _] c_Dk_signOn_83 (by first | rfl | exact m4 | exact hr4.1 | exact (g0.1)) ⟨Nat.le_of_ble_eq_true rfl, by first | decide | exact kz_n _, by first | decide | exact kz_f _⟩ rfl ?_
          refine x_il c_Dk_signOn_86 rfl ?_
          refine x_ri c_Dk_signOn_87 ?_
          refine ⟨?_, ?_, ⟨_, ⟨hr4.1, hr4.2⟩, hk4⟩, (fun q q0 q1 q2 => (kc_gf q0).trans ((f4 q q1).trans ((f3 q (by omega) (by omega) (by omega)).trans ((f2 q q1).trans (f1 q q1))))), (sc_k hsc4 (fun q _ _ => kc_gf (by omega)))⟩
          · unfold sgD sgK; rw [if_pos h44]; first | (rw [if_pos h51] <;> rfl) | (rw [if_neg h51] <;> rfl)
          · refine kc_gs.trans ?_
            unfold sgD sgK
            rw [if_pos h44]
            first | rw [if_pos h51] | rw [if_neg h51]
            dsimp only
            rw [Bool.and_comm]; rfl
        · refine x_al c_Dk_signOn_68 rfl ?_
          refine x_get c_Dk_signOn_69 (by first | rfl | exact m4 | exact hr4.1 | exact (g0.1)) rfl ?_
          refine x_get c_Dk_signOn_72 (by first | rfl | exact m4 | exact hr4.1 | exact (g0.1)) rfl ?_
          refine x_if_le c_Dk_signOn_75 (fun _ => ?_) (fun h => absurd (by decide) h)
          refine x_ci c_Dk_signOn_82 ?_
          refine x_put [_, _, _, _, _, _, _, _, _, _] c_Dk_signOn_83 (by first | rfl | exact m4 | exact hr4.1 | exact (g0.1)) ⟨Nat.le_of_ble_eq_true rfl, by first | decide | exact kz_n _, by first | decide | exact kz_f _⟩ rfl ?_
          refine x_il c_Dk_signOn_86 rfl ?_
          refine x_ri c_Dk_signOn_87 ?_
          refine ⟨?_, ?_, ⟨_, ⟨hr4.1, hr4.2⟩, hk4⟩, (fun q q0 q1 q2 => (kc_gf q0).trans ((f4 q q1).trans ((f3 q (by omega) (by omega) (by omega)).trans ((f2 q q1).trans (f1 q q1))))), (sc_k hsc4 (fun q _ _ => kc_gf (by omega)))⟩
          · unfold sgD sgK; rw [if_pos h44]; first | (rw [if_pos h51] <;> rfl) | (rw [if_neg h51] <;> rfl)
          · refine kc_gs.trans ?_
            unfold sgD sgK
            rw [if_pos h44]
            first | rw [if_pos h51] | rw [if_neg h51]
            dsimp only
            rw [Bool.and_comm]; rfl
    · refine x_ci c_Dk_signOn_47 ?_
      refine x_ri c_Dk_signOn_48 ?_
      exact ⟨by rw [sgD_f h44], by rw [sgD_f h44]; exact m4, ⟨_, hr4, hk4⟩, (fun q q0 q1 q2 => (f4 q q1).trans ((f3 q (by omega) (by omega) (by omega)).trans ((f2 q q1).trans (f1 q q1)))), hsc4⟩
  · have g0 : nm_at μ4 119 120 121 l := g4
    have h4 : l.length ≤ 4 := by obtain ⟨_, _, _, _, _, _, h⟩ := g0; exact h
    refine x_ifB_ne c_Dk_signOn_44 (fun h44 => ?_) (fun h44 => ?_)
    · refine x_il c_Dk_signOn_49 rfl ?_
      refine x_ci c_Dk_signOn_50 ?_
      refine x_cm_ne c_Dk_signOn_51 (fun h51 => ?_) (fun h51 => ?_)
      · refine x_ci c_Dk_signOn_61 ?_
        refine x_is [_, _, _] c_Dk_signOn_62 rfl ?_
        refine x_al c_Dk_signOn_63 rfl ?_
        refine x_il c_Dk_signOn_64 rfl ?_
        refine x_ifN_ne c_Dk_signOn_65 (by omega) (fun h65 => ?_) (fun h65 => ?_)
        · refine x_ci c_Dk_signOn_82 ?_
          refine x_put [_, _, _, _, _, _, _, _, _, _] c_Dk_signOn_83 (by first | rfl | exact m4 | exact hr4.1 | exact (nm_c g0)) ⟨Nat.le_of_ble_eq_true rfl, by first | decide | exact kz_n _, by first | decide | exact kz_f _⟩ rfl ?_
          refine x_il c_Dk_signOn_86 rfl ?_
          refine x_ri c_Dk_signOn_87 ?_
          refine ⟨?_, ?_, ⟨_, ⟨hr4.1, hr4.2⟩, hk4⟩, (fun q q0 q1 q2 => (kc_gf q0).trans ((f4 q q1).trans ((f3 q (by omega) (by omega) (by omega)).trans ((f2 q q1).trans (f1 q q1))))), (sc_k hsc4 (fun q _ _ => kc_gf (by omega)))⟩
          · unfold sgD sgK; rw [if_pos h44]; first | (rw [if_pos h51] <;> rfl) | (rw [if_neg h51] <;> rfl)
          · refine kc_gs.trans ?_
            unfold sgD sgK
            rw [if_pos h44]
            first | rw [if_pos h51] | rw [if_neg h51]
            dsimp only
            first | exact absurd h65 (by decide) | (rw [an_f1 h65]; rfl) | (rw [an_t h65 h75]; rfl) | (rw [an_f2 h75]; rfl)
        · refine x_al c_Dk_signOn_68 rfl ?_
          refine x_get c_Dk_signOn_69 (by first | rfl | exact m4 | exact hr4.1 | exact (nm_c g0)) rfl ?_
          refine x_get c_Dk_signOn_72 (by first | rfl | exact m4 | exact hr4.1 | exact (nm_c g0)) rfl ?_
          refine x_ifN_le c_Dk_signOn_75 (by omega) (fun h75 => ?_) (fun h75 => ?_)
          · refine x_ci c_Dk_signOn_82 ?_
            refine x_put [_, _, _, _, _, _, _, _, _, _] c_Dk_signOn_83 (by first | rfl | exact m4 | exact hr4.1 | exact (nm_c g0)) ⟨Nat.le_of_ble_eq_true rfl, by first | decide | exact kz_n _, by first | decide | exact kz_f _⟩ rfl ?_
            refine x_il c_Dk_signOn_86 rfl ?_
            refine x_ri c_Dk_signOn_87 ?_
            refine ⟨?_, ?_, ⟨_, ⟨hr4.1, hr4.2⟩, hk4⟩, (fun q q0 q1 q2 => (kc_gf q0).trans ((f4 q q1).trans ((f3 q (by omega) (by omega) (by omega)).trans ((f2 q q1).trans (f1 q q1))))), (sc_k hsc4 (fun q _ _ => kc_gf (by omega)))⟩
            · unfold sgD sgK; rw [if_pos h44]; first | (rw [if_pos h51] <;> rfl) | (rw [if_neg h51] <;> rfl)
            · refine kc_gs.trans ?_
              unfold sgD sgK
              rw [if_pos h44]
              first | rw [if_pos h51] | rw [if_neg h51]
              dsimp only
              first | exact absurd h65 (by decide) | (rw [an_f1 h65]; rfl) | (rw [an_t h65 h75]; rfl) | (rw [an_f2 h75]; rfl)
          · refine x_ci c_Dk_signOn_78 ?_
            refine x_goto c_Dk_signOn_79 ?_
            refine x_put [_, _, _, _, _, _, _, _, _, _] c_Dk_signOn_83 (by first | rfl | exact m4 | exact hr4.1 | exact (nm_c g0)) ⟨Nat.le_of_ble_eq_true rfl, by first | decide | exact kz_n _, by first | decide | exact kz_f _⟩ rfl ?_
            refine x_il c_Dk_signOn_86 rfl ?_
            refine x_ri c_Dk_signOn_87 ?_
            refine ⟨?_, ?_, ⟨_, ⟨hr4.1, hr4.2⟩, hk4⟩, (fun q q0 q1 q2 => (kc_gf q0).trans ((f4 q q1).trans ((f3 q (by omega) (by omega) (by omega)).trans ((f2 q q1).trans (f1 q q1))))), (sc_k hsc4 (fun q _ _ => kc_gf (by omega)))⟩
            · unfold sgD sgK; rw [if_pos h44]; first | (rw [if_pos h51] <;> rfl) | (rw [if_neg h51] <;> rfl)
            · refine kc_gs.trans ?_
              unfold sgD sgK
              rw [if_pos h44]
              first | rw [if_pos h51] | rw [if_neg h51]
              dsimp only
              first | exact absurd h65 (by decide) | (rw [an_f1 h65]; rfl) | (rw [an_t h65 h75]; rfl) | (rw [an_f2 h75]; rfl)
      · refine x_al c_Dk_signOn_54 rfl ?_
        refine x_cv0z _ c_Dk_signOn_55 (by first | rfl | exact m4 | exact hr4.1 | exact (nm_c g0)) (Nat.le_of_ble_eq_true rfl) (y_Dk_passwordCode d m4 hr4 hk4 htb ht4 g4 hk4'.2.2.1 (by have := hk4'.2.2.2.1; omega)) ?_
        rintro _ μx ⟨rfl, hμx⟩
        have hμx := hμx.symm
        subst hμx
        show kc_X _ _ _ _ _ [.int (nI (pwC tb n nm pr (some l) (rS tb (nI 128) (rS tb (nI 4) (rN tb r))).2.2.2.1 (rS tb (nI 128) (rS tb (nI 4) (rN tb r))).2.2.2.2))] _ _
        have hlt := pwC_lt (tb := tb) (n := n) (nm := nm) (pr := pr) (o := (some l)) (x := (rS tb (nI 128) (rS tb (nI 4) (rN tb r))).2.2.2.1) (y := (rS tb (nI 128) (rS tb (nI 4) (rN tb r))).2.2.2.2)
        refine x_goto c_Dk_signOn_58 ?_
        refine x_is [_, _, _] c_Dk_signOn_62 rfl ?_
        refine x_al c_Dk_signOn_63 rfl ?_
        refine x_il c_Dk_signOn_64 rfl ?_
        refine x_ifN_ne c_Dk_signOn_65 (by omega) (fun h65 => ?_) (fun h65 => ?_)
        · refine x_ci c_Dk_signOn_82 ?_
          refine x_put [_, _, _, _, _, _, _, _, _, _] c_Dk_signOn_83 (by first | rfl | exact m4 | exact hr4.1 | exact (nm_c g0)) ⟨Nat.le_of_ble_eq_true rfl, by first | decide | exact kz_n _, by first | decide | exact kz_f _⟩ rfl ?_
          refine x_il c_Dk_signOn_86 rfl ?_
          refine x_ri c_Dk_signOn_87 ?_
          refine ⟨?_, ?_, ⟨_, ⟨hr4.1, hr4.2⟩, hk4⟩, (fun q q0 q1 q2 => (kc_gf q0).trans ((f4 q q1).trans ((f3 q (by omega) (by omega) (by omega)).trans ((f2 q q1).trans (f1 q q1))))), (sc_k hsc4 (fun q _ _ => kc_gf (by omega)))⟩
          · unfold sgD sgK; rw [if_pos h44]; first | (rw [if_pos h51] <;> rfl) | (rw [if_neg h51] <;> rfl)
          · refine kc_gs.trans ?_
            unfold sgD sgK
            rw [if_pos h44]
            first | rw [if_pos h51] | rw [if_neg h51]
            dsimp only
            first | exact absurd h65 (by decide) | (rw [an_f1 h65]; rfl) | (rw [an_t h65 h75]; rfl) | (rw [an_f2 h75]; rfl)
        · refine x_al c_Dk_signOn_68 rfl ?_
          refine x_get c_Dk_signOn_69 (by first | rfl | exact m4 | exact hr4.1 | exact (nm_c g0)) rfl ?_
          refine x_get c_Dk_signOn_72 (by first | rfl | exact m4 | exact hr4.1 | exact (nm_c g0)) rfl ?_
          refine x_ifN_le c_Dk_signOn_75 (by omega) (fun h75 => ?_) (fun h75 => ?_)
          · refine x_ci c_Dk_signOn_82 ?_
            refine x_put [_, _, _, _, _, _, _, _, _, _] c_Dk_signOn_83 (by first | rfl | exact m4 | exact hr4.1 | exact (nm_c g0)) ⟨Nat.le_of_ble_eq_true rfl, by first | decide | exact kz_n _, by first | decide | exact kz_f _⟩ rfl ?_
            refine x_il c_Dk_signOn_86 rfl ?_
            refine x_ri c_Dk_signOn_87 ?_
            refine ⟨?_, ?_, ⟨_, ⟨hr4.1, hr4.2⟩, hk4⟩, (fun q q0 q1 q2 => (kc_gf q0).trans ((f4 q q1).trans ((f3 q (by omega) (by omega) (by omega)).trans ((f2 q q1).trans (f1 q q1))))), (sc_k hsc4 (fun q _ _ => kc_gf (by omega)))⟩
            · unfold sgD sgK; rw [if_pos h44]; first | (rw [if_pos h51] <;> rfl) | (rw [if_neg h51] <;> rfl)
            · refine kc_gs.trans ?_
              unfold sgD sgK
              rw [if_pos h44]
              first | rw [if_pos h51] | rw [if_neg h51]
              dsimp only
              first | exact absurd h65 (by decide) | (rw [an_f1 h65]; rfl) | (rw [an_t h65 h75]; rfl) | (rw [an_f2 h75]; rfl)
          · refine x_ci c_Dk_signOn_78 ?_
            refine x_goto c_Dk_signOn_79 ?_
            refine x_put [_, _, _, _, _, _, _, _, _, _] c_Dk_signOn_83 (by first | rfl | exact m4 | exact hr4.1 | exact (nm_c g0)) ⟨Nat.le_of_ble_eq_true rfl, by first | decide | exact kz_n _, by first | decide | exact kz_f _⟩ rfl ?_
            refine x_il c_Dk_signOn_86 rfl ?_
            refine x_ri c_Dk_signOn_87 ?_
            refine ⟨?_, ?_, ⟨_, ⟨hr4.1, hr4.2⟩, hk4⟩, (fun q q0 q1 q2 => (kc_gf q0).trans ((f4 q q1).trans ((f3 q (by omega) (by omega) (by omega)).trans ((f2 q q1).trans (f1 q q1))))), (sc_k hsc4 (fun q _ _ => kc_gf (by omega)))⟩
            · unfold sgD sgK; rw [if_pos h44]; first | (rw [if_pos h51] <;> rfl) | (rw [if_neg h51] <;> rfl)
            · refine kc_gs.trans ?_
              unfold sgD sgK
              rw [if_pos h44]
              first | rw [if_pos h51] | rw [if_neg h51]
              dsimp only
              first | exact absurd h65 (by decide) | (rw [an_f1 h65]; rfl) | (rw [an_t h65 h75]; rfl) | (rw [an_f2 h75]; rfl)
    · refine x_ci c_Dk_signOn_47 ?_
      refine x_ri c_Dk_signOn_48 ?_
      exact ⟨by rw [sgD_f h44], by rw [sgD_f h44]; exact m4, ⟨_, hr4, hk4⟩, (fun q q0 q1 q2 => (f4 q q1).trans ((f3 q (by omega) (by omega) (by omega)).trans ((f2 q q1).trans (f1 q q1)))), hsc4⟩
