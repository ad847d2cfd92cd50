/-! the class handles a message -/
def opJ {α : Type} (so : Bool) (tb : Nat → Nat) (q : Option (Nat × Nat × List cg)) (f : List tv → List cg → Nat × Option α) : Nat × Option α := match q with
  | none => (2, none)
  | some (x2, y2, cs) => if chC so (nmS tb x2 y2) true = 0 then f ((nmS tb x2 y2).getD []) cs else (chC so (nmS tb x2 y2) true, none)
def opN (tb : Nat → Nat) (q : Option (Nat × Nat × List cg)) : Option (List tv) := match q with
  | none => none
  | some (x2, y2, _) => nmS tb x2 y2
theorem op_join {α : Type} {tb : Nat → Nat} (htb : ∀ j, tb j < 256) {kb so : Bool} {r : RS} (hw : r.2.2.1 = false) (f : List tv → List cg → Nat × Option α) : opK so (nmS tb (rS tb (nI 4) r).2.2.2.1 (rS tb (nI 4) r).2.2.2.2) (rD (rcF tb kb (rS tb (nI 4) r)).1) (fun l => f l (rcF tb kb (rS tb (nI 4) r)).2) = opJ so tb (acS tb kb r.1 r.2.1) f ∧ (∀ x2 y2 cs, acS tb kb r.1 r.2.1 = some (x2, y2, cs) → nmS tb (rS tb (nI 4) r).2.2.2.1 (rS tb (nI 4) r).2.2.2.2 = nmS tb x2 y2) := by
  have hre := rs_eta (r := r) rfl rfl hw
  cases hq : acS tb kb r.1 r.2.1 with
  | none =>
    have h := ac_no htb (sf := r.2.2.2.1) (st := r.2.2.2.2) hq
    rw [← hre] at h
    refine ⟨?_, fun _ _ _ q => by cases q⟩
    unfold opK opJ
    rw [chC_2 h, if_neg (by decide)]
  | some q =>
    obtain ⟨x2, y2, cs⟩ := q
    have h := ac_ok htb (sf := r.2.2.2.1) (st := r.2.2.2.2) hq
    rw [← hre] at h
    obtain ⟨h1, h2, h3, h4⟩ := h
    refine ⟨?_, fun x y c q => by cases q; rw [h1, h2]⟩
    unfold opK opJ
    rw [h1, h2, h3, h4]
/-- what an operation says, and what it leaves -/
abbrev ORes : Type := Nat × Bool × Nat × (Nat → List tv) × (Nat → List tv) × List Int32 × Option (List tv)
def oRes (tb : Nat → Nat) (so : Bool) (n : Nat) (nm pr : Nat → List tv) (k c sz op : Nat) : ORes :=
  if op = 96 then ((sgC tb n nm pr so c sz).1, (sgC tb n nm pr so c sz).2, n, nm, pr, [], none)
  else if op = 99 then ((seK tb n nm pr k [] (seS tb c sz)).1, so, n, nm, pr, (seK tb n nm pr k [] (seS tb c sz)).2, seN tb (seS tb c sz))
  else if op = 102 then ((opJ so tb (acS tb true c sz) (fun l cs => moK n nm pr l cs)).1, so, n, nm, moF pr (opJ so tb (acS tb true c sz) (fun l cs => moK n nm pr l cs)).2, [], opN tb (acS tb true c sz))
  else if op = 104 then ((opJ so tb (acS tb false c sz) (fun l cs => adK n nm l cs)).1, so, adN n (opJ so tb (acS tb false c sz) (fun l cs => adK n nm l cs)).2, adF n (fun _ => (opN tb (acS tb false c sz)).getD []) nm (opJ so tb (acS tb false c sz) (fun l cs => adK n nm l cs)).2, adF n (fun p => p) pr (opJ so tb (acS tb false c sz) (fun l cs => adK n nm l cs)).2, [], opN tb (acS tb false c sz))
  else ((dlC so n nm (nmS tb c sz)).1, so, dn n (dlC so n nm (nmS tb c sz)).2, (fun i => nm (dr n (dlC so n nm (nmS tb c sz)).2 i)), (fun i => pr (dr n (dlC so n nm (nmS tb c sz)).2 i)), [], nmS tb c sz)
def cPo (μ μ' : kc_M) (tb : Nat → Nat) (sz k : Nat) (R : ORes) : Prop :=
  μ'.1 0 = some (ce_Dk true R.2.1) ∧ (∃ r', rd_r μ' tb sz (nI k) r') ∧ (∃ ad', tr_at μ' R.2.2.1 ad' R.2.2.2.1 R.2.2.2.2.1) ∧ wL μ' R.2.2.2.2.2.1 ∧ R.2.2.2.2.2.1.length ≤ 284 ∧ sc_at μ' ∧ (R.1 = 32 → ∃ l, R.2.2.2.2.2.2 = some l ∧ nm_at μ' 119 120 121 l) ∧ R.1 < 256 ∧ ∀ q, 136 ≤ q → μ'.1 q = μ.1 q
/-- the whole answer -/
def oAll (R : ORes) (k op : Nat) : List Int32 := R.2.2.2.2.2.1 ++ cB k (dnO op) R.1 (if R.1 = 32 then naL R.2.2.2.1 (R.2.2.2.2.2.2.getD []) R.2.2.1 else [])
theorem wL_k {μ μ' : kc_M} {L : List Int32} (h : wL μ L) (h3 : μ'.1 3 = μ.1 3) (h4 : μ'.1 4 = μ.1 4) : wL μ' L := by
  obtain ⟨w, ⟨a, b⟩, c⟩ := h
  exact ⟨w, ⟨h3.trans a, h4.trans b⟩, c⟩
theorem adF_n {n : Nat} {x y : List tv → List tv} {f : Nat → List tv} {q : Option (List tv)} (h : ∀ a, q = some a → x a = y a) : adF n x f q = adF n y f q := by
  cases q with
  | none => rfl
  | some a =>
    show (fun i => if i = n then x a else f i) = (fun i => if i = n then y a else f i)
    rw [h a rfl]
theorem adK_lt {n : Nat} {nm : Nat → List tv} {l : List tv} {cs : List cg} (h : (apl cs []).1 < 64) : (adK n nm l cs).1 < 256 := by
  unfold adK
  split
  · split
    · show 32 < 256; omega
    · split
      · split
        · split
          · show 53 < 256; omega
          · show 0 < 256; omega
        · show 64 < 256; omega
      · show (apl cs []).1 < 256; omega
  · show 68 < 256; omega
theorem moK_lt {n : Nat} {nm pr : Nat → List tv} {l : List tv} {cs : List cg} (h : ∀ e, (apl cs (pr e)).1 < 64) : (moK n nm pr l cs).1 < 256 := by
  unfold moK
  split
  · show 32 < 256; omega
  · rename_i e _
    have := h e
    split
    · split
      · split
        · show 53 < 256; omega
        · show 0 < 256; omega
      · show 67 < 256; omega
    · show (apl cs (pr e)).1 < 256; omega
theorem apv_lt {k : Nat} {t : Int32} : ∀ (vs : List Int64) (l : List tv), (apv k t vs l).1 < 64
  | [], l => by show 0 < 64; omega
  | v :: vs, l => by
    rw [apv_s]
    split
    · show 21 < 64; omega
    · split
      · split
        · exact apv_lt vs _
        · show 16 < 64; omega
      · split
        · show 20 < 64; omega
        · exact apv_lt vs _
theorem ap1_lt (c : cg) (l : List tv) : (ap1 c l).1 < 64 := by
  unfold ap1
  split
  · show 17 < 64; omega
  · split
    · split
      · show 16 < 64; omega
      · exact apv_lt _ _
    · exact apv_lt _ _
theorem apl_lt : ∀ (cs : List cg) (l : List tv), (apl cs l).1 < 64
  | [], l => by show 0 < 64; omega
  | c :: cs, l => by
    rw [apl_s]
    split
    · exact apl_lt cs _
    · exact ap1_lt c l
theorem opJ_lt {α : Type} {so : Bool} {tb : Nat → Nat} {q : Option (Nat × Nat × List cg)} {f : List tv → List cg → Nat × Option α} (h : ∀ l cs, (f l cs).1 < 256) : (opJ so tb q f).1 < 256 := by
  unfold opJ
  split
  · show 2 < 256; omega
  · split
    · exact h _ _
    · dsimp only; exact Nat.lt_trans chC_lt (by decide)
theorem dlC_lt {so : Bool} {n : Nat} {nm : Nat → List tv} {q : Option (List tv)} : (dlC so n nm q).1 < 256 := by
  unfold dlC
  split
  · split
    · split
      · show 34 < 256; omega
      · split
        · show 32 < 256; omega
        · split
          · show 66 < 256; omega
          · show 0 < 256; omega
    · show 34 < 256; omega
  · show 50 < 256; omega
theorem sgC_lt {tb : Nat → Nat} {n : Nat} {nm pr : Nat → List tv} {so : Bool} {c e : Nat} : (sgC tb n nm pr so c e).1 < 256 ∧ (sgC tb n nm pr so c e).1 ≠ 32 := by
  have key : ∀ v q x y, (sgD tb n nm pr so v q x y true).1 < 256 ∧ (sgD tb n nm pr so v q x y true).1 ≠ 32 := by
    intro v q x y
    unfold sgD
    rw [if_pos rfl]
    show sgK tb n nm pr v q x y < 256 ∧ sgK tb n nm pr v q x y ≠ 32
    unfold sgK
    split
    · unfold pwC
      split
      · omega
      · split
        · split <;> omega
        · split
          · omega
          · split
            · omega
            · split <;> omega
    · omega
  unfold sgC
  split
  · exact ⟨by show 2 < 256; omega, by show 2 ≠ 32; omega⟩
  · exact key _ _ _ _
/-- code 32 of adding, modifying, deleting: there is a name -/
theorem opJ_32 {α : Type} {so : Bool} {tb : Nat → Nat} {q : Option (Nat × Nat × List cg)} {f : List tv → List cg → Nat × Option α} (h : (opJ so tb q f).1 = 32) : ∃ l, opN tb q = some l := by
  unfold opJ at h
  unfold opN
  split at h
  · exact absurd (show 2 = 32 from h) (by decide)
  · split at h
    · rename_i hz
      obtain ⟨l, hl, _⟩ := chC_z hz
      exact ⟨l, hl⟩
    · exfalso
      rename_i x2 y2 cs _
      have h : chC so (nmS tb x2 y2) true = 32 := h
      unfold chC at h
      split at h
      · split at h
        · split at h
          · split at h <;> omega
          · omega
        · omega
      · omega
theorem dlC_32 {so : Bool} {n : Nat} {nm : Nat → List tv} {q : Option (List tv)} (h : (dlC so n nm q).1 = 32) : ∃ l, q = some l := by
  cases q with
  | some l => exact ⟨l, rfl⟩
  | none =>
    exfalso
    unfold dlC at h
    split at h
    · exact absurd (show 34 = 32 from h) (by decide)
    · exact absurd (show 50 = 32 from h) (by decide)
set_option maxRecDepth 100000 in
set_option maxHeartbeats 4000000 in
theorem y_Dk_conclude0 (d : Nat) {μ : kc_M} {lo so : Bool} {sz at_ en : Nat} {wr : Bool} {k : Nat} {sf st : Nat} (k0 : μ.1 0 = some (ce_Dk lo so)) (k1 : μ.1 1 = some (ce_Rd sz at_ en wr (nI k) sf st)) (hk : k < 2 ^ 31) {dn code : Nat} (hc : code < 256) (h32 : ¬ code = 32) {L : List Int32} (h : wL μ L) (hL : L.length + 61 ≤ 460) : kc_Y kt kC (d + 4) j_Dk_conclude [.ref 0, .int (nI dn), .int (nI code)] μ (fun v μ' => v = none ∧ wC μ μ' (L ++ cB k dn code [])) := by
  refine ⟨Nat.le_of_ble_eq_true rfl, ?_⟩
  have cc := wC.re h
  have hid := idB_len k
  refine x_al c_Dk_conclude_0 rfl ?_
  refine x_get c_Dk_conclude_1 (by first | rfl | exact k0 | exact k1 | exact cc.o) rfl ?_
  refine x_ci c_Dk_conclude_4 ?_
  refine x_cv1z _ c_Dk_conclude_6 (by first | rfl | exact k0 | exact k1 | exact cc.o) (Nat.le_of_ble_eq_true rfl) (y_Wr_begin (d + 1) cc.1 (by first | omega | (simp only [eb, List.length_append, List.length_cons, List.length_nil]; omega))) ?_
  rintro _ μ1 ⟨rfl, c1⟩
  have cc := cc.to c1
  have k0 := (c1.2 0 (by decide) (by decide)).trans k0
  have k1 := (c1.2 1 (by decide) (by decide)).trans k1
  show kc_X _ _ _ _ _ [.int (nI (L.length + 2))] _ _
  refine x_is [_, _, _, _, _, _, _] c_Dk_conclude_9 rfl ?_
  refine x_al c_Dk_conclude_10 rfl ?_
  refine x_get c_Dk_conclude_11 (by first | rfl | exact k0 | exact k1 | exact cc.o) rfl ?_
  refine x_al c_Dk_conclude_14 rfl ?_
  refine x_get c_Dk_conclude_15 (by first | rfl | exact k0 | exact k1 | exact cc.o) rfl ?_
  refine x_get c_Dk_conclude_18 (by first | rfl | exact k0 | exact k1 | exact cc.o) rfl ?_
  refine x_cv1z _ c_Dk_conclude_21 (by first | rfl | exact k0 | exact k1 | exact cc.o) (Nat.le_of_ble_eq_true rfl) (y_Wr_number d cc.1 (by first | omega | (simp only [eb, List.length_append, List.length_cons, List.length_nil]; omega)) hk) ?_
  rintro _ μ2 ⟨rfl, c2⟩
  have cc := cc.to c2
  have k0 := (c2.2 0 (by decide) (by decide)).trans k0
  have k1 := (c2.2 1 (by decide) (by decide)).trans k1
  show kc_X _ _ _ _ _ [] _ _
  refine x_al c_Dk_conclude_24 rfl ?_
  refine x_get c_Dk_conclude_25 (by first | rfl | exact k0 | exact k1 | exact cc.o) rfl ?_
  refine x_il c_Dk_conclude_28 rfl ?_
  refine x_cv1z _ c_Dk_conclude_29 (by first | rfl | exact k0 | exact k1 | exact cc.o) (Nat.le_of_ble_eq_true rfl) (y_Wr_begin (d + 1) cc.1 (by first | omega | (simp only [eb, List.length_append, List.length_cons, List.length_nil]; omega))) ?_
  rintro _ μ3 ⟨rfl, c3⟩
  have cc := cc.to c3
  have k0 := (c3.2 0 (by decide) (by decide)).trans k0
  have k1 := (c3.2 1 (by decide) (by decide)).trans k1
  show kc_X _ _ _ _ _ [.int (nI (((L ++ [nI 48, nI 0]) ++ eb (nI 2) (idB k)).length + 2))] _ _
  refine x_is [_, _, _, _, _, _, _] c_Dk_conclude_32 rfl ?_
  refine x_al c_Dk_conclude_34 rfl ?_
  refine x_get c_Dk_conclude_35 (by first | rfl | exact k0 | exact k1 | exact cc.o) rfl ?_
  refine x_ci c_Dk_conclude_38 ?_
  refine x_cv1z _ c_Dk_conclude_40 (by first | rfl | exact k0 | exact k1 | exact cc.o) (Nat.le_of_ble_eq_true rfl) (y_Wr_begin (d + 1) cc.1 (by first | omega | (simp only [eb, List.length_append, List.length_cons, List.length_nil]; omega))) ?_
  rintro _ μ4 ⟨rfl, c4⟩
  have cc := cc.to c4
  have k0 := (c4.2 0 (by decide) (by decide)).trans k0
  have k1 := (c4.2 1 (by decide) (by decide)).trans k1
  show kc_X _ _ _ _ _ [.int (nI ((((L ++ [nI 48, nI 0]) ++ eb (nI 2) (idB k)) ++ [nI dn, nI 0]).length + 2))] _ _
  refine x_is [_, _, _, _, _, _, _] c_Dk_conclude_43 rfl ?_
  refine x_al c_Dk_conclude_45 rfl ?_
  refine x_get c_Dk_conclude_46 (by first | rfl | exact k0 | exact k1 | exact cc.o) rfl ?_
  refine x_il c_Dk_conclude_49 rfl ?_
  refine x_cv1z _ c_Dk_conclude_50 (by first | rfl | exact k0 | exact k1 | exact cc.o) (Nat.le_of_ble_eq_true rfl) (y_Wr_put (d + 2) cc.1 (by first | omega | (simp only [eb, List.length_append, List.length_cons, List.length_nil]; omega))) ?_
  rintro _ μ5 ⟨rfl, c5⟩
  have cc := cc.to c5
  have k0 := (c5.2 0 (by decide) (by decide)).trans k0
  have k1 := (c5.2 1 (by decide) (by decide)).trans k1
  show kc_X _ _ _ _ _ [] _ _
  refine x_al c_Dk_conclude_53 rfl ?_
  refine x_get c_Dk_conclude_54 (by first | rfl | exact k0 | exact k1 | exact cc.o) rfl ?_
  refine x_il c_Dk_conclude_57 rfl ?_
  refine x_cv1z _ c_Dk_conclude_59 (by first | rfl | exact k0 | exact k1 | exact cc.o) (Nat.le_of_ble_eq_true rfl) (y_Wr_finish (d + 2) (L := (((L ++ [nI 48, nI 0]) ++ eb (nI 2) (idB k)) ++ [nI dn, nI 0])) (X := [nI code]) (t := nI 10) (z := nI 0) (by simp only [eb, nB, List.append_assoc, List.cons_append, List.nil_append, List.length_nil]) cc.1) ?_
  rintro _ μ6 ⟨rfl, c6⟩
  have cc := cc.to c6
  have k0 := (c6.2 0 (by decide) (by decide)).trans k0
  have k1 := (c6.2 1 (by decide) (by decide)).trans k1
  show kc_X _ _ _ _ _ [] _ _
  refine x_il c_Dk_conclude_62 rfl ?_
  refine x_ci c_Dk_conclude_63 ?_
  refine x_cmN_ne c_Dk_conclude_65 (by omega) (by omega) (fun _ => ?_) (fun h => (by exfalso; omega))
  refine x_ci c_Dk_conclude_82 ?_
  refine x_is [_, _, _, _, _, _, _] c_Dk_conclude_83 rfl ?_
  refine x_il c_Dk_conclude_85 rfl ?_
  refine x_ci c_Dk_conclude_87 ?_
  refine x_cm_ne c_Dk_conclude_88 (fun h => absurd (rfl) h) (fun _ => ?_)
  refine x_al c_Dk_conclude_91 rfl ?_
  refine x_get c_Dk_conclude_92 (by first | rfl | exact k0 | exact k1 | exact cc.o) rfl ?_
  refine x_ci c_Dk_conclude_95 ?_
  refine x_cv1z _ c_Dk_conclude_96 (by first | rfl | exact k0 | exact k1 | exact cc.o) (Nat.le_of_ble_eq_true rfl) (y_Wr_begin (d + 1) cc.1 (by first | omega | (simp only [eb, List.length_append, List.length_cons, List.length_nil]; omega))) ?_
  rintro _ μ7 ⟨rfl, c7⟩
  have cc := cc.to c7
  have k0 := (c7.2 0 (by decide) (by decide)).trans k0
  have k1 := (c7.2 1 (by decide) (by decide)).trans k1
  show kc_X _ _ _ _ _ [.int (nI (((((L ++ [nI 48, nI 0]) ++ eb (nI 2) (idB k)) ++ [nI dn, nI 0]) ++ eb (nI 10) [nI code]).length + 2))] _ _
  refine x_pop c_Dk_conclude_99 rfl ?_
  refine x_goto c_Dk_conclude_100 ?_
  refine x_al c_Dk_conclude_123 rfl ?_
  refine x_get c_Dk_conclude_124 (by first | rfl | exact k0 | exact k1 | exact cc.o) rfl ?_
  refine x_ci c_Dk_conclude_127 ?_
  refine x_cv1z _ c_Dk_conclude_128 (by first | rfl | exact k0 | exact k1 | exact cc.o) (Nat.le_of_ble_eq_true rfl) (y_Wr_begin (d + 1) cc.1 (by first | omega | (simp only [eb, List.length_append, List.length_cons, List.length_nil]; omega))) ?_
  rintro _ μ8 ⟨rfl, c8⟩
  have cc := cc.to c8
  have k0 := (c8.2 0 (by decide) (by decide)).trans k0
  have k1 := (c8.2 1 (by decide) (by decide)).trans k1
  show kc_X _ _ _ _ _ [.int (nI ((((((L ++ [nI 48, nI 0]) ++ eb (nI 2) (idB k)) ++ [nI dn, nI 0]) ++ eb (nI 10) [nI code]) ++ eb (nI 4) (nB [])).length + 2))] _ _
  refine x_pop c_Dk_conclude_131 rfl ?_
  refine x_al c_Dk_conclude_132 rfl ?_
  refine x_get c_Dk_conclude_133 (by first | rfl | exact k0 | exact k1 | exact cc.o) rfl ?_
  refine x_il c_Dk_conclude_136 rfl ?_
  refine x_cv1z _ c_Dk_conclude_138 (by first | rfl | exact k0 | exact k1 | exact cc.o) (Nat.le_of_ble_eq_true rfl) (y_Wr_finish (d + 2) (L := ((L ++ [nI 48, nI 0]) ++ eb (nI 2) (idB k))) (X := eb (nI 10) [nI code] ++ (eb (nI 4) (nB []) ++ eb (nI 4) [])) (t := nI dn) (z := nI 0) (by simp only [eb, nB, List.append_assoc, List.cons_append, List.nil_append, List.length_nil]) cc.1) ?_
  rintro _ μ9 ⟨rfl, c9⟩
  have cc := cc.to c9
  have k0 := (c9.2 0 (by decide) (by decide)).trans k0
  have k1 := (c9.2 1 (by decide) (by decide)).trans k1
  show kc_X _ _ _ _ _ [] _ _
  refine x_al c_Dk_conclude_141 rfl ?_
  refine x_get c_Dk_conclude_142 (by first | rfl | exact k0 | exact k1 | exact cc.o) rfl ?_
  refine x_il c_Dk_conclude_145 rfl ?_
  refine x_cv1z _ c_Dk_conclude_146 (by first | rfl | exact k0 | exact k1 | exact cc.o) (Nat.le_of_ble_eq_true rfl) (y_Wr_finish (d + 2) (L := L) (X := eb (nI 2) (idB k) ++ eb (nI dn) (eb (nI 10) [nI code] ++ (eb (nI 4) (nB []) ++ eb (nI 4) []))) (t := nI 48) (z := nI 0) (by simp only [eb, nB, List.append_assoc, List.cons_append, List.nil_append, List.length_nil]) cc.1) ?_
  rintro _ μ10 ⟨rfl, c10⟩
  have cc := cc.to c10
  have k0 := (c10.2 0 (by decide) (by decide)).trans k0
  have k1 := (c10.2 1 (by decide) (by decide)).trans k1
  show kc_X _ _ _ _ _ [] _ _
  refine x_ret c_Dk_conclude_149 ?_
  exact ⟨rfl, cc⟩
set_option maxRecDepth 100000 in
set_option maxHeartbeats 4000000 in
theorem y_Wr_clear (d : Nat) {μ : kc_M} {w : Nat → Int32} {wn : Nat} (h : wr_at μ w wn) : kc_Y kt kC (d + 1) j_Wr_clear [.ref 3] μ (fun v μ' => v = none ∧ wC μ μ' []) := by
  refine ⟨Nat.le_of_ble_eq_true rfl, ?_⟩
  refine x_al c_Wr_clear_0 rfl ?_
  refine x_ci c_Wr_clear_1 ?_
  refine x_put [_, _] c_Wr_clear_2 (by first | rfl | exact h.1) ⟨Nat.le_of_ble_eq_true rfl, rfl, rfl⟩ rfl ?_
  refine x_ret c_Wr_clear_5 ?_
  exact ⟨rfl, ⟨w, ⟨rfl, (kc_gf (by decide)).trans h.2⟩, fun k hk => absurd hk (Nat.not_lt_zero _), Nat.zero_le _⟩, fun q q1 _ => kc_gf q1⟩
theorem naL_4 {nm : Nat → List tv} {l : List tv} {n : Nat} (h : l.length ≤ 4) : (naL nm l n).length ≤ 4 := by
  cases hf : fu nm l n (l.length - 1) 1 with
  | none => rw [naL_n hf]; exact Nat.zero_le _
  | some q =>
    obtain ⟨i, e⟩ := q
    rw [naL_s hf]
    have h1 := fu_in _ _ hf
    have h2 := fd_in h1.2.2
    rw [Nat.zero_add] at h2
    rw [h2.2.2, List.length_drop]; omega
theorem seK_32 {tb : Nat → Nat} {n : Nat} {nm pr : Nat → List tv} {k : Nat} {L : List Int32} {q : Option (Nat × Nat × Nat × Int32 × Bool × Fo × List Int32)} (h : (seK tb n nm pr k L q).1 = 32) : ∃ l, seN tb q = some l := by
  cases q with
  | none => exact absurd (show 2 = 32 from h) (by decide)
  | some q =>
    obtain ⟨x2, y2, sc, li, ta, G, W⟩ := q
    show ∃ l, nmS tb x2 y2 = some l
    unfold seK at h
    dsimp only at h
    cases ho : nmS tb x2 y2 with
    | none => rw [ho] at h; exact absurd (show 34 = 32 from h) (by decide)
    | some l => exact ⟨l, rfl⟩
theorem opJ_some {α : Type} {so : Bool} {tb : Nat → Nat} {q : Option (Nat × Nat × List cg)} {f : List tv → List cg → Nat × Option α} {a : α} (h : (opJ so tb q f).2 = some a) : ∃ x2 y2 cs, q = some (x2, y2, cs) := by
  cases q with
  | none => cases h
  | some q => exact ⟨q.1, q.2.1, q.2.2, rfl⟩
theorem opN_some {tb : Nat → Nat} {q : Option (Nat × Nat × List cg)} {l : List tv} (h : opN tb q = some l) : ∃ x2 y2 cs, q = some (x2, y2, cs) := by
  cases q with
  | none => cases h
  | some q => exact ⟨q.1, q.2.1, q.2.2, rfl⟩
set_option maxRecDepth 100000 in
set_option maxHeartbeats 4000000 in
theorem y_Dk_handle96 (d : Nat) {μ : kc_M} {so : Bool} {tb : Nat → Nat} {sz : Nat} {w : Nat → Int32} {wn n : Nat} {ad : Nat → Nat} {nm pr : Nat → List tv} (hC : CI μ true so tb sz w wn n ad nm pr) (htb : ∀ j, tb j < 256) (hsz : sz ≤ 200) (hgd : ∀ e, e < n → gd (pr e)) {k b c : Nat} (hk31 : k < 2 ^ 31) (hmsg : msg tb sz = some (nI k, b, c)) (hcs : c ≤ sz) (hop : tb b = 96) : kc_Y kt kC (d + 20) j_Dk_handle [.ref 0] μ (fun v μ' => v = some (.int (nI (oRes tb so n nm pr k c sz 96).1)) ∧ (oRes tb so n nm pr k c sz 96).1 < 256 ∧ μ'.1 0 = some (ce_Dk true (oRes tb so n nm pr k c sz 96).2.1) ∧ (∃ at_ en wr id sf st, rd_at μ' tb 0 at_ en wr id sf st) ∧ wL μ' (oAll (oRes tb so n nm pr k c sz 96) k 96) ∧ (oAll (oRes tb so n nm pr k c sz 96) k 96).length ≤ 400 ∧ (∃ ad', tr_at μ' (oRes tb so n nm pr k c sz 96).2.2.1 ad' (oRes tb so n nm pr k c sz 96).2.2.2.1 (oRes tb so n nm pr k c sz 96).2.2.2.2.1) ∧ sc_at μ' ∧ ∀ q, 136 ≤ q → μ'.1 q = μ.1 q) := by
  refine ⟨Nat.le_of_ble_eq_true rfl, ?_⟩
  obtain ⟨h0, ⟨at_, en, wr, id0, sf, st, hrd⟩, hwr, ht, hsc⟩ := hC
  have fin : ∀ (μ2 : kc_M), cPo μ μ2 tb sz k (oRes tb so n nm pr k c sz 96) → kc_X (kC j_Dk_handle) (kc_Y kt kC (d + 19)) (fun v μ' => v = some (.int (nI (oRes tb so n nm pr k c sz 96).1)) ∧ (oRes tb so n nm pr k c sz 96).1 < 256 ∧ μ'.1 0 = some (ce_Dk true (oRes tb so n nm pr k c sz 96).2.1) ∧ (∃ at_ en wr id sf st, rd_at μ' tb 0 at_ en wr id sf st) ∧ wL μ' (oAll (oRes tb so n nm pr k c sz 96) k 96) ∧ (oAll (oRes tb so n nm pr k c sz 96) k 96).length ≤ 400 ∧ (∃ ad', tr_at μ' (oRes tb so n nm pr k c sz 96).2.2.1 ad' (oRes tb so n nm pr k c sz 96).2.2.2.1 (oRes tb so n nm pr k c sz 96).2.2.2.2.1) ∧ sc_at μ' ∧ ∀ q, 136 ≤ q → μ'.1 q = μ.1 q) 141 [some (.ref 0), some (.int (nI (oRes tb so n nm pr k c sz 96).1)), some (.int (nI 97))] [] μ2 (0, 0) := by
    intro μ2 cP
    obtain ⟨R, hR⟩ : ∃ R, (oRes tb so n nm pr k c sz 96) = R := ⟨_, rfl⟩
    rw [hR] at cP ⊢
    obtain ⟨a0, ⟨r', ar⟩, ⟨ad', at'⟩, aw, al, asc, a32, ac, af⟩ := cP
    have hn4 : ∀ l : List tv, nm_at μ2 119 120 121 l → l.length ≤ 4 := fun l h => by obtain ⟨_, _, _, _, _, _, h9⟩ := h; exact h9
    by_cases h32 : R.1 = 32
    · obtain ⟨l, hl, hln⟩ := a32 h32
      refine x_al c_Dk_handle_141 rfl ?_
      refine x_get c_Dk_handle_142 (by first | rfl | exact a0 | exact ar.1 | exact b0) rfl ?_
      refine x_cv0z _ c_Dk_handle_145 (by first | rfl | exact a0 | exact ar.1 | exact b0) (Nat.le_of_ble_eq_true rfl) (y_Rd_clear (d + 18) ar.1) ?_
      rintro _ μ3 ⟨rfl, b1, bf⟩
      have b0 := (bf 0 (by decide)).trans a0
      show kc_X _ _ _ _ _ [] _ _
      refine x_al c_Dk_handle_148 rfl ?_
      refine x_get c_Dk_handle_149 (by first | rfl | exact a0 | exact ar.1 | exact b0) rfl ?_
      refine x_if_eq c_Dk_handle_152 (fun h => absurd h (by decide)) (fun _ => ?_)
      refine x_al c_Dk_handle_155 rfl ?_
      refine x_il c_Dk_handle_156 rfl ?_
      refine x_il c_Dk_handle_157 rfl ?_
      refine x_cv2z _ c_Dk_handle_158 (by first | rfl | exact a0 | exact ar.1 | exact b0) (Nat.le_of_ble_eq_true rfl) (y_Dk_conclude (d + 15) b0 b1 hk31 (tr_k at' (fun q q1 q2 => bf q (by omega))) (o := some l) (nm_k hln (bf _ (by decide)) (bf _ (by decide)) (bf _ (by decide))) (dn := 97) (code := R.1) ac (fun _ => ⟨l, rfl⟩) (wL_k aw (bf 3 (by decide)) (bf 4 (by decide))) (by omega)) ?_
      rintro _ μ4 ⟨rfl, c4⟩
      show kc_X _ _ _ _ _ [] _ _
      refine x_il c_Dk_handle_161 rfl ?_
      refine x_ri c_Dk_handle_162 ?_
      have hA : oAll R k 96 = R.2.2.2.2.2.1 ++ cB k 97 R.1 (if R.1 = 32 then naL R.2.2.2.1 ((some l).getD []) R.2.2.1 else []) := by unfold oAll; rw [hl]; rfl
      have hnl : (naL R.2.2.2.1 l R.2.2.1).length ≤ 4 := naL_4 (hn4 l hln)
      have hcb := cB_len k 97 R.1 hnl
      refine ⟨rfl, ac, (c4.2 0 (by decide) (by decide)).trans b0, ⟨_, _, _, _, _, _, (c4.2 1 (by decide) (by decide)).trans b1, (c4.2 2 (by decide) (by decide)).trans ((bf 2 (by decide)).trans ar.2)⟩, by rw [hA]; exact c4.1, ?_, ⟨_, tr_k at' (fun q q1 q2 => (c4.2 q (by omega) (by omega)).trans (bf q (by omega)))⟩, sc_k asc (fun q q1 q2 => (c4.2 q (by omega) (by omega)).trans (bf q (by omega))), fun q q1 => (c4.2 q (by omega) (by omega)).trans ((bf q (by omega)).trans (af q q1))⟩
      rw [hA, if_pos h32, List.length_append]
      show _ + (cB k 97 R.1 (naL R.2.2.2.1 l R.2.2.1)).length ≤ 400
      omega
    · skip
      refine x_al c_Dk_handle_141 rfl ?_
      refine x_get c_Dk_handle_142 (by first | rfl | exact a0 | exact ar.1 | exact b0) rfl ?_
      refine x_cv0z _ c_Dk_handle_145 (by first | rfl | exact a0 | exact ar.1 | exact b0) (Nat.le_of_ble_eq_true rfl) (y_Rd_clear (d + 18) ar.1) ?_
      rintro _ μ3 ⟨rfl, b1, bf⟩
      have b0 := (bf 0 (by decide)).trans a0
      show kc_X _ _ _ _ _ [] _ _
      refine x_al c_Dk_handle_148 rfl ?_
      refine x_get c_Dk_handle_149 (by first | rfl | exact a0 | exact ar.1 | exact b0) rfl ?_
      refine x_if_eq c_Dk_handle_152 (fun h => absurd h (by decide)) (fun _ => ?_)
      refine x_al c_Dk_handle_155 rfl ?_
      refine x_il c_Dk_handle_156 rfl ?_
      refine x_il c_Dk_handle_157 rfl ?_
      refine x_cv2z _ c_Dk_handle_158 (by first | rfl | exact a0 | exact ar.1 | exact b0) (Nat.le_of_ble_eq_true rfl) (y_Dk_conclude0 (d + 15) b0 b1 hk31 (dn := 97) (code := R.1) ac h32 (wL_k aw (bf 3 (by decide)) (bf 4 (by decide))) (by omega)) ?_
      rintro _ μ4 ⟨rfl, c4⟩
      show kc_X _ _ _ _ _ [] _ _
      refine x_il c_Dk_handle_161 rfl ?_
      refine x_ri c_Dk_handle_162 ?_
      have hA : oAll R k 96 = R.2.2.2.2.2.1 ++ cB k 97 R.1 [] := by unfold oAll; rw [if_neg h32]; rfl
      have hcb := cB_len k 97 R.1 (X := []) (Nat.zero_le _)
      refine ⟨rfl, ac, (c4.2 0 (by decide) (by decide)).trans b0, ⟨_, _, _, _, _, _, (c4.2 1 (by decide) (by decide)).trans b1, (c4.2 2 (by decide) (by decide)).trans ((bf 2 (by decide)).trans ar.2)⟩, by rw [hA]; exact c4.1, ?_, ⟨_, tr_k at' (fun q q1 q2 => (c4.2 q (by omega) (by omega)).trans (bf q (by omega)))⟩, sc_k asc (fun q q1 q2 => (c4.2 q (by omega) (by omega)).trans (bf q (by omega))), fun q q1 => (c4.2 q (by omega) (by omega)).trans ((bf q (by omega)).trans (af q q1))⟩
      rw [hA, List.length_append]
      omega
  refine x_al c_Dk_handle_0 rfl ?_
  refine x_get c_Dk_handle_1 (by first | rfl | exact h0 | exact b0 | exact d0 | exact hwr.1 | exact cw.o | exact hrd1.1 | exact k1) rfl ?_
  refine x_if_ne c_Dk_handle_4 (fun _ => ?_) (fun h => absurd h (by decide))
  refine x_al c_Dk_handle_9 rfl ?_
  refine x_get c_Dk_handle_10 (by first | rfl | exact h0 | exact b0 | exact d0 | exact hwr.1 | exact cw.o | exact hrd1.1 | exact k1) rfl ?_
  refine x_cv0z _ c_Dk_handle_13 (by first | rfl | exact h0 | exact b0 | exact d0 | exact hwr.1 | exact cw.o | exact hrd1.1 | exact k1) (Nat.le_of_ble_eq_true rfl) (y_Wr_clear (d + 18) hwr) ?_
  rintro _ μ0 ⟨rfl, cw⟩
  have d0 := (cw.2 0 (by decide) (by decide)).trans h0
  have hrd1 : rd_at μ0 tb sz at_ en wr id0 sf st := ⟨(cw.2 1 (by decide) (by decide)).trans hrd.1, (cw.2 2 (by decide) (by decide)).trans hrd.2⟩
  show kc_X _ _ _ _ _ [] _ _
  refine x_ci c_Dk_handle_16 ?_
  refine x_is [_, _, _] c_Dk_handle_17 rfl ?_
  refine x_ci c_Dk_handle_18 ?_
  refine x_is [_, _, _] c_Dk_handle_19 rfl ?_
  refine x_al c_Dk_handle_20 rfl ?_
  refine x_get c_Dk_handle_21 (by first | rfl | exact h0 | exact b0 | exact d0 | exact hwr.1 | exact cw.o | exact hrd1.1 | exact k1) rfl ?_
  refine x_cv0z _ c_Dk_handle_24 (by first | rfl | exact h0 | exact b0 | exact d0 | exact hwr.1 | exact cw.o | exact hrd1.1 | exact k1) (Nat.le_of_ble_eq_true rfl) (y_Rd_readFrame (d + 15) hrd1 htb hsz) ?_
  rintro v μ1 ⟨⟨_, _, _, _, _, _, _, z2⟩, g1, ⟨hG, rfl, x', y', k1⟩ | ⟨hG, rfl⟩⟩
  · obtain ⟨_, hv, hT, hc9⟩ := fr_ok htb (sf := sf) (st := st) hmsg
    rw [hv, hc9] at k1
    rw [hT]
    have b0 := (g1 0 (by decide)).trans d0
    have hr1 : rd_r μ1 tb sz (nI k) (c, sz, false, x', y') := ⟨k1, z2⟩
    have hok : rok sz (c, sz, false, x', y') := ⟨hcs, Nat.le_refl _, hsz⟩
    have f1 : ∀ q, 136 ≤ q → μ1.1 q = μ.1 q := fun q q1 => (g1 q (by omega)).trans (cw.2 q (by omega) (by omega))
    have ht1 := tr_k ht (μ' := μ1) (fun q q1 q2 => (g1 q (by omega)).trans (cw.2 q (by omega) (by omega)))
    have hsc1 := sc_k hsc (μ' := μ1) (fun q q1 q2 => (g1 q (by omega)).trans (cw.2 q (by omega) (by omega)))
    have hw1 : wL μ1 [] := wL_k cw.1 (g1 3 (by decide)) (g1 4 (by decide))
    show kc_X _ _ _ _ _ [.int (nI (tb b))] _ _
    refine x_sw 76 c_Dk_handle_27 (by rw [hop]; rfl) ?_
    refine x_al c_Dk_handle_76 rfl ?_
    refine x_cv0z _ c_Dk_handle_77 (by first | rfl | exact h0 | exact b0 | exact d0 | exact hwr.1 | exact cw.o | exact hrd1.1 | exact k1) (Nat.le_of_ble_eq_true rfl) (y_Dk_signOn (d + 14) b0 hr1 hok htb ht1 hsc1) ?_
    rintro _ μ2 ⟨rfl, a0, ⟨r', ar, _⟩, af, asc⟩
    have hsg := sg_C (n := n) (nm := nm) (pr := pr) (so := so) htb (c := c) (e := sz) (sf := x') (st := y')
    have hRE : (oRes tb so n nm pr k c sz 96) = ((sgC tb n nm pr so c sz).1, (sgC tb n nm pr so c sz).2, n, nm, pr, [], none) := by unfold oRes; rw [if_pos rfl]
    rw [← hsg] at a0 ⊢
    have cP : cPo μ μ2 tb sz k (oRes tb so n nm pr k c sz 96) := by
          rw [hRE]
          exact ⟨a0, ⟨r', ar⟩, ⟨_, tr_k ht1 (fun q q1 q2 => af q (by omega) (by omega) (by omega))⟩, wL_k hw1 (af 3 (by decide) (by decide) (by decide)) (af 4 (by decide) (by decide) (by decide)), Nat.zero_le _, asc, fun q => absurd q sgC_lt.2, sgC_lt.1, fun q q1 => (af q (by omega) (by omega) (by omega)).trans (f1 q q1)⟩
    show kc_X _ _ _ _ _ [.int (nI (sgC tb n nm pr so c sz).1)] _ _
    rw [show (sgC tb n nm pr so c sz).1 = (oRes tb so n nm pr k c sz 96).1 by rw [hRE]]
    refine x_is [_, _, _] c_Dk_handle_80 rfl ?_
    refine x_ci c_Dk_handle_81 ?_
    refine x_is [_, _, _] c_Dk_handle_83 rfl ?_
    refine x_goto c_Dk_handle_84 ?_
    exact fin μ2 cP
  · exact absurd (fr_ok htb (sf := sf) (st := st) hmsg).1 hG
set_option maxRecDepth 100000 in
set_option maxHeartbeats 4000000 in
theorem y_Dk_handle99 (d : Nat) {μ : kc_M} {so : Bool} {tb : Nat → Nat} {sz : Nat} {w : Nat → Int32} {wn n : Nat} {ad : Nat → Nat} {nm pr : Nat → List tv} (hC : CI μ true so tb sz w wn n ad nm pr) (htb : ∀ j, tb j < 256) (hsz : sz ≤ 200) (hgd : ∀ e, e < n → gd (pr e)) {k b c : Nat} (hk31 : k < 2 ^ 31) (hmsg : msg tb sz = some (nI k, b, c)) (hcs : c ≤ sz) (hop : tb b = 99) : kc_Y kt kC (d + 20) j_Dk_handle [.ref 0] μ (fun v μ' => v = some (.int (nI (oRes tb so n nm pr k c sz 99).1)) ∧ (oRes tb so n nm pr k c sz 99).1 < 256 ∧ μ'.1 0 = some (ce_Dk true (oRes tb so n nm pr k c sz 99).2.1) ∧ (∃ at_ en wr id sf st, rd_at μ' tb 0 at_ en wr id sf st) ∧ wL μ' (oAll (oRes tb so n nm pr k c sz 99) k 99) ∧ (oAll (oRes tb so n nm pr k c sz 99) k 99).length ≤ 400 ∧ (∃ ad', tr_at μ' (oRes tb so n nm pr k c sz 99).2.2.1 ad' (oRes tb so n nm pr k c sz 99).2.2.2.1 (oRes tb so n nm pr k c sz 99).2.2.2.2.1) ∧ sc_at μ' ∧ ∀ q, 136 ≤ q → μ'.1 q = μ.1 q) := by
  refine ⟨Nat.le_of_ble_eq_true rfl, ?_⟩
  obtain ⟨h0, ⟨at_, en, wr, id0, sf, st, hrd⟩, hwr, ht, hsc⟩ := hC
  have fin : ∀ (μ2 : kc_M), cPo μ μ2 tb sz k (oRes tb so n nm pr k c sz 99) → kc_X (kC j_Dk_handle) (kc_Y kt kC (d + 19)) (fun v μ' => v = some (.int (nI (oRes tb so n nm pr k c sz 99).1)) ∧ (oRes tb so n nm pr k c sz 99).1 < 256 ∧ μ'.1 0 = some (ce_Dk true (oRes tb so n nm pr k c sz 99).2.1) ∧ (∃ at_ en wr id sf st, rd_at μ' tb 0 at_ en wr id sf st) ∧ wL μ' (oAll (oRes tb so n nm pr k c sz 99) k 99) ∧ (oAll (oRes tb so n nm pr k c sz 99) k 99).length ≤ 400 ∧ (∃ ad', tr_at μ' (oRes tb so n nm pr k c sz 99).2.2.1 ad' (oRes tb so n nm pr k c sz 99).2.2.2.1 (oRes tb so n nm pr k c sz 99).2.2.2.2.1) ∧ sc_at μ' ∧ ∀ q, 136 ≤ q → μ'.1 q = μ.1 q) 141 [some (.ref 0), some (.int (nI (oRes tb so n nm pr k c sz 99).1)), some (.int (nI 101))] [] μ2 (0, 0) := by
    intro μ2 cP
    obtain ⟨R, hR⟩ : ∃ R, (oRes tb so n nm pr k c sz 99) = R := ⟨_, rfl⟩
    rw [hR] at cP ⊢
    obtain ⟨a0, ⟨r', ar⟩, ⟨ad', at'⟩, aw, al, asc, a32, ac, af⟩ := cP
    have hn4 : ∀ l : List tv, nm_at μ2 119 120 121 l → l.length ≤ 4 := fun l h => by obtain ⟨_, _, _, _, _, _, h9⟩ := h; exact h9
    by_cases h32 : R.1 = 32
    · obtain ⟨l, hl, hln⟩ := a32 h32
      refine x_al c_Dk_handle_141 rfl ?_
      refine x_get c_Dk_handle_142 (by first | rfl | exact a0 | exact ar.1 | exact b0) rfl ?_
      refine x_cv0z _ c_Dk_handle_145 (by first | rfl | exact a0 | exact ar.1 | exact b0) (Nat.le_of_ble_eq_true rfl) (y_Rd_clear (d + 18) ar.1) ?_
      rintro _ μ3 ⟨rfl, b1, bf⟩
      have b0 := (bf 0 (by decide)).trans a0
      show kc_X _ _ _ _ _ [] _ _
      refine x_al c_Dk_handle_148 rfl ?_
      refine x_get c_Dk_handle_149 (by first | rfl | exact a0 | exact ar.1 | exact b0) rfl ?_
      refine x_if_eq c_Dk_handle_152 (fun h => absurd h (by decide)) (fun _ => ?_)
      refine x_al c_Dk_handle_155 rfl ?_
      refine x_il c_Dk_handle_156 rfl ?_
      refine x_il c_Dk_handle_157 rfl ?_
      refine x_cv2z _ c_Dk_handle_158 (by first | rfl | exact a0 | exact ar.1 | exact b0) (Nat.le_of_ble_eq_true rfl) (y_Dk_conclude (d + 15) b0 b1 hk31 (tr_k at' (fun q q1 q2 => bf q (by omega))) (o := some l) (nm_k hln (bf _ (by decide)) (bf _ (by decide)) (bf _ (by decide))) (dn := 101) (code := R.1) ac (fun _ => ⟨l, rfl⟩) (wL_k aw (bf 3 (by decide)) (bf 4 (by decide))) (by omega)) ?_
      rintro _ μ4 ⟨rfl, c4⟩
      show kc_X _ _ _ _ _ [] _ _
      refine x_il c_Dk_handle_161 rfl ?_
      refine x_ri c_Dk_handle_162 ?_
      have hA : oAll R k 99 = R.2.2.2.2.2.1 ++ cB k 101 R.1 (if R.1 = 32 then naL R.2.2.2.1 ((some l).getD []) R.2.2.1 else []) := by unfold oAll; rw [hl]; rfl
      have hnl : (naL R.2.2.2.1 l R.2.2.1).length ≤ 4 := naL_4 (hn4 l hln)
      have hcb := cB_len k 101 R.1 hnl
      refine ⟨rfl, ac, (c4.2 0 (by decide) (by decide)).trans b0, ⟨_, _, _, _, _, _, (c4.2 1 (by decide) (by decide)).trans b1, (c4.2 2 (by decide) (by decide)).trans ((bf 2 (by decide)).trans ar.2)⟩, by rw [hA]; exact c4.1, ?_, ⟨_, tr_k at' (fun q q1 q2 => (c4.2 q (by omega) (by omega)).trans (bf q (by omega)))⟩, sc_k asc (fun q q1 q2 => (c4.2 q (by omega) (by omega)).trans (bf q (by omega))), fun q q1 => (c4.2 q (by omega) (by omega)).trans ((bf q (by omega)).trans (af q q1))⟩
      rw [hA, if_pos h32, List.length_append]
      show _ + (cB k 101 R.1 (naL R.2.2.2.1 l R.2.2.1)).length ≤ 400
      omega
    · skip
      refine x_al c_Dk_handle_141 rfl ?_
      refine x_get c_Dk_handle_142 (by first | rfl | exact a0 | exact ar.1 | exact b0) rfl ?_
      refine x_cv0z _ c_Dk_handle_145 (by first | rfl | exact a0 | exact ar.1 | exact b0) (Nat.le_of_ble_eq_true rfl) (y_Rd_clear (d + 18) ar.1) ?_
      rintro _ μ3 ⟨rfl, b1, bf⟩
      have b0 := (bf 0 (by decide)).trans a0
      show kc_X _ _ _ _ _ [] _ _
      refine x_al c_Dk_handle_148 rfl ?_
      refine x_get c_Dk_handle_149 (by first | rfl | exact a0 | exact ar.1 | exact b0) rfl ?_
      refine x_if_eq c_Dk_handle_152 (fun h => absurd h (by decide)) (fun _ => ?_)
      refine x_al c_Dk_handle_155 rfl ?_
      refine x_il c_Dk_handle_156 rfl ?_
      refine x_il c_Dk_handle_157 rfl ?_
      refine x_cv2z _ c_Dk_handle_158 (by first | rfl | exact a0 | exact ar.1 | exact b0) (Nat.le_of_ble_eq_true rfl) (y_Dk_conclude0 (d + 15) b0 b1 hk31 (dn := 101) (code := R.1) ac h32 (wL_k aw (bf 3 (by decide)) (bf 4 (by decide))) (by omega)) ?_
      rintro _ μ4 ⟨rfl, c4⟩
      show kc_X _ _ _ _ _ [] _ _
      refine x_il c_Dk_handle_161 rfl ?_
      refine x_ri c_Dk_handle_162 ?_
      have hA : oAll R k 99 = R.2.2.2.2.2.1 ++ cB k 101 R.1 [] := by unfold oAll; rw [if_neg h32]; rfl
      have hcb := cB_len k 101 R.1 (X := []) (Nat.zero_le _)
      refine ⟨rfl, ac, (c4.2 0 (by decide) (by decide)).trans b0, ⟨_, _, _, _, _, _, (c4.2 1 (by decide) (by decide)).trans b1, (c4.2 2 (by decide) (by decide)).trans ((bf 2 (by decide)).trans ar.2)⟩, by rw [hA]; exact c4.1, ?_, ⟨_, tr_k at' (fun q q1 q2 => (c4.2 q (by omega) (by omega)).trans (bf q (by omega)))⟩, sc_k asc (fun q q1 q2 => (c4.2 q (by omega) (by omega)).trans (bf q (by omega))), fun q q1 => (c4.2 q (by omega) (by omega)).trans ((bf q (by omega)).trans (af q q1))⟩
      rw [hA, List.length_append]
      omega
  refine x_al c_Dk_handle_0 rfl ?_
  refine x_get c_Dk_handle_1 (by first | rfl | exact h0 | exact b0 | exact d0 | exact hwr.1 | exact cw.o | exact hrd1.1 | exact k1) rfl ?_
  refine x_if_ne c_Dk_handle_4 (fun _ => ?_) (fun h => absurd h (by decide))
  refine x_al c_Dk_handle_9 rfl ?_
  refine x_get c_Dk_handle_10 (by first | rfl | exact h0 | exact b0 | exact d0 | exact hwr.1 | exact cw.o | exact hrd1.1 | exact k1) rfl ?_
  refine x_cv0z _ c_Dk_handle_13 (by first | rfl | exact h0 | exact b0 | exact d0 | exact hwr.1 | exact cw.o | exact hrd1.1 | exact k1) (Nat.le_of_ble_eq_true rfl) (y_Wr_clear (d + 18) hwr) ?_
  rintro _ μ0 ⟨rfl, cw⟩
  have d0 := (cw.2 0 (by decide) (by decide)).trans h0
  have hrd1 : rd_at μ0 tb sz at_ en wr id0 sf st := ⟨(cw.2 1 (by decide) (by decide)).trans hrd.1, (cw.2 2 (by decide) (by decide)).trans hrd.2⟩
  show kc_X _ _ _ _ _ [] _ _
  refine x_ci c_Dk_handle_16 ?_
  refine x_is [_, _, _] c_Dk_handle_17 rfl ?_
  refine x_ci c_Dk_handle_18 ?_
  refine x_is [_, _, _] c_Dk_handle_19 rfl ?_
  refine x_al c_Dk_handle_20 rfl ?_
  refine x_get c_Dk_handle_21 (by first | rfl | exact h0 | exact b0 | exact d0 | exact hwr.1 | exact cw.o | exact hrd1.1 | exact k1) rfl ?_
  refine x_cv0z _ c_Dk_handle_24 (by first | rfl | exact h0 | exact b0 | exact d0 | exact hwr.1 | exact cw.o | exact hrd1.1 | exact k1) (Nat.le_of_ble_eq_true rfl) (y_Rd_readFrame (d + 15) hrd1 htb hsz) ?_
  rintro v μ1 ⟨⟨_, _, _, _, _, _, _, z2⟩, g1, ⟨hG, rfl, x', y', k1⟩ | ⟨hG, rfl⟩⟩
  · obtain ⟨_, hv, hT, hc9⟩ := fr_ok htb (sf := sf) (st := st) hmsg
    rw [hv, hc9] at k1
    rw [hT]
    have b0 := (g1 0 (by decide)).trans d0
    have hr1 : rd_r μ1 tb sz (nI k) (c, sz, false, x', y') := ⟨k1, z2⟩
    have hok : rok sz (c, sz, false, x', y') := ⟨hcs, Nat.le_refl _, hsz⟩
    have f1 : ∀ q, 136 ≤ q → μ1.1 q = μ.1 q := fun q q1 => (g1 q (by omega)).trans (cw.2 q (by omega) (by omega))
    have ht1 := tr_k ht (μ' := μ1) (fun q q1 q2 => (g1 q (by omega)).trans (cw.2 q (by omega) (by omega)))
    have hsc1 := sc_k hsc (μ' := μ1) (fun q q1 q2 => (g1 q (by omega)).trans (cw.2 q (by omega) (by omega)))
    have hw1 : wL μ1 [] := wL_k cw.1 (g1 3 (by decide)) (g1 4 (by decide))
    show kc_X _ _ _ _ _ [.int (nI (tb b))] _ _
    refine x_sw 87 c_Dk_handle_27 (by rw [hop]; rfl) ?_
    refine x_al c_Dk_handle_87 rfl ?_
    refine x_cv0z _ c_Dk_handle_88 (by first | rfl | exact h0 | exact b0 | exact d0 | exact hwr.1 | exact cw.o | exact hrd1.1 | exact k1) (Nat.le_of_ble_eq_true rfl) (y_Dk_search d hk31 b0 hr1 hok rfl htb ht1 hsc1 hgd (L := []) hw1 (Nat.zero_le _)) ?_
    rintro _ μ2 ⟨rfl, a0, ⟨r', ar, _⟩, at', aw, al, af, asc, oo, ag, a32⟩
    have hRE : (oRes tb so n nm pr k c sz 99) = ((seK tb n nm pr k [] (seS tb c sz)).1, so, n, nm, pr, (seK tb n nm pr k [] (seS tb c sz)).2, seN tb (seS tb c sz)) := by unfold oRes; rw [if_neg (by decide), if_pos rfl]
    have cP : cPo μ μ2 tb sz k (oRes tb so n nm pr k c sz 99) := by
          rw [hRE]
          refine ⟨a0, ⟨r', ar⟩, ⟨_, at'⟩, aw, al, asc, fun q => ?_, Nat.lt_of_lt_of_le (seK_lt tb n nm pr k [] _) (by omega), fun q q1 => (af q (by omega) (by omega)).trans (f1 q q1)⟩
          have h9 := a32 q
          obtain ⟨l, hl⟩ := seK_32 q
          have h8 : oo = some l := h9.trans hl
          rw [h8] at ag
          exact ⟨l, hl, ag⟩
    show kc_X _ _ _ _ _ [.int (nI (seK tb n nm pr k [] (seS tb c sz)).1)] _ _
    rw [show (seK tb n nm pr k [] (seS tb c sz)).1 = (oRes tb so n nm pr k c sz 99).1 by rw [hRE]]
    refine x_is [_, _, _] c_Dk_handle_91 rfl ?_
    refine x_ci c_Dk_handle_92 ?_
    refine x_is [_, _, _] c_Dk_handle_94 rfl ?_
    refine x_goto c_Dk_handle_95 ?_
    exact fin μ2 cP
  · exact absurd (fr_ok htb (sf := sf) (st := st) hmsg).1 hG
set_option maxRecDepth 100000 in
set_option maxHeartbeats 4000000 in
theorem y_Dk_handle102 (d : Nat) {μ : kc_M} {so : Bool} {tb : Nat → Nat} {sz : Nat} {w : Nat → Int32} {wn n : Nat} {ad : Nat → Nat} {nm pr : Nat → List tv} (hC : CI μ true so tb sz w wn n ad nm pr) (htb : ∀ j, tb j < 256) (hsz : sz ≤ 200) (hgd : ∀ e, e < n → gd (pr e)) {k b c : Nat} (hk31 : k < 2 ^ 31) (hmsg : msg tb sz = some (nI k, b, c)) (hcs : c ≤ sz) (hop : tb b = 102) : kc_Y kt kC (d + 20) j_Dk_handle [.ref 0] μ (fun v μ' => v = some (.int (nI (oRes tb so n nm pr k c sz 102).1)) ∧ (oRes tb so n nm pr k c sz 102).1 < 256 ∧ μ'.1 0 = some (ce_Dk true (oRes tb so n nm pr k c sz 102).2.1) ∧ (∃ at_ en wr id sf st, rd_at μ' tb 0 at_ en wr id sf st) ∧ wL μ' (oAll (oRes tb so n nm pr k c sz 102) k 102) ∧ (oAll (oRes tb so n nm pr k c sz 102) k 102).length ≤ 400 ∧ (∃ ad', tr_at μ' (oRes tb so n nm pr k c sz 102).2.2.1 ad' (oRes tb so n nm pr k c sz 102).2.2.2.1 (oRes tb so n nm pr k c sz 102).2.2.2.2.1) ∧ sc_at μ' ∧ ∀ q, 136 ≤ q → μ'.1 q = μ.1 q) := by
  refine ⟨Nat.le_of_ble_eq_true rfl, ?_⟩
  obtain ⟨h0, ⟨at_, en, wr, id0, sf, st, hrd⟩, hwr, ht, hsc⟩ := hC
  have fin : ∀ (μ2 : kc_M), cPo μ μ2 tb sz k (oRes tb so n nm pr k c sz 102) → kc_X (kC j_Dk_handle) (kc_Y kt kC (d + 19)) (fun v μ' => v = some (.int (nI (oRes tb so n nm pr k c sz 102).1)) ∧ (oRes tb so n nm pr k c sz 102).1 < 256 ∧ μ'.1 0 = some (ce_Dk true (oRes tb so n nm pr k c sz 102).2.1) ∧ (∃ at_ en wr id sf st, rd_at μ' tb 0 at_ en wr id sf st) ∧ wL μ' (oAll (oRes tb so n nm pr k c sz 102) k 102) ∧ (oAll (oRes tb so n nm pr k c sz 102) k 102).length ≤ 400 ∧ (∃ ad', tr_at μ' (oRes tb so n nm pr k c sz 102).2.2.1 ad' (oRes tb so n nm pr k c sz 102).2.2.2.1 (oRes tb so n nm pr k c sz 102).2.2.2.2.1) ∧ sc_at μ' ∧ ∀ q, 136 ≤ q → μ'.1 q = μ.1 q) 141 [some (.ref 0), some (.int (nI (oRes tb so n nm pr k c sz 102).1)), some (.int (nI 103))] [] μ2 (0, 0) := by
    intro μ2 cP
    obtain ⟨R, hR⟩ : ∃ R, (oRes tb so n nm pr k c sz 102) = R := ⟨_, rfl⟩
    rw [hR] at cP ⊢
    obtain ⟨a0, ⟨r', ar⟩, ⟨ad', at'⟩, aw, al, asc, a32, ac, af⟩ := cP
    have hn4 : ∀ l : List tv, nm_at μ2 119 120 121 l → l.length ≤ 4 := fun l h => by obtain ⟨_, _, _, _, _, _, h9⟩ := h; exact h9
    by_cases h32 : R.1 = 32
    · obtain ⟨l, hl, hln⟩ := a32 h32
      refine x_al c_Dk_handle_141 rfl ?_
      refine x_get c_Dk_handle_142 (by first | rfl | exact a0 | exact ar.1 | exact b0) rfl ?_
      refine x_cv0z _ c_Dk_handle_145 (by first | rfl | exact a0 | exact ar.1 | exact b0) (Nat.le_of_ble_eq_true rfl) (y_Rd_clear (d + 18) ar.1) ?_
      rintro _ μ3 ⟨rfl, b1, bf⟩
      have b0 := (bf 0 (by decide)).trans a0
      show kc_X _ _ _ _ _ [] _ _
      refine x_al c_Dk_handle_148 rfl ?_
      refine x_get c_Dk_handle_149 (by first | rfl | exact a0 | exact ar.1 | exact b0) rfl ?_
      refine x_if_eq c_Dk_handle_152 (fun h => absurd h (by decide)) (fun _ => ?_)
      refine x_al c_Dk_handle_155 rfl ?_
      refine x_il c_Dk_handle_156 rfl ?_
      refine x_il c_Dk_handle_157 rfl ?_
      refine x_cv2z _ c_Dk_handle_158 (by first | rfl | exact a0 | exact ar.1 | exact b0) (Nat.le_of_ble_eq_true rfl) (y_Dk_conclude (d + 15) b0 b1 hk31 (tr_k at' (fun q q1 q2 => bf q (by omega))) (o := some l) (nm_k hln (bf _ (by decide)) (bf _ (by decide)) (bf _ (by decide))) (dn := 103) (code := R.1) ac (fun _ => ⟨l, rfl⟩) (wL_k aw (bf 3 (by decide)) (bf 4 (by decide))) (by omega)) ?_
      rintro _ μ4 ⟨rfl, c4⟩
      show kc_X _ _ _ _ _ [] _ _
      refine x_il c_Dk_handle_161 rfl ?_
      refine x_ri c_Dk_handle_162 ?_
      have hA : oAll R k 102 = R.2.2.2.2.2.1 ++ cB k 103 R.1 (if R.1 = 32 then naL R.2.2.2.1 ((some l).getD []) R.2.2.1 else []) := by unfold oAll; rw [hl]; rfl
      have hnl : (naL R.2.2.2.1 l R.2.2.1).length ≤ 4 := naL_4 (hn4 l hln)
      have hcb := cB_len k 103 R.1 hnl
      refine ⟨rfl, ac, (c4.2 0 (by decide) (by decide)).trans b0, ⟨_, _, _, _, _, _, (c4.2 1 (by decide) (by decide)).trans b1, (c4.2 2 (by decide) (by decide)).trans ((bf 2 (by decide)).trans ar.2)⟩, by rw [hA]; exact c4.1, ?_, ⟨_, tr_k at' (fun q q1 q2 => (c4.2 q (by omega) (by omega)).trans (bf q (by omega)))⟩, sc_k asc (fun q q1 q2 => (c4.2 q (by omega) (by omega)).trans (bf q (by omega))), fun q q1 => (c4.2 q (by omega) (by omega)).trans ((bf q (by omega)).trans (af q q1))⟩
      rw [hA, if_pos h32, List.length_append]
      show _ + (cB k 103 R.1 (naL R.2.2.2.1 l R.2.2.1)).length ≤ 400
      omega
    · skip
      refine x_al c_Dk_handle_141 rfl ?_
      refine x_get c_Dk_handle_142 (by first | rfl | exact a0 | exact ar.1 | exact b0) rfl ?_
      refine x_cv0z _ c_Dk_handle_145 (by first | rfl | exact a0 | exact ar.1 | exact b0) (Nat.le_of_ble_eq_true rfl) (y_Rd_clear (d + 18) ar.1) ?_
      rintro _ μ3 ⟨rfl, b1, bf⟩
      have b0 := (bf 0 (by decide)).trans a0
      show kc_X _ _ _ _ _ [] _ _
      refine x_al c_Dk_handle_148 rfl ?_
      refine x_get c_Dk_handle_149 (by first | rfl | exact a0 | exact ar.1 | exact b0) rfl ?_
      refine x_if_eq c_Dk_handle_152 (fun h => absurd h (by decide)) (fun _ => ?_)
      refine x_al c_Dk_handle_155 rfl ?_
      refine x_il c_Dk_handle_156 rfl ?_
      refine x_il c_Dk_handle_157 rfl ?_
      refine x_cv2z _ c_Dk_handle_158 (by first | rfl | exact a0 | exact ar.1 | exact b0) (Nat.le_of_ble_eq_true rfl) (y_Dk_conclude0 (d + 15) b0 b1 hk31 (dn := 103) (code := R.1) ac h32 (wL_k aw (bf 3 (by decide)) (bf 4 (by decide))) (by omega)) ?_
      rintro _ μ4 ⟨rfl, c4⟩
      show kc_X _ _ _ _ _ [] _ _
      refine x_il c_Dk_handle_161 rfl ?_
      refine x_ri c_Dk_handle_162 ?_
      have hA : oAll R k 102 = R.2.2.2.2.2.1 ++ cB k 103 R.1 [] := by unfold oAll; rw [if_neg h32]; rfl
      have hcb := cB_len k 103 R.1 (X := []) (Nat.zero_le _)
      refine ⟨rfl, ac, (c4.2 0 (by decide) (by decide)).trans b0, ⟨_, _, _, _, _, _, (c4.2 1 (by decide) (by decide)).trans b1, (c4.2 2 (by decide) (by decide)).trans ((bf 2 (by decide)).trans ar.2)⟩, by rw [hA]; exact c4.1, ?_, ⟨_, tr_k at' (fun q q1 q2 => (c4.2 q (by omega) (by omega)).trans (bf q (by omega)))⟩, sc_k asc (fun q q1 q2 => (c4.2 q (by omega) (by omega)).trans (bf q (by omega))), fun q q1 => (c4.2 q (by omega) (by omega)).trans ((bf q (by omega)).trans (af q q1))⟩
      rw [hA, List.length_append]
      omega
  refine x_al c_Dk_handle_0 rfl ?_
  refine x_get c_Dk_handle_1 (by first | rfl | exact h0 | exact b0 | exact d0 | exact hwr.1 | exact cw.o | exact hrd1.1 | exact k1) rfl ?_
  refine x_if_ne c_Dk_handle_4 (fun _ => ?_) (fun h => absurd h (by decide))
  refine x_al c_Dk_handle_9 rfl ?_
  refine x_get c_Dk_handle_10 (by first | rfl | exact h0 | exact b0 | exact d0 | exact hwr.1 | exact cw.o | exact hrd1.1 | exact k1) rfl ?_
  refine x_cv0z _ c_Dk_handle_13 (by first | rfl | exact h0 | exact b0 | exact d0 | exact hwr.1 | exact cw.o | exact hrd1.1 | exact k1) (Nat.le_of_ble_eq_true rfl) (y_Wr_clear (d + 18) hwr) ?_
  rintro _ μ0 ⟨rfl, cw⟩
  have d0 := (cw.2 0 (by decide) (by decide)).trans h0
  have hrd1 : rd_at μ0 tb sz at_ en wr id0 sf st := ⟨(cw.2 1 (by decide) (by decide)).trans hrd.1, (cw.2 2 (by decide) (by decide)).trans hrd.2⟩
  show kc_X _ _ _ _ _ [] _ _
  refine x_ci c_Dk_handle_16 ?_
  refine x_is [_, _, _] c_Dk_handle_17 rfl ?_
  refine x_ci c_Dk_handle_18 ?_
  refine x_is [_, _, _] c_Dk_handle_19 rfl ?_
  refine x_al c_Dk_handle_20 rfl ?_
  refine x_get c_Dk_handle_21 (by first | rfl | exact h0 | exact b0 | exact d0 | exact hwr.1 | exact cw.o | exact hrd1.1 | exact k1) rfl ?_
  refine x_cv0z _ c_Dk_handle_24 (by first | rfl | exact h0 | exact b0 | exact d0 | exact hwr.1 | exact cw.o | exact hrd1.1 | exact k1) (Nat.le_of_ble_eq_true rfl) (y_Rd_readFrame (d + 15) hrd1 htb hsz) ?_
  rintro v μ1 ⟨⟨_, _, _, _, _, _, _, z2⟩, g1, ⟨hG, rfl, x', y', k1⟩ | ⟨hG, rfl⟩⟩
  · obtain ⟨_, hv, hT, hc9⟩ := fr_ok htb (sf := sf) (st := st) hmsg
    rw [hv, hc9] at k1
    rw [hT]
    have b0 := (g1 0 (by decide)).trans d0
    have hr1 : rd_r μ1 tb sz (nI k) (c, sz, false, x', y') := ⟨k1, z2⟩
    have hok : rok sz (c, sz, false, x', y') := ⟨hcs, Nat.le_refl _, hsz⟩
    have f1 : ∀ q, 136 ≤ q → μ1.1 q = μ.1 q := fun q q1 => (g1 q (by omega)).trans (cw.2 q (by omega) (by omega))
    have ht1 := tr_k ht (μ' := μ1) (fun q q1 q2 => (g1 q (by omega)).trans (cw.2 q (by omega) (by omega)))
    have hsc1 := sc_k hsc (μ' := μ1) (fun q q1 q2 => (g1 q (by omega)).trans (cw.2 q (by omega) (by omega)))
    have hw1 : wL μ1 [] := wL_k cw.1 (g1 3 (by decide)) (g1 4 (by decide))
    show kc_X _ _ _ _ _ [.int (nI (tb b))] _ _
    refine x_sw 98 c_Dk_handle_27 (by rw [hop]; rfl) ?_
    refine x_al c_Dk_handle_98 rfl ?_
    refine x_cv0z _ c_Dk_handle_99 (by first | rfl | exact h0 | exact b0 | exact d0 | exact hwr.1 | exact cw.o | exact hrd1.1 | exact k1) (Nat.le_of_ble_eq_true rfl) (y_Dk_modify (d + 12) b0 hr1 hok htb ht1 hsc1 hgd) ?_
    rintro _ μ2 ⟨rfl, a0, ⟨r', ar, _⟩, at', af, asc, ag⟩
    have hj := op_join (kb := true) (so := so) (r := (c, sz, false, x', y')) htb rfl (fun l cs => moK n nm pr l cs)
    have hj1 : opK so (nmS tb (rS tb (nI 4) (c, sz, false, x', y')).2.2.2.1 (rS tb (nI 4) (c, sz, false, x', y')).2.2.2.2) (rD (rcF tb true (rS tb (nI 4) (c, sz, false, x', y'))).1) (fun l => (fun l cs => moK n nm pr l cs) l (rcF tb true (rS tb (nI 4) (c, sz, false, x', y'))).2) = (opJ so tb (acS tb true c sz) (fun l cs => moK n nm pr l cs)) := hj.1
    dsimp only at hj1
    rw [hj1] at at' ⊢
    have hRE : (oRes tb so n nm pr k c sz 102) = ((opJ so tb (acS tb true c sz) (fun l cs => moK n nm pr l cs)).1, so, n, nm, moF pr (opJ so tb (acS tb true c sz) (fun l cs => moK n nm pr l cs)).2, [], opN tb (acS tb true c sz)) := by unfold oRes; rw [if_neg (by decide), if_neg (by decide), if_pos rfl]
    have cP : cPo μ μ2 tb sz k (oRes tb so n nm pr k c sz 102) := by
          rw [hRE]
          refine ⟨a0, ⟨r', ar⟩, ⟨_, at'⟩, wL_k hw1 (af 3 (by decide) (by decide)) (af 4 (by decide) (by decide)), Nat.zero_le _, asc, fun q => ?_, (opJ_lt (fun l cs => moK_lt (fun e => apl_lt cs (pr e)))), fun q q1 => (af q (by omega) (by omega)).trans (f1 q q1)⟩
          obtain ⟨l, hl⟩ := opJ_32 q
          refine ⟨l, hl, ?_⟩
          have hq9 : nmS tb (rS tb (nI 4) (c, sz, false, x', y')).2.2.2.1 (rS tb (nI 4) (c, sz, false, x', y')).2.2.2.2 = some l := by
            obtain ⟨x2, y2, cs, hq⟩ := opN_some hl
            rw [hj.2 x2 y2 cs hq]
            rw [← hl, show acS tb true c sz = some (x2, y2, cs) from hq]; rfl
          rw [hq9] at ag
          exact ag
    show kc_X _ _ _ _ _ [.int (nI (opJ so tb (acS tb true c sz) (fun l cs => moK n nm pr l cs)).1)] _ _
    rw [show (opJ so tb (acS tb true c sz) (fun l cs => moK n nm pr l cs)).1 = (oRes tb so n nm pr k c sz 102).1 by rw [hRE]]
    refine x_is [_, _, _] c_Dk_handle_102 rfl ?_
    refine x_ci c_Dk_handle_103 ?_
    refine x_is [_, _, _] c_Dk_handle_105 rfl ?_
    refine x_goto c_Dk_handle_106 ?_
    exact fin μ2 cP
  · exact absurd (fr_ok htb (sf := sf) (st := st) hmsg).1 hG
set_option maxRecDepth 100000 in
set_option maxHeartbeats 4000000 in
theorem y_Dk_handle104 (d : Nat) {μ : kc_M} {so : Bool} {tb : Nat → Nat} {sz : Nat} {w : Nat → Int32} {wn n : Nat} {ad : Nat → Nat} {nm pr : Nat → List tv} (hC : CI μ true so tb sz w wn n ad nm pr) (htb : ∀ j, tb j < 256) (hsz : sz ≤ 200) (hgd : ∀ e, e < n → gd (pr e)) {k b c : Nat} (hk31 : k < 2 ^ 31) (hmsg : msg tb sz = some (nI k, b, c)) (hcs : c ≤ sz) (hop : tb b = 104) : kc_Y kt kC (d + 20) j_Dk_handle [.ref 0] μ (fun v μ' => v = some (.int (nI (oRes tb so n nm pr k c sz 104).1)) ∧ (oRes tb so n nm pr k c sz 104).1 < 256 ∧ μ'.1 0 = some (ce_Dk true (oRes tb so n nm pr k c sz 104).2.1) ∧ (∃ at_ en wr id sf st, rd_at μ' tb 0 at_ en wr id sf st) ∧ wL μ' (oAll (oRes tb so n nm pr k c sz 104) k 104) ∧ (oAll (oRes tb so n nm pr k c sz 104) k 104).length ≤ 400 ∧ (∃ ad', tr_at μ' (oRes tb so n nm pr k c sz 104).2.2.1 ad' (oRes tb so n nm pr k c sz 104).2.2.2.1 (oRes tb so n nm pr k c sz 104).2.2.2.2.1) ∧ sc_at μ' ∧ ∀ q, 136 ≤ q → μ'.1 q = μ.1 q) := by
  refine ⟨Nat.le_of_ble_eq_true rfl, ?_⟩
  obtain ⟨h0, ⟨at_, en, wr, id0, sf, st, hrd⟩, hwr, ht, hsc⟩ := hC
  have fin : ∀ (μ2 : kc_M), cPo μ μ2 tb sz k (oRes tb so n nm pr k c sz 104) → kc_X (kC j_Dk_handle) (kc_Y kt kC (d + 19)) (fun v μ' => v = some (.int (nI (oRes tb so n nm pr k c sz 104).1)) ∧ (oRes tb so n nm pr k c sz 104).1 < 256 ∧ μ'.1 0 = some (ce_Dk true (oRes tb so n nm pr k c sz 104).2.1) ∧ (∃ at_ en wr id sf st, rd_at μ' tb 0 at_ en wr id sf st) ∧ wL μ' (oAll (oRes tb so n nm pr k c sz 104) k 104) ∧ (oAll (oRes tb so n nm pr k c sz 104) k 104).length ≤ 400 ∧ (∃ ad', tr_at μ' (oRes tb so n nm pr k c sz 104).2.2.1 ad' (oRes tb so n nm pr k c sz 104).2.2.2.1 (oRes tb so n nm pr k c sz 104).2.2.2.2.1) ∧ sc_at μ' ∧ ∀ q, 136 ≤ q → μ'.1 q = μ.1 q) 141 [some (.ref 0), some (.int (nI (oRes tb so n nm pr k c sz 104).1)), some (.int (nI 105))] [] μ2 (0, 0) := by
    intro μ2 cP
    obtain ⟨R, hR⟩ : ∃ R, (oRes tb so n nm pr k c sz 104) = R := ⟨_, rfl⟩
    rw [hR] at cP ⊢
    obtain ⟨a0, ⟨r', ar⟩, ⟨ad', at'⟩, aw, al, asc, a32, ac, af⟩ := cP
    have hn4 : ∀ l : List tv, nm_at μ2 119 120 121 l → l.length ≤ 4 := fun l h => by obtain ⟨_, _, _, _, _, _, h9⟩ := h; exact h9
    by_cases h32 : R.1 = 32
    · obtain ⟨l, hl, hln⟩ := a32 h32
      refine x_al c_Dk_handle_141 rfl ?_
      refine x_get c_Dk_handle_142 (by first | rfl | exact a0 | exact ar.1 | exact b0) rfl ?_
      refine x_cv0z _ c_Dk_handle_145 (by first | rfl | exact a0 | exact ar.1 | exact b0) (Nat.le_of_ble_eq_true rfl) (y_Rd_clear (d + 18) ar.1) ?_
      rintro _ μ3 ⟨rfl, b1, bf⟩
      have b0 := (bf 0 (by decide)).trans a0
      show kc_X _ _ _ _ _ [] _ _
      refine x_al c_Dk_handle_148 rfl ?_
      refine x_get c_Dk_handle_149 (by first | rfl | exact a0 | exact ar.1 | exact b0) rfl ?_
      refine x_if_eq c_Dk_handle_152 (fun h => absurd h (by decide)) (fun _ => ?_)
      refine x_al c_Dk_handle_155 rfl ?_
      refine x_il c_Dk_handle_156 rfl ?_
      refine x_il c_Dk_handle_157 rfl ?_
      refine x_cv2z _ c_Dk_handle_158 (by first | rfl | exact a0 | exact ar.1 | exact b0) (Nat.le_of_ble_eq_true rfl) (y_Dk_conclude (d + 15) b0 b1 hk31 (tr_k at' (fun q q1 q2 => bf q (by omega))) (o := some l) (nm_k hln (bf _ (by decide)) (bf _ (by decide)) (bf _ (by decide))) (dn := 105) (code := R.1) ac (fun _ => ⟨l, rfl⟩) (wL_k aw (bf 3 (by decide)) (bf 4 (by decide))) (by omega)) ?_
      rintro _ μ4 ⟨rfl, c4⟩
      show kc_X _ _ _ _ _ [] _ _
      refine x_il c_Dk_handle_161 rfl ?_
      refine x_ri c_Dk_handle_162 ?_
      have hA : oAll R k 104 = R.2.2.2.2.2.1 ++ cB k 105 R.1 (if R.1 = 32 then naL R.2.2.2.1 ((some l).getD []) R.2.2.1 else []) := by unfold oAll; rw [hl]; rfl
      have hnl : (naL R.2.2.2.1 l R.2.2.1).length ≤ 4 := naL_4 (hn4 l hln)
      have hcb := cB_len k 105 R.1 hnl
      refine ⟨rfl, ac, (c4.2 0 (by decide) (by decide)).trans b0, ⟨_, _, _, _, _, _, (c4.2 1 (by decide) (by decide)).trans b1, (c4.2 2 (by decide) (by decide)).trans ((bf 2 (by decide)).trans ar.2)⟩, by rw [hA]; exact c4.1, ?_, ⟨_, tr_k at' (fun q q1 q2 => (c4.2 q (by omega) (by omega)).trans (bf q (by omega)))⟩, sc_k asc (fun q q1 q2 => (c4.2 q (by omega) (by omega)).trans (bf q (by omega))), fun q q1 => (c4.2 q (by omega) (by omega)).trans ((bf q (by omega)).trans (af q q1))⟩
      rw [hA, if_pos h32, List.length_append]
      show _ + (cB k 105 R.1 (naL R.2.2.2.1 l R.2.2.1)).length ≤ 400
      omega
    · skip
      refine x_al c_Dk_handle_141 rfl ?_
      refine x_get c_Dk_handle_142 (by first | rfl | exact a0 | exact ar.1 | exact b0) rfl ?_
      refine x_cv0z _ c_Dk_handle_145 (by first | rfl | exact a0 | exact ar.1 | exact b0) (Nat.le_of_ble_eq_true rfl) (y_Rd_clear (d + 18) ar.1) ?_
      rintro _ μ3 ⟨rfl, b1, bf⟩
      have b0 := (bf 0 (by decide)).trans a0
      show kc_X _ _ _ _ _ [] _ _
      refine x_al c_Dk_handle_148 rfl ?_
      refine x_get c_Dk_handle_149 (by first | rfl | exact a0 | exact ar.1 | exact b0) rfl ?_
      refine x_if_eq c_Dk_handle_152 (fun h => absurd h (by decide)) (fun _ => ?_)
      refine x_al c_Dk_handle_155 rfl ?_
      refine x_il c_Dk_handle_156 rfl ?_
      refine x_il c_Dk_handle_157 rfl ?_
      refine x_cv2z _ c_Dk_handle_158 (by first | rfl | exact a0 | exact ar.1 | exact b0) (Nat.le_of_ble_eq_true rfl) (y_Dk_conclude0 (d + 15) b0 b1 hk31 (dn := 105) (code := R.1) ac h32 (wL_k aw (bf 3 (by decide)) (bf 4 (by decide))) (by omega)) ?_
      rintro _ μ4 ⟨rfl, c4⟩
      show kc_X _ _ _ _ _ [] _ _
      refine x_il c_Dk_handle_161 rfl ?_
      refine x_ri c_Dk_handle_162 ?_
      have hA : oAll R k 104 = R.2.2.2.2.2.1 ++ cB k 105 R.1 [] := by unfold oAll; rw [if_neg h32]; rfl
      have hcb := cB_len k 105 R.1 (X := []) (Nat.zero_le _)
      refine ⟨rfl, ac, (c4.2 0 (by decide) (by decide)).trans b0, ⟨_, _, _, _, _, _, (c4.2 1 (by decide) (by decide)).trans b1, (c4.2 2 (by decide) (by decide)).trans ((bf 2 (by decide)).trans ar.2)⟩, by rw [hA]; exact c4.1, ?_, ⟨_, tr_k at' (fun q q1 q2 => (c4.2 q (by omega) (by omega)).trans (bf q (by omega)))⟩, sc_k asc (fun q q1 q2 => (c4.2 q (by omega) (by omega)).trans (bf q (by omega))), fun q q1 => (c4.2 q (by omega) (by omega)).trans ((bf q (by omega)).trans (af q q1))⟩
      rw [hA, List.length_append]
      omega
  refine x_al c_Dk_handle_0 rfl ?_
  refine x_get c_Dk_handle_1 (by first | rfl | exact h0 | exact b0 | exact d0 | exact hwr.1 | exact cw.o | exact hrd1.1 | exact k1) rfl ?_
  refine x_if_ne c_Dk_handle_4 (fun _ => ?_) (fun h => absurd h (by decide))
  refine x_al c_Dk_handle_9 rfl ?_
  refine x_get c_Dk_handle_10 (by first | rfl | exact h0 | exact b0 | exact d0 | exact hwr.1 | exact cw.o | exact hrd1.1 | exact k1) rfl ?_
  refine x_cv0z _ c_Dk_handle_13 (by first | rfl | exact h0 | exact b0 | exact d0 | exact hwr.1 | exact cw.o | exact hrd1.1 | exact k1) (Nat.le_of_ble_eq_true rfl) (y_Wr_clear (d + 18) hwr) ?_
  rintro _ μ0 ⟨rfl, cw⟩
  have d0 := (cw.2 0 (by decide) (by decide)).trans h0
  have hrd1 : rd_at μ0 tb sz at_ en wr id0 sf st := ⟨(cw.2 1 (by decide) (by decide)).trans hrd.1, (cw.2 2 (by decide) (by decide)).trans hrd.2⟩
  show kc_X _ _ _ _ _ [] _ _
  refine x_ci c_Dk_handle_16 ?_
  refine x_is [_, _, _] c_Dk_handle_17 rfl ?_
  refine x_ci c_Dk_handle_18 ?_
  refine x_is [_, _, _] c_Dk_handle_19 rfl ?_
  refine x_al c_Dk_handle_20 rfl ?_
  refine x_get c_Dk_handle_21 (by first | rfl | exact h0 | exact b0 | exact d0 | exact hwr.1 | exact cw.o | exact hrd1.1 | exact k1) rfl ?_
  refine x_cv0z _ c_Dk_handle_24 (by first | rfl | exact h0 | exact b0 | exact d0 | exact hwr.1 | exact cw.o | exact hrd1.1 | exact k1) (Nat.le_of_ble_eq_true rfl) (y_Rd_readFrame (d + 15) hrd1 htb hsz) ?_
  rintro v μ1 ⟨⟨_, _, _, _, _, _, _, z2⟩, g1, ⟨hG, rfl, x', y', k1⟩ | ⟨hG, rfl⟩⟩
  · obtain ⟨_, hv, hT, hc9⟩ := fr_ok htb (sf := sf) (st := st) hmsg
    rw [hv, hc9] at k1
    rw [hT]
    have b0 := (g1 0 (by decide)).trans d0
    have hr1 : rd_r μ1 tb sz (nI k) (c, sz, false, x', y') := ⟨k1, z2⟩
    have hok : rok sz (c, sz, false, x', y') := ⟨hcs, Nat.le_refl _, hsz⟩
    have f1 : ∀ q, 136 ≤ q → μ1.1 q = μ.1 q := fun q q1 => (g1 q (by omega)).trans (cw.2 q (by omega) (by omega))
    have ht1 := tr_k ht (μ' := μ1) (fun q q1 q2 => (g1 q (by omega)).trans (cw.2 q (by omega) (by omega)))
    have hsc1 := sc_k hsc (μ' := μ1) (fun q q1 q2 => (g1 q (by omega)).trans (cw.2 q (by omega) (by omega)))
    have hw1 : wL μ1 [] := wL_k cw.1 (g1 3 (by decide)) (g1 4 (by decide))
    show kc_X _ _ _ _ _ [.int (nI (tb b))] _ _
    refine x_sw 109 c_Dk_handle_27 (by rw [hop]; rfl) ?_
    refine x_al c_Dk_handle_109 rfl ?_
    refine x_cv0z _ c_Dk_handle_110 (by first | rfl | exact h0 | exact b0 | exact d0 | exact hwr.1 | exact cw.o | exact hrd1.1 | exact k1) (Nat.le_of_ble_eq_true rfl) (y_Dk_add (d + 12) b0 hr1 hok htb ht1 hsc1) ?_
    rintro _ μ2 ⟨rfl, a0, ⟨r', ar, _⟩, at', af, asc, ag⟩
    have hj := op_join (kb := false) (so := so) (r := (c, sz, false, x', y')) htb rfl (fun l cs => adK n nm l cs)
    have hj1 : opK so (nmS tb (rS tb (nI 4) (c, sz, false, x', y')).2.2.2.1 (rS tb (nI 4) (c, sz, false, x', y')).2.2.2.2) (rD (rcF tb false (rS tb (nI 4) (c, sz, false, x', y'))).1) (fun l => (fun l cs => adK n nm l cs) l (rcF tb false (rS tb (nI 4) (c, sz, false, x', y'))).2) = (opJ so tb (acS tb false c sz) (fun l cs => adK n nm l cs)) := hj.1
    dsimp only at hj1
    rw [hj1] at at' ⊢
    have hRE : (oRes tb so n nm pr k c sz 104) = ((opJ so tb (acS tb false c sz) (fun l cs => adK n nm l cs)).1, so, adN n (opJ so tb (acS tb false c sz) (fun l cs => adK n nm l cs)).2, adF n (fun _ => (opN tb (acS tb false c sz)).getD []) nm (opJ so tb (acS tb false c sz) (fun l cs => adK n nm l cs)).2, adF n (fun p => p) pr (opJ so tb (acS tb false c sz) (fun l cs => adK n nm l cs)).2, [], opN tb (acS tb false c sz)) := by unfold oRes; rw [if_neg (by decide), if_neg (by decide), if_neg (by decide), if_pos rfl]
    have hadf : adF n (fun _ => (nmS tb (rS tb (nI 4) (c, sz, false, x', y')).2.2.2.1 (rS tb (nI 4) (c, sz, false, x', y')).2.2.2.2).getD []) nm (opJ so tb (acS tb false c sz) (fun l cs => adK n nm l cs)).2 = adF n (fun _ => (opN tb (acS tb false c sz)).getD []) nm (opJ so tb (acS tb false c sz) (fun l cs => adK n nm l cs)).2 := adF_n (fun a ha => by obtain ⟨x2, y2, cs, hq⟩ := opJ_some ha; rw [hj.2 x2 y2 cs hq, show opN tb (acS tb false c sz) = nmS tb x2 y2 by rw [show acS tb false c sz = some (x2, y2, cs) from hq]; rfl])
    have cP : cPo μ μ2 tb sz k (oRes tb so n nm pr k c sz 104) := by
          rw [hRE]
          refine ⟨a0, ⟨r', ar⟩, ⟨_, (hadf ▸ at')⟩, wL_k hw1 (af 3 (by decide) (by decide)) (af 4 (by decide) (by decide)), Nat.zero_le _, asc, fun q => ?_, (opJ_lt (fun l cs => adK_lt (apl_lt cs []))), fun q q1 => (af q (by omega) (by omega)).trans (f1 q q1)⟩
          obtain ⟨l, hl⟩ := opJ_32 q
          refine ⟨l, hl, ?_⟩
          have hq9 : nmS tb (rS tb (nI 4) (c, sz, false, x', y')).2.2.2.1 (rS tb (nI 4) (c, sz, false, x', y')).2.2.2.2 = some l := by
            obtain ⟨x2, y2, cs, hq⟩ := opN_some hl
            rw [hj.2 x2 y2 cs hq]
            rw [← hl, show acS tb false c sz = some (x2, y2, cs) from hq]; rfl
          rw [hq9] at ag
          exact ag
    show kc_X _ _ _ _ _ [.int (nI (opJ so tb (acS tb false c sz) (fun l cs => adK n nm l cs)).1)] _ _
    rw [show (opJ so tb (acS tb false c sz) (fun l cs => adK n nm l cs)).1 = (oRes tb so n nm pr k c sz 104).1 by rw [hRE]]
    refine x_is [_, _, _] c_Dk_handle_113 rfl ?_
    refine x_ci c_Dk_handle_114 ?_
    refine x_is [_, _, _] c_Dk_handle_116 rfl ?_
    refine x_goto c_Dk_handle_117 ?_
    exact fin μ2 cP
  · exact absurd (fr_ok htb (sf := sf) (st := st) hmsg).1 hG
set_option maxRecDepth 100000 in
set_option maxHeartbeats 4000000 in
theorem y_Dk_handle74 (d : Nat) {μ : kc_M} {so : Bool} {tb : Nat → Nat} {sz : Nat} {w : Nat → Int32} {wn n : Nat} {ad : Nat → Nat} {nm pr : Nat → List tv} (hC : CI μ true so tb sz w wn n ad nm pr) (htb : ∀ j, tb j < 256) (hsz : sz ≤ 200) (hgd : ∀ e, e < n → gd (pr e)) {k b c : Nat} (hk31 : k < 2 ^ 31) (hmsg : msg tb sz = some (nI k, b, c)) (hcs : c ≤ sz) (hop : tb b = 74) : kc_Y kt kC (d + 20) j_Dk_handle [.ref 0] μ (fun v μ' => v = some (.int (nI (oRes tb so n nm pr k c sz 74).1)) ∧ (oRes tb so n nm pr k c sz 74).1 < 256 ∧ μ'.1 0 = some (ce_Dk true (oRes tb so n nm pr k c sz 74).2.1) ∧ (∃ at_ en wr id sf st, rd_at μ' tb 0 at_ en wr id sf st) ∧ wL μ' (oAll (oRes tb so n nm pr k c sz 74) k 74) ∧ (oAll (oRes tb so n nm pr k c sz 74) k 74).length ≤ 400 ∧ (∃ ad', tr_at μ' (oRes tb so n nm pr k c sz 74).2.2.1 ad' (oRes tb so n nm pr k c sz 74).2.2.2.1 (oRes tb so n nm pr k c sz 74).2.2.2.2.1) ∧ sc_at μ' ∧ ∀ q, 136 ≤ q → μ'.1 q = μ.1 q) := by
  refine ⟨Nat.le_of_ble_eq_true rfl, ?_⟩
  obtain ⟨h0, ⟨at_, en, wr, id0, sf, st, hrd⟩, hwr, ht, hsc⟩ := hC
  have fin : ∀ (μ2 : kc_M), cPo μ μ2 tb sz k (oRes tb so n nm pr k c sz 74) → kc_X (kC j_Dk_handle) (kc_Y kt kC (d + 19)) (fun v μ' => v = some (.int (nI (oRes tb so n nm pr k c sz 74).1)) ∧ (oRes tb so n nm pr k c sz 74).1 < 256 ∧ μ'.1 0 = some (ce_Dk true (oRes tb so n nm pr k c sz 74).2.1) ∧ (∃ at_ en wr id sf st, rd_at μ' tb 0 at_ en wr id sf st) ∧ wL μ' (oAll (oRes tb so n nm pr k c sz 74) k 74) ∧ (oAll (oRes tb so n nm pr k c sz 74) k 74).length ≤ 400 ∧ (∃ ad', tr_at μ' (oRes tb so n nm pr k c sz 74).2.2.1 ad' (oRes tb so n nm pr k c sz 74).2.2.2.1 (oRes tb so n nm pr k c sz 74).2.2.2.2.1) ∧ sc_at μ' ∧ ∀ q, 136 ≤ q → μ'.1 q = μ.1 q) 141 [some (.ref 0), some (.int (nI (oRes tb so n nm pr k c sz 74).1)), some (.int (nI 107))] [] μ2 (0, 0) := by
    intro μ2 cP
    obtain ⟨R, hR⟩ : ∃ R, (oRes tb so n nm pr k c sz 74) = R := ⟨_, rfl⟩
    rw [hR] at cP ⊢
    obtain ⟨a0, ⟨r', ar⟩, ⟨ad', at'⟩, aw, al, asc, a32, ac, af⟩ := cP
    have hn4 : ∀ l : List tv, nm_at μ2 119 120 121 l → l.length ≤ 4 := fun l h => by obtain ⟨_, _, _, _, _, _, h9⟩ := h; exact h9
    by_cases h32 : R.1 = 32
    · obtain ⟨l, hl, hln⟩ := a32 h32
      refine x_al c_Dk_handle_141 rfl ?_
      refine x_get c_Dk_handle_142 (by first | rfl | exact a0 | exact ar.1 | exact b0) rfl ?_
      refine x_cv0z _ c_Dk_handle_145 (by first | rfl | exact a0 | exact ar.1 | exact b0) (Nat.le_of_ble_eq_true rfl) (y_Rd_clear (d + 18) ar.1) ?_
      rintro _ μ3 ⟨rfl, b1, bf⟩
      have b0 := (bf 0 (by decide)).trans a0
      show kc_X _ _ _ _ _ [] _ _
      refine x_al c_Dk_handle_148 rfl ?_
      refine x_get c_Dk_handle_149 (by first | rfl | exact a0 | exact ar.1 | exact b0) rfl ?_
      refine x_if_eq c_Dk_handle_152 (fun h => absurd h (by decide)) (fun _ => ?_)
      refine x_al c_Dk_handle_155 rfl ?_
      refine x_il c_Dk_handle_156 rfl ?_
      refine x_il c_Dk_handle_157 rfl ?_
      refine x_cv2z _ c_Dk_handle_158 (by first | rfl | exact a0 | exact ar.1 | exact b0) (Nat.le_of_ble_eq_true rfl) (y_Dk_conclude (d + 15) b0 b1 hk31 (tr_k at' (fun q q1 q2 => bf q (by omega))) (o := some l) (nm_k hln (bf _ (by decide)) (bf _ (by decide)) (bf _ (by decide))) (dn := 107) (code := R.1) ac (fun _ => ⟨l, rfl⟩) (wL_k aw (bf 3 (by decide)) (bf 4 (by decide))) (by omega)) ?_
      rintro _ μ4 ⟨rfl, c4⟩
      show kc_X _ _ _ _ _ [] _ _
      refine x_il c_Dk_handle_161 rfl ?_
      refine x_ri c_Dk_handle_162 ?_
      have hA : oAll R k 74 = R.2.2.2.2.2.1 ++ cB k 107 R.1 (if R.1 = 32 then naL R.2.2.2.1 ((some l).getD []) R.2.2.1 else []) := by unfold oAll; rw [hl]; rfl
      have hnl : (naL R.2.2.2.1 l R.2.2.1).length ≤ 4 := naL_4 (hn4 l hln)
      have hcb := cB_len k 107 R.1 hnl
      refine ⟨rfl, ac, (c4.2 0 (by decide) (by decide)).trans b0, ⟨_, _, _, _, _, _, (c4.2 1 (by decide) (by decide)).trans b1, (c4.2 2 (by decide) (by decide)).trans ((bf 2 (by decide)).trans ar.2)⟩, by rw [hA]; exact c4.1, ?_, ⟨_, tr_k at' (fun q q1 q2 => (c4.2 q (by omega) (by omega)).trans (bf q (by omega)))⟩, sc_k asc (fun q q1 q2 => (c4.2 q (by omega) (by omega)).trans (bf q (by omega))), fun q q1 => (c4.2 q (by omega) (by omega)).trans ((bf q (by omega)).trans (af q q1))⟩
      rw [hA, if_pos h32, List.length_append]
      show _ + (cB k 107 R.1 (naL R.2.2.2.1 l R.2.2.1)).length ≤ 400
      omega
    · skip
      refine x_al c_Dk_handle_141 rfl ?_
      refine x_get c_Dk_handle_142 (by first | rfl | exact a0 | exact ar.1 | exact b0) rfl ?_
      refine x_cv0z _ c_Dk_handle_145 (by first | rfl | exact a0 | exact ar.1 | exact b0) (Nat.le_of_ble_eq_true rfl) (y_Rd_clear (d + 18) ar.1) ?_
      rintro _ μ3 ⟨rfl, b1, bf⟩
      have b0 := (bf 0 (by decide)).trans a0
      show kc_X _ _ _ _ _ [] _ _
      refine x_al c_Dk_handle_148 rfl ?_
      refine x_get c_Dk_handle_149 (by first | rfl | exact a0 | exact ar.1 | exact b0) rfl ?_
      refine x_if_eq c_Dk_handle_152 (fun h => absurd h (by decide)) (fun _ => ?_)
      refine x_al c_Dk_handle_155 rfl ?_
      refine x_il c_Dk_handle_156 rfl ?_
      refine x_il c_Dk_handle_157 rfl ?_
      refine x_cv2z _ c_Dk_handle_158 (by first | rfl | exact a0 | exact ar.1 | exact b0) (Nat.le_of_ble_eq_true rfl) (y_Dk_conclude0 (d + 15) b0 b1 hk31 (dn := 107) (code := R.1) ac h32 (wL_k aw (bf 3 (by decide)) (bf 4 (by decide))) (by omega)) ?_
      rintro _ μ4 ⟨rfl, c4⟩
      show kc_X _ _ _ _ _ [] _ _
      refine x_il c_Dk_handle_161 rfl ?_
      refine x_ri c_Dk_handle_162 ?_
      have hA : oAll R k 74 = R.2.2.2.2.2.1 ++ cB k 107 R.1 [] := by unfold oAll; rw [if_neg h32]; rfl
      have hcb := cB_len k 107 R.1 (X := []) (Nat.zero_le _)
      refine ⟨rfl, ac, (c4.2 0 (by decide) (by decide)).trans b0, ⟨_, _, _, _, _, _, (c4.2 1 (by decide) (by decide)).trans b1, (c4.2 2 (by decide) (by decide)).trans ((bf 2 (by decide)).trans ar.2)⟩, by rw [hA]; exact c4.1, ?_, ⟨_, tr_k at' (fun q q1 q2 => (c4.2 q (by omega) (by omega)).trans (bf q (by omega)))⟩, sc_k asc (fun q q1 q2 => (c4.2 q (by omega) (by omega)).trans (bf q (by omega))), fun q q1 => (c4.2 q (by omega) (by omega)).trans ((bf q (by omega)).trans (af q q1))⟩
      rw [hA, List.length_append]
      omega
  refine x_al c_Dk_handle_0 rfl ?_
  refine x_get c_Dk_handle_1 (by first | rfl | exact h0 | exact b0 | exact d0 | exact hwr.1 | exact cw.o | exact hrd1.1 | exact k1) rfl ?_
  refine x_if_ne c_Dk_handle_4 (fun _ => ?_) (fun h => absurd h (by decide))
  refine x_al c_Dk_handle_9 rfl ?_
  refine x_get c_Dk_handle_10 (by first | rfl | exact h0 | exact b0 | exact d0 | exact hwr.1 | exact cw.o | exact hrd1.1 | exact k1) rfl ?_
  refine x_cv0z _ c_Dk_handle_13 (by first | rfl | exact h0 | exact b0 | exact d0 | exact hwr.1 | exact cw.o | exact hrd1.1 | exact k1) (Nat.le_of_ble_eq_true rfl) (y_Wr_clear (d + 18) hwr) ?_
  rintro _ μ0 ⟨rfl, cw⟩
  have d0 := (cw.2 0 (by decide) (by decide)).trans h0
  have hrd1 : rd_at μ0 tb sz at_ en wr id0 sf st := ⟨(cw.2 1 (by decide) (by decide)).trans hrd.1, (cw.2 2 (by decide) (by decide)).trans hrd.2⟩
  show kc_X _ _ _ _ _ [] _ _
  refine x_ci c_Dk_handle_16 ?_
  refine x_is [_, _, _] c_Dk_handle_17 rfl ?_
  refine x_ci c_Dk_handle_18 ?_
  refine x_is [_, _, _] c_Dk_handle_19 rfl ?_
  refine x_al c_Dk_handle_20 rfl ?_
  refine x_get c_Dk_handle_21 (by first | rfl | exact h0 | exact b0 | exact d0 | exact hwr.1 | exact cw.o | exact hrd1.1 | exact k1) rfl ?_
  refine x_cv0z _ c_Dk_handle_24 (by first | rfl | exact h0 | exact b0 | exact d0 | exact hwr.1 | exact cw.o | exact hrd1.1 | exact k1) (Nat.le_of_ble_eq_true rfl) (y_Rd_readFrame (d + 15) hrd1 htb hsz) ?_
  rintro v μ1 ⟨⟨_, _, _, _, _, _, _, z2⟩, g1, ⟨hG, rfl, x', y', k1⟩ | ⟨hG, rfl⟩⟩
  · obtain ⟨_, hv, hT, hc9⟩ := fr_ok htb (sf := sf) (st := st) hmsg
    rw [hv, hc9] at k1
    rw [hT]
    have b0 := (g1 0 (by decide)).trans d0
    have hr1 : rd_r μ1 tb sz (nI k) (c, sz, false, x', y') := ⟨k1, z2⟩
    have hok : rok sz (c, sz, false, x', y') := ⟨hcs, Nat.le_refl _, hsz⟩
    have f1 : ∀ q, 136 ≤ q → μ1.1 q = μ.1 q := fun q q1 => (g1 q (by omega)).trans (cw.2 q (by omega) (by omega))
    have ht1 := tr_k ht (μ' := μ1) (fun q q1 q2 => (g1 q (by omega)).trans (cw.2 q (by omega) (by omega)))
    have hsc1 := sc_k hsc (μ' := μ1) (fun q q1 q2 => (g1 q (by omega)).trans (cw.2 q (by omega) (by omega)))
    have hw1 : wL μ1 [] := wL_k cw.1 (g1 3 (by decide)) (g1 4 (by decide))
    show kc_X _ _ _ _ _ [.int (nI (tb b))] _ _
    refine x_sw 120 c_Dk_handle_27 (by rw [hop]; rfl) ?_
    refine x_al c_Dk_handle_120 rfl ?_
    refine x_cv0z _ c_Dk_handle_121 (by first | rfl | exact h0 | exact b0 | exact d0 | exact hwr.1 | exact cw.o | exact hrd1.1 | exact k1) (Nat.le_of_ble_eq_true rfl) (y_Dk_delete (d + 14) b0 hr1 hok htb ht1 rfl hsc1) ?_
    rintro _ μ2 ⟨rfl, ⟨r', ar, _⟩, at', af, asc, ag⟩
    have hRE : (oRes tb so n nm pr k c sz 74) = ((dlC so n nm (nmS tb c sz)).1, so, dn n (dlC so n nm (nmS tb c sz)).2, (fun i => nm (dr n (dlC so n nm (nmS tb c sz)).2 i)), (fun i => pr (dr n (dlC so n nm (nmS tb c sz)).2 i)), [], nmS tb c sz) := by unfold oRes; rw [if_neg (by decide), if_neg (by decide), if_neg (by decide), if_neg (by decide)]
    have cP : cPo μ μ2 tb sz k (oRes tb so n nm pr k c sz 74) := by
          rw [hRE]
          refine ⟨(af 0 (by decide) (by decide)).trans b0, ⟨r', ar⟩, ⟨_, at'⟩, wL_k hw1 (af 3 (by decide) (by decide)) (af 4 (by decide) (by decide)), Nat.zero_le _, asc, fun q => ?_, dlC_lt, fun q q1 => (af q (by omega) (by omega)).trans (f1 q q1)⟩
          obtain ⟨l, hl⟩ := dlC_32 q
          refine ⟨l, hl, ?_⟩
          have ag : tg_at μ2 (nmS tb c sz) := ag
          rw [hl] at ag
          exact ag
    show kc_X _ _ _ _ _ [.int (nI (dlC so n nm (nmS tb c sz)).1)] _ _
    rw [show (dlC so n nm (nmS tb c sz)).1 = (oRes tb so n nm pr k c sz 74).1 by rw [hRE]]
    refine x_is [_, _, _] c_Dk_handle_124 rfl ?_
    refine x_ci c_Dk_handle_125 ?_
    refine x_is [_, _, _] c_Dk_handle_127 rfl ?_
    refine x_goto c_Dk_handle_128 ?_
    exact fin μ2 cP
  · exact absurd (fr_ok htb (sf := sf) (st := st) hmsg).1 hG
