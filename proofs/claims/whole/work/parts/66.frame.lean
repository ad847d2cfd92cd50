/-! the class's Reader in terms of elements; what is a message -/
theorem tg {tb : Nat → Nat} (htb : ∀ j, tb j < 256) {a t : Nat} (ht : t < 2 ^ 31) : nI (tb a) = nI t ↔ tb a = t := nI_eq (tbl htb a) ht
theorem rE_ok {tb : Nat → Nat} (htb : ∀ j, tb j < 256) {t a e sf st x y : Nat} (ht : t < 2 ^ 31) (h : tl tb t a e = some (x, y)) : rE tb (nI t) (a, e, false, sf, st) = (x, y, false, sf, st) := by
  obtain ⟨h1, h2⟩ := tl_el h
  unfold el at h1
  unfold rE
  dsimp only
  split at h1
  · rename_i g
    rw [if_pos ⟨rfl, g.1, g.2.1, (tg htb ht).mpr h2, g.2.2⟩]
    simp only [Option.some.injEq, Prod.mk.injEq] at h1
    obtain ⟨rfl, rfl⟩ := h1
    rfl
  · rename_i g
    split at h1
    · rename_i g2
      rw [if_neg (fun q => g ⟨q.2.1, q.2.2.1, q.2.2.2.2⟩), if_pos ⟨rfl, g2.1, g2.2.1, (tg htb ht).mpr h2, g2.2.2⟩]
      simp only [Option.some.injEq, Prod.mk.injEq] at h1
      obtain ⟨rfl, rfl⟩ := h1
      rfl
    · cases h1
theorem rE_wr {tb : Nat → Nat} {tag : Int32} {r : RS} (h : r.2.2.1 = true) : (rE tb tag r) = rW r := by
  unfold rE rW
  rw [if_neg (by rintro ⟨q, _⟩; rw [h] at q; cases q), if_neg (by rintro ⟨q, _⟩; rw [h] at q; cases q)]
theorem rE_no {tb : Nat → Nat} (htb : ∀ j, tb j < 256) {t : Nat} {r : RS} (ht : t < 2 ^ 31) (h : tl tb t r.1 r.2.1 = none) : rE tb (nI t) r = rW r := by
  unfold rE rW
  unfold tl el at h
  rw [if_neg, if_neg]
  · rintro ⟨_, g1, g2, g3, g4⟩
    rw [if_pos ((tg htb ht).mp g3)] at h
    split at h
    · cases h
    · rw [if_pos ⟨g1, g2, g4⟩] at h; cases h
  · rintro ⟨_, g1, g2, g3, g4⟩
    rw [if_pos ((tg htb ht).mp g3), if_pos ⟨g1, g2, g4⟩] at h
    cases h
theorem rS_ok {tb : Nat → Nat} (htb : ∀ j, tb j < 256) {t a e sf st x y : Nat} (ht : t < 2 ^ 31) (h : tl tb t a e = some (x, y)) : rS tb (nI t) (a, e, false, sf, st) = (y, e, false, x, y) := by
  unfold rS
  rw [rE_ok htb ht h]
  simp [rR, rL]
theorem rS_wr {tb : Nat → Nat} {tag : Int32} {r : RS} (h : r.2.2.1 = true) : (rS tb tag r).2.2.1 = true := by
  unfold rS
  rw [rE_wr h]
  rfl
theorem rS_no {tb : Nat → Nat} (htb : ∀ j, tb j < 256) {t : Nat} {r : RS} (ht : t < 2 ^ 31) (h : tl tb t r.1 r.2.1 = none) : (rS tb (nI t) r).2.2.1 = true := by
  unfold rS
  rw [rE_no htb ht h]
  rfl
theorem rN_ok {tb : Nat → Nat} (htb : ∀ j, tb j < 256) {a e sf st x y : Nat} (h : nl tb a e = some (x, y)) : rN tb (a, e, false, sf, st) = (y, e, false, x, y) ∧ vN tb (a, e, false, sf, st) = nuS tb x y := by
  obtain ⟨h1, h2⟩ := nl_in h
  unfold rN vN nuS
  rw [rS_ok htb (by omega) h1]
  dsimp only
  refine ⟨by rw [if_pos h2], ?_⟩
  by_cases g : y - x = 1
  · rw [if_pos g, if_pos g]
  · rw [if_neg g, if_neg g, if_pos (by omega)]
theorem rN_wr {tb : Nat → Nat} {r : RS} (h : r.2.2.1 = true) : (rN tb r).2.2.1 = true := by
  unfold rN
  split
  · exact rS_wr h
  · rfl
theorem rN_no {tb : Nat → Nat} (htb : ∀ j, tb j < 256) {a e sf st : Nat} {w : Bool} (h : nl tb a e = none) : (rN tb (a, e, w, sf, st)).2.2.1 = true := by
  cases w with
  | true => exact rN_wr rfl
  | false =>
    cases h1 : tl tb 2 a e with
    | none =>
      unfold rN
      split
      · exact rS_no htb (by omega) h1
      · rfl
    | some q =>
      obtain ⟨x, y⟩ := q
      unfold nl at h
      rw [h1] at h
      dsimp only at h
      unfold rN
      rw [rS_ok htb (by omega) h1]
      dsimp only
      split at h
      · cases h
      · rename_i g
        rw [if_neg g]
        rfl
theorem rO_ok {tb : Nat → Nat} (htb : ∀ j, tb j < 256) {t a e sf st x y : Nat} (ht : t < 2 ^ 31) (h : tl tb t a e = some (x, y)) (hl : y - x = 1) : rO tb (nI t) (a, e, false, sf, st) = (y, e, false, x, y) ∧ vO tb (nI t) (a, e, false, sf, st) = tb x := by
  unfold rO vO
  rw [rS_ok htb ht h]
  dsimp only
  rw [if_pos hl, if_pos hl]
  exact ⟨rfl, rfl⟩
theorem rO_wr {tb : Nat → Nat} {tag : Int32} {r : RS} (h : r.2.2.1 = true) : (rO tb tag r).2.2.1 = true := by
  unfold rO
  split
  · exact rS_wr h
  · rfl
theorem rO_no {tb : Nat → Nat} (htb : ∀ j, tb j < 256) {t a e sf st : Nat} {w : Bool} (ht : t < 2 ^ 31) (h : ∀ x y, tl tb t a e = some (x, y) → y - x ≠ 1) : (rO tb (nI t) (a, e, w, sf, st)).2.2.1 = true := by
  cases w with
  | true => exact rO_wr rfl
  | false =>
    cases h1 : tl tb t a e with
    | none =>
      unfold rO
      split
      · exact rS_no htb ht h1
      · rfl
    | some q =>
      obtain ⟨x, y⟩ := q
      unfold rO
      rw [rS_ok htb ht h1]
      dsimp only
      rw [if_neg (h x y h1)]
      rfl
theorem rC_ok {tb : Nat → Nat} (htb : ∀ j, tb j < 256) {m a e sf st x y : Nat} (h : cl_ tb m a e = some (x, y)) : rC tb m (a, e, false, sf, st) = (y, e, false, x, y) ∧ vO tb (nI 10) (a, e, false, sf, st) = tb x := by
  obtain ⟨h1, h2, h3⟩ := cl_in h
  obtain ⟨g1, g2⟩ := rO_ok htb (t := 10) (sf := sf) (st := st) (by omega) h1 h2
  unfold rC
  rw [g2, g1, if_pos h3]
  exact ⟨rfl, rfl⟩
theorem rC_wr {tb : Nat → Nat} {m : Nat} {r : RS} (h : r.2.2.1 = true) : (rC tb m r).2.2.1 = true := by
  unfold rC
  split
  · exact rO_wr h
  · rfl
theorem rC_no {tb : Nat → Nat} (htb : ∀ j, tb j < 256) {m a e sf st : Nat} {w : Bool} (h : cl_ tb m a e = none) : (rC tb m (a, e, w, sf, st)).2.2.1 = true := by
  cases w with
  | true => exact rC_wr rfl
  | false =>
    by_cases g : ∃ x y, tl tb 10 a e = some (x, y) ∧ y - x = 1
    · obtain ⟨x, y, g1, g2⟩ := g
      unfold cl_ at h
      rw [g1] at h
      dsimp only at h
      obtain ⟨k1, k2⟩ := rO_ok htb (t := 10) (sf := sf) (st := st) (by omega) g1 g2
      unfold rC
      rw [k1, k2]
      split at h
      · cases h
      · rename_i g3
        rw [if_neg (fun q => g3 ⟨g2, q⟩)]
        rfl
    · have := rO_no htb (t := 10) (sf := sf) (st := st) (w := false) (by omega) (fun x y q1 q2 => g ⟨x, y, q1, q2⟩)
      unfold rC
      split
      · exact this
      · rfl
def msg (tb : Nat → Nat) (sz : Nat) : Option (Int32 × Nat × Nat) := match tl tb 48 0 sz with
  | some (x, y) => if y = sz then (match nl tb x sz with
    | some (a, b) => if 0 ≤ nuS tb a b then (match el tb b sz with
      | some (c, d) => if d = sz then some (nuS tb a b, b, c) else none
      | none => none) else none
    | none => none) else none
  | none => none
theorem msg_ok {tb : Nat → Nat} {sz : Nat} {i : Int32} {b c : Nat} (h : msg tb sz = some (i, b, c)) : ∃ x a, tl tb 48 0 sz = some (x, sz) ∧ nl tb x sz = some (a, b) ∧ 0 ≤ nuS tb a b ∧ i = nuS tb a b ∧ el tb b sz = some (c, sz) := by
  unfold msg at h
  split at h
  · rename_i x y g1
    split at h
    · rename_i g2
      subst g2
      split at h
      · rename_i a b' g3
        split at h
        · rename_i g4
          split at h
          · rename_i c' d g5
            split at h
            · rename_i g6
              subst g6
              simp only [Option.some.injEq, Prod.mk.injEq] at h
              obtain ⟨rfl, rfl, rfl⟩ := h
              exact ⟨x, a, g1, g3, g4, rfl, g5⟩
            · cases h
          · cases h
        · cases h
      · cases h
    · cases h
  · cases h
/-- the class's frame: the places behind its steps -/
def f1 (tb : Nat → Nat) (sz sf st : Nat) : RS := rE tb (nI 48) (0, sz, false, sf, st)
def f2 (tb : Nat → Nat) (sz sf st : Nat) : RS := rN tb (f1 tb sz sf st)
def f3 (tb : Nat → Nat) (sz sf st : Nat) : RS := rE tb (rT tb (f2 tb sz sf st)) (f2 tb sz sf st)
def fG (tb : Nat → Nat) (sz sf st : Nat) : Prop := (f3 tb sz sf st).2.2.1 = false ∧ 0 ≤ vN tb (f1 tb sz sf st) ∧ (f3 tb sz sf st).2.1 = sz
theorem el_tl {tb : Nat → Nat} {p e : Nat} : tl tb (tb p) p e = el tb p e := by unfold tl; rw [if_pos rfl]
theorem fr_ok {tb : Nat → Nat} (htb : ∀ j, tb j < 256) {sz sf st : Nat} {i : Int32} {b c : Nat} (h : msg tb sz = some (i, b, c)) : fG tb sz sf st ∧ vN tb (f1 tb sz sf st) = i ∧ rT tb (f2 tb sz sf st) = nI (tb b) ∧ (f3 tb sz sf st).1 = c := by
  obtain ⟨x, a, h1, h2, h3, rfl, h5⟩ := msg_ok h
  have e1 : f1 tb sz sf st = (x, sz, false, sf, st) := rE_ok htb (by omega) h1
  obtain ⟨g1, g2⟩ := rN_ok htb (sf := sf) (st := st) h2
  have e2 : f2 tb sz sf st = (b, sz, false, a, b) := by unfold f2; rw [e1]; exact g1
  have hin := el_in h5
  have e3 : rT tb (f2 tb sz sf st) = nI (tb b) := by
    unfold rT rM
    rw [e2]
    dsimp only
    rw [if_pos]
    simp
    omega
  have e4 : f3 tb sz sf st = (c, sz, false, a, b) := by
    unfold f3
    rw [e3, e2]
    exact rE_ok htb (tbl htb b) (by rw [el_tl]; exact h5)
  refine ⟨⟨by rw [e4], ?_, by rw [e4]⟩, ?_, e3, by rw [e4]⟩
  · rw [e1, g2]; exact h3
  · rw [e1, g2]
theorem fr_no {tb : Nat → Nat} (htb : ∀ j, tb j < 256) {sz sf st : Nat} (hsz : sz ≤ 200) (h : msg tb sz = none) : ¬ fG tb sz sf st := by
  rintro ⟨k1, k2, k3⟩
  have hok : rok sz ((0, sz, false, sf, st) : RS) := ⟨by show 0 ≤ sz; omega, Nat.le_refl _, hsz⟩
  have q1 := rok_E (tb := tb) (tag := nI 48) hok
  have q2 := rok_N (tb := tb) q1.1
  have q3 := rok_E (tb := tb) (tag := rT tb (f2 tb sz sf st)) q2.1
  have hw2 : (f2 tb sz sf st).2.2.1 = false := by
    cases hh : (f2 tb sz sf st).2.2.1 with
    | false => rfl
    | true => unfold f3 at k1; rw [rE_wr hh] at k1; cases k1
  cases h1 : tl tb 48 0 sz with
  | none =>
    have e1 : f1 tb sz sf st = rW (0, sz, false, sf, st) := rE_no htb (r := (0, sz, false, sf, st)) (by omega) h1
    unfold f2 at hw2
    rw [rN_wr (by rw [e1]; rfl)] at hw2
    cases hw2
  | some q =>
    obtain ⟨x, y⟩ := q
    have e1 : f1 tb sz sf st = (x, y, false, sf, st) := rE_ok htb (by omega) h1
    have hy : y = sz := by
      have i1 := tl_in h1
      have i2 : (f3 tb sz sf st).2.1 ≤ (f2 tb sz sf st).2.1 := q3.2.1
      have i3 : (f2 tb sz sf st).2.1 = (f1 tb sz sf st).2.1 := q2.2.1
      rw [k3, i3, e1] at i2
      have : sz ≤ y := i2
      omega
    subst hy
    cases h2 : nl tb x y with
    | none =>
      unfold f2 at hw2
      rw [e1, rN_no htb h2] at hw2
      cases hw2
    | some q =>
      obtain ⟨a, b⟩ := q
      obtain ⟨g1, g2⟩ := rN_ok htb (sf := sf) (st := st) h2
      have e2 : f2 tb y sf st = (b, y, false, a, b) := by unfold f2; rw [e1]; exact g1
      rw [e1, g2] at k2
      cases h3 : el tb b y with
      | none =>
        unfold f3 at k1
        by_cases hm : rM (f2 tb y sf st) = true
        · have e3 : rT tb (f2 tb y sf st) = nI (tb b) := by unfold rT; rw [if_pos hm, e2]
          rw [e3, rE_no htb (tbl htb b) (by rw [e2]; dsimp only; rw [el_tl]; exact h3)] at k1
          cases k1
        · rw [e2] at hm k1
          unfold rM at hm
          simp at hm
          unfold rE at k1
          dsimp only at k1
          rw [if_neg (by rintro ⟨_, g, _⟩; omega), if_neg (by rintro ⟨_, g, _⟩; omega)] at k1
          cases k1
      | some q =>
        obtain ⟨c, dd⟩ := q
        have hin := el_in h3
        have e3 : rT tb (f2 tb y sf st) = nI (tb b) := by
          unfold rT rM
          rw [e2]
          dsimp only
          rw [if_pos]
          simp
          omega
        have e4 : f3 tb y sf st = (c, dd, false, a, b) := by
          unfold f3
          rw [e3, e2]
          exact rE_ok htb (tbl htb b) (by rw [el_tl]; exact h3)
        rw [e4] at k3
        have hd : dd = y := k3
        subst hd
        unfold msg at h
        rw [h1] at h
        dsimp only at h
        rw [if_pos rfl, h2] at h
        dsimp only at h
        rw [if_pos k2, h3] at h
        dsimp only at h
        rw [if_pos rfl] at h
        cases h
set_option maxRecDepth 100000 in
set_option maxHeartbeats 4000000 in
theorem y_Rd_readFrame (d : Nat) {μ : kc_M} {tb : Nat → Nat} {sz at_ en : Nat} {wr : Bool} {id : Int32} {sf st : Nat} (hr : rd_at μ tb sz at_ en wr id sf st) (htb : ∀ j, tb j < 256) (hsz : sz ≤ 200) : kc_Y kt kC (d + 4) j_Rd_readFrame [.ref 1] μ (fun v μ' => (∃ at_ en wr id x y, rd_at μ' tb sz at_ en wr id x y) ∧ (∀ q, q ≠ 1 → μ'.1 q = μ.1 q) ∧ ((fG tb sz sf st ∧ v = some (.int (rT tb (f2 tb sz sf st))) ∧ ∃ x y, μ'.1 1 = some (ce_Rd sz (f3 tb sz sf st).1 sz false (vN tb (f1 tb sz sf st)) x y)) ∨ (¬ fG tb sz sf st ∧ v = some (.int (-1))))) := by
  obtain ⟨h1, h2⟩ := hr
  have hok : rok sz ((0, sz, false, sf, st) : RS) := ⟨by show 0 ≤ sz; omega, Nat.le_refl _, hsz⟩
  refine ⟨Nat.le_of_ble_eq_true rfl, ?_⟩
  refine x_al c_Rd_readFrame_0 rfl ?_
  refine x_ci c_Rd_readFrame_1 ?_
  refine x_put [_, _, _, _, _, _, _, _] c_Rd_readFrame_2 (by first | rfl | exact h1 | exact h2 | exact g1.1 | exact g2.1 | exact kc_gs | exact g3) ⟨Nat.le_of_ble_eq_true rfl, rfl, rfl⟩ rfl ?_
  refine x_al c_Rd_readFrame_5 rfl ?_
  refine x_al c_Rd_readFrame_6 rfl ?_
  refine x_get c_Rd_readFrame_7 (by first | rfl | exact h1 | exact h2 | exact g1.1 | exact g2.1 | exact kc_gs | exact g3) rfl ?_
  refine x_put [_, _, _, _, _, _, _, _] c_Rd_readFrame_10 (by first | rfl | exact h1 | exact h2 | exact g1.1 | exact g2.1 | exact kc_gs | exact g3) ⟨Nat.le_of_ble_eq_true rfl, rfl, rfl⟩ rfl ?_
  refine x_al c_Rd_readFrame_13 rfl ?_
  refine x_ci c_Rd_readFrame_14 ?_
  refine x_put [_, _, _, _, _, _, _, _] c_Rd_readFrame_15 (by first | rfl | exact h1 | exact h2 | exact g1.1 | exact g2.1 | exact kc_gs | exact g3) ⟨Nat.le_of_ble_eq_true rfl, by first | decide | exact kz_n _, by first | decide | exact kz_f _⟩ rfl ?_
  refine x_al c_Rd_readFrame_18 rfl ?_
  refine x_ci c_Rd_readFrame_19 ?_
  refine x_cv1z _ c_Rd_readFrame_21 (by first | rfl | exact h1 | exact h2 | exact g1.1 | exact g2.1 | exact kc_gs | exact g3) (Nat.le_of_ble_eq_true rfl) (y_Rd_enter (d := d + 2) (r := (0, sz, false, sf, st)) (tag := nI 48) (id := id) (by exact ⟨rfl, h2⟩) hok htb) ?_
  rintro _ μ1 ⟨rfl, g1, e1⟩
  show kc_X _ _ _ _ _ [.int (nI sz)] _ _
  have q1 := rok_E (tb := tb) (tag := nI 48) hok
  refine x_pop c_Rd_readFrame_24 rfl ?_
  refine x_al c_Rd_readFrame_25 rfl ?_
  refine x_al c_Rd_readFrame_26 rfl ?_
  refine x_cv0z _ c_Rd_readFrame_27 (by first | rfl | exact h1 | exact h2 | exact g1.1 | exact g2.1 | exact kc_gs | exact g3) (Nat.le_of_ble_eq_true rfl) (y_Rd_number (d := d) g1 q1.1 htb) ?_
  rintro _ μ2 ⟨rfl, g2, e2⟩
  show kc_X _ _ _ _ _ [.int (vN tb (f1 tb sz sf st)), .ref 1] _ _
  have q2 := rok_N (tb := tb) q1.1
  refine x_put [_, _, _, _, _, _, _, _] c_Rd_readFrame_30 (by first | rfl | exact h1 | exact h2 | exact g1.1 | exact g2.1 | exact kc_gs | exact g3) ⟨Nat.le_of_ble_eq_true rfl, rfl, rfl⟩ rfl ?_
  refine x_al c_Rd_readFrame_33 rfl ?_
  refine x_cv0z _ c_Rd_readFrame_34 (by first | rfl | exact h1 | exact h2 | exact g1.1 | exact g2.1 | exact kc_gs | exact g3) (Nat.le_of_ble_eq_true rfl) (y_Rd_nextTag (d := d + 1) (r := f2 tb sz sf st) (id := vN tb (f1 tb sz sf st)) (by exact ⟨rfl, g2.2⟩) q2.1 htb) ?_
  rintro _ _ ⟨rfl, rfl⟩
  show kc_X _ _ _ _ _ [.int (rT tb (f2 tb sz sf st))] _ _
  refine x_is [_, _] c_Rd_readFrame_37 rfl ?_
  refine x_al c_Rd_readFrame_38 rfl ?_
  refine x_il c_Rd_readFrame_39 rfl ?_
  refine x_cv1z _ c_Rd_readFrame_40 (by first | rfl | exact h1 | exact h2 | exact g1.1 | exact g2.1 | exact kc_gs | exact g3) (Nat.le_of_ble_eq_true rfl) (y_Rd_enter (d := d + 2) (r := f2 tb sz sf st) (tag := rT tb (f2 tb sz sf st)) (id := vN tb (f1 tb sz sf st)) (by exact ⟨rfl, g2.2⟩) q2.1 htb) ?_
  rintro _ μ3 ⟨rfl, ⟨g3, g3'⟩, e3⟩
  show kc_X _ _ _ _ _ [.int _] _ _
  have q3 : rok sz (f3 tb sz sf st) ∧ (f3 tb sz sf st).2.1 ≤ (f2 tb sz sf st).2.1 ∧ (f2 tb sz sf st).1 ≤ (f3 tb sz sf st).1 := rok_E (tb := tb) (tag := rT tb (f2 tb sz sf st)) q2.1
  have fr : ∀ q, q ≠ 1 → μ3.1 q = μ.1 q := fun q hq => by rw [e3 q hq, kc_gf hq, e2 q hq, e1 q hq, kc_gf hq, kc_gf hq, kc_gf hq]
  have g3 : μ3.1 1 = some (ce_Rd sz (f3 tb sz sf st).1 (f3 tb sz sf st).2.1 (f3 tb sz sf st).2.2.1 (vN tb (f1 tb sz sf st)) (f3 tb sz sf st).2.2.2.1 (f3 tb sz sf st).2.2.2.2) := g3
  have i4 : (f3 tb sz sf st).2.1 ≤ 200 := by have := q3.1.2.1; omega
  refine x_pop c_Rd_readFrame_43 rfl ?_
  refine x_al c_Rd_readFrame_44 rfl ?_
  refine x_get c_Rd_readFrame_45 (by first | rfl | exact h1 | exact h2 | exact g1.1 | exact g2.1 | exact kc_gs | exact g3) rfl ?_
  refine x_ifB_ne c_Rd_readFrame_48 (fun h48 => ?_) (fun h48 => ?_)
  · refine x_ci c_Rd_readFrame_73 ?_
    refine x_ri c_Rd_readFrame_74 ?_
    first | exact ⟨⟨_, _, _, _, _, _, g3, g3'⟩, fr, Or.inl ⟨⟨h48, Int32.not_lt.mp h55, h66⟩, rfl, by rw [h66, h48] at g3; exact ⟨_, _, g3⟩⟩⟩ | exact ⟨⟨_, _, _, _, _, _, g3, g3'⟩, fr, Or.inr ⟨fun hg => by first | (have h9 := hg.1; rw [h9] at h48; cases h48; done) | exact absurd hg.2.1 (Int32.not_le.mpr h55) | exact absurd hg.2.2 h66, rfl⟩⟩
  · refine x_al c_Rd_readFrame_51 rfl ?_
    refine x_get c_Rd_readFrame_52 (by first | rfl | exact h1 | exact h2 | exact g1.1 | exact g2.1 | exact kc_gs | exact g3) rfl ?_
    refine x_if_lt c_Rd_readFrame_55 (fun h55 => ?_) (fun h55 => ?_)
    · refine x_ci c_Rd_readFrame_73 ?_
      refine x_ri c_Rd_readFrame_74 ?_
      first | exact ⟨⟨_, _, _, _, _, _, g3, g3'⟩, fr, Or.inl ⟨⟨h48, Int32.not_lt.mp h55, h66⟩, rfl, by rw [h66, h48] at g3; exact ⟨_, _, g3⟩⟩⟩ | exact ⟨⟨_, _, _, _, _, _, g3, g3'⟩, fr, Or.inr ⟨fun hg => by first | (have h9 := hg.1; rw [h9] at h48; cases h48; done) | exact absurd hg.2.1 (Int32.not_le.mpr h55) | exact absurd hg.2.2 h66, rfl⟩⟩
    · refine x_al c_Rd_readFrame_58 rfl ?_
      refine x_get c_Rd_readFrame_59 (by first | rfl | exact h1 | exact h2 | exact g1.1 | exact g2.1 | exact kc_gs | exact g3) rfl ?_
      refine x_al c_Rd_readFrame_62 rfl ?_
      refine x_get c_Rd_readFrame_63 (by first | rfl | exact h1 | exact h2 | exact g1.1 | exact g2.1 | exact kc_gs | exact g3) rfl ?_
      refine x_cmN_ne c_Rd_readFrame_66 (by omega) (by omega) (fun h66 => ?_) (fun h66 => ?_)
      · refine x_ci c_Rd_readFrame_73 ?_
        refine x_ri c_Rd_readFrame_74 ?_
        first | exact ⟨⟨_, _, _, _, _, _, g3, g3'⟩, fr, Or.inl ⟨⟨h48, Int32.not_lt.mp h55, h66⟩, rfl, by rw [h66, h48] at g3; exact ⟨_, _, g3⟩⟩⟩ | exact ⟨⟨_, _, _, _, _, _, g3, g3'⟩, fr, Or.inr ⟨fun hg => by first | (have h9 := hg.1; rw [h9] at h48; cases h48; done) | exact absurd hg.2.1 (Int32.not_le.mpr h55) | exact absurd hg.2.2 h66, rfl⟩⟩
      · refine x_il c_Rd_readFrame_69 rfl ?_
        refine x_goto c_Rd_readFrame_70 ?_
        refine x_ri c_Rd_readFrame_74 ?_
        first | exact ⟨⟨_, _, _, _, _, _, g3, g3'⟩, fr, Or.inl ⟨⟨h48, Int32.not_lt.mp h55, h66⟩, rfl, by rw [h66, h48] at g3; exact ⟨_, _, g3⟩⟩⟩ | exact ⟨⟨_, _, _, _, _, _, g3, g3'⟩, fr, Or.inr ⟨fun hg => by first | (have h9 := hg.1; rw [h9] at h48; cases h48; done) | exact absurd hg.2.1 (Int32.not_le.mpr h55) | exact absurd hg.2.2 h66, rfl⟩⟩
