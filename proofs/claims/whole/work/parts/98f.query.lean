/-! the class reads the rest of a search -/
def qR1 (tb : Nat → Nat) (r : RS) : RS := rC tb 3 (rC tb 2 r)
def qR2 (tb : Nat → Nat) (r : RS) : RS := if vN tb (qR1 tb r) < 0 then rW (rN tb (qR1 tb r)) else rN tb (qR1 tb r)
def qR (tb : Nat → Nat) (r : RS) : RS := rO tb (nI 1) (rN tb (qR2 tb r))
def qTA (tb : Nat → Nat) (r : RS) : Bool := !decide (vO tb (nI 1) (rN tb (qR2 tb r)) = 0)
theorem rW_2 (r : RS) : (rW r).2.1 = r.2.1 := rfl
theorem qR2_p {tb : Nat → Nat} {r : RS} (h : vN tb (qR1 tb r) < 0) : qR2 tb r = rW (rN tb (qR1 tb r)) := if_pos h
theorem qR2_n {tb : Nat → Nat} {r : RS} (h : ¬ vN tb (qR1 tb r) < 0) : qR2 tb r = rN tb (qR1 tb r) := if_neg h
theorem rok_qR1 {tb : Nat → Nat} {sz : Nat} {r : RS} (h : rok sz r) : rok sz (qR1 tb r) ∧ (qR1 tb r).2.1 = r.2.1 := by
  have h1 := rok_C (tb := tb) (most := 2) h
  have h2 := rok_C (tb := tb) (most := 3) h1.1
  unfold qR1
  exact ⟨h2.1, h2.2.1.trans h1.2.1⟩
theorem rok_qR2 {tb : Nat → Nat} {sz : Nat} {r : RS} (h : rok sz r) : rok sz (qR2 tb r) ∧ (qR2 tb r).2.1 = r.2.1 := by
  have h2 := rok_qR1 (tb := tb) h
  have h3 := rok_N (tb := tb) h2.1
  by_cases hli : vN tb (qR1 tb r) < 0
  · rw [qR2_p hli]; exact ⟨rok_W h3.1, (rW_2 _).trans (h3.2.1.trans h2.2)⟩
  · rw [qR2_n hli]; exact ⟨h3.1, h3.2.1.trans h2.2⟩
theorem rok_qR {tb : Nat → Nat} {sz : Nat} {r : RS} (h : rok sz r) : rok sz (qR tb r) ∧ (qR tb r).2.1 = r.2.1 := by
  have h3 := rok_qR2 (tb := tb) h
  have h4 := rok_N (tb := tb) h3.1
  have h5 := rok_O (tb := tb) (tag := nI 1) h4.1
  unfold qR
  exact ⟨h5.1, h5.2.1.trans (h4.2.1.trans h3.2)⟩
/-- scope, limit, whether types alone, and where the filter begins -/
def qrS (tb : Nat → Nat) (p e : Nat) : Option (Nat × Int32 × Bool × Nat) := match cl_ tb 2 p e with
  | none => none
  | some (x1, y1) => match cl_ tb 3 y1 e with
    | none => none
    | some (_, y2) => match nl tb y2 e with
      | none => none
      | some (x3, y3) => if nuS tb x3 y3 < 0 then none else match nl tb y3 e with
        | none => none
        | some (_, y4) => match tl tb 1 y4 e with
          | none => none
          | some (x5, y5) => if y5 - x5 = 1 then some (tb x1, nuS tb x3 y3, !decide (tb x5 = 0), y5) else none
theorem qR_wr {tb : Nat → Nat} {r : RS} (h : (qR1 tb r).2.2.1 = true) : (qR tb r).2.2.1 = true := by
  unfold qR
  by_cases hli : vN tb (qR1 tb r) < 0
  · rw [qR2_p hli]; exact rO_wr (rN_wr rfl)
  · rw [qR2_n hli]; exact rO_wr (rN_wr (rN_wr h))
theorem qr_ok {tb : Nat → Nat} (htb : ∀ j, tb j < 256) {p e sf st sc y : Nat} {li : Int32} {ta : Bool} (h : qrS tb p e = some (sc, li, ta, y)) : (∃ sf' st', qR tb (p, e, false, sf, st) = (y, e, false, sf', st')) ∧ vO tb (nI 10) (p, e, false, sf, st) = sc ∧ vN tb (qR1 tb (p, e, false, sf, st)) = li ∧ qTA tb (p, e, false, sf, st) = ta ∧ p ≤ y ∧ y ≤ e ∧ ¬ li < 0 ∧ sc ≤ 2 := by
  unfold qrS at h
  cases h1 : cl_ tb 2 p e with
  | none => rw [h1] at h; cases h
  | some q =>
    obtain ⟨x1, y1⟩ := q
    rw [h1] at h
    dsimp only at h
    cases h2 : cl_ tb 3 y1 e with
    | none => rw [h2] at h; cases h
    | some q =>
      obtain ⟨x2, y2⟩ := q
      rw [h2] at h
      dsimp only at h
      cases h3 : nl tb y2 e with
      | none => rw [h3] at h; cases h
      | some q =>
        obtain ⟨x3, y3⟩ := q
        rw [h3] at h
        dsimp only at h
        split at h
        · cases h
        · rename_i hli
          cases h4 : nl tb y3 e with
          | none => rw [h4] at h; cases h
          | some q =>
            obtain ⟨x4, y4⟩ := q
            rw [h4] at h
            dsimp only at h
            cases h5 : tl tb 1 y4 e with
            | none => rw [h5] at h; cases h
            | some q =>
              obtain ⟨x5, y5⟩ := q
              rw [h5] at h
              dsimp only at h
              split at h
              · rename_i hlen
                cases h
                have c1 := rC_ok htb (sf := sf) (st := st) h1
                have c2 := rC_ok htb (sf := x1) (st := y1) h2
                have c3 := rN_ok htb (sf := x2) (st := y2) h3
                have c4 := rN_ok htb (sf := x3) (st := y3) h4
                have c5 := rO_ok htb (sf := x4) (st := y4) (by omega) h5 hlen
                have i1 := tl_in (cl_in h1).1
                have i2 := tl_in (cl_in h2).1
                have i3 := tl_in (nl_in h3).1
                have i4 := tl_in (nl_in h4).1
                have i5 := tl_in h5
                have e1 : qR1 tb (p, e, false, sf, st) = (y2, e, false, x2, y2) := by unfold qR1; rw [c1.1, c2.1]
                have e2 : qR2 tb (p, e, false, sf, st) = (y3, e, false, x3, y3) := by rw [qR2_n (by rw [e1, c3.2]; exact hli), e1, c3.1]
                have e3 : qR tb (p, e, false, sf, st) = (y, e, false, x5, y) := by unfold qR; rw [e2, c4.1, c5.1]
                exact ⟨⟨x5, y, e3⟩, c1.2, by rw [e1]; exact c3.2, by unfold qTA; rw [e2, c4.1, c5.2], by omega, i5.2.2, hli, (cl_in h1).2.2⟩
              · cases h
theorem qr_no {tb : Nat → Nat} (htb : ∀ j, tb j < 256) {p e sf st : Nat} (h : qrS tb p e = none) : (qR tb (p, e, false, sf, st)).2.2.1 = true := by
  unfold qrS at h
  cases h1 : cl_ tb 2 p e with
  | none => exact qR_wr (rC_wr (rC_no htb h1))
  | some q =>
    obtain ⟨x1, y1⟩ := q
    rw [h1] at h
    dsimp only at h
    have c1 := rC_ok htb (sf := sf) (st := st) h1
    cases h2 : cl_ tb 3 y1 e with
    | none => exact qR_wr (by unfold qR1; rw [c1.1]; exact rC_no htb h2)
    | some q =>
      obtain ⟨x2, y2⟩ := q
      rw [h2] at h
      dsimp only at h
      have c2 := rC_ok htb (sf := x1) (st := y1) h2
      have e1 : qR1 tb (p, e, false, sf, st) = (y2, e, false, x2, y2) := by unfold qR1; rw [c1.1, c2.1]
      cases h3 : nl tb y2 e with
      | none =>
        unfold qR
        by_cases hli : vN tb (qR1 tb (p, e, false, sf, st)) < 0
        · rw [qR2_p hli]; exact rO_wr (rN_wr rfl)
        · rw [qR2_n hli, e1]; exact rO_wr (rN_wr (rN_no htb h3))
      | some q =>
        obtain ⟨x3, y3⟩ := q
        rw [h3] at h
        dsimp only at h
        have c3 := rN_ok htb (sf := x2) (st := y2) h3
        have e5 : vN tb (qR1 tb (p, e, false, sf, st)) = nuS tb x3 y3 := by rw [e1]; exact c3.2
        unfold qR
        by_cases hli : nuS tb x3 y3 < 0
        · rw [qR2_p (by rw [e5]; exact hli)]; exact rO_wr (rN_wr rfl)
        · rw [if_neg hli] at h
          rw [qR2_n (by rw [e5]; exact hli), e1, c3.1]
          cases h4 : nl tb y3 e with
          | none => exact rO_wr (rN_no htb h4)
          | some q =>
            obtain ⟨x4, y4⟩ := q
            rw [h4] at h
            dsimp only at h
            have c4 := rN_ok htb (sf := x3) (st := y3) h4
            rw [c4.1]
            refine rO_no htb (by omega) (fun x5 y5 h5 hl => ?_)
            rw [h5] at h
            dsimp only at h
            rw [if_pos hl] at h
            cases h
theorem qR_w {tb : Nat → Nat} {r : RS} (h : r.2.2.1 = true) : (qR tb r).2.2.1 = true := qR_wr (rC_wr (rC_wr h))
/-- the types that are asked for, as they are read; and as a mask -/
def wtS (tb : Nat → Nat) : Nat → Nat → Nat → Option (List Int32)
  | 0, p, e => if p < e then none else some []
  | m + 1, p, e => if p < e then (match tl tb 4 p e with
    | none => none
    | some (x, y) => (wtS tb m y e).map (tyS tb x y :: ·)) else some []
theorem wtS_s (tb : Nat → Nat) (m p e : Nat) : wtS tb (m + 1) p e = if p < e then (match tl tb 4 p e with
    | none => none
    | some (x, y) => (wtS tb m y e).map (tyS tb x y :: ·)) else some [] := rfl
def wtP (tb : Nat → Nat) (p e : Nat) : Option (List Int32) := match tl tb 48 p e with
  | none => none
  | some (x, y) => if y = e then wtS tb 12 x e else none
def mk1 (m : Int32) (t : Int32) : Int32 := if t = -1 then m else m ||| (nI 1 <<< ((t - nI 97) &&& 31))
def mkL (m : Int32) (W : List Int32) : Int32 := W.foldl mk1 m
def rwL (tb : Nat → Nat) : Nat → RS → RS × List Int32
  | 0, r => (r, [])
  | m + 1, r => if rM r = true then ((rwL tb m (rS tb (nI 4) r)).1, tyS tb (rS tb (nI 4) r).2.2.2.1 (rS tb (nI 4) r).2.2.2.2 :: (rwL tb m (rS tb (nI 4) r)).2) else (r, [])
theorem rwL_s (tb : Nat → Nat) (m : Nat) (r : RS) : rwL tb (m + 1) r = if rM r = true then ((rwL tb m (rS tb (nI 4) r)).1, tyS tb (rS tb (nI 4) r).2.2.2.1 (rS tb (nI 4) r).2.2.2.2 :: (rwL tb m (rS tb (nI 4) r)).2) else (r, []) := rfl
theorem rwL_ok {tb : Nat → Nat} {sz : Nat} : ∀ (m : Nat) (r : RS), rok sz r → rok sz (rwL tb m r).1 ∧ (rwL tb m r).1.2.1 = r.2.1
  | 0, r, h => ⟨h, rfl⟩
  | m + 1, r, h => by
    rw [rwL_s]
    split
    · have h1 := rok_S (tb := tb) (tag := nI 4) h
      have := rwL_ok (tb := tb) m _ h1.1
      exact ⟨this.1, this.2.trans h1.2.1⟩
    · exact ⟨h, rfl⟩
theorem rwL_2 {tb : Nat → Nat} : ∀ (m : Nat) (r : RS), (rwL tb m r).1.2.1 = r.2.1
  | 0, r => rfl
  | m + 1, r => by
    rw [rwL_s]
    split
    · exact (rwL_2 m _).trans rfl
    · rfl
def rwR (tb : Nat → Nat) (r : RS) : RS := rL r.2.1 (rwL tb 12 (rE tb (nI 48) r)).1
def rwM (tb : Nat → Nat) (r : RS) : Int32 := mkL (if rM (rE tb (nI 48) r) = true then 0 else nI 63) (rwL tb 12 (rE tb (nI 48) r)).2
theorem wt_ok {tb : Nat → Nat} (htb : ∀ j, tb j < 256) : ∀ (m p e sf st : Nat) (W : List Int32), p ≤ e → wtS tb m p e = some W → ∃ sf' st', rwL tb m (p, e, false, sf, st) = ((e, e, false, sf', st'), W)
  | 0, p, e, sf, st, W, hpe, h => by
    unfold wtS at h
    split at h
    · cases h
    · cases h
      have : p = e := by omega
      subst this
      exact ⟨sf, st, rfl⟩
  | m + 1, p, e, sf, st, W, hpe, h => by
    rw [wtS_s] at h
    rw [rwL_s]
    by_cases hp : p < e
    · rw [if_pos hp] at h
      rw [if_pos (rM_t hp)]
      cases h2 : tl tb 4 p e with
      | none => rw [h2] at h; cases h
      | some q =>
        obtain ⟨x, y⟩ := q
        rw [h2] at h
        dsimp only at h
        have i2 := tl_in h2
        cases h3 : wtS tb m y e with
        | none => rw [h3] at h; cases h
        | some W' =>
          rw [h3] at h
          have h := Option.some.inj h
          subst h
          rw [rS_ok htb (by omega) h2]
          obtain ⟨sf', st', q⟩ := wt_ok htb m y e x y W' (by omega) h3
          rw [q]
          exact ⟨sf', st', rfl⟩
    · rw [if_neg hp] at h
      cases h
      rw [if_neg (rM_f hp)]
      have : p = e := by omega
      subst this
      exact ⟨sf, st, rfl⟩
theorem rwL_w {tb : Nat → Nat} {m : Nat} {r : RS} (h : r.2.2.1 = true) : (rwL tb m r).1.2.2.1 = true := by
  cases m with
  | zero => exact h
  | succ m => rw [rwL_s, if_neg (rM_w h)]; exact h
theorem wt_no {tb : Nat → Nat} (htb : ∀ j, tb j < 256) : ∀ (m p e sf st : Nat), p ≤ e → wtS tb m p e = none → bad (rwL tb m (p, e, false, sf, st)).1
  | 0, p, e, sf, st, hpe, h => by
    unfold wtS at h
    split at h
    · rename_i hp; exact Or.inr (Nat.ne_of_lt hp)
    · cases h
  | m + 1, p, e, sf, st, hpe, h => by
    rw [wtS_s] at h
    rw [rwL_s]
    by_cases hp : p < e
    · rw [if_pos hp] at h
      rw [if_pos (rM_t hp)]
      cases h2 : tl tb 4 p e with
      | none => exact Or.inl (rwL_w (rS_no htb (by omega) h2))
      | some q =>
        obtain ⟨x, y⟩ := q
        rw [h2] at h
        dsimp only at h
        have i2 := tl_in h2
        cases h3 : wtS tb m y e with
        | none => rw [rS_ok htb (by omega) h2]; exact wt_no htb m y e x y (by omega) h3
        | some W' => rw [h3] at h; cases h
    · rw [if_neg hp] at h; cases h
theorem wp_ok {tb : Nat → Nat} (htb : ∀ j, tb j < 256) {p e sf st : Nat} {W : List Int32} (h : wtP tb p e = some W) : rD (rwR tb (p, e, false, sf, st)) = true ∧ rwM tb (p, e, false, sf, st) = mkL (if W = [] then nI 63 else 0) W := by
  unfold wtP at h
  cases h1 : tl tb 48 p e with
  | none => rw [h1] at h; cases h
  | some q =>
    obtain ⟨x, y⟩ := q
    rw [h1] at h
    dsimp only at h
    have i1 := tl_in h1
    split at h
    · rename_i hy
      subst hy
      obtain ⟨sf', st', q⟩ := wt_ok htb 12 x y sf st W (by omega) h
      unfold rwR rwM
      rw [rE_ok htb (by omega) h1, q]
      refine ⟨by show rD (rL y (y, y, false, sf', st')) = true; rw [L_ok]; unfold rD; simp, ?_⟩
      show mkL _ W = mkL _ W
      by_cases hxy : x < y
      · rw [if_pos (rM_t hxy)]
        rw [wtS_s, if_pos hxy] at h
        cases W with
        | nil =>
          split at h
          · cases h
          · rename_i x' y' _
            cases h3 : wtS tb 11 y' y with
            | none => rw [h3] at h; cases h
            | some W' => rw [h3] at h; cases h
        | cons a W => rw [if_neg (fun q => by cases q)]
      · rw [if_neg (rM_f hxy)]
        rw [wtS_s, if_neg hxy] at h
        cases h
        rw [if_pos rfl]
    · cases h
theorem rD_bad {r : RS} {ar : Nat} (h : bad r) : rD (rL ar r) = false := by unfold rD; rw [bad_L h]; rfl
theorem wp_no {tb : Nat → Nat} (htb : ∀ j, tb j < 256) {p e sf st : Nat} (h : wtP tb p e = none) : rD (rwR tb (p, e, false, sf, st)) = false := by
  unfold wtP at h
  unfold rwR
  cases h1 : tl tb 48 p e with
  | none => exact rD_bad (Or.inl (rwL_w (by rw [rE_no htb (by omega) h1]; rfl)))
  | some q =>
    obtain ⟨x, y⟩ := q
    rw [h1] at h
    dsimp only at h
    have i1 := tl_in h1
    rw [rE_ok htb (by omega) h1]
    split at h
    · rename_i hy
      subst hy
      exact rD_bad (wt_no htb 12 x y sf st (by omega) h)
    · rename_i hy
      -- what comes behind the list is not read
      by_cases hb : bad (rwL tb 12 (x, y, false, sf, st)).1
      · exact rD_bad hb
      · have h2 : ¬ (rwL tb 12 (x, y, false, sf, st)).1.2.2.1 = true ∧ (rwL tb 12 (x, y, false, sf, st)).1.1 = (rwL tb 12 (x, y, false, sf, st)).1.2.1 := ⟨fun q => hb (Or.inl q), Classical.not_not.mp (fun q => hb (Or.inr q))⟩
        unfold rD rL
        dsimp only
        have h4 : (rwL tb 12 (x, y, false, sf, st)).1.2.1 = y := rwL_2 12 _
        rw [h2.2, h4, decide_eq_false (show ¬ y = e from hy)]
        simp
theorem rwR_w {tb : Nat → Nat} {r : RS} (h : r.2.2.1 = true) : rD (rwR tb r) = false := rD_bad (Or.inl (rwL_w (E_w h)))
set_option maxRecDepth 100000 in
set_option maxHeartbeats 4000000 in
theorem y_Qu_readFrom (d : Nat) {μ : kc_M} {tb : Nat → Nat} {sz : Nat} {ix : Int32} (htb : ∀ j, tb j < 256) {r : RS} (hr : rd_r μ tb sz ix r) (h : rok sz r) {sc li : Int32} {ta : Bool} {wt : Int32} (hq : μ.1 127 = some (ce_Qu sc li ta wt)) : kc_Y kt kC (d + 5) j_Qu_readFrom [.ref 127, .ref 1] μ (fun w μ' => w = none ∧ rd_r μ' tb sz ix (qR tb r) ∧ (∃ wt', μ'.1 127 = some (ce_Qu (nI (vO tb (nI 10) r)) (vN tb (qR1 tb r)) (qTA tb r) wt')) ∧ ∀ q, q ≠ 1 → q ≠ 127 → μ'.1 q = μ.1 q) := by
  refine ⟨Nat.le_of_ble_eq_true rfl, ?_⟩
  have h1 := rok_C (tb := tb) (most := 2) h
  have h2 := rok_qR1 (tb := tb) h
  have h3 := rok_N (tb := tb) h2.1
  have h4 := rok_qR2 (tb := tb) h
  have h5 := rok_N (tb := tb) h4.1
  have rest : ∀ (μ4 : kc_M) (wt' : Int32), rd_r μ4 tb sz ix (qR2 tb r) → μ4.1 127 = some (ce_Qu (nI (vO tb (nI 10) r)) (vN tb (qR1 tb r)) ta wt') → (∀ q, q ≠ 1 → q ≠ 127 → μ4.1 q = μ.1 q) → kc_X (kC j_Qu_readFrom) (kc_Y kt kC (d + 4)) (fun w μ' => w = none ∧ rd_r μ' tb sz ix (qR tb r) ∧ (∃ wt', μ'.1 127 = some (ce_Qu (nI (vO tb (nI 10) r)) (vN tb (qR1 tb r)) (qTA tb r) wt')) ∧ ∀ q, q ≠ 1 → q ≠ 127 → μ'.1 q = μ.1 q) 35 [some (.ref 127), some (.ref 1)] [] μ4 (0, 0) := by
    intro μ4 wt' hr4 hq4 hf4
    refine x_al c_Qu_readFrom_35 rfl ?_
    refine x_cv0z _ c_Qu_readFrom_36 (by first | rfl | exact hr4.1 | exact hr5.1 | exact hr6.1 | exact q6) (Nat.le_of_ble_eq_true rfl) (y_Rd_number (d + 1) hr4 h4.1 htb) ?_
    rintro _ μ5 ⟨rfl, hr5, f5⟩
    show kc_X _ _ _ _ _ [.int (vN tb (qR2 tb r))] _ _
    refine x_pop c_Qu_readFrom_39 rfl ?_
    refine x_al c_Qu_readFrom_40 rfl ?_
    refine x_al c_Qu_readFrom_41 rfl ?_
    refine x_cv0z _ c_Qu_readFrom_42 (by first | rfl | exact hr4.1 | exact hr5.1 | exact hr6.1 | exact q6) (Nat.le_of_ble_eq_true rfl) (y_Rd_flag d (r := rN tb (qR2 tb r)) hr5 h5.1 htb) ?_
    rintro _ μ6 ⟨rfl, hr6, f6⟩
    rw [show rO tb (nI 1) (rN tb (qR2 tb r)) = qR tb r from rfl] at hr6
    have q6 := (f6 127 (by decide)).trans ((f5 127 (by decide)).trans hq4)
    show kc_X _ _ _ _ _ (.int (bI (qTA tb r)) :: _) _ _
    refine x_put [_, _, _, _] c_Qu_readFrom_45 (by first | rfl | exact hr4.1 | exact hr5.1 | exact hr6.1 | exact q6) ⟨Nat.le_of_ble_eq_true rfl, by first | decide | exact kz_n _, by first | decide | exact kz_f _⟩ rfl ?_
    refine x_ret c_Qu_readFrom_48 ?_
    exact ⟨rfl, ⟨hr6.1, hr6.2⟩, ⟨_, kc_gs⟩, fun q q1 q2 => (kc_gf q2).trans ((f6 q q1).trans ((f5 q q1).trans (hf4 q q1 q2)))⟩
  refine x_al c_Qu_readFrom_0 rfl ?_
  refine x_al c_Qu_readFrom_1 rfl ?_
  refine x_ci c_Qu_readFrom_2 ?_
  refine x_cv1z _ c_Qu_readFrom_3 (by first | rfl | exact hr.1 | exact hr1.1 | exact q1 | exact hr2.1 | exact q2 | exact hr3.1 | exact q3 | exact kc_gs) (Nat.le_of_ble_eq_true rfl) (y_Rd_choice d hr h htb (most := 2) (by omega)) ?_
  rintro _ μ1 ⟨rfl, hr1, f1⟩
  have q1 := (f1 127 (by decide)).trans hq
  show kc_X _ _ _ _ _ (.int (nI (vO tb (nI 10) r)) :: _) _ _
  refine x_put [_, _, _, _] c_Qu_readFrom_6 (by first | rfl | exact hr.1 | exact hr1.1 | exact q1 | exact hr2.1 | exact q2 | exact hr3.1 | exact q3 | exact kc_gs) ⟨Nat.le_of_ble_eq_true rfl, rfl, rfl⟩ rfl ?_
  refine x_al c_Qu_readFrom_9 rfl ?_
  refine x_ci c_Qu_readFrom_10 ?_
  refine x_cv1z _ c_Qu_readFrom_11 (by first | rfl | exact hr.1 | exact hr1.1 | exact q1 | exact hr2.1 | exact q2 | exact hr3.1 | exact q3 | exact kc_gs) (Nat.le_of_ble_eq_true rfl) (y_Rd_choice d (r := rC tb 2 r) (by exact ⟨hr1.1, hr1.2⟩) h1.1 htb (most := 3) (by omega)) ?_
  rintro _ μ2 ⟨rfl, hr2, f2⟩
  have q2 := (f2 127 (by decide)).trans kc_gs
  rw [show rC tb 3 (rC tb 2 r) = qR1 tb r from rfl] at hr2
  show kc_X _ _ _ _ _ (.int (nI (vO tb (nI 10) (rC tb 2 r))) :: _) _ _
  refine x_pop c_Qu_readFrom_14 rfl ?_
  refine x_al c_Qu_readFrom_15 rfl ?_
  refine x_al c_Qu_readFrom_16 rfl ?_
  refine x_cv0z _ c_Qu_readFrom_17 (by first | rfl | exact hr.1 | exact hr1.1 | exact q1 | exact hr2.1 | exact q2 | exact hr3.1 | exact q3 | exact kc_gs) (Nat.le_of_ble_eq_true rfl) (y_Rd_number (d + 1) hr2 h2.1 htb) ?_
  rintro _ μ3 ⟨rfl, hr3, f3⟩
  obtain ⟨X, hX⟩ : ∃ X, rN tb (qR1 tb r) = X := ⟨_, rfl⟩
  rw [hX] at hr3
  have q3 := (f3 127 (by decide)).trans q2
  show kc_X _ _ _ _ _ (.int (vN tb (qR1 tb r)) :: _) _ _
  refine x_put [_, _, _, _] c_Qu_readFrom_20 (by first | rfl | exact hr.1 | exact hr1.1 | exact q1 | exact hr2.1 | exact q2 | exact hr3.1 | exact q3 | exact kc_gs) ⟨Nat.le_of_ble_eq_true rfl, rfl, rfl⟩ rfl ?_
  refine x_al c_Qu_readFrom_23 rfl ?_
  refine x_get c_Qu_readFrom_24 (by first | rfl | exact hr.1 | exact hr1.1 | exact q1 | exact hr2.1 | exact q2 | exact hr3.1 | exact q3 | exact kc_gs) rfl ?_
  refine x_if_ge c_Qu_readFrom_27 (fun h27 => ?_) (fun h27 => ?_)
  · first | exact rest _ _ (by rw [qR2_n (fun q => absurd h27 (Int32.not_le.mpr q)), hX]; exact ⟨hr3.1, hr3.2⟩) (by exact rfl) (fun q q1 q2 => (kc_gf q2).trans ((f3 q q1).trans ((f2 q q1).trans ((kc_gf q2).trans (f1 q q1))))) | exact rest _ _ (by rw [qR2_p (Int32.not_le.mp h27), hX]; exact ⟨rfl, hr3.2⟩) (by exact rfl) (fun q q1 q2 => (kc_gf q1).trans ((kc_gf q2).trans ((f3 q q1).trans ((f2 q q1).trans ((kc_gf q2).trans (f1 q q1))))))
  · refine x_al c_Qu_readFrom_30 rfl ?_
    refine x_ci c_Qu_readFrom_31 ?_
    refine x_put [_, _, _, _, _, _, _, _] c_Qu_readFrom_32 (by first | rfl | exact hr.1 | exact hr1.1 | exact q1 | exact hr2.1 | exact q2 | exact hr3.1 | exact q3 | exact kc_gs) ⟨Nat.le_of_ble_eq_true rfl, by first | decide | exact kz_n _, by first | decide | exact kz_f _⟩ rfl ?_
    first | exact rest _ _ (by rw [qR2_n (fun q => absurd h27 (Int32.not_le.mpr q)), hX]; exact ⟨hr3.1, hr3.2⟩) (by exact rfl) (fun q q1 q2 => (kc_gf q2).trans ((f3 q q1).trans ((f2 q q1).trans ((kc_gf q2).trans (f1 q q1))))) | exact rest _ _ (by rw [qR2_p (Int32.not_le.mp h27), hX]; exact ⟨rfl, hr3.2⟩) (by exact rfl) (fun q q1 q2 => (kc_gf q1).trans ((kc_gf q2).trans ((f3 q q1).trans ((f2 q q1).trans ((kc_gf q2).trans (f1 q q1))))))
set_option maxRecDepth 100000 in
set_option maxHeartbeats 4000000 in
theorem y_Qu_readWantedTypes (d : Nat) {μ : kc_M} {tb : Nat → Nat} {sz : Nat} {ix : Int32} (htb : ∀ j, tb j < 256) {r : RS} (hr : rd_r μ tb sz ix r) (h : rok sz r) {sc li : Int32} {ta : Bool} {wt : Int32} (hq : μ.1 127 = some (ce_Qu sc li ta wt)) : kc_Y kt kC (d + 3) j_Qu_readWantedTypes [.ref 127, .ref 1] μ (fun w μ' => w = none ∧ rd_r μ' tb sz ix (rwR tb r) ∧ μ'.1 127 = some (ce_Qu sc li ta (rwM tb r)) ∧ ∀ q, q ≠ 1 → q ≠ 127 → μ'.1 q = μ.1 q) := by
  refine ⟨Nat.le_of_ble_eq_true rfl, ?_⟩
  have h1 := rok_E (tb := tb) (tag := nI 48) h
  have hz := h.2.2
  have loop : ∀ m (W : List Int32) (x1 : RS) (μ1 : kc_M) (jk : Option Value), 12 - W.length = m → W.length ≤ 12 → rwL tb 12 (rE tb (nI 48) r) = ((rwL tb m x1).1, W ++ (rwL tb m x1).2) → rd_r μ1 tb sz ix x1 → rok sz x1 → μ1.1 127 = some (ce_Qu sc li ta (mkL (if rM (rE tb (nI 48) r) = true then 0 else nI 63) W)) → (∀ q, q ≠ 1 → q ≠ 127 → μ1.1 q = μ.1 q) → kc_X (kC j_Qu_readWantedTypes) (kc_Y kt kC (d + 2)) (fun w μ' => w = none ∧ rd_r μ' tb sz ix (rwR tb r) ∧ μ'.1 127 = some (ce_Qu sc li ta (rwM tb r)) ∧ ∀ q, q ≠ 1 → q ≠ 127 → μ'.1 q = μ.1 q) 26 [some (.ref 127), some (.ref 1), some (.int (nI r.2.1)), some (.int (nI W.length)), jk] [] μ1 (0, 0) := by
    intro m
    induction m with
    | zero =>
      intro W x1 μ1 jk hm hW hR hr4 hk1 hq1 hf
      refine x_il c_Qu_readWantedTypes_26 rfl ?_
      refine x_ci c_Qu_readWantedTypes_27 ?_
      refine x_cmN_ge c_Qu_readWantedTypes_29 (by omega) (by omega) (fun _ => ?_) (fun h => (by exfalso; omega))
      refine x_al c_Qu_readWantedTypes_78 rfl ?_
      refine x_il c_Qu_readWantedTypes_79 rfl ?_
      refine x_cv1z _ c_Qu_readWantedTypes_80 (by first | rfl | exact hr4.1 | exact hq1) (Nat.le_of_ble_eq_true rfl) (y_Rd_leave (d + 1) hr4 hk1 htb) ?_
      rintro _ μ6 ⟨rfl, hr6, f6⟩
      show kc_X _ _ _ _ _ [] _ _
      refine x_ret c_Qu_readWantedTypes_83 ?_
      exact ⟨rfl, (by have e9 : rwR tb r = rL r.2.1 x1 := (by unfold rwR; rw [hR, show rwL tb 0 x1 = (x1, []) from rfl]); rw [e9]; exact hr6), (by have e9 : rwM tb r = mkL (if rM (rE tb (nI 48) r) = true then 0 else nI 63) W := (by unfold rwM; rw [hR, show rwL tb 0 x1 = (x1, []) from rfl]; simp); rw [e9]; exact (f6 127 (by decide)).trans hq1), fun q q1 q2 => (f6 q q1).trans (hf q q1 q2)⟩
    | succ m ih =>
      intro W x1 μ1 jk hm hW hR hr4 hk1 hq1 hf
      have hk5 := rok_S (tb := tb) (tag := nI 4) hk1
      have hz1 := hk1.2.2
      refine x_il c_Qu_readWantedTypes_26 rfl ?_
      refine x_ci c_Qu_readWantedTypes_27 ?_
      refine x_cmN_ge c_Qu_readWantedTypes_29 (by omega) (by omega) (fun h => (by exfalso; omega)) (fun _ => ?_)
      refine x_al c_Qu_readWantedTypes_32 rfl ?_
      refine x_cv0z _ c_Qu_readWantedTypes_33 (by first | rfl | exact hr4.1 | exact hq1 | exact hr5.1 | exact q5) (Nat.le_of_ble_eq_true rfl) (y_Rd_hasMore (d + 1) hr4 hk1 htb) ?_
      rintro _ μx ⟨rfl, hμx⟩
      have hμx := hμx.symm
      subst hμx
      show kc_X _ _ _ _ _ [.int (bI (rM x1))] _ _
      refine x_ifB_eq c_Qu_readWantedTypes_36 (fun h36 => ?_) (fun h36 => ?_)
      · refine x_al c_Qu_readWantedTypes_78 rfl ?_
        refine x_il c_Qu_readWantedTypes_79 rfl ?_
        refine x_cv1z _ c_Qu_readWantedTypes_80 (by first | rfl | exact hr4.1 | exact hq1 | exact hr5.1 | exact q5) (Nat.le_of_ble_eq_true rfl) (y_Rd_leave (d + 1) hr4 hk1 htb) ?_
        rintro _ μ6 ⟨rfl, hr6, f6⟩
        show kc_X _ _ _ _ _ [] _ _
        refine x_ret c_Qu_readWantedTypes_83 ?_
        exact ⟨rfl, (by have e9 : rwR tb r = rL r.2.1 x1 := (by unfold rwR; rw [hR, show rwL tb (m + 1) x1 = (x1, []) by rw [rwL_s, if_neg (by rw [h36]; decide)]]); rw [e9]; exact hr6), (by have e9 : rwM tb r = mkL (if rM (rE tb (nI 48) r) = true then 0 else nI 63) W := (by unfold rwM; rw [hR, show rwL tb (m + 1) x1 = (x1, []) by rw [rwL_s, if_neg (by rw [h36]; decide)]]; simp); rw [e9]; exact (f6 127 (by decide)).trans hq1), fun q q1 q2 => (f6 q q1).trans (hf q q1 q2)⟩
      · refine x_al c_Qu_readWantedTypes_39 rfl ?_
        refine x_ci c_Qu_readWantedTypes_40 ?_
        refine x_cv1z _ c_Qu_readWantedTypes_41 (by first | rfl | exact hr4.1 | exact hq1 | exact hr5.1 | exact q5) (Nat.le_of_ble_eq_true rfl) (y_Rd_span d hr4 hk1 htb (tag := nI 4)) ?_
        rintro _ μ5 ⟨rfl, hr5, f5⟩
        have q5 := (f5 127 (by decide)).trans hq1
        have e9 := rwL_s tb m x1
        rw [if_pos h36] at e9
        show kc_X _ _ _ _ _ [] _ _
        refine x_al c_Qu_readWantedTypes_44 rfl ?_
        refine x_cv0z _ c_Qu_readWantedTypes_45 (by first | rfl | exact hr4.1 | exact hq1 | exact hr5.1 | exact q5) (Nat.le_of_ble_eq_true rfl) (y_Rd_spanType d hr5 htb hk5.2.2.1 (by have := hk5.2.2.2.1; omega)) ?_
        rintro _ μx ⟨rfl, hμx⟩
        have hμx := hμx.symm
        subst hμx
        show kc_X _ _ _ _ _ [.int (tyS tb (rS tb (nI 4) x1).2.2.2.1 (rS tb (nI 4) x1).2.2.2.2)] _ _
        refine x_is [_, _, _, _, _] c_Qu_readWantedTypes_48 rfl ?_
        refine x_il c_Qu_readWantedTypes_50 rfl ?_
        refine x_ci c_Qu_readWantedTypes_52 ?_
        refine x_cm_eq c_Qu_readWantedTypes_53 (fun h53 => ?_) (fun h53 => ?_)
        · first | refine x_incN [_, _, _, _, _] c_Qu_readWantedTypes_72 rfl rfl ?_ | refine x_inc [_, _, _, _, _] c_Qu_readWantedTypes_72 rfl rfl ?_
          refine x_goto c_Qu_readWantedTypes_75 ?_
          generalize hTY : tyS tb (rS tb (nI 4) x1).2.2.2.1 (rS tb (nI 4) x1).2.2.2.2 = ty at *
          have e7 : W.length + 1 = (W ++ [ty]).length := by rw [List.length_append]; rfl
          rw [e7]
          have e6 : mkL (if rM (rE tb (nI 48) r) = true then 0 else nI 63) (W ++ [ty]) = mk1 (mkL (if rM (rE tb (nI 48) r) = true then 0 else nI 63) W) ty := by unfold mkL; rw [List.foldl_append]; rfl
          first | exact ih (W ++ [ty]) _ _ _ (by rw [← e7]; omega) (by rw [← e7]; omega) (by rw [hR, e9]; simp) (by exact ⟨hr5.1, hr5.2⟩) hk5.1 (by rw [e6]; unfold mk1; rw [if_neg h53]; exact rfl) (fun q q1 q2 => (kc_gf q2).trans ((f5 q q1).trans (hf q q1 q2))) | exact ih (W ++ [ty]) _ _ _ (by rw [← e7]; omega) (by rw [← e7]; omega) (by rw [hR, e9]; simp) hr5 hk5.1 (by rw [e6]; unfold mk1; rw [if_pos h53]; exact q5) (fun q q1 q2 => (f5 q q1).trans (hf q q1 q2))
        · refine x_al c_Qu_readWantedTypes_56 rfl ?_
          refine x_dup c_Qu_readWantedTypes_57 rfl ?_
          refine x_get c_Qu_readWantedTypes_58 (by first | rfl | exact hr4.1 | exact hq1 | exact hr5.1 | exact q5) rfl ?_
          refine x_ci c_Qu_readWantedTypes_61 ?_
          refine x_il c_Qu_readWantedTypes_62 rfl ?_
          refine x_ci c_Qu_readWantedTypes_64 ?_
          refine x_isub c_Qu_readWantedTypes_66 ?_
          refine x_ishl c_Qu_readWantedTypes_67 ?_
          refine x_ior c_Qu_readWantedTypes_68 ?_
          refine x_put [_, _, _, _] c_Qu_readWantedTypes_69 (by first | rfl | exact hr4.1 | exact hq1 | exact hr5.1 | exact q5) ⟨Nat.le_of_ble_eq_true rfl, rfl, rfl⟩ rfl ?_
          first | refine x_incN [_, _, _, _, _] c_Qu_readWantedTypes_72 rfl rfl ?_ | refine x_inc [_, _, _, _, _] c_Qu_readWantedTypes_72 rfl rfl ?_
          refine x_goto c_Qu_readWantedTypes_75 ?_
          generalize hTY : tyS tb (rS tb (nI 4) x1).2.2.2.1 (rS tb (nI 4) x1).2.2.2.2 = ty at *
          have e7 : W.length + 1 = (W ++ [ty]).length := by rw [List.length_append]; rfl
          rw [e7]
          have e6 : mkL (if rM (rE tb (nI 48) r) = true then 0 else nI 63) (W ++ [ty]) = mk1 (mkL (if rM (rE tb (nI 48) r) = true then 0 else nI 63) W) ty := by unfold mkL; rw [List.foldl_append]; rfl
          first | exact ih (W ++ [ty]) _ _ _ (by rw [← e7]; omega) (by rw [← e7]; omega) (by rw [hR, e9]; simp) (by exact ⟨hr5.1, hr5.2⟩) hk5.1 (by rw [e6]; unfold mk1; rw [if_neg h53]; exact rfl) (fun q q1 q2 => (kc_gf q2).trans ((f5 q q1).trans (hf q q1 q2))) | exact ih (W ++ [ty]) _ _ _ (by rw [← e7]; omega) (by rw [← e7]; omega) (by rw [hR, e9]; simp) hr5 hk5.1 (by rw [e6]; unfold mk1; rw [if_pos h53]; exact q5) (fun q q1 q2 => (f5 q q1).trans (hf q q1 q2))
  refine x_al c_Qu_readWantedTypes_0 rfl ?_
  refine x_ci c_Qu_readWantedTypes_1 ?_
  refine x_cv1z _ c_Qu_readWantedTypes_3 (by first | rfl | exact hr.1 | exact hr1.1 | exact q1) (Nat.le_of_ble_eq_true rfl) (y_Rd_enter (d + 1) hr h htb (tag := nI 48)) ?_
  rintro _ μ1 ⟨rfl, hr1, f1⟩
  have q1 := (f1 127 (by decide)).trans hq
  show kc_X _ _ _ _ _ [.int (nI r.2.1)] _ _
  refine x_is [_, _, _, _, _] c_Qu_readWantedTypes_6 rfl ?_
  refine x_al c_Qu_readWantedTypes_7 rfl ?_
  refine x_al c_Qu_readWantedTypes_8 rfl ?_
  refine x_cv0z _ c_Qu_readWantedTypes_9 (by first | rfl | exact hr.1 | exact hr1.1 | exact q1) (Nat.le_of_ble_eq_true rfl) (y_Rd_hasMore (d + 1) hr1 h1.1 htb) ?_
  rintro _ μx ⟨rfl, hμx⟩
  have hμx := hμx.symm
  subst hμx
  show kc_X _ _ _ _ _ (.int (bI (rM (rE tb (nI 48) r))) :: _) _ _
  refine x_ifB_eq c_Qu_readWantedTypes_12 (fun h12 => ?_) (fun h12 => ?_)
  · refine x_ci c_Qu_readWantedTypes_19 ?_
    refine x_put [_, _, _, _] c_Qu_readWantedTypes_21 (by first | rfl | exact hr.1 | exact hr1.1 | exact q1) ⟨Nat.le_of_ble_eq_true rfl, rfl, rfl⟩ rfl ?_
    refine x_ci c_Qu_readWantedTypes_24 ?_
    refine x_is [_, _, _, _, _] c_Qu_readWantedTypes_25 rfl ?_
    first | exact loop 12 [] _ _ _ rfl (Nat.zero_le _) (by simp) (by exact ⟨hr1.1, hr1.2⟩) h1.1 (by rw [if_pos h12]; exact rfl) (fun q q1 q2 => (kc_gf q2).trans (f1 q q1)) | exact loop 12 [] _ _ _ rfl (Nat.zero_le _) (by simp) (by exact ⟨hr1.1, hr1.2⟩) h1.1 (by rw [if_neg (by rw [h12]; decide)]; exact rfl) (fun q q1 q2 => (kc_gf q2).trans (f1 q q1))
  · refine x_ci c_Qu_readWantedTypes_15 ?_
    refine x_goto c_Qu_readWantedTypes_16 ?_
    refine x_put [_, _, _, _] c_Qu_readWantedTypes_21 (by first | rfl | exact hr.1 | exact hr1.1 | exact q1) ⟨Nat.le_of_ble_eq_true rfl, rfl, rfl⟩ rfl ?_
    refine x_ci c_Qu_readWantedTypes_24 ?_
    refine x_is [_, _, _, _, _] c_Qu_readWantedTypes_25 rfl ?_
    first | exact loop 12 [] _ _ _ rfl (Nat.zero_le _) (by simp) (by exact ⟨hr1.1, hr1.2⟩) h1.1 (by rw [if_pos h12]; exact rfl) (fun q q1 q2 => (kc_gf q2).trans (f1 q q1)) | exact loop 12 [] _ _ _ rfl (Nat.zero_le _) (by simp) (by exact ⟨hr1.1, hr1.2⟩) h1.1 (by rw [if_neg (by rw [h12]; decide)]; exact rfl) (fun q q1 q2 => (kc_gf q2).trans (f1 q q1))
