/-! filters as they are read: forests -/
abbrev Fo : Type := Std.DTreeMap.Internal.Impl Nat (fun _ => Int32 × Int64)
abbrev Fo.nil : Fo := .leaf
abbrev Fo.cons (t : Nat) (ty : Int32) (v : Int64) (i r : Fo) : Fo := .inner 0 t (ty, v) i r
def fsz : Fo → Nat
  | .leaf => 0
  | .inner _ _ _ i r => 1 + fsz i + fsz r
def fln : Fo → Nat
  | .leaf => 0
  | .inner _ _ _ _ r => 1 + fln r
def fht : Fo → Nat
  | .leaf => 0
  | .inner _ _ _ i r => max (1 + fht i) (fht r)
theorem fsz_i (n t : Nat) (p : Int32 × Int64) (i r : Fo) : fsz (.inner n t p i r) = 1 + fsz i + fsz r := rfl
theorem fsz_c (t : Nat) (ty : Int32) (v : Int64) (i r : Fo) : fsz (Fo.cons t ty v i r) = 1 + fsz i + fsz r := rfl
theorem fln_c (t : Nat) (ty : Int32) (v : Int64) (i r : Fo) : fln (Fo.cons t ty v i r) = 1 + fln r := rfl
theorem fht_c (t : Nat) (ty : Int32) (v : Int64) (i r : Fo) : fht (Fo.cons t ty v i r) = max (1 + fht i) (fht r) := rfl
def lft (t : Nat) : Bool := decide (t = 163) || decide (t = 165) || decide (t = 166) || decide (t = 135)
def lfP (tb : Nat → Nat) (t x y : Nat) : Option (Int32 × Int64) := if t = 135 then some (tyS tb x y, 0) else match tl tb 4 x y with
  | none => none
  | some (x2, y2) => match tl tb 4 y2 y with
    | none => none
    | some (x3, y3) => if y3 = y then some (tyS tb x2 y2, vlS tb x3 y3) else none
/-- one filter; fp reads those inside -/
def flO (tb : Nat → Nat) (fp : Nat → Nat → Nat → Nat → Option Fo) (g c p e : Nat) : Option (Nat × Int32 × Int64 × Fo × Nat) :=
  if 20 ≤ c ∨ g = 0 then none else match el tb p e with
  | none => none
  | some (x, y) => if lft (tb p) = true then (match lfP tb (tb p) x y with
      | none => none
      | some (ty, v) => some (tb p, ty, v, Fo.nil, y))
    else if 160 ≤ tb p ∧ tb p ≤ 162 then (match fp (g - 1) (c + 1) x y with
      | none => none
      | some F => if tb p = 162 ∧ (fln F) ≠ 1 then none else some (tb p, 0, 0, F, y))
    else none
/-- all filters from p to e -/
def flP (tb : Nat → Nat) : Nat → Nat → Nat → Nat → Nat → Option Fo
  | 0 => fun _ _ _ _ => none
  | m + 1 => fun g c p e => if p = e then some Fo.nil else match flO tb (flP tb m) g c p e with
    | none => none
    | some (t, ty, v, F, y) => (flP tb m g (c + 1 + (fsz F)) y e).map (Fo.cons t ty v F)
theorem flP_s (tb : Nat → Nat) (m g c p e : Nat) : flP tb (m + 1) g c p e = if p = e then some Fo.nil else match flO tb (flP tb m) g c p e with
    | none => none
    | some (t, ty, v, F, y) => (flP tb m g (c + 1 + (fsz F)) y e).map (Fo.cons t ty v F) := rfl
/-- what is known of one that was read -/
theorem flO_in {tb : Nat → Nat} {fp : Nat → Nat → Nat → Nat → Option Fo} {g c p e t : Nat} {ty : Int32} {v : Int64} {F : Fo} {y : Nat} (h : flO tb fp g c p e = some (t, ty, v, F, y)) : c < 20 ∧ 1 ≤ g ∧ t = tb p ∧ ∃ x, el tb p e = some (x, y) ∧ ((lft t = true ∧ lfP tb t x y = some (ty, v) ∧ F = Fo.nil) ∨ (lft t = false ∧ 160 ≤ t ∧ t ≤ 162 ∧ fp (g - 1) (c + 1) x y = some F ∧ ¬ (t = 162 ∧ (fln F) ≠ 1))) := by
  unfold flO at h
  split at h
  · cases h
  · rename_i hg
    split at h
    · cases h
    · rename_i x y' hel
      split at h
      · rename_i hlf
        split at h
        · cases h
        · rename_i ty' v' hl
          cases h
          exact ⟨by omega, by omega, rfl, x, hel, Or.inl ⟨hlf, hl, rfl⟩⟩
      · rename_i hlf
        split at h
        · rename_i ht
          split at h
          · cases h
          · rename_i F' hF
            split at h
            · cases h
            · rename_i hn
              cases h
              exact ⟨by omega, by omega, rfl, x, hel, Or.inr ⟨by cases q : lft (tb p) <;> first | rfl | exact absurd q hlf, ht.1, ht.2, hF, hn⟩⟩
        · cases h
theorem flP_in {tb : Nat → Nat} : ∀ (m g c p e : Nat) (F : Fo), flP tb m g c p e = some F → c ≤ 20 → c + (fsz F) ≤ 20 ∧ (fht F) ≤ g ∧ (fln F) ≤ (fsz F)
  | 0, g, c, p, e, F, h, _ => by cases h
  | m + 1, g, c, p, e, F, h, hc => by
    rw [flP_s] at h
    split at h
    · cases h; exact ⟨hc, Nat.zero_le _, Nat.le_refl _⟩
    · cases hO : flO tb (flP tb m) g c p e with
      | none => rw [hO] at h; cases h
      | some q =>
        obtain ⟨t, ty, v, Fi, y⟩ := q
        rw [hO] at h
        dsimp only at h
        cases hR : flP tb m g (c + 1 + (fsz Fi)) y e with
        | none => rw [hR] at h; cases h
        | some R =>
          rw [hR] at h
          have h := Option.some.inj h
          subst h
          obtain ⟨hc20, hg, _, x, _, hcase⟩ := flO_in hO
          have hFi : c + 1 + (fsz Fi) ≤ 20 ∧ (fht Fi) + 1 ≤ g := by
            rcases hcase with ⟨_, _, rfl⟩ | ⟨_, _, _, hfp, _⟩
            · exact ⟨hc20, hg⟩
            · have := flP_in m (g - 1) (c + 1) x y Fi hfp (by omega)
              exact ⟨this.1, by omega⟩
          have hRi := flP_in m g (c + 1 + (fsz Fi)) y e R hR hFi.1
          show c + (1 + (fsz Fi) + (fsz R)) ≤ 20 ∧ max (1 + (fht Fi)) (fht R) ≤ g ∧ 1 + (fln R) ≤ 1 + (fsz Fi) + (fsz R)
          exact ⟨by omega, by omega, by omega⟩
theorem flO_in2 {tb : Nat → Nat} {m g c p e t : Nat} {ty : Int32} {v : Int64} {F : Fo} {y : Nat} (h : flO tb (flP tb m) g c p e = some (t, ty, v, F, y)) : c + 1 + (fsz F) ≤ 20 ∧ (fht F) + 1 ≤ g ∧ p + 2 ≤ y ∧ y ≤ e ∧ (fln F) ≤ (fsz F) := by
  obtain ⟨hc20, hg, _, x, hel, hcase⟩ := flO_in h
  have hi := el_in hel
  rcases hcase with ⟨_, _, rfl⟩ | ⟨_, _, _, hfp, _⟩
  · exact ⟨hc20, hg, by omega, by omega, Nat.le_refl _⟩
  · have := flP_in m (g - 1) (c + 1) x y F hfp (by omega)
    exact ⟨this.1, by omega, by omega, by omega, this.2.2⟩
/-- the class's rows of filters hold a forest from i on -/
def enC (kf tf : Nat → Int32) (vf : Nat → Int64) (ef : Nat → Int32) : Fo → Nat → Prop
  | .leaf, _ => True
  | .inner _ t p F R, i => (kf i = nI t ∧ (lft t = true → tf i = p.1 ∧ (t ≠ 135 → vf i = p.2)) ∧ ef i = nI (i + 1 + (fsz F))) ∧ enC kf tf vf ef F (i + 1) ∧ enC kf tf vf ef R (i + 1 + (fsz F))
theorem enC_k {kf tf : Nat → Int32} {vf : Nat → Int64} {ef : Nat → Int32} {kf' tf' : Nat → Int32} {vf' : Nat → Int64} {ef' : Nat → Int32} : ∀ (F : Fo) (i : Nat), enC kf tf vf ef F i → (∀ j, i ≤ j → j < i + (fsz F) → kf' j = kf j ∧ tf' j = tf j ∧ vf' j = vf j ∧ ef' j = ef j) → enC kf' tf' vf' ef' F i
  | .leaf, _, _, _ => trivial
  | .inner n t p F R, i, h, hk => by
    rw [fsz_i] at hk
    obtain ⟨a, b, c, d⟩ := hk i (by omega) (by omega)
    exact ⟨⟨a.trans h.1.1, fun q => ⟨b.trans (h.1.2.1 q).1, fun q2 => c.trans ((h.1.2.1 q).2 q2)⟩, d.trans h.1.2.2⟩, enC_k F (i + 1) h.2.1 (fun j j1 j2 => hk j (by omega) (by omega)), enC_k R (i + 1 + (fsz F)) h.2.2 (fun j j1 j2 => hk j (by omega) (by omega))⟩
/-- the class's object of filters and its rows -/
def fiA (μ : kc_M) (c : Nat) (kf tf : Nat → Int32) (vf : Nat → Int64) (ef : Nat → Int32) : Prop := μ.1 128 = some (ce_Fi c) ∧ μ.1 129 = some (ce_I 20 kf) ∧ μ.1 130 = some (ce_I 20 tf) ∧ μ.1 131 = some (ce_L 20 vf) ∧ μ.1 132 = some (ce_I 20 ef)
theorem fiA_k {μ μ' : kc_M} {c : Nat} {kf tf : Nat → Int32} {vf : Nat → Int64} {ef : Nat → Int32} (h : fiA μ c kf tf vf ef) (hk : ∀ q, 128 ≤ q → q ≤ 132 → μ'.1 q = μ.1 q) : fiA μ' c kf tf vf ef :=
  ⟨(hk _ (by omega) (by omega)).trans h.1, (hk _ (by omega) (by omega)).trans h.2.1, (hk _ (by omega) (by omega)).trans h.2.2.1, (hk _ (by omega) (by omega)).trans h.2.2.2.1, (hk _ (by omega) (by omega)).trans h.2.2.2.2⟩
/-- a filter of a type and a value, in the class's reader -/
def rpR (tb : Nat → Nat) (t : Nat) (r : RS) : RS := rL r.2.1 (rS tb (nI 4) (rS tb (nI 4) (rE tb (nI t) r)))
def rpT (tb : Nat → Nat) (t : Nat) (r : RS) : Int32 := tyS tb (rS tb (nI 4) (rE tb (nI t) r)).2.2.2.1 (rS tb (nI 4) (rE tb (nI t) r)).2.2.2.2
def rpV (tb : Nat → Nat) (t : Nat) (r : RS) : Int64 := vlS tb (rS tb (nI 4) (rS tb (nI 4) (rE tb (nI t) r))).2.2.2.1 (rS tb (nI 4) (rS tb (nI 4) (rE tb (nI t) r))).2.2.2.2
theorem rp_ok {tb : Nat → Nat} (htb : ∀ j, tb j < 256) {t p e sf st x y : Nat} (hp : tb p = t) (hel : el tb p e = some (x, y)) (h135 : t ≠ 135) {ty : Int32} {v : Int64} (h : lfP tb t x y = some (ty, v)) : (∃ sf' st', rpR tb t (p, e, false, sf, st) = (y, e, false, sf', st')) ∧ rpT tb t (p, e, false, sf, st) = ty ∧ rpV tb t (p, e, false, sf, st) = v := by
  have ht : t < 2 ^ 31 := by rw [← hp]; exact tbl htb p
  have htl : tl tb t p e = some (x, y) := by unfold tl; rw [if_pos hp]; exact hel
  unfold lfP at h
  rw [if_neg h135] at h
  cases h2 : tl tb 4 x y with
  | none => rw [h2] at h; cases h
  | some q =>
    obtain ⟨x2, y2⟩ := q
    rw [h2] at h
    dsimp only at h
    cases h3 : tl tb 4 y2 y with
    | none => rw [h3] at h; cases h
    | some q =>
      obtain ⟨x3, y3⟩ := q
      rw [h3] at h
      dsimp only at h
      split at h
      · rename_i hy
        cases h
        subst hy
        unfold rpR rpT rpV
        rw [rE_ok htb ht htl, rS_ok htb (by omega) h2, rS_ok htb (by omega) h3]
        exact ⟨⟨x3, y3, L_ok⟩, rfl, rfl⟩
      · cases h
theorem rp_no {tb : Nat → Nat} (htb : ∀ j, tb j < 256) {t p e sf st : Nat} (hp : tb p = t) (h135 : t ≠ 135) (h : ∀ x y, el tb p e = some (x, y) → lfP tb t x y = none) : (rpR tb t (p, e, false, sf, st)).2.2.1 = true := by
  have ht : t < 2 ^ 31 := by rw [← hp]; exact tbl htb p
  unfold rpR
  cases hel : el tb p e with
  | none =>
    have htl : tl tb t p e = none := by unfold tl; rw [if_pos hp]; exact hel
    exact L_wr (rS_wr (rS_wr (by rw [rE_no htb ht htl]; rfl)))
  | some q =>
    obtain ⟨x, y⟩ := q
    have htl : tl tb t p e = some (x, y) := by unfold tl; rw [if_pos hp]; exact hel
    have h := h x y hel
    rw [rE_ok htb ht htl]
    unfold lfP at h
    rw [if_neg h135] at h
    cases h2 : tl tb 4 x y with
    | none => exact L_wr (rS_wr (rS_no htb (by omega) h2))
    | some q =>
      obtain ⟨x2, y2⟩ := q
      rw [h2] at h
      dsimp only at h
      rw [rS_ok htb (by omega) h2]
      cases h3 : tl tb 4 y2 y with
      | none => exact L_wr (rS_no htb (by omega) h3)
      | some q =>
        obtain ⟨x3, y3⟩ := q
        rw [h3] at h
        dsimp only at h
        rw [rS_ok htb (by omega) h3]
        split at h
        · cases h
        · rename_i hy
          exact bad_L (Or.inr hy)
