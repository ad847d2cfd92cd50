/-! the class searches -/
def liN (li : Int32) : Nat := li.toInt.toNat
theorem liN_i {li : Int32} (h : ¬ li < 0) : nI (liN li) = li ∧ liN li < 2 ^ 31 := by
  have h1 : 0 ≤ li.toInt := by
    have := Int32.le_iff_toInt_le.mp (Int32.not_lt.mp h)
    have h0 : (0 : Int32).toInt = 0 := by decide
    omega
  have h2 : li.toInt < 2 ^ 31 := Int32.toInt_lt li
  have h3 : liN li < 2 ^ 31 := by unfold liN; omega
  refine ⟨?_, h3⟩
  apply Int32.toInt_inj.mp
  rw [nI_ti h3]
  unfold liN
  omega
def seN (tb : Nat → Nat) : Option (Nat × Nat × Nat × Int32 × Bool × Fo × List Int32) → Option (List tv)
  | none => none
  | some (x2, y2, _, _, _, _, _) => nmS tb x2 y2
def seR (n : Nat) (nm pr : Nat → List tv) (k sc : Nat) (li : Int32) (ta : Bool) (G : Fo) (W : List Int32) (l : List tv) (L : List Int32) : Nat × Bool × List Int32 := srF (selB sc l G nm pr) (fun e => enB k ta W (nm e) (pr e)) (liN li) n 0 0 true L
def seK (tb : Nat → Nat) (n : Nat) (nm pr : Nat → List tv) (k : Nat) (L : List Int32) : Option (Nat × Nat × Nat × Int32 × Bool × Fo × List Int32) → Nat × List Int32
  | none => (2, L)
  | some (x2, y2, sc, li, ta, G, W) => match nmS tb x2 y2 with
    | none => (34, L)
    | some l => if 0 < l.length ∧ fd nm l n 0 = none then (32, L) else (srC (liN li) (seR n nm pr k sc li ta G W l L), (seR n nm pr k sc li ta G W l L).2.2)
theorem srF_le {sel : Nat → Bool} {en : Nat → List Int32} {li : Nat} : ∀ (m e fo : Nat) (ro : Bool) (L : List Int32), L.length ≤ 284 → (srF sel en li m e fo ro L).2.2.length ≤ 284
  | 0, _, _, _, L, h => h
  | m + 1, e, fo, ro, L, h => by
    rw [srF_s]
    split
    · split
      · split
        · rename_i hf
          have := of_decide_eq_true hf
          exact srF_le m _ _ _ _ (by rw [List.length_append]; exact this.2)
        · exact srF_le m _ _ _ _ h
      · exact srF_le m _ _ _ _ h
    · exact srF_le m _ _ _ _ h
theorem srC_lt (li : Nat) (r : Nat × Bool × List Int32) : srC li r < 12 := by
  unfold srC
  split
  · split <;> omega
  · omega
theorem seK_lt (tb : Nat → Nat) (n : Nat) (nm pr : Nat → List tv) (k : Nat) (L : List Int32) (q : Option (Nat × Nat × Nat × Int32 × Bool × Fo × List Int32)) : (seK tb n nm pr k L q).1 < 64 := by
  cases q with
  | none => show 2 < 64; omega
  | some q =>
    obtain ⟨x2, y2, sc, li, ta, G, W⟩ := q
    unfold seK
    dsimp only
    split
    · show 34 < 64; omega
    · split
      · show 32 < 64; omega
      · exact Nat.lt_of_lt_of_le (srC_lt _ _) (by omega)
theorem se_join {tb : Nat → Nat} (htb : ∀ j, tb j < 256) {c e sf st : Nat} {r4 : RS} {c4 : Nat} {kf tf : Nat → Int32} {vf : Nat → Int64} {ef : Nat → Int32} (he4 : r4.2.1 = e)
    (h1 : (qR tb (rS tb (nI 4) (c, e, false, sf, st))).2.2.1 = true → r4.2.2.1 = true)
    (h2 : (qR tb (rS tb (nI 4) (c, e, false, sf, st))).2.2.1 = false → foO (flO tb (flP tb 200) 6 0 (qR tb (rS tb (nI 4) (c, e, false, sf, st))).1 e) 0 r4 c4 kf tf vf ef) :
    (seS tb c e = none ∧ rD (rwR tb r4) = false) ∨ ∃ x2 y2 sc li ta G W, seS tb c e = some (x2, y2, sc, li, ta, G, W) ∧ rD (rwR tb r4) = true ∧ (rS tb (nI 4) (c, e, false, sf, st)).2.2.2.1 = x2 ∧ (rS tb (nI 4) (c, e, false, sf, st)).2.2.2.2 = y2 ∧ vO tb (nI 10) (rS tb (nI 4) (c, e, false, sf, st)) = sc ∧ vN tb (qR1 tb (rS tb (nI 4) (c, e, false, sf, st))) = li ∧ qTA tb (rS tb (nI 4) (c, e, false, sf, st)) = ta ∧ rwM tb r4 = (mkL (if W = [] then nI 63 else 0) W) ∧ enC kf tf vf ef G 0 ∧ c4 = fsz G ∧ flW G ∧ fht G ≤ 6 ∧ (∃ t ty v F, G = Fo.cons t ty v F Fo.nil) ∧ ¬ li < 0 ∧ sc ≤ 2 ∧ fsz G ≤ 20 := by
  unfold seS
  cases ht : tl tb 4 c e with
  | none =>
    left
    have hw : (rS tb (nI 4) (c, e, false, sf, st)).2.2.1 = true := rS_no htb (by omega) ht
    exact ⟨rfl, rwR_w (h1 (qR_w hw))⟩
  | some q =>
    obtain ⟨x2, y2⟩ := q
    dsimp only
    rw [rS_ok htb (by omega) ht] at h1 h2 ⊢
    cases hq : qrS tb y2 e with
    | none => left; exact ⟨rfl, rwR_w (h1 (qr_no htb hq))⟩
    | some q =>
      obtain ⟨sc, li, ta, y5⟩ := q
      dsimp only
      obtain ⟨⟨sf', st', q1⟩, q2, q3, q4, q5, q6, q7, q8⟩ := qr_ok htb (sf := x2) (st := y2) hq
      rw [q1] at h1 h2
      have h2 := h2 rfl
      cases hf : flO tb (flP tb 200) 6 0 y5 e with
      | none =>
        left
        rw [show ((y5, e, false, sf', st') : RS).1 = y5 from rfl, hf] at h2
        exact ⟨rfl, rwR_w h2⟩
      | some q =>
        obtain ⟨t, ty, v, F, y6⟩ := q
        rw [show ((y5, e, false, sf', st') : RS).1 = y5 from rfl, hf] at h2
        obtain ⟨a1, a2, a3, a4⟩ := h2
        have hr4 := rs_eta a2 he4 a1
        have hfi := flO_in2 hf
        dsimp only
        cases hw : wtP tb y6 e with
        | none => left; rw [hr4]; exact ⟨rfl, wp_no htb hw⟩
        | some W =>
          right
          have hwo := wp_ok htb (sf := r4.2.2.2.1) (st := r4.2.2.2.2) hw
          rw [← hr4] at hwo
          refine ⟨x2, y2, sc, li, ta, _, W, rfl, hwo.1, rfl, rfl, q2, q3, q4, hwo.2, a4, ?_, flO_W htb hf, ?_, ⟨t, ty, v, F, rfl⟩, q7, q8, ?_⟩
          · rw [a3, Nat.zero_add]
          · show max (1 + fht F) (fht Fo.nil) ≤ 6
            have : fht Fo.nil = 0 := rfl
            omega
          · rw [fsz_c]
            have : fsz Fo.nil = 0 := rfl
            omega
theorem se_joinR {tb : Nat → Nat} (htb : ∀ j, tb j < 256) {r : RS} (hw : r.2.2.1 = false) {r4 : RS} {c4 : Nat} {kf tf : Nat → Int32} {vf : Nat → Int64} {ef : Nat → Int32} (he4 : r4.2.1 = r.2.1)
    (h1 : (qR tb (rS tb (nI 4) r)).2.2.1 = true → r4.2.2.1 = true)
    (h2 : (qR tb (rS tb (nI 4) r)).2.2.1 = false → foO (flO tb (flP tb 200) 6 0 (qR tb (rS tb (nI 4) r)).1 r.2.1) 0 r4 c4 kf tf vf ef) :
    (seS tb r.1 r.2.1 = none ∧ rD (rwR tb r4) = false) ∨ ∃ x2 y2 sc li ta G W, seS tb r.1 r.2.1 = some (x2, y2, sc, li, ta, G, W) ∧ rD (rwR tb r4) = true ∧ (rS tb (nI 4) r).2.2.2.1 = x2 ∧ (rS tb (nI 4) r).2.2.2.2 = y2 ∧ vO tb (nI 10) (rS tb (nI 4) r) = sc ∧ vN tb (qR1 tb (rS tb (nI 4) r)) = li ∧ qTA tb (rS tb (nI 4) r) = ta ∧ rwM tb r4 = (mkL (if W = [] then nI 63 else 0) W) ∧ enC kf tf vf ef G 0 ∧ c4 = fsz G ∧ flW G ∧ fht G ≤ 6 ∧ (∃ t ty v F, G = Fo.cons t ty v F Fo.nil) ∧ ¬ li < 0 ∧ sc ≤ 2 ∧ fsz G ≤ 20 := by
  obtain ⟨c, e, w, sf, st⟩ := r
  have hw : w = false := hw
  subst hw
  dsimp only at he4 h1 h2 ⊢
  exact se_join htb he4 h1 h2
set_option maxRecDepth 100000 in
set_option maxHeartbeats 4000000 in
theorem y_Fi_readOneW (d : Nat) {μ : kc_M} {tb : Nat → Nat} {sz : Nat} {ix : Int32} (htb : ∀ j, tb j < 256) {r : RS} (hr : rd_r μ tb sz ix r) (h : rok sz r) (hw : r.2.2.1 = true) {kf tf : Nat → Int32} {vf : Nat → Int64} {ef : Nat → Int32} (hA : fiA μ 0 kf tf vf ef) : kc_Y kt kC (d + 3) j_Fi_readOne [.ref 128, .ref 1, .int (nI 1)] μ (fun w μ' => w = none ∧ ∃ r' c' kf' tf' vf' ef', foL μ μ' tb sz ix r.2.1 0 kf tf vf ef r' c' kf' tf' vf' ef' ∧ r'.2.2.1 = true) := by
  refine ⟨Nat.le_of_ble_eq_true rfl, ?_⟩
  have hmo : ¬ rM r = true := rM_w hw
  refine x_il c_Fi_readOne_0 rfl ?_
  refine x_ci c_Fi_readOne_1 ?_
  refine x_cmN_gt c_Fi_readOne_3 (by omega) (by omega) (fun h => (by exfalso; omega)) (fun _ => ?_)
  refine x_al c_Fi_readOne_6 rfl ?_
  refine x_get c_Fi_readOne_7 (by first | rfl | exact hr.1 | exact hA.1 | exact hA.2.1 | exact hA.2.2.2.2 | exact kc_gs | exact rfl) rfl ?_
  refine x_ci c_Fi_readOne_10 ?_
  refine x_cmN_lt c_Fi_readOne_12 (by omega) (by omega) (fun _ => ?_) (fun h => (by exfalso; omega))
  refine x_al c_Fi_readOne_21 rfl ?_
  refine x_get c_Fi_readOne_22 (by first | rfl | exact hr.1 | exact hA.1 | exact hA.2.1 | exact hA.2.2.2.2 | exact kc_gs | exact rfl) rfl ?_
  refine x_is [_, _, _, _] c_Fi_readOne_25 rfl ?_
  refine x_al c_Fi_readOne_26 rfl ?_
  refine x_dup c_Fi_readOne_27 rfl ?_
  refine x_get c_Fi_readOne_28 (by first | rfl | exact hr.1 | exact hA.1 | exact hA.2.1 | exact hA.2.2.2.2 | exact kc_gs | exact rfl) rfl ?_
  refine x_ci c_Fi_readOne_31 ?_
  first | refine x_iaddN c_Fi_readOne_32 ?_ | refine x_iadd c_Fi_readOne_32 ?_
  refine x_put [_, _, _, _, _] c_Fi_readOne_33 (by first | rfl | exact hr.1 | exact hA.1 | exact hA.2.1 | exact hA.2.2.2.2 | exact kc_gs | exact rfl) ⟨Nat.le_of_ble_eq_true rfl, rfl, rfl⟩ rfl ?_
  refine x_al c_Fi_readOne_36 rfl ?_
  refine x_get c_Fi_readOne_37 (by first | rfl | exact hr.1 | exact hA.1 | exact hA.2.1 | exact hA.2.2.2.2 | exact kc_gs | exact rfl) rfl ?_
  refine x_il c_Fi_readOne_40 rfl ?_
  refine x_al c_Fi_readOne_41 rfl ?_
  refine x_cv0z _ c_Fi_readOne_42 (by first | rfl | exact hr.1 | exact hA.1 | exact hA.2.1 | exact hA.2.2.2.2 | exact kc_gs | exact rfl) (Nat.le_of_ble_eq_true rfl) (y_Rd_nextTag d (r := r) (by exact ⟨hr.1, hr.2⟩) h htb) ?_
  rintro _ μx ⟨rfl, hμx⟩
  have hμx := hμx.symm
  subst hμx
  show kc_X _ _ _ _ _ (.int (rT tb r) :: _) _ _
  rw [show rT tb r = -1 by unfold rT; rw [if_neg hmo]]
  refine x_iastN c_Fi_readOne_45 (by first | rfl | exact hr.1 | exact hA.1 | exact hA.2.1 | exact hA.2.2.2.2 | exact kc_gs | exact rfl) (by omega) (by omega) ?_
  refine x_al c_Fi_readOne_46 rfl ?_
  refine x_get c_Fi_readOne_47 (by first | rfl | exact hr.1 | exact hA.1 | exact hA.2.1 | exact hA.2.2.2.2 | exact kc_gs | exact rfl) rfl ?_
  refine x_il c_Fi_readOne_50 rfl ?_
  refine x_ialdE c_Fi_readOne_51 (by first | rfl | exact hr.1 | exact hA.1 | exact hA.2.1 | exact hA.2.2.2.2 | exact kc_gs | exact rfl) (by omega) (by omega) (if_pos rfl) ?_
  refine x_sw 159 c_Fi_readOne_52 (rfl) ?_
  refine x_al c_Fi_readOne_159 rfl ?_
  refine x_ci c_Fi_readOne_160 ?_
  refine x_put [_, _, _, _, _, _, _, _] c_Fi_readOne_161 (by first | rfl | exact hr.1 | exact hA.1 | exact hA.2.1 | exact hA.2.2.2.2 | exact kc_gs | exact rfl) ⟨Nat.le_of_ble_eq_true rfl, by first | decide | exact kz_n _, by first | decide | exact kz_f _⟩ rfl ?_
  refine x_al c_Fi_readOne_164 rfl ?_
  refine x_get c_Fi_readOne_165 (by first | rfl | exact hr.1 | exact hA.1 | exact hA.2.1 | exact hA.2.2.2.2 | exact kc_gs | exact rfl) rfl ?_
  refine x_il c_Fi_readOne_168 rfl ?_
  refine x_al c_Fi_readOne_169 rfl ?_
  refine x_get c_Fi_readOne_170 (by first | rfl | exact hr.1 | exact hA.1 | exact hA.2.1 | exact hA.2.2.2.2 | exact kc_gs | exact rfl) rfl ?_
  refine x_iastN c_Fi_readOne_173 (by first | rfl | exact hr.1 | exact hA.1 | exact hA.2.1 | exact hA.2.2.2.2 | exact kc_gs | exact rfl) (by omega) (by omega) ?_
  refine x_ret c_Fi_readOne_174 ?_
  exact ⟨rfl, rW r, 1, upd kf 0 (-1), tf, vf, upd ef 0 (nI 1), ⟨(by exact ⟨rfl, hr.2⟩), h, rfl, ⟨(kc_gf (by decide)).trans ((kc_gf (by decide)).trans ((kc_gf (by decide)).trans kc_gs)), (kc_gf (by decide)).trans ((kc_gf (by decide)).trans kc_gs), (kc_gf (by decide)).trans ((kc_gf (by decide)).trans ((kc_gf (by decide)).trans ((kc_gf (by decide)).trans hA.2.2.1))), (kc_gf (by decide)).trans ((kc_gf (by decide)).trans ((kc_gf (by decide)).trans ((kc_gf (by decide)).trans hA.2.2.2.1))), kc_gs⟩, by omega, by omega, fun q q1 q2 => (kc_gf (by omega)).trans ((kc_gf q1).trans ((kc_gf (by omega)).trans (kc_gf (by omega)))), fun j hj => absurd hj (Nat.not_lt_zero _)⟩, rfl⟩
set_option maxRecDepth 100000 in
set_option maxHeartbeats 4000000 in
theorem y_Fi_readFrom (d : Nat) {μ : kc_M} {tb : Nat → Nat} {sz : Nat} {ix : Int32} (htb : ∀ j, tb j < 256) {r : RS} (hr : rd_r μ tb sz ix r) (h : rok sz r) {c : Nat} {kf tf : Nat → Int32} {vf : Nat → Int64} {ef : Nat → Int32} (hA : fiA μ c kf tf vf ef) : kc_Y kt kC (d + 18) j_Fi_readFrom [.ref 128, .ref 1] μ (fun w μ' => w = none ∧ ∃ r' c' kf' tf' vf' ef', rd_r μ' tb sz ix r' ∧ rok sz r' ∧ r'.2.1 = r.2.1 ∧ fiA μ' c' kf' tf' vf' ef' ∧ c' ≤ 20 ∧ (∀ q, q ≠ 1 → q < 128 ∨ 132 < q → μ'.1 q = μ.1 q) ∧ (r.2.2.1 = true → r'.2.2.1 = true) ∧ (r.2.2.1 = false → foO (flO tb (flP tb 200) 6 0 r.1 r.2.1) 0 r' c' kf' tf' vf' ef')) := by
  refine ⟨Nat.le_of_ble_eq_true rfl, ?_⟩
  have hz := h.2.2
  cases hw : r.2.2.1 with
  | true =>
    skip
    refine x_al c_Fi_readFrom_0 rfl ?_
    refine x_ci c_Fi_readFrom_1 ?_
    refine x_put [_, _, _, _, _] c_Fi_readFrom_2 (by first | rfl | exact hA.1 | exact kc_gs | exact rfl) ⟨Nat.le_of_ble_eq_true rfl, rfl, rfl⟩ rfl ?_
    refine x_al c_Fi_readFrom_5 rfl ?_
    refine x_al c_Fi_readFrom_6 rfl ?_
    refine x_ci c_Fi_readFrom_7 ?_
    refine x_cv2z _ c_Fi_readFrom_8 (by first | rfl | exact hA.1 | exact kc_gs | exact rfl) (Nat.le_of_ble_eq_true rfl) (y_Fi_readOneW (d + 14) (μ := kc_u μ 128 (ce_Fi 0)) htb (r := r) (by exact ⟨hr.1, hr.2⟩) h hw ⟨kc_gs, (kc_gf (by decide)).trans hA.2.1, (kc_gf (by decide)).trans hA.2.2.1, (kc_gf (by decide)).trans hA.2.2.2.1, (kc_gf (by decide)).trans hA.2.2.2.2⟩) ?_
    rintro _ μ2 ⟨rfl, r2, c2, kf2, tf2, vf2, ef2, hL2, hO2⟩
    show kc_X _ _ _ _ _ [] _ _
    refine x_ret c_Fi_readFrom_11 ?_
    exact ⟨rfl, r2, c2, kf2, tf2, vf2, ef2, hL2.1, hL2.2.1, hL2.2.2.1, hL2.2.2.2.1, hL2.2.2.2.2.2.1, fun q q1 q2 => (hL2.2.2.2.2.2.2.1 q q1 q2).trans (kc_gf (by omega)), fun _ => hO2, fun q => absurd q (by decide)⟩
  | false =>
    have ho := y_Fi_readOne (tb := tb) (sz := sz) (ix := ix) htb 6 (Nat.le_refl _) d 200 (kc_u μ 128 (ce_Fi 0)) r 0 kf tf vf ef (by exact ⟨hr.1, hr.2⟩) h hw ⟨kc_gs, (kc_gf (by decide)).trans hA.2.1, (kc_gf (by decide)).trans hA.2.2.1, (kc_gf (by decide)).trans hA.2.2.2.1, (kc_gf (by decide)).trans hA.2.2.2.2⟩ (by omega) (by have := h.2.1; omega)
    refine x_al c_Fi_readFrom_0 rfl ?_
    refine x_ci c_Fi_readFrom_1 ?_
    refine x_put [_, _, _, _, _] c_Fi_readFrom_2 (by first | rfl | exact hA.1 | exact kc_gs | exact rfl) ⟨Nat.le_of_ble_eq_true rfl, rfl, rfl⟩ rfl ?_
    refine x_al c_Fi_readFrom_5 rfl ?_
    refine x_al c_Fi_readFrom_6 rfl ?_
    refine x_ci c_Fi_readFrom_7 ?_
    refine x_cv2z _ c_Fi_readFrom_8 (by first | rfl | exact hA.1 | exact kc_gs | exact rfl) (Nat.le_of_ble_eq_true rfl) (ho) ?_
    rintro _ μ2 ⟨rfl, r2, c2, kf2, tf2, vf2, ef2, hL2, hO2⟩
    show kc_X _ _ _ _ _ [] _ _
    refine x_ret c_Fi_readFrom_11 ?_
    exact ⟨rfl, r2, c2, kf2, tf2, vf2, ef2, hL2.1, hL2.2.1, hL2.2.2.1, hL2.2.2.2.1, hL2.2.2.2.2.2.1, fun q q1 q2 => (hL2.2.2.2.2.2.2.1 q q1 q2).trans (kc_gf (by omega)), fun q => absurd q (by decide), fun _ => hO2⟩
set_option maxRecDepth 100000 in
set_option maxHeartbeats 4000000 in
theorem y_Dk_search (d : Nat) {μ : kc_M} {lo so : Bool} {tb : Nat → Nat} {sz : Nat} {k : Nat} (hk31 : k < 2 ^ 31) {r : RS} (k0 : μ.1 0 = some (ce_Dk lo so)) (hr : rd_r μ tb sz (nI k) r) (hk : rok sz r) (hw0 : r.2.2.1 = false) (htb : ∀ j, tb j < 256) {n : Nat} {ad : Nat → Nat} {nm pr : Nat → List tv} (ht : tr_at μ n ad nm pr) (hsc : sc_at μ) (hgd : ∀ e, e < n → gd (pr e)) {L : List Int32} (hL : wL μ L) (hL284 : L.length ≤ 284) : kc_Y kt kC (d + 19) j_Dk_search [.ref 0] μ (fun v μ' => v = some (.int (nI (seK tb n nm pr k L (seS tb r.1 r.2.1)).1)) ∧ μ'.1 0 = some (ce_Dk lo so) ∧ (∃ r', rd_r μ' tb sz (nI k) r' ∧ rok sz r') ∧ tr_at μ' n ad nm pr ∧ wL μ' (seK tb n nm pr k L (seS tb r.1 r.2.1)).2 ∧ (seK tb n nm pr k L (seS tb r.1 r.2.1)).2.length ≤ 284 ∧ (∀ q, q ≠ 1 → q < 3 ∨ (5 ≤ q ∧ q < 119) ∨ 136 ≤ q → μ'.1 q = μ.1 q) ∧ sc_at μ' ∧ ∃ o, tg_at μ' o ∧ ((seK tb n nm pr k L (seS tb r.1 r.2.1)).1 = 32 → o = seN tb (seS tb r.1 r.2.1))) := by
  refine ⟨Nat.le_of_ble_eq_true rfl, ?_⟩
  have rest : ∀ (μ5 : kc_M) (x2 y2 sc : Nat) (li : Int32) (ta : Bool) (G : Fo) (W : List Int32) (r5 : RS) (c4 : Nat) (kf4 tf4 : Nat → Int32) (vf4 : Nat → Int64) (ef4 : Nat → Int32), (seS tb r.1 r.2.1) = some (x2, y2, sc, li, ta, G, W) → c4 = fsz G → flW G → fht G ≤ 6 → (∃ t ty v F, G = Fo.cons t ty v F Fo.nil) → ¬ li < 0 → sc ≤ 2 → fsz G ≤ 20 → enC kf4 tf4 vf4 ef4 G 0 → μ5.1 0 = some (ce_Dk lo so) → rd_r μ5 tb sz (nI k) r5 → rok sz r5 → tr_at μ5 n ad nm pr → sc_at μ5 → wL μ5 L → fiA μ5 c4 kf4 tf4 vf4 ef4 → μ5.1 127 = some (ce_Qu (nI sc) li ta (mkL (if W = [] then nI 63 else 0) W)) → tg_at μ5 (nmS tb x2 y2) → (∀ q, q ≠ 1 → q < 3 ∨ (5 ≤ q ∧ q < 119) ∨ 136 ≤ q → μ5.1 q = μ.1 q) → kc_X (kC j_Dk_search) (kc_Y kt kC (d + 18)) (fun v μ' => v = some (.int (nI (seK tb n nm pr k L (seS tb r.1 r.2.1)).1)) ∧ μ'.1 0 = some (ce_Dk lo so) ∧ (∃ r', rd_r μ' tb sz (nI k) r' ∧ rok sz r') ∧ tr_at μ' n ad nm pr ∧ wL μ' (seK tb n nm pr k L (seS tb r.1 r.2.1)).2 ∧ (seK tb n nm pr k L (seS tb r.1 r.2.1)).2.length ≤ 284 ∧ (∀ q, q ≠ 1 → q < 3 ∨ (5 ≤ q ∧ q < 119) ∨ 136 ≤ q → μ'.1 q = μ.1 q) ∧ sc_at μ' ∧ ∃ o, tg_at μ' o ∧ ((seK tb n nm pr k L (seS tb r.1 r.2.1)).1 = 32 → o = seN tb (seS tb r.1 r.2.1))) 64 [some (.ref 0)] [] μ5 (0, 0) := by
    intro μ5 x2 y2 sc li ta G W r5 c4 kf4 tf4 vf4 ef4 hS hcz hW hht hG hli hs2 h20 hen m5 hr5 hk5 ht5 hsc5 hw5 hA5 hq5 g5 ff
    obtain ⟨hnl, hlt⟩ := liN_i hli
    rw [← hnl] at hq5
    have hn16 : n ≤ 16 := ht5.2.2.2.2.2
    have hK0 : (seK tb n nm pr k L (seS tb r.1 r.2.1)) = seK tb n nm pr k L (some (x2, y2, sc, li, ta, G, W)) := by rw [hS]
    have hN0 : seN tb (seS tb r.1 r.2.1) = nmS tb x2 y2 := by rw [hS]; rfl
    rw [hN0]
    cases ho : nmS tb x2 y2 with
    | none =>
      have hK : (seK tb n nm pr k L (seS tb r.1 r.2.1)) = (34, L) := by rw [hK0]; unfold seK; dsimp only; rw [ho]
      rw [hK]
      rw [ho] at g5
      obtain ⟨f9, g9, z1, z2, z3⟩ := id g5
      refine x_al c_Dk_search_64 rfl ?_
      refine x_get c_Dk_search_65 (by first | rfl | exact m5 | exact z1) rfl ?_
      refine x_get c_Dk_search_68 (by first | rfl | exact m5 | exact z1) rfl ?_
      refine x_ci c_Dk_search_71 ?_
      refine x_cm_ne c_Dk_search_72 (fun h => absurd (rfl) h) (fun _ => ?_)
      refine x_ci c_Dk_search_75 ?_
      refine x_ri c_Dk_search_77 ?_
      exact ⟨rfl, m5, ⟨_, hr5, hk5⟩, ht5, hw5, hL284, ff, hsc5, _, g5, fun q => absurd (show 34 = 32 from q) (by decide)⟩
    | some l =>
      rw [ho] at g5
      have g5 : nm_at μ5 119 120 121 l := g5
      have h4 : l.length ≤ 4 := by obtain ⟨_, _, _, _, _, _, h⟩ := g5; exact h
      have ho0 := oI_m1 (r := fd nm l n 0) (fun m h => by have := (fd_in h).2.1; omega)
      by_cases hl0 : 0 < l.length
      · by_cases hfd : fd nm l n 0 = none
        · have hK : (seK tb n nm pr k L (seS tb r.1 r.2.1)) = (32, L) := by rw [hK0]; unfold seK; dsimp only; rw [ho]; dsimp only; rw [if_pos ⟨hl0, hfd⟩]
          rw [hK]
          refine x_al c_Dk_search_64 rfl ?_
          refine x_get c_Dk_search_65 (by first | rfl | exact m5 | exact (nm_c g5) | exact ht5.1) rfl ?_
          refine x_get c_Dk_search_68 (by first | rfl | exact m5 | exact (nm_c g5) | exact ht5.1) rfl ?_
          refine x_ci c_Dk_search_71 ?_
          refine x_cm_ne c_Dk_search_72 (fun _ => ?_) (fun h => absurd h (nI_nm1 (by omega)))
          refine x_al c_Dk_search_78 rfl ?_
          refine x_get c_Dk_search_79 (by first | rfl | exact m5 | exact (nm_c g5) | exact ht5.1) rfl ?_
          refine x_get c_Dk_search_82 (by first | rfl | exact m5 | exact (nm_c g5) | exact ht5.1) rfl ?_
          refine x_ifN_le c_Dk_search_85 (by omega) (fun h => (by exfalso; omega)) (fun _ => ?_)
          refine x_al c_Dk_search_88 rfl ?_
          refine x_get c_Dk_search_89 (by first | rfl | exact m5 | exact (nm_c g5) | exact ht5.1) rfl ?_
          refine x_al c_Dk_search_92 rfl ?_
          refine x_get c_Dk_search_93 (by first | rfl | exact m5 | exact (nm_c g5) | exact ht5.1) rfl ?_
          refine x_ci c_Dk_search_96 ?_
          refine x_cv2z _ c_Dk_search_97 (by first | rfl | exact m5 | exact (nm_c g5) | exact ht5.1) (Nat.le_of_ble_eq_true rfl) (y_Tr_find (d + 16) ht5 g5 h4 (k := 0) (by omega)) ?_
          rintro _ μx ⟨rfl, hμx⟩
          have hμx := hμx.symm
          subst hμx
          show kc_X _ _ _ _ _ [.int (oI (fd nm l n 0))] _ _
          refine x_ci c_Dk_search_100 ?_
          refine x_cm_ne c_Dk_search_101 (fun h => absurd (ho0.mpr hfd) h) (fun _ => ?_)
          refine x_ci c_Dk_search_104 ?_
          refine x_ri c_Dk_search_106 ?_
          exact ⟨rfl, m5, ⟨_, hr5, hk5⟩, ht5, hw5, hL284, ff, hsc5, some l, g5, fun _ => rfl⟩
        · have hK : (seK tb n nm pr k L (seS tb r.1 r.2.1)) = (srC (liN li) (seR n nm pr k sc li ta G W l L), (seR n nm pr k sc li ta G W l L).2.2) := by rw [hK0]; unfold seK; dsimp only; rw [ho]; dsimp only; rw [if_neg (fun q => hfd q.2)]
          refine x_al c_Dk_search_64 rfl ?_
          refine x_get c_Dk_search_65 (by first | rfl | exact m5 | exact (nm_c g5) | exact ht5.1) rfl ?_
          refine x_get c_Dk_search_68 (by first | rfl | exact m5 | exact (nm_c g5) | exact ht5.1) rfl ?_
          refine x_ci c_Dk_search_71 ?_
          refine x_cm_ne c_Dk_search_72 (fun _ => ?_) (fun h => absurd h (nI_nm1 (by omega)))
          refine x_al c_Dk_search_78 rfl ?_
          refine x_get c_Dk_search_79 (by first | rfl | exact m5 | exact (nm_c g5) | exact ht5.1) rfl ?_
          refine x_get c_Dk_search_82 (by first | rfl | exact m5 | exact (nm_c g5) | exact ht5.1) rfl ?_
          refine x_ifN_le c_Dk_search_85 (by omega) (fun h => (by exfalso; omega)) (fun _ => ?_)
          refine x_al c_Dk_search_88 rfl ?_
          refine x_get c_Dk_search_89 (by first | rfl | exact m5 | exact (nm_c g5) | exact ht5.1) rfl ?_
          refine x_al c_Dk_search_92 rfl ?_
          refine x_get c_Dk_search_93 (by first | rfl | exact m5 | exact (nm_c g5) | exact ht5.1) rfl ?_
          refine x_ci c_Dk_search_96 ?_
          refine x_cv2z _ c_Dk_search_97 (by first | rfl | exact m5 | exact (nm_c g5) | exact ht5.1) (Nat.le_of_ble_eq_true rfl) (y_Tr_find (d + 16) ht5 g5 h4 (k := 0) (by omega)) ?_
          rintro _ μx ⟨rfl, hμx⟩
          have hμx := hμx.symm
          subst hμx
          show kc_X _ _ _ _ _ [.int (oI (fd nm l n 0))] _ _
          refine x_ci c_Dk_search_100 ?_
          refine x_cm_ne c_Dk_search_101 (fun _ => ?_) (fun h => absurd h (fun q => hfd (ho0.mp q)))
          refine x_al c_Dk_search_107 rfl ?_
          refine x_cv0z _ c_Dk_search_108 (by first | rfl | exact m5 | exact (nm_c g5) | exact ht5.1) (Nat.le_of_ble_eq_true rfl) (y_Dk_answerFound (d + 3) m5 hr5.1 hk31 ht5 g5 (sc := sc) (li := liN li) hq5 hs2 hlt hA5 (by omega) hG hcz.symm hht hen hW hgd hw5 hL284) ?_
          rintro _ μ6 ⟨rfl, c6, l6⟩
          show kc_X _ _ _ _ _ [.int (nI (srC (liN li) (seR n nm pr k sc li ta G W l L)))] _ _
          refine x_ri c_Dk_search_111 ?_
          rw [hK]
          exact ⟨rfl, (c6.2 0 (by decide) (by decide)).trans m5, ⟨_, ⟨(c6.2 1 (by decide) (by decide)).trans hr5.1, (c6.2 2 (by decide) (by decide)).trans hr5.2⟩, hk5⟩, tr_k ht5 (fun q q1 q2 => c6.2 q (by omega) (by omega)), c6.1, l6, fun q q1 q2 => (c6.2 q (by omega) (by omega)).trans (ff q q1 q2), sc_k hsc5 (fun q q1 q2 => c6.2 q (by omega) (by omega)), some l, nm_k g5 (c6.2 _ (by decide) (by decide)) (c6.2 _ (by decide) (by decide)) (c6.2 _ (by decide) (by decide)), fun q => absurd q (by have := srC_lt (liN li) (seR n nm pr k sc li ta G W l L); show ¬ srC _ _ = 32; omega)⟩
      · have hK : (seK tb n nm pr k L (seS tb r.1 r.2.1)) = (srC (liN li) (seR n nm pr k sc li ta G W l L), (seR n nm pr k sc li ta G W l L).2.2) := by rw [hK0]; unfold seK; dsimp only; rw [ho]; dsimp only; rw [if_neg (fun q => hl0 q.1)]
        refine x_al c_Dk_search_64 rfl ?_
        refine x_get c_Dk_search_65 (by first | rfl | exact m5 | exact (nm_c g5) | exact ht5.1) rfl ?_
        refine x_get c_Dk_search_68 (by first | rfl | exact m5 | exact (nm_c g5) | exact ht5.1) rfl ?_
        refine x_ci c_Dk_search_71 ?_
        refine x_cm_ne c_Dk_search_72 (fun _ => ?_) (fun h => absurd h (nI_nm1 (by omega)))
        refine x_al c_Dk_search_78 rfl ?_
        refine x_get c_Dk_search_79 (by first | rfl | exact m5 | exact (nm_c g5) | exact ht5.1) rfl ?_
        refine x_get c_Dk_search_82 (by first | rfl | exact m5 | exact (nm_c g5) | exact ht5.1) rfl ?_
        refine x_ifN_le c_Dk_search_85 (by omega) (fun _ => ?_) (fun h => (by exfalso; omega))
        refine x_al c_Dk_search_107 rfl ?_
        refine x_cv0z _ c_Dk_search_108 (by first | rfl | exact m5 | exact (nm_c g5) | exact ht5.1) (Nat.le_of_ble_eq_true rfl) (y_Dk_answerFound (d + 3) m5 hr5.1 hk31 ht5 g5 (sc := sc) (li := liN li) hq5 hs2 hlt hA5 (by omega) hG hcz.symm hht hen hW hgd hw5 hL284) ?_
        rintro _ μ6 ⟨rfl, c6, l6⟩
        show kc_X _ _ _ _ _ [.int (nI (srC (liN li) (seR n nm pr k sc li ta G W l L)))] _ _
        refine x_ri c_Dk_search_111 ?_
        rw [hK]
        exact ⟨rfl, (c6.2 0 (by decide) (by decide)).trans m5, ⟨_, ⟨(c6.2 1 (by decide) (by decide)).trans hr5.1, (c6.2 2 (by decide) (by decide)).trans hr5.2⟩, hk5⟩, tr_k ht5 (fun q q1 q2 => c6.2 q (by omega) (by omega)), c6.1, l6, fun q q1 q2 => (c6.2 q (by omega) (by omega)).trans (ff q q1 q2), sc_k hsc5 (fun q q1 q2 => c6.2 q (by omega) (by omega)), some l, nm_k g5 (c6.2 _ (by decide) (by decide)) (c6.2 _ (by decide) (by decide)) (c6.2 _ (by decide) (by decide)), fun q => absurd q (by have := srC_lt (liN li) (seR n nm pr k sc li ta G W l L); show ¬ srC _ _ = 32; omega)⟩
  refine x_al c_Dk_search_0 rfl ?_
  refine x_get c_Dk_search_1 (by first | rfl | exact k0 | exact hr.1 | exact m1 | exact hr1.1 | exact hs9 | exact m2 | exact hr2.1 | exact hq2 | exact m3 | exact hr3.1 | exact hA3.1 | exact m4 | exact hq4 | exact hr4.1 | exact m5 | exact hr5.1) rfl ?_
  refine x_ci c_Dk_search_4 ?_
  refine x_cv1z _ c_Dk_search_5 (by first | rfl | exact k0 | exact hr.1 | exact m1 | exact hr1.1 | exact hs9 | exact m2 | exact hr2.1 | exact hq2 | exact m3 | exact hr3.1 | exact hA3.1 | exact m4 | exact hq4 | exact hr4.1 | exact m5 | exact hr5.1) (Nat.le_of_ble_eq_true rfl) (y_Rd_span (d + 16) hr hk htb (tag := nI 4)) ?_
  rintro _ μ1 ⟨rfl, hr1, f1⟩
  have hk1 := rok_S (tb := tb) (tag := nI 4) hk
  obtain ⟨X1, hX1⟩ : ∃ X, rS tb (nI 4) r = X := ⟨_, rfl⟩
  rw [hX1] at hr1 hk1
  have m1 := (f1 0 (by decide)).trans k0
  have hz := hk.2.2
  have hsc1 : sc_at μ1 := sc_k hsc (fun q h1 h2 => f1 q (by omega))
  have hsc1' := hsc1
  obtain ⟨⟨p9, f9, g9, hs9, _⟩, _, ⟨q6, q7, q8, q9, hq0⟩, ⟨c5, kf, tf, vf, ef, y1, y2, y3, y4, y5⟩, _⟩ := hsc1'
  show kc_X _ _ _ _ _ [] _ _
  refine x_al c_Dk_search_8 rfl ?_
  refine x_get c_Dk_search_9 (by first | rfl | exact k0 | exact hr.1 | exact m1 | exact hr1.1 | exact hs9 | exact m2 | exact hr2.1 | exact hq2 | exact m3 | exact hr3.1 | exact hA3.1 | exact m4 | exact hq4 | exact hr4.1 | exact m5 | exact hr5.1) rfl ?_
  refine x_al c_Dk_search_12 rfl ?_
  refine x_get c_Dk_search_13 (by first | rfl | exact k0 | exact hr.1 | exact m1 | exact hr1.1 | exact hs9 | exact m2 | exact hr2.1 | exact hq2 | exact m3 | exact hr3.1 | exact hA3.1 | exact m4 | exact hq4 | exact hr4.1 | exact m5 | exact hr5.1) rfl ?_
  refine x_cv1z _ c_Dk_search_16 (by first | rfl | exact k0 | exact hr.1 | exact m1 | exact hr1.1 | exact hs9 | exact m2 | exact hr2.1 | exact hq2 | exact m3 | exact hr3.1 | exact hA3.1 | exact m4 | exact hq4 | exact hr4.1 | exact m5 | exact hr5.1) (Nat.le_of_ble_eq_true rfl) (y_Nm_readFrom (d + 14) hr1 htb hk1.2.2.1 (by have := hk1.2.2.2.1; omega) hsc1) ?_
  rintro _ μ2 ⟨rfl, g2, f2⟩
  have m2 := (f2 0 (by decide) (by decide) (by decide)).trans m1
  have hr2 : rd_r μ2 tb sz (nI k) X1 := ⟨(f2 1 (by decide) (by decide) (by decide)).trans hr1.1, (f2 2 (by decide) (by decide) (by decide)).trans hr1.2⟩
  have hsc2 : sc_at μ2 := sc_tg hsc1 g2 (fun q h1 h2 => f2 q (by omega) (by omega) (by omega))
  have hq2 := (f2 127 (by decide) (by decide) (by decide)).trans hq0
  have hf2 := (f2 128 (by decide) (by decide) (by decide)).trans y1
  show kc_X _ _ _ _ _ [] _ _
  refine x_al c_Dk_search_19 rfl ?_
  refine x_get c_Dk_search_20 (by first | rfl | exact k0 | exact hr.1 | exact m1 | exact hr1.1 | exact hs9 | exact m2 | exact hr2.1 | exact hq2 | exact m3 | exact hr3.1 | exact hA3.1 | exact m4 | exact hq4 | exact hr4.1 | exact m5 | exact hr5.1) rfl ?_
  refine x_al c_Dk_search_23 rfl ?_
  refine x_get c_Dk_search_24 (by first | rfl | exact k0 | exact hr.1 | exact m1 | exact hr1.1 | exact hs9 | exact m2 | exact hr2.1 | exact hq2 | exact m3 | exact hr3.1 | exact hA3.1 | exact m4 | exact hq4 | exact hr4.1 | exact m5 | exact hr5.1) rfl ?_
  refine x_cv1z _ c_Dk_search_27 (by first | rfl | exact k0 | exact hr.1 | exact m1 | exact hr1.1 | exact hs9 | exact m2 | exact hr2.1 | exact hq2 | exact m3 | exact hr3.1 | exact hA3.1 | exact m4 | exact hq4 | exact hr4.1 | exact m5 | exact hr5.1) (Nat.le_of_ble_eq_true rfl) (y_Qu_readFrom (d + 13) htb hr2 hk1.1 hq2) ?_
  rintro _ μ3 ⟨rfl, hr3, ⟨wt3, hq3⟩, f3⟩
  have hk3 := rok_qR (tb := tb) hk1.1
  obtain ⟨X3, hX3⟩ : ∃ X, qR tb X1 = X := ⟨_, rfl⟩
  rw [hX3] at hr3 hk3
  have m3 := (f3 0 (by decide) (by decide)).trans m2
  have hA3 : fiA μ3 c5 kf tf vf ef := ⟨(f3 128 (by decide) (by decide)).trans hf2, (f3 129 (by decide) (by decide)).trans ((f2 129 (by decide) (by decide) (by decide)).trans y2), (f3 130 (by decide) (by decide)).trans ((f2 130 (by decide) (by decide) (by decide)).trans y3), (f3 131 (by decide) (by decide)).trans ((f2 131 (by decide) (by decide) (by decide)).trans y4), (f3 132 (by decide) (by decide)).trans ((f2 132 (by decide) (by decide) (by decide)).trans y5)⟩
  show kc_X _ _ _ _ _ [] _ _
  refine x_al c_Dk_search_30 rfl ?_
  refine x_get c_Dk_search_31 (by first | rfl | exact k0 | exact hr.1 | exact m1 | exact hr1.1 | exact hs9 | exact m2 | exact hr2.1 | exact hq2 | exact m3 | exact hr3.1 | exact hA3.1 | exact m4 | exact hq4 | exact hr4.1 | exact m5 | exact hr5.1) rfl ?_
  refine x_al c_Dk_search_34 rfl ?_
  refine x_get c_Dk_search_35 (by first | rfl | exact k0 | exact hr.1 | exact m1 | exact hr1.1 | exact hs9 | exact m2 | exact hr2.1 | exact hq2 | exact m3 | exact hr3.1 | exact hA3.1 | exact m4 | exact hq4 | exact hr4.1 | exact m5 | exact hr5.1) rfl ?_
  refine x_cv1z _ c_Dk_search_38 (by first | rfl | exact k0 | exact hr.1 | exact m1 | exact hr1.1 | exact hs9 | exact m2 | exact hr2.1 | exact hq2 | exact m3 | exact hr3.1 | exact hA3.1 | exact m4 | exact hq4 | exact hr4.1 | exact m5 | exact hr5.1) (Nat.le_of_ble_eq_true rfl) (y_Fi_readFrom d htb hr3 hk3.1 hA3) ?_
  rintro _ μ4 ⟨rfl, r4, c4, kf4, tf4, vf4, ef4, hr4, hk4, he4, hA4, hc4, f4, w4, o4⟩
  have m4 := (f4 0 (by decide) (by decide)).trans m3
  have hq4 := (f4 127 (by decide) (by decide)).trans hq3
  show kc_X _ _ _ _ _ [] _ _
  refine x_al c_Dk_search_41 rfl ?_
  refine x_get c_Dk_search_42 (by first | rfl | exact k0 | exact hr.1 | exact m1 | exact hr1.1 | exact hs9 | exact m2 | exact hr2.1 | exact hq2 | exact m3 | exact hr3.1 | exact hA3.1 | exact m4 | exact hq4 | exact hr4.1 | exact m5 | exact hr5.1) rfl ?_
  refine x_al c_Dk_search_45 rfl ?_
  refine x_get c_Dk_search_46 (by first | rfl | exact k0 | exact hr.1 | exact m1 | exact hr1.1 | exact hs9 | exact m2 | exact hr2.1 | exact hq2 | exact m3 | exact hr3.1 | exact hA3.1 | exact m4 | exact hq4 | exact hr4.1 | exact m5 | exact hr5.1) rfl ?_
  refine x_cv1z _ c_Dk_search_49 (by first | rfl | exact k0 | exact hr.1 | exact m1 | exact hr1.1 | exact hs9 | exact m2 | exact hr2.1 | exact hq2 | exact m3 | exact hr3.1 | exact hA3.1 | exact m4 | exact hq4 | exact hr4.1 | exact m5 | exact hr5.1) (Nat.le_of_ble_eq_true rfl) (y_Qu_readWantedTypes (d + 15) htb hr4 hk4 hq4) ?_
  rintro _ μ5 ⟨rfl, hr5, hq5, f5⟩
  have m5 := (f5 0 (by decide) (by decide)).trans m4
  have hk5 : rok sz (rwR tb r4) := by
    have q1 := rok_E (tb := tb) (tag := nI 48) hk4
    have q2 := rwL_ok (tb := tb) 12 _ q1.1
    exact rok_L q2.1 (by rw [q2.2]; exact q1.2.1) hk4.2.1
  obtain ⟨X5, hX5⟩ : ∃ X, rwR tb r4 = X := ⟨_, rfl⟩
  rw [hX5] at hr5 hk5
  show kc_X _ _ _ _ _ [] _ _
  refine x_al c_Dk_search_52 rfl ?_
  refine x_get c_Dk_search_53 (by first | rfl | exact k0 | exact hr.1 | exact m1 | exact hr1.1 | exact hs9 | exact m2 | exact hr2.1 | exact hq2 | exact m3 | exact hr3.1 | exact hA3.1 | exact m4 | exact hq4 | exact hr4.1 | exact m5 | exact hr5.1) rfl ?_
  refine x_cv0z _ c_Dk_search_56 (by first | rfl | exact k0 | exact hr.1 | exact m1 | exact hr1.1 | exact hs9 | exact m2 | exact hr2.1 | exact hq2 | exact m3 | exact hr3.1 | exact hA3.1 | exact m4 | exact hq4 | exact hr4.1 | exact m5 | exact hr5.1) (Nat.le_of_ble_eq_true rfl) (y_Rd_isReadWell (d + 17) hr5 hk5 htb) ?_
  rintro _ μx ⟨rfl, hμx⟩
  have hμx := hμx.symm
  subst hμx
  show kc_X _ _ _ _ _ [.int (bI (rD X5))] _ _
  have ff : ∀ q, q ≠ 1 → q < 119 ∨ 136 ≤ q → μ5.1 q = μ.1 q := fun q q1 q2 => (f5 q q1 (by omega)).trans ((f4 q q1 (by omega)).trans ((f3 q q1 (by omega)).trans ((f2 q (by omega) (by omega) (by omega)).trans (f1 q q1))))
  have ht5 := tr_k ht (μ' := μ5) (fun q h1 h2 => ff q (by omega) (by omega))
  have g5 := tg_k g2 (μ' := μ5) (fun q h1 h2 => (f5 q (by omega) (by omega)).trans ((f4 q (by omega) (by omega)).trans (f3 q (by omega) (by omega))))
  have hA5 := fiA_k hA4 (μ' := μ5) (fun q h1 h2 => f5 q (by omega) (by omega))
  have hw5 : wL μ5 L := by obtain ⟨w, ⟨a, b⟩, c⟩ := hL; exact ⟨w, ⟨(ff 3 (by decide) (by decide)).trans a, (ff 4 (by decide) (by decide)).trans b⟩, c⟩
  have hsc5 : sc_at μ5 := by
    obtain ⟨z1, ⟨c1', c2', c3', c4', c5', c6', z21, z22, z23, z24, z25⟩, z3, z4, ⟨e1', e2', e3', z51, z52, z53⟩⟩ := hsc2
    have fr : ∀ q, 119 ≤ q → q < 127 ∨ 132 < q → q < 136 → μ5.1 q = μ2.1 q := fun q h1 h2 h3 => (f5 q (by omega) (by omega)).trans ((f4 q (by omega) (by omega)).trans (f3 q (by omega) (by omega)))
    obtain ⟨p1', p2', p3', z11, z12, z13⟩ := z1
    exact ⟨⟨p1', p2', p3', (fr _ (by omega) (by omega) (by omega)).trans z11, (fr _ (by omega) (by omega) (by omega)).trans z12, (fr _ (by omega) (by omega) (by omega)).trans z13⟩, ⟨c1', c2', c3', c4', c5', c6', (fr _ (by omega) (by omega) (by omega)).trans z21, (fr _ (by omega) (by omega) (by omega)).trans z22, (fr _ (by omega) (by omega) (by omega)).trans z23, (fr _ (by omega) (by omega) (by omega)).trans z24, (fr _ (by omega) (by omega) (by omega)).trans z25⟩, ⟨_, _, _, _, hq5⟩, ⟨_, _, _, _, _, hA5.1, hA5.2.1, hA5.2.2.1, hA5.2.2.2.1, hA5.2.2.2.2⟩, ⟨e1', e2', e3', (fr _ (by omega) (by omega) (by omega)).trans z51, (fr _ (by omega) (by omega) (by omega)).trans z52, (fr _ (by omega) (by omega) (by omega)).trans z53⟩⟩
  have hj := se_joinR htb hw0 (r4 := r4) (c4 := c4) (kf := kf4) (tf := tf4) (vf := vf4) (ef := ef4) (he4.trans (hk3.2.trans hk1.2.1)) (by rw [hX1, hX3]; exact w4) (by rw [hX1, hX3, ← hk1.2.1, ← hk3.2]; exact o4)
  rw [hX1, hX5] at hj
  refine x_ifB_ne c_Dk_search_59 (fun h59 => ?_) (fun h59 => ?_)
  · rcases hj with ⟨hS, hD⟩ | ⟨x2, y2, sc, li, ta, G, W, hS, hD, e1, e2, e3, e4, e5, e6, e7, e8, e9, e10, e11, e12, e13, e14⟩
    · rw [h59] at hD; cases hD
    · exact rest μ5 x2 y2 sc li ta G W _ _ _ _ _ _ hS e8 e9 e10 e11 e12 e13 e14 e7 m5 hr5 hk5 ht5 hsc5 hw5 hA5 (by rw [e3, e4, e5, e6] at hq5; exact hq5) (by rw [e1, e2] at g5; exact g5) (fun q q1 q2 => ff q q1 (by omega))
  · refine x_ci c_Dk_search_62 ?_
    refine x_ri c_Dk_search_63 ?_
    rcases hj with ⟨hS, hD⟩ | ⟨x2, y2, sc, li, ta, G, W, hS, hD, _⟩
    · have hK : (seK tb n nm pr k L (seS tb r.1 r.2.1)) = (2, L) := by rw [hS]; rfl
      rw [hK]
      exact ⟨rfl, m5, ⟨_, hr5, hk5⟩, ht5, hw5, hL284, (fun q q1 q2 => ff q q1 (by omega)), hsc5, _, g5, fun q => absurd (show 2 = 32 from q) (by decide)⟩
    · rw [h59] at hD; cases hD
