/-! the pair of calls handle -/
def cgV (cs : List cg) : Prop := ∀ c ∈ cs, ∀ v ∈ c.2.2, v = -1 ∨ 0 ≤ v
theorem apl_gd : ∀ (cs : List cg) (l : List tv), gd l → cgV cs → gd (apl cs l).2
  | [], l, h, _ => h
  | c :: cs, l, h, hv => by
    have h1 := ap1_ok (c := c) h (hv c (List.mem_cons_self ..))
    rw [apl_s]
    split
    · exact apl_gd cs _ h1.1 (fun x hx => hv x (List.mem_cons_of_mem _ hx))
    · exact h1.1
theorem a1_nn {tb : Nat → Nat} (htb : ∀ j, tb j < 256) {kb : Bool} {nv p e y : Nat} {c : cg} (h : a1S tb kb nv p e = some (y, c)) : ∀ v ∈ c.2.2, v = -1 ∨ 0 ≤ v := by
  unfold a1S at h
  cases kb with
  | true =>
    rw [if_pos rfl] at h
    split at h
    · cases h
    · split at h
      · cases h
      · split at h
        · cases h
        · rename_i hq
          split at h
          · cases h; exact atG_nn htb hq
          · cases h
  | false =>
    rw [if_neg (by decide)] at h
    split at h
    · cases h
    · rename_i hq
      cases h
      exact atG_nn htb hq
theorem as_nn {tb : Nat → Nat} (htb : ∀ j, tb j < 256) {kb : Bool} : ∀ (m nv p e : Nat) (cs : List cg), asS tb kb m nv p e = some cs → cgV cs
  | 0, nv, p, e, cs, h => by
    unfold asS at h
    split at h
    · cases h
    · cases h; intro c hc; cases hc
  | m + 1, nv, p, e, cs, h => by
    rw [asS_s] at h
    split at h
    · cases hq : a1S tb kb nv p e with
      | none => rw [hq] at h; cases h
      | some yc =>
        obtain ⟨y, c'⟩ := yc
        rw [hq] at h
        dsimp only at h
        cases h2 : asS tb kb m (nv + c'.2.2.length) y e with
        | none => rw [h2] at h; cases h
        | some ds =>
          rw [h2] at h
          have h := Option.some.inj h
          subst h
          intro c hc
          rcases List.mem_cons.mp hc with q | q
          · rw [q]; exact a1_nn htb hq
          · exact as_nn htb m _ _ _ ds h2 c q
    · cases h; intro c hc; cases hc
theorem ac_nn {tb : Nat → Nat} (htb : ∀ j, tb j < 256) {kb : Bool} {c e x y : Nat} {cs : List cg} (h : acS tb kb c e = some (x, y, cs)) : cgV cs := by
  unfold acS at h
  split at h
  · cases h
  · split at h
    · cases h
    · rename_i x3 y3 _
      split at h
      · cases h2 : asS tb kb 12 0 x3 y3 with
        | none => rw [h2] at h; cases h
        | some ds => rw [h2] at h; cases h; exact as_nn htb _ _ _ _ _ h2
      · cases h
theorem opJ_go {α : Type} {so : Bool} {tb : Nat → Nat} {q : Option (Nat × Nat × List cg)} {f : List tv → List cg → Nat × Option α} {a : α} (h : (opJ so tb q f).2 = some a) : ∃ x2 y2 cs l, q = some (x2, y2, cs) ∧ opN tb q = some l ∧ 1 ≤ l.length ∧ (f l cs).2 = some a := by
  cases q with
  | none => cases h
  | some q =>
    obtain ⟨x2, y2, cs⟩ := q
    unfold opJ at h
    dsimp only at h
    split at h
    · rename_i hz
      obtain ⟨l, hl, hl1⟩ := chC_z hz
      rw [hl] at h
      exact ⟨x2, y2, cs, l, rfl, hl, hl1, h⟩
    · cases h
theorem moK_some {n : Nat} {nm pr : Nat → List tv} {l : List tv} {cs : List cg} {e : Nat} {p : List tv} (h : (moK n nm pr l cs).2 = some (e, p)) : e < n ∧ p = (apl cs (pr e)).2 := by
  unfold moK at h
  split at h
  · cases h
  · rename_i e' he'
    have hi := fd_in he'
    split at h
    · split at h
      · split at h
        · cases h
        · cases h; exact ⟨by omega, rfl⟩
      · cases h
    · cases h
theorem adK_some {n : Nat} {nm : Nat → List tv} {l : List tv} {cs : List cg} {p : List tv} (h : (adK n nm l cs).2 = some p) : fd nm l n 0 = none ∧ p = (apl cs []).2 := by
  unfold adK at h
  split at h
  · rename_i h0
    split at h
    · cases h
    · split at h
      · split at h
        · split at h
          · cases h
          · cases h; exact ⟨h0, rfl⟩
        · cases h
      · cases h
  · cases h
theorem dlC_some {so : Bool} {n : Nat} {nm : Nat → List tv} {q : Option (List tv)} {e : Nat} (h : (dlC so n nm q).2 = some e) : e < n := by
  unfold dlC at h
  split at h
  · split at h
    · split at h
      · cases h
      · split at h
        · cases h
        · rename_i e' he'
          have hi := fd_in he'
          split at h
          · cases h
          · cases h; omega
    · cases h
  · cases h
/-- an operation keeps what holds of all entries -/
theorem oRes_w {tb : Nat → Nat} (htb : ∀ j, tb j < 256) {so : Bool} {n : Nat} {nm pr : Nat → List tv} {k c sz op : Nat} (h : ((∀ e, e < n → 1 ≤ (nm e).length ∧ (pr e).Nodup ∧ ∀ p ∈ pr e, 0 ≤ p.2) ∧ ∀ i j, i < n → j < n → nm i = nm j → i = j)) (R : ORes) (hR : oRes tb so n nm pr k c sz op = R) : ((∀ e, e < R.2.2.1 → 1 ≤ (R.2.2.2.1 e).length ∧ (R.2.2.2.2.1 e).Nodup ∧ ∀ p ∈ R.2.2.2.2.1 e, 0 ≤ p.2) ∧ ∀ i j, i < R.2.2.1 → j < R.2.2.1 → R.2.2.2.1 i = R.2.2.2.1 j → i = j) := by
  subst hR
  unfold oRes
  split
  · exact h
  · split
    · exact h
    · split
      · -- modifying
        show ((∀ e, e < n → 1 ≤ (nm e).length ∧ ((moF pr (opJ so tb (acS tb true c sz) (fun l cs => moK n nm pr l cs)).2) e).Nodup ∧ ∀ p ∈ (moF pr (opJ so tb (acS tb true c sz) (fun l cs => moK n nm pr l cs)).2) e, 0 ≤ p.2) ∧ ∀ i j, i < n → j < n → nm i = nm j → i = j)
        cases hK : (opJ so tb (acS tb true c sz) (fun l cs => moK n nm pr l cs)).2 with
        | none => exact h
        | some a =>
          obtain ⟨e, p⟩ := a
          obtain ⟨x2, y2, cs, l, hq, _, _, hf⟩ := opJ_go hK
          obtain ⟨he, hp⟩ := moK_some hf
          have hg : gd p := by rw [hp]; exact apl_gd cs _ ⟨(h.1 e he).2.1, (h.1 e he).2.2⟩ (ac_nn htb hq)
          refine ⟨fun i hi => ?_, h.2⟩
          show 1 ≤ (nm i).length ∧ (if i = e then p else pr i).Nodup ∧ ∀ q ∈ (if i = e then p else pr i), 0 ≤ q.2
          by_cases hie : i = e
          · rw [if_pos hie]; exact ⟨(h.1 i hi).1, hg.1, hg.2⟩
          · rw [if_neg hie]; exact h.1 i hi
      · split
        · -- adding
          show ((∀ e, e < (adN n (opJ so tb (acS tb false c sz) (fun l cs => adK n nm l cs)).2) → 1 ≤ ((adF n (fun _ => (opN tb (acS tb false c sz)).getD []) nm (opJ so tb (acS tb false c sz) (fun l cs => adK n nm l cs)).2) e).length ∧ ((adF n (fun p => p) pr (opJ so tb (acS tb false c sz) (fun l cs => adK n nm l cs)).2) e).Nodup ∧ ∀ p ∈ (adF n (fun p => p) pr (opJ so tb (acS tb false c sz) (fun l cs => adK n nm l cs)).2) e, 0 ≤ p.2) ∧ ∀ i j, i < (adN n (opJ so tb (acS tb false c sz) (fun l cs => adK n nm l cs)).2) → j < (adN n (opJ so tb (acS tb false c sz) (fun l cs => adK n nm l cs)).2) → (adF n (fun _ => (opN tb (acS tb false c sz)).getD []) nm (opJ so tb (acS tb false c sz) (fun l cs => adK n nm l cs)).2) i = (adF n (fun _ => (opN tb (acS tb false c sz)).getD []) nm (opJ so tb (acS tb false c sz) (fun l cs => adK n nm l cs)).2) j → i = j)
          cases hK : (opJ so tb (acS tb false c sz) (fun l cs => adK n nm l cs)).2 with
          | none => exact h
          | some p =>
            obtain ⟨x2, y2, cs, l, hq, hl, hl1, hf⟩ := opJ_go hK
            obtain ⟨hfd, hp⟩ := adK_some hf
            have hg : gd p := by rw [hp]; exact apl_gd cs _ ⟨List.nodup_nil, fun p hp => absurd hp (List.not_mem_nil)⟩ (ac_nn htb hq)
            have hgl : (opN tb (acS tb false c sz)).getD [] = l := by rw [hl]; rfl
            rw [hgl]
            have hno := fd_none hfd
            refine ⟨fun i hi => ?_, fun i j hi hj hij => ?_⟩
            · have hi : i < n + 1 := hi
              show 1 ≤ (if i = n then l else nm i).length ∧ (if i = n then p else pr i).Nodup ∧ ∀ q ∈ (if i = n then p else pr i), 0 ≤ q.2
              by_cases hie : i = n
              · rw [if_pos hie, if_pos hie]; exact ⟨hl1, hg.1, hg.2⟩
              · rw [if_neg hie, if_neg hie]; exact h.1 i (by omega)
            · have hi : i < n + 1 := hi
              have hj : j < n + 1 := hj
              have hij : (if i = n then l else nm i) = (if j = n then l else nm j) := hij
              by_cases h1 : i = n
              · by_cases h2 : j = n
                · omega
                · rw [if_pos h1, if_neg h2] at hij
                  exact absurd hij.symm (hno j (by omega) (by omega))
              · by_cases h2 : j = n
                · rw [if_neg h1, if_pos h2] at hij
                  exact absurd hij (hno i (by omega) (by omega))
                · rw [if_neg h1, if_neg h2] at hij
                  exact h.2 i j (by omega) (by omega) hij
        · -- deleting
          show ((∀ e, e < (dn n (dlC so n nm (nmS tb c sz)).2) → 1 ≤ ((fun i => nm (dr n (dlC so n nm (nmS tb c sz)).2 i)) e).length ∧ ((fun i => pr (dr n (dlC so n nm (nmS tb c sz)).2 i)) e).Nodup ∧ ∀ p ∈ (fun i => pr (dr n (dlC so n nm (nmS tb c sz)).2 i)) e, 0 ≤ p.2) ∧ ∀ i j, i < (dn n (dlC so n nm (nmS tb c sz)).2) → j < (dn n (dlC so n nm (nmS tb c sz)).2) → (fun i => nm (dr n (dlC so n nm (nmS tb c sz)).2 i)) i = (fun i => nm (dr n (dlC so n nm (nmS tb c sz)).2 i)) j → i = j)
          cases hK : (dlC so n nm (nmS tb c sz)).2 with
          | none => exact h
          | some e =>
            have he := dlC_some hK
            have hlt : ∀ i, i < n - 1 → rot n e i < n := by
              intro i hi
              unfold rot
              by_cases h1 : i < e
              · rw [if_pos h1]; omega
              · rw [if_neg h1, if_pos hi]; omega
            refine ⟨fun i hi => h.1 _ (hlt i hi), fun i j hi hj hij => ?_⟩
            exact rot_in he (h.2 _ _ (hlt i hi) (hlt j hj) hij)
set_option maxRecDepth 100000 in
set_option maxHeartbeats 4000000 in
theorem y_Dk_handleC (d : Nat) {μ : kc_M} {so : Bool} (h0 : μ.1 0 = some (ce_Dk false so)) : kc_Y kt kC (d + 20) j_Dk_handle [.ref 0] μ (fun v μ' => v = some (.int (-1)) ∧ μ' = μ) := by
  refine ⟨Nat.le_of_ble_eq_true rfl, ?_⟩
  refine x_al c_Dk_handle_0 rfl ?_
  refine x_get c_Dk_handle_1 (by first | rfl | exact h0) rfl ?_
  refine x_if_ne c_Dk_handle_4 (fun h => absurd (rfl) h) (fun _ => ?_)
  refine x_ci c_Dk_handle_7 ?_
  refine x_ri c_Dk_handle_8 ?_
  exact ⟨rfl, rfl⟩
set_option maxRecDepth 100000 in
set_option maxHeartbeats 4000000 in
theorem y_Md_handleC (d : Nat) {μ : kc_M} {s : Nat → Int32} (h0 : μ.1 136 = some (ce_Md s)) (hs0 : s 0 = bI true) : kc_Y kt kC (d + 10) j_Md_handle [.ref 136] μ (fun v μ' => v = some (.int (-1)) ∧ μ' = μ) := by
  refine ⟨Nat.le_of_ble_eq_true rfl, ?_⟩
  refine x_al c_Md_handle_0 rfl ?_
  refine x_getE c_Md_handle_1 (by first | rfl | exact h0) rfl (by first | exact hs0 | rfl) ?_
  refine x_if_eq c_Md_handle_4 (fun h => absurd h (by decide)) (fun _ => ?_)
  refine x_ci c_Md_handle_7 ?_
  refine x_ri c_Md_handle_8 ?_
  exact ⟨rfl, rfl⟩
set_option maxRecDepth 100000 in
set_option maxHeartbeats 4000000 in
theorem y_Dk_handleN (d : Nat) {μ : kc_M} {so : Bool} {tb : Nat → Nat} {sz : Nat} {w : Nat → Int32} {wn n : Nat} {ad : Nat → Nat} {nm pr : Nat → List tv} (hC : CI μ true so tb sz w wn n ad nm pr) (htb : ∀ j, tb j < 256) (hsz : sz ≤ 200) (hno : ∀ i b c, msg tb sz = some (i, b, c) → ¬ isOp (tb b)) : kc_Y kt kC (d + 20) j_Dk_handle [.ref 0] μ (fun v μ' => v = some (.int (-1)) ∧ μ'.1 0 = some (ce_Dk false false) ∧ (∃ at_ en wr id sf st, rd_at μ' tb 0 at_ en wr id sf st) ∧ wL μ' [] ∧ tr_at μ' n ad nm pr ∧ sc_at μ' ∧ ∀ q, 136 ≤ q → μ'.1 q = μ.1 q) := by
  refine ⟨Nat.le_of_ble_eq_true rfl, ?_⟩
  obtain ⟨h0, ⟨at_, en, wr, id0, sf, st, hrd⟩, hwr, ht, hsc⟩ := hC
  have fin : ∀ (μ1 : kc_M), μ1.1 0 = some (ce_Dk true so) → (∃ a1 a2 a3 a4 a5 a6, rd_at μ1 tb sz a1 a2 a3 a4 a5 a6) → wL μ1 [] → tr_at μ1 n ad nm pr → sc_at μ1 → (∀ q, 136 ≤ q → μ1.1 q = μ.1 q) → kc_X (kC j_Dk_handle) (kc_Y kt kC (d + 19)) (fun v μ' => v = some (.int (-1)) ∧ μ'.1 0 = some (ce_Dk false false) ∧ (∃ at_ en wr id sf st, rd_at μ' tb 0 at_ en wr id sf st) ∧ wL μ' [] ∧ tr_at μ' n ad nm pr ∧ sc_at μ' ∧ ∀ q, 136 ≤ q → μ'.1 q = μ.1 q) 131 [some (.ref 0), some (.int (-1)), some (.int (-1))] [] μ1 (0, 0) := by
    intro μ1 b0 hr hw ht hsc hf
    obtain ⟨a1, a2, a3, a4, a5, a6, ar⟩ := hr
    refine x_al c_Dk_handle_131 rfl ?_
    refine x_ci c_Dk_handle_132 ?_
    refine x_put [_, _, _, _, _, _, _, _, _, _] c_Dk_handle_133 (by first | rfl | exact b0 | exact rfl | exact ar.1 | exact d3) ⟨Nat.le_of_ble_eq_true rfl, by first | decide | exact kz_n _, by first | decide | exact kz_f _⟩ rfl ?_
    refine x_al c_Dk_handle_136 rfl ?_
    refine x_ci c_Dk_handle_137 ?_
    refine x_put [_, _, _, _, _, _, _, _, _, _] c_Dk_handle_138 (by first | rfl | exact b0 | exact rfl | exact ar.1 | exact d3) ⟨Nat.le_of_ble_eq_true rfl, by first | decide | exact kz_n _, by first | decide | exact kz_f _⟩ rfl ?_
    refine x_al c_Dk_handle_141 rfl ?_
    refine x_get c_Dk_handle_142 (by first | rfl | exact b0 | exact rfl | exact ar.1 | exact d3) rfl ?_
    refine x_cv0z _ c_Dk_handle_145 (by first | rfl | exact b0 | exact rfl | exact ar.1 | exact d3) (Nat.le_of_ble_eq_true rfl) (y_Rd_clear (d + 18) (μ := kc_u (kc_u μ1 0 _) 0 _) (by exact ar.1)) ?_
    rintro _ μ3 ⟨rfl, c1, cf⟩
    have d3 := (cf 0 (by decide)).trans kc_gs
    show kc_X _ _ _ _ _ [] _ _
    refine x_al c_Dk_handle_148 rfl ?_
    refine x_get c_Dk_handle_149 (by first | rfl | exact b0 | exact rfl | exact ar.1 | exact d3) rfl ?_
    refine x_if_eq c_Dk_handle_152 (fun _ => ?_) (fun h => absurd (rfl) h)
    refine x_il c_Dk_handle_161 rfl ?_
    refine x_ri c_Dk_handle_162 ?_
    exact ⟨rfl, d3, ⟨_, _, _, _, _, _, c1, (cf 2 (by decide)).trans ((kc_gf (by decide)).trans ((kc_gf (by decide)).trans ar.2))⟩, wL_k hw ((cf 3 (by decide)).trans ((kc_gf (by decide)).trans (kc_gf (by decide)))) ((cf 4 (by decide)).trans ((kc_gf (by decide)).trans (kc_gf (by decide)))), tr_k ht (fun q q1 q2 => (cf q (by omega)).trans ((kc_gf (by omega)).trans (kc_gf (by omega)))), sc_k hsc (fun q q1 q2 => (cf q (by omega)).trans ((kc_gf (by omega)).trans (kc_gf (by omega)))), fun q q1 => (cf q (by omega)).trans ((kc_gf (by omega)).trans ((kc_gf (by omega)).trans (hf q q1)))⟩
  refine x_al c_Dk_handle_0 rfl ?_
  refine x_get c_Dk_handle_1 (by first | rfl | exact h0 | exact d0 | exact hwr.1 | exact hrd1.1) rfl ?_
  refine x_if_ne c_Dk_handle_4 (fun _ => ?_) (fun h => absurd h (by decide))
  refine x_al c_Dk_handle_9 rfl ?_
  refine x_get c_Dk_handle_10 (by first | rfl | exact h0 | exact d0 | exact hwr.1 | exact hrd1.1) rfl ?_
  refine x_cv0z _ c_Dk_handle_13 (by first | rfl | exact h0 | exact d0 | exact hwr.1 | exact hrd1.1) (Nat.le_of_ble_eq_true rfl) (y_Wr_clear (d + 18) hwr) ?_
  rintro _ μ0 ⟨rfl, cw⟩
  have d0 := (cw.2 0 (by decide) (by decide)).trans h0
  have hrd1 : rd_at μ0 tb sz at_ en wr id0 sf st := ⟨(cw.2 1 (by decide) (by decide)).trans hrd.1, (cw.2 2 (by decide) (by decide)).trans hrd.2⟩
  show kc_X _ _ _ _ _ [] _ _
  refine x_ci c_Dk_handle_16 ?_
  refine x_is [_, _, _] c_Dk_handle_17 rfl ?_
  refine x_ci c_Dk_handle_18 ?_
  refine x_is [_, _, _] c_Dk_handle_19 rfl ?_
  refine x_al c_Dk_handle_20 rfl ?_
  refine x_get c_Dk_handle_21 (by first | rfl | exact h0 | exact d0 | exact hwr.1 | exact hrd1.1) rfl ?_
  refine x_cv0z _ c_Dk_handle_24 (by first | rfl | exact h0 | exact d0 | exact hwr.1 | exact hrd1.1) (Nat.le_of_ble_eq_true rfl) (y_Rd_readFrame (d + 15) hrd1 htb hsz) ?_
  rintro v μ1 ⟨hr1, g1, hor⟩
  have b0 := (g1 0 (by decide)).trans d0
  have f1 : ∀ q, 136 ≤ q → μ1.1 q = μ.1 q := fun q q1 => (g1 q (by omega)).trans (cw.2 q (by omega) (by omega))
  have ht1 := tr_k ht (μ' := μ1) (fun q q1 q2 => (g1 q (by omega)).trans (cw.2 q (by omega) (by omega)))
  have hsc1 := sc_k hsc (μ' := μ1) (fun q q1 q2 => (g1 q (by omega)).trans (cw.2 q (by omega) (by omega)))
  have hw1 : wL μ1 [] := wL_k cw.1 (g1 3 (by decide)) (g1 4 (by decide))
  rcases hor with ⟨hG, rfl, x', y', k1⟩ | ⟨hG, rfl⟩
  · have hms : ∃ i b c, msg tb sz = some (i, b, c) := by
      cases hm : msg tb sz with
      | none => exact absurd hG (fr_no htb hsz hm)
      | some q => exact ⟨q.1, q.2.1, q.2.2, rfl⟩
    obtain ⟨i, b, c, hmsg⟩ := hms
    obtain ⟨_, hv, hT, hc9⟩ := fr_ok htb (sf := sf) (st := st) hmsg
    rw [hT]
    have hio := hno i b c hmsg
    have h256 := htb b
    have hne : ∀ k, k < 2 ^ 31 → tb b ≠ k → ¬ nI (tb b) = nI k := fun k hk hh q => hh ((nI_eq (by omega) hk).mp q)
    have n1 : tb b ≠ 74 ∧ tb b ≠ 96 ∧ tb b ≠ 99 ∧ tb b ≠ 102 ∧ tb b ≠ 104 := by unfold isOp at hio; omega
    show kc_X _ _ _ _ _ [.int (nI (tb b))] _ _
    refine x_sw 131 c_Dk_handle_27 ((if_neg (hne 74 (by decide) n1.1)).trans ((if_neg (hne 96 (by decide) n1.2.1)).trans ((if_neg (hne 99 (by decide) n1.2.2.1)).trans ((if_neg (hne 102 (by decide) n1.2.2.2.1)).trans (if_neg (hne 104 (by decide) n1.2.2.2.2)))))) ?_
    exact fin μ1 b0 hr1 hw1 ht1 hsc1 f1
  · show kc_X _ _ _ _ _ [.int (-1)] _ _
    refine x_sw 131 c_Dk_handle_27 (rfl) ?_
    exact fin μ1 b0 hr1 hw1 ht1 hsc1 f1
set_option maxRecDepth 100000 in
set_option maxHeartbeats 4000000 in
theorem y_Md_handleN (d : Nat) {μ : kc_M} {s : Nat → Int32} (h0 : μ.1 136 = some (ce_Md s)) (hs0 : s 0 = bI false) {sz : Nat} (hs3 : s 3 = nI sz) {tb : Nat → Nat} (h137 : μ.1 137 = some (ce_I 200 (fun j => nI (tb j)))) (htb : ∀ j, tb j < 256) (hsz : sz ≤ 200) (hno : ∀ i b c, msg tb sz = some (i, b, c) → ¬ isOp (tb b)) : kc_Y kt kC (d + 10) j_Md_handle [.ref 136] μ (fun v μ' => v = some (.int (-1)) ∧ ∃ s', μ'.1 136 = some (ce_Md s') ∧ s' 0 = bI true ∧ s' 1 = bI false ∧ s' 3 = nI 0 ∧ s' 5 = nI 0 ∧ (∀ i, i ∉ [0, 1, 3, 5, 13, 14, 15, 16, 17, 18, 19] → s' i = s i) ∧ ∀ q, q ≠ 136 → μ'.1 q = μ.1 q) := by
  refine ⟨Nat.le_of_ble_eq_true rfl, ?_⟩
  refine x_al c_Md_handle_0 rfl ?_
  refine x_getE c_Md_handle_1 (by first | rfl | exact h0 | exact rfl | exact kc_gs) rfl (by first | exact hs0 | rfl) ?_
  refine x_if_eq c_Md_handle_4 (fun _ => ?_) (fun h => absurd (rfl) h)
  refine x_al c_Md_handle_9 rfl ?_
  refine x_ci c_Md_handle_10 ?_
  refine x_putM c_Md_handle_11 (by first | rfl | exact h0 | exact rfl | exact kc_gs) ⟨by decide, rfl, rfl⟩ rfl ?_
  refine x_al c_Md_handle_14 rfl ?_
  refine x_cv0z _ c_Md_handle_15 (by first | rfl | exact h0 | exact rfl | exact kc_gs) (Nat.le_of_ble_eq_true rfl) (y_Md_isMessage (d + 5) (μ := kc_u μ 136 (ce_Md (upd s 5 (nI 0)))) (s := upd s 5 (nI 0)) kc_gs (by exact h137) htb (sz := sz) hs3 hsz) ?_
  rintro v μ1 ⟨s1, hc1, ⟨i', b', c', hm', hio, rfl, e16, e17, e18, e19⟩ | ⟨_, rfl⟩⟩
  · exact absurd hio (hno _ _ _ hm')
  · show kc_X _ _ _ _ _ [.int (bI false)] _ _
    refine x_if_ne c_Md_handle_18 (fun h => absurd (rfl) h) (fun _ => ?_)
    refine x_al c_Md_handle_21 rfl ?_
    refine x_ci c_Md_handle_22 ?_
    refine x_putM c_Md_handle_23 (by first | rfl | exact hc1.1 | exact rfl) ⟨by decide, by first | decide | exact kz_n _, by first | decide | exact kz_f _⟩ rfl ?_
    refine x_al c_Md_handle_26 rfl ?_
    refine x_ci c_Md_handle_27 ?_
    refine x_putM c_Md_handle_28 (by first | rfl | exact hc1.1 | exact rfl) ⟨by decide, by first | decide | exact kz_n _, by first | decide | exact kz_f _⟩ rfl ?_
    refine x_al c_Md_handle_31 rfl ?_
    refine x_ci c_Md_handle_32 ?_
    refine x_putM c_Md_handle_33 (by first | rfl | exact hc1.1 | exact rfl) ⟨by decide, rfl, rfl⟩ rfl ?_
    refine x_ci c_Md_handle_36 ?_
    refine x_ri c_Md_handle_37 ?_
    exact ⟨rfl, _, kc_gs, rfl, rfl, rfl, (hc1.2.1 5 (by decide)).trans rfl, fun i hi => (by simp only [List.mem_cons, List.not_mem_nil, or_false, not_or] at hi; exact (if_neg hi.2.2.1).trans ((if_neg hi.2.1).trans ((if_neg hi.1).trans ((hc1.2.1 i (by simp only [List.mem_cons, List.not_mem_nil, or_false, not_or]; omega)).trans (if_neg hi.2.2.2.1))))), fun q q1 => (kc_gf q1).trans ((kc_gf q1).trans ((kc_gf q1).trans ((hc1.2.2 q q1).trans (kc_gf q1))))⟩
theorem ms_kk {μ μ' : kc_M} (h : ms_at μ) (hk : ∀ q, q ≠ 136 → μ'.1 q = μ.1 q) : ms_at μ' := by
  have hr := ms_r h
  exact ms_g h (fun q q1 q2 q3 => hk q (by omega)) (ex_f hr.1 (hk _ (by decide))) (ex_l hr.2.1 (hk _ (by decide))) (ex_f hr.2.2.1 (hk _ (by decide))) (ex_f hr.2.2.2.1 (hk _ (by decide))) (ex_l hr.2.2.2.2 (hk _ (by decide)))
theorem msg_in {tb : Nat → Nat} {sz : Nat} {i : Int32} {b c : Nat} (h : msg tb sz = some (i, b, c)) : ¬ i < 0 ∧ c ≤ sz := by
  obtain ⟨x, a, h1, h2, h3, h4, h5⟩ := msg_ok h
  have := el_in h5
  exact ⟨by rw [h4]; exact Int32.not_lt.mpr h3, by omega⟩
set_option maxHeartbeats 4000000 in
theorem o_handle : op_i Inv Inv j_Dk_handle j_Md_handle [] := by
  intro μ ⟨lo, so, tb, sz, w, wn, n, ad, nm, pr, hC, hM, hW⟩
  obtain ⟨s, ou, pa, pt, pv, pn, qt, qv, a1, a2, a3, a4, a5, a6, a7, a8, a9, a10⟩ := id hM
  cases lo with
  | false =>
    refine ⟨_, y_Dk_handleC 20 hC.1, ?_⟩
    rintro _ _ ⟨rfl, rfl⟩
    refine ⟨-1, rfl, MI_s hM, ?_⟩
    refine ⟨_, y_Md_handleC 30 a1 a2, ?_⟩
    rintro _ _ ⟨rfl, rfl⟩
    exact ⟨rfl, false, so, tb, sz, w, wn, n, ad, nm, pr, hC, hM, hW⟩
  | true =>
    have htb := hW.1
    have hsz := hW.2.1
    have hn16 := hW.2.2.2.1
    have hWe := hW.2.2.2.2
    have hgd : ∀ e, e < n → gd (pr e) := fun e he => ⟨(hWe.1 e he).2.1, (hWe.1 e he).2.2⟩
    have hE : mE μ tb ou n nm pr := by
      refine ⟨pa, pt, pv, pn, qt, qv, a7, a8, hn16, fun e he => ?_⟩
      have h9 := hC.2.2.2.1.2.2.1 e (by omega)
      obtain ⟨_, _, _, _, _, _, x1⟩ := h9.2.1
      obtain ⟨_, _, _, _, _, _, x2⟩ := h9.2.2
      exact ⟨x1, x2⟩
    by_cases hno : ∀ i b c, msg tb sz = some (i, b, c) → ¬ isOp (tb b)
    · refine ⟨_, y_Dk_handleN 20 hC htb hsz hno, ?_⟩
      rintro _ μ1 ⟨rfl, b0, bR, bw, bt, bsc, bf⟩
      refine ⟨-1, rfl, ⟨s, (bf 136 (by omega)).trans a1⟩, ?_⟩
      have c7 := mr_k a7 (μ' := μ1) (fun q hq => bf q (by omega))
      refine ⟨_, y_Md_handleN 30 ((bf 136 (by omega)).trans a1) a2 a4 c7.1 htb hsz hno, ?_⟩
      rintro _ μ2 ⟨rfl, s', d0, d1, d2, d3, d5, dk, df⟩
      obtain ⟨w', ⟨w1, w2⟩, _⟩ := bw
      have hC1 : CI μ1 false false tb 0 w' 0 n ad nm pr := ⟨b0, bR, ⟨w1, w2⟩, bt, bsc⟩
      refine ⟨rfl, false, false, tb, 0, w', 0, n, ad, nm, pr, CI_k hC1 (fun q hq => df q (by omega)), ?_, htb, by omega, by omega, hn16, hWe⟩
      obtain ⟨k9, k10, k11⟩ := a10.2
      exact ⟨s', ou, pa, pt, pv, pn, qt, qv, d0, d1, d2, d3, d5, (dk 6 (by decide)).trans a6, mr_k c7 (fun q hq => df q (by omega)), a8, ms_kk (ms_k a9 bf) (fun q q1 => df q q1), fun k hk => absurd hk (Nat.not_lt_zero _), k9, k10, (dk 20 (by decide)).trans k11⟩
    · have hex : ∃ i b c, msg tb sz = some (i, b, c) ∧ isOp (tb b) := Classical.byContradiction (fun q => hno (fun i b c h1 h2 => q ⟨i, b, c, h1, h2⟩))
      obtain ⟨i, b, c, hmsg, hio⟩ := hex
      obtain ⟨hi0, hcs⟩ := msg_in hmsg
      obtain ⟨hik, hk31⟩ := liN_i hi0
      rw [← hik] at hmsg
      generalize liN i = k at hmsg hk31
      have fin : ∀ (R : ORes) (μ1 μ2 : kc_M) (op : Nat), oRes tb so n nm pr k c sz op = R → μ1.1 0 = some (ce_Dk true R.2.1) → (∃ at_ en wr id sf st, rd_at μ1 tb 0 at_ en wr id sf st) → wL μ1 (oAll R k op) → (oAll R k op).length ≤ 400 → (∃ ad', tr_at μ1 R.2.2.1 ad' R.2.2.2.1 R.2.2.2.2.1) → sc_at μ1 → rFi μ1 μ2 tb k op R → Inv μ2 := by
        intro R μ1 μ2 op hR b0 bR bw bl ⟨ad', bt⟩ bsc rF
        have hWR := oRes_w htb hWe R hR
        obtain ⟨s', d0, d1, d2, d3, d6, ⟨ou', pa', pt', pv', pn', qt', qv', e7, e8, e16, _⟩, ⟨g5, _, ou2, g138, gL⟩, dms, d20, df⟩ := rF
        obtain ⟨w', ⟨w1, w2⟩, w3, _⟩ := bw
        have hC1 : CI μ1 true R.2.1 tb 0 w' (oAll R k op).length R.2.2.1 ad' R.2.2.2.1 R.2.2.2.2.1 := ⟨b0, bR, ⟨w1, w2⟩, bt, bsc⟩
        have hou : ou' = ou2 := by
          have h1 := e7.2.1.symm.trans g138
          injection h1 with h1
          injection h1 with h1
          injection h1 with h1 h2
          injection h2
        refine ⟨true, R.2.1, tb, 0, w', (oAll R k op).length, R.2.2.1, ad', R.2.2.2.1, R.2.2.2.2.1, CI_k hC1 df, ?_, htb, by omega, bl, e16, hWR⟩
        refine ⟨s', ou', pa', pt', pv', pn', qt', qv', d0, d1, d2, d3, g5, d6, e7, e8, dms, fun j hj => ?_, d20⟩
        have h1 := gL j hj
        have h2 := w3 j hj
        rw [hou]
        exact Option.some.inj (h1.symm.trans h2)
      rcases hio with hop | hop | hop | hop | hop
      · refine ⟨_, y_Dk_handle96 20 hC htb hsz hgd hk31 hmsg hcs hop, ?_⟩
        rintro _ μ1 ⟨rfl, c256, b0, bR, bw, bl, ⟨ad', bt⟩, bsc, bf⟩
        refine ⟨_, rfl, ⟨s, (bf 136 (by omega)).trans a1⟩, ?_⟩
        refine ⟨_, y_Md_handle96 30 ((bf 136 (by omega)).trans a1) a2 a3 a4 a6 (mE_k hE (fun q q1 q2 => bf q (by omega))) (ms_k a9 bf) a10.2 htb hsz hgd (fun e he => (hWe.1 e he).1) hWe.2 hk31 hmsg hcs hop, ?_⟩
        rintro _ μ2 ⟨rfl, rF⟩
        exact ⟨rfl, fin _ μ1 μ2 96 rfl b0 bR bw bl ⟨ad', bt⟩ bsc rF⟩
      · refine ⟨_, y_Dk_handle99 20 hC htb hsz hgd hk31 hmsg hcs hop, ?_⟩
        rintro _ μ1 ⟨rfl, c256, b0, bR, bw, bl, ⟨ad', bt⟩, bsc, bf⟩
        refine ⟨_, rfl, ⟨s, (bf 136 (by omega)).trans a1⟩, ?_⟩
        refine ⟨_, y_Md_handle99 30 ((bf 136 (by omega)).trans a1) a2 a3 a4 a6 (mE_k hE (fun q q1 q2 => bf q (by omega))) (ms_k a9 bf) a10.2 htb hsz hgd (fun e he => (hWe.1 e he).1) hWe.2 hk31 hmsg hcs hop, ?_⟩
        rintro _ μ2 ⟨rfl, rF⟩
        exact ⟨rfl, fin _ μ1 μ2 99 rfl b0 bR bw bl ⟨ad', bt⟩ bsc rF⟩
      · refine ⟨_, y_Dk_handle102 20 hC htb hsz hgd hk31 hmsg hcs hop, ?_⟩
        rintro _ μ1 ⟨rfl, c256, b0, bR, bw, bl, ⟨ad', bt⟩, bsc, bf⟩
        refine ⟨_, rfl, ⟨s, (bf 136 (by omega)).trans a1⟩, ?_⟩
        refine ⟨_, y_Md_handle102 30 ((bf 136 (by omega)).trans a1) a2 a3 a4 a6 (mE_k hE (fun q q1 q2 => bf q (by omega))) (ms_k a9 bf) a10.2 htb hsz hgd (fun e he => (hWe.1 e he).1) hWe.2 hk31 hmsg hcs hop, ?_⟩
        rintro _ μ2 ⟨rfl, rF⟩
        exact ⟨rfl, fin _ μ1 μ2 102 rfl b0 bR bw bl ⟨ad', bt⟩ bsc rF⟩
      · refine ⟨_, y_Dk_handle104 20 hC htb hsz hgd hk31 hmsg hcs hop, ?_⟩
        rintro _ μ1 ⟨rfl, c256, b0, bR, bw, bl, ⟨ad', bt⟩, bsc, bf⟩
        refine ⟨_, rfl, ⟨s, (bf 136 (by omega)).trans a1⟩, ?_⟩
        refine ⟨_, y_Md_handle104 30 ((bf 136 (by omega)).trans a1) a2 a3 a4 a6 (mE_k hE (fun q q1 q2 => bf q (by omega))) (ms_k a9 bf) a10.2 htb hsz hgd (fun e he => (hWe.1 e he).1) hWe.2 hk31 hmsg hcs hop, ?_⟩
        rintro _ μ2 ⟨rfl, rF⟩
        exact ⟨rfl, fin _ μ1 μ2 104 rfl b0 bR bw bl ⟨ad', bt⟩ bsc rF⟩
      · refine ⟨_, y_Dk_handle74 20 hC htb hsz hgd hk31 hmsg hcs hop, ?_⟩
        rintro _ μ1 ⟨rfl, c256, b0, bR, bw, bl, ⟨ad', bt⟩, bsc, bf⟩
        refine ⟨_, rfl, ⟨s, (bf 136 (by omega)).trans a1⟩, ?_⟩
        refine ⟨_, y_Md_handle74 30 ((bf 136 (by omega)).trans a1) a2 a3 a4 a6 (mE_k hE (fun q q1 q2 => bf q (by omega))) (ms_k a9 bf) a10.2 htb hsz hgd (fun e he => (hWe.1 e he).1) hWe.2 hk31 hmsg hcs hop, ?_⟩
        rintro _ μ2 ⟨rfl, rF⟩
        exact ⟨rfl, fin _ μ1 μ2 74 rfl b0 bR bw bl ⟨ad', bt⟩ bsc rF⟩
