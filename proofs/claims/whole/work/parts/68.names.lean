/-! names: their parts in the text from p to e -/
abbrev pOK (tb : Nat → Nat) (p x : Nat) : Prop := 3 ≤ x - p ∧ (97 ≤ tb p ∧ tb p ≤ 102) ∧ tb (p + 1) = 61 ∧ ¬ vlS tb (p + 2) x = -1
abbrev pTV (tb : Nat → Nat) (p x : Nat) : tv := (nI (tb p), vlS tb (p + 2) x)
/-- at most n parts more -/
def pn (tb : Nat → Nat) (e : Nat) : Nat → Nat → Option (List tv)
  | 0, _ => none
  | n + 1, p => if pOK tb p (nx tb (e - p) p) then (if nx tb (e - p) p = e then some [pTV tb p e] else (pn tb e n (nx tb (e - p) p + 1)).map (fun l => pTV tb p (nx tb (e - p) p) :: l)) else none
def nmS (tb : Nat → Nat) (s e : Nat) : Option (List tv) := if s = e then some [] else pn tb e 4 s
theorem pn_s (tb : Nat → Nat) (e n p : Nat) : pn tb e (n + 1) p = if pOK tb p (nx tb (e - p) p) then (if nx tb (e - p) p = e then some [pTV tb p e] else (pn tb e n (nx tb (e - p) p + 1)).map (fun l => pTV tb p (nx tb (e - p) p) :: l)) else none := rfl
theorem pn_e (tb : Nat → Nat) (e n : Nat) : pn tb e n e = none := by
  cases n with
  | zero => rfl
  | succ n =>
    rw [pn_s, Nat.sub_self, if_neg]
    rintro ⟨h, _⟩
    have : nx tb 0 e = e := rfl
    omega
theorem tyI_m1 {b : Nat} (hb : b < 256) : tyI b = -1 ↔ ¬ (97 ≤ b ∧ b ≤ 102) := by
  unfold tyI
  split
  · rename_i h
    exact ⟨fun q => absurd q (nI_nm1 (by omega)), fun q => absurd h q⟩
  · rename_i h
    exact ⟨fun _ => h, fun _ => rfl⟩
/-- what remains of a name's reading: l is read, p is next -/
def pR (tb : Nat → Nat) (e m p : Nat) (l : List tv) : Option (List tv) := if p = e + 1 then some l else (pn tb e m p).map (fun q => l ++ q)
theorem pR_s {tb : Nat → Nat} {e m p : Nat} {l : List tv} (hp : p ≤ e) (h : pOK tb p (nx tb (e - p) p)) : pR tb e (m + 1) p l = pR tb e m (nx tb (e - p) p + 1) (l ++ [pTV tb p (nx tb (e - p) p)]) := by
  unfold pR
  rw [if_neg (by omega), pn_s, if_pos h]
  by_cases hx : nx tb (e - p) p = e
  · rw [if_pos hx, if_pos (by omega), hx]
    rfl
  · rw [if_neg hx, if_neg (by omega), Option.map_map]
    congr 1
    funext q
    simp
theorem pR_f {tb : Nat → Nat} {e m p : Nat} {l : List tv} (hp : p ≤ e) (h : ¬ pOK tb p (nx tb (e - p) p)) : pR tb e (m + 1) p l = none := by
  unfold pR
  rw [if_neg (by omega), pn_s, if_neg h]
  rfl
theorem pR_e {tb : Nat → Nat} {e m : Nat} {l : List tv} : pR tb e m e l = none := by
  unfold pR
  rw [if_neg (by omega), pn_e]
  rfl
theorem pR_0 {tb : Nat → Nat} {e p : Nat} {l : List tv} (hp : p ≠ e + 1) : pR tb e 0 p l = none := by
  unfold pR
  rw [if_neg hp]
  rfl
theorem pR_d {tb : Nat → Nat} {e m : Nat} {l : List tv} : pR tb e m (e + 1) l = some l := by
  unfold pR
  rw [if_pos rfl]
theorem nmS_R {tb : Nat → Nat} {s e : Nat} (h : s ≤ e) (hs : s ≠ e) : nmS tb s e = pR tb e 4 s [] := by
  unfold nmS pR
  rw [if_neg hs, if_neg (by omega)]
  simp
/-- the class's target holds a name, or none -/
def tg_at (μ : kc_M) : Option (List tv) → Prop
  | some l => nm_at μ 119 120 121 l
  | none => ∃ f g, μ.1 119 = some (ce_Nm 120 121 (-1)) ∧ μ.1 120 = some (ce_I 4 f) ∧ μ.1 121 = some (ce_L 4 g)
set_option maxRecDepth 100000 in
set_option maxHeartbeats 4000000 in
theorem y_Nm_readPart (d : Nat) {μ : kc_M} {tb : Nat → Nat} {sz at_ en : Nat} {wr : Bool} {id : Int32} {sf st : Nat} (hr : rd_at μ tb sz at_ en wr id sf st) (htb : ∀ j, tb j < 256) {l : List tv} {p x : Nat} (hn : nm_at μ 119 120 121 l) (hl : l.length < 4) (hpx : p ≤ x) (hx : x ≤ 200) : kc_Y kt kC (d + 3) j_Nm_readPart [.ref 119, .ref 1, .int (nI p), .int (nI x)] μ (fun v μ' => ((pOK tb p x ∧ v = some (.int (bI true)) ∧ nm_at μ' 119 120 121 (l ++ [pTV tb p x])) ∨ (¬ pOK tb p x ∧ v = some (.int (bI false)) ∧ μ' = μ)) ∧ ∀ q, q ≠ 119 → q ≠ 120 → q ≠ 121 → μ'.1 q = μ.1 q) := by
  refine ⟨Nat.le_of_ble_eq_true rfl, ?_⟩
  refine x_il c_Nm_readPart_0 rfl ?_
  refine x_il c_Nm_readPart_1 rfl ?_
  first | refine x_isubN c_Nm_readPart_2 (by omega) ?_ | refine x_isub c_Nm_readPart_2 ?_
  refine x_ci c_Nm_readPart_3 ?_
  first | refine x_cmN_lt c_Nm_readPart_4 (by first | omega | exact tbl htb _) (by first | omega | exact tbl htb _) (fun h4 => ?_) (fun h4 => ?_) | refine x_cm_lt c_Nm_readPart_4 (fun h4 => ?_) (fun h4 => ?_)
  · refine x_ci c_Nm_readPart_20 ?_
    refine x_rz c_Nm_readPart_21 (by first | decide | exact kz_n _) ?_
    first | exact ⟨Or.inr ⟨fun hp => by omega, rfl, rfl⟩, fun _ _ _ _ => rfl⟩ | exact ⟨Or.inr ⟨fun hp => h17 hp.2.2.1, rfl, rfl⟩, fun _ _ _ _ => rfl⟩
  · refine x_al c_Nm_readPart_7 rfl ?_
    refine x_get c_Nm_readPart_8 (by first | rfl | exact hr.1 | exact hr.2 | exact (nm_c hn)) rfl ?_
    refine x_il c_Nm_readPart_11 rfl ?_
    refine x_ci c_Nm_readPart_12 ?_
    first | refine x_iaddN c_Nm_readPart_13 ?_ | refine x_iadd c_Nm_readPart_13 ?_
    refine x_ialdN c_Nm_readPart_14 (by first | rfl | exact hr.1 | exact hr.2 | exact (nm_c hn)) (by omega) (by omega) ?_
    refine x_ci c_Nm_readPart_15 ?_
    first | refine x_cmN_eq c_Nm_readPart_17 (by first | omega | exact tbl htb _) (by first | omega | exact tbl htb _) (fun h17 => ?_) (fun h17 => ?_) | refine x_cm_eq c_Nm_readPart_17 (fun h17 => ?_) (fun h17 => ?_)
    · refine x_al c_Nm_readPart_22 rfl ?_
      refine x_get c_Nm_readPart_23 (by first | rfl | exact hr.1 | exact hr.2 | exact (nm_c hn)) rfl ?_
      refine x_il c_Nm_readPart_26 rfl ?_
      refine x_ialdN c_Nm_readPart_27 (by first | rfl | exact hr.1 | exact hr.2 | exact (nm_c hn)) (by omega) (by omega) ?_
      refine x_cs1z _ c_Nm_readPart_28 (Nat.le_of_ble_eq_true rfl) (y_Rd_typeOf (d + 1) (htb _)) ?_
      rintro _ μx ⟨rfl, hμx⟩
      have hμx := hμx.symm
      subst hμx
      show kc_X _ _ _ _ _ [.int (tyI (tb p))] _ _
      refine x_is [_, _, _, _, _, _, _] c_Nm_readPart_31 rfl ?_
      refine x_al c_Nm_readPart_33 rfl ?_
      refine x_il c_Nm_readPart_34 rfl ?_
      refine x_ci c_Nm_readPart_35 ?_
      first | refine x_iaddN c_Nm_readPart_36 ?_ | refine x_iadd c_Nm_readPart_36 ?_
      refine x_il c_Nm_readPart_37 rfl ?_
      refine x_cv2z _ c_Nm_readPart_38 (by first | rfl | exact hr.1 | exact hr.2 | exact (nm_c hn)) (Nat.le_of_ble_eq_true rfl) (y_Rd_valueBetween d hr htb (by omega) hx) ?_
      rintro _ μx ⟨rfl, hμx⟩
      have hμx := hμx.symm
      subst hμx
      show kc_X _ _ _ _ _ [.long (vlS tb (p + 2) x)] _ _
      refine x_ls [_, _, _, _, _, _, _] c_Nm_readPart_41 rfl ?_
      refine x_il c_Nm_readPart_43 rfl ?_
      refine x_ci c_Nm_readPart_45 ?_
      refine x_cm_eq c_Nm_readPart_46 (fun h46 => ?_) (fun h46 => ?_)
      · refine x_ci c_Nm_readPart_58 ?_
        refine x_rz c_Nm_readPart_59 (by first | decide | exact kz_n _) ?_
        first | exact ⟨Or.inr ⟨fun hp => (tyI_m1 (htb p)).mp h46 hp.2.1, rfl, rfl⟩, fun _ _ _ _ => rfl⟩ | exact ⟨Or.inr ⟨fun hp => hp.2.2.2 h55, rfl, rfl⟩, fun _ _ _ _ => rfl⟩
      · refine x_ll c_Nm_readPart_49 rfl ?_
        refine x_cl c_Nm_readPart_51 ?_
        refine x_lcmp c_Nm_readPart_54 ?_
        refine x_ifL_ne c_Nm_readPart_55 (fun h55 => ?_) (fun h55 => ?_)
        · refine x_al c_Nm_readPart_60 rfl ?_
          refine x_il c_Nm_readPart_61 rfl ?_
          refine x_ll c_Nm_readPart_63 rfl ?_
          refine x_cv2z _ c_Nm_readPart_65 (by first | rfl | exact hr.1 | exact hr.2 | exact (nm_c hn)) (Nat.le_of_ble_eq_true rfl) (y_Nm_append (d + 1) hn (by omega) (by omega) (by omega) (by omega) hl) ?_
          rintro _ μ1 ⟨rfl, g1, g2, g3⟩
          show kc_X _ _ _ _ _ [] _ _
          refine x_ci c_Nm_readPart_68 ?_
          refine x_rz c_Nm_readPart_69 (by first | decide | exact kz_n _) ?_
          exact ⟨Or.inl ⟨⟨by omega, Classical.not_not.mp (fun q => h46 ((tyI_m1 (htb p)).mpr q)), h17, h55⟩, rfl, by have e9 : tyI (tb p) = nI (tb p) := (by unfold tyI; rw [if_pos (Classical.not_not.mp (fun q => h46 ((tyI_m1 (htb p)).mpr q)))]); rw [show pTV tb p x = (tyI (tb p), vlS tb (p + 2) x) by rw [e9]]; exact g1⟩, g3⟩
        · refine x_ci c_Nm_readPart_58 ?_
          refine x_rz c_Nm_readPart_59 (by first | decide | exact kz_n _) ?_
          first | exact ⟨Or.inr ⟨fun hp => (tyI_m1 (htb p)).mp h46 hp.2.1, rfl, rfl⟩, fun _ _ _ _ => rfl⟩ | exact ⟨Or.inr ⟨fun hp => hp.2.2.2 h55, rfl, rfl⟩, fun _ _ _ _ => rfl⟩
    · refine x_ci c_Nm_readPart_20 ?_
      refine x_rz c_Nm_readPart_21 (by first | decide | exact kz_n _) ?_
      first | exact ⟨Or.inr ⟨fun hp => by omega, rfl, rfl⟩, fun _ _ _ _ => rfl⟩ | exact ⟨Or.inr ⟨fun hp => h17 hp.2.2.1, rfl, rfl⟩, fun _ _ _ _ => rfl⟩
set_option maxRecDepth 100000 in
set_option maxHeartbeats 4000000 in
theorem y_Nm_readFrom (d : Nat) {μ : kc_M} {tb : Nat → Nat} {sz at_ en : Nat} {wr : Bool} {id : Int32} {sf st : Nat} (hr : rd_at μ tb sz at_ en wr id sf st) (htb : ∀ j, tb j < 256) (hse : sf ≤ st) (hst : st ≤ 200) (hsc : sc_at μ) : kc_Y kt kC (d + 4) j_Nm_readFrom [.ref 119, .ref 1] μ (fun v μ' => v = none ∧ tg_at μ' (nmS tb sf st) ∧ ∀ q, q ≠ 119 → q ≠ 120 → q ≠ 121 → μ'.1 q = μ.1 q) := by
  obtain ⟨k1, k2⟩ := hr
  obtain ⟨⟨p0, f0, g0, b1, b2, b3⟩, _⟩ := hsc
  refine ⟨Nat.le_of_ble_eq_true rfl, ?_⟩
  have loop : ∀ m i p : Nat, ∀ (l : List tv) (μ1 : kc_M) (jk : Option Value), 4 - i = m → l.length = i → i ≤ 4 → (p ≤ st ∨ p = st + 1) → pR tb st m p l = nmS tb sf st → nm_at μ1 119 120 121 l → μ1.1 1 = some (ce_Rd sz at_ en wr id sf st) → μ1.1 2 = some (ce_I 200 (fun j => nI (tb j))) → (∀ q, q ≠ 119 → q ≠ 120 → q ≠ 121 → μ1.1 q = μ.1 q) → kc_X (kC j_Nm_readFrom) (kc_Y kt kC (d + 3)) (fun v μ' => v = none ∧ tg_at μ' (nmS tb sf st) ∧ ∀ q, q ≠ 119 → q ≠ 120 → q ≠ 121 → μ'.1 q = μ.1 q) 24 [some (.ref 119), some (.ref 1), some (.int (nI p)), some (.int (nI i)), jk] [] μ1 (0, 0) := by
    intro m
    induction m with
    | zero =>
      intro i p l μ1 jk hm hl hi hp hR hn k1 k2 hf
      refine x_il c_Nm_readFrom_24 rfl ?_
      refine x_ci c_Nm_readFrom_25 ?_
      refine x_cm_ge c_Nm_readFrom_26 (fun _ => ?_) (fun h => absurd (nI_le (by omega) (by omega)) h)
      refine x_il c_Nm_readFrom_72 rfl ?_
      refine x_al c_Nm_readFrom_73 rfl ?_
      refine x_get c_Nm_readFrom_74 (by first | rfl | exact k1 | exact (nm_c hn)) rfl ?_
      refine x_ci c_Nm_readFrom_77 ?_
      first | refine x_iaddN c_Nm_readFrom_78 ?_ | refine x_iadd c_Nm_readFrom_78 ?_
      first | refine x_cmN_eq c_Nm_readFrom_79 (by omega) (by omega) (fun h79 => ?_) (fun h79 => ?_) | refine x_cm_eq c_Nm_readFrom_79 (fun h79 => ?_) (fun h79 => ?_)
      · refine x_ret c_Nm_readFrom_87 ?_
        first | exact ⟨rfl, by rw [← hR, h79, pR_d]; exact hn, hf⟩ | refine ⟨rfl, by rw [← hR, pR_0 h79]; obtain ⟨f9, g9, n1, n2, n3, n4⟩ := hn; exact ⟨f9, g9, kc_gs, (kc_gf (by decide)).trans n2, (kc_gf (by decide)).trans n3⟩, fun q q1 q2 q3 => (kc_gf q1).trans (hf q q1 q2 q3)⟩
      · refine x_al c_Nm_readFrom_82 rfl ?_
        refine x_ci c_Nm_readFrom_83 ?_
        refine x_put [_, _, _] c_Nm_readFrom_84 (by first | rfl | exact k1 | exact (nm_c hn)) ⟨Nat.le_of_ble_eq_true rfl, rfl, rfl⟩ rfl ?_
        refine x_ret c_Nm_readFrom_87 ?_
        first | exact ⟨rfl, by rw [← hR, h79, pR_d]; exact hn, hf⟩ | refine ⟨rfl, by rw [← hR, pR_0 h79]; obtain ⟨f9, g9, n1, n2, n3, n4⟩ := hn; exact ⟨f9, g9, kc_gs, (kc_gf (by decide)).trans n2, (kc_gf (by decide)).trans n3⟩, fun q q1 q2 q3 => (kc_gf q1).trans (hf q q1 q2 q3)⟩
    | succ m ih =>
      intro i p l μ1 jk hm hl hi hp hR hn k1 k2 hf
      by_cases hpe : st ≤ p
      · skip
        refine x_il c_Nm_readFrom_24 rfl ?_
        refine x_ci c_Nm_readFrom_25 ?_
        refine x_cm_ge c_Nm_readFrom_26 (fun h => absurd h (nI_ge (by omega) (by omega))) (fun _ => ?_)
        refine x_il c_Nm_readFrom_29 rfl ?_
        refine x_al c_Nm_readFrom_30 rfl ?_
        refine x_get c_Nm_readFrom_31 (by first | rfl | exact k1 | exact (nm_c hn)) rfl ?_
        refine x_cm_ge c_Nm_readFrom_34 (fun _ => ?_) (fun h => absurd (nI_le (by omega) (by omega)) h)
        refine x_il c_Nm_readFrom_72 rfl ?_
        refine x_al c_Nm_readFrom_73 rfl ?_
        refine x_get c_Nm_readFrom_74 (by first | rfl | exact k1 | exact (nm_c hn)) rfl ?_
        refine x_ci c_Nm_readFrom_77 ?_
        first | refine x_iaddN c_Nm_readFrom_78 ?_ | refine x_iadd c_Nm_readFrom_78 ?_
        first | refine x_cmN_eq c_Nm_readFrom_79 (by omega) (by omega) (fun h79 => ?_) (fun h79 => ?_) | refine x_cm_eq c_Nm_readFrom_79 (fun h79 => ?_) (fun h79 => ?_)
        · refine x_ret c_Nm_readFrom_87 ?_
          first | exact ⟨rfl, by rw [← hR, h79, pR_d]; exact hn, hf⟩ | refine ⟨rfl, by rw [← hR, show p = st by omega, pR_e]; obtain ⟨f9, g9, n1, n2, n3, n4⟩ := hn; exact ⟨f9, g9, kc_gs, (kc_gf (by decide)).trans n2, (kc_gf (by decide)).trans n3⟩, fun q q1 q2 q3 => (kc_gf q1).trans (hf q q1 q2 q3)⟩
        · refine x_al c_Nm_readFrom_82 rfl ?_
          refine x_ci c_Nm_readFrom_83 ?_
          refine x_put [_, _, _] c_Nm_readFrom_84 (by first | rfl | exact k1 | exact (nm_c hn)) ⟨Nat.le_of_ble_eq_true rfl, rfl, rfl⟩ rfl ?_
          refine x_ret c_Nm_readFrom_87 ?_
          first | exact ⟨rfl, by rw [← hR, h79, pR_d]; exact hn, hf⟩ | refine ⟨rfl, by rw [← hR, show p = st by omega, pR_e]; obtain ⟨f9, g9, n1, n2, n3, n4⟩ := hn; exact ⟨f9, g9, kc_gs, (kc_gf (by decide)).trans n2, (kc_gf (by decide)).trans n3⟩, fun q q1 q2 q3 => (kc_gf q1).trans (hf q q1 q2 q3)⟩
      · skip
        refine x_il c_Nm_readFrom_24 rfl ?_
        refine x_ci c_Nm_readFrom_25 ?_
        refine x_cm_ge c_Nm_readFrom_26 (fun h => absurd h (nI_ge (by omega) (by omega))) (fun _ => ?_)
        refine x_il c_Nm_readFrom_29 rfl ?_
        refine x_al c_Nm_readFrom_30 rfl ?_
        refine x_get c_Nm_readFrom_31 (by first | rfl | exact k1 | exact (nm_c hn) | exact (nm_c hn1)) rfl ?_
        refine x_cm_ge c_Nm_readFrom_34 (fun h => absurd h (nI_ge (by omega) (by omega))) (fun _ => ?_)
        refine x_al c_Nm_readFrom_37 rfl ?_
        refine x_il c_Nm_readFrom_38 rfl ?_
        refine x_cv1z _ c_Nm_readFrom_39 (by first | rfl | exact k1 | exact (nm_c hn) | exact (nm_c hn1)) (Nat.le_of_ble_eq_true rfl) (y_Rd_partEnd (d + 2) (p := p) ⟨k1, k2⟩ htb (by omega) hst) ?_
        rintro _ μx ⟨rfl, hμx⟩
        have hμx := hμx.symm
        subst hμx
        show kc_X _ _ _ _ _ [.int (nI (nx tb (st - p) p))] _ _
        have hnx := nx_le tb (st - p) p
        generalize hx : nx tb (st - p) p = x at hnx
        refine x_is [_, _, _, _, _] c_Nm_readFrom_42 rfl ?_
        refine x_al c_Nm_readFrom_44 rfl ?_
        refine x_al c_Nm_readFrom_45 rfl ?_
        refine x_il c_Nm_readFrom_46 rfl ?_
        refine x_il c_Nm_readFrom_47 rfl ?_
        refine x_cv3z _ c_Nm_readFrom_49 (by first | rfl | exact k1 | exact (nm_c hn) | exact (nm_c hn1)) (Nat.le_of_ble_eq_true rfl) (y_Nm_readPart d (p := p) (x := x) ⟨k1, k2⟩ htb hn (by omega) (by omega) (by omega)) ?_
        rintro v μ2 ⟨⟨hok, rfl, hn1⟩ | ⟨hok, rfl, hμ⟩, g3⟩
        · show kc_X _ _ _ _ _ [.int (bI true)] _ _
          refine x_if_ne c_Nm_readFrom_52 (fun _ => ?_) (fun h => absurd h (by decide))
          refine x_il c_Nm_readFrom_61 rfl ?_
          refine x_ci c_Nm_readFrom_63 ?_
          first | refine x_iaddN c_Nm_readFrom_64 ?_ | refine x_iadd c_Nm_readFrom_64 ?_
          refine x_is [_, _, _, _, _] c_Nm_readFrom_65 rfl ?_
          first | refine x_incN [_, _, _, _, _] c_Nm_readFrom_66 rfl rfl ?_ | refine x_inc [_, _, _, _, _] c_Nm_readFrom_66 rfl rfl ?_
          refine x_goto c_Nm_readFrom_69 ?_
          subst hx
          exact ih (i + 1) _ _ μ2 _ (by omega) (by rw [List.length_append]; simp; omega) (by omega) (by omega) (by rw [← hR, pR_s (by omega) hok]) hn1 ((g3 1 (by omega) (by omega) (by omega)).trans k1) ((g3 2 (by omega) (by omega) (by omega)).trans k2) (fun q q1 q2 q3 => (g3 q q1 q2 q3).trans (hf q q1 q2 q3))
        · show kc_X _ _ _ _ _ [.int (bI false)] _ _
          subst hμ
          refine x_if_ne c_Nm_readFrom_52 (fun h => absurd (by decide) h) (fun _ => ?_)
          refine x_al c_Nm_readFrom_55 rfl ?_
          refine x_ci c_Nm_readFrom_56 ?_
          refine x_put [_, _, _] c_Nm_readFrom_57 (by first | rfl | exact k1 | exact (nm_c hn) | exact (nm_c hn1)) ⟨Nat.le_of_ble_eq_true rfl, rfl, rfl⟩ rfl ?_
          refine x_ret c_Nm_readFrom_60 ?_
          subst hx; refine ⟨rfl, by rw [← hR, pR_f (by omega) hok]; obtain ⟨f9, g9, n1, n2, n3, n4⟩ := hn; exact ⟨f9, g9, kc_gs, (kc_gf (by decide)).trans n2, (kc_gf (by decide)).trans n3⟩, fun q q1 q2 q3 => (kc_gf q1).trans (hf q q1 q2 q3)⟩
  refine x_al c_Nm_readFrom_0 rfl ?_
  refine x_ci c_Nm_readFrom_1 ?_
  refine x_put [_, _, _] c_Nm_readFrom_2 (by first | rfl | exact k1 | exact b1) ⟨Nat.le_of_ble_eq_true rfl, rfl, rfl⟩ rfl ?_
  refine x_al c_Nm_readFrom_5 rfl ?_
  refine x_get c_Nm_readFrom_6 (by first | rfl | exact k1 | exact b1) rfl ?_
  refine x_al c_Nm_readFrom_9 rfl ?_
  refine x_get c_Nm_readFrom_10 (by first | rfl | exact k1 | exact b1) rfl ?_
  first | refine x_cmN_ne c_Nm_readFrom_13 (by omega) (by omega) (fun h13 => ?_) (fun h13 => ?_) | refine x_cm_ne c_Nm_readFrom_13 (fun h13 => ?_) (fun h13 => ?_)
  · refine x_al c_Nm_readFrom_17 rfl ?_
    refine x_get c_Nm_readFrom_18 (by first | rfl | exact k1 | exact b1) rfl ?_
    refine x_is [_, _, _, _, _] c_Nm_readFrom_21 rfl ?_
    refine x_ci c_Nm_readFrom_22 ?_
    refine x_is [_, _, _, _, _] c_Nm_readFrom_23 rfl ?_
    exact loop 4 0 sf [] _ _ rfl rfl (by omega) (by omega) (nmS_R hse h13).symm ⟨f0, g0, rfl, b2, b3, fun k hk => by simp at hk, by simp⟩ k1 k2 (fun q q1 q2 q3 => kc_gf q1)
  · refine x_ret c_Nm_readFrom_16 ?_
    exact ⟨rfl, by unfold nmS; rw [if_pos h13]; exact ⟨f0, g0, rfl, b2, b3, fun k hk => by simp at hk, by simp⟩, fun q q1 q2 q3 => kc_gf q1⟩
