/-! deleting, the class -/
/-- the rows when the entry e of n is gone -/
def rot (n e i : Nat) : Nat := if i < e then i else if i < n - 1 then i + 1 else if i = n - 1 then e else i
theorem rot_lt {n e i : Nat} (he : e < n) (hn : n ≤ 16) (hi : i < 16) : rot n e i < 16 := by
  unfold rot
  split
  · omega
  · split
    · omega
    · split <;> omega
theorem rot_in {n e i j : Nat} (he : e < n) (h : rot n e i = rot n e j) : i = j := by
  unfold rot at h
  split at h <;> split at h <;> (try split at h) <;> (try split at h) <;> (try split at h) <;> (try split at h) <;> omega
/-- before an operation that changes entries -/
def chC (so : Bool) (o : Option (List tv)) (ok : Bool) : Nat := if ok = true then (if so = true then (match o with
  | some l => if l.length < 1 then 34 else 0
  | none => 34) else 50) else 2
theorem chC_2 {so : Bool} {o : Option (List tv)} {ok : Bool} (h : ok = false) : chC so o ok = 2 := by subst h; rfl
theorem chC_50 {so : Bool} {o : Option (List tv)} {ok : Bool} (h : ok = true) (h2 : so = false) : chC so o ok = 50 := by subst h; subst h2; rfl
theorem chC_N {so : Bool} {ok : Bool} (h : ok = true) (h2 : so = true) : chC so none ok = 34 := by subst h; subst h2; rfl
theorem chC_34 {so : Bool} {ok : Bool} {l : List tv} (h : ok = true) (h2 : so = true) (hl : l.length < 1) : chC so (some l) ok = 34 := by
  subst h; subst h2
  show (if l.length < 1 then 34 else 0) = 34
  rw [if_pos hl]
theorem chC_0 {so : Bool} {ok : Bool} {l : List tv} (h : ok = true) (h2 : so = true) (hl : 1 ≤ l.length) : chC so (some l) ok = 0 := by
  subst h; subst h2
  show (if l.length < 1 then 34 else 0) = 0
  rw [if_neg (by omega)]
def dlC (so : Bool) (n : Nat) (nm : Nat → List tv) (o : Option (List tv)) : Nat × Option Nat := if so = true then (match o with
  | some l => if l.length < 1 then (34, none) else match fd nm l n 0 with
    | none => (32, none)
    | some e => if hc nm l n 0 = true then (66, none) else (0, some e)
  | none => (34, none)) else (50, none)
def dn (n : Nat) : Option Nat → Nat
  | none => n
  | some _ => n - 1
def dr (n : Nat) : Option Nat → Nat → Nat
  | none, i => i
  | some e, i => rot n e i
set_option maxRecDepth 100000 in
set_option maxHeartbeats 4000000 in
theorem y_Tr_removeAt (d : Nat) {μ : kc_M} {n : Nat} {ad : Nat → Nat} {nm pr : Nat → List tv} (ht : tr_at μ n ad nm pr) {e : Nat} (he : e < n) : kc_Y kt kC (d + 1) j_Tr_removeAt [.ref 5, .int (nI e)] μ (fun v μ' => v = none ∧ tr_at μ' (n - 1) (fun i => ad (rot n e i)) (fun i => nm (rot n e i)) (fun i => pr (rot n e i)) ∧ ∀ q, q ≠ 5 → q ≠ 6 → μ'.1 q = μ.1 q) := by
  refine ⟨Nat.le_of_ble_eq_true rfl, ?_⟩
  obtain ⟨t1, ⟨rf, t2, t3⟩, t4, t5, t6, t7⟩ := ht
  have loop : ∀ m i (μ1 : kc_M) (rf1 : Nat → Option Nat), n - 1 - i = m → e ≤ i → i ≤ n - 1 → μ1.1 6 = some (ce_Q 16 rf1) → (∀ j, j < 16 → rf1 j = some (ad (if e ≤ j ∧ j < i then j + 1 else j))) → (∀ q, q ≠ 6 → μ1.1 q = μ.1 q) → kc_X (kC j_Tr_removeAt) (kc_Y kt kC d) (fun v μ' => v = none ∧ tr_at μ' (n - 1) (fun i => ad (rot n e i)) (fun i => nm (rot n e i)) (fun i => pr (rot n e i)) ∧ ∀ q, q ≠ 5 → q ≠ 6 → μ'.1 q = μ.1 q) 22 [some (.ref 5), some (.int (nI e)), some (.ref (ad e)), some (.int (nI i))] [] μ1 (0, 0) := by
    intro m
    induction m with
    | zero =>
      intro i μ1 rf1 hm hei hi h6 hq hf
      have h5 : μ1.1 5 = some (ce_Tr n) := (hf 5 (by decide)).trans t1
      have hb1 : μ1.1 (ad e) = some (ce_En (ad e + 1) (ad e + 4)) := (hf _ (by obtain ⟨k, k1, k2⟩ := t5 e (by omega); omega)).trans (t4 e (by omega)).1
      refine x_il c_Tr_removeAt_22 rfl ?_
      refine x_al c_Tr_removeAt_23 rfl ?_
      refine x_get c_Tr_removeAt_24 (by first | rfl | exact h5 | exact h6 | exact hb1) rfl ?_
      refine x_ci c_Tr_removeAt_27 ?_
      first | refine x_isubN c_Tr_removeAt_28 (by omega) ?_ | refine x_isub c_Tr_removeAt_28 ?_
      refine x_cmN_ge c_Tr_removeAt_29 (by omega) (by omega) (fun _ => ?_) (fun h => (by exfalso; omega))
      refine x_al c_Tr_removeAt_52 rfl ?_
      refine x_get c_Tr_removeAt_53 (by first | rfl | exact h5 | exact h6 | exact hb1) rfl ?_
      refine x_al c_Tr_removeAt_56 rfl ?_
      refine x_get c_Tr_removeAt_57 (by first | rfl | exact h5 | exact h6 | exact hb1) rfl ?_
      refine x_ci c_Tr_removeAt_60 ?_
      first | refine x_isubN c_Tr_removeAt_61 (by omega) ?_ | refine x_isub c_Tr_removeAt_61 ?_
      refine x_al c_Tr_removeAt_62 rfl ?_
      refine x_aastN c_Tr_removeAt_63 (by first | rfl | exact h5 | exact h6 | exact hb1) (by first | rfl | exact h5 | exact h6 | exact hb1) (by omega) (by omega) ?_
      refine x_al c_Tr_removeAt_64 rfl ?_
      refine x_dup c_Tr_removeAt_65 rfl ?_
      refine x_get c_Tr_removeAt_66 (by first | rfl | exact h5 | exact h6 | exact hb1) rfl ?_
      refine x_ci c_Tr_removeAt_69 ?_
      first | refine x_isubN c_Tr_removeAt_70 (by omega) ?_ | refine x_isub c_Tr_removeAt_70 ?_
      refine x_put [_, _] c_Tr_removeAt_71 (by first | rfl | exact h5 | exact h6 | exact hb1) ⟨Nat.le_of_ble_eq_true rfl, rfl, rfl⟩ rfl ?_
      refine x_ret c_Tr_removeAt_74 ?_
      refine ⟨rfl, ⟨kc_gs, ⟨_, rfl, fun j hj => ?_⟩, fun j hj => en_k (t4 _ (rot_lt he t7 hj)) (fun q q1 q2 => ?_), fun j hj => t5 _ (rot_lt he t7 hj), fun i j hi hj h => rot_in he (t6 _ _ (rot_lt he t7 hi) (rot_lt he t7 hj) h), by omega⟩, fun q q5 q6 => (kc_gf q5).trans ((kc_gf q6).trans (hf q q6))⟩
      · show (if j = n - 1 then some (ad e) else rf1 j) = some (ad (rot n e j))
        unfold rot
        by_cases h1 : j = n - 1
        · rw [if_pos h1]; congr 2; rw [if_neg (by omega), if_neg (by omega), if_pos h1]
        · rw [if_neg h1, hq j hj]; congr 2; split; · rw [if_neg (by omega), if_pos (by omega)]
          · split; · rfl
            · first | rw [if_neg (by omega), if_neg h1] | rw [if_neg (by omega)]
      · obtain ⟨k9, k91, k92⟩ := t5 _ (rot_lt he t7 hj)
        dsimp only at q1 q2
        exact (kc_gf (by omega)).trans ((kc_gf (by omega)).trans (hf q (by omega)))
    | succ m ih =>
      intro i μ1 rf1 hm hei hi h6 hq hf
      have h5 : μ1.1 5 = some (ce_Tr n) := (hf 5 (by decide)).trans t1
      have hq1 : rf1 (i + 1) = some (ad (i + 1)) := by rw [hq (i + 1) (by omega), if_neg (by omega)]
      have hb1 : μ1.1 (ad (i + 1)) = some (ce_En (ad (i + 1) + 1) (ad (i + 1) + 4)) := (hf _ (by obtain ⟨k, k1, k2⟩ := t5 (i + 1) (by omega); omega)).trans (t4 (i + 1) (by omega)).1
      refine x_il c_Tr_removeAt_22 rfl ?_
      refine x_al c_Tr_removeAt_23 rfl ?_
      refine x_get c_Tr_removeAt_24 (by first | rfl | exact h5 | exact h6 | exact hb1) rfl ?_
      refine x_ci c_Tr_removeAt_27 ?_
      first | refine x_isubN c_Tr_removeAt_28 (by omega) ?_ | refine x_isub c_Tr_removeAt_28 ?_
      refine x_cmN_ge c_Tr_removeAt_29 (by omega) (by omega) (fun h => (by exfalso; omega)) (fun _ => ?_)
      refine x_al c_Tr_removeAt_32 rfl ?_
      refine x_get c_Tr_removeAt_33 (by first | rfl | exact h5 | exact h6 | exact hb1) rfl ?_
      refine x_il c_Tr_removeAt_36 rfl ?_
      refine x_al c_Tr_removeAt_37 rfl ?_
      refine x_get c_Tr_removeAt_38 (by first | rfl | exact h5 | exact h6 | exact hb1) rfl ?_
      refine x_il c_Tr_removeAt_41 rfl ?_
      refine x_ci c_Tr_removeAt_42 ?_
      first | refine x_iaddN c_Tr_removeAt_43 ?_ | refine x_iadd c_Tr_removeAt_43 ?_
      refine x_aaldN c_Tr_removeAt_44 (by first | rfl | exact h5 | exact h6 | exact hb1) (by omega) (by omega) hq1 ?_
      refine x_aastN c_Tr_removeAt_45 (by first | rfl | exact h5 | exact h6 | exact hb1) (by first | rfl | exact h5 | exact h6 | exact hb1) (by omega) (by omega) ?_
      first | refine x_incN [_, _, _, _] c_Tr_removeAt_46 rfl rfl ?_ | refine x_inc [_, _, _, _] c_Tr_removeAt_46 rfl rfl ?_
      refine x_goto c_Tr_removeAt_49 ?_
      refine ih (i + 1) _ _ (by omega) (by omega) (by omega) rfl (fun j hj => ?_) (fun q q6 => (kc_gf q6).trans (hf q q6))
      show (if j = i then some (ad (i + 1)) else rf1 j) = _
      by_cases h1 : j = i
      · rw [if_pos h1, if_pos (by omega), h1]
      · rw [if_neg h1, hq j hj]; congr 2; split; · rw [if_pos (by omega)]
        · rw [if_neg (by omega)]
  refine x_il c_Tr_removeAt_0 rfl ?_
  refine x_ifN_lt c_Tr_removeAt_1 (by omega) (fun h => (by exfalso; omega)) (fun _ => ?_)
  refine x_il c_Tr_removeAt_4 rfl ?_
  refine x_al c_Tr_removeAt_5 rfl ?_
  refine x_get c_Tr_removeAt_6 (by first | rfl | exact t1 | exact t2) rfl ?_
  refine x_cmN_lt c_Tr_removeAt_9 (by omega) (by omega) (fun _ => ?_) (fun h => (by exfalso; omega))
  refine x_al c_Tr_removeAt_13 rfl ?_
  refine x_get c_Tr_removeAt_14 (by first | rfl | exact t1 | exact t2) rfl ?_
  refine x_il c_Tr_removeAt_17 rfl ?_
  refine x_aaldN c_Tr_removeAt_18 (by first | rfl | exact t1 | exact t2) (by omega) (by omega) (t3 e (by omega)) ?_
  refine x_as [_, _, _, _] c_Tr_removeAt_19 rfl ?_
  refine x_il c_Tr_removeAt_20 rfl ?_
  refine x_is [_, _, _, _] c_Tr_removeAt_21 rfl ?_
  exact loop _ e μ rf rfl (by omega) (by omega) t2 (fun j hj => by rw [t3 j hj, if_neg (by omega)]) (fun _ _ => rfl)
set_option maxRecDepth 100000 in
set_option maxHeartbeats 4000000 in
theorem y_Dk_changingCode (d : Nat) {μ : kc_M} {lo so : Bool} {tb : Nat → Nat} {sz : Nat} {id : Int32} {r : RS} (k0 : μ.1 0 = some (ce_Dk lo so)) (hr : rd_r μ tb sz id r) (hk : rok sz r) (htb : ∀ j, tb j < 256) {o : Option (List tv)} (hg : tg_at μ o) : kc_Y kt kC (d + 2) j_Dk_changingCode [.ref 0] μ (fun v μ' => v = some (.int (nI (chC so o (rD r)))) ∧ μ' = μ) := by
  refine ⟨Nat.le_of_ble_eq_true rfl, ?_⟩
  cases o with
  | none =>
    obtain ⟨f9, g9, g0, _⟩ := hg
    refine x_al c_Dk_changingCode_0 rfl ?_
    refine x_get c_Dk_changingCode_1 (by first | rfl | exact k0 | exact hr.1 | exact g0) rfl ?_
    refine x_cv0z _ c_Dk_changingCode_4 (by first | rfl | exact k0 | exact hr.1 | exact g0) (Nat.le_of_ble_eq_true rfl) (y_Rd_isReadWell d hr hk htb) ?_
    rintro _ μx ⟨rfl, hμx⟩
    have hμx := hμx.symm
    subst hμx
    show kc_X _ _ _ _ _ [.int (bI (rD r))] _ _
    refine x_ifB_ne c_Dk_changingCode_7 (fun h7 => ?_) (fun h7 => ?_)
    · refine x_al c_Dk_changingCode_12 rfl ?_
      refine x_get c_Dk_changingCode_13 (by first | rfl | exact k0 | exact hr.1 | exact g0) rfl ?_
      refine x_ifB_ne c_Dk_changingCode_16 (fun h16 => ?_) (fun h16 => ?_)
      · refine x_al c_Dk_changingCode_22 rfl ?_
        refine x_get c_Dk_changingCode_23 (by first | rfl | exact k0 | exact hr.1 | exact g0) rfl ?_
        refine x_get c_Dk_changingCode_26 (by first | rfl | exact k0 | exact hr.1 | exact g0) rfl ?_
        refine x_ci c_Dk_changingCode_29 ?_
        refine x_cm_ge c_Dk_changingCode_30 (fun h => absurd h (by decide)) (fun _ => ?_)
        refine x_ci c_Dk_changingCode_33 ?_
        refine x_goto c_Dk_changingCode_35 ?_
        refine x_ri c_Dk_changingCode_39 ?_
        first | exact ⟨by rw [chC_2 h7], rfl⟩ | exact ⟨by rw [chC_50 h7 h16], rfl⟩ | exact ⟨by rw [chC_N h7 h16], rfl⟩ | exact ⟨by rw [chC_34 h7 h16 h30], rfl⟩ | exact ⟨by rw [chC_0 h7 h16 h30], rfl⟩
      · refine x_ci c_Dk_changingCode_19 ?_
        refine x_ri c_Dk_changingCode_21 ?_
        first | exact ⟨by rw [chC_2 h7], rfl⟩ | exact ⟨by rw [chC_50 h7 h16], rfl⟩ | exact ⟨by rw [chC_N h7 h16], rfl⟩ | exact ⟨by rw [chC_34 h7 h16 h30], rfl⟩ | exact ⟨by rw [chC_0 h7 h16 h30], rfl⟩
    · refine x_ci c_Dk_changingCode_10 ?_
      refine x_ri c_Dk_changingCode_11 ?_
      first | exact ⟨by rw [chC_2 h7], rfl⟩ | exact ⟨by rw [chC_50 h7 h16], rfl⟩ | exact ⟨by rw [chC_N h7 h16], rfl⟩ | exact ⟨by rw [chC_34 h7 h16 h30], rfl⟩ | exact ⟨by rw [chC_0 h7 h16 h30], rfl⟩
  | some l =>
    have hn : nm_at μ 119 120 121 l := hg
    have h4 : l.length ≤ 4 := by obtain ⟨_, _, _, _, _, _, h⟩ := hn; exact h
    refine x_al c_Dk_changingCode_0 rfl ?_
    refine x_get c_Dk_changingCode_1 (by first | rfl | exact k0 | exact hr.1 | exact (nm_c hn)) rfl ?_
    refine x_cv0z _ c_Dk_changingCode_4 (by first | rfl | exact k0 | exact hr.1 | exact (nm_c hn)) (Nat.le_of_ble_eq_true rfl) (y_Rd_isReadWell d hr hk htb) ?_
    rintro _ μx ⟨rfl, hμx⟩
    have hμx := hμx.symm
    subst hμx
    show kc_X _ _ _ _ _ [.int (bI (rD r))] _ _
    refine x_ifB_ne c_Dk_changingCode_7 (fun h7 => ?_) (fun h7 => ?_)
    · refine x_al c_Dk_changingCode_12 rfl ?_
      refine x_get c_Dk_changingCode_13 (by first | rfl | exact k0 | exact hr.1 | exact (nm_c hn)) rfl ?_
      refine x_ifB_ne c_Dk_changingCode_16 (fun h16 => ?_) (fun h16 => ?_)
      · refine x_al c_Dk_changingCode_22 rfl ?_
        refine x_get c_Dk_changingCode_23 (by first | rfl | exact k0 | exact hr.1 | exact (nm_c hn)) rfl ?_
        refine x_get c_Dk_changingCode_26 (by first | rfl | exact k0 | exact hr.1 | exact (nm_c hn)) rfl ?_
        refine x_ci c_Dk_changingCode_29 ?_
        refine x_cmN_ge c_Dk_changingCode_30 (by omega) (by omega) (fun h30 => ?_) (fun h30 => ?_)
        · refine x_ci c_Dk_changingCode_38 ?_
          refine x_ri c_Dk_changingCode_39 ?_
          first | exact ⟨by rw [chC_2 h7], rfl⟩ | exact ⟨by rw [chC_50 h7 h16], rfl⟩ | exact ⟨by rw [chC_N h7 h16], rfl⟩ | exact ⟨by rw [chC_34 h7 h16 h30], rfl⟩ | exact ⟨by rw [chC_0 h7 h16 h30], rfl⟩
        · refine x_ci c_Dk_changingCode_33 ?_
          refine x_goto c_Dk_changingCode_35 ?_
          refine x_ri c_Dk_changingCode_39 ?_
          first | exact ⟨by rw [chC_2 h7], rfl⟩ | exact ⟨by rw [chC_50 h7 h16], rfl⟩ | exact ⟨by rw [chC_N h7 h16], rfl⟩ | exact ⟨by rw [chC_34 h7 h16 h30], rfl⟩ | exact ⟨by rw [chC_0 h7 h16 h30], rfl⟩
      · refine x_ci c_Dk_changingCode_19 ?_
        refine x_ri c_Dk_changingCode_21 ?_
        first | exact ⟨by rw [chC_2 h7], rfl⟩ | exact ⟨by rw [chC_50 h7 h16], rfl⟩ | exact ⟨by rw [chC_N h7 h16], rfl⟩ | exact ⟨by rw [chC_34 h7 h16 h30], rfl⟩ | exact ⟨by rw [chC_0 h7 h16 h30], rfl⟩
    · refine x_ci c_Dk_changingCode_10 ?_
      refine x_ri c_Dk_changingCode_11 ?_
      first | exact ⟨by rw [chC_2 h7], rfl⟩ | exact ⟨by rw [chC_50 h7 h16], rfl⟩ | exact ⟨by rw [chC_N h7 h16], rfl⟩ | exact ⟨by rw [chC_34 h7 h16 h30], rfl⟩ | exact ⟨by rw [chC_0 h7 h16 h30], rfl⟩
set_option maxRecDepth 100000 in
set_option maxHeartbeats 4000000 in
theorem y_Dk_delete (d : Nat) {μ : kc_M} {lo so : Bool} {tb : Nat → Nat} {sz : Nat} {id : Int32} {r : RS} (k0 : μ.1 0 = some (ce_Dk lo so)) (hr : rd_r μ tb sz id r) (hk : rok sz r) (htb : ∀ j, tb j < 256) {n : Nat} {ad : Nat → Nat} {nm pr : Nat → List tv} (ht : tr_at μ n ad nm pr) (hnw : r.2.2.1 = false) (hsc : sc_at μ) : kc_Y kt kC (d + 5) j_Dk_delete [.ref 0] μ (fun v μ' => v = some (.int (nI (dlC so n nm (nmS tb r.1 r.2.1)).1)) ∧ (∃ r', rd_r μ' tb sz id r' ∧ rok sz r') ∧ tr_at μ' (dn n (dlC so n nm (nmS tb r.1 r.2.1)).2) (fun i => ad (dr n (dlC so n nm (nmS tb r.1 r.2.1)).2 i)) (fun i => nm (dr n (dlC so n nm (nmS tb r.1 r.2.1)).2 i)) (fun i => pr (dr n (dlC so n nm (nmS tb r.1 r.2.1)).2 i)) ∧ (∀ q, q ≠ 1 → q < 5 ∨ 136 ≤ q → μ'.1 q = μ.1 q) ∧ sc_at μ' ∧ tg_at μ' (nmS tb r.1 r.2.1)) := by
  refine ⟨Nat.le_of_ble_eq_true rfl, ?_⟩
  refine x_al c_Dk_delete_0 rfl ?_
  refine x_get c_Dk_delete_1 (by first | rfl | exact k0 | exact hr.1 | exact m1 | exact hr1.1 | exact hs9 | exact m2) rfl ?_
  refine x_cv0z _ c_Dk_delete_4 (by first | rfl | exact k0 | exact hr.1 | exact m1 | exact hr1.1 | exact hs9 | exact m2) (Nat.le_of_ble_eq_true rfl) (y_Rd_spanRest (d + 3) hr hk htb) ?_
  rintro _ μ1 ⟨rfl, hr1, f1⟩
  have hk1 : rok sz (rR r) := ⟨Nat.le_refl _, hk.2⟩
  have m1 := (f1 0 (by decide)).trans k0
  have hz := hk.2
  have hsc1 : sc_at μ1 := sc_k hsc (fun q h1 h2 => f1 q (by omega))
  have hsc1' := hsc1
  obtain ⟨⟨p9, f9, g9, hs9, _⟩, _⟩ := hsc1'
  show kc_X _ _ _ _ _ [] _ _
  refine x_al c_Dk_delete_7 rfl ?_
  refine x_get c_Dk_delete_8 (by first | rfl | exact k0 | exact hr.1 | exact m1 | exact hr1.1 | exact hs9 | exact m2) rfl ?_
  refine x_al c_Dk_delete_11 rfl ?_
  refine x_get c_Dk_delete_12 (by first | rfl | exact k0 | exact hr.1 | exact m1 | exact hr1.1 | exact hs9 | exact m2) rfl ?_
  refine x_cv1z _ c_Dk_delete_15 (by first | rfl | exact k0 | exact hr.1 | exact m1 | exact hr1.1 | exact hs9 | exact m2) (Nat.le_of_ble_eq_true rfl) (y_Nm_readFrom d hr1 htb hk.1 (by show r.2.1 ≤ 200; omega) hsc1) ?_
  rintro _ μ2 ⟨rfl, g2, f2⟩
  have g2 : tg_at μ2 (nmS tb r.1 r.2.1) := g2
  have m2 := (f2 0 (by decide) (by decide) (by decide)).trans m1
  have hr2 : rd_r μ2 tb sz id (rR r) := ⟨(f2 1 (by decide) (by decide) (by decide)).trans hr1.1, (f2 2 (by decide) (by decide) (by decide)).trans hr1.2⟩
  have hsc2 : sc_at μ2 := sc_tg hsc1 g2 (fun q h1 h2 => f2 q (by omega) (by omega) (by omega))
  have ht2 := tr_k ht (μ' := μ2) (fun q h1 h2 => (f2 q (by omega) (by omega) (by omega)).trans (f1 q (by omega)))
  have hdd : rD (rR r) = true := by unfold rD rR; rw [hnw]; simp
  generalize nmS tb r.1 r.2.1 = o at g2 ⊢
  have hch := y_Dk_changingCode (d + 2) m2 hr2 hk1 htb g2
  rw [hdd] at hch
  show kc_X _ _ _ _ _ [] _ _
  refine x_al c_Dk_delete_18 rfl ?_
  refine x_cv0z _ c_Dk_delete_19 (by first | rfl | exact k0 | exact hr.1 | exact m1 | exact hr1.1 | exact hs9 | exact m2) (Nat.le_of_ble_eq_true rfl) (hch) ?_
  rintro _ μx ⟨rfl, hμx⟩
  have hμx := hμx.symm
  subst hμx
  show kc_X _ _ _ _ _ [.int (nI (chC so o true))] _ _
  cases so with
  | false =>
    show kc_X _ _ _ _ _ [.int (nI 50)] _ _
    refine x_is [_, _, _] c_Dk_delete_22 rfl ?_
    refine x_il c_Dk_delete_23 rfl ?_
    refine x_ifN_eq c_Dk_delete_24 (by omega) (fun h => (by exfalso; omega)) (fun _ => ?_)
    refine x_il c_Dk_delete_27 rfl ?_
    refine x_ri c_Dk_delete_28 ?_
    have hD : dlC false n nm o = (50, none) := by unfold dlC; rfl
    exact ⟨by rw [hD], ⟨_, hr2, hk1⟩, by rw [hD]; exact ht2, (fun q q1 q2 => (f2 q (by omega) (by omega) (by omega)).trans (f1 q q1)), hsc2, g2⟩
  | true =>
    cases o with
    | none =>
      show kc_X _ _ _ _ _ [.int (nI 34)] _ _
      refine x_is [_, _, _] c_Dk_delete_22 rfl ?_
      refine x_il c_Dk_delete_23 rfl ?_
      refine x_ifN_eq c_Dk_delete_24 (by omega) (fun h => (by exfalso; omega)) (fun _ => ?_)
      refine x_il c_Dk_delete_27 rfl ?_
      refine x_ri c_Dk_delete_28 ?_
      have hD : dlC true n nm none = (34, none) := by unfold dlC; rfl
      exact ⟨by rw [hD], ⟨_, hr2, hk1⟩, by rw [hD]; exact ht2, (fun q q1 q2 => (f2 q (by omega) (by omega) (by omega)).trans (f1 q q1)), hsc2, g2⟩
    | some l =>
      have g2 : nm_at μ2 119 120 121 l := g2
      have h4 : l.length ≤ 4 := by obtain ⟨_, _, _, _, _, _, h⟩ := g2; exact h
      have hs8 := nm_c g2
      by_cases hl : l.length < 1
      · rw [chC_34 rfl rfl hl]
        refine x_is [_, _, _] c_Dk_delete_22 rfl ?_
        refine x_il c_Dk_delete_23 rfl ?_
        refine x_ifN_eq c_Dk_delete_24 (by omega) (fun h => (by exfalso; omega)) (fun _ => ?_)
        refine x_il c_Dk_delete_27 rfl ?_
        refine x_ri c_Dk_delete_28 ?_
        have hD : dlC true n nm (some l) = (34, none) := by unfold dlC; rw [if_pos rfl]; dsimp only; rw [if_pos hl]
        exact ⟨by rw [hD], ⟨_, hr2, hk1⟩, by rw [hD]; exact ht2, (fun q q1 q2 => (f2 q (by omega) (by omega) (by omega)).trans (f1 q q1)), hsc2, g2⟩
      · rw [chC_0 rfl rfl (by omega)]
        cases hfd : fd nm l n 0 with
        | none =>
          refine x_is [_, _, _] c_Dk_delete_22 rfl ?_
          refine x_il c_Dk_delete_23 rfl ?_
          refine x_ifN_eq c_Dk_delete_24 (by omega) (fun _ => ?_) (fun h => (by exfalso; omega))
          refine x_al c_Dk_delete_29 rfl ?_
          refine x_get c_Dk_delete_30 (by first | rfl | exact m2 | exact ht2.1) rfl ?_
          refine x_al c_Dk_delete_33 rfl ?_
          refine x_get c_Dk_delete_34 (by first | rfl | exact m2 | exact ht2.1) rfl ?_
          refine x_ci c_Dk_delete_37 ?_
          refine x_cv2z _ c_Dk_delete_38 (by first | rfl | exact m2 | exact ht2.1) (Nat.le_of_ble_eq_true rfl) (y_Tr_find (d + 2) ht2 g2 h4 (k := 0) (by omega)) ?_
          rintro _ μx ⟨rfl, hμx⟩
          have hμx := hμx.symm
          subst hμx
          show kc_X _ _ _ _ _ [.int (oI (fd nm l n 0))] _ _
          rw [hfd]
          show kc_X _ _ _ _ _ [.int (-1)] _ _
          refine x_is [_, _, _] c_Dk_delete_41 rfl ?_
          refine x_il c_Dk_delete_42 rfl ?_
          refine x_ci c_Dk_delete_43 ?_
          refine x_cm_ne c_Dk_delete_44 (fun h => absurd (rfl) h) (fun _ => ?_)
          refine x_ci c_Dk_delete_47 ?_
          refine x_ri c_Dk_delete_49 ?_
          have hD : dlC true n nm (some l) = (32, none) := by unfold dlC; rw [if_pos rfl]; dsimp only; rw [if_neg hl, hfd]
          exact ⟨by rw [hD], ⟨_, hr2, hk1⟩, by rw [hD]; exact ht2, (fun q q1 q2 => (f2 q (by omega) (by omega) (by omega)).trans (f1 q q1)), hsc2, g2⟩
        | some i =>
          have hfi := fd_in hfd
          have t7 := ht2.2.2.2.2.2
          rw [Nat.zero_add] at hfi
          refine x_is [_, _, _] c_Dk_delete_22 rfl ?_
          refine x_il c_Dk_delete_23 rfl ?_
          refine x_ifN_eq c_Dk_delete_24 (by omega) (fun _ => ?_) (fun h => (by exfalso; omega))
          refine x_al c_Dk_delete_29 rfl ?_
          refine x_get c_Dk_delete_30 (by first | rfl | exact m2 | exact ht2.1 | exact hs8) rfl ?_
          refine x_al c_Dk_delete_33 rfl ?_
          refine x_get c_Dk_delete_34 (by first | rfl | exact m2 | exact ht2.1 | exact hs8) rfl ?_
          refine x_ci c_Dk_delete_37 ?_
          refine x_cv2z _ c_Dk_delete_38 (by first | rfl | exact m2 | exact ht2.1 | exact hs8) (Nat.le_of_ble_eq_true rfl) (y_Tr_find (d + 2) ht2 g2 h4 (k := 0) (by omega)) ?_
          rintro _ μx ⟨rfl, hμx⟩
          have hμx := hμx.symm
          subst hμx
          show kc_X _ _ _ _ _ [.int (oI (fd nm l n 0))] _ _
          rw [hfd]
          show kc_X _ _ _ _ _ [.int (nI i)] _ _
          refine x_is [_, _, _] c_Dk_delete_41 rfl ?_
          refine x_il c_Dk_delete_42 rfl ?_
          refine x_ci c_Dk_delete_43 ?_
          refine x_cm_ne c_Dk_delete_44 (fun _ => ?_) (fun h => absurd h (nI_nm1 (by omega)))
          refine x_al c_Dk_delete_50 rfl ?_
          refine x_get c_Dk_delete_51 (by first | rfl | exact m2 | exact ht2.1 | exact hs8) rfl ?_
          refine x_al c_Dk_delete_54 rfl ?_
          refine x_get c_Dk_delete_55 (by first | rfl | exact m2 | exact ht2.1 | exact hs8) rfl ?_
          refine x_cv1z _ c_Dk_delete_58 (by first | rfl | exact m2 | exact ht2.1 | exact hs8) (Nat.le_of_ble_eq_true rfl) (y_Tr_hasChildOf (d + 2) ht2 g2) ?_
          rintro _ μx ⟨rfl, hμx⟩
          have hμx := hμx.symm
          subst hμx
          show kc_X _ _ _ _ _ [.int (bI (hc nm l n 0))] _ _
          refine x_ifB_eq c_Dk_delete_61 (fun h61 => ?_) (fun h61 => ?_)
          · refine x_al c_Dk_delete_67 rfl ?_
            refine x_get c_Dk_delete_68 (by first | rfl | exact m2 | exact ht2.1 | exact hs8) rfl ?_
            refine x_il c_Dk_delete_71 rfl ?_
            refine x_cv1z _ c_Dk_delete_72 (by first | rfl | exact m2 | exact ht2.1 | exact hs8) (Nat.le_of_ble_eq_true rfl) (y_Tr_removeAt (d + 3) ht2 hfi.2.1) ?_
            rintro _ μ3 ⟨rfl, ht3, f3⟩
            show kc_X _ _ _ _ _ [] _ _
            refine x_ci c_Dk_delete_75 ?_
            refine x_ri c_Dk_delete_76 ?_
            have hD : dlC true n nm (some l) = (0, some i) := by unfold dlC; rw [if_pos rfl]; dsimp only; rw [if_neg hl, hfd]; dsimp only; rw [if_neg (by rw [h61]; decide)]
            exact ⟨by rw [hD], ⟨_, ⟨(f3 1 (by decide) (by decide)).trans hr2.1, (f3 2 (by decide) (by decide)).trans hr2.2⟩, hk1⟩, by rw [hD]; exact ht3, fun q q1 q2 => (f3 q (by omega) (by omega)).trans ((f2 q (by omega) (by omega) (by omega)).trans (f1 q q1)), sc_k hsc2 (fun q h1 h2 => f3 q (by omega) (by omega)), tg_k g2 (fun q h1 h2 => f3 q (by omega) (by omega))⟩
          · refine x_ci c_Dk_delete_64 ?_
            refine x_ri c_Dk_delete_66 ?_
            have hD : dlC true n nm (some l) = (66, none) := by unfold dlC; rw [if_pos rfl]; dsimp only; rw [if_neg hl, hfd]; dsimp only; rw [if_pos h61]
            exact ⟨by rw [hD], ⟨_, hr2, hk1⟩, by rw [hD]; exact ht2, (fun q q1 q2 => (f2 q (by omega) (by omega) (by omega)).trans (f1 q q1)), hsc2, g2⟩
