/-! what a search writes, the class -/
def wnt (W : List Int32) (t : Nat) : Bool := W.isEmpty || !decide (((mkL 0 W >>> (nI (t - 97) &&& 31)) &&& nI 1) = 0)
def vsB (t : Int32) (P : List tv) : List Int32 := P.flatMap (fun q => if q.1 = t then eb (nI 4) (vB q.2 8) else [])
def atB (ta : Bool) (t : Int32) (P : List tv) : List Int32 := eb (nI 48) (eb (nI 4) [t] ++ eb (nI 49) (if ta = true then [] else vsB t P))
def hsT (t : Int32) (P : List tv) : Bool := P.any (fun q => decide (q.1 = t))
def asB (ta : Bool) (W : List Int32) (P : List tv) : Nat → List Int32
  | 0 => []
  | j + 1 => asB ta W P j ++ (if wnt W (97 + j) = true ∧ hsT (nI (97 + j)) P = true then atB ta (nI (97 + j)) P else [])
theorem asB_s (ta : Bool) (W : List Int32) (P : List tv) (j : Nat) : asB ta W P (j + 1) = asB ta W P j ++ (if wnt W (97 + j) = true ∧ hsT (nI (97 + j)) P = true then atB ta (nI (97 + j)) P else []) := rfl
def enB (k : Nat) (ta : Bool) (W : List Int32) (l P : List tv) : List Int32 := eb (nI 48) (eb (nI 2) (idB k) ++ eb (nI 100) (eb (nI 4) (nB l) ++ eb (nI 48) (asB ta W P 6)))
/-- how many pairs are of that type -/
def cTy (t : Int32) (P : List tv) : Nat := (P.filter (fun q => decide (q.1 = t))).length
theorem cTy_c (t : Int32) (q : tv) (P : List tv) : cTy t (q :: P) = (if q.1 = t then 1 else 0) + cTy t P := by
  unfold cTy
  rw [List.filter_cons]
  by_cases h : q.1 = t
  · rw [if_pos (decide_eq_true h), if_pos h, List.length_cons]; omega
  · rw [if_neg (by rw [decide_eq_false h]; decide), if_neg h]; omega
theorem cTy_take (t : Int32) : ∀ (P : List tv) (k : Nat), cTy t (P.take k) ≤ cTy t P
  | [], k => by rw [List.take_nil]; exact Nat.le_refl _
  | q :: P, 0 => Nat.zero_le _
  | q :: P, k + 1 => by
    rw [List.take_succ_cons, cTy_c, cTy_c]
    have := cTy_take t P k
    omega
theorem vsB_app (t : Int32) (P : List tv) (q : tv) : vsB t (P ++ [q]) = vsB t P ++ (if q.1 = t then eb (nI 4) (vB q.2 8) else []) := by
  unfold vsB
  rw [List.flatMap_append]
  simp
theorem vsB_take {t : Int32} {P : List tv} {k : Nat} {q : tv} (h : P[k]? = some q) : vsB t (P.take (k + 1)) = vsB t (P.take k) ++ (if q.1 = t then eb (nI 4) (vB q.2 8) else []) := by
  rw [List.take_add_one, h]
  exact vsB_app t _ q
theorem cTy_take1 {t : Int32} {P : List tv} {k : Nat} {q : tv} (h : P[k]? = some q) (hq : q.1 = t) : cTy t (P.take k) + 1 ≤ cTy t P := by
  have h1 := cTy_take t P (k + 1)
  have h2 : cTy t (P.take (k + 1)) = cTy t (P.take k) + 1 := by
    rw [List.take_add_one, h]
    unfold cTy
    show (List.filter _ (P.take k ++ [q])).length = _
    rw [List.filter_append, List.length_append]
    show _ + (List.filter _ [q]).length = _
    rw [List.filter_cons, if_pos (decide_eq_true hq)]; rfl
  omega
theorem vsB_len (t : Int32) : ∀ (P : List tv), (vsB t P).length ≤ 10 * cTy t P
  | [] => Nat.le_refl _
  | q :: P => by
    have ih := vsB_len t P
    have hv := vB_len q.2 8
    show ((if q.1 = t then eb (nI 4) (vB q.2 8) else []) ++ vsB t P).length ≤ _
    rw [cTy_c, List.length_append]
    by_cases h : q.1 = t
    · rw [if_pos h, if_pos h]; unfold eb; simp only [List.length_cons]; omega
    · rw [if_neg h, if_neg h]; simp only [List.length_nil]; omega
theorem atB_len (ta : Bool) (t : Int32) (P : List tv) : (atB ta t P).length ≤ 7 + 10 * cTy t P := by
  have h := vsB_len t P
  unfold atB eb
  cases ta with
  | true => simp only [if_pos, List.length_cons, List.length_append, List.length_nil]; omega
  | false => rw [if_neg (by decide)]; simp only [List.length_cons, List.length_append, List.length_nil]; omega
/-- of the first j types -/
def cTs (P : List tv) : Nat → Nat
  | 0 => 0
  | j + 1 => cTs P j + cTy (nI (97 + j)) P
theorem cTs_s (P : List tv) (j : Nat) : cTs P (j + 1) = cTs P j + cTy (nI (97 + j)) P := rfl
theorem cTs_c (q : tv) (P : List tv) : ∀ j, j ≤ 6 → cTs (q :: P) j ≤ cTs P j + 1 ∧ ((∀ i, i < j → q.1 ≠ nI (97 + i)) → cTs (q :: P) j = cTs P j)
  | 0, _ => ⟨Nat.le_succ _, fun _ => rfl⟩
  | j + 1, hj => by
    obtain ⟨a, b⟩ := cTs_c q P j (by omega)
    rw [cTs_s, cTs_s, cTy_c]
    refine ⟨?_, fun h => ?_⟩
    · by_cases hq : q.1 = nI (97 + j)
      · rw [if_pos hq, b (fun i hi q2 => by have := (nI_eq (by omega) (by omega)).mp (q2.symm.trans hq); omega)]; omega
      · rw [if_neg hq]; omega
    · rw [if_neg (h j (by omega)), b (fun i hi => h i (by omega))]; omega
theorem cTs_le : ∀ (P : List tv) (j : Nat), j ≤ 6 → cTs P j ≤ P.length
  | [], j, _ => by
    have : ∀ j, cTs [] j = 0 := by
      intro j
      induction j with
      | zero => rfl
      | succ j ih => rw [cTs_s, ih]; rfl
    rw [this]; exact Nat.zero_le _
  | q :: P, j, hj => by
    have h1 := (cTs_c q P j hj).1
    have h2 := cTs_le P j hj
    rw [List.length_cons]; omega
theorem asB_len (ta : Bool) (W : List Int32) (P : List tv) : ∀ j, (asB ta W P j).length ≤ 7 * j + 10 * cTs P j
  | 0 => Nat.le_refl _
  | j + 1 => by
    have ih := asB_len ta W P j
    have ha := atB_len ta (nI (97 + j)) P
    rw [asB_s, List.length_append, cTs_s]
    split
    · omega
    · simp only [List.length_nil]; omega
theorem hbw_hsT {t : Int32} : ∀ {P : List tv}, (∀ q ∈ P, 0 ≤ q.2) → hbw t 0 9223372036854775807 P = hsT t P
  | [], _ => rfl
  | q :: P, h => by
    show (btw _ _ _ q || hbw _ _ _ P) = (decide (q.1 = t) || hsT t P)
    rw [hbw_hsT (fun p hp => h p (List.mem_cons_of_mem _ hp))]
    unfold btw
    rw [decide_eq_true (h q (List.mem_cons_self ..)), decide_eq_true (le_mx q.2)]
    simp
theorem and_1 (x : Int32) : x &&& nI 1 = 0 ∨ x &&& nI 1 = nI 1 := by
  obtain ⟨k, _, rfl⟩ := wb_of32 x
  rw [nx_and]
  rcases (by have := Nat.and_le_right (n := k) (m := 1); omega : k &&& 1 = 0 ∨ k &&& 1 = 1) with h | h
  · left; rw [h]; rfl
  · right; rw [h]
theorem wnt_63 : ∀ j, j < 6 → ¬ ((nI 63 >>> (nI j &&& 31)) &&& nI 1) = 0 := by decide +kernel
set_option maxRecDepth 100000 in
set_option maxHeartbeats 4000000 in
theorem y_Qu_wants (d : Nat) {μ : kc_M} {sc li : Int32} {ta : Bool} {W : List Int32} (hq : μ.1 127 = some (ce_Qu sc li ta (mkL (if W = [] then nI 63 else 0) W))) {t : Nat} (h1 : 97 ≤ t) (h2 : t ≤ 102) : kc_Y kt kC (d + 1) j_Qu_wants [.ref 127, .int (nI t)] μ (fun w μ' => w = some (.int (bI (wnt W t))) ∧ μ' = μ) := by
  refine ⟨Nat.le_of_ble_eq_true rfl, ?_⟩
  have key : (decide ((((mkL (if W = [] then nI 63 else 0) W) >>> (nI (t - 97) &&& 31)) &&& nI 1) = 0)) = !wnt W t := by
    unfold wnt
    cases W with
    | nil =>
      rw [if_pos rfl]
      show decide (((nI 63 >>> (nI (t - 97) &&& 31)) &&& nI 1) = 0) = _
      rw [decide_eq_false (wnt_63 (t - 97) (by omega))]; rfl
    | cons a W =>
      rw [if_neg (fun q => by cases q)]
      show _ = !(false || _)
      simp
  refine x_al c_Qu_wants_0 rfl ?_
  refine x_get c_Qu_wants_1 (by first | rfl | exact hq) rfl ?_
  refine x_il c_Qu_wants_4 rfl ?_
  refine x_ci c_Qu_wants_5 ?_
  first | refine x_isubN c_Qu_wants_7 (by omega) ?_ | refine x_isub c_Qu_wants_7 ?_
  refine x_ishr c_Qu_wants_8 ?_
  refine x_ci c_Qu_wants_9 ?_
  refine x_iand c_Qu_wants_10 ?_
  refine x_if_eq c_Qu_wants_11 (fun h11 => ?_) (fun h11 => ?_)
  · refine x_ci c_Qu_wants_18 ?_
    refine x_rz c_Qu_wants_19 (by first | decide | exact kz_n _) ?_
    first | exact ⟨by rw [show wnt W t = false by have := key; rw [decide_eq_true h11] at this; simpa using this.symm] <;> rfl, rfl⟩ | exact ⟨by rw [show wnt W t = true by have := key; rw [decide_eq_false h11] at this; simpa using this.symm] <;> rfl, rfl⟩
  · refine x_ci c_Qu_wants_14 ?_
    refine x_goto c_Qu_wants_15 ?_
    refine x_rz c_Qu_wants_19 (by first | decide | exact kz_n _) ?_
    first | exact ⟨by rw [show wnt W t = false by have := key; rw [decide_eq_true h11] at this; simpa using this.symm] <;> rfl, rfl⟩ | exact ⟨by rw [show wnt W t = true by have := key; rw [decide_eq_false h11] at this; simpa using this.symm] <;> rfl, rfl⟩
def wln (li k : Nat) : Bool := decide (li = 0) || decide (k ≤ li)
def scp (sc : Nat) : Option Nat → Bool
  | none => false
  | some m => if sc = 0 then decide (m = 0) else if sc = 1 then decide (m = 1) else true
set_option maxRecDepth 100000 in
set_option maxHeartbeats 4000000 in
theorem y_Qu_isWithinLimit (d : Nat) {μ : kc_M} {sc : Int32} {li : Nat} {ta : Bool} {wt : Int32} (hq : μ.1 127 = some (ce_Qu sc (nI li) ta wt)) (hl : li < 2 ^ 31) {k : Nat} (hk : k < 2 ^ 31) : kc_Y kt kC (d + 1) j_Qu_isWithinLimit [.ref 127, .int (nI k)] μ (fun w μ' => w = some (.int (bI (wln li k))) ∧ μ' = μ) := by
  refine ⟨Nat.le_of_ble_eq_true rfl, ?_⟩
  refine x_al c_Qu_isWithinLimit_0 rfl ?_
  refine x_get c_Qu_isWithinLimit_1 (by first | rfl | exact hq) rfl ?_
  refine x_ifN_eq c_Qu_isWithinLimit_4 (by omega) (fun h4 => ?_) (fun h4 => ?_)
  · refine x_ci c_Qu_isWithinLimit_15 ?_
    refine x_goto c_Qu_isWithinLimit_16 ?_
    refine x_rz c_Qu_isWithinLimit_20 (by first | decide | exact kz_n _) ?_
    first | exact ⟨by rw [show wln li k = true by unfold wln; rw [decide_eq_true h4]; rfl] <;> rfl, rfl⟩ | exact ⟨by rw [show wln li k = false by unfold wln; rw [decide_eq_false h4, decide_eq_false (by omega)]; rfl] <;> rfl, rfl⟩ | exact ⟨by rw [show wln li k = true by unfold wln; rw [decide_eq_true (show k ≤ li by omega)]; simp] <;> rfl, rfl⟩
  · refine x_il c_Qu_isWithinLimit_7 rfl ?_
    refine x_al c_Qu_isWithinLimit_8 rfl ?_
    refine x_get c_Qu_isWithinLimit_9 (by first | rfl | exact hq) rfl ?_
    refine x_cmN_gt c_Qu_isWithinLimit_12 (by omega) (by omega) (fun h12 => ?_) (fun h12 => ?_)
    · refine x_ci c_Qu_isWithinLimit_19 ?_
      refine x_rz c_Qu_isWithinLimit_20 (by first | decide | exact kz_n _) ?_
      first | exact ⟨by rw [show wln li k = true by unfold wln; rw [decide_eq_true h4]; rfl] <;> rfl, rfl⟩ | exact ⟨by rw [show wln li k = false by unfold wln; rw [decide_eq_false h4, decide_eq_false (by omega)]; rfl] <;> rfl, rfl⟩ | exact ⟨by rw [show wln li k = true by unfold wln; rw [decide_eq_true (show k ≤ li by omega)]; simp] <;> rfl, rfl⟩
    · refine x_ci c_Qu_isWithinLimit_15 ?_
      refine x_goto c_Qu_isWithinLimit_16 ?_
      refine x_rz c_Qu_isWithinLimit_20 (by first | decide | exact kz_n _) ?_
      first | exact ⟨by rw [show wln li k = true by unfold wln; rw [decide_eq_true h4]; rfl] <;> rfl, rfl⟩ | exact ⟨by rw [show wln li k = false by unfold wln; rw [decide_eq_false h4, decide_eq_false (by omega)]; rfl] <;> rfl, rfl⟩ | exact ⟨by rw [show wln li k = true by unfold wln; rw [decide_eq_true (show k ≤ li by omega)]; simp] <;> rfl, rfl⟩
set_option maxRecDepth 100000 in
set_option maxHeartbeats 4000000 in
theorem y_Qu_isInScope (d : Nat) {μ : kc_M} {sc : Nat} {li : Int32} {ta : Bool} {wt : Int32} (hq : μ.1 127 = some (ce_Qu (nI sc) li ta wt)) (hs : sc ≤ 2) {o : Option Nat} (ho : ∀ m, o = some m → m < 2 ^ 31) : kc_Y kt kC (d + 1) j_Qu_isInScope [.ref 127, .int (oI o)] μ (fun w μ' => w = some (.int (bI (scp sc o))) ∧ μ' = μ) := by
  refine ⟨Nat.le_of_ble_eq_true rfl, ?_⟩
  rcases (by omega : sc = 0 ∨ sc = 1 ∨ sc = 2) with rfl | rfl | rfl
  · cases o with
    | none =>
      refine x_al c_Qu_isInScope_0 rfl ?_
      refine x_get c_Qu_isInScope_1 (by first | rfl | exact hq) rfl ?_
      refine x_sw 32 c_Qu_isInScope_4 (rfl) ?_
      refine x_il c_Qu_isInScope_32 rfl ?_
      refine x_if_ne c_Qu_isInScope_33 (fun _ => ?_) (fun h => absurd h (by decide))
      refine x_ci c_Qu_isInScope_40 ?_
      refine x_rz c_Qu_isInScope_41 (by first | decide | exact kz_n _) ?_
      exact ⟨rfl, rfl⟩
    | some m =>
      have hm := ho m rfl
      refine x_al c_Qu_isInScope_0 rfl ?_
      refine x_get c_Qu_isInScope_1 (by first | rfl | exact hq) rfl ?_
      refine x_sw 32 c_Qu_isInScope_4 (rfl) ?_
      refine x_il c_Qu_isInScope_32 rfl ?_
      refine x_ifN_ne c_Qu_isInScope_33 (by omega) (fun h33 => ?_) (fun h33 => ?_)
      · refine x_ci c_Qu_isInScope_40 ?_
        refine x_rz c_Qu_isInScope_41 (by first | decide | exact kz_n _) ?_
        first | exact ⟨by rw [show scp 0 (some m) = true from decide_eq_true h33] <;> rfl, rfl⟩ | exact ⟨by rw [show scp 0 (some m) = false from decide_eq_false h33] <;> rfl, rfl⟩
      · refine x_ci c_Qu_isInScope_36 ?_
        refine x_goto c_Qu_isInScope_37 ?_
        refine x_rz c_Qu_isInScope_41 (by first | decide | exact kz_n _) ?_
        first | exact ⟨by rw [show scp 0 (some m) = true from decide_eq_true h33] <;> rfl, rfl⟩ | exact ⟨by rw [show scp 0 (some m) = false from decide_eq_false h33] <;> rfl, rfl⟩
  · cases o with
    | none =>
      refine x_al c_Qu_isInScope_0 rfl ?_
      refine x_get c_Qu_isInScope_1 (by first | rfl | exact hq) rfl ?_
      refine x_sw 42 c_Qu_isInScope_4 (rfl) ?_
      refine x_il c_Qu_isInScope_42 rfl ?_
      refine x_ci c_Qu_isInScope_43 ?_
      refine x_cm_ne c_Qu_isInScope_44 (fun _ => ?_) (fun h => absurd h (by decide))
      refine x_ci c_Qu_isInScope_51 ?_
      refine x_rz c_Qu_isInScope_52 (by first | decide | exact kz_n _) ?_
      exact ⟨rfl, rfl⟩
    | some m =>
      have hm := ho m rfl
      refine x_al c_Qu_isInScope_0 rfl ?_
      refine x_get c_Qu_isInScope_1 (by first | rfl | exact hq) rfl ?_
      refine x_sw 42 c_Qu_isInScope_4 (rfl) ?_
      refine x_il c_Qu_isInScope_42 rfl ?_
      refine x_ci c_Qu_isInScope_43 ?_
      refine x_cmN_ne c_Qu_isInScope_44 (by omega) (by omega) (fun h44 => ?_) (fun h44 => ?_)
      · refine x_ci c_Qu_isInScope_51 ?_
        refine x_rz c_Qu_isInScope_52 (by first | decide | exact kz_n _) ?_
        first | exact ⟨by rw [show scp 1 (some m) = true from decide_eq_true h44] <;> rfl, rfl⟩ | exact ⟨by rw [show scp 1 (some m) = false from decide_eq_false h44] <;> rfl, rfl⟩
      · refine x_ci c_Qu_isInScope_47 ?_
        refine x_goto c_Qu_isInScope_48 ?_
        refine x_rz c_Qu_isInScope_52 (by first | decide | exact kz_n _) ?_
        first | exact ⟨by rw [show scp 1 (some m) = true from decide_eq_true h44] <;> rfl, rfl⟩ | exact ⟨by rw [show scp 1 (some m) = false from decide_eq_false h44] <;> rfl, rfl⟩
  · cases o with
    | none =>
      refine x_al c_Qu_isInScope_0 rfl ?_
      refine x_get c_Qu_isInScope_1 (by first | rfl | exact hq) rfl ?_
      refine x_sw 53 c_Qu_isInScope_4 (rfl) ?_
      refine x_il c_Qu_isInScope_53 rfl ?_
      refine x_if_lt c_Qu_isInScope_54 (fun _ => ?_) (fun h => absurd (by decide) h)
      refine x_ci c_Qu_isInScope_61 ?_
      refine x_rz c_Qu_isInScope_62 (by first | decide | exact kz_n _) ?_
      exact ⟨rfl, rfl⟩
    | some m =>
      have hm := ho m rfl
      refine x_al c_Qu_isInScope_0 rfl ?_
      refine x_get c_Qu_isInScope_1 (by first | rfl | exact hq) rfl ?_
      refine x_sw 53 c_Qu_isInScope_4 (rfl) ?_
      refine x_il c_Qu_isInScope_53 rfl ?_
      refine x_ifN_lt c_Qu_isInScope_54 (by omega) (fun h => (by exfalso; omega)) (fun _ => ?_)
      refine x_ci c_Qu_isInScope_57 ?_
      refine x_goto c_Qu_isInScope_58 ?_
      refine x_rz c_Qu_isInScope_62 (by first | decide | exact kz_n _) ?_
      exact ⟨rfl, rfl⟩
set_option maxRecDepth 100000 in
set_option maxHeartbeats 4000000 in
theorem y_Dk_answerAttribute (d : Nat) {μ : kc_M} {lo so : Bool} (h0 : μ.1 0 = some (ce_Dk lo so)) {sc li : Int32} {ta : Bool} {wt : Int32} (hq : μ.1 127 = some (ce_Qu sc li ta wt)) {L : List Int32} (h : wL μ L) {a x y : Nat} {P : List tv} (hp : pa_at μ a x y 6 P) (n1 : a ≠ 3) (n1' : a ≠ 4) (n2 : x ≠ 3) (n2' : x ≠ 4) (n3 : y ≠ 3) (n3' : y ≠ 4) {ty : Int32} (hl : L.length + 7 + 10 * cTy ty P ≤ 460) : kc_Y kt kC (d + 4) j_Dk_answerAttribute [.ref 0, .ref a, .int ty] μ (fun w μ' => w = none ∧ wC μ μ' (L ++ atB ta ty P)) := by
  refine ⟨Nat.le_of_ble_eq_true rfl, ?_⟩
  obtain ⟨f, g, a1, a2, a3, a4, a5⟩ := id hp
  have cc := wC.re h
  have hct := cTy_take ty P
  have loop : ∀ m k (μ1 : kc_M), P.length - k = m → k ≤ P.length → ta = false → wC μ μ1 (((L ++ [nI 48, nI 0]) ++ eb (nI 4) [ty]) ++ nI 49 :: nI 0 :: vsB ty (P.take k)) → kc_X (kC j_Dk_answerAttribute) (kc_Y kt kC (d + 3)) (fun w μ' => w = none ∧ wC μ μ' (L ++ atB ta ty P)) 32 [some (.ref 0), some (.ref a), some (.int ty), some (.int (nI (L.length + 2))), some (.int (nI (((L ++ [nI 48, nI 0]) ++ eb (nI 4) [ty]).length + 2))), some (.int (nI k))] [] μ1 (0, 0) := by
    intro m
    induction m with
    | zero =>
      intro k μ1 hm hk hta cc
      have k0 := (cc.2 0 (by decide) (by decide)).trans h0
      have kq := (cc.2 127 (by decide) (by decide)).trans hq
      have ka1 := (cc.2 _ n1 n1').trans a1
      have ka2 := (cc.2 _ n2 n2').trans a2
      have ka3 := (cc.2 _ n3 n3').trans a3
      rw [List.take_of_length_le (by omega)] at cc
      refine x_il c_Dk_answerAttribute_32 rfl ?_
      refine x_al c_Dk_answerAttribute_34 rfl ?_
      refine x_get c_Dk_answerAttribute_35 (by first | rfl | exact k0 | exact kq | exact ka1 | exact ka2 | exact ka3 | exact cc.o) rfl ?_
      refine x_cmN_ge c_Dk_answerAttribute_38 (by omega) (by omega) (fun _ => ?_) (fun h => (by exfalso; omega))
      refine x_al c_Dk_answerAttribute_82 rfl ?_
      refine x_get c_Dk_answerAttribute_83 (by first | rfl | exact k0 | exact kq | exact ka1 | exact ka2 | exact ka3 | exact cc.o) rfl ?_
      refine x_il c_Dk_answerAttribute_86 rfl ?_
      refine x_cv1z _ c_Dk_answerAttribute_88 (by first | rfl | exact k0 | exact kq | exact ka1 | exact ka2 | exact ka3 | exact cc.o) (Nat.le_of_ble_eq_true rfl) (y_Wr_finish (d + 2) (L := ((L ++ [nI 48, nI 0]) ++ eb (nI 4) [ty])) (X := vsB ty P) (t := nI 49) (z := nI 0) rfl cc.1) ?_
      rintro _ μ8 ⟨rfl, c8⟩
      have cc := cc.to c8
      have k0 := (cc.2 0 (by decide) (by decide)).trans h0
      have kq := (cc.2 127 (by decide) (by decide)).trans hq
      show kc_X _ _ _ _ _ [] _ _
      refine x_al c_Dk_answerAttribute_91 rfl ?_
      refine x_get c_Dk_answerAttribute_92 (by first | rfl | exact k0 | exact kq | exact ka1 | exact ka2 | exact ka3 | exact cc.o) rfl ?_
      refine x_il c_Dk_answerAttribute_95 rfl ?_
      refine x_cv1z _ c_Dk_answerAttribute_96 (by first | rfl | exact k0 | exact kq | exact ka1 | exact ka2 | exact ka3 | exact cc.o) (Nat.le_of_ble_eq_true rfl) (y_Wr_finish (d + 2) (L := L) (X := eb (nI 4) [ty] ++ eb (nI 49) (vsB ty P)) (t := nI 48) (z := nI 0) (by simp only [eb, List.append_assoc, List.cons_append, List.nil_append]) cc.1) ?_
      rintro _ μ9 ⟨rfl, c9⟩
      have cc := cc.to c9
      show kc_X _ _ _ _ _ [] _ _
      refine x_ret c_Dk_answerAttribute_99 ?_
      exact ⟨rfl, by unfold atB; rw [if_neg (by rw [hta]; decide)]; exact cc⟩
    | succ m ih =>
      intro k μ1 hm hk hta cc
      have k0 := (cc.2 0 (by decide) (by decide)).trans h0
      have kq := (cc.2 127 (by decide) (by decide)).trans hq
      have ka1 := (cc.2 _ n1 n1').trans a1
      have ka2 := (cc.2 _ n2 n2').trans a2
      have ka3 := (cc.2 _ n3 n3').trans a3
      have hq2 := a4 k (by omega)
      have hnt := vsB_take (t := ty) hq2
      have hl1 := vsB_len ty (P.take k)
      have hl2 := hct k
      subst hta
      by_cases hty : f k = ty
      · have hl3 := cTy_take1 (t := ty) hq2 hty
        rw [if_pos hty] at hnt
        refine x_il c_Dk_answerAttribute_32 rfl ?_
        refine x_al c_Dk_answerAttribute_34 rfl ?_
        refine x_get c_Dk_answerAttribute_35 (by first | rfl | exact k0 | exact kq | exact ka1 | exact ka2 | exact ka3 | exact cc.o) rfl ?_
        refine x_cmN_ge c_Dk_answerAttribute_38 (by omega) (by omega) (fun h => (by exfalso; omega)) (fun _ => ?_)
        refine x_al c_Dk_answerAttribute_41 rfl ?_
        refine x_get c_Dk_answerAttribute_42 (by first | rfl | exact k0 | exact kq | exact ka1 | exact ka2 | exact ka3 | exact cc.o) rfl ?_
        refine x_get c_Dk_answerAttribute_45 (by first | rfl | exact k0 | exact kq | exact ka1 | exact ka2 | exact ka3 | exact cc.o) rfl ?_
        refine x_if_ne c_Dk_answerAttribute_48 (fun h => absurd (by decide) h) (fun _ => ?_)
        refine x_al c_Dk_answerAttribute_51 rfl ?_
        refine x_get c_Dk_answerAttribute_52 (by first | rfl | exact k0 | exact kq | exact ka1 | exact ka2 | exact ka3 | exact cc.o) rfl ?_
        refine x_il c_Dk_answerAttribute_55 rfl ?_
        refine x_ialdN c_Dk_answerAttribute_57 (by first | rfl | exact k0 | exact kq | exact ka1 | exact ka2 | exact ka3 | exact cc.o) (by omega) (by omega) ?_
        refine x_il c_Dk_answerAttribute_58 rfl ?_
        refine x_cm_ne c_Dk_answerAttribute_59 (fun h => absurd (hty) h) (fun _ => ?_)
        refine x_al c_Dk_answerAttribute_62 rfl ?_
        refine x_get c_Dk_answerAttribute_63 (by first | rfl | exact k0 | exact kq | exact ka1 | exact ka2 | exact ka3 | exact cc.o) rfl ?_
        refine x_al c_Dk_answerAttribute_66 rfl ?_
        refine x_get c_Dk_answerAttribute_67 (by first | rfl | exact k0 | exact kq | exact ka1 | exact ka2 | exact ka3 | exact cc.o) rfl ?_
        refine x_il c_Dk_answerAttribute_70 rfl ?_
        refine x_laldN c_Dk_answerAttribute_72 (by first | rfl | exact k0 | exact kq | exact ka1 | exact ka2 | exact ka3 | exact cc.o) (by omega) (by omega) ?_
        refine x_cv1z _ c_Dk_answerAttribute_73 (by first | rfl | exact k0 | exact kq | exact ka1 | exact ka2 | exact ka3 | exact cc.o) (Nat.le_of_ble_eq_true rfl) (y_Wr_value d cc.1 (by first | omega | (simp only [eb, List.length_append, List.length_cons, List.length_nil]; omega))) ?_
        rintro _ μ7 ⟨rfl, c7⟩
        have cc := cc.to c7
        show kc_X _ _ _ _ _ [] _ _
        first | refine x_incN [_, _, _, _, _, _] c_Dk_answerAttribute_76 rfl rfl ?_ | refine x_inc [_, _, _, _, _, _] c_Dk_answerAttribute_76 rfl rfl ?_
        refine x_goto c_Dk_answerAttribute_79 ?_
        refine ih (k + 1) _ (by omega) (by omega) rfl ?_
        rw [hnt]
        simp only [List.append_assoc, List.cons_append, List.nil_append] at cc ⊢
        exact cc
      · rw [if_neg hty, List.append_nil] at hnt
        refine x_il c_Dk_answerAttribute_32 rfl ?_
        refine x_al c_Dk_answerAttribute_34 rfl ?_
        refine x_get c_Dk_answerAttribute_35 (by first | rfl | exact k0 | exact kq | exact ka1 | exact ka2 | exact ka3 | exact cc.o) rfl ?_
        refine x_cmN_ge c_Dk_answerAttribute_38 (by omega) (by omega) (fun h => (by exfalso; omega)) (fun _ => ?_)
        refine x_al c_Dk_answerAttribute_41 rfl ?_
        refine x_get c_Dk_answerAttribute_42 (by first | rfl | exact k0 | exact kq | exact ka1 | exact ka2 | exact ka3 | exact cc.o) rfl ?_
        refine x_get c_Dk_answerAttribute_45 (by first | rfl | exact k0 | exact kq | exact ka1 | exact ka2 | exact ka3 | exact cc.o) rfl ?_
        refine x_if_ne c_Dk_answerAttribute_48 (fun h => absurd (by decide) h) (fun _ => ?_)
        refine x_al c_Dk_answerAttribute_51 rfl ?_
        refine x_get c_Dk_answerAttribute_52 (by first | rfl | exact k0 | exact kq | exact ka1 | exact ka2 | exact ka3 | exact cc.o) rfl ?_
        refine x_il c_Dk_answerAttribute_55 rfl ?_
        refine x_ialdN c_Dk_answerAttribute_57 (by first | rfl | exact k0 | exact kq | exact ka1 | exact ka2 | exact ka3 | exact cc.o) (by omega) (by omega) ?_
        refine x_il c_Dk_answerAttribute_58 rfl ?_
        refine x_cm_ne c_Dk_answerAttribute_59 (fun _ => ?_) (fun h => absurd h (hty))
        first | refine x_incN [_, _, _, _, _, _] c_Dk_answerAttribute_76 rfl rfl ?_ | refine x_inc [_, _, _, _, _, _] c_Dk_answerAttribute_76 rfl rfl ?_
        refine x_goto c_Dk_answerAttribute_79 ?_
        exact ih (k + 1) _ (by omega) (by omega) rfl (by rw [hnt]; exact cc)
  have none' : ∀ (μ1 : kc_M), ta = true → wC μ μ1 (((L ++ [nI 48, nI 0]) ++ eb (nI 4) [ty]) ++ [nI 49, nI 0]) → kc_X (kC j_Dk_answerAttribute) (kc_Y kt kC (d + 3)) (fun w μ' => w = none ∧ wC μ μ' (L ++ atB ta ty P)) 32 [some (.ref 0), some (.ref a), some (.int ty), some (.int (nI (L.length + 2))), some (.int (nI (((L ++ [nI 48, nI 0]) ++ eb (nI 4) [ty]).length + 2))), some (.int (nI 0))] [] μ1 (0, 0) := by
    intro μ1 hta cc
    have k0 := (cc.2 0 (by decide) (by decide)).trans h0
    have kq := (cc.2 127 (by decide) (by decide)).trans hq
    have ka1 := (cc.2 _ n1 n1').trans a1
    have ka2 := (cc.2 _ n2 n2').trans a2
    have ka3 := (cc.2 _ n3 n3').trans a3
    have fin : kc_X (kC j_Dk_answerAttribute) (kc_Y kt kC (d + 3)) (fun w μ' => w = none ∧ wC μ μ' (L ++ atB ta ty P)) 82 [some (.ref 0), some (.ref a), some (.int ty), some (.int (nI (L.length + 2))), some (.int (nI (((L ++ [nI 48, nI 0]) ++ eb (nI 4) [ty]).length + 2))), some (.int (nI 0))] [] μ1 (0, 0) := by
      refine x_al c_Dk_answerAttribute_82 rfl ?_
      refine x_get c_Dk_answerAttribute_83 (by first | rfl | exact k0 | exact kq | exact ka1 | exact ka2 | exact ka3 | exact cc.o) rfl ?_
      refine x_il c_Dk_answerAttribute_86 rfl ?_
      refine x_cv1z _ c_Dk_answerAttribute_88 (by first | rfl | exact k0 | exact kq | exact ka1 | exact ka2 | exact ka3 | exact cc.o) (Nat.le_of_ble_eq_true rfl) (y_Wr_finish (d + 2) (L := ((L ++ [nI 48, nI 0]) ++ eb (nI 4) [ty])) (X := []) (t := nI 49) (z := nI 0) rfl cc.1) ?_
      rintro _ μ8 ⟨rfl, c8⟩
      have cc := cc.to c8
      have k0 := (cc.2 0 (by decide) (by decide)).trans h0
      have kq := (cc.2 127 (by decide) (by decide)).trans hq
      show kc_X _ _ _ _ _ [] _ _
      refine x_al c_Dk_answerAttribute_91 rfl ?_
      refine x_get c_Dk_answerAttribute_92 (by first | rfl | exact k0 | exact kq | exact ka1 | exact ka2 | exact ka3 | exact cc.o) rfl ?_
      refine x_il c_Dk_answerAttribute_95 rfl ?_
      refine x_cv1z _ c_Dk_answerAttribute_96 (by first | rfl | exact k0 | exact kq | exact ka1 | exact ka2 | exact ka3 | exact cc.o) (Nat.le_of_ble_eq_true rfl) (y_Wr_finish (d + 2) (L := L) (X := eb (nI 4) [ty] ++ eb (nI 49) ([])) (t := nI 48) (z := nI 0) (by simp only [eb, List.append_assoc, List.cons_append, List.nil_append]) cc.1) ?_
      rintro _ μ9 ⟨rfl, c9⟩
      have cc := cc.to c9
      show kc_X _ _ _ _ _ [] _ _
      refine x_ret c_Dk_answerAttribute_99 ?_
      exact ⟨rfl, by unfold atB; rw [if_pos hta]; exact cc⟩
    refine x_il c_Dk_answerAttribute_32 rfl ?_
    refine x_al c_Dk_answerAttribute_34 rfl ?_
    refine x_get c_Dk_answerAttribute_35 (by first | rfl | exact k0 | exact kq | exact ka1 | exact ka2 | exact ka3 | exact cc.o) rfl ?_
    refine x_cmN_ge c_Dk_answerAttribute_38 (by omega) (by omega) (fun h38 => ?_) (fun h38 => ?_)
    · exact fin
    · refine x_al c_Dk_answerAttribute_41 rfl ?_
      refine x_get c_Dk_answerAttribute_42 (by first | rfl | exact k0 | exact kq | exact ka1 | exact ka2 | exact ka3 | exact cc.o) rfl ?_
      refine x_get c_Dk_answerAttribute_45 (by first | rfl | exact k0 | exact kq | exact ka1 | exact ka2 | exact ka3 | exact cc.o) rfl ?_
      refine x_if_ne c_Dk_answerAttribute_48 (fun _ => ?_) (fun h => absurd h (by rw [hta]; decide))
      exact fin
  refine x_al c_Dk_answerAttribute_0 rfl ?_
  refine x_get c_Dk_answerAttribute_1 (by first | rfl | exact h0 | exact k0 | exact cc.o) rfl ?_
  refine x_ci c_Dk_answerAttribute_4 ?_
  refine x_cv1z _ c_Dk_answerAttribute_6 (by first | rfl | exact h0 | exact k0 | exact cc.o) (Nat.le_of_ble_eq_true rfl) (y_Wr_begin (d + 1) cc.1 (by first | omega | (simp only [eb, List.length_append, List.length_cons, List.length_nil]; omega))) ?_
  rintro _ μ1 ⟨rfl, c1⟩
  have cc := cc.to c1
  have k0 := (cc.2 0 (by decide) (by decide)).trans h0
  show kc_X _ _ _ _ _ [.int (nI (L.length + 2))] _ _
  refine x_is [_, _, _, _, _, _] c_Dk_answerAttribute_9 rfl ?_
  refine x_al c_Dk_answerAttribute_10 rfl ?_
  refine x_get c_Dk_answerAttribute_11 (by first | rfl | exact h0 | exact k0 | exact cc.o) rfl ?_
  refine x_il c_Dk_answerAttribute_14 rfl ?_
  refine x_cv1z _ c_Dk_answerAttribute_15 (by first | rfl | exact h0 | exact k0 | exact cc.o) (Nat.le_of_ble_eq_true rfl) (y_Wr_letter d cc.1 (by first | omega | (simp only [eb, List.length_append, List.length_cons, List.length_nil]; omega))) ?_
  rintro _ μ2 ⟨rfl, c2⟩
  have cc := cc.to c2
  have k0 := (cc.2 0 (by decide) (by decide)).trans h0
  show kc_X _ _ _ _ _ [] _ _
  refine x_al c_Dk_answerAttribute_18 rfl ?_
  refine x_get c_Dk_answerAttribute_19 (by first | rfl | exact h0 | exact k0 | exact cc.o) rfl ?_
  refine x_ci c_Dk_answerAttribute_22 ?_
  refine x_cv1z _ c_Dk_answerAttribute_24 (by first | rfl | exact h0 | exact k0 | exact cc.o) (Nat.le_of_ble_eq_true rfl) (y_Wr_begin (d + 1) cc.1 (by first | omega | (simp only [eb, List.length_append, List.length_cons, List.length_nil]; omega))) ?_
  rintro _ μ3 ⟨rfl, c3⟩
  have cc := cc.to c3
  show kc_X _ _ _ _ _ [.int (nI (((L ++ [nI 48, nI 0]) ++ eb (nI 4) [ty]).length + 2))] _ _
  refine x_is [_, _, _, _, _, _] c_Dk_answerAttribute_27 rfl ?_
  refine x_ci c_Dk_answerAttribute_29 ?_
  refine x_is [_, _, _, _, _, _] c_Dk_answerAttribute_30 rfl ?_
  cases hta : ta with
  | true => exact hta ▸ none' _ hta cc
  | false => exact hta ▸ loop _ 0 _ rfl (Nat.zero_le _) hta cc
