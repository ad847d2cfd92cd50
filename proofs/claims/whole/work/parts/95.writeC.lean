/-! the bytes of an answer, as lists -/
def eb (t : Int32) (X : List Int32) : List Int32 := t :: nI X.length :: X
def vB (v : Int64) : Nat → List Int32
  | 0 => []
  | m + 1 => (if b8 v m = 0 then [] else [nI (b8 v m)]) ++ vB v m
theorem vB_len (v : Int64) : ∀ m, (vB v m).length ≤ m
  | 0 => Nat.zero_le _
  | m + 1 => by
    have := vB_len v m
    unfold vB
    rw [List.length_append]
    split
    · show 0 + _ ≤ _; omega
    · show 1 + _ ≤ _; omega
def sI : Nat → Int32
  | 0 => -8
  | m + 1 => nI (8 * m)
theorem sI_s : ∀ m, m < 8 → nI (8 * m) + (-8) = sI m := by decide +kernel
theorem set_ap (t z v : Int32) (X : List Int32) : ∀ L : List Int32, (L ++ t :: z :: X).set (L.length + 1) v = L ++ t :: v :: X
  | [] => rfl
  | a :: L => congrArg (a :: ·) (set_ap t z v X L)
theorem ho_set {M : List Int32} {w : Nat → Int32} (h : ∀ k, k < M.length → M[k]? = some (w k)) (i : Nat) (v : Int32) : ∀ k, k < (M.set i v).length → (M.set i v)[k]? = some (upd w i v k) := by
  intro k hk
  rw [List.length_set] at hk
  rw [List.getElem?_set]
  show _ = some (if k = i then v else w k)
  by_cases hki : i = k
  · rw [if_pos hki, if_pos (by omega), if_pos hki.symm]
  · rw [if_neg hki, if_neg (fun q => hki q.symm), h k hk]
theorem bt_nI (a : Nat) {i : Nat} (hi : i < 32) : (nI a).toBitVec.getLsbD i = a.testBit i := by
  show (BitVec.ofNat 32 a).getLsbD i = _
  rw [BitVec.getLsbD_ofNat, decide_eq_true hi, Bool.true_and]
theorem nI_and255 (k : Nat) : nI k &&& nI 255 = nI (k % 256) := by
  apply Int32.toBitVec_inj.mp
  apply BitVec.eq_of_toNat_eq
  rw [Int32.toBitVec_and, BitVec.toNat_and]
  show k % 2 ^ 32 &&& 255 = (k % 256) % 2 ^ 32
  rw [show (255 : Nat) = 2 ^ 8 - 1 from rfl, Nat.and_two_pow_sub_one_eq_mod]
  omega
theorem nI_ti {k : Nat} (hk : k < 2 ^ 31) : (nI k).toInt = k := Int32.toInt_ofNat_of_lt hk
theorem nI_div256 {k : Nat} (hk : k < 2 ^ 31) : nI k / nI 256 = nI (k / 256) := by
  apply Int32.toInt_inj.mp
  rw [Int32.toInt_div, nI_ti hk, nI_ti (by omega : k / 256 < 2 ^ 31), nI_ti (by decide : 256 < 2 ^ 31), ← Int.ofNat_tdiv]
  apply Int.bmod_eq_of_le <;> omega
theorem nI_mod256 {k : Nat} (hk : k < 2 ^ 31) : nI k - nI k / nI 256 * nI 256 = nI (k % 256) := by
  rw [nI_div256 hk]
  apply Int32.toInt_inj.mp
  rw [Int32.toInt_sub, Int32.toInt_mul, nI_ti hk, nI_ti (by omega : k / 256 < 2 ^ 31), nI_ti (by decide : 256 < 2 ^ 31), nI_ti (by omega : k % 256 < 2 ^ 31)]
  have hb : (((k / 256 : Nat) : Int) * ((256 : Nat) : Int)).bmod (2 ^ 32) = ((k / 256 : Nat) : Int) * ((256 : Nat) : Int) := Int.bmod_eq_of_le (by omega) (by omega)
  rw [hb, Int.bmod_eq_of_le (by omega) (by omega)]
  omega
def idB (k : Nat) : List Int32 := if 127 < k then [nI (k / 256), nI (k % 256)] else [nI (k % 256)]
theorem idB_len (k : Nat) : (idB k).length ≤ 2 := by unfold idB; split <;> exact Nat.le_of_ble_eq_true rfl
theorem nI_shr8 {k : Nat} (hk : k < 2 ^ 31) : nI k >>> (nI 8 &&& 31) = nI (k / 256) := by
  apply b_ext
  intro i hi
  rw [b_sshr 8 (by omega) _ hi]
  unfold bt
  rw [bt_nI _ hi, show k / 256 = k / 2 ^ 8 from rfl, Nat.testBit_div_two_pow]
  by_cases h : 8 + i < 32
  · rw [if_pos h, bt_nI _ h, Nat.add_comm]
  · rw [if_neg h, bt_nI _ (by omega), Nat.testBit_lt_two_pow hk, Nat.testBit_lt_two_pow (Nat.lt_of_lt_of_le hk (Nat.pow_le_pow_right (by decide) (by omega)))]
def pB (p : tv) : List Int32 := p.1 :: nI 61 :: vB p.2 8
def nB : List tv → List Int32
  | [] => []
  | p :: l => pB p ++ l.flatMap (fun q => nI 44 :: pB q)
theorem nB_app (p : tv) : ∀ l : List tv, nB (l ++ [p]) = nB l ++ ((if l.length = 0 then [] else [nI 44]) ++ pB p)
  | [] => by show pB p ++ [] = [] ++ ([] ++ pB p); simp
  | q :: l => by
    show pB q ++ (l ++ [p]).flatMap _ = (pB q ++ l.flatMap _) ++ (_ ++ pB p)
    rw [List.flatMap_append, if_neg (by rw [List.length_cons]; omega)]
    simp
theorem pB_len (p : tv) : (pB p).length ≤ 10 := by
  have := vB_len p.2 8
  show (vB p.2 8).length + 1 + 1 ≤ 10
  omega
theorem nB_len (l : List tv) : (nB l).length ≤ 11 * l.length := by
  have gen : ∀ l : List tv, (l.flatMap (fun q => nI 44 :: pB q)).length ≤ 11 * l.length := by
    intro l
    induction l with
    | nil => exact Nat.zero_le _
    | cons q l ih =>
      rw [List.flatMap_cons, List.length_append, List.length_cons, List.length_cons]
      have := pB_len q
      omega
  cases l with
  | nil => exact Nat.zero_le _
  | cons p l =>
    show (pB p ++ _).length ≤ _
    rw [List.length_append, List.length_cons]
    have := pB_len p
    have := gen l
    omega
theorem nB_take {l : List tv} {k : Nat} {p : tv} (h : l[k]? = some p) : nB (l.take (k + 1)) = nB (l.take k) ++ ((if k = 0 then [] else [nI 44]) ++ pB p) := by
  have hk : k < l.length := (List.getElem?_eq_some_iff.mp h).1
  rw [List.take_add_one, h]
  show nB (l.take k ++ [p]) = _
  rw [nB_app, List.length_take, Nat.min_eq_left (by omega)]
theorem ho_ap1 {L : List Int32} {w : Nat → Int32} (h : ∀ k, k < L.length → L[k]? = some (w k)) (b : Int32) : ∀ k, k < (L ++ [b]).length → (L ++ [b])[k]? = some (upd w L.length b k) := by
  intro k hk
  rw [List.length_append] at hk
  have hk : k < L.length + 1 := hk
  show _ = some (if k = L.length then b else w k)
  by_cases hkl : k = L.length
  · rw [if_pos hkl, hkl, List.getElem?_append_right (Nat.le_refl _), Nat.sub_self]; rfl
  · rw [if_neg hkl, List.getElem?_append_left (by omega), h k (by omega)]
/-- the class's answer so far -/
def wL (μ : kc_M) (L : List Int32) : Prop := ∃ w, wr_at μ w L.length ∧ (∀ k, k < L.length → L[k]? = some (w k)) ∧ L.length ≤ 460
def wC (μ μ' : kc_M) (L : List Int32) : Prop := wL μ' L ∧ ∀ q, q ≠ 3 → q ≠ 4 → μ'.1 q = μ.1 q
theorem wL.o {μ : kc_M} {L : List Int32} (h : wL μ L) : μ.1 3 = some (ce_Wr L.length) := by obtain ⟨_, h, _⟩ := h; exact h.1
theorem wC.o {μ μ' : kc_M} {L : List Int32} (h : wC μ μ' L) : μ'.1 3 = some (ce_Wr L.length) := h.1.o
theorem wC.re {μ : kc_M} {L : List Int32} (h : wL μ L) : wC μ μ L := ⟨h, fun _ _ _ => rfl⟩
theorem wC.to {μ μ1 μ2 : kc_M} {L L' : List Int32} (h1 : wC μ μ1 L) (h2 : wC μ1 μ2 L') : wC μ μ2 L' := ⟨h2.1, fun q q1 q2 => (h2.2 q q1 q2).trans (h1.2 q q1 q2)⟩
set_option maxRecDepth 100000 in
set_option maxHeartbeats 2000000 in
theorem y_Wr_put (d : Nat) {μ : kc_M} {L : List Int32} (h : wL μ L) (hl : L.length < 460) {b : Int32} : kc_Y kt kC (d + 1) j_Wr_put [.ref 3, .int b] μ (fun v μ' => v = none ∧ wC μ μ' (L ++ [b])) := by
  refine ⟨Nat.le_of_ble_eq_true rfl, ?_⟩
  obtain ⟨w, ⟨h1, h2⟩, h3, h4⟩ := h
  refine x_al c_Wr_put_0 rfl ?_
  refine x_get c_Wr_put_1 (by first | rfl | exact h1 | exact h2) rfl ?_
  refine x_al c_Wr_put_4 rfl ?_
  refine x_get c_Wr_put_5 (by first | rfl | exact h1 | exact h2) rfl ?_
  refine x_alenN c_Wr_put_8 (by first | rfl | exact h1 | exact h2) ?_
  refine x_cmN_ge c_Wr_put_9 (by omega) (by omega) (fun h => (by exfalso; omega)) (fun _ => ?_)
  refine x_al c_Wr_put_12 rfl ?_
  refine x_get c_Wr_put_13 (by first | rfl | exact h1 | exact h2) rfl ?_
  refine x_al c_Wr_put_16 rfl ?_
  refine x_get c_Wr_put_17 (by first | rfl | exact h1 | exact h2) rfl ?_
  refine x_il c_Wr_put_20 rfl ?_
  refine x_iastN c_Wr_put_21 (by first | rfl | exact h1 | exact h2) (by omega) (by omega) ?_
  refine x_al c_Wr_put_22 rfl ?_
  refine x_dup c_Wr_put_23 rfl ?_
  refine x_get c_Wr_put_24 (by first | rfl | exact h1 | exact h2) rfl ?_
  refine x_ci c_Wr_put_27 ?_
  first | refine x_iaddN c_Wr_put_28 ?_ | refine x_iadd c_Wr_put_28 ?_
  refine x_put [_, _] c_Wr_put_29 (by first | rfl | exact h1 | exact h2) ⟨Nat.le_of_ble_eq_true rfl, rfl, rfl⟩ rfl ?_
  refine x_ret c_Wr_put_32 ?_
  exact ⟨rfl, ⟨_, ⟨by rw [List.length_append]; rfl, rfl⟩, ho_ap1 h3 b, by rw [List.length_append]; exact hl⟩, fun q q1 q2 => (kc_gf q1).trans (kc_gf q2)⟩
set_option maxRecDepth 100000 in
set_option maxHeartbeats 2000000 in
theorem y_Wr_begin (d : Nat) {μ : kc_M} {L : List Int32} (h : wL μ L) (hl : L.length + 2 ≤ 460) {t : Int32} : kc_Y kt kC (d + 2) j_Wr_begin [.ref 3, .int t] μ (fun v μ' => v = some (.int (nI (L.length + 2))) ∧ wC μ μ' (L ++ [t, nI 0])) := by
  refine ⟨Nat.le_of_ble_eq_true rfl, ?_⟩
  refine x_al c_Wr_begin_0 rfl ?_
  refine x_il c_Wr_begin_1 rfl ?_
  refine x_cv1z _ c_Wr_begin_2 (by first | rfl | exact h.o | exact c2.o | exact c1.o) (Nat.le_of_ble_eq_true rfl) (y_Wr_put d h (by omega)) ?_
  rintro _ μ1 ⟨rfl, c1⟩
  show kc_X _ _ _ _ _ [] _ _
  refine x_al c_Wr_begin_5 rfl ?_
  refine x_ci c_Wr_begin_6 ?_
  refine x_cv1z _ c_Wr_begin_7 (by first | rfl | exact h.o | exact c2.o | exact c1.o) (Nat.le_of_ble_eq_true rfl) (y_Wr_put d c1.1 (by simp only [List.length_append, List.length_cons, List.length_nil]; omega)) ?_
  rintro _ μ2 ⟨rfl, c2⟩
  have c2 := c1.to c2
  rw [List.append_assoc] at c2
  show kc_X _ _ _ _ _ [] _ _
  refine x_al c_Wr_begin_10 rfl ?_
  refine x_get c_Wr_begin_11 (by first | rfl | exact h.o | exact c2.o | exact c1.o) rfl ?_
  refine x_ri c_Wr_begin_14 ?_
  exact ⟨by rw [List.length_append]; rfl, c2⟩
set_option maxRecDepth 100000 in
set_option maxHeartbeats 2000000 in
theorem y_Wr_finish (d : Nat) {μ : kc_M} {L X M : List Int32} {t z : Int32} (hM : M = L ++ t :: z :: X) (h : wL μ M) : kc_Y kt kC (d + 1) j_Wr_finish [.ref 3, .int (nI (L.length + 2))] μ (fun v μ' => v = none ∧ wC μ μ' (L ++ eb t X)) := by
  refine ⟨Nat.le_of_ble_eq_true rfl, ?_⟩
  subst hM
  obtain ⟨w, ⟨h1, h2⟩, h3, h4⟩ := h
  have hn : (L ++ t :: z :: X).length = L.length + 2 + X.length := by simp only [List.length_append, List.length_cons]; omega
  have h5 := ho_set h3 (L.length + 1) (nI X.length)
  rw [set_ap] at h5
  have hn2 : (L ++ eb t X).length = L.length + 2 + X.length := by unfold eb; simp only [List.length_append, List.length_cons]; omega
  rw [hn] at h1 h4
  refine x_il c_Wr_finish_0 rfl ?_
  refine x_ifN_le c_Wr_finish_1 (by omega) (fun h => (by exfalso; omega)) (fun _ => ?_)
  refine x_il c_Wr_finish_4 rfl ?_
  refine x_al c_Wr_finish_5 rfl ?_
  refine x_get c_Wr_finish_6 (by first | rfl | exact h1 | exact h2) rfl ?_
  refine x_cmN_gt c_Wr_finish_9 (by omega) (by omega) (fun h => (by exfalso; omega)) (fun _ => ?_)
  refine x_al c_Wr_finish_12 rfl ?_
  refine x_get c_Wr_finish_13 (by first | rfl | exact h1 | exact h2) rfl ?_
  refine x_il c_Wr_finish_16 rfl ?_
  refine x_ci c_Wr_finish_17 ?_
  first | refine x_isubN c_Wr_finish_18 (by omega) ?_ | refine x_isub c_Wr_finish_18 ?_
  refine x_al c_Wr_finish_19 rfl ?_
  refine x_get c_Wr_finish_20 (by first | rfl | exact h1 | exact h2) rfl ?_
  refine x_il c_Wr_finish_23 rfl ?_
  first | refine x_isubN c_Wr_finish_24 (by omega) ?_ | refine x_isub c_Wr_finish_24 ?_
  refine x_iastN c_Wr_finish_25 (by first | rfl | exact h1 | exact h2) (by omega) (by omega) ?_
  refine x_ret c_Wr_finish_26 ?_
  exact ⟨rfl, ⟨_, ⟨by rw [hn2]; exact h1, rfl⟩, by rw [show L.length + 2 - 1 = L.length + 1 by omega, show L.length + 2 + X.length - (L.length + 2) = X.length by omega]; exact h5, by rw [hn2]; exact h4⟩, fun q q1 q2 => kc_gf q2⟩
set_option maxRecDepth 100000 in
set_option maxHeartbeats 2000000 in
theorem y_Wr_number (d : Nat) {μ : kc_M} {L : List Int32} (h : wL μ L) (hl : L.length + 4 ≤ 460) {k : Nat} (hk : k < 2 ^ 31) : kc_Y kt kC (d + 3) j_Wr_number [.ref 3, .int (nI k)] μ (fun v μ' => v = none ∧ wC μ μ' (L ++ eb (nI 2) (idB k))) := by
  refine ⟨Nat.le_of_ble_eq_true rfl, ?_⟩
  refine x_al c_Wr_number_0 rfl ?_
  refine x_ci c_Wr_number_1 ?_
  refine x_cv1z _ c_Wr_number_2 (by first | rfl | exact h.o | exact cc.o) (Nat.le_of_ble_eq_true rfl) (y_Wr_begin d h (by omega)) ?_
  rintro _ μ1 ⟨rfl, cc⟩
  show kc_X _ _ _ _ _ [.int (nI (L.length + 2))] _ _
  refine x_is [_, _, _] c_Wr_number_5 rfl ?_
  refine x_il c_Wr_number_6 rfl ?_
  refine x_ci c_Wr_number_7 ?_
  refine x_cmN_le c_Wr_number_9 (by omega) (by omega) (fun h9 => ?_) (fun h9 => ?_)
  · refine x_al c_Wr_number_20 rfl ?_
    refine x_il c_Wr_number_21 rfl ?_
    refine x_ci c_Wr_number_22 ?_
    refine x_iand c_Wr_number_25 ?_
    show kc_X _ _ _ _ _ [.int (nI k &&& nI 255), .ref 3] _ _
    rw [nI_and255]
    refine x_cv1z _ c_Wr_number_26 (by first | rfl | exact h.o | exact cc.o) (Nat.le_of_ble_eq_true rfl) (y_Wr_put (d + 1) cc.1 (by simp only [List.length_append, List.length_cons, List.length_nil]; omega)) ?_
    rintro _ μ3 ⟨rfl, c2⟩
    have cc := cc.to c2
    show kc_X _ _ _ _ _ [] _ _
    refine x_al c_Wr_number_29 rfl ?_
    refine x_il c_Wr_number_30 rfl ?_
    refine x_cv1z _ c_Wr_number_31 (by first | rfl | exact h.o | exact cc.o) (Nat.le_of_ble_eq_true rfl) (y_Wr_finish (d + 1) (L := L) (X := idB k) (t := nI 2) (z := nI 0) (by unfold idB; first | (rw [if_pos (by omega)]; simp only [List.append_assoc, List.cons_append, List.nil_append]) | (rw [if_neg (by omega)]; simp only [List.append_assoc, List.cons_append, List.nil_append])) cc.1) ?_
    rintro _ μ9 ⟨rfl, c9⟩
    have cc := cc.to c9
    show kc_X _ _ _ _ _ [] _ _
    refine x_ret c_Wr_number_34 ?_
    exact ⟨rfl, cc⟩
  · refine x_al c_Wr_number_12 rfl ?_
    refine x_il c_Wr_number_13 rfl ?_
    refine x_ci c_Wr_number_14 ?_
    refine x_ishr c_Wr_number_16 ?_
    show kc_X _ _ _ _ _ [.int (nI k >>> (nI 8 &&& 31)), .ref 3] _ _
    rw [nI_shr8 hk]
    refine x_cv1z _ c_Wr_number_17 (by first | rfl | exact h.o | exact cc.o) (Nat.le_of_ble_eq_true rfl) (y_Wr_put (d + 1) cc.1 (by simp only [List.length_append, List.length_cons, List.length_nil]; omega)) ?_
    rintro _ μ2 ⟨rfl, c2⟩
    have cc := cc.to c2
    show kc_X _ _ _ _ _ [] _ _
    refine x_al c_Wr_number_20 rfl ?_
    refine x_il c_Wr_number_21 rfl ?_
    refine x_ci c_Wr_number_22 ?_
    refine x_iand c_Wr_number_25 ?_
    show kc_X _ _ _ _ _ [.int (nI k &&& nI 255), .ref 3] _ _
    rw [nI_and255]
    refine x_cv1z _ c_Wr_number_26 (by first | rfl | exact h.o | exact cc.o) (Nat.le_of_ble_eq_true rfl) (y_Wr_put (d + 1) cc.1 (by simp only [List.length_append, List.length_cons, List.length_nil]; omega)) ?_
    rintro _ μ3 ⟨rfl, c2⟩
    have cc := cc.to c2
    show kc_X _ _ _ _ _ [] _ _
    refine x_al c_Wr_number_29 rfl ?_
    refine x_il c_Wr_number_30 rfl ?_
    refine x_cv1z _ c_Wr_number_31 (by first | rfl | exact h.o | exact cc.o) (Nat.le_of_ble_eq_true rfl) (y_Wr_finish (d + 1) (L := L) (X := idB k) (t := nI 2) (z := nI 0) (by unfold idB; first | (rw [if_pos (by omega)]; simp only [List.append_assoc, List.cons_append, List.nil_append]) | (rw [if_neg (by omega)]; simp only [List.append_assoc, List.cons_append, List.nil_append])) cc.1) ?_
    rintro _ μ9 ⟨rfl, c9⟩
    have cc := cc.to c9
    show kc_X _ _ _ _ _ [] _ _
    refine x_ret c_Wr_number_34 ?_
    exact ⟨rfl, cc⟩
set_option maxRecDepth 100000 in
set_option maxHeartbeats 2000000 in
theorem y_Wr_letter (d : Nat) {μ : kc_M} {L : List Int32} (h : wL μ L) (hl : L.length + 3 ≤ 460) {b : Int32} : kc_Y kt kC (d + 3) j_Wr_letter [.ref 3, .int b] μ (fun v μ' => v = none ∧ wC μ μ' (L ++ eb (nI 4) [b])) := by
  refine ⟨Nat.le_of_ble_eq_true rfl, ?_⟩
  refine x_al c_Wr_letter_0 rfl ?_
  refine x_ci c_Wr_letter_1 ?_
  refine x_cv1z _ c_Wr_letter_2 (by first | rfl | exact h.o | exact cc.o) (Nat.le_of_ble_eq_true rfl) (y_Wr_begin d h (by omega)) ?_
  rintro _ μ1 ⟨rfl, cc⟩
  show kc_X _ _ _ _ _ [.int (nI (L.length + 2))] _ _
  refine x_is [_, _, _] c_Wr_letter_5 rfl ?_
  refine x_al c_Wr_letter_6 rfl ?_
  refine x_il c_Wr_letter_7 rfl ?_
  refine x_cv1z _ c_Wr_letter_8 (by first | rfl | exact h.o | exact cc.o) (Nat.le_of_ble_eq_true rfl) (y_Wr_put (d + 1) cc.1 (by simp only [List.length_append, List.length_cons, List.length_nil]; omega)) ?_
  rintro _ μ2 ⟨rfl, c2⟩
  have cc := cc.to c2
  show kc_X _ _ _ _ _ [] _ _
  refine x_al c_Wr_letter_11 rfl ?_
  refine x_il c_Wr_letter_12 rfl ?_
  refine x_cv1z _ c_Wr_letter_13 (by first | rfl | exact h.o | exact cc.o) (Nat.le_of_ble_eq_true rfl) (y_Wr_finish (d + 1) (L := L) (X := [b]) (t := nI 4) (z := nI 0) (by simp only [List.append_assoc, List.cons_append, List.nil_append]) cc.1) ?_
  rintro _ μ9 ⟨rfl, c9⟩
  have cc := cc.to c9
  show kc_X _ _ _ _ _ [] _ _
  refine x_ret c_Wr_letter_16 ?_
  exact ⟨rfl, cc⟩
theorem vB_s (v : Int64) (m : Nat) : vB v (m + 1) = (if b8 v m = 0 then [] else [nI (b8 v m)]) ++ vB v m := rfl
set_option maxRecDepth 100000 in
set_option maxHeartbeats 2000000 in
theorem y_Wr_putValue (d : Nat) {μ : kc_M} {L : List Int32} (h : wL μ L) (hl : L.length + 8 ≤ 460) {x : Int64} : kc_Y kt kC (d + 2) j_Wr_putValue [.ref 3, .long x] μ (fun v μ' => v = none ∧ wC μ μ' (L ++ vB x 8)) := by
  refine ⟨Nat.le_of_ble_eq_true rfl, ?_⟩
  have loop : ∀ m, m ≤ 8 → ∀ (M : List Int32) (μ1 : kc_M) (jk : Option Value), wC μ μ1 M → M ++ vB x m = L ++ vB x 8 → M.length + m ≤ 460 → kc_X (kC j_Wr_putValue) (kc_Y kt kC (d + 1)) (fun v μ' => v = none ∧ wC μ μ' (L ++ vB x 8)) 3 [some (.ref 3), some (.long x), none, some (.int (sI m)), jk] [] μ1 (0, 0) := by
    intro m
    induction m with
    | zero =>
      intro _ M μ1 jk cc hR hl
      rw [show M ++ vB x 0 = M from List.append_nil M] at hR
      refine x_il c_Wr_putValue_3 rfl ?_
      refine x_if_lt c_Wr_putValue_4 (fun _ => ?_) (fun h => absurd (by decide) h)
      refine x_ret c_Wr_putValue_34 ?_
      exact ⟨rfl, hR ▸ cc⟩
    | succ m ih =>
      intro hm M μ1 jk cc hR hl
      have hb := b8_lt x m
      rw [vB_s] at hR
      have hs := sI_s m (by omega)
      show kc_X (kC j_Wr_putValue) (kc_Y kt kC (d + 1)) (fun v μ' => v = none ∧ wC μ μ' (L ++ vB x 8)) 3 [some (.ref 3), some (.long x), none, some (.int (nI (8 * m))), jk] [] μ1 (0, 0)
      refine x_il c_Wr_putValue_3 rfl ?_
      refine x_ifN_lt c_Wr_putValue_4 (by omega) (fun h => (by exfalso; omega)) (fun _ => ?_)
      refine x_ll c_Wr_putValue_7 rfl ?_
      refine x_il c_Wr_putValue_8 rfl ?_
      refine x_lshr c_Wr_putValue_9 ?_
      refine x_l2i c_Wr_putValue_10 ?_
      refine x_ci c_Wr_putValue_11 ?_
      refine x_iand c_Wr_putValue_14 ?_
      show kc_X _ _ _ _ _ [.int ((x >>> ((nI (8 * m)).toInt64 &&& 63)).toInt32 &&& nI 255)] _ _
      rw [l2i_and]
      show kc_X _ _ _ _ _ [.int (nI (b8 x m))] _ _
      refine x_is [_, _, _, _, _] c_Wr_putValue_15 rfl ?_
      refine x_il c_Wr_putValue_17 rfl ?_
      refine x_ifN_eq c_Wr_putValue_19 (by omega) (fun h19 => ?_) (fun h19 => ?_)
      · refine x_inc [_, _, _, _, _] c_Wr_putValue_28 rfl rfl ?_
        refine x_goto c_Wr_putValue_31 ?_
        show kc_X (kC j_Wr_putValue) (kc_Y kt kC (d + 1)) (fun v μ' => v = none ∧ wC μ μ' (L ++ vB x 8)) 3 [some (.ref 3), some (.long x), none, some (.int (nI (8 * m) + (-8))), some (.int (nI (b8 x m)))] [] _ (0, 0)
        rw [hs]
        first | exact ih (by omega) _ _ _ cc (by rw [if_pos h19] at hR; exact hR) (by omega) | exact ih (by omega) _ _ _ cc (by rw [if_neg h19] at hR; rw [List.append_assoc]; exact hR) (by rw [List.length_append]; show M.length + 1 + m ≤ 460; omega)
      · refine x_al c_Wr_putValue_22 rfl ?_
        refine x_il c_Wr_putValue_23 rfl ?_
        refine x_cv1z _ c_Wr_putValue_25 (by first | rfl | exact cc.o) (Nat.le_of_ble_eq_true rfl) (y_Wr_put d cc.1 (by omega)) ?_
        rintro _ μ2 ⟨rfl, c2⟩
        have cc := cc.to c2
        show kc_X _ _ _ _ _ [] _ _
        refine x_inc [_, _, _, _, _] c_Wr_putValue_28 rfl rfl ?_
        refine x_goto c_Wr_putValue_31 ?_
        show kc_X (kC j_Wr_putValue) (kc_Y kt kC (d + 1)) (fun v μ' => v = none ∧ wC μ μ' (L ++ vB x 8)) 3 [some (.ref 3), some (.long x), none, some (.int (nI (8 * m) + (-8))), some (.int (nI (b8 x m)))] [] _ (0, 0)
        rw [hs]
        first | exact ih (by omega) _ _ _ cc (by rw [if_pos h19] at hR; exact hR) (by omega) | exact ih (by omega) _ _ _ cc (by rw [if_neg h19] at hR; rw [List.append_assoc]; exact hR) (by rw [List.length_append]; show M.length + 1 + m ≤ 460; omega)
  refine x_ci c_Wr_putValue_0 ?_
  refine x_is [_, _, _, _, _] c_Wr_putValue_2 rfl ?_
  exact loop 8 (by omega) L μ _ (wC.re h) rfl hl
set_option maxRecDepth 100000 in
set_option maxHeartbeats 2000000 in
theorem y_Wr_value (d : Nat) {μ : kc_M} {L : List Int32} (h : wL μ L) (hl : L.length + 10 ≤ 460) {x : Int64} : kc_Y kt kC (d + 3) j_Wr_value [.ref 3, .long x] μ (fun v μ' => v = none ∧ wC μ μ' (L ++ eb (nI 4) (vB x 8))) := by
  refine ⟨Nat.le_of_ble_eq_true rfl, ?_⟩
  refine x_al c_Wr_value_0 rfl ?_
  refine x_ci c_Wr_value_1 ?_
  refine x_cv1z _ c_Wr_value_2 (by first | rfl | exact h.o | exact cc.o) (Nat.le_of_ble_eq_true rfl) (y_Wr_begin d h (by omega)) ?_
  rintro _ μ1 ⟨rfl, cc⟩
  show kc_X _ _ _ _ _ [.int (nI (L.length + 2))] _ _
  refine x_is [_, _, _, _] c_Wr_value_5 rfl ?_
  refine x_al c_Wr_value_6 rfl ?_
  refine x_ll c_Wr_value_7 rfl ?_
  refine x_cv1z _ c_Wr_value_8 (by first | rfl | exact h.o | exact cc.o) (Nat.le_of_ble_eq_true rfl) (y_Wr_putValue d cc.1 (by simp only [List.length_append, List.length_cons, List.length_nil]; omega)) ?_
  rintro _ μ2 ⟨rfl, c2⟩
  have cc := cc.to c2
  show kc_X _ _ _ _ _ [] _ _
  refine x_al c_Wr_value_11 rfl ?_
  refine x_il c_Wr_value_12 rfl ?_
  refine x_cv1z _ c_Wr_value_13 (by first | rfl | exact h.o | exact cc.o) (Nat.le_of_ble_eq_true rfl) (y_Wr_finish (d + 1) (L := L) (X := vB x 8) (t := nI 4) (z := nI 0) (by simp only [List.append_assoc, List.cons_append, List.nil_append]) cc.1) ?_
  rintro _ μ9 ⟨rfl, c9⟩
  have cc := cc.to c9
  show kc_X _ _ _ _ _ [] _ _
  refine x_ret c_Wr_value_16 ?_
  exact ⟨rfl, cc⟩
set_option maxRecDepth 100000 in
set_option maxHeartbeats 2000000 in
theorem y_Wr_name (d : Nat) {μ : kc_M} {L : List Int32} (h : wL μ L) (hl : L.length + 46 ≤ 460) {a t v : Nat} {l : List tv} (hn : nm_at μ a t v l) (n1 : a ≠ 3) (n1' : a ≠ 4) (n2 : t ≠ 3) (n2' : t ≠ 4) (n3 : v ≠ 3) (n3' : v ≠ 4) : kc_Y kt kC (d + 3) j_Wr_name [.ref 3, .ref a] μ (fun v μ' => v = none ∧ wC μ μ' (L ++ eb (nI 4) (nB l))) := by
  refine ⟨Nat.le_of_ble_eq_true rfl, ?_⟩
  obtain ⟨f, g, a1, a2, a3, a4, a5⟩ := hn
  have loop : ∀ m k (μ1 : kc_M), l.length - k = m → k ≤ l.length → wC μ μ1 (L ++ nI 4 :: nI 0 :: nB (l.take k)) → μ1.1 a = some (ce_Nm t v (nI l.length)) → μ1.1 t = some (ce_I 4 f) → μ1.1 v = some (ce_L 4 g) → kc_X (kC j_Wr_name) (kc_Y kt kC (d + 2)) (fun v μ' => v = none ∧ wC μ μ' (L ++ eb (nI 4) (nB l))) 8 [some (.ref 3), some (.ref a), some (.int (nI (L.length + 2))), some (.int (nI k))] [] μ1 (0, 0) := by
    intro m
    induction m with
    | zero =>
      intro k μ1 hm hk cc a1 a2 a3
      have hk : k = l.length := by omega
      subst hk
      rw [List.take_length] at cc
      refine x_il c_Wr_name_8 rfl ?_
      refine x_al c_Wr_name_9 rfl ?_
      refine x_get c_Wr_name_10 (by first | rfl | exact cc.o | exact a1) rfl ?_
      refine x_cmN_ge c_Wr_name_13 (by omega) (by omega) (fun _ => ?_) (fun h => (by exfalso; omega))
      refine x_al c_Wr_name_58 rfl ?_
      refine x_il c_Wr_name_59 rfl ?_
      refine x_cv1z _ c_Wr_name_60 (by first | rfl | exact cc.o | exact a1) (Nat.le_of_ble_eq_true rfl) (y_Wr_finish (d + 1) (L := L) (X := nB l) (t := nI 4) (z := nI 0) rfl cc.1) ?_
      rintro _ μ9 ⟨rfl, c9⟩
      have cc := cc.to c9
      show kc_X _ _ _ _ _ [] _ _
      refine x_ret c_Wr_name_63 ?_
      exact ⟨rfl, cc⟩
    | succ m ih =>
      intro k μ1 hm hk cc a1 a2 a3
      have hl1 := nB_len (l.take k)
      rw [List.length_take, Nat.min_eq_left hk] at hl1
      have hnt := nB_take (a4 k (by omega))
      have fin : ∀ (μ2 : kc_M) (M : List Int32), wC μ μ2 (M ++ [f k] ++ [nI 61]) → M = (L ++ nI 4 :: nI 0 :: nB (l.take k)) ++ (if k = 0 then [] else [nI 44]) → μ2.1 a = some (ce_Nm t v (nI l.length)) → μ2.1 t = some (ce_I 4 f) → μ2.1 v = some (ce_L 4 g) → kc_X (kC j_Wr_name) (kc_Y kt kC (d + 2)) (fun v μ' => v = none ∧ wC μ μ' (L ++ eb (nI 4) (nB l))) 42 [some (.ref 3), some (.ref a), some (.int (nI (L.length + 2))), some (.int (nI k))] [] μ2 (0, 0) := by
        intro μ2 M cc hM a1 a2 a3
        have hML : M.length ≤ L.length + 2 + 11 * k + 1 := by rw [hM]; simp only [List.length_append, List.length_cons]; split <;> simp only [List.length_cons, List.length_nil] <;> omega
        refine x_al c_Wr_name_42 rfl ?_
        refine x_al c_Wr_name_43 rfl ?_
        refine x_get c_Wr_name_44 (by first | rfl | exact cc.o | exact a1 | exact a3) rfl ?_
        refine x_il c_Wr_name_47 rfl ?_
        refine x_laldN c_Wr_name_48 (by first | rfl | exact cc.o | exact a1 | exact a3) (by omega) (by omega) ?_
        refine x_cv1z _ c_Wr_name_49 (by first | rfl | exact cc.o | exact a1 | exact a3) (Nat.le_of_ble_eq_true rfl) (y_Wr_putValue d cc.1 (by simp only [List.length_append, List.length_cons, List.length_nil]; omega)) ?_
        rintro _ μ5 ⟨rfl, c2⟩
        have a1 := (c2.2 _ n1 n1').trans a1
        have a2 := (c2.2 _ n2 n2').trans a2
        have a3 := (c2.2 _ n3 n3').trans a3
        have cc := cc.to c2
        show kc_X _ _ _ _ _ [] _ _
        first | refine x_incN [_, _, _, _] c_Wr_name_52 rfl rfl ?_ | refine x_inc [_, _, _, _] c_Wr_name_52 rfl rfl ?_
        refine x_goto c_Wr_name_55 ?_
        refine ih (k + 1) _ (by omega) (by omega) ?_ a1 a2 a3
        have he : L ++ nI 4 :: nI 0 :: nB (l.take (k + 1)) = M ++ [f k] ++ [nI 61] ++ vB (g k) 8 := by rw [hnt, hM]; unfold pB; simp only [List.append_assoc, List.cons_append, List.nil_append]
        rw [he]; exact cc
      refine x_il c_Wr_name_8 rfl ?_
      refine x_al c_Wr_name_9 rfl ?_
      refine x_get c_Wr_name_10 (by first | rfl | exact cc.o | exact a1 | exact a2) rfl ?_
      refine x_cmN_ge c_Wr_name_13 (by omega) (by omega) (fun h => (by exfalso; omega)) (fun _ => ?_)
      refine x_il c_Wr_name_16 rfl ?_
      refine x_ifN_le c_Wr_name_17 (by omega) (fun h17 => ?_) (fun h17 => ?_)
      · refine x_al c_Wr_name_26 rfl ?_
        refine x_al c_Wr_name_27 rfl ?_
        refine x_get c_Wr_name_28 (by first | rfl | exact cc.o | exact a1 | exact a2) rfl ?_
        refine x_il c_Wr_name_31 rfl ?_
        refine x_ialdN c_Wr_name_32 (by first | rfl | exact cc.o | exact a1 | exact a2) (by omega) (by omega) ?_
        refine x_cv1z _ c_Wr_name_33 (by first | rfl | exact cc.o | exact a1 | exact a2) (Nat.le_of_ble_eq_true rfl) (y_Wr_put (d + 1) cc.1 (by simp only [List.length_append, List.length_cons, List.length_nil]; omega)) ?_
        rintro _ μ3 ⟨rfl, c2⟩
        have a1 := (c2.2 _ n1 n1').trans a1
        have a2 := (c2.2 _ n2 n2').trans a2
        have a3 := (c2.2 _ n3 n3').trans a3
        have cc := cc.to c2
        show kc_X _ _ _ _ _ [] _ _
        refine x_al c_Wr_name_36 rfl ?_
        refine x_ci c_Wr_name_37 ?_
        refine x_cv1z _ c_Wr_name_39 (by first | rfl | exact cc.o | exact a1 | exact a2) (Nat.le_of_ble_eq_true rfl) (y_Wr_put (d + 1) cc.1 (by simp only [List.length_append, List.length_cons, List.length_nil]; omega)) ?_
        rintro _ μ4 ⟨rfl, c2⟩
        have a1 := (c2.2 _ n1 n1').trans a1
        have a2 := (c2.2 _ n2 n2').trans a2
        have a3 := (c2.2 _ n3 n3').trans a3
        have cc := cc.to c2
        show kc_X _ _ _ _ _ [] _ _
        first | exact fin _ _ cc (by rw [if_neg (by omega)]) a1 a2 a3 | exact fin _ _ cc (by rw [if_pos (by omega), List.append_nil]) a1 a2 a3
      · refine x_al c_Wr_name_20 rfl ?_
        refine x_ci c_Wr_name_21 ?_
        refine x_cv1z _ c_Wr_name_23 (by first | rfl | exact cc.o | exact a1 | exact a2) (Nat.le_of_ble_eq_true rfl) (y_Wr_put (d + 1) cc.1 (by simp only [List.length_append, List.length_cons, List.length_nil]; omega)) ?_
        rintro _ μ2 ⟨rfl, c2⟩
        have a1 := (c2.2 _ n1 n1').trans a1
        have a2 := (c2.2 _ n2 n2').trans a2
        have a3 := (c2.2 _ n3 n3').trans a3
        have cc := cc.to c2
        show kc_X _ _ _ _ _ [] _ _
        refine x_al c_Wr_name_26 rfl ?_
        refine x_al c_Wr_name_27 rfl ?_
        refine x_get c_Wr_name_28 (by first | rfl | exact cc.o | exact a1 | exact a2) rfl ?_
        refine x_il c_Wr_name_31 rfl ?_
        refine x_ialdN c_Wr_name_32 (by first | rfl | exact cc.o | exact a1 | exact a2) (by omega) (by omega) ?_
        refine x_cv1z _ c_Wr_name_33 (by first | rfl | exact cc.o | exact a1 | exact a2) (Nat.le_of_ble_eq_true rfl) (y_Wr_put (d + 1) cc.1 (by simp only [List.length_append, List.length_cons, List.length_nil]; omega)) ?_
        rintro _ μ3 ⟨rfl, c2⟩
        have a1 := (c2.2 _ n1 n1').trans a1
        have a2 := (c2.2 _ n2 n2').trans a2
        have a3 := (c2.2 _ n3 n3').trans a3
        have cc := cc.to c2
        show kc_X _ _ _ _ _ [] _ _
        refine x_al c_Wr_name_36 rfl ?_
        refine x_ci c_Wr_name_37 ?_
        refine x_cv1z _ c_Wr_name_39 (by first | rfl | exact cc.o | exact a1 | exact a2) (Nat.le_of_ble_eq_true rfl) (y_Wr_put (d + 1) cc.1 (by simp only [List.length_append, List.length_cons, List.length_nil]; omega)) ?_
        rintro _ μ4 ⟨rfl, c2⟩
        have a1 := (c2.2 _ n1 n1').trans a1
        have a2 := (c2.2 _ n2 n2').trans a2
        have a3 := (c2.2 _ n3 n3').trans a3
        have cc := cc.to c2
        show kc_X _ _ _ _ _ [] _ _
        first | exact fin _ _ cc (by rw [if_neg (by omega)]) a1 a2 a3 | exact fin _ _ cc (by rw [if_pos (by omega), List.append_nil]) a1 a2 a3
  refine x_al c_Wr_name_0 rfl ?_
  refine x_ci c_Wr_name_1 ?_
  refine x_cv1z _ c_Wr_name_2 (by first | rfl | exact h.o) (Nat.le_of_ble_eq_true rfl) (y_Wr_begin d h (by omega)) ?_
  rintro _ μ1 ⟨rfl, cc⟩
  show kc_X _ _ _ _ _ [.int (nI (L.length + 2))] _ _
  refine x_is [_, _, _, _] c_Wr_name_5 rfl ?_
  refine x_ci c_Wr_name_6 ?_
  refine x_is [_, _, _, _] c_Wr_name_7 rfl ?_
  exact loop _ 0 μ1 rfl (by omega) (by rw [List.take_zero]; exact cc) ((cc.2 _ n1 n1').trans a1) ((cc.2 _ n2 n2').trans a2) ((cc.2 _ n3 n3').trans a3)
