/-! names compared and found -/
theorem x_ifN_ge {C : Nat → kc_A} {R : kc_R} {Q : Option Value → kc_M → Prop} {pc : Nat} {L : kc_L} {μ : kc_M} {B : Nat × Nat} {a t : Nat} {r : List Value} (hC : C pc = ka_if (fun x => 0 ≤ x) t) (ha : a < 2 ^ 31) (ht : 0 ≤ a → kc_X C R Q t L r μ B) (_hf : a < 0 → kc_X C R Q (pc + 3) L r μ B) : kc_X C R Q pc L (.int (nI a) :: r) μ B := x_if_ge hC (fun _ => ht (Nat.zero_le _)) (fun h => absurd (nI_le (Nat.zero_le a) ha) h)
theorem x_ifN_lt {C : Nat → kc_A} {R : kc_R} {Q : Option Value → kc_M → Prop} {pc : Nat} {L : kc_L} {μ : kc_M} {B : Nat × Nat} {a t : Nat} {r : List Value} (hC : C pc = ka_if (fun x => x < 0) t) (ha : a < 2 ^ 31) (_ht : a < 0 → kc_X C R Q t L r μ B) (hf : 0 ≤ a → kc_X C R Q (pc + 3) L r μ B) : kc_X C R Q pc L (.int (nI a) :: r) μ B := x_if_lt hC (fun h => absurd h (nI_pos ha)) (fun _ => hf (Nat.zero_le _))
theorem x_ialdE {C : Nat → kc_A} {R : kc_R} {Q : Option Value → kc_M → Prop} {pc : Nat} {L : kc_L} {μ : kc_M} {B : Nat × Nat} {a n k : Nat} {f : Nat → Int32} {y : Int32} {r : List Value} (hC : C pc = ka_iald) (hm : μ.1 a = some (.inr (n, .inl f))) (hk : k < n) (hn : n < 2 ^ 31) (he : f k = y) (h : kc_X C R Q (pc + 1) L (.int y :: r) μ B) : kc_X C R Q pc L (.int (nI k) :: .ref a :: r) μ B := x_ialdN hC hm hk hn (he ▸ h)
theorem x_laldE {C : Nat → kc_A} {R : kc_R} {Q : Option Value → kc_M → Prop} {pc : Nat} {L : kc_L} {μ : kc_M} {B : Nat × Nat} {a n k : Nat} {f : Nat → Int64} {y : Int64} {r : List Value} (hC : C pc = ka_lald) (hm : μ.1 a = some (.inr (n, .inr (.inl f)))) (hk : k < n) (hn : n < 2 ^ 31) (he : f k = y) (h : kc_X C R Q (pc + 1) L (.long y :: r) μ B) : kc_X C R Q pc L (.int (nI k) :: .ref a :: r) μ B := x_laldN hC hm hk hn (he ▸ h)
/-- how many parts stand before t in l -/
def lv (l t : List tv) : Option Nat := if t.length ≤ l.length ∧ l.drop (l.length - t.length) = t then some (l.length - t.length) else none
def oI : Option Nat → Int32
  | some m => nI m
  | none => -1
theorem oI_m1 {r : Option Nat} (h : ∀ m, r = some m → m < 2 ^ 31) : oI r = -1 ↔ r = none := by
  cases r with
  | none => exact ⟨fun _ => rfl, fun _ => rfl⟩
  | some m => exact ⟨fun q => absurd q (nI_nm1 (h m rfl)), fun q => by cases q⟩
theorem lv_n {l t : List tv} {j : Nat} (hj : j < t.length) (h : l[l.length - t.length + j]? ≠ t[j]?) : lv l t = none := by
  unfold lv
  rw [if_neg]
  rintro ⟨_, g⟩
  apply h
  conv => rhs; rw [← g]
  rw [List.getElem?_drop]
theorem lv_y {l t : List tv} (hl : t.length ≤ l.length) (h : ∀ j, j < t.length → l[l.length - t.length + j]? = t[j]?) : lv l t = some (l.length - t.length) := by
  have hh : l.drop (l.length - t.length) = t := by
    apply List.ext_getElem?
    intro j
    rw [List.getElem?_drop]
    by_cases hj : j < t.length
    · exact h j hj
    · rw [List.getElem?_eq_none (by omega), List.getElem?_eq_none (by omega)]
  unfold lv
  rw [if_pos ⟨hl, hh⟩]
theorem lv_some {l t : List tv} {m : Nat} (hm : m ≤ l.length) : lv l t = some m ↔ t = l.drop m := by
  unfold lv
  constructor
  · intro h
    split at h
    · rename_i g
      simp only [Option.some.injEq] at h
      rw [← h, g.2]
    · cases h
  · intro h
    have hl : t.length = l.length - m := by rw [h, List.length_drop]
    rw [if_pos]
    · rw [hl]; congr 1; omega
    · refine ⟨by omega, ?_⟩
      rw [show l.length - t.length = m by omega, h]
theorem lv_b {l t : List tv} {m : Nat} (h : lv l t = some m) : m ≤ l.length ∧ m = l.length - t.length ∧ t.length ≤ l.length := by
  unfold lv at h
  split at h
  · rename_i g
    simp only [Option.some.injEq] at h
    omega
  · cases h
/-- the first of m entries from e on whose name is l -/
def fd (nm : Nat → List tv) (l : List tv) : Nat → Nat → Option Nat
  | 0, _ => none
  | m + 1, e => if nm e = l then some e else fd nm l m (e + 1)
theorem fd_s (nm : Nat → List tv) (l : List tv) (m e : Nat) : fd nm l (m + 1) e = if nm e = l then some e else fd nm l m (e + 1) := rfl
theorem fd_in {nm : Nat → List tv} {l : List tv} : ∀ {m e r : Nat}, fd nm l m e = some r → e ≤ r ∧ r < e + m ∧ nm r = l
  | 0, _, _, h => by cases h
  | m + 1, e, r, h => by
    rw [fd_s] at h
    split at h
    · rename_i g
      cases h
      exact ⟨Nat.le_refl _, by omega, g⟩
    · have := fd_in h
      exact ⟨by omega, by omega, this.2.2⟩
theorem fd_none {nm : Nat → List tv} {l : List tv} : ∀ {m e : Nat}, fd nm l m e = none → ∀ r, e ≤ r → r < e + m → nm r ≠ l
  | 0, _, _, r, h1, h2 => by omega
  | m + 1, e, h, r, h1, h2 => by
    rw [fd_s] at h
    split at h
    · cases h
    · rename_i g
      by_cases hr : r = e
      · subst hr; exact g
      · exact fd_none h r (by omega) (by omega)
theorem nI_neg {a b : Nat} (h : a < b) (hb : b < 2 ^ 31) : ¬ (0 : Int32) ≤ nI a - nI b := by
  rw [nI_sb a b (by omega)]
  rw [Int32.le_iff_toInt_le]
  have : (nI (a + (4294967296 - b))).toInt = (a : Int) - b := by
    show (BitVec.ofNat 32 (a + (4294967296 - b))).toInt = _
    rw [BitVec.toInt_eq_toNat_bmod, BitVec.toNat_ofNat, Int.bmod_def]
    split <;> omega
  rw [this]
  have h0 : (0 : Int32).toInt = 0 := by decide
  rw [h0]
  omega
set_option maxRecDepth 100000 in
set_option maxHeartbeats 4000000 in
theorem y_Nm_levelsUnder (d : Nat) {μ : kc_M} {a x y a' x' y' : Nat} {l t : List tv} (hn : nm_at μ a x y l) (hm : nm_at μ a' x' y' t) : kc_Y kt kC (d + 1) j_Nm_levelsUnder [.ref a, .ref a'] μ (fun w μ' => w = some (.int (oI (lv l t))) ∧ μ' = μ) := by
  refine ⟨Nat.le_of_ble_eq_true rfl, ?_⟩
  obtain ⟨f, g, h1, h2, h3, h4, h5⟩ := hn
  obtain ⟨f', g', k1, k2, k3, k4, k5⟩ := hm
  by_cases hl : t.length ≤ l.length
  · have loop : ∀ m j, t.length - j = m → j ≤ t.length → (∀ i, i < j → l[l.length - t.length + i]? = t[i]?) → kc_X (kC j_Nm_levelsUnder) (kc_Y kt kC d) (fun w μ' => w = some (.int (oI (lv l t))) ∧ μ' = μ) 18 [some (.ref a), some (.ref a'), some (.int (nI (l.length - t.length))), some (.int (nI j))] [] μ (0, 0) := by
      intro m
      induction m with
      | zero =>
        intro j hm hj hi
        refine x_il c_Nm_levelsUnder_18 rfl ?_
        refine x_al c_Nm_levelsUnder_19 rfl ?_
        refine x_get c_Nm_levelsUnder_20 (by first | rfl | exact h1 | exact h2 | exact h3 | exact k1 | exact k2 | exact k3) rfl ?_
        refine x_cmN_ge c_Nm_levelsUnder_23 (by omega) (by omega) (fun _ => ?_) (fun h => (by exfalso; omega))
        refine x_il c_Nm_levelsUnder_69 rfl ?_
        refine x_ri c_Nm_levelsUnder_70 ?_
        exact ⟨by rw [lv_y hl (fun i hi' => hi i (by omega))]; rfl, rfl⟩
      | succ m ih =>
        intro j hm hj hi
        have hj : j < t.length := by omega
        refine x_il c_Nm_levelsUnder_18 rfl ?_
        refine x_al c_Nm_levelsUnder_19 rfl ?_
        refine x_get c_Nm_levelsUnder_20 (by first | rfl | exact h1 | exact h2 | exact h3 | exact k1 | exact k2 | exact k3) rfl ?_
        refine x_cmN_ge c_Nm_levelsUnder_23 (by omega) (by omega) (fun h => (by exfalso; omega)) (fun _ => ?_)
        refine x_al c_Nm_levelsUnder_26 rfl ?_
        refine x_get c_Nm_levelsUnder_27 (by first | rfl | exact h1 | exact h2 | exact h3 | exact k1 | exact k2 | exact k3) rfl ?_
        refine x_il c_Nm_levelsUnder_30 rfl ?_
        refine x_il c_Nm_levelsUnder_31 rfl ?_
        first | refine x_iaddN c_Nm_levelsUnder_32 ?_ | refine x_iadd c_Nm_levelsUnder_32 ?_
        refine x_ialdN c_Nm_levelsUnder_33 (by first | rfl | exact h1 | exact h2 | exact h3 | exact k1 | exact k2 | exact k3) (by omega) (by omega) ?_
        refine x_al c_Nm_levelsUnder_34 rfl ?_
        refine x_get c_Nm_levelsUnder_35 (by first | rfl | exact h1 | exact h2 | exact h3 | exact k1 | exact k2 | exact k3) rfl ?_
        refine x_il c_Nm_levelsUnder_38 rfl ?_
        refine x_ialdN c_Nm_levelsUnder_39 (by first | rfl | exact h1 | exact h2 | exact h3 | exact k1 | exact k2 | exact k3) (by omega) (by omega) ?_
        refine x_cm_ne c_Nm_levelsUnder_40 (fun h40 => ?_) (fun h40 => ?_)
        · refine x_ci c_Nm_levelsUnder_61 ?_
          refine x_ri c_Nm_levelsUnder_62 ?_
          exact ⟨by rw [lv_n hj (by rw [h4 _ (by omega), k4 j hj]; intro q; simp only [Option.some.injEq, Prod.mk.injEq] at q; first | exact h40 q.1 | exact h58 q.2)]; rfl, rfl⟩
        · refine x_al c_Nm_levelsUnder_43 rfl ?_
          refine x_get c_Nm_levelsUnder_44 (by first | rfl | exact h1 | exact h2 | exact h3 | exact k1 | exact k2 | exact k3) rfl ?_
          refine x_il c_Nm_levelsUnder_47 rfl ?_
          refine x_il c_Nm_levelsUnder_48 rfl ?_
          first | refine x_iaddN c_Nm_levelsUnder_49 ?_ | refine x_iadd c_Nm_levelsUnder_49 ?_
          refine x_laldN c_Nm_levelsUnder_50 (by first | rfl | exact h1 | exact h2 | exact h3 | exact k1 | exact k2 | exact k3) (by omega) (by omega) ?_
          refine x_al c_Nm_levelsUnder_51 rfl ?_
          refine x_get c_Nm_levelsUnder_52 (by first | rfl | exact h1 | exact h2 | exact h3 | exact k1 | exact k2 | exact k3) rfl ?_
          refine x_il c_Nm_levelsUnder_55 rfl ?_
          refine x_laldN c_Nm_levelsUnder_56 (by first | rfl | exact h1 | exact h2 | exact h3 | exact k1 | exact k2 | exact k3) (by omega) (by omega) ?_
          refine x_lcmp c_Nm_levelsUnder_57 ?_
          refine x_ifL_eq c_Nm_levelsUnder_58 (fun h58 => ?_) (fun h58 => ?_)
          · first | refine x_incN [_, _, _, _] c_Nm_levelsUnder_63 rfl rfl ?_ | refine x_inc [_, _, _, _] c_Nm_levelsUnder_63 rfl rfl ?_
            refine x_goto c_Nm_levelsUnder_66 ?_
            refine ih (j + 1) (by omega) (by omega) (fun i hi' => ?_)
            by_cases hij : i = j
            · subst hij
              rw [h4 _ (by omega), k4 i hj, h40, h58]
            · exact hi i (by omega)
          · refine x_ci c_Nm_levelsUnder_61 ?_
            refine x_ri c_Nm_levelsUnder_62 ?_
            exact ⟨by rw [lv_n hj (by rw [h4 _ (by omega), k4 j hj]; intro q; simp only [Option.some.injEq, Prod.mk.injEq] at q; first | exact h40 q.1 | exact h58 q.2)]; rfl, rfl⟩
    refine x_al c_Nm_levelsUnder_0 rfl ?_
    refine x_get c_Nm_levelsUnder_1 (by first | rfl | exact h1 | exact h2 | exact h3 | exact k1 | exact k2 | exact k3) rfl ?_
    refine x_al c_Nm_levelsUnder_4 rfl ?_
    refine x_get c_Nm_levelsUnder_5 (by first | rfl | exact h1 | exact h2 | exact h3 | exact k1 | exact k2 | exact k3) rfl ?_
    first | refine x_isubN c_Nm_levelsUnder_8 (by omega) ?_ | refine x_isub c_Nm_levelsUnder_8 ?_
    refine x_is [_, _, _, _] c_Nm_levelsUnder_9 rfl ?_
    refine x_il c_Nm_levelsUnder_10 rfl ?_
    refine x_ifN_ge c_Nm_levelsUnder_11 (by omega) (fun _ => ?_) (fun h => (by exfalso; omega))
    refine x_ci c_Nm_levelsUnder_16 ?_
    refine x_is [_, _, _, _] c_Nm_levelsUnder_17 rfl ?_
    exact loop _ 0 rfl (by omega) (fun i hi => by omega)
  · skip
    refine x_al c_Nm_levelsUnder_0 rfl ?_
    refine x_get c_Nm_levelsUnder_1 (by first | rfl | exact h1 | exact h2 | exact h3 | exact k1 | exact k2 | exact k3) rfl ?_
    refine x_al c_Nm_levelsUnder_4 rfl ?_
    refine x_get c_Nm_levelsUnder_5 (by first | rfl | exact h1 | exact h2 | exact h3 | exact k1 | exact k2 | exact k3) rfl ?_
    refine x_isub c_Nm_levelsUnder_8 ?_
    refine x_is [_, _, _, _] c_Nm_levelsUnder_9 rfl ?_
    refine x_il c_Nm_levelsUnder_10 rfl ?_
    refine x_if_ge c_Nm_levelsUnder_11 (fun h => absurd h (nI_neg (by omega) (by omega))) (fun _ => ?_)
    refine x_ci c_Nm_levelsUnder_14 ?_
    refine x_ri c_Nm_levelsUnder_15 ?_
    exact ⟨by unfold lv; rw [if_neg (fun q => hl q.1)]; rfl, rfl⟩
theorem oI_eq {l t : List tv} {k : Nat} (hk : k ≤ l.length) (hl : l.length ≤ 4) : oI (lv l t) = nI k ↔ t = l.drop k := by
  rw [← lv_some hk]
  cases h : lv l t with
  | none =>
    refine ⟨fun q => ?_, fun q => by cases q⟩
    exact absurd q.symm (nI_nm1 (by omega))
  | some m =>
    have := (lv_b h).1
    show nI m = nI k ↔ _
    rw [nI_eq (by omega) (by omega)]
    simp
set_option maxRecDepth 100000 in
set_option maxHeartbeats 4000000 in
theorem y_Tr_find (d : Nat) {μ : kc_M} {n : Nat} {ad : Nat → Nat} {nm pr : Nat → List tv} (ht : tr_at μ n ad nm pr) {l : List tv} (hn : nm_at μ 119 120 121 l) (hl : l.length ≤ 4) {k : Nat} (hk : k ≤ l.length) : kc_Y kt kC (d + 2) j_Tr_find [.ref 5, .ref 119, .int (nI k)] μ (fun w μ' => w = some (.int (oI (fd nm (l.drop k) n 0))) ∧ μ' = μ) := by
  refine ⟨Nat.le_of_ble_eq_true rfl, ?_⟩
  obtain ⟨t1, ⟨rf, t2, t3⟩, t4, t5, t6, t7⟩ := ht
  have loop : ∀ m e, n - e = m → e ≤ n → fd nm (l.drop k) m e = fd nm (l.drop k) n 0 → kc_X (kC j_Tr_find) (kc_Y kt kC (d + 1)) (fun w μ' => w = some (.int (oI (fd nm (l.drop k) n 0))) ∧ μ' = μ) 2 [some (.ref 5), some (.ref 119), some (.int (nI k)), some (.int (nI e))] [] μ (0, 0) := by
    intro m
    induction m with
    | zero =>
      intro e hm he hf
      refine x_il c_Tr_find_2 rfl ?_
      refine x_al c_Tr_find_3 rfl ?_
      refine x_get c_Tr_find_4 (by first | rfl | exact t1 | exact t2 | exact e0.1) rfl ?_
      refine x_cmN_ge c_Tr_find_7 (by omega) (by omega) (fun _ => ?_) (fun h => (by exfalso; omega))
      refine x_ci c_Tr_find_35 ?_
      refine x_ri c_Tr_find_36 ?_
      exact ⟨by rw [← hf]; rfl, rfl⟩
    | succ m ih =>
      intro e hm he hf
      have e0 := t4 e (by omega)
      rw [fd_s] at hf
      refine x_il c_Tr_find_2 rfl ?_
      refine x_al c_Tr_find_3 rfl ?_
      refine x_get c_Tr_find_4 (by first | rfl | exact t1 | exact t2 | exact e0.1 | exact (nm_c hn)) rfl ?_
      refine x_cmN_ge c_Tr_find_7 (by omega) (by omega) (fun h => (by exfalso; omega)) (fun _ => ?_)
      refine x_al c_Tr_find_10 rfl ?_
      refine x_al c_Tr_find_11 rfl ?_
      refine x_get c_Tr_find_12 (by first | rfl | exact t1 | exact t2 | exact e0.1 | exact (nm_c hn)) rfl ?_
      refine x_il c_Tr_find_15 rfl ?_
      refine x_aaldN c_Tr_find_16 (by first | rfl | exact t1 | exact t2 | exact e0.1 | exact (nm_c hn)) (by omega) (by omega) (t3 e (by omega)) ?_
      refine x_get c_Tr_find_17 (by first | rfl | exact t1 | exact t2 | exact e0.1 | exact (nm_c hn)) rfl ?_
      refine x_cv1z _ c_Tr_find_20 (by first | rfl | exact t1 | exact t2 | exact e0.1 | exact (nm_c hn)) (Nat.le_of_ble_eq_true rfl) (y_Nm_levelsUnder d hn e0.2.1) ?_
      rintro _ μx ⟨rfl, hμx⟩
      have hμx := hμx.symm
      subst hμx
      show kc_X _ _ _ _ _ [.int (oI (lv l (nm e)))] _ _
      have hor : oI (lv l (nm e)) = nI k ↔ nm e = l.drop k := oI_eq hk hl
      refine x_il c_Tr_find_23 rfl ?_
      refine x_cm_ne c_Tr_find_24 (fun h24 => ?_) (fun h24 => ?_)
      · first | refine x_incN [_, _, _, _] c_Tr_find_29 rfl rfl ?_ | refine x_inc [_, _, _, _] c_Tr_find_29 rfl rfl ?_
        refine x_goto c_Tr_find_32 ?_
        rw [if_neg (fun q => h24 (hor.mpr q))] at hf
        exact ih (e + 1) (by omega) (by omega) hf
      · refine x_il c_Tr_find_27 rfl ?_
        refine x_ri c_Tr_find_28 ?_
        exact ⟨by rw [← hf, if_pos (hor.mp h24)]; rfl, rfl⟩
  refine x_ci c_Tr_find_0 ?_
  refine x_is [_, _, _, _] c_Tr_find_1 rfl ?_
  exact loop n 0 rfl (by omega) rfl
/-- the first entry whose name is l without k first parts or more -/
def fu (nm : Nat → List tv) (l : List tv) (n : Nat) : Nat → Nat → Option (Nat × Nat)
  | 0, _ => none
  | m + 1, k => match fd nm (l.drop k) n 0 with
    | some e => some (k, e)
    | none => fu nm l n m (k + 1)
theorem fu_s (nm : Nat → List tv) (l : List tv) (n m k : Nat) : fu nm l n (m + 1) k = match fd nm (l.drop k) n 0 with
    | some e => some (k, e)
    | none => fu nm l n m (k + 1) := rfl
set_option maxRecDepth 100000 in
set_option maxHeartbeats 4000000 in
theorem y_Tr_findNearestAbove (d : Nat) {μ : kc_M} {n : Nat} {ad : Nat → Nat} {nm pr : Nat → List tv} (ht : tr_at μ n ad nm pr) {l : List tv} (hn : nm_at μ 119 120 121 l) (hl : l.length ≤ 4) : kc_Y kt kC (d + 3) j_Tr_findNearestAbove [.ref 5, .ref 119] μ (fun w μ' => w = some (.int (oI ((fu nm l n (l.length - 1) 1).map (·.2)))) ∧ μ' = μ) := by
  refine ⟨Nat.le_of_ble_eq_true rfl, ?_⟩
  have hnn : n ≤ 16 := ht.2.2.2.2.2
  have loop : ∀ m k (jk : Option Value), l.length - k = m → 1 ≤ k → k ≤ 5 → fu nm l n m k = fu nm l n (l.length - 1) 1 → kc_X (kC j_Tr_findNearestAbove) (kc_Y kt kC (d + 2)) (fun w μ' => w = some (.int (oI ((fu nm l n (l.length - 1) 1).map (·.2)))) ∧ μ' = μ) 2 [some (.ref 5), some (.ref 119), some (.int (nI k)), jk] [] μ (0, 0) := by
    intro m
    induction m with
    | zero =>
      intro k jk hm he h5 hf
      refine x_il c_Tr_findNearestAbove_2 rfl ?_
      refine x_al c_Tr_findNearestAbove_3 rfl ?_
      refine x_get c_Tr_findNearestAbove_4 (by first | rfl | exact (nm_c hn)) rfl ?_
      refine x_cmN_ge c_Tr_findNearestAbove_7 (by omega) (by omega) (fun _ => ?_) (fun h => (by exfalso; omega))
      refine x_ci c_Tr_findNearestAbove_30 ?_
      refine x_ri c_Tr_findNearestAbove_31 ?_
      exact ⟨by rw [← hf]; rfl, rfl⟩
    | succ m ih =>
      intro k jk hm he h5 hf
      rw [fu_s] at hf
      refine x_il c_Tr_findNearestAbove_2 rfl ?_
      refine x_al c_Tr_findNearestAbove_3 rfl ?_
      refine x_get c_Tr_findNearestAbove_4 (by first | rfl | exact (nm_c hn) | exact ht.1) rfl ?_
      refine x_cmN_ge c_Tr_findNearestAbove_7 (by omega) (by omega) (fun h => (by exfalso; omega)) (fun _ => ?_)
      refine x_al c_Tr_findNearestAbove_10 rfl ?_
      refine x_al c_Tr_findNearestAbove_11 rfl ?_
      refine x_il c_Tr_findNearestAbove_12 rfl ?_
      refine x_cv2z _ c_Tr_findNearestAbove_13 (by first | rfl | exact (nm_c hn) | exact ht.1) (Nat.le_of_ble_eq_true rfl) (y_Tr_find d ht hn hl (k := k) (by omega)) ?_
      rintro _ μx ⟨rfl, hμx⟩
      have hμx := hμx.symm
      subst hμx
      show kc_X _ _ _ _ _ [.int (oI (fd nm (l.drop k) n 0))] _ _
      have hor := oI_m1 (r := fd nm (l.drop k) n 0) (fun m h => by have := (fd_in h).2.1; omega)
      refine x_is [_, _, _, _] c_Tr_findNearestAbove_16 rfl ?_
      refine x_il c_Tr_findNearestAbove_17 rfl ?_
      refine x_ci c_Tr_findNearestAbove_18 ?_
      refine x_cm_eq c_Tr_findNearestAbove_19 (fun h19 => ?_) (fun h19 => ?_)
      · first | refine x_incN [_, _, _, _] c_Tr_findNearestAbove_24 rfl rfl ?_ | refine x_inc [_, _, _, _] c_Tr_findNearestAbove_24 rfl rfl ?_
        refine x_goto c_Tr_findNearestAbove_27 ?_
        rw [hor.mp h19] at hf
        exact ih (k + 1) _ (by omega) (by omega) (by omega) hf
      · refine x_il c_Tr_findNearestAbove_22 rfl ?_
        refine x_ri c_Tr_findNearestAbove_23 ?_
        cases hfd : fd nm (l.drop k) n 0 with
        | none => exact absurd (hor.mpr hfd) h19
        | some e => rw [hfd] at hf; exact ⟨by rw [← hf]; rfl, rfl⟩
  refine x_ci c_Tr_findNearestAbove_0 ?_
  refine x_is [_, _, _, _] c_Tr_findNearestAbove_1 rfl ?_
  exact loop _ 1 _ rfl (by omega) (by omega) rfl
/-- has one of m entries from e on a name of one part more than l, and l behind? -/
def hc (nm : Nat → List tv) (l : List tv) : Nat → Nat → Bool
  | 0, _ => false
  | m + 1, e => if lv (nm e) l = some 1 then true else hc nm l m (e + 1)
theorem hc_s (nm : Nat → List tv) (l : List tv) (m e : Nat) : hc nm l (m + 1) e = if lv (nm e) l = some 1 then true else hc nm l m (e + 1) := rfl
theorem oI_1 {r : Option Nat} {k : Nat} (hk : k < 2 ^ 31) (h : ∀ m, r = some m → m < 2 ^ 31) : oI r = nI k ↔ r = some k := by
  cases r with
  | none => exact ⟨fun q => absurd q.symm (nI_nm1 hk), fun q => by cases q⟩
  | some m => show nI m = nI k ↔ _; rw [nI_eq (h m rfl) hk]; simp
set_option maxRecDepth 100000 in
set_option maxHeartbeats 4000000 in
theorem y_Tr_hasChildOf (d : Nat) {μ : kc_M} {n : Nat} {ad : Nat → Nat} {nm pr : Nat → List tv} (ht : tr_at μ n ad nm pr) {l : List tv} (hn : nm_at μ 119 120 121 l) : kc_Y kt kC (d + 2) j_Tr_hasChildOf [.ref 5, .ref 119] μ (fun w μ' => w = some (.int (bI (hc nm l n 0))) ∧ μ' = μ) := by
  refine ⟨Nat.le_of_ble_eq_true rfl, ?_⟩
  obtain ⟨t1, ⟨rf, t2, t3⟩, t4, t5, t6, t7⟩ := ht
  have loop : ∀ m e, n - e = m → e ≤ n → hc nm l m e = hc nm l n 0 → kc_X (kC j_Tr_hasChildOf) (kc_Y kt kC (d + 1)) (fun w μ' => w = some (.int (bI (hc nm l n 0))) ∧ μ' = μ) 2 [some (.ref 5), some (.ref 119), some (.int (nI e))] [] μ (0, 0) := by
    intro m
    induction m with
    | zero =>
      intro e hm he hf
      refine x_il c_Tr_hasChildOf_2 rfl ?_
      refine x_al c_Tr_hasChildOf_3 rfl ?_
      refine x_get c_Tr_hasChildOf_4 (by first | rfl | exact t1 | exact t2 | exact e0.1) rfl ?_
      refine x_cmN_ge c_Tr_hasChildOf_7 (by omega) (by omega) (fun _ => ?_) (fun h => (by exfalso; omega))
      refine x_ci c_Tr_hasChildOf_35 ?_
      refine x_rz c_Tr_hasChildOf_36 (by first | decide | exact kz_n _) ?_
      exact ⟨by rw [← hf]; rfl, rfl⟩
    | succ m ih =>
      intro e hm he hf
      have e0 := t4 e (by omega)
      rw [hc_s] at hf
      refine x_il c_Tr_hasChildOf_2 rfl ?_
      refine x_al c_Tr_hasChildOf_3 rfl ?_
      refine x_get c_Tr_hasChildOf_4 (by first | rfl | exact t1 | exact t2 | exact e0.1 | exact (nm_c e0.2.1)) rfl ?_
      refine x_cmN_ge c_Tr_hasChildOf_7 (by omega) (by omega) (fun h => (by exfalso; omega)) (fun _ => ?_)
      refine x_al c_Tr_hasChildOf_10 rfl ?_
      refine x_get c_Tr_hasChildOf_11 (by first | rfl | exact t1 | exact t2 | exact e0.1 | exact (nm_c e0.2.1)) rfl ?_
      refine x_il c_Tr_hasChildOf_14 rfl ?_
      refine x_aaldN c_Tr_hasChildOf_15 (by first | rfl | exact t1 | exact t2 | exact e0.1 | exact (nm_c e0.2.1)) (by omega) (by omega) (t3 e (by omega)) ?_
      refine x_get c_Tr_hasChildOf_16 (by first | rfl | exact t1 | exact t2 | exact e0.1 | exact (nm_c e0.2.1)) rfl ?_
      refine x_al c_Tr_hasChildOf_19 rfl ?_
      refine x_cv1z _ c_Tr_hasChildOf_20 (by first | rfl | exact t1 | exact t2 | exact e0.1 | exact (nm_c e0.2.1)) (Nat.le_of_ble_eq_true rfl) (y_Nm_levelsUnder d e0.2.1 hn) ?_
      rintro _ μx ⟨rfl, hμx⟩
      have hμx := hμx.symm
      subst hμx
      show kc_X _ _ _ _ _ [.int (oI (lv (nm e) l))] _ _
      have hor : oI (lv (nm e) l) = nI 1 ↔ lv (nm e) l = some 1 := oI_1 (by omega) (fun m h => by have := (lv_b h).1; obtain ⟨_, _, _, _, _, _, h9⟩ := e0.2.1; omega)
      refine x_ci c_Tr_hasChildOf_23 ?_
      refine x_cm_ne c_Tr_hasChildOf_24 (fun h24 => ?_) (fun h24 => ?_)
      · first | refine x_incN [_, _, _] c_Tr_hasChildOf_29 rfl rfl ?_ | refine x_inc [_, _, _] c_Tr_hasChildOf_29 rfl rfl ?_
        refine x_goto c_Tr_hasChildOf_32 ?_
        rw [if_neg (fun q => h24 (hor.mpr q))] at hf
        exact ih (e + 1) (by omega) (by omega) hf
      · refine x_ci c_Tr_hasChildOf_27 ?_
        refine x_rz c_Tr_hasChildOf_28 (by first | decide | exact kz_n _) ?_
        exact ⟨by rw [← hf, if_pos (hor.mp h24)]; rfl, rfl⟩
  refine x_ci c_Tr_hasChildOf_0 ?_
  refine x_is [_, _, _] c_Tr_hasChildOf_1 rfl ?_
  exact loop n 0 rfl (by omega) rfl
