/-! letters, types and values in what is typed -/
def isL (b : Nat) : Bool := (decide (97 ≤ b) && decide (b ≤ 122)) || (decide (48 ≤ b) && decide (b ≤ 57))
def tyI (b : Nat) : Int32 := if 97 ≤ b ∧ b ≤ 102 then nI b else -1
def tyS (tb : Nat → Nat) (s e : Nat) : Int32 := if e - s = 1 then tyI (tb s) else -1
def allB (tb : Nat → Nat) (s : Nat) : Nat → Bool
  | 0 => true
  | n + 1 => allB tb s n && isL (tb (s + n))
def vaN (tb : Nat → Nat) (s : Nat) : Nat → Nat
  | 0 => 0
  | k + 1 => vaN tb s k + tb (s + k) * 256 ^ (7 - k)
theorem vaN_s (tb : Nat → Nat) (s k : Nat) : vaN tb s (k + 1) = vaN tb s k + tb (s + k) * 256 ^ (7 - k) := rfl
def vlS (tb : Nat → Nat) (s e : Nat) : Int64 := if 1 ≤ e - s ∧ e - s ≤ 8 ∧ allB tb s (e - s) = true then lN (vaN tb s (e - s)) else -1
theorem allB_le {tb : Nat → Nat} {s : Nat} : ∀ {n m : Nat}, m ≤ n → allB tb s n = true → allB tb s m = true
  | 0, m, h, _ => by rw [show m = 0 by omega]; rfl
  | n + 1, m, h, ha => by
    by_cases hm : m = n + 1
    · rw [hm]; exact ha
    · unfold allB at ha
      simp only [Bool.and_eq_true] at ha
      exact allB_le (by omega) ha.1
theorem allB_f {tb : Nat → Nat} {s n k : Nat} (hk : k < n) (h : isL (tb (s + k)) = false) : allB tb s n = false := by
  cases ha : allB tb s n with
  | false => rfl
  | true =>
    have h1 := allB_le (m := k + 1) hk ha
    unfold allB at h1
    rw [h] at h1
    simp at h1
theorem vaN_dv {tb : Nat → Nat} (htb : ∀ j, tb j < 256) {s : Nat} : ∀ k, k ≤ 8 → ∃ q, vaN tb s k = q * 256 ^ (8 - k) ∧ vaN tb s k + 256 ^ (8 - k) ≤ 256 ^ 8
  | 0, _ => ⟨0, by simp [vaN], by simp [vaN]⟩
  | k + 1, hk => by
    obtain ⟨q, h1, h2⟩ := vaN_dv htb (s := s) k (by omega)
    have e : 256 ^ (8 - k) = 256 * 256 ^ (8 - (k + 1)) := by rw [show 8 - k = (8 - (k + 1)) + 1 by omega, Nat.pow_succ, Nat.mul_comm]
    have e2 : 7 - k = 8 - (k + 1) := by omega
    refine ⟨q * 256 + tb (s + k), ?_, ?_⟩
    · rw [vaN_s, h1, e, e2, Nat.add_mul, Nat.mul_assoc]
    · rw [vaN_s]
      have hb := htb (s + k)
      rw [e2]
      have h3 : (tb (s + k) + 1) * 256 ^ (8 - (k + 1)) ≤ 256 * 256 ^ (8 - (k + 1)) := Nat.mul_le_mul_right _ hb
      rw [Nat.add_mul, Nat.one_mul] at h3
      omega
theorem sh8 {k : Nat} (hk : k < 8) : (256 : Nat) ^ (7 - k) = 2 ^ (56 - 8 * k) := by
  rw [show (256 : Nat) = 2 ^ 8 by decide, ← Nat.pow_mul]
  congr 1
  omega
theorem sh9 {k : Nat} (hk : k ≤ 8) : (256 : Nat) ^ (8 - k) = 2 ^ (64 - 8 * k) := by
  rw [show (256 : Nat) = 2 ^ 8 by decide, ← Nat.pow_mul]
  congr 1
  omega
theorem va_or {tb : Nat → Nat} (htb : ∀ j, tb j < 256) {s k : Nat} (hk : k < 8) : (lN (vaN tb s k) ||| ((nI (tb (s + k))).toInt64 <<< ((nI (56 - 8 * k)).toInt64 &&& 63))) = lN (vaN tb s (k + 1)) := by
  have hb := htb (s + k)
  obtain ⟨q, h1, h2⟩ := vaN_dv htb (s := s) k (by omega)
  rw [nI_l (by omega), wb_shl _ (by omega), ← sh8 hk, h1]
  have e : 256 ^ (8 - k) = 256 * 256 ^ (7 - k) := by rw [show 8 - k = (7 - k) + 1 by omega, Nat.pow_succ, Nat.mul_comm]
  have h3 : tb (s + k) * 256 ^ (7 - k) < 256 ^ (8 - k) := by rw [e]; exact Nat.mul_lt_mul_of_pos_right hb (Nat.pow_pos (by decide))
  have h9 : (256 : Nat) ^ 8 = 2 ^ 64 := by decide
  have hlt : q * 256 ^ (8 - k) + tb (s + k) * 256 ^ (7 - k) < 2 ^ 64 := by rw [← h1]; omega
  rw [g_or (k := 64 - 8 * k) (p := 256 ^ (8 - k)) (sh9 (by omega)).symm h3 hlt, vaN_s, h1]
/-- the reference's way: every byte from the right -/
def vrN (tb : Nat → Nat) (s n : Nat) : Nat → Nat
  | 0 => 0
  | k + 1 => vrN tb s n k * 256 + (if k < n then tb (s + k) else 0)
theorem vrN_s (tb : Nat → Nat) (s n k : Nat) : vrN tb s n (k + 1) = vrN tb s n k * 256 + (if k < n then tb (s + k) else 0) := rfl
theorem vrN_eq {tb : Nat → Nat} {s n : Nat} : ∀ k, k ≤ 8 → vrN tb s n k * 256 ^ (8 - k) = vaN tb s (min k n)
  | 0, _ => by simp [vrN, vaN]
  | k + 1, hk => by
    have h1 := vrN_eq (tb := tb) (s := s) (n := n) k (by omega)
    have e : 256 ^ (8 - k) = 256 * 256 ^ (8 - (k + 1)) := by rw [show 8 - k = (8 - (k + 1)) + 1 by omega, Nat.pow_succ, Nat.mul_comm]
    have e2 : 7 - k = 8 - (k + 1) := by omega
    rw [vrN_s]
    by_cases hkn : k < n
    · rw [if_pos hkn, Nat.add_mul, Nat.mul_assoc, ← e, h1, show min (k + 1) n = min k n + 1 by omega]
      rw [show min k n = k by omega, vaN_s, e2]
    · rw [if_neg hkn, Nat.add_mul, Nat.mul_assoc, ← e, h1, show min (k + 1) n = min k n by omega]
      simp
theorem vrN_lt {tb : Nat → Nat} (htb : ∀ j, tb j < 256) {s n : Nat} : ∀ k, vrN tb s n k < 256 ^ k
  | 0 => by simp [vrN]
  | k + 1 => by
    have h1 := vrN_lt htb (s := s) (n := n) k
    rw [vrN_s]
    have h2 : (if k < n then tb (s + k) else 0) < 256 := by
      split
      · exact htb _
      · omega
    rw [Nat.pow_succ]
    omega
theorem vr_or {tb : Nat → Nat} (htb : ∀ j, tb j < 256) {s n k b : Nat} (hk : k < 8) (hb : b = if k < n then tb (s + k) else 0) : ((lN (vrN tb s n k) <<< ((nI 8).toInt64 &&& 63)) ||| (nI b).toInt64) = lN (vrN tb s n (k + 1)) := by
  have h2 : b < 256 := by
    rw [hb]
    split
    · exact htb _
    · omega
  have h1 := vrN_lt htb (s := s) (n := n) (k + 1)
  have h3 : (256 : Nat) ^ (k + 1) ≤ 256 ^ 8 := Nat.pow_le_pow_right (by decide) (by omega)
  have h4 : (256 : Nat) ^ 8 = 2 ^ 64 := by decide
  rw [vrN_s] at h1 ⊢
  rw [← hb] at h1 ⊢
  rw [nI_l (n := b) (by omega), wb_shl _ (by omega), show (2 : Nat) ^ 8 = 256 by decide, g_or (k := 8) (p := 256) (by decide) h2 (by omega)]
theorem m8 {a : Nat} (h : 8 ≤ a) : nI a + (-8) = nI (a - 8) := by
  rw [← pk_sub h, Int32.sub_eq_add_neg]
  rfl
set_option maxRecDepth 100000 in
set_option maxHeartbeats 4000000 in
theorem y_Rd_isInValues (d : Nat) {μ : kc_M} {b : Nat} (hb : b < 256) : kc_Y kt kC (d + 1) j_Rd_isInValues [.int (nI b)] μ (fun v μ' => v = some (.int (bI (isL b))) ∧ μ' = μ) := by
  refine ⟨Nat.le_of_ble_eq_true rfl, ?_⟩
  refine x_il c_Rd_isInValues_0 rfl ?_
  refine x_ci c_Rd_isInValues_1 ?_
  first | refine x_cmN_lt c_Rd_isInValues_3 (by omega) (by omega) (fun h3 => ?_) (fun h3 => ?_) | refine x_cm_lt c_Rd_isInValues_3 (fun h3 => ?_) (fun h3 => ?_)
  · refine x_il c_Rd_isInValues_12 rfl ?_
    refine x_ci c_Rd_isInValues_13 ?_
    first | refine x_cmN_lt c_Rd_isInValues_15 (by omega) (by omega) (fun h15 => ?_) (fun h15 => ?_) | refine x_cm_lt c_Rd_isInValues_15 (fun h15 => ?_) (fun h15 => ?_)
    · refine x_ci c_Rd_isInValues_28 ?_
      refine x_rz c_Rd_isInValues_29 (by first | decide | exact kz_n _) ?_
      first | exact ⟨by unfold isL; simp; omega, rfl⟩ | exact ⟨by rw [show isL b = true by unfold isL; simp; omega]; rfl, rfl⟩ | exact ⟨by rw [show isL b = false by unfold isL; simp; omega]; rfl, rfl⟩
    · refine x_il c_Rd_isInValues_18 rfl ?_
      refine x_ci c_Rd_isInValues_19 ?_
      first | refine x_cmN_gt c_Rd_isInValues_21 (by omega) (by omega) (fun h21 => ?_) (fun h21 => ?_) | refine x_cm_gt c_Rd_isInValues_21 (fun h21 => ?_) (fun h21 => ?_)
      · refine x_ci c_Rd_isInValues_28 ?_
        refine x_rz c_Rd_isInValues_29 (by first | decide | exact kz_n _) ?_
        first | exact ⟨by unfold isL; simp; omega, rfl⟩ | exact ⟨by rw [show isL b = true by unfold isL; simp; omega]; rfl, rfl⟩ | exact ⟨by rw [show isL b = false by unfold isL; simp; omega]; rfl, rfl⟩
      · refine x_ci c_Rd_isInValues_24 ?_
        refine x_goto c_Rd_isInValues_25 ?_
        refine x_rz c_Rd_isInValues_29 (by first | decide | exact kz_n _) ?_
        first | exact ⟨by unfold isL; simp; omega, rfl⟩ | exact ⟨by rw [show isL b = true by unfold isL; simp; omega]; rfl, rfl⟩ | exact ⟨by rw [show isL b = false by unfold isL; simp; omega]; rfl, rfl⟩
  · refine x_il c_Rd_isInValues_6 rfl ?_
    refine x_ci c_Rd_isInValues_7 ?_
    first | refine x_cmN_le c_Rd_isInValues_9 (by omega) (by omega) (fun h9 => ?_) (fun h9 => ?_) | refine x_cm_le c_Rd_isInValues_9 (fun h9 => ?_) (fun h9 => ?_)
    · refine x_ci c_Rd_isInValues_24 ?_
      refine x_goto c_Rd_isInValues_25 ?_
      refine x_rz c_Rd_isInValues_29 (by first | decide | exact kz_n _) ?_
      first | exact ⟨by unfold isL; simp; omega, rfl⟩ | exact ⟨by rw [show isL b = true by unfold isL; simp; omega]; rfl, rfl⟩ | exact ⟨by rw [show isL b = false by unfold isL; simp; omega]; rfl, rfl⟩
    · refine x_il c_Rd_isInValues_12 rfl ?_
      refine x_ci c_Rd_isInValues_13 ?_
      first | refine x_cmN_lt c_Rd_isInValues_15 (by omega) (by omega) (fun h15 => ?_) (fun h15 => ?_) | refine x_cm_lt c_Rd_isInValues_15 (fun h15 => ?_) (fun h15 => ?_)
      · refine x_ci c_Rd_isInValues_28 ?_
        refine x_rz c_Rd_isInValues_29 (by first | decide | exact kz_n _) ?_
        first | exact ⟨by unfold isL; simp; omega, rfl⟩ | exact ⟨by rw [show isL b = true by unfold isL; simp; omega]; rfl, rfl⟩ | exact ⟨by rw [show isL b = false by unfold isL; simp; omega]; rfl, rfl⟩
      · refine x_il c_Rd_isInValues_18 rfl ?_
        refine x_ci c_Rd_isInValues_19 ?_
        first | refine x_cmN_gt c_Rd_isInValues_21 (by omega) (by omega) (fun h21 => ?_) (fun h21 => ?_) | refine x_cm_gt c_Rd_isInValues_21 (fun h21 => ?_) (fun h21 => ?_)
        · refine x_ci c_Rd_isInValues_28 ?_
          refine x_rz c_Rd_isInValues_29 (by first | decide | exact kz_n _) ?_
          first | exact ⟨by unfold isL; simp; omega, rfl⟩ | exact ⟨by rw [show isL b = true by unfold isL; simp; omega]; rfl, rfl⟩ | exact ⟨by rw [show isL b = false by unfold isL; simp; omega]; rfl, rfl⟩
        · refine x_ci c_Rd_isInValues_24 ?_
          refine x_goto c_Rd_isInValues_25 ?_
          refine x_rz c_Rd_isInValues_29 (by first | decide | exact kz_n _) ?_
          first | exact ⟨by unfold isL; simp; omega, rfl⟩ | exact ⟨by rw [show isL b = true by unfold isL; simp; omega]; rfl, rfl⟩ | exact ⟨by rw [show isL b = false by unfold isL; simp; omega]; rfl, rfl⟩
set_option maxRecDepth 100000 in
set_option maxHeartbeats 4000000 in
theorem y_Md_isLetter (d : Nat) {μ : kc_M} {b : Nat} (hb : b < 256) : kc_Y kt kC (d + 1) j_Md_isLetter [.int (nI b)] μ (fun v μ' => v = some (.int (bI (isL b))) ∧ μ' = μ) := by
  refine ⟨Nat.le_of_ble_eq_true rfl, ?_⟩
  refine x_il c_Md_isLetter_0 rfl ?_
  refine x_ci c_Md_isLetter_1 ?_
  first | refine x_cmN_lt c_Md_isLetter_3 (by omega) (by omega) (fun h3 => ?_) (fun h3 => ?_) | refine x_cm_lt c_Md_isLetter_3 (fun h3 => ?_) (fun h3 => ?_)
  · refine x_il c_Md_isLetter_12 rfl ?_
    refine x_ci c_Md_isLetter_13 ?_
    first | refine x_cmN_lt c_Md_isLetter_15 (by omega) (by omega) (fun h15 => ?_) (fun h15 => ?_) | refine x_cm_lt c_Md_isLetter_15 (fun h15 => ?_) (fun h15 => ?_)
    · refine x_ci c_Md_isLetter_28 ?_
      refine x_rz c_Md_isLetter_29 (by first | decide | exact kz_n _) ?_
      first | exact ⟨by unfold isL; simp; omega, rfl⟩ | exact ⟨by rw [show isL b = true by unfold isL; simp; omega]; rfl, rfl⟩ | exact ⟨by rw [show isL b = false by unfold isL; simp; omega]; rfl, rfl⟩
    · refine x_il c_Md_isLetter_18 rfl ?_
      refine x_ci c_Md_isLetter_19 ?_
      first | refine x_cmN_gt c_Md_isLetter_21 (by omega) (by omega) (fun h21 => ?_) (fun h21 => ?_) | refine x_cm_gt c_Md_isLetter_21 (fun h21 => ?_) (fun h21 => ?_)
      · refine x_ci c_Md_isLetter_28 ?_
        refine x_rz c_Md_isLetter_29 (by first | decide | exact kz_n _) ?_
        first | exact ⟨by unfold isL; simp; omega, rfl⟩ | exact ⟨by rw [show isL b = true by unfold isL; simp; omega]; rfl, rfl⟩ | exact ⟨by rw [show isL b = false by unfold isL; simp; omega]; rfl, rfl⟩
      · refine x_ci c_Md_isLetter_24 ?_
        refine x_goto c_Md_isLetter_25 ?_
        refine x_rz c_Md_isLetter_29 (by first | decide | exact kz_n _) ?_
        first | exact ⟨by unfold isL; simp; omega, rfl⟩ | exact ⟨by rw [show isL b = true by unfold isL; simp; omega]; rfl, rfl⟩ | exact ⟨by rw [show isL b = false by unfold isL; simp; omega]; rfl, rfl⟩
  · refine x_il c_Md_isLetter_6 rfl ?_
    refine x_ci c_Md_isLetter_7 ?_
    first | refine x_cmN_le c_Md_isLetter_9 (by omega) (by omega) (fun h9 => ?_) (fun h9 => ?_) | refine x_cm_le c_Md_isLetter_9 (fun h9 => ?_) (fun h9 => ?_)
    · refine x_ci c_Md_isLetter_24 ?_
      refine x_goto c_Md_isLetter_25 ?_
      refine x_rz c_Md_isLetter_29 (by first | decide | exact kz_n _) ?_
      first | exact ⟨by unfold isL; simp; omega, rfl⟩ | exact ⟨by rw [show isL b = true by unfold isL; simp; omega]; rfl, rfl⟩ | exact ⟨by rw [show isL b = false by unfold isL; simp; omega]; rfl, rfl⟩
    · refine x_il c_Md_isLetter_12 rfl ?_
      refine x_ci c_Md_isLetter_13 ?_
      first | refine x_cmN_lt c_Md_isLetter_15 (by omega) (by omega) (fun h15 => ?_) (fun h15 => ?_) | refine x_cm_lt c_Md_isLetter_15 (fun h15 => ?_) (fun h15 => ?_)
      · refine x_ci c_Md_isLetter_28 ?_
        refine x_rz c_Md_isLetter_29 (by first | decide | exact kz_n _) ?_
        first | exact ⟨by unfold isL; simp; omega, rfl⟩ | exact ⟨by rw [show isL b = true by unfold isL; simp; omega]; rfl, rfl⟩ | exact ⟨by rw [show isL b = false by unfold isL; simp; omega]; rfl, rfl⟩
      · refine x_il c_Md_isLetter_18 rfl ?_
        refine x_ci c_Md_isLetter_19 ?_
        first | refine x_cmN_gt c_Md_isLetter_21 (by omega) (by omega) (fun h21 => ?_) (fun h21 => ?_) | refine x_cm_gt c_Md_isLetter_21 (fun h21 => ?_) (fun h21 => ?_)
        · refine x_ci c_Md_isLetter_28 ?_
          refine x_rz c_Md_isLetter_29 (by first | decide | exact kz_n _) ?_
          first | exact ⟨by unfold isL; simp; omega, rfl⟩ | exact ⟨by rw [show isL b = true by unfold isL; simp; omega]; rfl, rfl⟩ | exact ⟨by rw [show isL b = false by unfold isL; simp; omega]; rfl, rfl⟩
        · refine x_ci c_Md_isLetter_24 ?_
          refine x_goto c_Md_isLetter_25 ?_
          refine x_rz c_Md_isLetter_29 (by first | decide | exact kz_n _) ?_
          first | exact ⟨by unfold isL; simp; omega, rfl⟩ | exact ⟨by rw [show isL b = true by unfold isL; simp; omega]; rfl, rfl⟩ | exact ⟨by rw [show isL b = false by unfold isL; simp; omega]; rfl, rfl⟩
set_option maxRecDepth 100000 in
set_option maxHeartbeats 4000000 in
theorem y_Rd_typeOf (d : Nat) {μ : kc_M} {b : Nat} (hb : b < 256) : kc_Y kt kC (d + 1) j_Rd_typeOf [.int (nI b)] μ (fun v μ' => v = some (.int (tyI b)) ∧ μ' = μ) := by
  refine ⟨Nat.le_of_ble_eq_true rfl, ?_⟩
  refine x_il c_Rd_typeOf_0 rfl ?_
  refine x_ci c_Rd_typeOf_1 ?_
  first | refine x_cmN_lt c_Rd_typeOf_3 (by omega) (by omega) (fun h3 => ?_) (fun h3 => ?_) | refine x_cm_lt c_Rd_typeOf_3 (fun h3 => ?_) (fun h3 => ?_)
  · refine x_ci c_Rd_typeOf_16 ?_
    refine x_ri c_Rd_typeOf_17 ?_
    first | exact ⟨by unfold tyI; rw [if_pos (by omega)], rfl⟩ | exact ⟨by unfold tyI; rw [if_neg (by omega)], rfl⟩
  · refine x_il c_Rd_typeOf_6 rfl ?_
    refine x_ci c_Rd_typeOf_7 ?_
    first | refine x_cmN_gt c_Rd_typeOf_9 (by omega) (by omega) (fun h9 => ?_) (fun h9 => ?_) | refine x_cm_gt c_Rd_typeOf_9 (fun h9 => ?_) (fun h9 => ?_)
    · refine x_ci c_Rd_typeOf_16 ?_
      refine x_ri c_Rd_typeOf_17 ?_
      first | exact ⟨by unfold tyI; rw [if_pos (by omega)], rfl⟩ | exact ⟨by unfold tyI; rw [if_neg (by omega)], rfl⟩
    · refine x_il c_Rd_typeOf_12 rfl ?_
      refine x_goto c_Rd_typeOf_13 ?_
      refine x_ri c_Rd_typeOf_17 ?_
      first | exact ⟨by unfold tyI; rw [if_pos (by omega)], rfl⟩ | exact ⟨by unfold tyI; rw [if_neg (by omega)], rfl⟩
set_option maxRecDepth 100000 in
set_option maxHeartbeats 4000000 in
theorem y_Rd_valueBetween (d : Nat) {μ : kc_M} {tb : Nat → Nat} {sz at_ en : Nat} {wr : Bool} {id : Int32} {sf st : Nat} {s e : Nat} (hr : rd_at μ tb sz at_ en wr id sf st) (htb : ∀ j, tb j < 256) (hse : s ≤ e) (he : e ≤ 200) : kc_Y kt kC (d + 2) j_Rd_valueBetween [.ref 1, .int (nI s), .int (nI e)] μ (fun v μ' => v = some (.long (vlS tb s e)) ∧ μ' = μ) := by
  obtain ⟨h1, h2⟩ := hr
  refine ⟨Nat.le_of_ble_eq_true rfl, ?_⟩
  by_cases hlen : 1 ≤ e - s ∧ e - s ≤ 8
  · obtain ⟨l1, l2⟩ := hlen
    have loop : ∀ m i : Nat, ∀ sh : Int32, e - i = m → s ≤ i → i ≤ e → allB tb s (i - s) = true → (i < e → sh = nI (56 - 8 * (i - s))) → kc_X (kC j_Rd_valueBetween) (kc_Y kt kC (d + 1)) (fun v μ' => v = some (.long (vlS tb s e)) ∧ μ' = μ) 28 [some (.ref 1), some (.int (nI s)), some (.int (nI e)), some (.long (lN (vaN tb s (i - s)))), none, some (.int sh), some (.int (nI i))] [] μ (0, 0) := by
      intro m
      induction m with
      | zero =>
        intro i sh hm h3 h4 ha hsh
        have hie : i = e := by omega
        subst hie
        refine x_il c_Rd_valueBetween_28 rfl ?_
        refine x_il c_Rd_valueBetween_30 rfl ?_
        refine x_cm_ge c_Rd_valueBetween_31 (fun _ => ?_) (fun h => absurd (nI_le (by omega) (by omega)) h)
        refine x_ll c_Rd_valueBetween_74 rfl ?_
        refine x_rl c_Rd_valueBetween_75 ?_
        exact ⟨by unfold vlS; rw [if_pos ⟨by omega, by omega, ha⟩], rfl⟩
      | succ m ih =>
        intro i sh hm h3 h4 ha hsh
        have hsh := hsh (by omega)
        subst hsh
        obtain ⟨k, rfl⟩ : ∃ k, i = s + k := ⟨i - s, by omega⟩
        rw [show s + k - s = k by omega] at *
        refine x_il c_Rd_valueBetween_28 rfl ?_
        refine x_il c_Rd_valueBetween_30 rfl ?_
        refine x_cm_ge c_Rd_valueBetween_31 (fun h => absurd h (nI_ge (by omega) (by omega))) (fun _ => ?_)
        refine x_al c_Rd_valueBetween_34 rfl ?_
        refine x_get c_Rd_valueBetween_35 (by first | rfl | exact h1 | exact h2) rfl ?_
        refine x_il c_Rd_valueBetween_38 rfl ?_
        refine x_ialdN c_Rd_valueBetween_40 (by first | rfl | exact h1 | exact h2) (by omega) (by omega) ?_
        refine x_cs1z _ c_Rd_valueBetween_41 (Nat.le_of_ble_eq_true rfl) (y_Rd_isInValues (d := d) (htb _)) ?_
        rintro _ _ ⟨rfl, rfl⟩
        show kc_X _ _ _ _ _ [.int (bI _)] _ _
        refine x_ifB_ne c_Rd_valueBetween_44 (fun h44 => ?_) (fun h44 => ?_)
        · refine x_ll c_Rd_valueBetween_51 rfl ?_
          refine x_al c_Rd_valueBetween_52 rfl ?_
          refine x_get c_Rd_valueBetween_53 (by first | rfl | exact h1 | exact h2) rfl ?_
          refine x_il c_Rd_valueBetween_56 rfl ?_
          refine x_ialdN c_Rd_valueBetween_58 (by first | rfl | exact h1 | exact h2) (by omega) (by omega) ?_
          refine x_i2l c_Rd_valueBetween_59 ?_
          refine x_il c_Rd_valueBetween_60 rfl ?_
          refine x_lshl c_Rd_valueBetween_62 ?_
          refine x_lor c_Rd_valueBetween_63 ?_
          rw [va_or htb (by omega)]
          refine x_ls [_, _, _, _, _, _, _] c_Rd_valueBetween_64 rfl ?_
          refine x_inc [_, _, _, _, _, _, _] c_Rd_valueBetween_65 rfl rfl ?_
          first | refine x_incN [_, _, _, _, _, _, _] c_Rd_valueBetween_68 rfl rfl ?_ | refine x_inc [_, _, _, _, _, _, _] c_Rd_valueBetween_68 rfl rfl ?_
          refine x_goto c_Rd_valueBetween_71 ?_
          have g1 := ih (s + k + 1) (nI (56 - 8 * k) + (-8)) (by omega) (by omega) (by omega) (by rw [show s + k + 1 - s = k + 1 by omega]; unfold allB; rw [ha, h44]; rfl) (fun _ => by rw [m8 (by omega)]; congr 1; omega)
          rw [show s + k + 1 - s = k + 1 by omega] at g1
          exact g1
        · refine x_cl c_Rd_valueBetween_47 ?_
          refine x_rl c_Rd_valueBetween_50 ?_
          exact ⟨by unfold vlS; rw [if_neg (by rintro ⟨_, _, g⟩; rw [allB_f (k := k) (by omega) h44] at g; cases g)], rfl⟩
    refine x_il c_Rd_valueBetween_0 rfl ?_
    refine x_il c_Rd_valueBetween_1 rfl ?_
    first | refine x_isubN c_Rd_valueBetween_2 (by omega) ?_ | refine x_isub c_Rd_valueBetween_2 ?_
    refine x_ci c_Rd_valueBetween_3 ?_
    refine x_cm_lt c_Rd_valueBetween_4 (fun h => absurd h (nI_nlt (by omega) (by omega))) (fun _ => ?_)
    refine x_il c_Rd_valueBetween_7 rfl ?_
    refine x_il c_Rd_valueBetween_8 rfl ?_
    first | refine x_isubN c_Rd_valueBetween_9 (by omega) ?_ | refine x_isub c_Rd_valueBetween_9 ?_
    refine x_ci c_Rd_valueBetween_10 ?_
    refine x_cm_le c_Rd_valueBetween_12 (fun _ => ?_) (fun h => absurd (nI_le (by omega) (by omega)) h)
    refine x_cl c_Rd_valueBetween_19 ?_
    refine x_ls [_, _, _, _, _, _, _] c_Rd_valueBetween_20 rfl ?_
    refine x_ci c_Rd_valueBetween_21 ?_
    refine x_is [_, _, _, _, _, _, _] c_Rd_valueBetween_23 rfl ?_
    refine x_il c_Rd_valueBetween_25 rfl ?_
    refine x_is [_, _, _, _, _, _, _] c_Rd_valueBetween_26 rfl ?_
    have g1 := loop (e - s) s (nI 56) rfl (by omega) (by omega) (by rw [Nat.sub_self]; rfl) (fun _ => by rw [Nat.sub_self])
    rw [Nat.sub_self] at g1
    exact g1
  · have hv : vlS tb s e = -1 := by unfold vlS; rw [if_neg (by rintro ⟨g1, g2, _⟩; exact hlen ⟨g1, g2⟩)]
    by_cases l1 : 1 ≤ e - s
    · skip
      refine x_il c_Rd_valueBetween_0 rfl ?_
      refine x_il c_Rd_valueBetween_1 rfl ?_
      first | refine x_isubN c_Rd_valueBetween_2 (by omega) ?_ | refine x_isub c_Rd_valueBetween_2 ?_
      refine x_ci c_Rd_valueBetween_3 ?_
      refine x_cm_lt c_Rd_valueBetween_4 (fun h => absurd h (nI_nlt (by omega) (by omega))) (fun _ => ?_)
      refine x_il c_Rd_valueBetween_7 rfl ?_
      refine x_il c_Rd_valueBetween_8 rfl ?_
      first | refine x_isubN c_Rd_valueBetween_9 (by omega) ?_ | refine x_isub c_Rd_valueBetween_9 ?_
      refine x_ci c_Rd_valueBetween_10 ?_
      refine x_cm_le c_Rd_valueBetween_12 (fun h => absurd h (nI_ge (by omega) (by omega))) (fun _ => ?_)
      refine x_cl c_Rd_valueBetween_15 ?_
      refine x_rl c_Rd_valueBetween_18 ?_
      exact ⟨by rw [hv], rfl⟩
    · skip
      refine x_il c_Rd_valueBetween_0 rfl ?_
      refine x_il c_Rd_valueBetween_1 rfl ?_
      first | refine x_isubN c_Rd_valueBetween_2 (by omega) ?_ | refine x_isub c_Rd_valueBetween_2 ?_
      refine x_ci c_Rd_valueBetween_3 ?_
      refine x_cm_lt c_Rd_valueBetween_4 (fun _ => ?_) (fun h => absurd (nI_lt (by omega) (by omega)) h)
      refine x_cl c_Rd_valueBetween_15 ?_
      refine x_rl c_Rd_valueBetween_18 ?_
      exact ⟨by rw [hv], rfl⟩
set_option maxRecDepth 100000 in
set_option maxHeartbeats 4000000 in
theorem y_Rd_spanValue (d : Nat) {μ : kc_M} {tb : Nat → Nat} {sz at_ en : Nat} {wr : Bool} {id : Int32} {sf st : Nat} (hr : rd_at μ tb sz at_ en wr id sf st) (htb : ∀ j, tb j < 256) (hse : sf ≤ st) (he : st ≤ 200) : kc_Y kt kC (d + 3) j_Rd_spanValue [.ref 1] μ (fun v μ' => v = some (.long (vlS tb sf st)) ∧ μ' = μ) := by
  refine ⟨Nat.le_of_ble_eq_true rfl, ?_⟩
  refine x_al c_Rd_spanValue_0 rfl ?_
  refine x_al c_Rd_spanValue_1 rfl ?_
  refine x_get c_Rd_spanValue_2 (by first | rfl | exact hr.1) rfl ?_
  refine x_al c_Rd_spanValue_5 rfl ?_
  refine x_get c_Rd_spanValue_6 (by first | rfl | exact hr.1) rfl ?_
  refine x_cv2z _ c_Rd_spanValue_9 (by first | rfl | exact hr.1) (Nat.le_of_ble_eq_true rfl) (y_Rd_valueBetween d hr htb hse he) ?_
  rintro _ _ ⟨rfl, rfl⟩
  show kc_X _ _ _ _ _ [.long _] _ _
  refine x_rl c_Rd_spanValue_12 ?_
  exact ⟨rfl, rfl⟩
set_option maxRecDepth 100000 in
set_option maxHeartbeats 4000000 in
theorem y_Rd_spanType (d : Nat) {μ : kc_M} {tb : Nat → Nat} {sz at_ en : Nat} {wr : Bool} {id : Int32} {sf st : Nat} (hr : rd_at μ tb sz at_ en wr id sf st) (htb : ∀ j, tb j < 256) (hse : sf ≤ st) (he : st ≤ 200) : kc_Y kt kC (d + 2) j_Rd_spanType [.ref 1] μ (fun v μ' => v = some (.int (tyS tb sf st)) ∧ μ' = μ) := by
  refine ⟨Nat.le_of_ble_eq_true rfl, ?_⟩
  refine x_al c_Rd_spanType_0 rfl ?_
  refine x_get c_Rd_spanType_1 (by first | rfl | exact hr.1 | exact hr.2) rfl ?_
  refine x_al c_Rd_spanType_4 rfl ?_
  refine x_get c_Rd_spanType_5 (by first | rfl | exact hr.1 | exact hr.2) rfl ?_
  first | refine x_isubN c_Rd_spanType_8 (by omega) ?_ | refine x_isub c_Rd_spanType_8 ?_
  refine x_ci c_Rd_spanType_9 ?_
  first | refine x_cmN_ne c_Rd_spanType_10 (by omega) (by omega) (fun h10 => ?_) (fun h10 => ?_) | refine x_cm_ne c_Rd_spanType_10 (fun h10 => ?_) (fun h10 => ?_)
  · refine x_ci c_Rd_spanType_28 ?_
    refine x_ri c_Rd_spanType_29 ?_
    first | exact ⟨by unfold tyS; rw [if_pos h10], rfl⟩ | exact ⟨by unfold tyS; rw [if_neg h10], rfl⟩
  · refine x_al c_Rd_spanType_13 rfl ?_
    refine x_get c_Rd_spanType_14 (by first | rfl | exact hr.1 | exact hr.2) rfl ?_
    refine x_al c_Rd_spanType_17 rfl ?_
    refine x_get c_Rd_spanType_18 (by first | rfl | exact hr.1 | exact hr.2) rfl ?_
    refine x_ialdN c_Rd_spanType_21 (by first | rfl | exact hr.1 | exact hr.2) (by omega) (by omega) ?_
    refine x_cs1z _ c_Rd_spanType_22 (Nat.le_of_ble_eq_true rfl) (y_Rd_typeOf d (htb _)) ?_
    rintro _ _ ⟨rfl, rfl⟩
    show kc_X _ _ _ _ _ [.int _] _ _
    refine x_goto c_Rd_spanType_25 ?_
    refine x_ri c_Rd_spanType_29 ?_
    first | exact ⟨by unfold tyS; rw [if_pos h10], rfl⟩ | exact ⟨by unfold tyS; rw [if_neg h10], rfl⟩
/-- where the part of a name that begins at p ends, m bytes before the text's end at most -/
def nx (tb : Nat → Nat) : Nat → Nat → Nat
  | 0, p => p
  | m + 1, p => if tb p = 44 then p else nx tb m (p + 1)
theorem nx_le (tb : Nat → Nat) : ∀ m p, p ≤ nx tb m p ∧ nx tb m p ≤ p + m
  | 0, p => ⟨Nat.le_refl _, Nat.le_refl _⟩
  | m + 1, p => by
    unfold nx
    split
    · omega
    · have := nx_le tb m (p + 1)
      omega
set_option maxRecDepth 100000 in
set_option maxHeartbeats 4000000 in
theorem y_Rd_partEnd (d : Nat) {μ : kc_M} {tb : Nat → Nat} {sz at_ en : Nat} {wr : Bool} {id : Int32} {sf st : Nat} {p : Nat} (hr : rd_at μ tb sz at_ en wr id sf st) (htb : ∀ j, tb j < 256) (hp : p ≤ st) (he : st ≤ 200) : kc_Y kt kC (d + 1) j_Rd_partEnd [.ref 1, .int (nI p)] μ (fun v μ' => v = some (.int (nI (nx tb (st - p) p))) ∧ μ' = μ) := by
  obtain ⟨h1, h2⟩ := hr
  refine ⟨Nat.le_of_ble_eq_true rfl, ?_⟩
  have loop : ∀ m i : Nat, st - i = m → i ≤ st → nx tb m i = nx tb (st - p) p → kc_X (kC j_Rd_partEnd) (kc_Y kt kC d) (fun v μ' => v = some (.int (nI (nx tb (st - p) p))) ∧ μ' = μ) 4 [some (.ref 1), some (.int (nI p)), some (.int (nI i)), some (.int (nI i))] [] μ (0, 0) := by
    intro m
    induction m with
    | zero =>
      intro i hm hi hn
      refine x_il c_Rd_partEnd_4 rfl ?_
      refine x_al c_Rd_partEnd_5 rfl ?_
      refine x_get c_Rd_partEnd_6 (by first | rfl | exact h1 | exact h2) rfl ?_
      refine x_cm_ge c_Rd_partEnd_9 (fun _ => ?_) (fun h => absurd (nI_le (by omega) (by omega)) h)
      refine x_il c_Rd_partEnd_33 rfl ?_
      refine x_ri c_Rd_partEnd_34 ?_
      exact ⟨by rw [← hn]; rfl, rfl⟩
    | succ m ih =>
      intro i hm hi hn
      have hn : (if tb i = 44 then i else nx tb m (i + 1)) = nx tb (st - p) p := hn
      refine x_il c_Rd_partEnd_4 rfl ?_
      refine x_al c_Rd_partEnd_5 rfl ?_
      refine x_get c_Rd_partEnd_6 (by first | rfl | exact h1 | exact h2) rfl ?_
      refine x_cm_ge c_Rd_partEnd_9 (fun h => absurd h (nI_ge (by omega) (by omega))) (fun _ => ?_)
      refine x_al c_Rd_partEnd_12 rfl ?_
      refine x_get c_Rd_partEnd_13 (by first | rfl | exact h1 | exact h2) rfl ?_
      refine x_il c_Rd_partEnd_16 rfl ?_
      refine x_ialdN c_Rd_partEnd_17 (by first | rfl | exact h1 | exact h2) (by omega) (by omega) ?_
      refine x_ci c_Rd_partEnd_18 ?_
      first | refine x_cmN_eq c_Rd_partEnd_20 (by first | omega | exact tbl htb _) (by first | omega | exact tbl htb _) (fun h20 => ?_) (fun h20 => ?_) | refine x_cm_eq c_Rd_partEnd_20 (fun h20 => ?_) (fun h20 => ?_)
      · refine x_il c_Rd_partEnd_33 rfl ?_
        refine x_ri c_Rd_partEnd_34 ?_
        exact ⟨by rw [if_pos h20] at hn; rw [← hn], rfl⟩
      · refine x_il c_Rd_partEnd_23 rfl ?_
        refine x_ci c_Rd_partEnd_24 ?_
        first | refine x_iaddN c_Rd_partEnd_25 ?_ | refine x_iadd c_Rd_partEnd_25 ?_
        refine x_is [_, _, _, _] c_Rd_partEnd_26 rfl ?_
        first | refine x_incN [_, _, _, _] c_Rd_partEnd_27 rfl rfl ?_ | refine x_inc [_, _, _, _] c_Rd_partEnd_27 rfl rfl ?_
        refine x_goto c_Rd_partEnd_30 ?_
        exact ih (i + 1) (by omega) (by omega) (by rw [if_neg h20] at hn; exact hn)
  refine x_il c_Rd_partEnd_0 rfl ?_
  refine x_is [_, _, _, _] c_Rd_partEnd_1 rfl ?_
  refine x_il c_Rd_partEnd_2 rfl ?_
  refine x_is [_, _, _, _] c_Rd_partEnd_3 rfl ?_
  exact loop _ p rfl hp rfl
set_option maxRecDepth 100000 in
set_option maxHeartbeats 4000000 in
theorem y_Md_typeIn (d : Nat) {μ : kc_M} {s : Nat → Int32} {tb : Nat → Nat} (h0 : μ.1 136 = some (ce_Md s)) (h1 : μ.1 137 = some (ce_I 200 (fun j => nI (tb j)))) (htb : ∀ j, tb j < 256) {p e : Nat} (hpe : p ≤ e) (he : e ≤ 200) : kc_Y kt kC (d + 1) j_Md_typeIn [.ref 136, .int (nI p), .int (nI e)] μ (fun v μ' => v = some (.int (tyS tb p e)) ∧ μ' = μ) := by
  refine ⟨Nat.le_of_ble_eq_true rfl, ?_⟩
  refine x_il c_Md_typeIn_0 rfl ?_
  refine x_il c_Md_typeIn_1 rfl ?_
  first | refine x_isubN c_Md_typeIn_2 (by omega) ?_ | refine x_isub c_Md_typeIn_2 ?_
  refine x_ci c_Md_typeIn_3 ?_
  first | refine x_cmN_ne c_Md_typeIn_4 (by first | omega | exact tbl htb _) (by first | omega | exact tbl htb _) (fun h4 => ?_) (fun h4 => ?_) | refine x_cm_ne c_Md_typeIn_4 (fun h4 => ?_) (fun h4 => ?_)
  · refine x_ci c_Md_typeIn_38 ?_
    refine x_ri c_Md_typeIn_39 ?_
    first | exact ⟨by unfold tyS tyI; rw [if_pos h4, if_pos (by omega)], rfl⟩ | exact ⟨by unfold tyS tyI; rw [if_pos h4, if_neg (by omega)], rfl⟩ | exact ⟨by unfold tyS; rw [if_neg h4], rfl⟩
  · refine x_al c_Md_typeIn_7 rfl ?_
    refine x_get c_Md_typeIn_8 (by first | rfl | exact h0 | exact h1) rfl ?_
    refine x_il c_Md_typeIn_11 rfl ?_
    refine x_ialdN c_Md_typeIn_12 (by first | rfl | exact h0 | exact h1) (by omega) (by omega) ?_
    refine x_ci c_Md_typeIn_13 ?_
    first | refine x_cmN_lt c_Md_typeIn_15 (by first | omega | exact tbl htb _) (by first | omega | exact tbl htb _) (fun h15 => ?_) (fun h15 => ?_) | refine x_cm_lt c_Md_typeIn_15 (fun h15 => ?_) (fun h15 => ?_)
    · refine x_ci c_Md_typeIn_38 ?_
      refine x_ri c_Md_typeIn_39 ?_
      first | exact ⟨by unfold tyS tyI; rw [if_pos h4, if_pos (by omega)], rfl⟩ | exact ⟨by unfold tyS tyI; rw [if_pos h4, if_neg (by omega)], rfl⟩ | exact ⟨by unfold tyS; rw [if_neg h4], rfl⟩
    · refine x_al c_Md_typeIn_18 rfl ?_
      refine x_get c_Md_typeIn_19 (by first | rfl | exact h0 | exact h1) rfl ?_
      refine x_il c_Md_typeIn_22 rfl ?_
      refine x_ialdN c_Md_typeIn_23 (by first | rfl | exact h0 | exact h1) (by omega) (by omega) ?_
      refine x_ci c_Md_typeIn_24 ?_
      first | refine x_cmN_gt c_Md_typeIn_26 (by first | omega | exact tbl htb _) (by first | omega | exact tbl htb _) (fun h26 => ?_) (fun h26 => ?_) | refine x_cm_gt c_Md_typeIn_26 (fun h26 => ?_) (fun h26 => ?_)
      · refine x_ci c_Md_typeIn_38 ?_
        refine x_ri c_Md_typeIn_39 ?_
        first | exact ⟨by unfold tyS tyI; rw [if_pos h4, if_pos (by omega)], rfl⟩ | exact ⟨by unfold tyS tyI; rw [if_pos h4, if_neg (by omega)], rfl⟩ | exact ⟨by unfold tyS; rw [if_neg h4], rfl⟩
      · refine x_al c_Md_typeIn_29 rfl ?_
        refine x_get c_Md_typeIn_30 (by first | rfl | exact h0 | exact h1) rfl ?_
        refine x_il c_Md_typeIn_33 rfl ?_
        refine x_ialdN c_Md_typeIn_34 (by first | rfl | exact h0 | exact h1) (by omega) (by omega) ?_
        refine x_goto c_Md_typeIn_35 ?_
        refine x_ri c_Md_typeIn_39 ?_
        first | exact ⟨by unfold tyS tyI; rw [if_pos h4, if_pos (by omega)], rfl⟩ | exact ⟨by unfold tyS tyI; rw [if_pos h4, if_neg (by omega)], rfl⟩ | exact ⟨by unfold tyS; rw [if_neg h4], rfl⟩
set_option maxRecDepth 100000 in
set_option maxHeartbeats 4000000 in
theorem y_Md_valueIn (d : Nat) {μ : kc_M} {s : Nat → Int32} {tb : Nat → Nat} (h0 : μ.1 136 = some (ce_Md s)) (h1 : μ.1 137 = some (ce_I 200 (fun j => nI (tb j)))) (htb : ∀ j, tb j < 256) {p e : Nat} (hpe : p ≤ e) (he : e ≤ 200) : kc_Y kt kC (d + 2) j_Md_valueIn [.ref 136, .int (nI p), .int (nI e)] μ (fun v μ' => v = some (.long (vlS tb p e)) ∧ μ' = μ) := by
  refine ⟨Nat.le_of_ble_eq_true rfl, ?_⟩
  by_cases hlen : 1 ≤ e - p ∧ e - p ≤ 8
  · obtain ⟨l1, l2⟩ := hlen
    have loop : ∀ m k : Nat, 8 - k = m → k ≤ 8 → allB tb p (min k (e - p)) = true → ∀ jk : Option Value, kc_X (kC j_Md_valueIn) (kc_Y kt kC (d + 1)) (fun v μ' => v = some (.long (vlS tb p e)) ∧ μ' = μ) 24 [some (.ref 136), some (.int (nI p)), some (.int (nI e)), some (.long (lN (vrN tb p (e - p) k))), none, some (.int (nI k)), jk] [] μ (0, 0) := by
      intro m
      induction m with
      | zero =>
        intro k hm hk ha jk
        have hk8 : k = 8 := by omega
        subst hk8
        refine x_il c_Md_valueIn_24 rfl ?_
        refine x_ci c_Md_valueIn_26 ?_
        refine x_cm_ge c_Md_valueIn_28 (fun _ => ?_) (fun h => absurd (nI_le (by omega) (by omega)) h)
        refine x_ll c_Md_valueIn_89 rfl ?_
        refine x_rl c_Md_valueIn_90 ?_
        exact ⟨by have h9 := vrN_eq (tb := tb) (s := p) (n := e - p) 8 (by omega); rw [show min 8 (e - p) = e - p by omega] at h9 ha; simp at h9; rw [h9]; unfold vlS; rw [if_pos ⟨l1, l2, ha⟩], rfl⟩
      | succ m ih =>
        intro k hm hk ha jk
        by_cases hke : p + k < e
        · skip
          refine x_il c_Md_valueIn_24 rfl ?_
          refine x_ci c_Md_valueIn_26 ?_
          refine x_cm_ge c_Md_valueIn_28 (fun h => absurd h (nI_ge (by omega) (by omega))) (fun _ => ?_)
          refine x_il c_Md_valueIn_31 rfl ?_
          refine x_il c_Md_valueIn_32 rfl ?_
          first | refine x_iaddN c_Md_valueIn_34 ?_ | refine x_iadd c_Md_valueIn_34 ?_
          refine x_il c_Md_valueIn_35 rfl ?_
          refine x_cm_ge c_Md_valueIn_36 (fun h => absurd h (nI_ge (by omega) (by omega))) (fun _ => ?_)
          refine x_al c_Md_valueIn_39 rfl ?_
          refine x_get c_Md_valueIn_40 (by first | rfl | exact h0 | exact h1) rfl ?_
          refine x_il c_Md_valueIn_43 rfl ?_
          refine x_il c_Md_valueIn_44 rfl ?_
          first | refine x_iaddN c_Md_valueIn_46 ?_ | refine x_iadd c_Md_valueIn_46 ?_
          refine x_ialdN c_Md_valueIn_47 (by first | rfl | exact h0 | exact h1) (by omega) (by omega) ?_
          refine x_goto c_Md_valueIn_48 ?_
          refine x_is [_, _, _, _, _, _, _] c_Md_valueIn_52 rfl ?_
          refine x_il c_Md_valueIn_54 rfl ?_
          refine x_il c_Md_valueIn_55 rfl ?_
          first | refine x_iaddN c_Md_valueIn_57 ?_ | refine x_iadd c_Md_valueIn_57 ?_
          refine x_il c_Md_valueIn_58 rfl ?_
          refine x_cm_ge c_Md_valueIn_59 (fun h => absurd h (nI_ge (by omega) (by omega))) (fun _ => ?_)
          refine x_il c_Md_valueIn_62 rfl ?_
          refine x_cs1z _ c_Md_valueIn_64 (Nat.le_of_ble_eq_true rfl) (y_Md_isLetter (d := d) (htb _)) ?_
          rintro _ _ ⟨rfl, rfl⟩
          show kc_X _ _ _ _ _ [.int (bI _)] _ _
          refine x_ifB_ne c_Md_valueIn_67 (fun h67 => ?_) (fun h67 => ?_)
          · refine x_ll c_Md_valueIn_74 rfl ?_
            refine x_ci c_Md_valueIn_75 ?_
            refine x_lshl c_Md_valueIn_77 ?_
            refine x_il c_Md_valueIn_78 rfl ?_
            refine x_i2l c_Md_valueIn_80 ?_
            refine x_lor c_Md_valueIn_81 ?_
            rw [vr_or htb (n := e - p) (k := k) (by omega) (by rw [if_pos (by omega)])]
            refine x_ls [_, _, _, _, _, _, _] c_Md_valueIn_82 rfl ?_
            first | refine x_incN [_, _, _, _, _, _, _] c_Md_valueIn_83 rfl rfl ?_ | refine x_inc [_, _, _, _, _, _, _] c_Md_valueIn_83 rfl rfl ?_
            refine x_goto c_Md_valueIn_86 ?_
            exact ih (k + 1) (by omega) (by omega) (by rw [show min (k + 1) (e - p) = k + 1 by omega]; rw [show min k (e - p) = k by omega] at ha; unfold allB; rw [ha, h67]; rfl) _
          · refine x_cl c_Md_valueIn_70 ?_
            refine x_rl c_Md_valueIn_73 ?_
            exact ⟨by unfold vlS; rw [if_neg (by rintro ⟨_, _, g⟩; rw [allB_f (k := k) (by omega) h67] at g; cases g)], rfl⟩
        · skip
          refine x_il c_Md_valueIn_24 rfl ?_
          refine x_ci c_Md_valueIn_26 ?_
          refine x_cm_ge c_Md_valueIn_28 (fun h => absurd h (nI_ge (by omega) (by omega))) (fun _ => ?_)
          refine x_il c_Md_valueIn_31 rfl ?_
          refine x_il c_Md_valueIn_32 rfl ?_
          first | refine x_iaddN c_Md_valueIn_34 ?_ | refine x_iadd c_Md_valueIn_34 ?_
          refine x_il c_Md_valueIn_35 rfl ?_
          refine x_cm_ge c_Md_valueIn_36 (fun _ => ?_) (fun h => absurd (nI_le (by omega) (by omega)) h)
          refine x_ci c_Md_valueIn_51 ?_
          refine x_is [_, _, _, _, _, _, _] c_Md_valueIn_52 rfl ?_
          refine x_il c_Md_valueIn_54 rfl ?_
          refine x_il c_Md_valueIn_55 rfl ?_
          first | refine x_iaddN c_Md_valueIn_57 ?_ | refine x_iadd c_Md_valueIn_57 ?_
          refine x_il c_Md_valueIn_58 rfl ?_
          refine x_cm_ge c_Md_valueIn_59 (fun _ => ?_) (fun h => absurd (nI_le (by omega) (by omega)) h)
          refine x_ll c_Md_valueIn_74 rfl ?_
          refine x_ci c_Md_valueIn_75 ?_
          refine x_lshl c_Md_valueIn_77 ?_
          refine x_il c_Md_valueIn_78 rfl ?_
          refine x_i2l c_Md_valueIn_80 ?_
          refine x_lor c_Md_valueIn_81 ?_
          rw [vr_or htb (n := e - p) (k := k) (by omega) (by rw [if_neg (by omega)])]
          refine x_ls [_, _, _, _, _, _, _] c_Md_valueIn_82 rfl ?_
          first | refine x_incN [_, _, _, _, _, _, _] c_Md_valueIn_83 rfl rfl ?_ | refine x_inc [_, _, _, _, _, _, _] c_Md_valueIn_83 rfl rfl ?_
          refine x_goto c_Md_valueIn_86 ?_
          exact ih (k + 1) (by omega) (by omega) (by rw [show min (k + 1) (e - p) = min k (e - p) by omega]; exact ha) _
    refine x_il c_Md_valueIn_0 rfl ?_
    refine x_il c_Md_valueIn_1 rfl ?_
    first | refine x_isubN c_Md_valueIn_2 (by omega) ?_ | refine x_isub c_Md_valueIn_2 ?_
    refine x_ci c_Md_valueIn_3 ?_
    refine x_cm_lt c_Md_valueIn_4 (fun h => absurd h (nI_nlt (by omega) (by omega))) (fun _ => ?_)
    refine x_il c_Md_valueIn_7 rfl ?_
    refine x_il c_Md_valueIn_8 rfl ?_
    first | refine x_isubN c_Md_valueIn_9 (by omega) ?_ | refine x_isub c_Md_valueIn_9 ?_
    refine x_ci c_Md_valueIn_10 ?_
    refine x_cm_le c_Md_valueIn_12 (fun _ => ?_) (fun h => absurd (nI_le (by omega) (by omega)) h)
    refine x_cl c_Md_valueIn_19 ?_
    refine x_ls [_, _, _, _, _, _, _] c_Md_valueIn_20 rfl ?_
    refine x_ci c_Md_valueIn_21 ?_
    refine x_is [_, _, _, _, _, _, _] c_Md_valueIn_22 rfl ?_
    exact loop 8 0 rfl (by omega) (by simp [allB]) _
  · have hv : vlS tb p e = -1 := by unfold vlS; rw [if_neg (by rintro ⟨g1, g2, _⟩; exact hlen ⟨g1, g2⟩)]
    by_cases l1 : 1 ≤ e - p
    · skip
      refine x_il c_Md_valueIn_0 rfl ?_
      refine x_il c_Md_valueIn_1 rfl ?_
      first | refine x_isubN c_Md_valueIn_2 (by omega) ?_ | refine x_isub c_Md_valueIn_2 ?_
      refine x_ci c_Md_valueIn_3 ?_
      refine x_cm_lt c_Md_valueIn_4 (fun h => absurd h (nI_nlt (by omega) (by omega))) (fun _ => ?_)
      refine x_il c_Md_valueIn_7 rfl ?_
      refine x_il c_Md_valueIn_8 rfl ?_
      first | refine x_isubN c_Md_valueIn_9 (by omega) ?_ | refine x_isub c_Md_valueIn_9 ?_
      refine x_ci c_Md_valueIn_10 ?_
      refine x_cm_le c_Md_valueIn_12 (fun h => absurd h (nI_ge (by omega) (by omega))) (fun _ => ?_)
      refine x_cl c_Md_valueIn_15 ?_
      refine x_rl c_Md_valueIn_18 ?_
      exact ⟨by rw [hv], rfl⟩
    · skip
      refine x_il c_Md_valueIn_0 rfl ?_
      refine x_il c_Md_valueIn_1 rfl ?_
      first | refine x_isubN c_Md_valueIn_2 (by omega) ?_ | refine x_isub c_Md_valueIn_2 ?_
      refine x_ci c_Md_valueIn_3 ?_
      refine x_cm_lt c_Md_valueIn_4 (fun _ => ?_) (fun h => absurd (nI_lt (by omega) (by omega)) h)
      refine x_cl c_Md_valueIn_15 ?_
      refine x_rl c_Md_valueIn_18 ?_
      exact ⟨by rw [hv], rfl⟩
