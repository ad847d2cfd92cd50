/-! elements: where one begins at p, its contents' begin and end -/
def el (tb : Nat → Nat) (p e : Nat) : Option (Nat × Nat) :=
  if p + 3 ≤ e ∧ tb (p + 1) = 129 ∧ p + 3 + tb (p + 2) ≤ e then some (p + 3, p + 3 + tb (p + 2))
  else if p + 2 ≤ e ∧ tb (p + 1) ≤ 127 ∧ p + 2 + tb (p + 1) ≤ e then some (p + 2, p + 2 + tb (p + 1)) else none
/-- one of that tag; a number; a choice -/
def tl (tb : Nat → Nat) (t p e : Nat) : Option (Nat × Nat) := if tb p = t then el tb p e else none
def nl (tb : Nat → Nat) (p e : Nat) : Option (Nat × Nat) := match tl tb 2 p e with
  | some (x, y) => if y - x = 1 ∨ y - x = 2 then some (x, y) else none
  | none => none
def cl_ (tb : Nat → Nat) (m p e : Nat) : Option (Nat × Nat) := match tl tb 10 p e with
  | some (x, y) => if y - x = 1 ∧ tb x ≤ m then some (x, y) else none
  | none => none
theorem el_in {tb : Nat → Nat} {p e x y : Nat} (h : el tb p e = some (x, y)) : p + 2 ≤ x ∧ x ≤ y ∧ y ≤ e := by
  unfold el at h
  split at h
  · simp only [Option.some.injEq, Prod.mk.injEq] at h
    omega
  · split at h
    · simp only [Option.some.injEq, Prod.mk.injEq] at h
      omega
    · cases h
theorem tl_el {tb : Nat → Nat} {t p e x y : Nat} (h : tl tb t p e = some (x, y)) : el tb p e = some (x, y) ∧ tb p = t := by
  unfold tl at h
  split at h
  · rename_i g; exact ⟨h, g⟩
  · cases h
theorem tl_in {tb : Nat → Nat} {t p e x y : Nat} (h : tl tb t p e = some (x, y)) : p + 2 ≤ x ∧ x ≤ y ∧ y ≤ e := el_in (tl_el h).1
theorem nl_in {tb : Nat → Nat} {p e x y : Nat} (h : nl tb p e = some (x, y)) : tl tb 2 p e = some (x, y) ∧ (y - x = 1 ∨ y - x = 2) := by
  unfold nl at h
  split at h
  · rename_i x1 y1 g
    split at h
    · rename_i g2
      simp only [Option.some.injEq, Prod.mk.injEq] at h
      obtain ⟨rfl, rfl⟩ := h
      exact ⟨g, g2⟩
    · cases h
  · cases h
theorem cl_in {tb : Nat → Nat} {m p e x y : Nat} (h : cl_ tb m p e = some (x, y)) : tl tb 10 p e = some (x, y) ∧ y - x = 1 ∧ tb x ≤ m := by
  unfold cl_ at h
  split at h
  · rename_i x1 y1 g
    split at h
    · rename_i g2
      simp only [Option.some.injEq, Prod.mk.injEq] at h
      obtain ⟨rfl, rfl⟩ := h
      exact ⟨g, g2⟩
    · cases h
  · cases h
/-- the reference's object has new numbers in the places X; nothing else changed -/
def mdC (μ μ' : kc_M) (s s' : Nat → Int32) (X : List Nat) : Prop := μ'.1 136 = some (ce_Md s') ∧ (∀ i, i ∉ X → s' i = s i) ∧ ∀ q, q ≠ 136 → μ'.1 q = μ.1 q
/-- an element was found, or none -/
def mdE (μ : kc_M) (s : Nat → Int32) (r : Option (Nat × Nat)) (t : Option Nat) (v : Option Value) (μ' : kc_M) : Prop :=
  ∃ s', mdC μ μ' s s' [13, 14, 15] ∧ ((∃ x y, r = some (x, y) ∧ v = some (.int (bI true)) ∧ (∀ u, t = some u → s' 13 = nI u) ∧ s' 14 = nI x ∧ s' 15 = nI y) ∨ (r = none ∧ v = some (.int (bI false))))
theorem nI_md (a k : Nat) : nI (a + k * 4294967296) = nI a := by
  apply Int32.toBitVec_inj.mp
  apply BitVec.eq_of_toNat_eq
  show (BitVec.ofNat 32 (a + k * 4294967296)).toNat = (BitVec.ofNat 32 a).toNat
  rw [BitVec.toNat_ofNat, BitVec.toNat_ofNat]
  omega
theorem nI_sb (a b : Nat) (h : b ≤ 4294967296) : nI a - nI b = nI (a + (4294967296 - b)) := by
  have h1 : nI a = nI (a + (4294967296 - b)) - nI (4294967296 - b) := by rw [pk_sub (by omega)]; congr 1; omega
  have h2 : nI (4294967296 - b) + nI b = nI 0 := by
    rw [nI_add, show 4294967296 - b + b = 0 + 1 * 4294967296 by omega, nI_md]
  rw [h1, Int32.sub_sub, h2, show nI 0 = 0 from rfl, Int32.sub_zero]
theorem s8_eq {b : Nat} (hb : b < 256) : s8 b = if 127 < b then nI b - nI 256 else nI b := by
  have h : ∀ b : Fin 256, s8 b.val = if 127 < b.val then nI b.val - nI 256 else nI b.val := by decide +kernel
  exact h ⟨b, hb⟩
theorem nI_or8 {b c : Nat} (hc : c < 256) : (nI b <<< (nI 8 &&& 31)) ||| nI c = nI (b * 256 + c) := by
  apply Int32.toBitVec_inj.mp
  apply BitVec.eq_of_toNat_eq
  rw [Int32.toBitVec_or, BitVec.toNat_or, pk_shl (nI b) (nI 8 &&& 31) 8 (by decide)]
  show ((BitVec.ofNat 32 b).toNat * 2 ^ 8 % 2 ^ 32) ||| (BitVec.ofNat 32 c).toNat = (BitVec.ofNat 32 (b * 256 + c)).toNat
  rw [BitVec.toNat_ofNat, BitVec.toNat_ofNat, BitVec.toNat_ofNat]
  have h1 : b % 2 ^ 32 * 2 ^ 8 % 2 ^ 32 = (b % 2 ^ 24) <<< 8 := by rw [Nat.shiftLeft_eq]; omega
  have h2 : c % 2 ^ 32 = c := by omega
  rw [h1, h2, ← Nat.shiftLeft_add_eq_or_of_lt (by omega), Nat.shiftLeft_eq]
  omega
theorem s16_eq {b c : Nat} (hb : b < 256) (hc : c < 256) : s16 b c = nI 256 * (if 127 < b then nI b - nI 256 else nI b) + nI c := by
  unfold s16
  rw [nI_or8 hc]
  have key : (nI (b * 256 + c)).toInt16.toInt32 = if b * 256 + c < 32768 then nI (b * 256 + c) else nI (b * 256 + c + 4294901760) := by
    apply Int32.toInt_inj.mp
    rw [Int16.toInt_toInt32, Int32.toInt_toInt16, nI_toInt (by omega)]
    split
    · rw [nI_toInt (by omega)]
      simp only [Int.bmod_def]
      omega
    · have h1 : (nI (b * 256 + c + 4294901760)).toInt = ((b * 256 + c + 4294901760 : Nat) : Int).bmod (2 ^ 32) := Int32.toInt_ofNat
      rw [h1]
      simp only [Int.bmod_def]
      omega
  rw [key]
  by_cases h : 127 < b
  · rw [if_pos h, if_neg (by omega), nI_sb _ _ (by omega), pk_mul, nI_add]
    rw [show 256 * (b + (4294967296 - 256)) + c = b * 256 + c + 4294901760 + 255 * 4294967296 by omega, nI_md]
  · rw [if_neg h, if_pos (by omega), pk_mul, nI_add]
    congr 1
    omega
def nuS (tb : Nat → Nat) (x y : Nat) : Int32 := if y - x = 1 then s8 (tb x) else s16 (tb x) (tb (x + 1))
set_option maxRecDepth 100000 in
set_option maxHeartbeats 4000000 in
theorem y_Md_element (d : Nat) {μ : kc_M} {s : Nat → Int32} {tb : Nat → Nat} (h0 : μ.1 136 = some (ce_Md s)) (h1 : μ.1 137 = some (ce_I 200 (fun j => nI (tb j)))) (htb : ∀ j, tb j < 256) {p e : Nat} (hp : p ≤ 200) (he : e ≤ 200) : kc_Y kt kC (d + 1) j_Md_element [.ref 136, .int (nI p), .int (nI e)] μ (mdE μ s (el tb p e) (some (tb p))) := by
  refine ⟨Nat.le_of_ble_eq_true rfl, ?_⟩
  have t1 := htb (p + 1)
  have t2 := htb (p + 2)
  refine x_il c_Md_element_0 rfl ?_
  refine x_ci c_Md_element_1 ?_
  first | refine x_iaddN c_Md_element_2 ?_ | refine x_iadd c_Md_element_2 ?_
  refine x_il c_Md_element_3 rfl ?_
  first | refine x_cmN_le c_Md_element_4 (by first | omega | exact tbl htb _) (by first | omega | exact tbl htb _) (fun h4 => ?_) (fun h4 => ?_) | refine x_cm_le c_Md_element_4 (fun h4 => ?_) (fun h4 => ?_)
  · refine x_al c_Md_element_9 rfl ?_
    refine x_al c_Md_element_10 rfl ?_
    refine x_get c_Md_element_11 (by first | rfl | exact h0 | exact h1) rfl ?_
    refine x_il c_Md_element_14 rfl ?_
    refine x_ialdN c_Md_element_15 (by first | rfl | exact h0 | exact h1) (by omega) (by omega) ?_
    refine x_putM c_Md_element_16 (by first | rfl | exact h0 | exact h1) ⟨by decide, rfl, rfl⟩ rfl ?_
    refine x_al c_Md_element_19 rfl ?_
    refine x_get c_Md_element_20 (by first | rfl | exact h0 | exact h1) rfl ?_
    refine x_il c_Md_element_23 rfl ?_
    refine x_ci c_Md_element_24 ?_
    first | refine x_iaddN c_Md_element_25 ?_ | refine x_iadd c_Md_element_25 ?_
    refine x_ialdN c_Md_element_26 (by first | rfl | exact h0 | exact h1) (by omega) (by omega) ?_
    refine x_is [_, _, _, _] c_Md_element_27 rfl ?_
    refine x_al c_Md_element_28 rfl ?_
    refine x_il c_Md_element_29 rfl ?_
    refine x_ci c_Md_element_30 ?_
    first | refine x_iaddN c_Md_element_31 ?_ | refine x_iadd c_Md_element_31 ?_
    refine x_putM c_Md_element_32 (by first | rfl | exact h0 | exact h1) ⟨by decide, rfl, rfl⟩ rfl ?_
    refine x_il c_Md_element_35 rfl ?_
    refine x_ci c_Md_element_36 ?_
    first | refine x_cmN_ne c_Md_element_39 (by first | omega | exact tbl htb _) (by first | omega | exact tbl htb _) (fun h39 => ?_) (fun h39 => ?_) | refine x_cm_ne c_Md_element_39 (fun h39 => ?_) (fun h39 => ?_)
    · refine x_il c_Md_element_70 rfl ?_
      refine x_ci c_Md_element_71 ?_
      first | refine x_cmN_le c_Md_element_73 (by first | omega | exact tbl htb _) (by first | omega | exact tbl htb _) (fun h73 => ?_) (fun h73 => ?_) | refine x_cm_le c_Md_element_73 (fun h73 => ?_) (fun h73 => ?_)
      · refine x_al c_Md_element_78 rfl ?_
        refine x_al c_Md_element_79 rfl ?_
        refine x_getE c_Md_element_80 (by first | rfl | exact h0 | exact h1) rfl (by first | exact rfl | rfl) ?_
        refine x_il c_Md_element_83 rfl ?_
        first | refine x_iaddN c_Md_element_84 ?_ | refine x_iadd c_Md_element_84 ?_
        refine x_putM c_Md_element_85 (by first | rfl | exact h0 | exact h1) ⟨by decide, rfl, rfl⟩ rfl ?_
        refine x_al c_Md_element_88 rfl ?_
        refine x_getE c_Md_element_89 (by first | rfl | exact h0 | exact h1) rfl (by first | exact rfl | rfl) ?_
        refine x_il c_Md_element_92 rfl ?_
        first | refine x_cmN_gt c_Md_element_93 (by first | omega | exact tbl htb _) (by first | omega | exact tbl htb _) (fun h93 => ?_) (fun h93 => ?_) | refine x_cm_gt c_Md_element_93 (fun h93 => ?_) (fun h93 => ?_)
        · refine x_ci c_Md_element_100 ?_
          refine x_rz c_Md_element_101 (by first | decide | exact kz_n _) ?_
          first | exact ⟨_, ⟨kc_gs, fun i hi => by simp only [List.mem_cons, List.not_mem_nil, or_false, not_or] at hi; simp [upd, hi], fun q hq => by rw [kc_gf hq, kc_gf hq, kc_gf hq, kc_gf hq]⟩, Or.inr ⟨(by unfold el; rw [if_neg (by omega), if_neg (by omega)]), rfl⟩⟩ | exact ⟨_, ⟨kc_gs, fun i hi => by simp only [List.mem_cons, List.not_mem_nil, or_false, not_or] at hi; simp [upd, hi], fun q hq => by rw [kc_gf hq, kc_gf hq, kc_gf hq]⟩, Or.inr ⟨(by unfold el; rw [if_neg (by omega), if_neg (by omega)]), rfl⟩⟩ | exact ⟨_, ⟨kc_gs, fun i hi => by simp only [List.mem_cons, List.not_mem_nil, or_false, not_or] at hi; simp [upd, hi], fun q hq => by rw [kc_gf hq, kc_gf hq, kc_gf hq, kc_gf hq]⟩, Or.inl ⟨_, _, (by unfold el; rw [if_pos (by omega)]), rfl, fun u hu => (by cases hu; rfl), rfl, rfl⟩⟩ | exact ⟨_, ⟨kc_gs, fun i hi => by simp only [List.mem_cons, List.not_mem_nil, or_false, not_or] at hi; simp [upd, hi], fun q hq => by rw [kc_gf hq, kc_gf hq, kc_gf hq]⟩, Or.inl ⟨_, _, (by unfold el; rw [if_neg (by omega), if_pos (by omega)]), rfl, fun u hu => (by cases hu; rfl), rfl, rfl⟩⟩
        · refine x_ci c_Md_element_96 ?_
          refine x_goto c_Md_element_97 ?_
          refine x_rz c_Md_element_101 (by first | decide | exact kz_n _) ?_
          first | exact ⟨_, ⟨kc_gs, fun i hi => by simp only [List.mem_cons, List.not_mem_nil, or_false, not_or] at hi; simp [upd, hi], fun q hq => by rw [kc_gf hq, kc_gf hq, kc_gf hq, kc_gf hq]⟩, Or.inr ⟨(by unfold el; rw [if_neg (by omega), if_neg (by omega)]), rfl⟩⟩ | exact ⟨_, ⟨kc_gs, fun i hi => by simp only [List.mem_cons, List.not_mem_nil, or_false, not_or] at hi; simp [upd, hi], fun q hq => by rw [kc_gf hq, kc_gf hq, kc_gf hq]⟩, Or.inr ⟨(by unfold el; rw [if_neg (by omega), if_neg (by omega)]), rfl⟩⟩ | exact ⟨_, ⟨kc_gs, fun i hi => by simp only [List.mem_cons, List.not_mem_nil, or_false, not_or] at hi; simp [upd, hi], fun q hq => by rw [kc_gf hq, kc_gf hq, kc_gf hq, kc_gf hq]⟩, Or.inl ⟨_, _, (by unfold el; rw [if_pos (by omega)]), rfl, fun u hu => (by cases hu; rfl), rfl, rfl⟩⟩ | exact ⟨_, ⟨kc_gs, fun i hi => by simp only [List.mem_cons, List.not_mem_nil, or_false, not_or] at hi; simp [upd, hi], fun q hq => by rw [kc_gf hq, kc_gf hq, kc_gf hq]⟩, Or.inl ⟨_, _, (by unfold el; rw [if_neg (by omega), if_pos (by omega)]), rfl, fun u hu => (by cases hu; rfl), rfl, rfl⟩⟩
      · refine x_ci c_Md_element_76 ?_
        refine x_rz c_Md_element_77 (by first | decide | exact kz_n _) ?_
        exact ⟨_, ⟨kc_gs, fun i hi => by simp only [List.mem_cons, List.not_mem_nil, or_false, not_or] at hi; simp [upd, hi], fun q hq => by rw [kc_gf hq, kc_gf hq]⟩, Or.inr ⟨(by unfold el; rw [if_neg (by omega), if_neg (by omega)]), rfl⟩⟩
    · refine x_il c_Md_element_42 rfl ?_
      refine x_ci c_Md_element_43 ?_
      first | refine x_iaddN c_Md_element_44 ?_ | refine x_iadd c_Md_element_44 ?_
      refine x_il c_Md_element_45 rfl ?_
      first | refine x_cmN_le c_Md_element_46 (by first | omega | exact tbl htb _) (by first | omega | exact tbl htb _) (fun h46 => ?_) (fun h46 => ?_) | refine x_cm_le c_Md_element_46 (fun h46 => ?_) (fun h46 => ?_)
      · refine x_al c_Md_element_51 rfl ?_
        refine x_get c_Md_element_52 (by first | rfl | exact h0 | exact h1) rfl ?_
        refine x_il c_Md_element_55 rfl ?_
        refine x_ci c_Md_element_56 ?_
        first | refine x_iaddN c_Md_element_57 ?_ | refine x_iadd c_Md_element_57 ?_
        refine x_ialdN c_Md_element_58 (by first | rfl | exact h0 | exact h1) (by omega) (by omega) ?_
        refine x_is [_, _, _, _] c_Md_element_59 rfl ?_
        refine x_al c_Md_element_60 rfl ?_
        refine x_il c_Md_element_61 rfl ?_
        refine x_ci c_Md_element_62 ?_
        first | refine x_iaddN c_Md_element_63 ?_ | refine x_iadd c_Md_element_63 ?_
        refine x_putM c_Md_element_64 (by first | rfl | exact h0 | exact h1) ⟨by decide, rfl, rfl⟩ rfl ?_
        refine x_goto c_Md_element_67 ?_
        refine x_al c_Md_element_78 rfl ?_
        refine x_al c_Md_element_79 rfl ?_
        refine x_getE c_Md_element_80 (by first | rfl | exact h0 | exact h1) rfl (by first | exact rfl | rfl) ?_
        refine x_il c_Md_element_83 rfl ?_
        first | refine x_iaddN c_Md_element_84 ?_ | refine x_iadd c_Md_element_84 ?_
        refine x_putM c_Md_element_85 (by first | rfl | exact h0 | exact h1) ⟨by decide, rfl, rfl⟩ rfl ?_
        refine x_al c_Md_element_88 rfl ?_
        refine x_getE c_Md_element_89 (by first | rfl | exact h0 | exact h1) rfl (by first | exact rfl | rfl) ?_
        refine x_il c_Md_element_92 rfl ?_
        first | refine x_cmN_gt c_Md_element_93 (by first | omega | exact tbl htb _) (by first | omega | exact tbl htb _) (fun h93 => ?_) (fun h93 => ?_) | refine x_cm_gt c_Md_element_93 (fun h93 => ?_) (fun h93 => ?_)
        · refine x_ci c_Md_element_100 ?_
          refine x_rz c_Md_element_101 (by first | decide | exact kz_n _) ?_
          first | exact ⟨_, ⟨kc_gs, fun i hi => by simp only [List.mem_cons, List.not_mem_nil, or_false, not_or] at hi; simp [upd, hi], fun q hq => by rw [kc_gf hq, kc_gf hq, kc_gf hq, kc_gf hq]⟩, Or.inr ⟨(by unfold el; rw [if_neg (by omega), if_neg (by omega)]), rfl⟩⟩ | exact ⟨_, ⟨kc_gs, fun i hi => by simp only [List.mem_cons, List.not_mem_nil, or_false, not_or] at hi; simp [upd, hi], fun q hq => by rw [kc_gf hq, kc_gf hq, kc_gf hq]⟩, Or.inr ⟨(by unfold el; rw [if_neg (by omega), if_neg (by omega)]), rfl⟩⟩ | exact ⟨_, ⟨kc_gs, fun i hi => by simp only [List.mem_cons, List.not_mem_nil, or_false, not_or] at hi; simp [upd, hi], fun q hq => by rw [kc_gf hq, kc_gf hq, kc_gf hq, kc_gf hq]⟩, Or.inl ⟨_, _, (by unfold el; rw [if_pos (by omega)]), rfl, fun u hu => (by cases hu; rfl), rfl, rfl⟩⟩ | exact ⟨_, ⟨kc_gs, fun i hi => by simp only [List.mem_cons, List.not_mem_nil, or_false, not_or] at hi; simp [upd, hi], fun q hq => by rw [kc_gf hq, kc_gf hq, kc_gf hq]⟩, Or.inl ⟨_, _, (by unfold el; rw [if_neg (by omega), if_pos (by omega)]), rfl, fun u hu => (by cases hu; rfl), rfl, rfl⟩⟩
        · refine x_ci c_Md_element_96 ?_
          refine x_goto c_Md_element_97 ?_
          refine x_rz c_Md_element_101 (by first | decide | exact kz_n _) ?_
          first | exact ⟨_, ⟨kc_gs, fun i hi => by simp only [List.mem_cons, List.not_mem_nil, or_false, not_or] at hi; simp [upd, hi], fun q hq => by rw [kc_gf hq, kc_gf hq, kc_gf hq, kc_gf hq]⟩, Or.inr ⟨(by unfold el; rw [if_neg (by omega), if_neg (by omega)]), rfl⟩⟩ | exact ⟨_, ⟨kc_gs, fun i hi => by simp only [List.mem_cons, List.not_mem_nil, or_false, not_or] at hi; simp [upd, hi], fun q hq => by rw [kc_gf hq, kc_gf hq, kc_gf hq]⟩, Or.inr ⟨(by unfold el; rw [if_neg (by omega), if_neg (by omega)]), rfl⟩⟩ | exact ⟨_, ⟨kc_gs, fun i hi => by simp only [List.mem_cons, List.not_mem_nil, or_false, not_or] at hi; simp [upd, hi], fun q hq => by rw [kc_gf hq, kc_gf hq, kc_gf hq, kc_gf hq]⟩, Or.inl ⟨_, _, (by unfold el; rw [if_pos (by omega)]), rfl, fun u hu => (by cases hu; rfl), rfl, rfl⟩⟩ | exact ⟨_, ⟨kc_gs, fun i hi => by simp only [List.mem_cons, List.not_mem_nil, or_false, not_or] at hi; simp [upd, hi], fun q hq => by rw [kc_gf hq, kc_gf hq, kc_gf hq]⟩, Or.inl ⟨_, _, (by unfold el; rw [if_neg (by omega), if_pos (by omega)]), rfl, fun u hu => (by cases hu; rfl), rfl, rfl⟩⟩
      · refine x_ci c_Md_element_49 ?_
        refine x_rz c_Md_element_50 (by first | decide | exact kz_n _) ?_
        exact ⟨_, ⟨kc_gs, fun i hi => by simp only [List.mem_cons, List.not_mem_nil, or_false, not_or] at hi; simp [upd, hi], fun q hq => by rw [kc_gf hq, kc_gf hq]⟩, Or.inr ⟨(by unfold el; rw [if_neg (by omega), if_neg (by omega)]), rfl⟩⟩
  · refine x_ci c_Md_element_7 ?_
    refine x_rz c_Md_element_8 (by first | decide | exact kz_n _) ?_
    exact ⟨s, ⟨h0, fun _ _ => rfl, fun _ _ => rfl⟩, Or.inr ⟨(by unfold el; rw [if_neg (by omega), if_neg (by omega)]), rfl⟩⟩
set_option maxRecDepth 100000 in
set_option maxHeartbeats 4000000 in
theorem y_Md_tagged (d : Nat) {μ : kc_M} {s : Nat → Int32} {tb : Nat → Nat} (h0 : μ.1 136 = some (ce_Md s)) (h1 : μ.1 137 = some (ce_I 200 (fun j => nI (tb j)))) (htb : ∀ j, tb j < 256) {p e : Nat} (hp : p ≤ 200) (he : e ≤ 200) {t : Nat} (ht : t < 256) : kc_Y kt kC (d + 2) j_Md_tagged [.ref 136, .int (nI p), .int (nI e), .int (nI t)] μ (mdE μ s (tl tb t p e) (some t)) := by
  refine ⟨Nat.le_of_ble_eq_true rfl, ?_⟩
  refine x_al c_Md_tagged_0 rfl ?_
  refine x_il c_Md_tagged_1 rfl ?_
  refine x_il c_Md_tagged_2 rfl ?_
  refine x_cv2z _ c_Md_tagged_3 (by first | rfl | exact h0) (Nat.le_of_ble_eq_true rfl) (y_Md_element (d := d) h0 h1 htb hp he) ?_
  rintro v μ1 ⟨s1, hc, ⟨x, y, hr, rfl, h13, h14, h15⟩ | ⟨hr, rfl⟩⟩
  · show kc_X _ _ _ _ _ [.int (bI true)] _ _
    refine x_if_eq c_Md_tagged_6 (fun h => absurd h (by decide)) (fun _ => ?_)
    refine x_al c_Md_tagged_9 rfl ?_
    refine x_getE c_Md_tagged_10 (by first | rfl | exact hc.1) rfl (by first | exact h13 _ rfl | rfl) ?_
    refine x_il c_Md_tagged_13 rfl ?_
    first | refine x_cmN_ne c_Md_tagged_14 (by first | omega | exact tbl htb _) (by first | omega | exact tbl htb _) (fun h14' => ?_) (fun h14' => ?_) | refine x_cm_ne c_Md_tagged_14 (fun h14' => ?_) (fun h14' => ?_)
    · refine x_ci c_Md_tagged_21 ?_
      refine x_rz c_Md_tagged_22 (by first | decide | exact kz_n _) ?_
      first | exact ⟨s1, hc, Or.inl ⟨x, y, by unfold tl; rw [if_pos h14']; exact hr, rfl, fun u hu => by cases hu; rw [← h14']; exact h13 _ rfl, h14, h15⟩⟩ | exact ⟨s1, hc, Or.inr ⟨by unfold tl; rw [if_neg h14'], rfl⟩⟩
    · refine x_ci c_Md_tagged_17 ?_
      refine x_goto c_Md_tagged_18 ?_
      refine x_rz c_Md_tagged_22 (by first | decide | exact kz_n _) ?_
      first | exact ⟨s1, hc, Or.inl ⟨x, y, by unfold tl; rw [if_pos h14']; exact hr, rfl, fun u hu => by cases hu; rw [← h14']; exact h13 _ rfl, h14, h15⟩⟩ | exact ⟨s1, hc, Or.inr ⟨by unfold tl; rw [if_neg h14'], rfl⟩⟩
  · show kc_X _ _ _ _ _ [.int (bI false)] _ _
    refine x_if_eq c_Md_tagged_6 (fun _ => ?_) (fun h => absurd (rfl) h)
    refine x_ci c_Md_tagged_21 ?_
    refine x_rz c_Md_tagged_22 (by first | decide | exact kz_n _) ?_
    exact ⟨s1, hc, Or.inr ⟨by unfold tl; split <;> first | exact hr | rfl, rfl⟩⟩
set_option maxRecDepth 100000 in
set_option maxHeartbeats 4000000 in
theorem y_Md_numbered (d : Nat) {μ : kc_M} {s : Nat → Int32} {tb : Nat → Nat} (h0 : μ.1 136 = some (ce_Md s)) (h1 : μ.1 137 = some (ce_I 200 (fun j => nI (tb j)))) (htb : ∀ j, tb j < 256) {p e : Nat} (hp : p ≤ 200) (he : e ≤ 200) : kc_Y kt kC (d + 3) j_Md_numbered [.ref 136, .int (nI p), .int (nI e)] μ (mdE μ s (nl tb p e) (some 2)) := by
  refine ⟨Nat.le_of_ble_eq_true rfl, ?_⟩
  refine x_al c_Md_numbered_0 rfl ?_
  refine x_il c_Md_numbered_1 rfl ?_
  refine x_il c_Md_numbered_2 rfl ?_
  refine x_ci c_Md_numbered_3 ?_
  refine x_cv3z _ c_Md_numbered_4 (by first | rfl | exact h0) (Nat.le_of_ble_eq_true rfl) (y_Md_tagged (d := d) h0 h1 htb hp he (t := 2) (by omega)) ?_
  rintro v μ1 ⟨s1, hc, ⟨x, y, hr, rfl, h13, h14, h15⟩ | ⟨hr, rfl⟩⟩
  · show kc_X _ _ _ _ _ [.int (bI true)] _ _
    have hin := tl_in hr
    have k1 : μ1.1 137 = some (ce_I 200 (fun j => nI (tb j))) := (hc.2.2 137 (by omega)).trans h1
    refine x_if_eq c_Md_numbered_7 (fun h => absurd h (by decide)) (fun _ => ?_)
    refine x_al c_Md_numbered_10 rfl ?_
    refine x_getE c_Md_numbered_11 (by first | rfl | exact hc.1 | exact k1) rfl (by first | exact h14 | exact h15 | rfl) ?_
    refine x_al c_Md_numbered_14 rfl ?_
    refine x_getE c_Md_numbered_15 (by first | rfl | exact hc.1 | exact k1) rfl (by first | exact h14 | exact h15 | rfl) ?_
    first | refine x_isubN c_Md_numbered_18 (by omega) ?_ | refine x_isub c_Md_numbered_18 ?_
    refine x_ci c_Md_numbered_19 ?_
    first | refine x_cmN_eq c_Md_numbered_20 (by first | omega | exact tbl htb _) (by first | omega | exact tbl htb _) (fun h20 => ?_) (fun h20 => ?_) | refine x_cm_eq c_Md_numbered_20 (fun h20 => ?_) (fun h20 => ?_)
    · refine x_ci c_Md_numbered_36 ?_
      refine x_goto c_Md_numbered_37 ?_
      refine x_rz c_Md_numbered_41 (by first | decide | exact kz_n _) ?_
      first | exact ⟨s1, hc, Or.inl ⟨x, y, by unfold nl; rw [hr]; dsimp only; rw [if_pos (by omega)], rfl, h13, h14, h15⟩⟩ | exact ⟨s1, hc, Or.inr ⟨by unfold nl; rw [hr]; dsimp only; rw [if_neg (by omega)], rfl⟩⟩
    · refine x_al c_Md_numbered_23 rfl ?_
      refine x_getE c_Md_numbered_24 (by first | rfl | exact hc.1 | exact k1) rfl (by first | exact h14 | exact h15 | rfl) ?_
      refine x_al c_Md_numbered_27 rfl ?_
      refine x_getE c_Md_numbered_28 (by first | rfl | exact hc.1 | exact k1) rfl (by first | exact h14 | exact h15 | rfl) ?_
      first | refine x_isubN c_Md_numbered_31 (by omega) ?_ | refine x_isub c_Md_numbered_31 ?_
      refine x_ci c_Md_numbered_32 ?_
      first | refine x_cmN_ne c_Md_numbered_33 (by first | omega | exact tbl htb _) (by first | omega | exact tbl htb _) (fun h33 => ?_) (fun h33 => ?_) | refine x_cm_ne c_Md_numbered_33 (fun h33 => ?_) (fun h33 => ?_)
      · refine x_ci c_Md_numbered_40 ?_
        refine x_rz c_Md_numbered_41 (by first | decide | exact kz_n _) ?_
        first | exact ⟨s1, hc, Or.inl ⟨x, y, by unfold nl; rw [hr]; dsimp only; rw [if_pos (by omega)], rfl, h13, h14, h15⟩⟩ | exact ⟨s1, hc, Or.inr ⟨by unfold nl; rw [hr]; dsimp only; rw [if_neg (by omega)], rfl⟩⟩
      · refine x_ci c_Md_numbered_36 ?_
        refine x_goto c_Md_numbered_37 ?_
        refine x_rz c_Md_numbered_41 (by first | decide | exact kz_n _) ?_
        first | exact ⟨s1, hc, Or.inl ⟨x, y, by unfold nl; rw [hr]; dsimp only; rw [if_pos (by omega)], rfl, h13, h14, h15⟩⟩ | exact ⟨s1, hc, Or.inr ⟨by unfold nl; rw [hr]; dsimp only; rw [if_neg (by omega)], rfl⟩⟩
  · show kc_X _ _ _ _ _ [.int (bI false)] _ _
    refine x_if_eq c_Md_numbered_7 (fun _ => ?_) (fun h => absurd (rfl) h)
    refine x_ci c_Md_numbered_40 ?_
    refine x_rz c_Md_numbered_41 (by first | decide | exact kz_n _) ?_
    exact ⟨s1, hc, Or.inr ⟨by unfold nl; rw [hr], rfl⟩⟩
set_option maxRecDepth 100000 in
set_option maxHeartbeats 4000000 in
theorem y_Md_chosen (d : Nat) {μ : kc_M} {s : Nat → Int32} {tb : Nat → Nat} (h0 : μ.1 136 = some (ce_Md s)) (h1 : μ.1 137 = some (ce_I 200 (fun j => nI (tb j)))) (htb : ∀ j, tb j < 256) {p e : Nat} (hp : p ≤ 200) (he : e ≤ 200) {m : Nat} (hm : m < 256) : kc_Y kt kC (d + 3) j_Md_chosen [.ref 136, .int (nI p), .int (nI e), .int (nI m)] μ (mdE μ s (cl_ tb m p e) (some 10)) := by
  refine ⟨Nat.le_of_ble_eq_true rfl, ?_⟩
  refine x_al c_Md_chosen_0 rfl ?_
  refine x_il c_Md_chosen_1 rfl ?_
  refine x_il c_Md_chosen_2 rfl ?_
  refine x_ci c_Md_chosen_3 ?_
  refine x_cv3z _ c_Md_chosen_5 (by first | rfl | exact h0) (Nat.le_of_ble_eq_true rfl) (y_Md_tagged (d := d) h0 h1 htb hp he (t := 10) (by omega)) ?_
  rintro v μ1 ⟨s1, hc, ⟨x, y, hr, rfl, h13, h14, h15⟩ | ⟨hr, rfl⟩⟩
  · show kc_X _ _ _ _ _ [.int (bI true)] _ _
    have hin := tl_in hr
    have k1 : μ1.1 137 = some (ce_I 200 (fun j => nI (tb j))) := (hc.2.2 137 (by omega)).trans h1
    refine x_if_eq c_Md_chosen_8 (fun h => absurd h (by decide)) (fun _ => ?_)
    refine x_al c_Md_chosen_11 rfl ?_
    refine x_getE c_Md_chosen_12 (by first | rfl | exact hc.1 | exact k1) rfl (by first | exact h14 | exact h15 | rfl) ?_
    refine x_al c_Md_chosen_15 rfl ?_
    refine x_getE c_Md_chosen_16 (by first | rfl | exact hc.1 | exact k1) rfl (by first | exact h14 | exact h15 | rfl) ?_
    first | refine x_isubN c_Md_chosen_19 (by omega) ?_ | refine x_isub c_Md_chosen_19 ?_
    refine x_ci c_Md_chosen_20 ?_
    first | refine x_cmN_ne c_Md_chosen_21 (by first | omega | exact tbl htb _) (by first | omega | exact tbl htb _) (fun h21 => ?_) (fun h21 => ?_) | refine x_cm_ne c_Md_chosen_21 (fun h21 => ?_) (fun h21 => ?_)
    · refine x_ci c_Md_chosen_41 ?_
      refine x_rz c_Md_chosen_42 (by first | decide | exact kz_n _) ?_
      first | exact ⟨s1, hc, Or.inl ⟨x, y, by unfold cl_; rw [hr]; dsimp only; rw [if_pos (by omega)], rfl, h13, h14, h15⟩⟩ | exact ⟨s1, hc, Or.inr ⟨by unfold cl_; rw [hr]; dsimp only; rw [if_neg (by omega)], rfl⟩⟩
    · refine x_al c_Md_chosen_24 rfl ?_
      refine x_get c_Md_chosen_25 (by first | rfl | exact hc.1 | exact k1) rfl ?_
      refine x_al c_Md_chosen_28 rfl ?_
      refine x_getE c_Md_chosen_29 (by first | rfl | exact hc.1 | exact k1) rfl (by first | exact h14 | exact h15 | rfl) ?_
      refine x_ialdN c_Md_chosen_32 (by first | rfl | exact hc.1 | exact k1) (by omega) (by omega) ?_
      refine x_il c_Md_chosen_33 rfl ?_
      first | refine x_cmN_gt c_Md_chosen_34 (by first | omega | exact tbl htb _) (by first | omega | exact tbl htb _) (fun h34 => ?_) (fun h34 => ?_) | refine x_cm_gt c_Md_chosen_34 (fun h34 => ?_) (fun h34 => ?_)
      · refine x_ci c_Md_chosen_41 ?_
        refine x_rz c_Md_chosen_42 (by first | decide | exact kz_n _) ?_
        first | exact ⟨s1, hc, Or.inl ⟨x, y, by unfold cl_; rw [hr]; dsimp only; rw [if_pos (by omega)], rfl, h13, h14, h15⟩⟩ | exact ⟨s1, hc, Or.inr ⟨by unfold cl_; rw [hr]; dsimp only; rw [if_neg (by omega)], rfl⟩⟩
      · refine x_ci c_Md_chosen_37 ?_
        refine x_goto c_Md_chosen_38 ?_
        refine x_rz c_Md_chosen_42 (by first | decide | exact kz_n _) ?_
        first | exact ⟨s1, hc, Or.inl ⟨x, y, by unfold cl_; rw [hr]; dsimp only; rw [if_pos (by omega)], rfl, h13, h14, h15⟩⟩ | exact ⟨s1, hc, Or.inr ⟨by unfold cl_; rw [hr]; dsimp only; rw [if_neg (by omega)], rfl⟩⟩
  · show kc_X _ _ _ _ _ [.int (bI false)] _ _
    refine x_if_eq c_Md_chosen_8 (fun _ => ?_) (fun h => absurd (rfl) h)
    refine x_ci c_Md_chosen_41 ?_
    refine x_rz c_Md_chosen_42 (by first | decide | exact kz_n _) ?_
    exact ⟨s1, hc, Or.inr ⟨by unfold cl_; rw [hr], rfl⟩⟩
set_option maxRecDepth 100000 in
set_option maxHeartbeats 4000000 in
theorem y_Md_number (d : Nat) {μ : kc_M} {s : Nat → Int32} {tb : Nat → Nat} (h0 : μ.1 136 = some (ce_Md s)) (h1 : μ.1 137 = some (ce_I 200 (fun j => nI (tb j)))) (htb : ∀ j, tb j < 256) {x y : Nat} (hx : s 14 = nI x) (hy : s 15 = nI y) (hxy : y - x = 1 ∨ y - x = 2) (hy2 : y ≤ 200) : kc_Y kt kC (d + 1) j_Md_number [.ref 136] μ (fun v μ' => v = some (.int (nuS tb x y)) ∧ μ' = μ) := by
  refine ⟨Nat.le_of_ble_eq_true rfl, ?_⟩
  have t1 := htb x
  have t2 := htb (x + 1)
  refine x_al c_Md_number_0 rfl ?_
  refine x_get c_Md_number_1 (by first | rfl | exact h0 | exact h1) rfl ?_
  refine x_al c_Md_number_4 rfl ?_
  refine x_getE c_Md_number_5 (by first | rfl | exact h0 | exact h1) rfl (by first | exact hx | exact hy | rfl) ?_
  refine x_ialdN c_Md_number_8 (by first | rfl | exact h0 | exact h1) (by omega) (by omega) ?_
  refine x_ci c_Md_number_9 ?_
  first | refine x_cmN_le c_Md_number_11 (by first | omega | exact tbl htb _) (by first | omega | exact tbl htb _) (fun h11 => ?_) (fun h11 => ?_) | refine x_cm_le c_Md_number_11 (fun h11 => ?_) (fun h11 => ?_)
  · refine x_al c_Md_number_30 rfl ?_
    refine x_get c_Md_number_31 (by first | rfl | exact h0 | exact h1) rfl ?_
    refine x_al c_Md_number_34 rfl ?_
    refine x_getE c_Md_number_35 (by first | rfl | exact h0 | exact h1) rfl (by first | exact hx | exact hy | rfl) ?_
    refine x_ialdN c_Md_number_38 (by first | rfl | exact h0 | exact h1) (by omega) (by omega) ?_
    refine x_is [_, _] c_Md_number_39 rfl ?_
    refine x_al c_Md_number_40 rfl ?_
    refine x_getE c_Md_number_41 (by first | rfl | exact h0 | exact h1) rfl (by first | exact hx | exact hy | rfl) ?_
    refine x_al c_Md_number_44 rfl ?_
    refine x_getE c_Md_number_45 (by first | rfl | exact h0 | exact h1) rfl (by first | exact hx | exact hy | rfl) ?_
    first | refine x_isubN c_Md_number_48 (by omega) ?_ | refine x_isub c_Md_number_48 ?_
    refine x_ci c_Md_number_49 ?_
    first | refine x_cmN_ne c_Md_number_50 (by first | omega | exact tbl htb _) (by first | omega | exact tbl htb _) (fun h50 => ?_) (fun h50 => ?_) | refine x_cm_ne c_Md_number_50 (fun h50 => ?_) (fun h50 => ?_)
    · refine x_ci c_Md_number_57 ?_
      refine x_il c_Md_number_60 rfl ?_
      refine x_imul c_Md_number_61 ?_
      refine x_al c_Md_number_62 rfl ?_
      refine x_get c_Md_number_63 (by first | rfl | exact h0 | exact h1) rfl ?_
      refine x_al c_Md_number_66 rfl ?_
      refine x_getE c_Md_number_67 (by first | rfl | exact h0 | exact h1) rfl (by first | exact hx | exact hy | rfl) ?_
      refine x_ci c_Md_number_70 ?_
      first | refine x_iaddN c_Md_number_71 ?_ | refine x_iadd c_Md_number_71 ?_
      refine x_ialdN c_Md_number_72 (by first | rfl | exact h0 | exact h1) (by omega) (by omega) ?_
      refine x_iadd c_Md_number_73 ?_
      refine x_ri c_Md_number_74 ?_
      first | exact ⟨by unfold nuS; rw [if_pos h50, s8_eq (htb x), if_pos (by omega)], rfl⟩ | exact ⟨by unfold nuS; rw [if_pos h50, s8_eq (htb x), if_neg (by omega)], rfl⟩ | exact ⟨by unfold nuS; rw [if_neg h50, s16_eq (htb x) (htb _), if_pos (by omega)], rfl⟩ | exact ⟨by unfold nuS; rw [if_neg h50, s16_eq (htb x) (htb _), if_neg (by omega)], rfl⟩
    · refine x_il c_Md_number_53 rfl ?_
      refine x_goto c_Md_number_54 ?_
      refine x_ri c_Md_number_74 ?_
      first | exact ⟨by unfold nuS; rw [if_pos h50, s8_eq (htb x), if_pos (by omega)], rfl⟩ | exact ⟨by unfold nuS; rw [if_pos h50, s8_eq (htb x), if_neg (by omega)], rfl⟩ | exact ⟨by unfold nuS; rw [if_neg h50, s16_eq (htb x) (htb _), if_pos (by omega)], rfl⟩ | exact ⟨by unfold nuS; rw [if_neg h50, s16_eq (htb x) (htb _), if_neg (by omega)], rfl⟩
  · refine x_al c_Md_number_14 rfl ?_
    refine x_get c_Md_number_15 (by first | rfl | exact h0 | exact h1) rfl ?_
    refine x_al c_Md_number_18 rfl ?_
    refine x_getE c_Md_number_19 (by first | rfl | exact h0 | exact h1) rfl (by first | exact hx | exact hy | rfl) ?_
    refine x_ialdN c_Md_number_22 (by first | rfl | exact h0 | exact h1) (by omega) (by omega) ?_
    refine x_ci c_Md_number_23 ?_
    refine x_isub c_Md_number_26 ?_
    refine x_goto c_Md_number_27 ?_
    refine x_is [_, _] c_Md_number_39 rfl ?_
    refine x_al c_Md_number_40 rfl ?_
    refine x_getE c_Md_number_41 (by first | rfl | exact h0 | exact h1) rfl (by first | exact hx | exact hy | rfl) ?_
    refine x_al c_Md_number_44 rfl ?_
    refine x_getE c_Md_number_45 (by first | rfl | exact h0 | exact h1) rfl (by first | exact hx | exact hy | rfl) ?_
    first | refine x_isubN c_Md_number_48 (by omega) ?_ | refine x_isub c_Md_number_48 ?_
    refine x_ci c_Md_number_49 ?_
    first | refine x_cmN_ne c_Md_number_50 (by first | omega | exact tbl htb _) (by first | omega | exact tbl htb _) (fun h50 => ?_) (fun h50 => ?_) | refine x_cm_ne c_Md_number_50 (fun h50 => ?_) (fun h50 => ?_)
    · refine x_ci c_Md_number_57 ?_
      refine x_il c_Md_number_60 rfl ?_
      refine x_imul c_Md_number_61 ?_
      refine x_al c_Md_number_62 rfl ?_
      refine x_get c_Md_number_63 (by first | rfl | exact h0 | exact h1) rfl ?_
      refine x_al c_Md_number_66 rfl ?_
      refine x_getE c_Md_number_67 (by first | rfl | exact h0 | exact h1) rfl (by first | exact hx | exact hy | rfl) ?_
      refine x_ci c_Md_number_70 ?_
      first | refine x_iaddN c_Md_number_71 ?_ | refine x_iadd c_Md_number_71 ?_
      refine x_ialdN c_Md_number_72 (by first | rfl | exact h0 | exact h1) (by omega) (by omega) ?_
      refine x_iadd c_Md_number_73 ?_
      refine x_ri c_Md_number_74 ?_
      first | exact ⟨by unfold nuS; rw [if_pos h50, s8_eq (htb x), if_pos (by omega)], rfl⟩ | exact ⟨by unfold nuS; rw [if_pos h50, s8_eq (htb x), if_neg (by omega)], rfl⟩ | exact ⟨by unfold nuS; rw [if_neg h50, s16_eq (htb x) (htb _), if_pos (by omega)], rfl⟩ | exact ⟨by unfold nuS; rw [if_neg h50, s16_eq (htb x) (htb _), if_neg (by omega)], rfl⟩
    · refine x_il c_Md_number_53 rfl ?_
      refine x_goto c_Md_number_54 ?_
      refine x_ri c_Md_number_74 ?_
      first | exact ⟨by unfold nuS; rw [if_pos h50, s8_eq (htb x), if_pos (by omega)], rfl⟩ | exact ⟨by unfold nuS; rw [if_pos h50, s8_eq (htb x), if_neg (by omega)], rfl⟩ | exact ⟨by unfold nuS; rw [if_neg h50, s16_eq (htb x) (htb _), if_pos (by omega)], rfl⟩ | exact ⟨by unfold nuS; rw [if_neg h50, s16_eq (htb x) (htb _), if_neg (by omega)], rfl⟩
