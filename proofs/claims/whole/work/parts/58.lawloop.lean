/-! the law, over what each pair of calls does: I k is what holds behind k calls -/
def kc_Z (R : kc_R) (j : Nat) (av : List Value) (μ : kc_M) (Q : Option Value → kc_M → Prop) : Prop := ∃ Q0 : Option Value → kc_M → Prop, R j av μ Q0 ∧ ∀ (v : Option Value) (μ' : kc_M), Q0 v μ' → Q v μ'
theorem z_cv0 {C : Nat → kc_A} {R : kc_R} {Q : Option Value → kc_M → Prop} {pc : Nat} {L : kc_L} {μ : kc_M} {B : Nat × Nat} {j ci a : Nat} {r fs : List Value} (Q1 : Option Value → kc_M → Prop) (hC : C pc = ka_cv j 0 ci 0 0) (hm : μ.1 a = some (.inl (ci, fs))) (hs : (r.map fun v => v.category).sum ≤ 8) (hc : kc_Z R j (.ref a :: []) μ Q1) (h : ∀ (v : Option Value) (μ1 : kc_M), Q1 v μ1 → kc_X C R Q (pc + 3) L (v.toList ++ r) μ1 B) : kc_X C R Q pc L (.ref a :: r) μ B := by
  obtain ⟨Q0, h1, h2⟩ := hc
  exact x_cv0z Q0 hC hm hs h1 (fun v μ1 hq => h v μ1 (h2 v μ1 hq))
theorem z_cv1 {C : Nat → kc_A} {R : kc_R} {Q : Option Value → kc_M → Prop} {pc : Nat} {L : kc_L} {μ : kc_M} {B : Nat × Nat} {j ci a : Nat} {v0 : Value} {r fs : List Value} (Q1 : Option Value → kc_M → Prop) (hC : C pc = ka_cv j 1 ci 0 0) (hm : μ.1 a = some (.inl (ci, fs))) (hs : (r.map fun v => v.category).sum ≤ 8) (hc : kc_Z R j (.ref a :: [v0]) μ Q1) (h : ∀ (v : Option Value) (μ1 : kc_M), Q1 v μ1 → kc_X C R Q (pc + 3) L (v.toList ++ r) μ1 B) : kc_X C R Q pc L (v0 :: .ref a :: r) μ B := by
  obtain ⟨Q0, h1, h2⟩ := hc
  exact x_cv1z Q0 hC hm hs h1 (fun v μ1 hq => h v μ1 (h2 v μ1 hq))
theorem z_cv2 {C : Nat → kc_A} {R : kc_R} {Q : Option Value → kc_M → Prop} {pc : Nat} {L : kc_L} {μ : kc_M} {B : Nat × Nat} {j ci a : Nat} {v0 v1 : Value} {r fs : List Value} (Q1 : Option Value → kc_M → Prop) (hC : C pc = ka_cv j 2 ci 0 0) (hm : μ.1 a = some (.inl (ci, fs))) (hs : (r.map fun v => v.category).sum ≤ 8) (hc : kc_Z R j (.ref a :: [v0, v1]) μ Q1) (h : ∀ (v : Option Value) (μ1 : kc_M), Q1 v μ1 → kc_X C R Q (pc + 3) L (v.toList ++ r) μ1 B) : kc_X C R Q pc L (v1 :: v0 :: .ref a :: r) μ B := by
  obtain ⟨Q0, h1, h2⟩ := hc
  exact x_cv2z Q0 hC hm hs h1 (fun v μ1 hq => h v μ1 (h2 v μ1 hq))
theorem z_cv3 {C : Nat → kc_A} {R : kc_R} {Q : Option Value → kc_M → Prop} {pc : Nat} {L : kc_L} {μ : kc_M} {B : Nat × Nat} {j ci a : Nat} {v0 v1 v2 : Value} {r fs : List Value} (Q1 : Option Value → kc_M → Prop) (hC : C pc = ka_cv j 3 ci 0 0) (hm : μ.1 a = some (.inl (ci, fs))) (hs : (r.map fun v => v.category).sum ≤ 8) (hc : kc_Z R j (.ref a :: [v0, v1, v2]) μ Q1) (h : ∀ (v : Option Value) (μ1 : kc_M), Q1 v μ1 → kc_X C R Q (pc + 3) L (v.toList ++ r) μ1 B) : kc_X C R Q pc L (v2 :: v1 :: v0 :: .ref a :: r) μ B := by
  obtain ⟨Q0, h1, h2⟩ := hc
  exact x_cv3z Q0 hC hm hs h1 (fun v μ1 hq => h v μ1 (h2 v μ1 hq))
def op_v (I J : kc_M → Prop) (jc jm : Nat) (as : List Value) : Prop := ∀ μ, I μ → kc_Z (kc_Y kt kC 40) jc (.ref 0 :: as) μ (fun v μ1 => v = none ∧ (∃ s, μ1.1 136 = some (ce_Md s)) ∧ kc_Z (kc_Y kt kC 40) jm (.ref 136 :: as) μ1 (fun v2 μ2 => v2 = none ∧ J μ2))
def op_i (I J : kc_M → Prop) (jc jm : Nat) (as : List Value) : Prop := ∀ μ, I μ → kc_Z (kc_Y kt kC 40) jc (.ref 0 :: as) μ (fun v μ1 => ∃ r : Int32, v = some (.int r) ∧ (∃ s, μ1.1 136 = some (ce_Md s)) ∧ kc_Z (kc_Y kt kC 40) jm (.ref 136 :: as) μ1 (fun v2 μ2 => v2 = some (.int r) ∧ J μ2))
def op_l (I J : kc_M → Prop) (jc jm : Nat) (as : List Value) : Prop := ∀ μ, I μ → kc_Z (kc_Y kt kC 40) jc (.ref 0 :: as) μ (fun v μ1 => ∃ r : Int64, v = some (.long r) ∧ (∃ s, μ1.1 136 = some (ce_Md s)) ∧ kc_Z (kc_Y kt kC 40) jm (.ref 136 :: as) μ1 (fun v2 μ2 => v2 = some (.long r) ∧ J μ2))
/-- all pairs of calls, with any arguments -/
def ops (I J : kc_M → Prop) : Prop :=
  op_v I J j_Dk_connect j_Md_connect [] ∧ (∀ (x : Int64) (n : Int32), op_i I J j_Dk_type j_Md_type [.long x, .int n]) ∧ op_i I J j_Dk_handle j_Md_handle [] ∧ op_i I J j_Dk_answered j_Md_answered [] ∧ (∀ i : Int32, op_l I J j_Dk_answer j_Md_answer [.int i]) ∧ op_i I J j_Dk_entries j_Md_entries [] ∧ (∀ e : Int32, op_i I J j_Dk_entry j_Md_entry [.int e]) ∧ (∀ e k : Int32, op_i I J j_Dk_pairType j_Md_pairType [.int e, .int k]) ∧ (∀ e k : Int32, op_l I J j_Dk_pairValue j_Md_pairValue [.int e, .int k]) ∧ op_i I J j_Dk_signed j_Md_signed [] ∧ op_i I J j_Dk_open j_Md_open []
/-- what holds behind the two constructors -/
def Ini (μ : kc_M) : Prop := μ.1 0 = some (ce_Dk true false) ∧ rd_at μ (fun _ => 0) 0 0 0 false 0 0 0 ∧ wr_at μ (fun _ => 0) 0 ∧ tr_at μ 1 (fun e => 7 + 7 * e) (fun e => if e = 0 then [(nI 97, v_r)] else []) (fun e => if e = 0 then [(nI 97, v_r), (nI 102, v_x)] else []) ∧ sc_at μ ∧ μ.1 136 = some (ce_Md (upd (fun _ => 0) 6 (nI 1))) ∧ (∃ pa pt pv pr qt qv, mr_at μ (fun _ => 0) (fun _ => 0) pa pt pv pr qt qv ∧ me_at 1 pa pt pv pr qt qv (fun e => if e = 0 then [(nI 97, v_r)] else []) (fun e => if e = 0 then [(nI 97, v_r), (nI 102, v_x)] else [])) ∧ ms_at μ
theorem sc_k {μ μ' : kc_M} (h : sc_at μ) (hk : ∀ q, 119 ≤ q → q < 136 → μ'.1 q = μ.1 q) : sc_at μ' := by
  obtain ⟨⟨p, f, g, a1, a2, a3⟩, ⟨c, vc, f2, g2, h2, k2, b1, b2, b3, b4, b5⟩, ⟨s1, s2, s3, s4, c1⟩, ⟨c3, f3, g3, h3, k3, d1, d2, d3, d4, d5⟩, ⟨n4, f4, g4, e1, e2, e3⟩⟩ := h
  exact ⟨⟨p, f, g, (hk _ (by omega) (by omega)).trans a1, (hk _ (by omega) (by omega)).trans a2, (hk _ (by omega) (by omega)).trans a3⟩, ⟨c, vc, f2, g2, h2, k2, (hk _ (by omega) (by omega)).trans b1, (hk _ (by omega) (by omega)).trans b2, (hk _ (by omega) (by omega)).trans b3, (hk _ (by omega) (by omega)).trans b4, (hk _ (by omega) (by omega)).trans b5⟩, ⟨s1, s2, s3, s4, (hk _ (by omega) (by omega)).trans c1⟩, ⟨c3, f3, g3, h3, k3, (hk _ (by omega) (by omega)).trans d1, (hk _ (by omega) (by omega)).trans d2, (hk _ (by omega) (by omega)).trans d3, (hk _ (by omega) (by omega)).trans d4, (hk _ (by omega) (by omega)).trans d5⟩, ⟨n4, f4, g4, (hk _ (by omega) (by omega)).trans e1, (hk _ (by omega) (by omega)).trans e2, (hk _ (by omega) (by omega)).trans e3⟩⟩
set_option maxRecDepth 100000 in
set_option maxHeartbeats 4000000 in
theorem law_gen {b L N : Nat} {xs : Nat → Int32} (hLN : L ≤ N) (hN1 : N < 2 ^ 30) (I : Nat → kc_M → Prop) (h0 : ∀ μ, Ini μ → I 0 μ) (hdk : ∀ k μ, I k μ → ∃ lo so, μ.1 0 = some (ce_Dk lo so)) (hid : ∀ k μ, I k μ → I (k + 1) μ) (hop : ∀ k, 4 * k + 4 ≤ N → ops (I k) (I (k + 1))) : law_pure b L xs := by
  have loop : ∀ m k : Nat, L - 4 * k ≤ m → 4 * k ≤ L → ∀ (B : Nat × Nat) (μ : kc_M), 4 * k ≤ N → I k μ → kc_X (ct_Lw_law b L xs) (kc_Y kt kC 40) (fun v _ => v = some (.int 1)) 18 [some (.retAddr b), some (.ref 0), some (.ref 136), some (.int (nI (4 * k)))] [] μ B := by
    intro m
    induction m with
    | zero =>
      intro k hk hk2 B μ hN hI
      by_cases hL4 : 4 ≤ L
      · have hz : L = 4 * k := by omega
        refine x_il c_Lw_law_18 rfl ?_
        refine x_sl c_Lw_law_19 rfl ?_
        refine x_sln c_Lw_law_20 ?_
        refine x_ci c_Lw_law_21 ?_
        refine x_isubN (a := L) c_Lw_law_22 (by omega) ?_
        refine x_cm_gt c_Lw_law_23 (fun _ => ?_) (fun h => absurd (nI_lt (by omega) (by omega)) h)
        refine x_ci c_Lw_law_351 ?_
        refine x_rz c_Lw_law_352 (by first | decide | exact kz_n _) ?_
        rfl
      · have hz : L = 4 * k := by omega
        refine x_il c_Lw_law_18 rfl ?_
        refine x_sl c_Lw_law_19 rfl ?_
        refine x_sln c_Lw_law_20 ?_
        refine x_ci c_Lw_law_21 ?_
        refine x_isub (x := nI L) c_Lw_law_22 ?_
        refine x_cm_gt c_Lw_law_23 (fun _ => ?_) (fun h => absurd (by rw [show k = 0 by omega]; exact pk_sneg (by omega) (by omega)) h)
        refine x_ci c_Lw_law_351 ?_
        refine x_rz c_Lw_law_352 (by first | decide | exact kz_n _) ?_
        rfl
    | succ m ih =>
      intro k hk hk2 B μ hN hI
      by_cases hL : ¬ 4 * k + 4 ≤ L
      · by_cases hL4 : 4 ≤ L
        · skip
          refine x_il c_Lw_law_18 rfl ?_
          refine x_sl c_Lw_law_19 rfl ?_
          refine x_sln c_Lw_law_20 ?_
          refine x_ci c_Lw_law_21 ?_
          refine x_isubN (a := L) c_Lw_law_22 (by omega) ?_
          refine x_cm_gt c_Lw_law_23 (fun _ => ?_) (fun h => absurd (nI_lt (by omega) (by omega)) h)
          refine x_ci c_Lw_law_351 ?_
          refine x_rz c_Lw_law_352 (by first | decide | exact kz_n _) ?_
          rfl
        · skip
          refine x_il c_Lw_law_18 rfl ?_
          refine x_sl c_Lw_law_19 rfl ?_
          refine x_sln c_Lw_law_20 ?_
          refine x_ci c_Lw_law_21 ?_
          refine x_isub (x := nI L) c_Lw_law_22 ?_
          refine x_cm_gt c_Lw_law_23 (fun _ => ?_) (fun h => absurd (by rw [show k = 0 by omega]; exact pk_sneg (by omega) (by omega)) h)
          refine x_ci c_Lw_law_351 ?_
          refine x_rz c_Lw_law_352 (by first | decide | exact kz_n _) ?_
          rfl
      have hL := Classical.not_not.mp hL
      have ih := fun k' a1 a2 (μ' : kc_M) => ih k' a1 a2 B μ'
      obtain ⟨o1, o2, o3, o4, o5, o6, o7, o8, o9, o10, o11⟩ := hop k (by omega)
      obtain ⟨lo, so, hd⟩ := hdk k μ hI
      refine x_il c_Lw_law_18 rfl ?_
      refine x_sl c_Lw_law_19 rfl ?_
      refine x_sln c_Lw_law_20 ?_
      refine x_ci c_Lw_law_21 ?_
      refine x_isubN (a := L) c_Lw_law_22 (by omega) ?_
      refine x_cm_gt c_Lw_law_23 (fun h => absurd h (nI_nlt (by omega) (by omega))) (fun _ => ?_)
      refine x_sl c_Lw_law_26 rfl ?_
      refine x_il c_Lw_law_27 rfl ?_
      refine x_sldN c_Lw_law_28 (by omega) (by omega) ?_
      refine x_ci c_Lw_law_29 ?_
      refine x_iand c_Lw_law_31 ?_
      by_cases k0 : xs (4 * k) &&& nI 15 = nI 0
      · refine x_sw 92 c_Lw_law_32 (by rw [if_pos k0]) ?_
        refine x_al c_Lw_law_92 rfl ?_
        refine z_cv0 _ c_Lw_law_93 (by first | rfl | exact hd | exact hs1) (Nat.le_of_ble_eq_true rfl) (o1 μ hI) ?_
        rintro _ μ1 ⟨rfl, ⟨s1, hs1⟩, hm1⟩
        show kc_X _ _ _ _ _ [] _ _
        refine x_al c_Lw_law_96 rfl ?_
        refine z_cv0 _ c_Lw_law_97 (by first | rfl | exact hd | exact hs1) (Nat.le_of_ble_eq_true rfl) (hm1) ?_
        rintro _ μ2 ⟨rfl, hJ⟩
        show kc_X _ _ _ _ _ [] _ _
        refine x_goto c_Lw_law_100 ?_
        refine x_incK [_, _, _, _] c_Lw_law_345 rfl rfl ?_
        refine x_goto c_Lw_law_348 ?_
        rw [show 4 * k + 4 = 4 * (k + 1) by omega]
        exact ih (k + 1) (by omega) (by omega) _ (by omega) hJ
      by_cases k1 : xs (4 * k) &&& nI 15 = nI 1
      · refine x_sw 103 c_Lw_law_32 (by rw [if_neg k0, if_pos k1]) ?_
        refine x_al c_Lw_law_103 rfl ?_
        refine x_sl c_Lw_law_104 rfl ?_
        refine x_il c_Lw_law_105 rfl ?_
        refine x_ci c_Lw_law_106 ?_
        first | refine x_iaddN c_Lw_law_107 ?_ | refine x_iadd c_Lw_law_107 ?_
        refine x_sldN c_Lw_law_108 (by omega) (by omega) ?_
        refine x_i2l c_Lw_law_109 ?_
        refine x_ci c_Lw_law_110 ?_
        refine x_lshl c_Lw_law_112 ?_
        refine x_sl c_Lw_law_113 rfl ?_
        refine x_il c_Lw_law_114 rfl ?_
        refine x_ci c_Lw_law_115 ?_
        first | refine x_iaddN c_Lw_law_116 ?_ | refine x_iadd c_Lw_law_116 ?_
        refine x_sldN c_Lw_law_117 (by omega) (by omega) ?_
        refine x_i2l c_Lw_law_118 ?_
        refine x_cl c_Lw_law_119 ?_
        refine x_land c_Lw_law_122 ?_
        refine x_lor c_Lw_law_123 ?_
        refine x_sl c_Lw_law_124 rfl ?_
        refine x_il c_Lw_law_125 rfl ?_
        refine x_ci c_Lw_law_126 ?_
        first | refine x_iaddN c_Lw_law_127 ?_ | refine x_iadd c_Lw_law_127 ?_
        refine x_sldN c_Lw_law_128 (by omega) (by omega) ?_
        refine z_cv2 _ c_Lw_law_129 (by first | rfl | exact hd | exact hs1) (Nat.le_of_ble_eq_true rfl) (o2 _ _ μ hI) ?_
        rintro _ μ1 ⟨r, rfl, ⟨s1, hs1⟩, hm1⟩
        show kc_X _ _ _ _ _ [.int r] _ _
        refine x_al c_Lw_law_132 rfl ?_
        refine x_sl c_Lw_law_133 rfl ?_
        refine x_il c_Lw_law_134 rfl ?_
        refine x_ci c_Lw_law_135 ?_
        first | refine x_iaddN c_Lw_law_136 ?_ | refine x_iadd c_Lw_law_136 ?_
        refine x_sldN c_Lw_law_137 (by omega) (by omega) ?_
        refine x_i2l c_Lw_law_138 ?_
        refine x_ci c_Lw_law_139 ?_
        refine x_lshl c_Lw_law_141 ?_
        refine x_sl c_Lw_law_142 rfl ?_
        refine x_il c_Lw_law_143 rfl ?_
        refine x_ci c_Lw_law_144 ?_
        first | refine x_iaddN c_Lw_law_145 ?_ | refine x_iadd c_Lw_law_145 ?_
        refine x_sldN c_Lw_law_146 (by omega) (by omega) ?_
        refine x_i2l c_Lw_law_147 ?_
        refine x_cl c_Lw_law_148 ?_
        refine x_land c_Lw_law_151 ?_
        refine x_lor c_Lw_law_152 ?_
        refine x_sl c_Lw_law_153 rfl ?_
        refine x_il c_Lw_law_154 rfl ?_
        refine x_ci c_Lw_law_155 ?_
        first | refine x_iaddN c_Lw_law_156 ?_ | refine x_iadd c_Lw_law_156 ?_
        refine x_sldN c_Lw_law_157 (by omega) (by omega) ?_
        refine z_cv2 _ c_Lw_law_158 (by first | rfl | exact hd | exact hs1) (Nat.le_of_ble_eq_true rfl) (hm1) ?_
        rintro _ μ2 ⟨rfl, hJ⟩
        show kc_X _ _ _ _ _ [.int r, .int r] _ _
        refine x_cm_eq c_Lw_law_161 (fun _ => ?_) (fun h => absurd (rfl) h)
        refine x_incK [_, _, _, _] c_Lw_law_345 rfl rfl ?_
        refine x_goto c_Lw_law_348 ?_
        rw [show 4 * k + 4 = 4 * (k + 1) by omega]
        exact ih (k + 1) (by omega) (by omega) _ (by omega) hJ
      by_cases k2 : xs (4 * k) &&& nI 15 = nI 2
      · refine x_sw 166 c_Lw_law_32 (by rw [if_neg k0, if_neg k1, if_pos k2]) ?_
        refine x_al c_Lw_law_166 rfl ?_
        refine z_cv0 _ c_Lw_law_167 (by first | rfl | exact hd | exact hs1) (Nat.le_of_ble_eq_true rfl) (o3 μ hI) ?_
        rintro _ μ1 ⟨r, rfl, ⟨s1, hs1⟩, hm1⟩
        show kc_X _ _ _ _ _ [.int r] _ _
        refine x_al c_Lw_law_170 rfl ?_
        refine z_cv0 _ c_Lw_law_171 (by first | rfl | exact hd | exact hs1) (Nat.le_of_ble_eq_true rfl) (hm1) ?_
        rintro _ μ2 ⟨rfl, hJ⟩
        show kc_X _ _ _ _ _ [.int r, .int r] _ _
        refine x_cm_eq c_Lw_law_174 (fun _ => ?_) (fun h => absurd (rfl) h)
        refine x_incK [_, _, _, _] c_Lw_law_345 rfl rfl ?_
        refine x_goto c_Lw_law_348 ?_
        rw [show 4 * k + 4 = 4 * (k + 1) by omega]
        exact ih (k + 1) (by omega) (by omega) _ (by omega) hJ
      by_cases k3 : xs (4 * k) &&& nI 15 = nI 3
      · refine x_sw 179 c_Lw_law_32 (by rw [if_neg k0, if_neg k1, if_neg k2, if_pos k3]) ?_
        refine x_al c_Lw_law_179 rfl ?_
        refine z_cv0 _ c_Lw_law_180 (by first | rfl | exact hd | exact hs1) (Nat.le_of_ble_eq_true rfl) (o4 μ hI) ?_
        rintro _ μ1 ⟨r, rfl, ⟨s1, hs1⟩, hm1⟩
        show kc_X _ _ _ _ _ [.int r] _ _
        refine x_al c_Lw_law_183 rfl ?_
        refine z_cv0 _ c_Lw_law_184 (by first | rfl | exact hd | exact hs1) (Nat.le_of_ble_eq_true rfl) (hm1) ?_
        rintro _ μ2 ⟨rfl, hJ⟩
        show kc_X _ _ _ _ _ [.int r, .int r] _ _
        refine x_cm_eq c_Lw_law_187 (fun _ => ?_) (fun h => absurd (rfl) h)
        refine x_incK [_, _, _, _] c_Lw_law_345 rfl rfl ?_
        refine x_goto c_Lw_law_348 ?_
        rw [show 4 * k + 4 = 4 * (k + 1) by omega]
        exact ih (k + 1) (by omega) (by omega) _ (by omega) hJ
      by_cases k4 : xs (4 * k) &&& nI 15 = nI 4
      · refine x_sw 192 c_Lw_law_32 (by rw [if_neg k0, if_neg k1, if_neg k2, if_neg k3, if_pos k4]) ?_
        refine x_al c_Lw_law_192 rfl ?_
        refine x_sl c_Lw_law_193 rfl ?_
        refine x_il c_Lw_law_194 rfl ?_
        refine x_ci c_Lw_law_195 ?_
        first | refine x_iaddN c_Lw_law_196 ?_ | refine x_iadd c_Lw_law_196 ?_
        refine x_sldN c_Lw_law_197 (by omega) (by omega) ?_
        refine z_cv1 _ c_Lw_law_198 (by first | rfl | exact hd | exact hs1) (Nat.le_of_ble_eq_true rfl) (o5 _ μ hI) ?_
        rintro _ μ1 ⟨r, rfl, ⟨s1, hs1⟩, hm1⟩
        show kc_X _ _ _ _ _ [.long r] _ _
        refine x_al c_Lw_law_201 rfl ?_
        refine x_sl c_Lw_law_202 rfl ?_
        refine x_il c_Lw_law_203 rfl ?_
        refine x_ci c_Lw_law_204 ?_
        first | refine x_iaddN c_Lw_law_205 ?_ | refine x_iadd c_Lw_law_205 ?_
        refine x_sldN c_Lw_law_206 (by omega) (by omega) ?_
        refine z_cv1 _ c_Lw_law_207 (by first | rfl | exact hd | exact hs1) (Nat.le_of_ble_eq_true rfl) (hm1) ?_
        rintro _ μ2 ⟨rfl, hJ⟩
        show kc_X _ _ _ _ _ [.long r, .long r] _ _
        refine x_lcmp c_Lw_law_210 ?_
        refine x_if_eq c_Lw_law_211 (fun _ => ?_) (fun h => absurd ((lg_cmp_eq _ _).mpr rfl) h)
        refine x_incK [_, _, _, _] c_Lw_law_345 rfl rfl ?_
        refine x_goto c_Lw_law_348 ?_
        rw [show 4 * k + 4 = 4 * (k + 1) by omega]
        exact ih (k + 1) (by omega) (by omega) _ (by omega) hJ
      by_cases k5 : xs (4 * k) &&& nI 15 = nI 5
      · refine x_sw 216 c_Lw_law_32 (by rw [if_neg k0, if_neg k1, if_neg k2, if_neg k3, if_neg k4, if_pos k5]) ?_
        refine x_al c_Lw_law_216 rfl ?_
        refine z_cv0 _ c_Lw_law_217 (by first | rfl | exact hd | exact hs1) (Nat.le_of_ble_eq_true rfl) (o6 μ hI) ?_
        rintro _ μ1 ⟨r, rfl, ⟨s1, hs1⟩, hm1⟩
        show kc_X _ _ _ _ _ [.int r] _ _
        refine x_al c_Lw_law_220 rfl ?_
        refine z_cv0 _ c_Lw_law_221 (by first | rfl | exact hd | exact hs1) (Nat.le_of_ble_eq_true rfl) (hm1) ?_
        rintro _ μ2 ⟨rfl, hJ⟩
        show kc_X _ _ _ _ _ [.int r, .int r] _ _
        refine x_cm_eq c_Lw_law_224 (fun _ => ?_) (fun h => absurd (rfl) h)
        refine x_incK [_, _, _, _] c_Lw_law_345 rfl rfl ?_
        refine x_goto c_Lw_law_348 ?_
        rw [show 4 * k + 4 = 4 * (k + 1) by omega]
        exact ih (k + 1) (by omega) (by omega) _ (by omega) hJ
      by_cases k6 : xs (4 * k) &&& nI 15 = nI 6
      · refine x_sw 229 c_Lw_law_32 (by rw [if_neg k0, if_neg k1, if_neg k2, if_neg k3, if_neg k4, if_neg k5, if_pos k6]) ?_
        refine x_al c_Lw_law_229 rfl ?_
        refine x_sl c_Lw_law_230 rfl ?_
        refine x_il c_Lw_law_231 rfl ?_
        refine x_ci c_Lw_law_232 ?_
        first | refine x_iaddN c_Lw_law_233 ?_ | refine x_iadd c_Lw_law_233 ?_
        refine x_sldN c_Lw_law_234 (by omega) (by omega) ?_
        refine z_cv1 _ c_Lw_law_235 (by first | rfl | exact hd | exact hs1) (Nat.le_of_ble_eq_true rfl) (o7 _ μ hI) ?_
        rintro _ μ1 ⟨r, rfl, ⟨s1, hs1⟩, hm1⟩
        show kc_X _ _ _ _ _ [.int r] _ _
        refine x_al c_Lw_law_238 rfl ?_
        refine x_sl c_Lw_law_239 rfl ?_
        refine x_il c_Lw_law_240 rfl ?_
        refine x_ci c_Lw_law_241 ?_
        first | refine x_iaddN c_Lw_law_242 ?_ | refine x_iadd c_Lw_law_242 ?_
        refine x_sldN c_Lw_law_243 (by omega) (by omega) ?_
        refine z_cv1 _ c_Lw_law_244 (by first | rfl | exact hd | exact hs1) (Nat.le_of_ble_eq_true rfl) (hm1) ?_
        rintro _ μ2 ⟨rfl, hJ⟩
        show kc_X _ _ _ _ _ [.int r, .int r] _ _
        refine x_cm_eq c_Lw_law_247 (fun _ => ?_) (fun h => absurd (rfl) h)
        refine x_incK [_, _, _, _] c_Lw_law_345 rfl rfl ?_
        refine x_goto c_Lw_law_348 ?_
        rw [show 4 * k + 4 = 4 * (k + 1) by omega]
        exact ih (k + 1) (by omega) (by omega) _ (by omega) hJ
      by_cases k7 : xs (4 * k) &&& nI 15 = nI 7
      · refine x_sw 252 c_Lw_law_32 (by rw [if_neg k0, if_neg k1, if_neg k2, if_neg k3, if_neg k4, if_neg k5, if_neg k6, if_pos k7]) ?_
        refine x_al c_Lw_law_252 rfl ?_
        refine x_sl c_Lw_law_253 rfl ?_
        refine x_il c_Lw_law_254 rfl ?_
        refine x_ci c_Lw_law_255 ?_
        first | refine x_iaddN c_Lw_law_256 ?_ | refine x_iadd c_Lw_law_256 ?_
        refine x_sldN c_Lw_law_257 (by omega) (by omega) ?_
        refine x_sl c_Lw_law_258 rfl ?_
        refine x_il c_Lw_law_259 rfl ?_
        refine x_ci c_Lw_law_260 ?_
        first | refine x_iaddN c_Lw_law_261 ?_ | refine x_iadd c_Lw_law_261 ?_
        refine x_sldN c_Lw_law_262 (by omega) (by omega) ?_
        refine z_cv2 _ c_Lw_law_263 (by first | rfl | exact hd | exact hs1) (Nat.le_of_ble_eq_true rfl) (o8 _ _ μ hI) ?_
        rintro _ μ1 ⟨r, rfl, ⟨s1, hs1⟩, hm1⟩
        show kc_X _ _ _ _ _ [.int r] _ _
        refine x_al c_Lw_law_266 rfl ?_
        refine x_sl c_Lw_law_267 rfl ?_
        refine x_il c_Lw_law_268 rfl ?_
        refine x_ci c_Lw_law_269 ?_
        first | refine x_iaddN c_Lw_law_270 ?_ | refine x_iadd c_Lw_law_270 ?_
        refine x_sldN c_Lw_law_271 (by omega) (by omega) ?_
        refine x_sl c_Lw_law_272 rfl ?_
        refine x_il c_Lw_law_273 rfl ?_
        refine x_ci c_Lw_law_274 ?_
        first | refine x_iaddN c_Lw_law_275 ?_ | refine x_iadd c_Lw_law_275 ?_
        refine x_sldN c_Lw_law_276 (by omega) (by omega) ?_
        refine z_cv2 _ c_Lw_law_277 (by first | rfl | exact hd | exact hs1) (Nat.le_of_ble_eq_true rfl) (hm1) ?_
        rintro _ μ2 ⟨rfl, hJ⟩
        show kc_X _ _ _ _ _ [.int r, .int r] _ _
        refine x_cm_eq c_Lw_law_280 (fun _ => ?_) (fun h => absurd (rfl) h)
        refine x_incK [_, _, _, _] c_Lw_law_345 rfl rfl ?_
        refine x_goto c_Lw_law_348 ?_
        rw [show 4 * k + 4 = 4 * (k + 1) by omega]
        exact ih (k + 1) (by omega) (by omega) _ (by omega) hJ
      by_cases k8 : xs (4 * k) &&& nI 15 = nI 8
      · refine x_sw 285 c_Lw_law_32 (by rw [if_neg k0, if_neg k1, if_neg k2, if_neg k3, if_neg k4, if_neg k5, if_neg k6, if_neg k7, if_pos k8]) ?_
        refine x_al c_Lw_law_285 rfl ?_
        refine x_sl c_Lw_law_286 rfl ?_
        refine x_il c_Lw_law_287 rfl ?_
        refine x_ci c_Lw_law_288 ?_
        first | refine x_iaddN c_Lw_law_289 ?_ | refine x_iadd c_Lw_law_289 ?_
        refine x_sldN c_Lw_law_290 (by omega) (by omega) ?_
        refine x_sl c_Lw_law_291 rfl ?_
        refine x_il c_Lw_law_292 rfl ?_
        refine x_ci c_Lw_law_293 ?_
        first | refine x_iaddN c_Lw_law_294 ?_ | refine x_iadd c_Lw_law_294 ?_
        refine x_sldN c_Lw_law_295 (by omega) (by omega) ?_
        refine z_cv2 _ c_Lw_law_296 (by first | rfl | exact hd | exact hs1) (Nat.le_of_ble_eq_true rfl) (o9 _ _ μ hI) ?_
        rintro _ μ1 ⟨r, rfl, ⟨s1, hs1⟩, hm1⟩
        show kc_X _ _ _ _ _ [.long r] _ _
        refine x_al c_Lw_law_299 rfl ?_
        refine x_sl c_Lw_law_300 rfl ?_
        refine x_il c_Lw_law_301 rfl ?_
        refine x_ci c_Lw_law_302 ?_
        first | refine x_iaddN c_Lw_law_303 ?_ | refine x_iadd c_Lw_law_303 ?_
        refine x_sldN c_Lw_law_304 (by omega) (by omega) ?_
        refine x_sl c_Lw_law_305 rfl ?_
        refine x_il c_Lw_law_306 rfl ?_
        refine x_ci c_Lw_law_307 ?_
        first | refine x_iaddN c_Lw_law_308 ?_ | refine x_iadd c_Lw_law_308 ?_
        refine x_sldN c_Lw_law_309 (by omega) (by omega) ?_
        refine z_cv2 _ c_Lw_law_310 (by first | rfl | exact hd | exact hs1) (Nat.le_of_ble_eq_true rfl) (hm1) ?_
        rintro _ μ2 ⟨rfl, hJ⟩
        show kc_X _ _ _ _ _ [.long r, .long r] _ _
        refine x_lcmp c_Lw_law_313 ?_
        refine x_if_eq c_Lw_law_314 (fun _ => ?_) (fun h => absurd ((lg_cmp_eq _ _).mpr rfl) h)
        refine x_incK [_, _, _, _] c_Lw_law_345 rfl rfl ?_
        refine x_goto c_Lw_law_348 ?_
        rw [show 4 * k + 4 = 4 * (k + 1) by omega]
        exact ih (k + 1) (by omega) (by omega) _ (by omega) hJ
      by_cases k9 : xs (4 * k) &&& nI 15 = nI 9
      · refine x_sw 319 c_Lw_law_32 (by rw [if_neg k0, if_neg k1, if_neg k2, if_neg k3, if_neg k4, if_neg k5, if_neg k6, if_neg k7, if_neg k8, if_pos k9]) ?_
        refine x_al c_Lw_law_319 rfl ?_
        refine z_cv0 _ c_Lw_law_320 (by first | rfl | exact hd | exact hs1) (Nat.le_of_ble_eq_true rfl) (o10 μ hI) ?_
        rintro _ μ1 ⟨r, rfl, ⟨s1, hs1⟩, hm1⟩
        show kc_X _ _ _ _ _ [.int r] _ _
        refine x_al c_Lw_law_323 rfl ?_
        refine z_cv0 _ c_Lw_law_324 (by first | rfl | exact hd | exact hs1) (Nat.le_of_ble_eq_true rfl) (hm1) ?_
        rintro _ μ2 ⟨rfl, hJ⟩
        show kc_X _ _ _ _ _ [.int r, .int r] _ _
        refine x_cm_eq c_Lw_law_327 (fun _ => ?_) (fun h => absurd (rfl) h)
        refine x_incK [_, _, _, _] c_Lw_law_345 rfl rfl ?_
        refine x_goto c_Lw_law_348 ?_
        rw [show 4 * k + 4 = 4 * (k + 1) by omega]
        exact ih (k + 1) (by omega) (by omega) _ (by omega) hJ
      by_cases k10 : xs (4 * k) &&& nI 15 = nI 10
      · refine x_sw 332 c_Lw_law_32 (by rw [if_neg k0, if_neg k1, if_neg k2, if_neg k3, if_neg k4, if_neg k5, if_neg k6, if_neg k7, if_neg k8, if_neg k9, if_pos k10]) ?_
        refine x_al c_Lw_law_332 rfl ?_
        refine z_cv0 _ c_Lw_law_333 (by first | rfl | exact hd | exact hs1) (Nat.le_of_ble_eq_true rfl) (o11 μ hI) ?_
        rintro _ μ1 ⟨r, rfl, ⟨s1, hs1⟩, hm1⟩
        show kc_X _ _ _ _ _ [.int r] _ _
        refine x_al c_Lw_law_336 rfl ?_
        refine z_cv0 _ c_Lw_law_337 (by first | rfl | exact hd | exact hs1) (Nat.le_of_ble_eq_true rfl) (hm1) ?_
        rintro _ μ2 ⟨rfl, hJ⟩
        show kc_X _ _ _ _ _ [.int r, .int r] _ _
        refine x_cm_eq c_Lw_law_340 (fun _ => ?_) (fun h => absurd (rfl) h)
        refine x_incK [_, _, _, _] c_Lw_law_345 rfl rfl ?_
        refine x_goto c_Lw_law_348 ?_
        rw [show 4 * k + 4 = 4 * (k + 1) by omega]
        exact ih (k + 1) (by omega) (by omega) _ (by omega) hJ
      refine x_sw 345 c_Lw_law_32 (by rw [if_neg k0, if_neg k1, if_neg k2, if_neg k3, if_neg k4, if_neg k5, if_neg k6, if_neg k7, if_neg k8, if_neg k9, if_neg k10]) ?_
      refine x_incK [_, _, _, _] c_Lw_law_345 rfl rfl ?_
      refine x_goto c_Lw_law_348 ?_
      rw [show 4 * k + 4 = 4 * (k + 1) by omega]
      exact ih (k + 1) (by omega) (by omega) _ (by omega) (hid k μ hI)
  refine x_new c_Lw_law_0 (by first | exact n1 | rfl) ⟨Nat.le_of_ble_eq_true rfl, Nat.le_of_ble_eq_true rfl⟩ ?_
  refine x_dup c_Lw_law_3 rfl ?_
  refine x_cx0 _ c_Lw_law_4 (Nat.le_of_ble_eq_true rfl) ⟨Nat.le_of_ble_eq_true rfl, Nat.le_of_ble_eq_true rfl⟩ (y_Dk_init 34 rfl rfl) ?_
  rintro _ μ1 ⟨rfl, n1, a1, a2, a3, a4, a5, a6⟩
  show kc_X _ _ _ _ _ [.ref 0] _ _
  refine x_as [_, _, _, _] c_Lw_law_7 rfl ?_
  refine x_new c_Lw_law_8 (by first | exact n1 | rfl) ⟨Nat.le_of_ble_eq_true rfl, Nat.le_of_ble_eq_true rfl⟩ ?_
  refine x_dup c_Lw_law_11 rfl ?_
  refine x_cx0 _ c_Lw_law_12 (Nat.le_of_ble_eq_true rfl) ⟨Nat.le_of_ble_eq_true rfl, Nat.le_of_ble_eq_true rfl⟩ (y_Md_init 39 (μ := kc_n μ1 136 _) rfl rfl) ?_
  rintro _ μ2 ⟨rfl, b1, b2, b3, b4⟩
  show kc_X _ _ _ _ _ [.ref 136] _ _
  have fr : ∀ q, q < 136 → μ2.1 q = μ1.1 q := fun q hq => (b4 q hq).trans (kc_nn (by omega) rfl)
  have hini : Ini μ2 := ⟨(fr 0 (by omega)).trans a1, ⟨(fr 1 (by omega)).trans a2.1, (fr 2 (by omega)).trans a2.2⟩, ⟨(fr 3 (by omega)).trans a3.1, (fr 4 (by omega)).trans a3.2⟩, tr_k a4 (fun q _ hq => fr q (by omega)), sc_k a5 (fun q _ hq => fr q hq), b1, b2, b3⟩
  refine x_as [_, _, _, _] c_Lw_law_15 rfl ?_
  refine x_ci c_Lw_law_16 ?_
  refine x_is [_, _, _, _] c_Lw_law_17 rfl ?_
  exact loop L 0 (by omega) (by omega) _ μ2 (by omega) (h0 μ2 hini)
