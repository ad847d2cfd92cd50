/-! the reference applies a change -/
/-- the reference's rows of changes -/
def maA (μ : kc_M) (kf tf ff cf : Nat → Int32) (vf : Nat → Int64) : Prop := μ.1 147 = some (ce_I 12 kf) ∧ μ.1 148 = some (ce_I 12 tf) ∧ μ.1 149 = some (ce_I 12 ff) ∧ μ.1 150 = some (ce_I 12 cf) ∧ μ.1 151 = some (ce_L 24 vf)
theorem maA_k {μ μ' : kc_M} {kf tf ff cf : Nat → Int32} {vf : Nat → Int64} (h : maA μ kf tf ff cf vf) (hk : ∀ q, 147 ≤ q → q < 152 → μ'.1 q = μ.1 q) : maA μ' kf tf ff cf vf :=
  ⟨(hk _ (by omega) (by omega)).trans h.1, (hk _ (by omega) (by omega)).trans h.2.1, (hk _ (by omega) (by omega)).trans h.2.2.1, (hk _ (by omega) (by omega)).trans h.2.2.2.1, (hk _ (by omega) (by omega)).trans h.2.2.2.2⟩
/-- the change in the i-th row, whose values begin at a -/
def maR (tf ff cf : Nat → Int32) (vf : Nat → Int64) (i a : Nat) (c : cg) : Prop := tf i = c.2.1 ∧ ff i = nI a ∧ cf i = nI c.2.2.length ∧ c.1 < 256 ∧ (∀ j, j < c.2.2.length → c.2.2[j]? = some (vf (a + j))) ∧ (∀ v ∈ c.2.2, v = -1 ∨ 0 ≤ v) ∧ a + c.2.2.length ≤ 24
theorem fi_lt {p : tv} {l : List tv} (hl : l.length < 2 ^ 31) (h : p ∈ l) : ∃ j, j < l.length ∧ fi p l 0 = nI j ∧ l[j]? = some p := by
  have gen : ∀ (l : List tv) (k : Nat), p ∈ l → ∃ j, j < l.length ∧ fi p l k = nI (k + j) ∧ l[j]? = some p := by
    intro l
    induction l with
    | nil => intro k h; cases h
    | cons q l ih =>
      intro k h
      rw [fi_cons]
      by_cases hq : q = p
      · rw [if_pos hq]; exact ⟨0, by simp, rfl, by rw [hq]; rfl⟩
      · rw [if_neg hq]
        obtain ⟨j, j1, j2, j3⟩ := ih (k + 1) ((List.mem_cons.mp h).resolve_left (fun e => hq e.symm))
        exact ⟨j + 1, by rw [List.length_cons]; omega, by rw [j2]; congr 1; omega, j3⟩
  obtain ⟨j, j1, j2, j3⟩ := gen l 0 h
  exact ⟨j, j1, by rw [j2, Nat.zero_add], j3⟩
theorem wkC.re {μ : kc_M} {s : Nat → Int32} {l : List tv} (h : μ.1 136 = some (ce_Md s)) (hw : wk μ s l) : wkC μ μ s s l := ⟨h, fun _ _ => rfl, fun _ _ _ _ => rfl, hw⟩
set_option maxRecDepth 100000 in
set_option maxHeartbeats 4000000 in
theorem y_Md_workIn (d : Nat) {μ : kc_M} {s : Nat → Int32} {l : List tv} (h0 : μ.1 136 = some (ce_Md s)) (hw : wk μ s l) {kf tf ff cf : Nat → Int32} {vf : Nat → Int64} (hA : maA μ kf tf ff cf vf) {i a : Nat} {c : cg} (hc : maR tf ff cf vf i a c) (hi : i < 12) (hg : gd l) (hl : l.length + c.2.2.length ≤ 30) : kc_Y kt kC (d + 3) j_Md_workIn [.ref 136, .int (nI i), .int (nI c.1)] μ (fun v μ' => v = some (.int (nI (ap1 c l).1)) ∧ ∃ s', wkC μ μ' s s' (ap1 c l).2) := by
  refine ⟨Nat.le_of_ble_eq_true rfl, ?_⟩
  obtain ⟨hT, hF, hN, hk2, hV, hvs, h24⟩ := hc
  have loop : ∀ m j (μ1 : kc_M) (s1 : Nat → Int32) (l1 : List tv) (jk : Option Value), c.2.2.length - j = m → j ≤ c.2.2.length → apv c.1 c.2.1 (c.2.2.drop j) l1 = ap1 c l → wkC μ μ1 s s1 l1 → gd l1 → l1.length + m ≤ 30 → kc_X (kC j_Md_workIn) (kc_Y kt kC (d + 2)) (fun v μ' => v = some (.int (nI (ap1 c l).1)) ∧ ∃ s', wkC μ μ' s s' (ap1 c l).2) 64 [some (.ref 136), some (.int (nI i)), some (.int (nI c.1)), some (.int c.2.1), some (.int (nI (a + j))), jk] [] μ1 (0, 0) := by
    intro m
    induction m with
    | zero =>
      intro j μ1 s1 l1 jk hm hj hR hC hg hl
      have k := maA_k hA (μ' := μ1) (fun q h1 h2 => hC.2.2.1 q (by omega) (by omega) (by omega))
      rw [List.drop_eq_nil_of_le (by omega)] at hR
      refine x_il c_Md_workIn_64 rfl ?_
      refine x_al c_Md_workIn_66 rfl ?_
      refine x_get c_Md_workIn_67 (by first | rfl | exact hC.1 | exact k.2.1 | exact k.2.2.1 | exact k.2.2.2.1 | exact k.2.2.2.2) rfl ?_
      refine x_il c_Md_workIn_70 rfl ?_
      refine x_ialdE c_Md_workIn_71 (by first | rfl | exact hC.1 | exact k.2.1 | exact k.2.2.1 | exact k.2.2.2.1 | exact k.2.2.2.2) (by omega) (by omega) (hF) ?_
      refine x_al c_Md_workIn_72 rfl ?_
      refine x_get c_Md_workIn_73 (by first | rfl | exact hC.1 | exact k.2.1 | exact k.2.2.1 | exact k.2.2.2.1 | exact k.2.2.2.2) rfl ?_
      refine x_il c_Md_workIn_76 rfl ?_
      refine x_ialdE c_Md_workIn_77 (by first | rfl | exact hC.1 | exact k.2.1 | exact k.2.2.1 | exact k.2.2.2.1 | exact k.2.2.2.2) (by omega) (by omega) (hN) ?_
      first | refine x_iaddN c_Md_workIn_78 ?_ | refine x_iadd c_Md_workIn_78 ?_
      refine x_cmN_ge c_Md_workIn_79 (by omega) (by omega) (fun _ => ?_) (fun h => (by exfalso; omega))
      refine x_ci c_Md_workIn_176 ?_
      refine x_ri c_Md_workIn_177 ?_
      exact ⟨by rw [← hR]; rfl, s1, by rw [← hR]; exact hC⟩
    | succ m ih =>
      intro j μ1 s1 l1 jk hm hj hR hC hg hl
      have k := maA_k hA (μ' := μ1) (fun q h1 h2 => hC.2.2.1 q (by omega) (by omega) (by omega))
      have hj := hV j (by omega)
      have hdr : c.2.2.drop j = vf (a + j) :: c.2.2.drop (j + 1) := by
        obtain ⟨h1, h2⟩ := List.getElem?_eq_some_iff.mp hj
        rw [← h2]
        exact List.drop_eq_getElem_cons h1
      by_cases hv : (vf (a + j)) = -1
      · skip
        refine x_il c_Md_workIn_64 rfl ?_
        refine x_al c_Md_workIn_66 rfl ?_
        refine x_get c_Md_workIn_67 (by first | rfl | exact hC.1 | exact k.2.1 | exact k.2.2.1 | exact k.2.2.2.1 | exact k.2.2.2.2) rfl ?_
        refine x_il c_Md_workIn_70 rfl ?_
        refine x_ialdE c_Md_workIn_71 (by first | rfl | exact hC.1 | exact k.2.1 | exact k.2.2.1 | exact k.2.2.2.1 | exact k.2.2.2.2) (by omega) (by omega) (hF) ?_
        refine x_al c_Md_workIn_72 rfl ?_
        refine x_get c_Md_workIn_73 (by first | rfl | exact hC.1 | exact k.2.1 | exact k.2.2.1 | exact k.2.2.2.1 | exact k.2.2.2.2) rfl ?_
        refine x_il c_Md_workIn_76 rfl ?_
        refine x_ialdE c_Md_workIn_77 (by first | rfl | exact hC.1 | exact k.2.1 | exact k.2.2.1 | exact k.2.2.2.1 | exact k.2.2.2.2) (by omega) (by omega) (hN) ?_
        first | refine x_iaddN c_Md_workIn_78 ?_ | refine x_iadd c_Md_workIn_78 ?_
        refine x_cmN_ge c_Md_workIn_79 (by omega) (by omega) (fun h => (by exfalso; omega)) (fun _ => ?_)
        refine x_al c_Md_workIn_82 rfl ?_
        refine x_get c_Md_workIn_83 (by first | rfl | exact hC.1 | exact k.2.1 | exact k.2.2.1 | exact k.2.2.2.1 | exact k.2.2.2.2) rfl ?_
        refine x_il c_Md_workIn_86 rfl ?_
        refine x_laldN c_Md_workIn_88 (by first | rfl | exact hC.1 | exact k.2.1 | exact k.2.2.1 | exact k.2.2.2.1 | exact k.2.2.2.2) (by omega) (by omega) ?_
        refine x_cl c_Md_workIn_89 ?_
        refine x_lcmp c_Md_workIn_92 ?_
        refine x_ifL_ne c_Md_workIn_93 (fun h => absurd hv h) (fun _ => ?_)
        refine x_ci c_Md_workIn_96 ?_
        refine x_ri c_Md_workIn_98 ?_
        exact ⟨by rw [← hR, hdr, apv_s, if_pos hv], s1, by rw [← hR, hdr, apv_s, if_pos hv]; exact hC⟩
      · by_cases hin : (c.2.1, (vf (a + j))) ∈ l1
        · obtain ⟨jx, j1, hfi, j3⟩ := fi_lt (by omega) hin
          by_cases hk1 : c.1 = 1
          · skip
            refine x_il c_Md_workIn_64 rfl ?_
            refine x_al c_Md_workIn_66 rfl ?_
            refine x_get c_Md_workIn_67 (by first | rfl | exact hC.1 | exact k.2.1 | exact k.2.2.1 | exact k.2.2.2.1 | exact k.2.2.2.2) rfl ?_
            refine x_il c_Md_workIn_70 rfl ?_
            refine x_ialdE c_Md_workIn_71 (by first | rfl | exact hC.1 | exact k.2.1 | exact k.2.2.1 | exact k.2.2.2.1 | exact k.2.2.2.2) (by omega) (by omega) (hF) ?_
            refine x_al c_Md_workIn_72 rfl ?_
            refine x_get c_Md_workIn_73 (by first | rfl | exact hC.1 | exact k.2.1 | exact k.2.2.1 | exact k.2.2.2.1 | exact k.2.2.2.2) rfl ?_
            refine x_il c_Md_workIn_76 rfl ?_
            refine x_ialdE c_Md_workIn_77 (by first | rfl | exact hC.1 | exact k.2.1 | exact k.2.2.1 | exact k.2.2.2.1 | exact k.2.2.2.2) (by omega) (by omega) (hN) ?_
            first | refine x_iaddN c_Md_workIn_78 ?_ | refine x_iadd c_Md_workIn_78 ?_
            refine x_cmN_ge c_Md_workIn_79 (by omega) (by omega) (fun h => (by exfalso; omega)) (fun _ => ?_)
            refine x_al c_Md_workIn_82 rfl ?_
            refine x_get c_Md_workIn_83 (by first | rfl | exact hC.1 | exact k.2.1 | exact k.2.2.1 | exact k.2.2.2.1 | exact k.2.2.2.2) rfl ?_
            refine x_il c_Md_workIn_86 rfl ?_
            refine x_laldN c_Md_workIn_88 (by first | rfl | exact hC.1 | exact k.2.1 | exact k.2.2.1 | exact k.2.2.2.1 | exact k.2.2.2.2) (by omega) (by omega) ?_
            refine x_cl c_Md_workIn_89 ?_
            refine x_lcmp c_Md_workIn_92 ?_
            refine x_ifL_ne c_Md_workIn_93 (fun _ => ?_) (fun h => absurd h hv)
            refine x_al c_Md_workIn_99 rfl ?_
            refine x_il c_Md_workIn_100 rfl ?_
            refine x_al c_Md_workIn_101 rfl ?_
            refine x_get c_Md_workIn_102 (by first | rfl | exact hC.1 | exact k.2.1 | exact k.2.2.1 | exact k.2.2.2.1 | exact k.2.2.2.2) rfl ?_
            refine x_il c_Md_workIn_105 rfl ?_
            refine x_laldN c_Md_workIn_107 (by first | rfl | exact hC.1 | exact k.2.1 | exact k.2.2.1 | exact k.2.2.2.1 | exact k.2.2.2.2) (by omega) (by omega) ?_
            refine x_cv2z _ c_Md_workIn_108 (by first | rfl | exact hC.1 | exact k.2.1 | exact k.2.2.1 | exact k.2.2.2.1 | exact k.2.2.2.2) (Nat.le_of_ble_eq_true rfl) (y_Md_workAt (d + 1) hC.1 hC.2.2.2) ?_
            rintro _ μx ⟨rfl, hμx⟩
            have hμx := hμx.symm
            subst hμx
            show kc_X _ _ _ _ _ [.int (fi (c.2.1, (vf (a + j))) l1 0)] _ _
            rw [hfi]
            show kc_X _ _ _ _ _ [.int (nI jx)] _ _
            refine x_is [_, _, _, _, _, _] c_Md_workIn_111 rfl ?_
            refine x_il c_Md_workIn_113 rfl ?_
            refine x_ci c_Md_workIn_114 ?_
            refine x_cmN_ne c_Md_workIn_115 (by omega) (by omega) (fun h => (by exfalso; omega)) (fun _ => ?_)
            refine x_il c_Md_workIn_118 rfl ?_
            refine x_ifN_ge c_Md_workIn_120 (by omega) (fun _ => ?_) (fun h => (by exfalso; omega))
            refine x_il c_Md_workIn_144 rfl ?_
            refine x_ci c_Md_workIn_145 ?_
            refine x_cmN_ne c_Md_workIn_146 (by omega) (by omega) (fun h => (by exfalso; omega)) (fun _ => ?_)
            refine x_al c_Md_workIn_149 rfl ?_
            refine x_il c_Md_workIn_150 rfl ?_
            refine x_cv1z _ c_Md_workIn_152 (by first | rfl | exact hC.1 | exact k.2.1 | exact k.2.2.1 | exact k.2.2.2.1 | exact k.2.2.2.2) (Nat.le_of_ble_eq_true rfl) (y_Md_unwork (d + 1) hC.1 hC.2.2.2 j1) ?_
            rintro _ μ2 ⟨rfl, s2, hC2⟩
            have hC2 := hC.to hC2
            rw [er_f l1 jx hg.1 j3] at hC2
            show kc_X _ _ _ _ _ [] _ _
            refine x_goto c_Md_workIn_155 ?_
            first | refine x_incN [_, _, _, _, _, _] c_Md_workIn_170 rfl rfl ?_ | refine x_inc [_, _, _, _, _, _] c_Md_workIn_170 rfl rfl ?_
            refine x_goto c_Md_workIn_173 ?_
            exact ih (j + 1) μ2 s2 _ _ (by omega) (by omega) (by rw [← hR, hdr, apv_s, if_neg hv, if_pos hk1, if_pos hin]) hC2 (gd_f hg) (by have := rm1_le (q := (c.2.1, vf (a + j))) (l := l1); omega)
          · skip
            refine x_il c_Md_workIn_64 rfl ?_
            refine x_al c_Md_workIn_66 rfl ?_
            refine x_get c_Md_workIn_67 (by first | rfl | exact hC.1 | exact k.2.1 | exact k.2.2.1 | exact k.2.2.2.1 | exact k.2.2.2.2) rfl ?_
            refine x_il c_Md_workIn_70 rfl ?_
            refine x_ialdE c_Md_workIn_71 (by first | rfl | exact hC.1 | exact k.2.1 | exact k.2.2.1 | exact k.2.2.2.1 | exact k.2.2.2.2) (by omega) (by omega) (hF) ?_
            refine x_al c_Md_workIn_72 rfl ?_
            refine x_get c_Md_workIn_73 (by first | rfl | exact hC.1 | exact k.2.1 | exact k.2.2.1 | exact k.2.2.2.1 | exact k.2.2.2.2) rfl ?_
            refine x_il c_Md_workIn_76 rfl ?_
            refine x_ialdE c_Md_workIn_77 (by first | rfl | exact hC.1 | exact k.2.1 | exact k.2.2.1 | exact k.2.2.2.1 | exact k.2.2.2.2) (by omega) (by omega) (hN) ?_
            first | refine x_iaddN c_Md_workIn_78 ?_ | refine x_iadd c_Md_workIn_78 ?_
            refine x_cmN_ge c_Md_workIn_79 (by omega) (by omega) (fun h => (by exfalso; omega)) (fun _ => ?_)
            refine x_al c_Md_workIn_82 rfl ?_
            refine x_get c_Md_workIn_83 (by first | rfl | exact hC.1 | exact k.2.1 | exact k.2.2.1 | exact k.2.2.2.1 | exact k.2.2.2.2) rfl ?_
            refine x_il c_Md_workIn_86 rfl ?_
            refine x_laldN c_Md_workIn_88 (by first | rfl | exact hC.1 | exact k.2.1 | exact k.2.2.1 | exact k.2.2.2.1 | exact k.2.2.2.2) (by omega) (by omega) ?_
            refine x_cl c_Md_workIn_89 ?_
            refine x_lcmp c_Md_workIn_92 ?_
            refine x_ifL_ne c_Md_workIn_93 (fun _ => ?_) (fun h => absurd h hv)
            refine x_al c_Md_workIn_99 rfl ?_
            refine x_il c_Md_workIn_100 rfl ?_
            refine x_al c_Md_workIn_101 rfl ?_
            refine x_get c_Md_workIn_102 (by first | rfl | exact hC.1 | exact k.2.1 | exact k.2.2.1 | exact k.2.2.2.1 | exact k.2.2.2.2) rfl ?_
            refine x_il c_Md_workIn_105 rfl ?_
            refine x_laldN c_Md_workIn_107 (by first | rfl | exact hC.1 | exact k.2.1 | exact k.2.2.1 | exact k.2.2.2.1 | exact k.2.2.2.2) (by omega) (by omega) ?_
            refine x_cv2z _ c_Md_workIn_108 (by first | rfl | exact hC.1 | exact k.2.1 | exact k.2.2.1 | exact k.2.2.2.1 | exact k.2.2.2.2) (Nat.le_of_ble_eq_true rfl) (y_Md_workAt (d + 1) hC.1 hC.2.2.2) ?_
            rintro _ μx ⟨rfl, hμx⟩
            have hμx := hμx.symm
            subst hμx
            show kc_X _ _ _ _ _ [.int (fi (c.2.1, (vf (a + j))) l1 0)] _ _
            rw [hfi]
            show kc_X _ _ _ _ _ [.int (nI jx)] _ _
            refine x_is [_, _, _, _, _, _] c_Md_workIn_111 rfl ?_
            refine x_il c_Md_workIn_113 rfl ?_
            refine x_ci c_Md_workIn_114 ?_
            refine x_cmN_ne c_Md_workIn_115 (by omega) (by omega) (fun _ => ?_) (fun h => (by exfalso; omega))
            refine x_il c_Md_workIn_126 rfl ?_
            refine x_ifN_lt c_Md_workIn_128 (by omega) (fun h => (by exfalso; omega)) (fun _ => ?_)
            refine x_il c_Md_workIn_131 rfl ?_
            refine x_ci c_Md_workIn_132 ?_
            refine x_cmN_ne c_Md_workIn_133 (by omega) (by omega) (fun _ => ?_) (fun h => (by exfalso; omega))
            refine x_ci c_Md_workIn_141 ?_
            refine x_ri c_Md_workIn_143 ?_
            exact ⟨by rw [← hR, hdr, apv_s, if_neg hv, if_neg hk1, if_pos hin], s1, by rw [← hR, hdr, apv_s, if_neg hv, if_neg hk1, if_pos hin]; exact hC⟩
        · have hfi : fi (c.2.1, (vf (a + j))) l1 0 = -1 := (fi_mem _ l1 0 (by omega)).mpr hin
          by_cases hk1 : c.1 = 1
          · skip
            refine x_il c_Md_workIn_64 rfl ?_
            refine x_al c_Md_workIn_66 rfl ?_
            refine x_get c_Md_workIn_67 (by first | rfl | exact hC.1 | exact k.2.1 | exact k.2.2.1 | exact k.2.2.2.1 | exact k.2.2.2.2) rfl ?_
            refine x_il c_Md_workIn_70 rfl ?_
            refine x_ialdE c_Md_workIn_71 (by first | rfl | exact hC.1 | exact k.2.1 | exact k.2.2.1 | exact k.2.2.2.1 | exact k.2.2.2.2) (by omega) (by omega) (hF) ?_
            refine x_al c_Md_workIn_72 rfl ?_
            refine x_get c_Md_workIn_73 (by first | rfl | exact hC.1 | exact k.2.1 | exact k.2.2.1 | exact k.2.2.2.1 | exact k.2.2.2.2) rfl ?_
            refine x_il c_Md_workIn_76 rfl ?_
            refine x_ialdE c_Md_workIn_77 (by first | rfl | exact hC.1 | exact k.2.1 | exact k.2.2.1 | exact k.2.2.2.1 | exact k.2.2.2.2) (by omega) (by omega) (hN) ?_
            first | refine x_iaddN c_Md_workIn_78 ?_ | refine x_iadd c_Md_workIn_78 ?_
            refine x_cmN_ge c_Md_workIn_79 (by omega) (by omega) (fun h => (by exfalso; omega)) (fun _ => ?_)
            refine x_al c_Md_workIn_82 rfl ?_
            refine x_get c_Md_workIn_83 (by first | rfl | exact hC.1 | exact k.2.1 | exact k.2.2.1 | exact k.2.2.2.1 | exact k.2.2.2.2) rfl ?_
            refine x_il c_Md_workIn_86 rfl ?_
            refine x_laldN c_Md_workIn_88 (by first | rfl | exact hC.1 | exact k.2.1 | exact k.2.2.1 | exact k.2.2.2.1 | exact k.2.2.2.2) (by omega) (by omega) ?_
            refine x_cl c_Md_workIn_89 ?_
            refine x_lcmp c_Md_workIn_92 ?_
            refine x_ifL_ne c_Md_workIn_93 (fun _ => ?_) (fun h => absurd h hv)
            refine x_al c_Md_workIn_99 rfl ?_
            refine x_il c_Md_workIn_100 rfl ?_
            refine x_al c_Md_workIn_101 rfl ?_
            refine x_get c_Md_workIn_102 (by first | rfl | exact hC.1 | exact k.2.1 | exact k.2.2.1 | exact k.2.2.2.1 | exact k.2.2.2.2) rfl ?_
            refine x_il c_Md_workIn_105 rfl ?_
            refine x_laldN c_Md_workIn_107 (by first | rfl | exact hC.1 | exact k.2.1 | exact k.2.2.1 | exact k.2.2.2.1 | exact k.2.2.2.2) (by omega) (by omega) ?_
            refine x_cv2z _ c_Md_workIn_108 (by first | rfl | exact hC.1 | exact k.2.1 | exact k.2.2.1 | exact k.2.2.2.1 | exact k.2.2.2.2) (Nat.le_of_ble_eq_true rfl) (y_Md_workAt (d + 1) hC.1 hC.2.2.2) ?_
            rintro _ μx ⟨rfl, hμx⟩
            have hμx := hμx.symm
            subst hμx
            show kc_X _ _ _ _ _ [.int (fi (c.2.1, (vf (a + j))) l1 0)] _ _
            rw [hfi]
            show kc_X _ _ _ _ _ [.int (-1)] _ _
            refine x_is [_, _, _, _, _, _] c_Md_workIn_111 rfl ?_
            refine x_il c_Md_workIn_113 rfl ?_
            refine x_ci c_Md_workIn_114 ?_
            refine x_cmN_ne c_Md_workIn_115 (by omega) (by omega) (fun h => (by exfalso; omega)) (fun _ => ?_)
            refine x_il c_Md_workIn_118 rfl ?_
            refine x_if_ge c_Md_workIn_120 (fun h => absurd h (by decide)) (fun _ => ?_)
            refine x_goto c_Md_workIn_123 ?_
            refine x_il c_Md_workIn_131 rfl ?_
            refine x_ci c_Md_workIn_132 ?_
            refine x_cmN_ne c_Md_workIn_133 (by omega) (by omega) (fun h => (by exfalso; omega)) (fun _ => ?_)
            refine x_ci c_Md_workIn_136 ?_
            refine x_goto c_Md_workIn_138 ?_
            refine x_ri c_Md_workIn_143 ?_
            exact ⟨by rw [← hR, hdr, apv_s, if_neg hv, if_pos hk1, if_neg hin], s1, by rw [← hR, hdr, apv_s, if_neg hv, if_pos hk1, if_neg hin]; exact hC⟩
          · skip
            refine x_il c_Md_workIn_64 rfl ?_
            refine x_al c_Md_workIn_66 rfl ?_
            refine x_get c_Md_workIn_67 (by first | rfl | exact hC.1 | exact k.2.1 | exact k.2.2.1 | exact k.2.2.2.1 | exact k.2.2.2.2) rfl ?_
            refine x_il c_Md_workIn_70 rfl ?_
            refine x_ialdE c_Md_workIn_71 (by first | rfl | exact hC.1 | exact k.2.1 | exact k.2.2.1 | exact k.2.2.2.1 | exact k.2.2.2.2) (by omega) (by omega) (hF) ?_
            refine x_al c_Md_workIn_72 rfl ?_
            refine x_get c_Md_workIn_73 (by first | rfl | exact hC.1 | exact k.2.1 | exact k.2.2.1 | exact k.2.2.2.1 | exact k.2.2.2.2) rfl ?_
            refine x_il c_Md_workIn_76 rfl ?_
            refine x_ialdE c_Md_workIn_77 (by first | rfl | exact hC.1 | exact k.2.1 | exact k.2.2.1 | exact k.2.2.2.1 | exact k.2.2.2.2) (by omega) (by omega) (hN) ?_
            first | refine x_iaddN c_Md_workIn_78 ?_ | refine x_iadd c_Md_workIn_78 ?_
            refine x_cmN_ge c_Md_workIn_79 (by omega) (by omega) (fun h => (by exfalso; omega)) (fun _ => ?_)
            refine x_al c_Md_workIn_82 rfl ?_
            refine x_get c_Md_workIn_83 (by first | rfl | exact hC.1 | exact k.2.1 | exact k.2.2.1 | exact k.2.2.2.1 | exact k.2.2.2.2) rfl ?_
            refine x_il c_Md_workIn_86 rfl ?_
            refine x_laldN c_Md_workIn_88 (by first | rfl | exact hC.1 | exact k.2.1 | exact k.2.2.1 | exact k.2.2.2.1 | exact k.2.2.2.2) (by omega) (by omega) ?_
            refine x_cl c_Md_workIn_89 ?_
            refine x_lcmp c_Md_workIn_92 ?_
            refine x_ifL_ne c_Md_workIn_93 (fun _ => ?_) (fun h => absurd h hv)
            refine x_al c_Md_workIn_99 rfl ?_
            refine x_il c_Md_workIn_100 rfl ?_
            refine x_al c_Md_workIn_101 rfl ?_
            refine x_get c_Md_workIn_102 (by first | rfl | exact hC.1 | exact k.2.1 | exact k.2.2.1 | exact k.2.2.2.1 | exact k.2.2.2.2) rfl ?_
            refine x_il c_Md_workIn_105 rfl ?_
            refine x_laldN c_Md_workIn_107 (by first | rfl | exact hC.1 | exact k.2.1 | exact k.2.2.1 | exact k.2.2.2.1 | exact k.2.2.2.2) (by omega) (by omega) ?_
            refine x_cv2z _ c_Md_workIn_108 (by first | rfl | exact hC.1 | exact k.2.1 | exact k.2.2.1 | exact k.2.2.2.1 | exact k.2.2.2.2) (Nat.le_of_ble_eq_true rfl) (y_Md_workAt (d + 1) hC.1 hC.2.2.2) ?_
            rintro _ μx ⟨rfl, hμx⟩
            have hμx := hμx.symm
            subst hμx
            show kc_X _ _ _ _ _ [.int (fi (c.2.1, (vf (a + j))) l1 0)] _ _
            rw [hfi]
            show kc_X _ _ _ _ _ [.int (-1)] _ _
            refine x_is [_, _, _, _, _, _] c_Md_workIn_111 rfl ?_
            refine x_il c_Md_workIn_113 rfl ?_
            refine x_ci c_Md_workIn_114 ?_
            refine x_cmN_ne c_Md_workIn_115 (by omega) (by omega) (fun _ => ?_) (fun h => (by exfalso; omega))
            refine x_il c_Md_workIn_126 rfl ?_
            refine x_if_lt c_Md_workIn_128 (fun _ => ?_) (fun h => absurd (by decide) h)
            refine x_il c_Md_workIn_144 rfl ?_
            refine x_ci c_Md_workIn_145 ?_
            refine x_cmN_ne c_Md_workIn_146 (by omega) (by omega) (fun _ => ?_) (fun h => (by exfalso; omega))
            refine x_al c_Md_workIn_158 rfl ?_
            refine x_il c_Md_workIn_159 rfl ?_
            refine x_al c_Md_workIn_160 rfl ?_
            refine x_get c_Md_workIn_161 (by first | rfl | exact hC.1 | exact k.2.1 | exact k.2.2.1 | exact k.2.2.2.1 | exact k.2.2.2.2) rfl ?_
            refine x_il c_Md_workIn_164 rfl ?_
            refine x_laldN c_Md_workIn_166 (by first | rfl | exact hC.1 | exact k.2.1 | exact k.2.2.1 | exact k.2.2.2.1 | exact k.2.2.2.2) (by omega) (by omega) ?_
            refine x_cv2z _ c_Md_workIn_167 (by first | rfl | exact hC.1 | exact k.2.1 | exact k.2.2.1 | exact k.2.2.2.1 | exact k.2.2.2.2) (Nat.le_of_ble_eq_true rfl) (y_Md_work (d + 1) hC.1 hC.2.2.2 (by omega)) ?_
            rintro _ μ2 ⟨rfl, s2, hC2⟩
            have hC2 := hC.to hC2
            show kc_X _ _ _ _ _ [] _ _
            first | refine x_incN [_, _, _, _, _, _] c_Md_workIn_170 rfl rfl ?_ | refine x_inc [_, _, _, _, _, _] c_Md_workIn_170 rfl rfl ?_
            refine x_goto c_Md_workIn_173 ?_
            exact ih (j + 1) μ2 s2 _ _ (by omega) (by omega) (by rw [← hR, hdr, apv_s, if_neg hv, if_neg hk1, if_neg hin]) hC2 (gd_a hg ((hvs _ (List.mem_of_getElem? hj)).resolve_left hv) hin) (by rw [List.length_append]; show l1.length + 1 + _ ≤ 30; omega)
  have k := hA
  have hC := wkC.re h0 hw
  have hfl : (fT c.2.1 l).length ≤ l.length := List.length_filter_le _ _
  by_cases hTn : c.2.1 = -1
  · skip
    refine x_al c_Md_workIn_0 rfl ?_
    refine x_get c_Md_workIn_1 (by first | rfl | exact hC.1 | exact k.2.1 | exact k.2.2.1 | exact k.2.2.2.1 | exact k.2.2.2.2) rfl ?_
    refine x_il c_Md_workIn_4 rfl ?_
    refine x_ialdE c_Md_workIn_5 (by first | rfl | exact hC.1 | exact k.2.1 | exact k.2.2.1 | exact k.2.2.2.1 | exact k.2.2.2.2) (by omega) (by omega) (hT) ?_
    refine x_is [_, _, _, _, _, _] c_Md_workIn_6 rfl ?_
    refine x_il c_Md_workIn_7 rfl ?_
    refine x_ci c_Md_workIn_8 ?_
    refine x_cm_ne c_Md_workIn_9 (fun h => absurd (hTn) h) (fun _ => ?_)
    refine x_ci c_Md_workIn_12 ?_
    refine x_ri c_Md_workIn_14 ?_
    exact ⟨by unfold ap1; rw [if_pos hTn], s, by unfold ap1; rw [if_pos hTn]; exact hC⟩
  · by_cases hk1 : c.1 = 1
    · by_cases hv0 : c.2.2.length = 0
      · have hor : c.1 = 2 ∨ (c.1 = 1 ∧ c.2.2.length = 0) := Or.inr ⟨hk1, hv0⟩
        have hnil : c.2.2 = [] := List.length_eq_zero_iff.mp hv0
        refine x_al c_Md_workIn_0 rfl ?_
        refine x_get c_Md_workIn_1 (by first | rfl | exact hC.1 | exact k.2.1 | exact k.2.2.1 | exact k.2.2.2.1 | exact k.2.2.2.2) rfl ?_
        refine x_il c_Md_workIn_4 rfl ?_
        refine x_ialdE c_Md_workIn_5 (by first | rfl | exact hC.1 | exact k.2.1 | exact k.2.2.1 | exact k.2.2.2.1 | exact k.2.2.2.2) (by omega) (by omega) (hT) ?_
        refine x_is [_, _, _, _, _, _] c_Md_workIn_6 rfl ?_
        refine x_il c_Md_workIn_7 rfl ?_
        refine x_ci c_Md_workIn_8 ?_
        refine x_cm_ne c_Md_workIn_9 (fun _ => ?_) (fun h => absurd h (hTn))
        refine x_il c_Md_workIn_15 rfl ?_
        refine x_ci c_Md_workIn_16 ?_
        refine x_cmN_ne c_Md_workIn_17 (by omega) (by omega) (fun _ => ?_) (fun h => (by exfalso; omega))
        refine x_il c_Md_workIn_27 rfl ?_
        refine x_ci c_Md_workIn_28 ?_
        refine x_cmN_ne c_Md_workIn_29 (by omega) (by omega) (fun h => (by exfalso; omega)) (fun _ => ?_)
        refine x_al c_Md_workIn_32 rfl ?_
        refine x_get c_Md_workIn_33 (by first | rfl | exact hC.1 | exact k.2.1 | exact k.2.2.1 | exact k.2.2.2.1 | exact k.2.2.2.2) rfl ?_
        refine x_il c_Md_workIn_36 rfl ?_
        refine x_ialdE c_Md_workIn_37 (by first | rfl | exact hC.1 | exact k.2.1 | exact k.2.2.1 | exact k.2.2.2.1 | exact k.2.2.2.2) (by omega) (by omega) (hN) ?_
        refine x_ifN_ne c_Md_workIn_38 (by omega) (fun h => (by exfalso; omega)) (fun _ => ?_)
        refine x_al c_Md_workIn_41 rfl ?_
        refine x_il c_Md_workIn_42 rfl ?_
        refine x_cv1z _ c_Md_workIn_43 (by first | rfl | exact hC.1 | exact k.2.1 | exact k.2.2.1 | exact k.2.2.2.1 | exact k.2.2.2.2) (Nat.le_of_ble_eq_true rfl) (y_Md_clearType d hC.1 hC.2.2.2) ?_
        rintro _ μ2 ⟨rfl, s2, hC2⟩
        have k := maA_k hA (μ' := μ2) (fun q h1 h2 => hC2.2.2.1 q (by omega) (by omega) (by omega))
        have hl32 := hw.2.1
        show kc_X _ _ _ _ _ [.int (nI (l.length - (fT c.2.1 l).length))] _ _
        refine x_ifN_ne c_Md_workIn_46 (by omega) (fun h46 => ?_) (fun h46 => ?_)
        · refine x_ci c_Md_workIn_54 ?_
          refine x_ri c_Md_workIn_55 ?_
          first | exact ⟨by unfold ap1; rw [if_neg hTn, if_pos hor, if_pos ⟨hk1, by omega⟩], s2, by unfold ap1; rw [if_neg hTn, if_pos hor, if_pos ⟨hk1, by omega⟩]; exact hC2⟩ | exact ⟨by unfold ap1; rw [if_neg hTn, if_pos hor, if_neg (fun q => q.2 (by omega)), hnil]; rfl, s2, by unfold ap1; rw [if_neg hTn, if_pos hor, if_neg (fun q => q.2 (by omega)), hnil]; exact hC2⟩
        · refine x_ci c_Md_workIn_49 ?_
          refine x_goto c_Md_workIn_51 ?_
          refine x_ri c_Md_workIn_55 ?_
          first | exact ⟨by unfold ap1; rw [if_neg hTn, if_pos hor, if_pos ⟨hk1, by omega⟩], s2, by unfold ap1; rw [if_neg hTn, if_pos hor, if_pos ⟨hk1, by omega⟩]; exact hC2⟩ | exact ⟨by unfold ap1; rw [if_neg hTn, if_pos hor, if_neg (fun q => q.2 (by omega)), hnil]; rfl, s2, by unfold ap1; rw [if_neg hTn, if_pos hor, if_neg (fun q => q.2 (by omega)), hnil]; exact hC2⟩
      · skip
        refine x_al c_Md_workIn_0 rfl ?_
        refine x_get c_Md_workIn_1 (by first | rfl | exact hC.1 | exact k.2.1 | exact k.2.2.1 | exact k.2.2.2.1 | exact k.2.2.2.2) rfl ?_
        refine x_il c_Md_workIn_4 rfl ?_
        refine x_ialdE c_Md_workIn_5 (by first | rfl | exact hC.1 | exact k.2.1 | exact k.2.2.1 | exact k.2.2.2.1 | exact k.2.2.2.2) (by omega) (by omega) (hT) ?_
        refine x_is [_, _, _, _, _, _] c_Md_workIn_6 rfl ?_
        refine x_il c_Md_workIn_7 rfl ?_
        refine x_ci c_Md_workIn_8 ?_
        refine x_cm_ne c_Md_workIn_9 (fun _ => ?_) (fun h => absurd h (hTn))
        refine x_il c_Md_workIn_15 rfl ?_
        refine x_ci c_Md_workIn_16 ?_
        refine x_cmN_ne c_Md_workIn_17 (by omega) (by omega) (fun _ => ?_) (fun h => (by exfalso; omega))
        refine x_il c_Md_workIn_27 rfl ?_
        refine x_ci c_Md_workIn_28 ?_
        refine x_cmN_ne c_Md_workIn_29 (by omega) (by omega) (fun h => (by exfalso; omega)) (fun _ => ?_)
        refine x_al c_Md_workIn_32 rfl ?_
        refine x_get c_Md_workIn_33 (by first | rfl | exact hC.1 | exact k.2.1 | exact k.2.2.1 | exact k.2.2.2.1 | exact k.2.2.2.2) rfl ?_
        refine x_il c_Md_workIn_36 rfl ?_
        refine x_ialdE c_Md_workIn_37 (by first | rfl | exact hC.1 | exact k.2.1 | exact k.2.2.1 | exact k.2.2.2.1 | exact k.2.2.2.2) (by omega) (by omega) (hN) ?_
        refine x_ifN_ne c_Md_workIn_38 (by omega) (fun _ => ?_) (fun h => (by exfalso; omega))
        refine x_al c_Md_workIn_56 rfl ?_
        refine x_get c_Md_workIn_57 (by first | rfl | exact hC.1 | exact k.2.1 | exact k.2.2.1 | exact k.2.2.2.1 | exact k.2.2.2.2) rfl ?_
        refine x_il c_Md_workIn_60 rfl ?_
        refine x_ialdE c_Md_workIn_61 (by first | rfl | exact hC.1 | exact k.2.1 | exact k.2.2.1 | exact k.2.2.2.1 | exact k.2.2.2.2) (by omega) (by omega) (hF) ?_
        refine x_is [_, _, _, _, _, _] c_Md_workIn_62 rfl ?_
        exact loop _ 0 μ s l _ rfl (by omega) (by unfold ap1; rw [if_neg hTn, if_neg (by omega)]; rfl) hC hg (by omega)
    · by_cases hk2' : c.1 = 2
      · have hor : c.1 = 2 ∨ (c.1 = 1 ∧ c.2.2.length = 0) := Or.inl hk2'
        refine x_al c_Md_workIn_0 rfl ?_
        refine x_get c_Md_workIn_1 (by first | rfl | exact hC2.1 | exact hC.1 | exact k.2.1 | exact k.2.2.1 | exact k.2.2.2.1 | exact k.2.2.2.2) rfl ?_
        refine x_il c_Md_workIn_4 rfl ?_
        refine x_ialdE c_Md_workIn_5 (by first | rfl | exact hC2.1 | exact hC.1 | exact k.2.1 | exact k.2.2.1 | exact k.2.2.2.1 | exact k.2.2.2.2) (by omega) (by omega) (hT) ?_
        refine x_is [_, _, _, _, _, _] c_Md_workIn_6 rfl ?_
        refine x_il c_Md_workIn_7 rfl ?_
        refine x_ci c_Md_workIn_8 ?_
        refine x_cm_ne c_Md_workIn_9 (fun _ => ?_) (fun h => absurd h (hTn))
        refine x_il c_Md_workIn_15 rfl ?_
        refine x_ci c_Md_workIn_16 ?_
        refine x_cmN_ne c_Md_workIn_17 (by omega) (by omega) (fun h => (by exfalso; omega)) (fun _ => ?_)
        refine x_al c_Md_workIn_20 rfl ?_
        refine x_il c_Md_workIn_21 rfl ?_
        refine x_cv1z _ c_Md_workIn_22 (by first | rfl | exact hC2.1 | exact hC.1 | exact k.2.1 | exact k.2.2.1 | exact k.2.2.2.1 | exact k.2.2.2.2) (Nat.le_of_ble_eq_true rfl) (y_Md_clearType d hC.1 hC.2.2.2) ?_
        rintro _ μ2 ⟨rfl, s2, hC2⟩
        have k := maA_k hA (μ' := μ2) (fun q h1 h2 => hC2.2.2.1 q (by omega) (by omega) (by omega))
        have hl32 := hw.2.1
        show kc_X _ _ _ _ _ [.int (nI (l.length - (fT c.2.1 l).length))] _ _
        refine x_is [_, _, _, _, _, _] c_Md_workIn_25 rfl ?_
        refine x_il c_Md_workIn_27 rfl ?_
        refine x_ci c_Md_workIn_28 ?_
        refine x_cmN_ne c_Md_workIn_29 (by omega) (by omega) (fun _ => ?_) (fun h => (by exfalso; omega))
        refine x_al c_Md_workIn_56 rfl ?_
        refine x_get c_Md_workIn_57 (by first | rfl | exact hC2.1 | exact hC.1 | exact k.2.1 | exact k.2.2.1 | exact k.2.2.2.1 | exact k.2.2.2.2) rfl ?_
        refine x_il c_Md_workIn_60 rfl ?_
        refine x_ialdE c_Md_workIn_61 (by first | rfl | exact hC2.1 | exact hC.1 | exact k.2.1 | exact k.2.2.1 | exact k.2.2.2.1 | exact k.2.2.2.2) (by omega) (by omega) (hF) ?_
        refine x_is [_, _, _, _, _, _] c_Md_workIn_62 rfl ?_
        exact loop _ 0 μ2 s2 _ _ rfl (by omega) (by unfold ap1; rw [if_neg hTn, if_pos hor, if_neg (fun q => hk1 q.1)]; rfl) hC2 (gd_f hg) (by omega)
      · skip
        refine x_al c_Md_workIn_0 rfl ?_
        refine x_get c_Md_workIn_1 (by first | rfl | exact hC.1 | exact k.2.1 | exact k.2.2.1 | exact k.2.2.2.1 | exact k.2.2.2.2) rfl ?_
        refine x_il c_Md_workIn_4 rfl ?_
        refine x_ialdE c_Md_workIn_5 (by first | rfl | exact hC.1 | exact k.2.1 | exact k.2.2.1 | exact k.2.2.2.1 | exact k.2.2.2.2) (by omega) (by omega) (hT) ?_
        refine x_is [_, _, _, _, _, _] c_Md_workIn_6 rfl ?_
        refine x_il c_Md_workIn_7 rfl ?_
        refine x_ci c_Md_workIn_8 ?_
        refine x_cm_ne c_Md_workIn_9 (fun _ => ?_) (fun h => absurd h (hTn))
        refine x_il c_Md_workIn_15 rfl ?_
        refine x_ci c_Md_workIn_16 ?_
        refine x_cmN_ne c_Md_workIn_17 (by omega) (by omega) (fun _ => ?_) (fun h => (by exfalso; omega))
        refine x_il c_Md_workIn_27 rfl ?_
        refine x_ci c_Md_workIn_28 ?_
        refine x_cmN_ne c_Md_workIn_29 (by omega) (by omega) (fun _ => ?_) (fun h => (by exfalso; omega))
        refine x_al c_Md_workIn_56 rfl ?_
        refine x_get c_Md_workIn_57 (by first | rfl | exact hC.1 | exact k.2.1 | exact k.2.2.1 | exact k.2.2.2.1 | exact k.2.2.2.2) rfl ?_
        refine x_il c_Md_workIn_60 rfl ?_
        refine x_ialdE c_Md_workIn_61 (by first | rfl | exact hC.1 | exact k.2.1 | exact k.2.2.1 | exact k.2.2.2.1 | exact k.2.2.2.2) (by omega) (by omega) (hF) ?_
        refine x_is [_, _, _, _, _, _] c_Md_workIn_62 rfl ?_
        exact loop _ 0 μ s l _ rfl (by omega) (by unfold ap1; rw [if_neg hTn, if_neg (by omega)]; rfl) hC hg (by omega)
