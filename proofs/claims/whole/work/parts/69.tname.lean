/-! the reference's name -/
/-- the reference holds the name l -/
def mN (μ : kc_M) (s : Nat → Int32) (l : List tv) : Prop := s 20 = nI l.length ∧ l.length ≤ 4 ∧ ∃ f g, μ.1 145 = some (ce_I 4 f) ∧ μ.1 146 = some (ce_L 4 g) ∧ ho l f g
/-- nothing but the name has changed -/
def mnC (μ μ' : kc_M) (s s' : Nat → Int32) (l : List tv) : Prop := μ'.1 136 = some (ce_Md s') ∧ (∀ i, i ≠ 20 → s' i = s i) ∧ (∀ q, q ≠ 136 → q ≠ 145 → q ≠ 146 → μ'.1 q = μ.1 q) ∧ mN μ' s' l
/-- the name was taken, or is none -/
def mnQ (μ : kc_M) (s : Nat → Int32) (tb : Nat → Nat) (a e : Nat) (v : Option Value) (μ' : kc_M) : Prop := ∃ s' l, mnC μ μ' s s' l ∧ ((nmS tb a e = some l ∧ v = some (.int (nI (if a = e then 0 else 1)))) ∨ (nmS tb a e = none ∧ v = some (.int (-1))))
theorem nmS_nil {tb : Nat → Nat} {s e : Nat} (h : nmS tb s e = some []) : s = e := by
  unfold nmS at h
  split at h
  · assumption
  · rw [pn_s] at h
    split at h
    · split at h
      · simp at h
      · rw [Option.map_eq_some_iff] at h
        obtain ⟨_, _, h⟩ := h
        cases h
    · cases h
set_option maxRecDepth 100000 in
set_option maxHeartbeats 4000000 in
theorem y_Md_takeName (d : Nat) {μ : kc_M} {s : Nat → Int32} {tb : Nat → Nat} (h0 : μ.1 136 = some (ce_Md s)) (h1 : μ.1 137 = some (ce_I 200 (fun j => nI (tb j)))) (htb : ∀ j, tb j < 256) (m1 : ∃ f, μ.1 145 = some (ce_I 4 f)) (m2 : ∃ f, μ.1 146 = some (ce_L 4 f)) {a e : Nat} (hle : a ≤ e) (he : e ≤ 200) : kc_Y kt kC (d + 3) j_Md_takeName [.ref 136, .int (nI a), .int (nI e)] μ (mnQ μ s tb a e) := by
  refine ⟨Nat.le_of_ble_eq_true rfl, ?_⟩
  by_cases hae : a = e
  · subst hae
    refine x_al c_Md_takeName_0 rfl ?_
    refine x_ci c_Md_takeName_1 ?_
    refine x_putM c_Md_takeName_2 (by first | rfl | exact h0) ⟨by decide, rfl, rfl⟩ rfl ?_
    refine x_il c_Md_takeName_5 rfl ?_
    refine x_il c_Md_takeName_6 rfl ?_
    refine x_cm_ne c_Md_takeName_7 (fun h => absurd (rfl) h) (fun _ => ?_)
    refine x_ci c_Md_takeName_10 ?_
    refine x_ri c_Md_takeName_11 ?_
    obtain ⟨f, m1⟩ := m1
    obtain ⟨g, m2⟩ := m2
    exact ⟨_, [], ⟨kc_gs, fun i hi => if_neg hi, fun q q1 q2 q3 => kc_gf q1, rfl, by simp, f, g, m1, m2, fun k hk => by simp at hk⟩, Or.inl ⟨by unfold nmS; rw [if_pos rfl], by rw [if_pos rfl]⟩⟩
  have loop : ∀ m p : Nat, ∀ (l : List tv) (μ1 : kc_M) (s1 : Nat → Int32) (jk : Option Value), 4 - l.length = m → l.length ≤ 4 → (p ≤ e ∨ p = e + 1) → pR tb e m p l = nmS tb a e → mnC μ μ1 s s1 l → kc_X (kC j_Md_takeName) (kc_Y kt kC (d + 2)) (mnQ μ s tb a e) 14 [some (.ref 136), some (.int (nI a)), some (.int (nI e)), some (.int (nI (p))), jk] [] μ1 (0, 0) := by
    intro m
    induction m with
    | zero =>
      intro p l μ1 s1 jk hm hl hp hR hC
      have hC0 := hC
      obtain ⟨k0, cs, cq, c0, _, f, g, c1, c2, c3⟩ := hC0
      have k1 : μ1.1 137 = some (ce_I 200 (fun j => nI (tb j))) := (cq 137 (by omega) (by omega) (by omega)).trans h1
      by_cases hpe : p ≤ e
      · have hnx := nx_le tb (e - p) p
        generalize hx : nx tb (e - p) p = x at hnx
        have body : kc_X (kC j_Md_takeName) (kc_Y kt kC (d + 2)) (mnQ μ s tb a e) 46 [some (.ref 136), some (.int (nI a)), some (.int (nI e)), some (.int (nI (p))), some (.int (nI x))] [] μ1 (0, 0) := by
          refine x_al c_Md_takeName_46 rfl ?_
          refine x_getE c_Md_takeName_47 (by first | rfl | exact k0 | exact k1 | exact c1 | exact c2) rfl (by first | exact c0 | rfl) ?_
          refine x_ci c_Md_takeName_50 ?_
          refine x_cmN_eq c_Md_takeName_51 (by first | omega | exact tbl htb _) (by first | omega | exact tbl htb _) (fun _ => ?_) (fun h => (by exfalso; omega))
          refine x_ci c_Md_takeName_103 ?_
          refine x_ri c_Md_takeName_104 ?_
          exact ⟨_, _, hC, Or.inr ⟨by rw [← hR, pR_0 (by omega)], rfl⟩⟩
        have inner : ∀ m k, e - k = m → p ≤ k → k ≤ e → nx tb m k = x → kc_X (kC j_Md_takeName) (kc_Y kt kC (d + 2)) (mnQ μ s tb a e) 22 [some (.ref 136), some (.int (nI a)), some (.int (nI e)), some (.int (nI (p))), some (.int (nI k))] [] μ1 (0, 0) := by
          intro m
          induction m with
          | zero =>
            intro k hm hpk hke hnx
            have hnx : k = x := hnx
            subst hnx
            refine x_il c_Md_takeName_22 rfl ?_
            refine x_il c_Md_takeName_24 rfl ?_
            refine x_cmN_ge c_Md_takeName_25 (by omega) (by omega) (fun _ => ?_) (fun h => (by exfalso; omega))
            exact body
          | succ m ih =>
            intro k hm hpk hke hnx
            have hnx : (if tb k = 44 then k else nx tb m (k + 1)) = x := hnx
            refine x_il c_Md_takeName_22 rfl ?_
            refine x_il c_Md_takeName_24 rfl ?_
            refine x_cmN_ge c_Md_takeName_25 (by first | omega | exact tbl htb _) (by first | omega | exact tbl htb _) (fun h => (by exfalso; omega)) (fun _ => ?_)
            refine x_al c_Md_takeName_28 rfl ?_
            refine x_get c_Md_takeName_29 (by first | rfl | exact k0 | exact k1 | exact c1 | exact c2) rfl ?_
            refine x_il c_Md_takeName_32 rfl ?_
            refine x_ialdN c_Md_takeName_34 (by first | rfl | exact k0 | exact k1 | exact c1 | exact c2) (by omega) (by omega) ?_
            refine x_ci c_Md_takeName_35 ?_
            first | refine x_cmN_eq c_Md_takeName_37 (by first | omega | exact tbl htb _) (by first | omega | exact tbl htb _) (fun h37 => ?_) (fun h37 => ?_) | refine x_cm_eq c_Md_takeName_37 (fun h37 => ?_) (fun h37 => ?_)
            · rw [if_pos h37] at hnx
              subst hnx
              exact body
            · first | refine x_incN [_, _, _, _, _] c_Md_takeName_40 rfl rfl ?_ | refine x_inc [_, _, _, _, _] c_Md_takeName_40 rfl rfl ?_
              refine x_goto c_Md_takeName_43 ?_
              rw [if_neg h37] at hnx
              exact ih (k + 1) (by omega) (by omega) (by omega) hnx
        refine x_il c_Md_takeName_14 rfl ?_
        refine x_il c_Md_takeName_15 rfl ?_
        refine x_cmN_gt c_Md_takeName_16 (by omega) (by omega) (fun h => (by exfalso; omega)) (fun _ => ?_)
        refine x_il c_Md_takeName_19 rfl ?_
        refine x_is [_, _, _, _, _] c_Md_takeName_20 rfl ?_
        exact inner _ p rfl (Nat.le_refl _) hpe hx
      · have hpe : p = e + 1 := by omega
        subst hpe
        refine x_il c_Md_takeName_14 rfl ?_
        refine x_il c_Md_takeName_15 rfl ?_
        refine x_cmN_gt c_Md_takeName_16 (by omega) (by omega) (fun _ => ?_) (fun h => (by exfalso; omega))
        refine x_ci c_Md_takeName_156 ?_
        refine x_ri c_Md_takeName_157 ?_
        rw [pR_d] at hR
        exact ⟨_, _, hC, Or.inl ⟨hR.symm, by rw [if_neg hae]⟩⟩
    | succ m ih =>
      intro p l μ1 s1 jk hm hl hp hR hC
      have hC0 := hC
      obtain ⟨k0, cs, cq, c0, _, f, g, c1, c2, c3⟩ := hC0
      have k1 : μ1.1 137 = some (ce_I 200 (fun j => nI (tb j))) := (cq 137 (by omega) (by omega) (by omega)).trans h1
      by_cases hpe : p ≤ e
      · have hnx := nx_le tb (e - p) p
        generalize hx : nx tb (e - p) p = x at hnx
        have body : kc_X (kC j_Md_takeName) (kc_Y kt kC (d + 2)) (mnQ μ s tb a e) 46 [some (.ref 136), some (.int (nI a)), some (.int (nI e)), some (.int (nI (p))), some (.int (nI x))] [] μ1 (0, 0) := by
          refine x_al c_Md_takeName_46 rfl ?_
          refine x_getE c_Md_takeName_47 (by first | rfl | exact k0 | exact k1 | exact c1 | exact c2) rfl (by first | exact c0 | rfl) ?_
          refine x_ci c_Md_takeName_50 ?_
          refine x_cmN_eq c_Md_takeName_51 (by first | omega | exact tbl htb _) (by first | omega | exact tbl htb _) (fun h => (by exfalso; omega)) (fun _ => ?_)
          refine x_il c_Md_takeName_54 rfl ?_
          refine x_il c_Md_takeName_56 rfl ?_
          first | refine x_isubN c_Md_takeName_57 (by omega) ?_ | refine x_isub c_Md_takeName_57 ?_
          refine x_ci c_Md_takeName_58 ?_
          first | refine x_cmN_lt c_Md_takeName_59 (by first | omega | exact tbl htb _) (by first | omega | exact tbl htb _) (fun h59 => ?_) (fun h59 => ?_) | refine x_cm_lt c_Md_takeName_59 (fun h59 => ?_) (fun h59 => ?_)
          · refine x_ci c_Md_takeName_103 ?_
            refine x_ri c_Md_takeName_104 ?_
            first | exact ⟨_, _, hC, Or.inr ⟨by rw [← hR, pR_f (by omega) (by rw [hx]; exact fun hp => by have := hp.1; omega)], rfl⟩⟩ | exact ⟨_, _, hC, Or.inr ⟨by rw [← hR, pR_f (by omega) (by rw [hx]; exact fun hp => (tyI_m1 (htb p)).mp (by have h9 := h71; unfold tyS at h9; rw [if_pos (by omega)] at h9; exact h9) hp.2.1)], rfl⟩⟩ | exact ⟨_, _, hC, Or.inr ⟨by rw [← hR, pR_f (by omega) (by rw [hx]; exact fun hp => h84 hp.2.2.1)], rfl⟩⟩ | exact ⟨_, _, hC, Or.inr ⟨by rw [← hR, pR_f (by omega) (by rw [hx]; exact fun hp => hp.2.2.2 h100)], rfl⟩⟩
          · refine x_al c_Md_takeName_62 rfl ?_
            refine x_il c_Md_takeName_63 rfl ?_
            refine x_il c_Md_takeName_64 rfl ?_
            refine x_ci c_Md_takeName_65 ?_
            first | refine x_iaddN c_Md_takeName_66 ?_ | refine x_iadd c_Md_takeName_66 ?_
            refine x_cv2z _ c_Md_takeName_67 (by first | rfl | exact k0 | exact k1 | exact c1 | exact c2) (Nat.le_of_ble_eq_true rfl) (y_Md_typeIn (d + 1) (by exact k0) (by exact k1) htb (by omega) (by omega)) ?_
            rintro _ μx ⟨rfl, hμx⟩
            have hμx := hμx.symm
            subst hμx
            show kc_X _ _ _ _ _ (.int (tyS tb p (p + 1)) :: _) _ _
            refine x_ci c_Md_takeName_70 ?_
            refine x_cm_eq c_Md_takeName_71 (fun h71 => ?_) (fun h71 => ?_)
            · refine x_ci c_Md_takeName_103 ?_
              refine x_ri c_Md_takeName_104 ?_
              first | exact ⟨_, _, hC, Or.inr ⟨by rw [← hR, pR_f (by omega) (by rw [hx]; exact fun hp => by have := hp.1; omega)], rfl⟩⟩ | exact ⟨_, _, hC, Or.inr ⟨by rw [← hR, pR_f (by omega) (by rw [hx]; exact fun hp => (tyI_m1 (htb p)).mp (by have h9 := h71; unfold tyS at h9; rw [if_pos (by omega)] at h9; exact h9) hp.2.1)], rfl⟩⟩ | exact ⟨_, _, hC, Or.inr ⟨by rw [← hR, pR_f (by omega) (by rw [hx]; exact fun hp => h84 hp.2.2.1)], rfl⟩⟩ | exact ⟨_, _, hC, Or.inr ⟨by rw [← hR, pR_f (by omega) (by rw [hx]; exact fun hp => hp.2.2.2 h100)], rfl⟩⟩
            · refine x_al c_Md_takeName_74 rfl ?_
              refine x_get c_Md_takeName_75 (by first | rfl | exact k0 | exact k1 | exact c1 | exact c2) rfl ?_
              refine x_il c_Md_takeName_78 rfl ?_
              refine x_ci c_Md_takeName_79 ?_
              first | refine x_iaddN c_Md_takeName_80 ?_ | refine x_iadd c_Md_takeName_80 ?_
              refine x_ialdN c_Md_takeName_81 (by first | rfl | exact k0 | exact k1 | exact c1 | exact c2) (by omega) (by omega) ?_
              refine x_ci c_Md_takeName_82 ?_
              first | refine x_cmN_ne c_Md_takeName_84 (by first | omega | exact tbl htb _) (by first | omega | exact tbl htb _) (fun h84 => ?_) (fun h84 => ?_) | refine x_cm_ne c_Md_takeName_84 (fun h84 => ?_) (fun h84 => ?_)
              · refine x_ci c_Md_takeName_103 ?_
                refine x_ri c_Md_takeName_104 ?_
                first | exact ⟨_, _, hC, Or.inr ⟨by rw [← hR, pR_f (by omega) (by rw [hx]; exact fun hp => by have := hp.1; omega)], rfl⟩⟩ | exact ⟨_, _, hC, Or.inr ⟨by rw [← hR, pR_f (by omega) (by rw [hx]; exact fun hp => (tyI_m1 (htb p)).mp (by have h9 := h71; unfold tyS at h9; rw [if_pos (by omega)] at h9; exact h9) hp.2.1)], rfl⟩⟩ | exact ⟨_, _, hC, Or.inr ⟨by rw [← hR, pR_f (by omega) (by rw [hx]; exact fun hp => h84 hp.2.2.1)], rfl⟩⟩ | exact ⟨_, _, hC, Or.inr ⟨by rw [← hR, pR_f (by omega) (by rw [hx]; exact fun hp => hp.2.2.2 h100)], rfl⟩⟩
              · refine x_al c_Md_takeName_87 rfl ?_
                refine x_il c_Md_takeName_88 rfl ?_
                refine x_ci c_Md_takeName_89 ?_
                first | refine x_iaddN c_Md_takeName_90 ?_ | refine x_iadd c_Md_takeName_90 ?_
                refine x_il c_Md_takeName_91 rfl ?_
                refine x_cv2z _ c_Md_takeName_93 (by first | rfl | exact k0 | exact k1 | exact c1 | exact c2) (Nat.le_of_ble_eq_true rfl) (y_Md_valueIn d (by exact k0) (by exact k1) htb (p := p + 2) (e := x) (by omega) (by omega)) ?_
                rintro _ μx ⟨rfl, hμx⟩
                have hμx := hμx.symm
                subst hμx
                show kc_X _ _ _ _ _ (.long (vlS tb (p + 2) x) :: _) _ _
                refine x_cl c_Md_takeName_96 ?_
                refine x_lcmp c_Md_takeName_99 ?_
                refine x_ifL_ne c_Md_takeName_100 (fun h100 => ?_) (fun h100 => ?_)
                · refine x_al c_Md_takeName_105 rfl ?_
                  refine x_get c_Md_takeName_106 (by first | rfl | exact k0 | exact k1 | exact c1 | exact c2) rfl ?_
                  refine x_al c_Md_takeName_109 rfl ?_
                  refine x_getE c_Md_takeName_110 (by first | rfl | exact k0 | exact k1 | exact c1 | exact c2) rfl (by first | exact c0 | rfl) ?_
                  refine x_al c_Md_takeName_113 rfl ?_
                  refine x_get c_Md_takeName_114 (by first | rfl | exact k0 | exact k1 | exact c1 | exact c2) rfl ?_
                  refine x_il c_Md_takeName_117 rfl ?_
                  refine x_ialdN c_Md_takeName_118 (by first | rfl | exact k0 | exact k1 | exact c1 | exact c2) (by omega) (by omega) ?_
                  refine x_iastN c_Md_takeName_119 (by first | rfl | exact k0 | exact k1 | exact c1 | exact c2) (by omega) (by omega) ?_
                  refine x_al c_Md_takeName_120 rfl ?_
                  refine x_get c_Md_takeName_121 (by first | rfl | exact k0 | exact k1 | exact c1 | exact c2) rfl ?_
                  refine x_al c_Md_takeName_124 rfl ?_
                  refine x_getE c_Md_takeName_125 (by first | rfl | exact k0 | exact k1 | exact c1 | exact c2) rfl (by first | exact c0 | rfl) ?_
                  refine x_al c_Md_takeName_128 rfl ?_
                  refine x_il c_Md_takeName_129 rfl ?_
                  refine x_ci c_Md_takeName_130 ?_
                  first | refine x_iaddN c_Md_takeName_131 ?_ | refine x_iadd c_Md_takeName_131 ?_
                  refine x_il c_Md_takeName_132 rfl ?_
                  refine x_cv2z _ c_Md_takeName_134 (by first | rfl | exact k0 | exact k1 | exact c1 | exact c2) (Nat.le_of_ble_eq_true rfl) (y_Md_valueIn d (by exact k0) (by exact k1) htb (p := p + 2) (e := x) (by omega) (by omega)) ?_
                  rintro _ μx ⟨rfl, hμx⟩
                  have hμx := hμx.symm
                  subst hμx
                  show kc_X _ _ _ _ _ (.long (vlS tb (p + 2) x) :: _) _ _
                  refine x_lastN c_Md_takeName_137 (by first | rfl | exact k0 | exact k1 | exact c1 | exact c2) (by omega) (by omega) ?_
                  refine x_al c_Md_takeName_138 rfl ?_
                  refine x_dup c_Md_takeName_139 rfl ?_
                  refine x_getE c_Md_takeName_140 (by first | rfl | exact k0 | exact k1 | exact c1 | exact c2) rfl (by first | exact c0 | rfl) ?_
                  refine x_ci c_Md_takeName_143 ?_
                  first | refine x_iaddN c_Md_takeName_144 ?_ | refine x_iadd c_Md_takeName_144 ?_
                  refine x_putM c_Md_takeName_145 (by first | rfl | exact k0 | exact k1 | exact c1 | exact c2) ⟨by decide, rfl, rfl⟩ rfl ?_
                  refine x_il c_Md_takeName_148 rfl ?_
                  refine x_ci c_Md_takeName_150 ?_
                  first | refine x_iaddN c_Md_takeName_151 ?_ | refine x_iadd c_Md_takeName_151 ?_
                  refine x_is [_, _, _, _, _] c_Md_takeName_152 rfl ?_
                  refine x_goto c_Md_takeName_153 ?_
                  have hok : pOK tb p x := ⟨by omega, Classical.not_not.mp (fun q => h71 (by unfold tyS; rw [if_pos (by omega)]; exact (tyI_m1 (htb p)).mpr q)), h84, h100⟩
                  exact ih _ (l ++ [pTV tb p x]) _ (upd s1 20 (nI (l.length + 1))) _ (by rw [List.length_append]; simp; omega) (by rw [List.length_append]; simp; omega) (by omega) (by rw [← hR, pR_s (by omega) (hx ▸ hok), hx]) ⟨kc_gs, fun i hi => (if_neg hi).trans (cs i hi), fun q q1 q2 q3 => (kc_gf q1).trans ((kc_gf q3).trans ((kc_gf q2).trans (cq q q1 q2 q3))), by rw [List.length_append]; exact if_pos rfl, by rw [List.length_append]; simp; omega, _, _, rfl, rfl, ho_app c3 _ _⟩
                · refine x_ci c_Md_takeName_103 ?_
                  refine x_ri c_Md_takeName_104 ?_
                  first | exact ⟨_, _, hC, Or.inr ⟨by rw [← hR, pR_f (by omega) (by rw [hx]; exact fun hp => by have := hp.1; omega)], rfl⟩⟩ | exact ⟨_, _, hC, Or.inr ⟨by rw [← hR, pR_f (by omega) (by rw [hx]; exact fun hp => (tyI_m1 (htb p)).mp (by have h9 := h71; unfold tyS at h9; rw [if_pos (by omega)] at h9; exact h9) hp.2.1)], rfl⟩⟩ | exact ⟨_, _, hC, Or.inr ⟨by rw [← hR, pR_f (by omega) (by rw [hx]; exact fun hp => h84 hp.2.2.1)], rfl⟩⟩ | exact ⟨_, _, hC, Or.inr ⟨by rw [← hR, pR_f (by omega) (by rw [hx]; exact fun hp => hp.2.2.2 h100)], rfl⟩⟩
        have inner : ∀ m k, e - k = m → p ≤ k → k ≤ e → nx tb m k = x → kc_X (kC j_Md_takeName) (kc_Y kt kC (d + 2)) (mnQ μ s tb a e) 22 [some (.ref 136), some (.int (nI a)), some (.int (nI e)), some (.int (nI (p))), some (.int (nI k))] [] μ1 (0, 0) := by
          intro m
          induction m with
          | zero =>
            intro k hm hpk hke hnx
            have hnx : k = x := hnx
            subst hnx
            refine x_il c_Md_takeName_22 rfl ?_
            refine x_il c_Md_takeName_24 rfl ?_
            refine x_cmN_ge c_Md_takeName_25 (by omega) (by omega) (fun _ => ?_) (fun h => (by exfalso; omega))
            exact body
          | succ m ih =>
            intro k hm hpk hke hnx
            have hnx : (if tb k = 44 then k else nx tb m (k + 1)) = x := hnx
            refine x_il c_Md_takeName_22 rfl ?_
            refine x_il c_Md_takeName_24 rfl ?_
            refine x_cmN_ge c_Md_takeName_25 (by first | omega | exact tbl htb _) (by first | omega | exact tbl htb _) (fun h => (by exfalso; omega)) (fun _ => ?_)
            refine x_al c_Md_takeName_28 rfl ?_
            refine x_get c_Md_takeName_29 (by first | rfl | exact k0 | exact k1 | exact c1 | exact c2) rfl ?_
            refine x_il c_Md_takeName_32 rfl ?_
            refine x_ialdN c_Md_takeName_34 (by first | rfl | exact k0 | exact k1 | exact c1 | exact c2) (by omega) (by omega) ?_
            refine x_ci c_Md_takeName_35 ?_
            first | refine x_cmN_eq c_Md_takeName_37 (by first | omega | exact tbl htb _) (by first | omega | exact tbl htb _) (fun h37 => ?_) (fun h37 => ?_) | refine x_cm_eq c_Md_takeName_37 (fun h37 => ?_) (fun h37 => ?_)
            · rw [if_pos h37] at hnx
              subst hnx
              exact body
            · first | refine x_incN [_, _, _, _, _] c_Md_takeName_40 rfl rfl ?_ | refine x_inc [_, _, _, _, _] c_Md_takeName_40 rfl rfl ?_
              refine x_goto c_Md_takeName_43 ?_
              rw [if_neg h37] at hnx
              exact ih (k + 1) (by omega) (by omega) (by omega) hnx
        refine x_il c_Md_takeName_14 rfl ?_
        refine x_il c_Md_takeName_15 rfl ?_
        refine x_cmN_gt c_Md_takeName_16 (by omega) (by omega) (fun h => (by exfalso; omega)) (fun _ => ?_)
        refine x_il c_Md_takeName_19 rfl ?_
        refine x_is [_, _, _, _, _] c_Md_takeName_20 rfl ?_
        exact inner _ p rfl (Nat.le_refl _) hpe hx
      · have hpe : p = e + 1 := by omega
        subst hpe
        refine x_il c_Md_takeName_14 rfl ?_
        refine x_il c_Md_takeName_15 rfl ?_
        refine x_cmN_gt c_Md_takeName_16 (by omega) (by omega) (fun _ => ?_) (fun h => (by exfalso; omega))
        refine x_ci c_Md_takeName_156 ?_
        refine x_ri c_Md_takeName_157 ?_
        rw [pR_d] at hR
        exact ⟨_, _, hC, Or.inl ⟨hR.symm, by rw [if_neg hae]⟩⟩
  refine x_al c_Md_takeName_0 rfl ?_
  refine x_ci c_Md_takeName_1 ?_
  refine x_putM c_Md_takeName_2 (by first | rfl | exact h0) ⟨by decide, rfl, rfl⟩ rfl ?_
  refine x_il c_Md_takeName_5 rfl ?_
  refine x_il c_Md_takeName_6 rfl ?_
  refine x_cm_ne c_Md_takeName_7 (fun _ => ?_) (fun h => absurd h (fun q => hae ((nI_eq (by omega) (by omega)).mp q)))
  refine x_il c_Md_takeName_12 rfl ?_
  refine x_is [_, _, _, _, _] c_Md_takeName_13 rfl ?_
  obtain ⟨f, m1⟩ := m1
  obtain ⟨g, m2⟩ := m2
  exact loop 4 a [] _ _ _ rfl (by simp) (by omega) (nmS_R hle hae).symm ⟨kc_gs, fun i hi => if_neg hi, fun q q1 q2 q3 => kc_gf q1, rfl, by simp, f, g, m1, m2, fun k hk => by simp at hk⟩
