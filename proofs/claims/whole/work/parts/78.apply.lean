/-! changes applied, the class -/
/-- a change: its kind, type and values -/
abbrev cg : Type := Nat × Int32 × List Int64
def rm1 (q : tv) (l : List tv) : List tv := l.filter (fun p => !decide (p = q))
theorem rm1_le {q : tv} {l : List tv} : (rm1 q l).length ≤ l.length := List.length_filter_le _ _
theorem fl_r {ty : Int32} {x : Int64} {l : List tv} : l.filter (kp ty x x) = rm1 (ty, x) l := fl_1
def apv (k : Nat) (t : Int32) : List Int64 → List tv → Nat × List tv
  | [], l => (0, l)
  | v :: vs, l => if v = -1 then (21, l) else if k = 1 then (if (t, v) ∈ l then apv k t vs (rm1 (t, v) l) else (16, l)) else (if (t, v) ∈ l then (20, l) else apv k t vs (l ++ [(t, v)]))
theorem apv_s (k : Nat) (t : Int32) (v : Int64) (vs : List Int64) (l : List tv) : apv k t (v :: vs) l = if v = -1 then (21, l) else if k = 1 then (if (t, v) ∈ l then apv k t vs (rm1 (t, v) l) else (16, l)) else (if (t, v) ∈ l then (20, l) else apv k t vs (l ++ [(t, v)])) := rfl
def fT (t : Int32) (l : List tv) : List tv := l.filter (fun p => !decide (p.1 = t))
def ap1 (c : cg) (l : List tv) : Nat × List tv := if c.2.1 = -1 then (17, l) else if c.1 = 2 ∨ (c.1 = 1 ∧ c.2.2.length = 0) then (if c.1 = 1 ∧ ¬ (fT c.2.1 l).length < l.length then (16, fT c.2.1 l) else apv c.1 c.2.1 c.2.2 (fT c.2.1 l)) else apv c.1 c.2.1 c.2.2 l
def apl : List cg → List tv → Nat × List tv
  | [], l => (0, l)
  | c :: cs, l => if (ap1 c l).1 = 0 then apl cs (ap1 c l).2 else ap1 c l
theorem apl_s (c : cg) (cs : List cg) (l : List tv) : apl (c :: cs) l = if (ap1 c l).1 = 0 then apl cs (ap1 c l).2 else ap1 c l := rfl
/-- pairs that are all different, of values -/
def gd (l : List tv) : Prop := l.Nodup ∧ ∀ p ∈ l, 0 ≤ p.2
theorem gd_f {l : List tv} {P : tv → Bool} (h : gd l) : gd (l.filter P) := ⟨h.1.filter P, fun p hp => h.2 p (List.mem_filter.mp hp).1⟩
theorem gd_a {l : List tv} {t : Int32} {v : Int64} (h : gd l) (hv : 0 ≤ v) (hn : (t, v) ∉ l) : gd (l ++ [(t, v)]) := by
  refine ⟨?_, fun p hp => ?_⟩
  · rw [List.nodup_append]
    refine ⟨h.1, by simp, fun a ha b hb => ?_⟩
    rw [List.mem_singleton] at hb
    rintro rfl
    exact hn (hb ▸ ha)
  · rcases List.mem_append.mp hp with hp | hp
    · exact h.2 p hp
    · rw [List.mem_singleton] at hp
      rw [hp]; exact hv
theorem apv_ok {k : Nat} {t : Int32} : ∀ (vs : List Int64) (l : List tv), gd l → (∀ v ∈ vs, v = -1 ∨ 0 ≤ v) → gd (apv k t vs l).2 ∧ (apv k t vs l).2.length ≤ l.length + vs.length ∧ (apv k t vs l).1 < 64
  | [], l, h, _ => ⟨h, by show l.length ≤ _; omega, by show 0 < 64; omega⟩
  | v :: vs, l, h, hv => by
    rw [apv_s]
    have hv' := fun x hx => hv x (List.mem_cons_of_mem _ hx)
    rw [List.length_cons]
    by_cases h1 : v = -1
    · rw [if_pos h1]; exact ⟨h, by show l.length ≤ _; omega, Nat.le_of_ble_eq_true rfl⟩
    · rw [if_neg h1]
      by_cases h2 : k = 1
      · rw [if_pos h2]
        by_cases h3 : (t, v) ∈ l
        · rw [if_pos h3]
          have := apv_ok (k := k) (t := t) vs (rm1 (t, v) l) (gd_f h) hv'
          have h4 := rm1_le (q := (t, v)) (l := l)
          exact ⟨this.1, by omega, this.2.2⟩
        · rw [if_neg h3]; exact ⟨h, by show l.length ≤ _; omega, Nat.le_of_ble_eq_true rfl⟩
      · rw [if_neg h2]
        by_cases h3 : (t, v) ∈ l
        · rw [if_pos h3]; exact ⟨h, by show l.length ≤ _; omega, Nat.le_of_ble_eq_true rfl⟩
        · rw [if_neg h3]
          have := apv_ok (k := k) (t := t) vs _ (gd_a h ((hv v (by simp)).resolve_left h1) h3) hv'
          rw [List.length_append] at this
          have h5 : [(t, v)].length = 1 := rfl
          exact ⟨this.1, by omega, this.2.2⟩
theorem ap1_ok {c : cg} {l : List tv} (h : gd l) (hv : ∀ v ∈ c.2.2, v = -1 ∨ 0 ≤ v) : gd (ap1 c l).2 ∧ (ap1 c l).2.length ≤ l.length + c.2.2.length ∧ (ap1 c l).1 < 64 := by
  have hf : gd (fT c.2.1 l) := gd_f h
  have hfl : (fT c.2.1 l).length ≤ l.length := List.length_filter_le _ _
  unfold ap1
  split
  · exact ⟨h, by show l.length ≤ _; omega, Nat.le_of_ble_eq_true rfl⟩
  · split
    · split
      · exact ⟨hf, by show (fT c.2.1 l).length ≤ _; omega, Nat.le_of_ble_eq_true rfl⟩
      · have := apv_ok (k := c.1) (t := c.2.1) c.2.2 _ hf hv
        exact ⟨this.1, by omega, this.2.2⟩
    · exact apv_ok _ _ h hv
theorem le_mx (x : Int64) : x ≤ 9223372036854775807 := by
  rw [Int64.le_iff_toInt_le]
  have h := Int64.toInt_lt x
  have h2 : (9223372036854775807 : Int64).toInt = 9223372036854775807 := by decide
  rw [h2]
  omega
theorem fT_kp {t : Int32} {l : List tv} (h : gd l) : l.filter (kp t 0 9223372036854775807) = fT t l := by
  unfold fT
  apply List.filter_congr
  intro p hp
  by_cases h1 : p.1 = t
  · rw [kp_f h1 (Int64.not_lt.mpr (h.2 p hp)) (le_mx _), decide_eq_true h1]; rfl
  · rw [kp_t (Or.inl h1), decide_eq_false h1]; rfl
theorem fl_lt {q : tv} {l : List tv} : (rm1 q l).length < l.length ↔ q ∈ l := by
  unfold rm1
  rw [List.length_filter_lt_length_iff_exists]
  constructor
  · rintro ⟨p, hp, h⟩
    by_cases hpq : p = q
    · exact hpq ▸ hp
    · rw [decide_eq_false hpq] at h; simp at h
  · intro h
    exact ⟨q, h, by simp⟩
/-- the class's rows of changes -/
def chA (μ : kc_M) (c vc : Nat) (kf tf ef : Nat → Int32) (vf : Nat → Int64) : Prop := μ.1 122 = some (ce_Ch c vc) ∧ μ.1 123 = some (ce_I 12 kf) ∧ μ.1 124 = some (ce_I 12 tf) ∧ μ.1 125 = some (ce_I 12 ef) ∧ μ.1 126 = some (ce_L 24 vf)
theorem chA_k {μ μ' : kc_M} {c vc : Nat} {kf tf ef : Nat → Int32} {vf : Nat → Int64} (h : chA μ c vc kf tf ef vf) (hk : ∀ q, 122 ≤ q → q < 127 → μ'.1 q = μ.1 q) : chA μ' c vc kf tf ef vf :=
  ⟨(hk _ (by omega) (by omega)).trans h.1, (hk _ (by omega) (by omega)).trans h.2.1, (hk _ (by omega) (by omega)).trans h.2.2.1, (hk _ (by omega) (by omega)).trans h.2.2.2.1, (hk _ (by omega) (by omega)).trans h.2.2.2.2⟩
/-- the change in the i-th row, whose values begin at a -/
def chR (kf tf ef : Nat → Int32) (vf : Nat → Int64) (i a : Nat) (c : cg) : Prop := kf i = nI c.1 ∧ tf i = c.2.1 ∧ ef i = nI (a + c.2.2.length) ∧ c.1 < 256 ∧ (∀ j, j < c.2.2.length → c.2.2[j]? = some (vf (a + j))) ∧ (∀ v ∈ c.2.2, v = -1 ∨ 0 ≤ v) ∧ a + c.2.2.length ≤ 24
theorem fl_0 {q : tv} {l : List tv} (h : q ∉ l) : rm1 q l = l := by
  unfold rm1
  rw [List.filter_eq_self]
  intro p hp
  rw [decide_eq_false (fun e : p = q => h (e ▸ hp))]; rfl
set_option maxRecDepth 100000 in
set_option maxHeartbeats 4000000 in
theorem y_Ch_applyOne (d : Nat) {μ : kc_M} {cn vc : Nat} {kf tf ef : Nat → Int32} {vf : Nat → Int64} (hA : chA μ cn vc kf tf ef vf) {i a : Nat} {c : cg} (hc : chR kf tf ef vf i a c) (hi : i < 12) {l : List tv} (hp : pa_at μ 133 134 135 30 l) (hg : gd l) (hl : l.length + c.2.2.length ≤ 30) : kc_Y kt kC (d + 3) j_Ch_applyOne [.ref 122, .int (nI i), .int (nI a), .ref 133] μ (fun w μ' => w = some (.int (nI (ap1 c l).1)) ∧ pa_at μ' 133 134 135 30 (ap1 c l).2 ∧ ∀ q, q < 133 ∨ 135 < q → μ'.1 q = μ.1 q) := by
  refine ⟨Nat.le_of_ble_eq_true rfl, ?_⟩
  obtain ⟨hK, hT, hE, hk2, hV, hvs, h24⟩ := hc
  have loop1 : c.1 = 1 → ∀ m j (μ1 : kc_M) (l1 : List tv), c.2.2.length - j = m → j ≤ c.2.2.length → apv c.1 c.2.1 (c.2.2.drop j) l1 = ap1 c l → pa_at μ1 133 134 135 30 l1 → gd l1 → l1.length + m ≤ 30 → (∀ q, q < 133 ∨ 135 < q → μ1.1 q = μ.1 q) → kc_X (kC j_Ch_applyOne) (kc_Y kt kC (d + 2)) (fun w μ' => w = some (.int (nI (ap1 c l).1)) ∧ pa_at μ' 133 134 135 30 (ap1 c l).2 ∧ ∀ q, q < 133 ∨ 135 < q → μ'.1 q = μ.1 q) 87 [some (.ref 122), some (.int (nI i)), some (.int (nI a)), some (.ref 133), some (.int (nI 1)), some (.int (nI (a + j)))] [] μ1 (0, 0) := by
    intro hk1 m
    induction m with
    | zero =>
      intro j μ1 l1 hm hj hR hp1 hg hl hf
      have k := chA_k hA (μ' := μ1) (fun q h1 h2 => hf q (by omega))
      rw [List.drop_eq_nil_of_le (by omega)] at hR
      refine x_il c_Ch_applyOne_87 rfl ?_
      refine x_al c_Ch_applyOne_89 rfl ?_
      refine x_get c_Ch_applyOne_90 (by first | rfl | exact k.1 | exact k.2.1 | exact k.2.2.1 | exact k.2.2.2.1 | exact k.2.2.2.2 | exact (pa_c hp1)) rfl ?_
      refine x_il c_Ch_applyOne_93 rfl ?_
      refine x_ialdE c_Ch_applyOne_94 (by first | rfl | exact k.1 | exact k.2.1 | exact k.2.2.1 | exact k.2.2.2.1 | exact k.2.2.2.2 | exact (pa_c hp1)) (by omega) (by omega) (hE) ?_
      refine x_cmN_ge c_Ch_applyOne_95 (by omega) (by omega) (fun _ => ?_) (fun h => (by exfalso; omega))
      refine x_ci c_Ch_applyOne_177 ?_
      refine x_ri c_Ch_applyOne_178 ?_
      exact ⟨by rw [← hR]; rfl, by rw [← hR]; exact hp1, hf⟩
    | succ m ih =>
      intro j μ1 l1 hm hj hR hp1 hg hl hf
      have k := chA_k hA (μ' := μ1) (fun q h1 h2 => hf q (by omega))
      have hj := hV j (by omega)
      have hdr : c.2.2.drop j = vf (a + j) :: c.2.2.drop (j + 1) := by
        obtain ⟨h1, h2⟩ := List.getElem?_eq_some_iff.mp hj
        rw [← h2]
        exact List.drop_eq_getElem_cons h1
      by_cases hv : vf (a + j) = -1
      · skip
        refine x_il c_Ch_applyOne_87 rfl ?_
        refine x_al c_Ch_applyOne_89 rfl ?_
        refine x_get c_Ch_applyOne_90 (by first | rfl | exact k.1 | exact k.2.1 | exact k.2.2.1 | exact k.2.2.2.1 | exact k.2.2.2.2 | exact (pa_c hp1)) rfl ?_
        refine x_il c_Ch_applyOne_93 rfl ?_
        refine x_ialdE c_Ch_applyOne_94 (by first | rfl | exact k.1 | exact k.2.1 | exact k.2.2.1 | exact k.2.2.2.1 | exact k.2.2.2.2 | exact (pa_c hp1)) (by omega) (by omega) (hE) ?_
        refine x_cmN_ge c_Ch_applyOne_95 (by omega) (by omega) (fun h => (by exfalso; omega)) (fun _ => ?_)
        refine x_al c_Ch_applyOne_98 rfl ?_
        refine x_get c_Ch_applyOne_99 (by first | rfl | exact k.1 | exact k.2.1 | exact k.2.2.1 | exact k.2.2.2.1 | exact k.2.2.2.2 | exact (pa_c hp1)) rfl ?_
        refine x_il c_Ch_applyOne_102 rfl ?_
        refine x_laldE c_Ch_applyOne_104 (by first | rfl | exact k.1 | exact k.2.1 | exact k.2.2.1 | exact k.2.2.2.1 | exact k.2.2.2.2 | exact (pa_c hp1)) (by omega) (by omega) (rfl) ?_
        refine x_cl c_Ch_applyOne_105 ?_
        refine x_lcmp c_Ch_applyOne_108 ?_
        refine x_ifL_ne c_Ch_applyOne_109 (fun h => absurd hv h) (fun _ => ?_)
        refine x_ci c_Ch_applyOne_112 ?_
        refine x_ri c_Ch_applyOne_114 ?_
        exact ⟨by rw [← hR, hdr, apv_s, if_pos hv], by rw [← hR, hdr, apv_s, if_pos hv]; exact hp1, hf⟩
      · by_cases hin : (c.2.1, vf (a + j)) ∈ l1
        · skip
          refine x_il c_Ch_applyOne_87 rfl ?_
          refine x_al c_Ch_applyOne_89 rfl ?_
          refine x_get c_Ch_applyOne_90 (by first | rfl | exact k.1 | exact k.2.1 | exact k.2.2.1 | exact k.2.2.2.1 | exact k.2.2.2.2 | exact (pa_c hp1)) rfl ?_
          refine x_il c_Ch_applyOne_93 rfl ?_
          refine x_ialdE c_Ch_applyOne_94 (by first | rfl | exact k.1 | exact k.2.1 | exact k.2.2.1 | exact k.2.2.2.1 | exact k.2.2.2.2 | exact (pa_c hp1)) (by omega) (by omega) (hE) ?_
          refine x_cmN_ge c_Ch_applyOne_95 (by omega) (by omega) (fun h => (by exfalso; omega)) (fun _ => ?_)
          refine x_al c_Ch_applyOne_98 rfl ?_
          refine x_get c_Ch_applyOne_99 (by first | rfl | exact k.1 | exact k.2.1 | exact k.2.2.1 | exact k.2.2.2.1 | exact k.2.2.2.2 | exact (pa_c hp1)) rfl ?_
          refine x_il c_Ch_applyOne_102 rfl ?_
          refine x_laldE c_Ch_applyOne_104 (by first | rfl | exact k.1 | exact k.2.1 | exact k.2.2.1 | exact k.2.2.2.1 | exact k.2.2.2.2 | exact (pa_c hp1)) (by omega) (by omega) (rfl) ?_
          refine x_cl c_Ch_applyOne_105 ?_
          refine x_lcmp c_Ch_applyOne_108 ?_
          refine x_ifL_ne c_Ch_applyOne_109 (fun _ => ?_) (fun h => absurd h hv)
          refine x_il c_Ch_applyOne_115 rfl ?_
          refine x_if_eq c_Ch_applyOne_117 (fun h => absurd h (by decide)) (fun _ => ?_)
          refine x_al c_Ch_applyOne_120 rfl ?_
          refine x_al c_Ch_applyOne_121 rfl ?_
          refine x_get c_Ch_applyOne_122 (by first | rfl | exact k.1 | exact k.2.1 | exact k.2.2.1 | exact k.2.2.2.1 | exact k.2.2.2.2 | exact (pa_c hp1)) rfl ?_
          refine x_il c_Ch_applyOne_125 rfl ?_
          refine x_ialdE c_Ch_applyOne_126 (by first | rfl | exact k.1 | exact k.2.1 | exact k.2.2.1 | exact k.2.2.2.1 | exact k.2.2.2.2 | exact (pa_c hp1)) (by omega) (by omega) (hT) ?_
          refine x_al c_Ch_applyOne_127 rfl ?_
          refine x_get c_Ch_applyOne_128 (by first | rfl | exact k.1 | exact k.2.1 | exact k.2.2.1 | exact k.2.2.2.1 | exact k.2.2.2.2 | exact (pa_c hp1)) rfl ?_
          refine x_il c_Ch_applyOne_131 rfl ?_
          refine x_laldE c_Ch_applyOne_133 (by first | rfl | exact k.1 | exact k.2.1 | exact k.2.2.1 | exact k.2.2.2.1 | exact k.2.2.2.2 | exact (pa_c hp1)) (by omega) (by omega) (rfl) ?_
          refine x_cv2z _ c_Ch_applyOne_134 (by first | rfl | exact k.1 | exact k.2.1 | exact k.2.2.1 | exact k.2.2.2.1 | exact k.2.2.2.2 | exact (pa_c hp1)) (Nat.le_of_ble_eq_true rfl) (y_Pa_remove d hp1 (by omega) (by omega) (by omega) (by omega) (by omega) (by omega) (by omega)) ?_
          rintro _ μ2 ⟨rfl, hp2, f2⟩
          rw [fl_r] at hp2
          rw [fl_r]
          show kc_X _ _ _ _ _ [.int (bI (decide ((rm1 (c.2.1, vf (a + j)) l1).length < l1.length)))] _ _
          rw [decide_eq_true (fl_lt.mpr hin)]
          refine x_if_ne c_Ch_applyOne_137 (fun _ => ?_) (fun h => absurd h (by decide))
          refine x_il c_Ch_applyOne_143 rfl ?_
          refine x_if_ne c_Ch_applyOne_145 (fun _ => ?_) (fun h => absurd h (by decide))
          first | refine x_incN [_, _, _, _, _, _] c_Ch_applyOne_171 rfl rfl ?_ | refine x_inc [_, _, _, _, _, _] c_Ch_applyOne_171 rfl rfl ?_
          refine x_goto c_Ch_applyOne_174 ?_
          refine ih (j + 1) μ2 _ (by omega) (by omega) (by rw [← hR, hdr, apv_s, if_neg hv, if_pos hk1, if_pos hin]) hp2 (gd_f hg) (by have := rm1_le (q := (c.2.1, vf (a + j))) (l := l1); omega) (fun q hq => (f2 q (by omega) (by omega) (by omega)).trans (hf q hq))
        · skip
          refine x_il c_Ch_applyOne_87 rfl ?_
          refine x_al c_Ch_applyOne_89 rfl ?_
          refine x_get c_Ch_applyOne_90 (by first | rfl | exact k.1 | exact k.2.1 | exact k.2.2.1 | exact k.2.2.2.1 | exact k.2.2.2.2 | exact (pa_c hp1)) rfl ?_
          refine x_il c_Ch_applyOne_93 rfl ?_
          refine x_ialdE c_Ch_applyOne_94 (by first | rfl | exact k.1 | exact k.2.1 | exact k.2.2.1 | exact k.2.2.2.1 | exact k.2.2.2.2 | exact (pa_c hp1)) (by omega) (by omega) (hE) ?_
          refine x_cmN_ge c_Ch_applyOne_95 (by omega) (by omega) (fun h => (by exfalso; omega)) (fun _ => ?_)
          refine x_al c_Ch_applyOne_98 rfl ?_
          refine x_get c_Ch_applyOne_99 (by first | rfl | exact k.1 | exact k.2.1 | exact k.2.2.1 | exact k.2.2.2.1 | exact k.2.2.2.2 | exact (pa_c hp1)) rfl ?_
          refine x_il c_Ch_applyOne_102 rfl ?_
          refine x_laldE c_Ch_applyOne_104 (by first | rfl | exact k.1 | exact k.2.1 | exact k.2.2.1 | exact k.2.2.2.1 | exact k.2.2.2.2 | exact (pa_c hp1)) (by omega) (by omega) (rfl) ?_
          refine x_cl c_Ch_applyOne_105 ?_
          refine x_lcmp c_Ch_applyOne_108 ?_
          refine x_ifL_ne c_Ch_applyOne_109 (fun _ => ?_) (fun h => absurd h hv)
          refine x_il c_Ch_applyOne_115 rfl ?_
          refine x_if_eq c_Ch_applyOne_117 (fun h => absurd h (by decide)) (fun _ => ?_)
          refine x_al c_Ch_applyOne_120 rfl ?_
          refine x_al c_Ch_applyOne_121 rfl ?_
          refine x_get c_Ch_applyOne_122 (by first | rfl | exact k.1 | exact k.2.1 | exact k.2.2.1 | exact k.2.2.2.1 | exact k.2.2.2.2 | exact (pa_c hp1)) rfl ?_
          refine x_il c_Ch_applyOne_125 rfl ?_
          refine x_ialdE c_Ch_applyOne_126 (by first | rfl | exact k.1 | exact k.2.1 | exact k.2.2.1 | exact k.2.2.2.1 | exact k.2.2.2.2 | exact (pa_c hp1)) (by omega) (by omega) (hT) ?_
          refine x_al c_Ch_applyOne_127 rfl ?_
          refine x_get c_Ch_applyOne_128 (by first | rfl | exact k.1 | exact k.2.1 | exact k.2.2.1 | exact k.2.2.2.1 | exact k.2.2.2.2 | exact (pa_c hp1)) rfl ?_
          refine x_il c_Ch_applyOne_131 rfl ?_
          refine x_laldE c_Ch_applyOne_133 (by first | rfl | exact k.1 | exact k.2.1 | exact k.2.2.1 | exact k.2.2.2.1 | exact k.2.2.2.2 | exact (pa_c hp1)) (by omega) (by omega) (rfl) ?_
          refine x_cv2z _ c_Ch_applyOne_134 (by first | rfl | exact k.1 | exact k.2.1 | exact k.2.2.1 | exact k.2.2.2.1 | exact k.2.2.2.2 | exact (pa_c hp1)) (Nat.le_of_ble_eq_true rfl) (y_Pa_remove d hp1 (by omega) (by omega) (by omega) (by omega) (by omega) (by omega) (by omega)) ?_
          rintro _ μ2 ⟨rfl, hp2, f2⟩
          rw [fl_r] at hp2
          rw [fl_r]
          show kc_X _ _ _ _ _ [.int (bI (decide ((rm1 (c.2.1, vf (a + j)) l1).length < l1.length)))] _ _
          rw [decide_eq_false (fun q => hin (fl_lt.mp q))]
          refine x_if_ne c_Ch_applyOne_137 (fun h => absurd (rfl) h) (fun _ => ?_)
          refine x_ci c_Ch_applyOne_140 ?_
          refine x_ri c_Ch_applyOne_142 ?_
          exact ⟨by rw [← hR, hdr, apv_s, if_neg hv, if_pos hk1, if_neg hin], by rw [← hR, hdr, apv_s, if_neg hv, if_pos hk1, if_neg hin]; rw [fl_0 hin] at hp2; exact hp2, fun q hq => (f2 q (by omega) (by omega) (by omega)).trans (hf q hq)⟩
  have loop0 : ¬ c.1 = 1 → ∀ m j (μ1 : kc_M) (l1 : List tv), c.2.2.length - j = m → j ≤ c.2.2.length → apv c.1 c.2.1 (c.2.2.drop j) l1 = ap1 c l → pa_at μ1 133 134 135 30 l1 → gd l1 → l1.length + m ≤ 30 → (∀ q, q < 133 ∨ 135 < q → μ1.1 q = μ.1 q) → kc_X (kC j_Ch_applyOne) (kc_Y kt kC (d + 2)) (fun w μ' => w = some (.int (nI (ap1 c l).1)) ∧ pa_at μ' 133 134 135 30 (ap1 c l).2 ∧ ∀ q, q < 133 ∨ 135 < q → μ'.1 q = μ.1 q) 87 [some (.ref 122), some (.int (nI i)), some (.int (nI a)), some (.ref 133), some (.int (nI 0)), some (.int (nI (a + j)))] [] μ1 (0, 0) := by
    intro hk1 m
    induction m with
    | zero =>
      intro j μ1 l1 hm hj hR hp1 hg hl hf
      have k := chA_k hA (μ' := μ1) (fun q h1 h2 => hf q (by omega))
      rw [List.drop_eq_nil_of_le (by omega)] at hR
      refine x_il c_Ch_applyOne_87 rfl ?_
      refine x_al c_Ch_applyOne_89 rfl ?_
      refine x_get c_Ch_applyOne_90 (by first | rfl | exact k.1 | exact k.2.1 | exact k.2.2.1 | exact k.2.2.2.1 | exact k.2.2.2.2 | exact (pa_c hp1)) rfl ?_
      refine x_il c_Ch_applyOne_93 rfl ?_
      refine x_ialdE c_Ch_applyOne_94 (by first | rfl | exact k.1 | exact k.2.1 | exact k.2.2.1 | exact k.2.2.2.1 | exact k.2.2.2.2 | exact (pa_c hp1)) (by omega) (by omega) (hE) ?_
      refine x_cmN_ge c_Ch_applyOne_95 (by omega) (by omega) (fun _ => ?_) (fun h => (by exfalso; omega))
      refine x_ci c_Ch_applyOne_177 ?_
      refine x_ri c_Ch_applyOne_178 ?_
      exact ⟨by rw [← hR]; rfl, by rw [← hR]; exact hp1, hf⟩
    | succ m ih =>
      intro j μ1 l1 hm hj hR hp1 hg hl hf
      have k := chA_k hA (μ' := μ1) (fun q h1 h2 => hf q (by omega))
      have hj := hV j (by omega)
      have hdr : c.2.2.drop j = vf (a + j) :: c.2.2.drop (j + 1) := by
        obtain ⟨h1, h2⟩ := List.getElem?_eq_some_iff.mp hj
        rw [← h2]
        exact List.drop_eq_getElem_cons h1
      by_cases hv : vf (a + j) = -1
      · skip
        refine x_il c_Ch_applyOne_87 rfl ?_
        refine x_al c_Ch_applyOne_89 rfl ?_
        refine x_get c_Ch_applyOne_90 (by first | rfl | exact k.1 | exact k.2.1 | exact k.2.2.1 | exact k.2.2.2.1 | exact k.2.2.2.2 | exact (pa_c hp1)) rfl ?_
        refine x_il c_Ch_applyOne_93 rfl ?_
        refine x_ialdE c_Ch_applyOne_94 (by first | rfl | exact k.1 | exact k.2.1 | exact k.2.2.1 | exact k.2.2.2.1 | exact k.2.2.2.2 | exact (pa_c hp1)) (by omega) (by omega) (hE) ?_
        refine x_cmN_ge c_Ch_applyOne_95 (by omega) (by omega) (fun h => (by exfalso; omega)) (fun _ => ?_)
        refine x_al c_Ch_applyOne_98 rfl ?_
        refine x_get c_Ch_applyOne_99 (by first | rfl | exact k.1 | exact k.2.1 | exact k.2.2.1 | exact k.2.2.2.1 | exact k.2.2.2.2 | exact (pa_c hp1)) rfl ?_
        refine x_il c_Ch_applyOne_102 rfl ?_
        refine x_laldE c_Ch_applyOne_104 (by first | rfl | exact k.1 | exact k.2.1 | exact k.2.2.1 | exact k.2.2.2.1 | exact k.2.2.2.2 | exact (pa_c hp1)) (by omega) (by omega) (rfl) ?_
        refine x_cl c_Ch_applyOne_105 ?_
        refine x_lcmp c_Ch_applyOne_108 ?_
        refine x_ifL_ne c_Ch_applyOne_109 (fun h => absurd hv h) (fun _ => ?_)
        refine x_ci c_Ch_applyOne_112 ?_
        refine x_ri c_Ch_applyOne_114 ?_
        exact ⟨by rw [← hR, hdr, apv_s, if_pos hv], by rw [← hR, hdr, apv_s, if_pos hv]; exact hp1, hf⟩
      · by_cases hin : (c.2.1, vf (a + j)) ∈ l1
        · skip
          refine x_il c_Ch_applyOne_87 rfl ?_
          refine x_al c_Ch_applyOne_89 rfl ?_
          refine x_get c_Ch_applyOne_90 (by first | rfl | exact k.1 | exact k.2.1 | exact k.2.2.1 | exact k.2.2.2.1 | exact k.2.2.2.2 | exact (pa_c hp1)) rfl ?_
          refine x_il c_Ch_applyOne_93 rfl ?_
          refine x_ialdE c_Ch_applyOne_94 (by first | rfl | exact k.1 | exact k.2.1 | exact k.2.2.1 | exact k.2.2.2.1 | exact k.2.2.2.2 | exact (pa_c hp1)) (by omega) (by omega) (hE) ?_
          refine x_cmN_ge c_Ch_applyOne_95 (by omega) (by omega) (fun h => (by exfalso; omega)) (fun _ => ?_)
          refine x_al c_Ch_applyOne_98 rfl ?_
          refine x_get c_Ch_applyOne_99 (by first | rfl | exact k.1 | exact k.2.1 | exact k.2.2.1 | exact k.2.2.2.1 | exact k.2.2.2.2 | exact (pa_c hp1)) rfl ?_
          refine x_il c_Ch_applyOne_102 rfl ?_
          refine x_laldE c_Ch_applyOne_104 (by first | rfl | exact k.1 | exact k.2.1 | exact k.2.2.1 | exact k.2.2.2.1 | exact k.2.2.2.2 | exact (pa_c hp1)) (by omega) (by omega) (rfl) ?_
          refine x_cl c_Ch_applyOne_105 ?_
          refine x_lcmp c_Ch_applyOne_108 ?_
          refine x_ifL_ne c_Ch_applyOne_109 (fun _ => ?_) (fun h => absurd h hv)
          refine x_il c_Ch_applyOne_115 rfl ?_
          refine x_if_eq c_Ch_applyOne_117 (fun _ => ?_) (fun h => absurd (rfl) h)
          refine x_il c_Ch_applyOne_143 rfl ?_
          refine x_if_ne c_Ch_applyOne_145 (fun h => absurd (rfl) h) (fun _ => ?_)
          refine x_al c_Ch_applyOne_148 rfl ?_
          refine x_al c_Ch_applyOne_149 rfl ?_
          refine x_get c_Ch_applyOne_150 (by first | rfl | exact k.1 | exact k.2.1 | exact k.2.2.1 | exact k.2.2.2.1 | exact k.2.2.2.2 | exact (pa_c hp1)) rfl ?_
          refine x_il c_Ch_applyOne_153 rfl ?_
          refine x_ialdE c_Ch_applyOne_154 (by first | rfl | exact k.1 | exact k.2.1 | exact k.2.2.1 | exact k.2.2.2.1 | exact k.2.2.2.2 | exact (pa_c hp1)) (by omega) (by omega) (hT) ?_
          refine x_al c_Ch_applyOne_155 rfl ?_
          refine x_get c_Ch_applyOne_156 (by first | rfl | exact k.1 | exact k.2.1 | exact k.2.2.1 | exact k.2.2.2.1 | exact k.2.2.2.2 | exact (pa_c hp1)) rfl ?_
          refine x_il c_Ch_applyOne_159 rfl ?_
          refine x_laldE c_Ch_applyOne_161 (by first | rfl | exact k.1 | exact k.2.1 | exact k.2.2.1 | exact k.2.2.2.1 | exact k.2.2.2.2 | exact (pa_c hp1)) (by omega) (by omega) (rfl) ?_
          refine x_cv2z _ c_Ch_applyOne_162 (by first | rfl | exact k.1 | exact k.2.1 | exact k.2.2.1 | exact k.2.2.2.1 | exact k.2.2.2.2 | exact (pa_c hp1)) (Nat.le_of_ble_eq_true rfl) (y_Pa_append0 d hp1 (by omega) (by omega) hin) ?_
          rintro _ μx ⟨rfl, hμx⟩
          have hμx := hμx.symm
          subst hμx
          show kc_X _ _ _ _ _ [.int (bI false)] _ _
          refine x_if_ne c_Ch_applyOne_165 (fun h => absurd (rfl) h) (fun _ => ?_)
          refine x_ci c_Ch_applyOne_168 ?_
          refine x_ri c_Ch_applyOne_170 ?_
          exact ⟨by rw [← hR, hdr, apv_s, if_neg hv, if_neg hk1, if_pos hin], by rw [← hR, hdr, apv_s, if_neg hv, if_neg hk1, if_pos hin]; exact hp1, hf⟩
        · skip
          refine x_il c_Ch_applyOne_87 rfl ?_
          refine x_al c_Ch_applyOne_89 rfl ?_
          refine x_get c_Ch_applyOne_90 (by first | rfl | exact k.1 | exact k.2.1 | exact k.2.2.1 | exact k.2.2.2.1 | exact k.2.2.2.2 | exact (pa_c hp1)) rfl ?_
          refine x_il c_Ch_applyOne_93 rfl ?_
          refine x_ialdE c_Ch_applyOne_94 (by first | rfl | exact k.1 | exact k.2.1 | exact k.2.2.1 | exact k.2.2.2.1 | exact k.2.2.2.2 | exact (pa_c hp1)) (by omega) (by omega) (hE) ?_
          refine x_cmN_ge c_Ch_applyOne_95 (by omega) (by omega) (fun h => (by exfalso; omega)) (fun _ => ?_)
          refine x_al c_Ch_applyOne_98 rfl ?_
          refine x_get c_Ch_applyOne_99 (by first | rfl | exact k.1 | exact k.2.1 | exact k.2.2.1 | exact k.2.2.2.1 | exact k.2.2.2.2 | exact (pa_c hp1)) rfl ?_
          refine x_il c_Ch_applyOne_102 rfl ?_
          refine x_laldE c_Ch_applyOne_104 (by first | rfl | exact k.1 | exact k.2.1 | exact k.2.2.1 | exact k.2.2.2.1 | exact k.2.2.2.2 | exact (pa_c hp1)) (by omega) (by omega) (rfl) ?_
          refine x_cl c_Ch_applyOne_105 ?_
          refine x_lcmp c_Ch_applyOne_108 ?_
          refine x_ifL_ne c_Ch_applyOne_109 (fun _ => ?_) (fun h => absurd h hv)
          refine x_il c_Ch_applyOne_115 rfl ?_
          refine x_if_eq c_Ch_applyOne_117 (fun _ => ?_) (fun h => absurd (rfl) h)
          refine x_il c_Ch_applyOne_143 rfl ?_
          refine x_if_ne c_Ch_applyOne_145 (fun h => absurd (rfl) h) (fun _ => ?_)
          refine x_al c_Ch_applyOne_148 rfl ?_
          refine x_al c_Ch_applyOne_149 rfl ?_
          refine x_get c_Ch_applyOne_150 (by first | rfl | exact k.1 | exact k.2.1 | exact k.2.2.1 | exact k.2.2.2.1 | exact k.2.2.2.2 | exact (pa_c hp1)) rfl ?_
          refine x_il c_Ch_applyOne_153 rfl ?_
          refine x_ialdE c_Ch_applyOne_154 (by first | rfl | exact k.1 | exact k.2.1 | exact k.2.2.1 | exact k.2.2.2.1 | exact k.2.2.2.2 | exact (pa_c hp1)) (by omega) (by omega) (hT) ?_
          refine x_al c_Ch_applyOne_155 rfl ?_
          refine x_get c_Ch_applyOne_156 (by first | rfl | exact k.1 | exact k.2.1 | exact k.2.2.1 | exact k.2.2.2.1 | exact k.2.2.2.2 | exact (pa_c hp1)) rfl ?_
          refine x_il c_Ch_applyOne_159 rfl ?_
          refine x_laldE c_Ch_applyOne_161 (by first | rfl | exact k.1 | exact k.2.1 | exact k.2.2.1 | exact k.2.2.2.1 | exact k.2.2.2.2 | exact (pa_c hp1)) (by omega) (by omega) (rfl) ?_
          refine x_cv2z _ c_Ch_applyOne_162 (by first | rfl | exact k.1 | exact k.2.1 | exact k.2.2.1 | exact k.2.2.2.1 | exact k.2.2.2.2 | exact (pa_c hp1)) (Nat.le_of_ble_eq_true rfl) (y_Pa_append d hp1 (by omega) (by omega) (by omega) (by omega) (by omega) (by omega) hin) ?_
          rintro _ μ2 ⟨rfl, hp2, _, f2⟩
          show kc_X _ _ _ _ _ [.int (nI 1)] _ _
          refine x_if_ne c_Ch_applyOne_165 (fun _ => ?_) (fun h => absurd h (by decide))
          first | refine x_incN [_, _, _, _, _, _] c_Ch_applyOne_171 rfl rfl ?_ | refine x_inc [_, _, _, _, _, _] c_Ch_applyOne_171 rfl rfl ?_
          refine x_goto c_Ch_applyOne_174 ?_
          refine ih (j + 1) μ2 _ (by omega) (by omega) (by rw [← hR, hdr, apv_s, if_neg hv, if_neg hk1, if_neg hin]) hp2 (gd_a hg ((hvs _ (List.mem_of_getElem? hj)).resolve_left hv) hin) (by rw [List.length_append]; show l1.length + 1 + _ ≤ 30; omega) (fun q hq => (f2 q (by omega) (by omega) (by omega)).trans (hf q hq))
  have k := hA
  have hp1 := hp
  by_cases hTn : c.2.1 = -1
  · skip
    refine x_al c_Ch_applyOne_0 rfl ?_
    refine x_get c_Ch_applyOne_1 (by first | rfl | exact k.1 | exact k.2.1 | exact k.2.2.1 | exact k.2.2.2.1 | exact k.2.2.2.2 | exact (pa_c hp1)) rfl ?_
    refine x_il c_Ch_applyOne_4 rfl ?_
    refine x_ialdE c_Ch_applyOne_5 (by first | rfl | exact k.1 | exact k.2.1 | exact k.2.2.1 | exact k.2.2.2.1 | exact k.2.2.2.2 | exact (pa_c hp1)) (by omega) (by omega) (hT) ?_
    refine x_ci c_Ch_applyOne_6 ?_
    refine x_cm_ne c_Ch_applyOne_7 (fun h => absurd (hTn) h) (fun _ => ?_)
    refine x_ci c_Ch_applyOne_10 ?_
    refine x_ri c_Ch_applyOne_12 ?_
    exact ⟨by unfold ap1; rw [if_pos hTn], by unfold ap1; rw [if_pos hTn]; exact hp1, fun _ _ => rfl⟩
  · by_cases hk1 : c.1 = 1
    · by_cases hv0 : c.2.2.length = 0
      · have hor : c.1 = 2 ∨ (c.1 = 1 ∧ c.2.2.length = 0) := Or.inr ⟨hk1, hv0⟩
        refine x_al c_Ch_applyOne_0 rfl ?_
        refine x_get c_Ch_applyOne_1 (by first | rfl | exact k.1 | exact k.2.1 | exact k.2.2.1 | exact k.2.2.2.1 | exact k.2.2.2.2 | exact (pa_c hp1)) rfl ?_
        refine x_il c_Ch_applyOne_4 rfl ?_
        refine x_ialdE c_Ch_applyOne_5 (by first | rfl | exact k.1 | exact k.2.1 | exact k.2.2.1 | exact k.2.2.2.1 | exact k.2.2.2.2 | exact (pa_c hp1)) (by omega) (by omega) (hT) ?_
        refine x_ci c_Ch_applyOne_6 ?_
        refine x_cm_ne c_Ch_applyOne_7 (fun _ => ?_) (fun h => absurd h (hTn))
        refine x_al c_Ch_applyOne_13 rfl ?_
        refine x_get c_Ch_applyOne_14 (by first | rfl | exact k.1 | exact k.2.1 | exact k.2.2.1 | exact k.2.2.2.1 | exact k.2.2.2.2 | exact (pa_c hp1)) rfl ?_
        refine x_il c_Ch_applyOne_17 rfl ?_
        refine x_ialdE c_Ch_applyOne_18 (by first | rfl | exact k.1 | exact k.2.1 | exact k.2.2.1 | exact k.2.2.2.1 | exact k.2.2.2.2 | exact (pa_c hp1)) (by omega) (by omega) (hK) ?_
        refine x_ci c_Ch_applyOne_19 ?_
        refine x_cmN_ne c_Ch_applyOne_20 (by omega) (by omega) (fun h => (by exfalso; omega)) (fun _ => ?_)
        refine x_ci c_Ch_applyOne_23 ?_
        refine x_goto c_Ch_applyOne_24 ?_
        refine x_is [_, _, _, _, _, _] c_Ch_applyOne_28 rfl ?_
        refine x_al c_Ch_applyOne_30 rfl ?_
        refine x_get c_Ch_applyOne_31 (by first | rfl | exact k.1 | exact k.2.1 | exact k.2.2.1 | exact k.2.2.2.1 | exact k.2.2.2.2 | exact (pa_c hp1)) rfl ?_
        refine x_il c_Ch_applyOne_34 rfl ?_
        refine x_ialdE c_Ch_applyOne_35 (by first | rfl | exact k.1 | exact k.2.1 | exact k.2.2.1 | exact k.2.2.2.1 | exact k.2.2.2.2 | exact (pa_c hp1)) (by omega) (by omega) (hK) ?_
        refine x_ci c_Ch_applyOne_36 ?_
        refine x_cmN_eq c_Ch_applyOne_37 (by omega) (by omega) (fun h => (by exfalso; omega)) (fun _ => ?_)
        refine x_il c_Ch_applyOne_40 rfl ?_
        refine x_if_eq c_Ch_applyOne_42 (fun h => absurd h (by decide)) (fun _ => ?_)
        refine x_il c_Ch_applyOne_45 rfl ?_
        refine x_al c_Ch_applyOne_46 rfl ?_
        refine x_get c_Ch_applyOne_47 (by first | rfl | exact k.1 | exact k.2.1 | exact k.2.2.1 | exact k.2.2.2.1 | exact k.2.2.2.2 | exact (pa_c hp1)) rfl ?_
        refine x_il c_Ch_applyOne_50 rfl ?_
        refine x_ialdE c_Ch_applyOne_51 (by first | rfl | exact k.1 | exact k.2.1 | exact k.2.2.1 | exact k.2.2.2.1 | exact k.2.2.2.2 | exact (pa_c hp1)) (by omega) (by omega) (hE) ?_
        refine x_cmN_ne c_Ch_applyOne_52 (by omega) (by omega) (fun h => (by exfalso; omega)) (fun _ => ?_)
        refine x_al c_Ch_applyOne_55 rfl ?_
        refine x_al c_Ch_applyOne_56 rfl ?_
        refine x_get c_Ch_applyOne_57 (by first | rfl | exact k.1 | exact k.2.1 | exact k.2.2.1 | exact k.2.2.2.1 | exact k.2.2.2.2 | exact (pa_c hp1)) rfl ?_
        refine x_il c_Ch_applyOne_60 rfl ?_
        refine x_ialdE c_Ch_applyOne_61 (by first | rfl | exact k.1 | exact k.2.1 | exact k.2.2.1 | exact k.2.2.2.1 | exact k.2.2.2.2 | exact (pa_c hp1)) (by omega) (by omega) (hT) ?_
        refine x_cl c_Ch_applyOne_62 ?_
        refine x_cl c_Ch_applyOne_63 ?_
        refine x_cv3z _ c_Ch_applyOne_66 (by first | rfl | exact k.1 | exact k.2.1 | exact k.2.2.1 | exact k.2.2.2.1 | exact k.2.2.2.2 | exact (pa_c hp1)) (Nat.le_of_ble_eq_true rfl) (y_Pa_removeBetween (d + 1) hp1 (by omega) (by omega) (by omega) (by omega) (by omega) (by omega) (by omega)) ?_
        rintro _ μ2 ⟨rfl, hp2, f2⟩
        rw [show l.filter (kp c.2.1 _ _) = fT c.2.1 l from fT_kp hg] at hp2
        have hfl : (fT c.2.1 l).length ≤ l.length := List.length_filter_le _ _
        have f2' : ∀ q, q < 133 ∨ 135 < q → μ2.1 q = μ.1 q := fun q hq => f2 q (by omega) (by omega) (by omega)
        rw [show l.filter (kp c.2.1 _ _) = fT c.2.1 l from fT_kp hg]
        show kc_X _ _ _ _ _ [.int (bI (decide ((fT c.2.1 l).length < l.length)))] _ _
        refine x_is [_, _, _, _, _, _] c_Ch_applyOne_69 rfl ?_
        refine x_il c_Ch_applyOne_71 rfl ?_
        refine x_if_eq c_Ch_applyOne_73 (fun h => absurd h (by decide)) (fun _ => ?_)
        refine x_il c_Ch_applyOne_76 rfl ?_
        refine x_ifB_ne c_Ch_applyOne_78 (fun h78 => ?_) (fun h78 => ?_)
        · refine x_il c_Ch_applyOne_84 rfl ?_
          refine x_is [_, _, _, _, _, _] c_Ch_applyOne_85 rfl ?_
          exact loop1 hk1 _ 0 μ2 _ rfl (by omega) (by unfold ap1; rw [if_neg hTn, if_pos hor, if_neg (fun q => q.2 (of_decide_eq_true h78))]; rfl) hp2 (gd_f hg) (by omega) f2'
        · refine x_ci c_Ch_applyOne_81 ?_
          refine x_ri c_Ch_applyOne_83 ?_
          exact ⟨by unfold ap1; rw [if_neg hTn, if_pos hor, if_pos ⟨hk1, of_decide_eq_false h78⟩], by unfold ap1; rw [if_neg hTn, if_pos hor, if_pos ⟨hk1, of_decide_eq_false h78⟩]; exact hp2, f2'⟩
      · skip
        refine x_al c_Ch_applyOne_0 rfl ?_
        refine x_get c_Ch_applyOne_1 (by first | rfl | exact k.1 | exact k.2.1 | exact k.2.2.1 | exact k.2.2.2.1 | exact k.2.2.2.2 | exact (pa_c hp1)) rfl ?_
        refine x_il c_Ch_applyOne_4 rfl ?_
        refine x_ialdE c_Ch_applyOne_5 (by first | rfl | exact k.1 | exact k.2.1 | exact k.2.2.1 | exact k.2.2.2.1 | exact k.2.2.2.2 | exact (pa_c hp1)) (by omega) (by omega) (hT) ?_
        refine x_ci c_Ch_applyOne_6 ?_
        refine x_cm_ne c_Ch_applyOne_7 (fun _ => ?_) (fun h => absurd h (hTn))
        refine x_al c_Ch_applyOne_13 rfl ?_
        refine x_get c_Ch_applyOne_14 (by first | rfl | exact k.1 | exact k.2.1 | exact k.2.2.1 | exact k.2.2.2.1 | exact k.2.2.2.2 | exact (pa_c hp1)) rfl ?_
        refine x_il c_Ch_applyOne_17 rfl ?_
        refine x_ialdE c_Ch_applyOne_18 (by first | rfl | exact k.1 | exact k.2.1 | exact k.2.2.1 | exact k.2.2.2.1 | exact k.2.2.2.2 | exact (pa_c hp1)) (by omega) (by omega) (hK) ?_
        refine x_ci c_Ch_applyOne_19 ?_
        refine x_cmN_ne c_Ch_applyOne_20 (by omega) (by omega) (fun h => (by exfalso; omega)) (fun _ => ?_)
        refine x_ci c_Ch_applyOne_23 ?_
        refine x_goto c_Ch_applyOne_24 ?_
        refine x_is [_, _, _, _, _, _] c_Ch_applyOne_28 rfl ?_
        refine x_al c_Ch_applyOne_30 rfl ?_
        refine x_get c_Ch_applyOne_31 (by first | rfl | exact k.1 | exact k.2.1 | exact k.2.2.1 | exact k.2.2.2.1 | exact k.2.2.2.2 | exact (pa_c hp1)) rfl ?_
        refine x_il c_Ch_applyOne_34 rfl ?_
        refine x_ialdE c_Ch_applyOne_35 (by first | rfl | exact k.1 | exact k.2.1 | exact k.2.2.1 | exact k.2.2.2.1 | exact k.2.2.2.2 | exact (pa_c hp1)) (by omega) (by omega) (hK) ?_
        refine x_ci c_Ch_applyOne_36 ?_
        refine x_cmN_eq c_Ch_applyOne_37 (by omega) (by omega) (fun h => (by exfalso; omega)) (fun _ => ?_)
        refine x_il c_Ch_applyOne_40 rfl ?_
        refine x_if_eq c_Ch_applyOne_42 (fun h => absurd h (by decide)) (fun _ => ?_)
        refine x_il c_Ch_applyOne_45 rfl ?_
        refine x_al c_Ch_applyOne_46 rfl ?_
        refine x_get c_Ch_applyOne_47 (by first | rfl | exact k.1 | exact k.2.1 | exact k.2.2.1 | exact k.2.2.2.1 | exact k.2.2.2.2 | exact (pa_c hp1)) rfl ?_
        refine x_il c_Ch_applyOne_50 rfl ?_
        refine x_ialdE c_Ch_applyOne_51 (by first | rfl | exact k.1 | exact k.2.1 | exact k.2.2.1 | exact k.2.2.2.1 | exact k.2.2.2.2 | exact (pa_c hp1)) (by omega) (by omega) (hE) ?_
        refine x_cmN_ne c_Ch_applyOne_52 (by omega) (by omega) (fun _ => ?_) (fun h => (by exfalso; omega))
        refine x_il c_Ch_applyOne_84 rfl ?_
        refine x_is [_, _, _, _, _, _] c_Ch_applyOne_85 rfl ?_
        exact loop1 hk1 _ 0 μ _ rfl (by omega) (by unfold ap1; rw [if_neg hTn, if_neg (by omega)]; rfl) hp1 hg (by omega) (fun _ _ => rfl)
    · by_cases hk2' : c.1 = 2
      · have hor : c.1 = 2 ∨ (c.1 = 1 ∧ c.2.2.length = 0) := Or.inl hk2'
        refine x_al c_Ch_applyOne_0 rfl ?_
        refine x_get c_Ch_applyOne_1 (by first | rfl | exact k.1 | exact k.2.1 | exact k.2.2.1 | exact k.2.2.2.1 | exact k.2.2.2.2 | exact (pa_c hp1)) rfl ?_
        refine x_il c_Ch_applyOne_4 rfl ?_
        refine x_ialdE c_Ch_applyOne_5 (by first | rfl | exact k.1 | exact k.2.1 | exact k.2.2.1 | exact k.2.2.2.1 | exact k.2.2.2.2 | exact (pa_c hp1)) (by omega) (by omega) (hT) ?_
        refine x_ci c_Ch_applyOne_6 ?_
        refine x_cm_ne c_Ch_applyOne_7 (fun _ => ?_) (fun h => absurd h (hTn))
        refine x_al c_Ch_applyOne_13 rfl ?_
        refine x_get c_Ch_applyOne_14 (by first | rfl | exact k.1 | exact k.2.1 | exact k.2.2.1 | exact k.2.2.2.1 | exact k.2.2.2.2 | exact (pa_c hp1)) rfl ?_
        refine x_il c_Ch_applyOne_17 rfl ?_
        refine x_ialdE c_Ch_applyOne_18 (by first | rfl | exact k.1 | exact k.2.1 | exact k.2.2.1 | exact k.2.2.2.1 | exact k.2.2.2.2 | exact (pa_c hp1)) (by omega) (by omega) (hK) ?_
        refine x_ci c_Ch_applyOne_19 ?_
        refine x_cmN_ne c_Ch_applyOne_20 (by omega) (by omega) (fun _ => ?_) (fun h => (by exfalso; omega))
        refine x_ci c_Ch_applyOne_27 ?_
        refine x_is [_, _, _, _, _, _] c_Ch_applyOne_28 rfl ?_
        refine x_al c_Ch_applyOne_30 rfl ?_
        refine x_get c_Ch_applyOne_31 (by first | rfl | exact k.1 | exact k.2.1 | exact k.2.2.1 | exact k.2.2.2.1 | exact k.2.2.2.2 | exact (pa_c hp1)) rfl ?_
        refine x_il c_Ch_applyOne_34 rfl ?_
        refine x_ialdE c_Ch_applyOne_35 (by first | rfl | exact k.1 | exact k.2.1 | exact k.2.2.1 | exact k.2.2.2.1 | exact k.2.2.2.2 | exact (pa_c hp1)) (by omega) (by omega) (hK) ?_
        refine x_ci c_Ch_applyOne_36 ?_
        refine x_cmN_eq c_Ch_applyOne_37 (by omega) (by omega) (fun _ => ?_) (fun h => (by exfalso; omega))
        refine x_al c_Ch_applyOne_55 rfl ?_
        refine x_al c_Ch_applyOne_56 rfl ?_
        refine x_get c_Ch_applyOne_57 (by first | rfl | exact k.1 | exact k.2.1 | exact k.2.2.1 | exact k.2.2.2.1 | exact k.2.2.2.2 | exact (pa_c hp1)) rfl ?_
        refine x_il c_Ch_applyOne_60 rfl ?_
        refine x_ialdE c_Ch_applyOne_61 (by first | rfl | exact k.1 | exact k.2.1 | exact k.2.2.1 | exact k.2.2.2.1 | exact k.2.2.2.2 | exact (pa_c hp1)) (by omega) (by omega) (hT) ?_
        refine x_cl c_Ch_applyOne_62 ?_
        refine x_cl c_Ch_applyOne_63 ?_
        refine x_cv3z _ c_Ch_applyOne_66 (by first | rfl | exact k.1 | exact k.2.1 | exact k.2.2.1 | exact k.2.2.2.1 | exact k.2.2.2.2 | exact (pa_c hp1)) (Nat.le_of_ble_eq_true rfl) (y_Pa_removeBetween (d + 1) hp1 (by omega) (by omega) (by omega) (by omega) (by omega) (by omega) (by omega)) ?_
        rintro _ μ2 ⟨rfl, hp2, f2⟩
        rw [show l.filter (kp c.2.1 _ _) = fT c.2.1 l from fT_kp hg] at hp2
        have hfl : (fT c.2.1 l).length ≤ l.length := List.length_filter_le _ _
        have f2' : ∀ q, q < 133 ∨ 135 < q → μ2.1 q = μ.1 q := fun q hq => f2 q (by omega) (by omega) (by omega)
        rw [show l.filter (kp c.2.1 _ _) = fT c.2.1 l from fT_kp hg]
        show kc_X _ _ _ _ _ [.int (bI (decide ((fT c.2.1 l).length < l.length)))] _ _
        refine x_is [_, _, _, _, _, _] c_Ch_applyOne_69 rfl ?_
        refine x_il c_Ch_applyOne_71 rfl ?_
        refine x_if_eq c_Ch_applyOne_73 (fun _ => ?_) (fun h => absurd (rfl) h)
        refine x_il c_Ch_applyOne_84 rfl ?_
        refine x_is [_, _, _, _, _, _] c_Ch_applyOne_85 rfl ?_
        exact loop0 hk1 _ 0 μ2 _ rfl (by omega) (by unfold ap1; rw [if_neg hTn, if_pos hor, if_neg (fun q => hk1 q.1)]; rfl) hp2 (gd_f hg) (by omega) f2'
      · skip
        refine x_al c_Ch_applyOne_0 rfl ?_
        refine x_get c_Ch_applyOne_1 (by first | rfl | exact k.1 | exact k.2.1 | exact k.2.2.1 | exact k.2.2.2.1 | exact k.2.2.2.2 | exact (pa_c hp1)) rfl ?_
        refine x_il c_Ch_applyOne_4 rfl ?_
        refine x_ialdE c_Ch_applyOne_5 (by first | rfl | exact k.1 | exact k.2.1 | exact k.2.2.1 | exact k.2.2.2.1 | exact k.2.2.2.2 | exact (pa_c hp1)) (by omega) (by omega) (hT) ?_
        refine x_ci c_Ch_applyOne_6 ?_
        refine x_cm_ne c_Ch_applyOne_7 (fun _ => ?_) (fun h => absurd h (hTn))
        refine x_al c_Ch_applyOne_13 rfl ?_
        refine x_get c_Ch_applyOne_14 (by first | rfl | exact k.1 | exact k.2.1 | exact k.2.2.1 | exact k.2.2.2.1 | exact k.2.2.2.2 | exact (pa_c hp1)) rfl ?_
        refine x_il c_Ch_applyOne_17 rfl ?_
        refine x_ialdE c_Ch_applyOne_18 (by first | rfl | exact k.1 | exact k.2.1 | exact k.2.2.1 | exact k.2.2.2.1 | exact k.2.2.2.2 | exact (pa_c hp1)) (by omega) (by omega) (hK) ?_
        refine x_ci c_Ch_applyOne_19 ?_
        refine x_cmN_ne c_Ch_applyOne_20 (by omega) (by omega) (fun _ => ?_) (fun h => (by exfalso; omega))
        refine x_ci c_Ch_applyOne_27 ?_
        refine x_is [_, _, _, _, _, _] c_Ch_applyOne_28 rfl ?_
        refine x_al c_Ch_applyOne_30 rfl ?_
        refine x_get c_Ch_applyOne_31 (by first | rfl | exact k.1 | exact k.2.1 | exact k.2.2.1 | exact k.2.2.2.1 | exact k.2.2.2.2 | exact (pa_c hp1)) rfl ?_
        refine x_il c_Ch_applyOne_34 rfl ?_
        refine x_ialdE c_Ch_applyOne_35 (by first | rfl | exact k.1 | exact k.2.1 | exact k.2.2.1 | exact k.2.2.2.1 | exact k.2.2.2.2 | exact (pa_c hp1)) (by omega) (by omega) (hK) ?_
        refine x_ci c_Ch_applyOne_36 ?_
        refine x_cmN_eq c_Ch_applyOne_37 (by omega) (by omega) (fun h => (by exfalso; omega)) (fun _ => ?_)
        refine x_il c_Ch_applyOne_40 rfl ?_
        refine x_if_eq c_Ch_applyOne_42 (fun _ => ?_) (fun h => absurd (rfl) h)
        refine x_il c_Ch_applyOne_84 rfl ?_
        refine x_is [_, _, _, _, _, _] c_Ch_applyOne_85 rfl ?_
        exact loop0 hk1 _ 0 μ _ rfl (by omega) (by unfold ap1; rw [if_neg hTn, if_neg (by omega)]; rfl) hp1 hg (by omega) (fun _ _ => rfl)
