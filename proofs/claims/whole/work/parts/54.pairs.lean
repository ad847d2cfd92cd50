/-! lists of pairs; Pairs.find, Pairs.append, Name.append -/
abbrev tv : Type := Int32 × Int64
/-- rows f, g hold the list l -/
def ho (l : List tv) (f : Nat → Int32) (g : Nat → Int64) : Prop := ∀ k, k < l.length → l[k]? = some (f k, g k)
def fi (p : tv) : List tv → Nat → Int32
  | [], _ => -1
  | q :: t, k => if q = p then nI k else fi p t (k + 1)
theorem fi_cons (p q : tv) (t : List tv) (k : Nat) : fi p (q :: t) k = if q = p then nI k else fi p t (k + 1) := rfl
theorem ho_drop {l : List tv} {f : Nat → Int32} {g : Nat → Int64} (h : ho l f g) {k : Nat} (hk : k < l.length) : l.drop k = (f k, g k) :: l.drop (k + 1) := by
  have h1 := List.drop_eq_getElem_cons hk
  have h2 := h k hk
  rw [List.getElem?_eq_getElem hk] at h2
  rw [h1, Option.some.inj h2]
theorem ho_app {l : List tv} {f : Nat → Int32} {g : Nat → Int64} (h : ho l f g) (ty : Int32) (x : Int64) : ho (l ++ [(ty, x)]) (upd f l.length ty) (vp_updL g l.length x) := by
  intro k hk
  rw [List.length_append] at hk
  by_cases h1 : k < l.length
  · rw [List.getElem?_append_left h1, h k h1, pk_un (by omega), pk_uLn (by omega)]
  · have h2 : k = l.length := by simp at hk; omega
    subst h2
    rw [List.getElem?_append_right (Nat.le_refl _), Nat.sub_self, pk_us, pk_uLs]
    rfl
theorem fi_ge (p : tv) : ∀ (l : List tv) (k : Nat), fi p l k = -1 ∨ ∃ j, j < l.length ∧ fi p l k = nI (k + j)
  | [], _ => Or.inl rfl
  | q :: t, k => by
    unfold fi
    by_cases h : q = p
    · rw [if_pos h]; exact Or.inr ⟨0, by simp, rfl⟩
    · rw [if_neg h]
      rcases fi_ge p t (k + 1) with h1 | ⟨j, h1, h2⟩
      · exact Or.inl h1
      · exact Or.inr ⟨j + 1, by simp; omega, by rw [h2]; congr 1; omega⟩
theorem nI_nm1 {k : Nat} (h : k < 2 ^ 31) : ¬ nI k = -1 := by
  intro e
  have h1 := nI_toInt h
  rw [e] at h1
  have h2 : ((-1 : Int32)).toInt = -1 := by decide
  omega
theorem fi_mem (p : tv) : ∀ (l : List tv) (k : Nat), k + l.length < 2 ^ 31 → (fi p l k = -1 ↔ p ∉ l)
  | [], _, _ => by simp [fi]
  | q :: t, k, hk => by
    unfold fi
    simp only [List.length_cons] at hk
    by_cases h : q = p
    · rw [if_pos h]
      subst h
      simp [nI_nm1 (show k < 2 ^ 31 by omega)]
    · rw [if_neg h, fi_mem p t (k + 1) (by omega)]
      simp [Ne.symm h]
/-- a Pairs object at a with its rows at t, v holds the list l -/
def pa_at (μ : kc_M) (a t v cap : Nat) (l : List tv) : Prop := ∃ (f : Nat → Int32) (g : Nat → Int64), μ.1 a = some (ce_Pa t v l.length) ∧ μ.1 t = some (ce_I cap f) ∧ μ.1 v = some (ce_L cap g) ∧ ho l f g ∧ l.length ≤ cap
/-- a Name object likewise, of at most four parts -/
def nm_at (μ : kc_M) (a t v : Nat) (l : List tv) : Prop := ∃ (f : Nat → Int32) (g : Nat → Int64), μ.1 a = some (ce_Nm t v (nI l.length)) ∧ μ.1 t = some (ce_I 4 f) ∧ μ.1 v = some (ce_L 4 g) ∧ ho l f g ∧ l.length ≤ 4
set_option maxRecDepth 100000 in
set_option maxHeartbeats 1000000 in
theorem y_Pa_find (d : Nat) {μ : kc_M} {a t v cap : Nat} {l : List tv} {ty : Int32} {x : Int64} (hp : pa_at μ a t v cap l) (hcap : cap < 2 ^ 31) : kc_Y kt kC (d + 1) j_Pa_find [.ref a, .int ty, .long x] μ (fun v μ' => v = some (.int (fi (ty, x) l 0)) ∧ μ' = μ) := by
  obtain ⟨f, g, h1, h2, h3, h4, h5⟩ := hp
  refine ⟨Nat.le_of_ble_eq_true rfl, ?_⟩
  have loop : ∀ m k : Nat, l.length - k = m → k ≤ l.length → fi (ty, x) (l.drop k) k = fi (ty, x) l 0 → kc_X (kC j_Pa_find) (kc_Y kt kC d) (fun v μ' => v = some (.int (fi (ty, x) l 0)) ∧ μ' = μ) 3 [some (.ref a), some (.int ty), some (.long x), none, some (.int (nI k))] [] μ (0, 0) := by
    intro m
    induction m with
    | zero =>
      intro k hk hle hf
      have hk2 : k = l.length := by omega
      subst hk2
      rw [List.drop_length] at hf
      refine x_il c_Pa_find_3 rfl ?_
      refine x_al c_Pa_find_5 rfl ?_
      refine x_get c_Pa_find_6 (by first | rfl | exact h1 | exact h2 | exact h3) rfl ?_
      refine x_cm_ge c_Pa_find_9 (fun _ => ?_) (fun h => absurd (nI_le (by omega) (by omega)) h)
      refine x_ci c_Pa_find_44 ?_
      refine x_ri c_Pa_find_45 ?_
      exact ⟨by rw [← hf]; rfl, rfl⟩
    | succ m ih =>
      intro k hk hle hf
      have hk2 : k < l.length := by omega
      rw [ho_drop h4 hk2, fi_cons] at hf
      refine x_il c_Pa_find_3 rfl ?_
      refine x_al c_Pa_find_5 rfl ?_
      refine x_get c_Pa_find_6 (by first | rfl | exact h1 | exact h2 | exact h3) rfl ?_
      refine x_cm_ge c_Pa_find_9 (fun h => absurd h (nI_ge (by omega) (by omega))) (fun _ => ?_)
      refine x_al c_Pa_find_12 rfl ?_
      refine x_get c_Pa_find_13 (by first | rfl | exact h1 | exact h2 | exact h3) rfl ?_
      refine x_il c_Pa_find_16 rfl ?_
      refine x_ialdN c_Pa_find_18 (by first | rfl | exact h1 | exact h2 | exact h3) (by omega) (by omega) ?_
      refine x_il c_Pa_find_19 rfl ?_
      refine x_cm_ne c_Pa_find_20 (fun h20 => ?_) (fun h20 => ?_)
      · first | refine x_incN [_, _, _, _, _] c_Pa_find_38 rfl rfl ?_ | refine x_inc [_, _, _, _, _] c_Pa_find_38 rfl rfl ?_
        refine x_goto c_Pa_find_41 ?_
        exact ih (k + 1) (by omega) (by omega) (by rw [← hf, if_neg (by intro e; cases e; contradiction)])
      · refine x_al c_Pa_find_23 rfl ?_
        refine x_get c_Pa_find_24 (by first | rfl | exact h1 | exact h2 | exact h3) rfl ?_
        refine x_il c_Pa_find_27 rfl ?_
        refine x_laldN c_Pa_find_29 (by first | rfl | exact h1 | exact h2 | exact h3) (by omega) (by omega) ?_
        refine x_ll c_Pa_find_30 rfl ?_
        refine x_lcmp c_Pa_find_31 ?_
        refine x_ifL_ne c_Pa_find_32 (fun h32 => ?_) (fun h32 => ?_)
        · first | refine x_incN [_, _, _, _, _] c_Pa_find_38 rfl rfl ?_ | refine x_inc [_, _, _, _, _] c_Pa_find_38 rfl rfl ?_
          refine x_goto c_Pa_find_41 ?_
          exact ih (k + 1) (by omega) (by omega) (by rw [← hf, if_neg (by intro e; cases e; contradiction)])
        · refine x_il c_Pa_find_35 rfl ?_
          refine x_ri c_Pa_find_37 ?_
          exact ⟨by rw [← hf, if_pos (by rw [h20, h32])], rfl⟩
  refine x_ci c_Pa_find_0 ?_
  refine x_is [_, _, _, _, _] c_Pa_find_1 rfl ?_
  exact loop _ 0 rfl (by omega) rfl
set_option maxRecDepth 100000 in
set_option maxHeartbeats 1000000 in
theorem y_Pa_append (d : Nat) {μ : kc_M} {a t v cap : Nat} {l : List tv} {ty : Int32} {x : Int64} (hp : pa_at μ a t v cap l) (hcap : cap < 2 ^ 31) (n1 : a ≠ t) (n2 : a ≠ v) (n3 : v ≠ t) (n3' : t ≠ v) (hc : l.length < cap) (hni : (ty, x) ∉ l) : kc_Y kt kC (d + 2) j_Pa_append [.ref a, .int ty, .long x] μ (fun w μ' => w = some (.int (nI 1)) ∧ pa_at μ' a t v cap (l ++ [(ty, x)]) ∧ μ'.2 = μ.2 ∧ ∀ q, q ≠ a → q ≠ t → q ≠ v → μ'.1 q = μ.1 q) := by
  obtain ⟨f, g, h1, h2, h3, h4, h5⟩ := hp
  refine ⟨Nat.le_of_ble_eq_true rfl, ?_⟩
  refine x_al c_Pa_append_0 rfl ?_
  refine x_get c_Pa_append_1 (by first | rfl | exact h1 | exact h2 | exact h3 | exact (kc_gn n1 h1) | exact (kc_gn n1 (kc_gn n2 h1)) | exact (kc_gn n3 h3) | exact kc_gs | exact (kc_gn n2 (kc_gn n1 h1))) rfl ?_
  refine x_al c_Pa_append_4 rfl ?_
  refine x_get c_Pa_append_5 (by first | rfl | exact h1 | exact h2 | exact h3 | exact (kc_gn n1 h1) | exact (kc_gn n1 (kc_gn n2 h1)) | exact (kc_gn n3 h3) | exact kc_gs | exact (kc_gn n2 (kc_gn n1 h1))) rfl ?_
  refine x_alenN c_Pa_append_8 (by first | rfl | exact h1 | exact h2 | exact h3 | exact (kc_gn n1 h1) | exact (kc_gn n1 (kc_gn n2 h1)) | exact (kc_gn n3 h3) | exact kc_gs | exact (kc_gn n2 (kc_gn n1 h1))) ?_
  refine x_cm_ge c_Pa_append_9 (fun h => absurd h (nI_ge hc (by omega))) (fun _ => ?_)
  refine x_al c_Pa_append_12 rfl ?_
  refine x_il c_Pa_append_13 rfl ?_
  refine x_ll c_Pa_append_14 rfl ?_
  refine x_cv2z _ c_Pa_append_15 (by first | rfl | exact h1 | exact h2 | exact h3 | exact (kc_gn n1 h1) | exact (kc_gn n1 (kc_gn n2 h1)) | exact (kc_gn n3 h3) | exact kc_gs | exact (kc_gn n2 (kc_gn n1 h1))) (Nat.le_of_ble_eq_true rfl) (y_Pa_find d ⟨f, g, h1, h2, h3, h4, h5⟩ (by omega)) ?_
  rintro _ _ ⟨rfl, rfl⟩
  show kc_X _ _ _ _ _ [.int (fi (ty, x) l 0)] _ _
  have hne : fi (ty, x) l 0 = -1 := (fi_mem (ty, x) l 0 (by omega)).mpr hni
  refine x_ci c_Pa_append_18 ?_
  refine x_cm_eq c_Pa_append_19 (fun _ => ?_) (fun h => absurd (hne) h)
  refine x_al c_Pa_append_24 rfl ?_
  refine x_get c_Pa_append_25 (by first | rfl | exact h1 | exact h2 | exact h3 | exact (kc_gn n1 h1) | exact (kc_gn n1 (kc_gn n2 h1)) | exact (kc_gn n3 h3) | exact kc_gs | exact (kc_gn n2 (kc_gn n1 h1))) rfl ?_
  refine x_al c_Pa_append_28 rfl ?_
  refine x_get c_Pa_append_29 (by first | rfl | exact h1 | exact h2 | exact h3 | exact (kc_gn n1 h1) | exact (kc_gn n1 (kc_gn n2 h1)) | exact (kc_gn n3 h3) | exact kc_gs | exact (kc_gn n2 (kc_gn n1 h1))) rfl ?_
  refine x_il c_Pa_append_32 rfl ?_
  refine x_iastN c_Pa_append_33 (by first | rfl | exact h1 | exact h2 | exact h3 | exact (kc_gn n1 h1) | exact (kc_gn n1 (kc_gn n2 h1)) | exact (kc_gn n3 h3) | exact kc_gs | exact (kc_gn n2 (kc_gn n1 h1))) (by omega) (by omega) ?_
  refine x_al c_Pa_append_34 rfl ?_
  refine x_get c_Pa_append_35 (by first | rfl | exact h1 | exact h2 | exact h3 | exact (kc_gn n1 h1) | exact (kc_gn n1 (kc_gn n2 h1)) | exact (kc_gn n3 h3) | exact kc_gs | exact (kc_gn n2 (kc_gn n1 h1))) rfl ?_
  refine x_al c_Pa_append_38 rfl ?_
  refine x_get c_Pa_append_39 (by first | rfl | exact h1 | exact h2 | exact h3 | exact (kc_gn n1 h1) | exact (kc_gn n1 (kc_gn n2 h1)) | exact (kc_gn n3 h3) | exact kc_gs | exact (kc_gn n2 (kc_gn n1 h1))) rfl ?_
  refine x_ll c_Pa_append_42 rfl ?_
  refine x_lastN c_Pa_append_43 (by first | rfl | exact h1 | exact h2 | exact h3 | exact (kc_gn n1 h1) | exact (kc_gn n1 (kc_gn n2 h1)) | exact (kc_gn n3 h3) | exact kc_gs | exact (kc_gn n2 (kc_gn n1 h1))) (by omega) (by omega) ?_
  refine x_al c_Pa_append_44 rfl ?_
  refine x_dup c_Pa_append_45 rfl ?_
  refine x_get c_Pa_append_46 (by first | rfl | exact h1 | exact h2 | exact h3 | exact (kc_gn n1 h1) | exact (kc_gn n1 (kc_gn n2 h1)) | exact (kc_gn n3 h3) | exact kc_gs | exact (kc_gn n2 (kc_gn n1 h1))) rfl ?_
  refine x_ci c_Pa_append_49 ?_
  first | refine x_iaddN c_Pa_append_50 ?_ | refine x_iadd c_Pa_append_50 ?_
  refine x_put [_, _, _] c_Pa_append_51 (by first | rfl | exact h1 | exact h2 | exact h3 | exact (kc_gn n1 h1) | exact (kc_gn n1 (kc_gn n2 h1)) | exact (kc_gn n3 h3) | exact kc_gs | exact (kc_gn n2 (kc_gn n1 h1))) ⟨Nat.le_of_ble_eq_true rfl, rfl, rfl⟩ rfl ?_
  refine x_ci c_Pa_append_54 ?_
  refine x_rz c_Pa_append_55 (by first | decide | exact kz_n _) ?_
  refine ⟨rfl, ⟨upd f l.length ty, vp_updL g l.length x, ?_, ?_, ?_, ho_app h4 ty x, by simp; omega⟩, rfl, fun q q1 q2 q3 => ?_⟩
  · rw [List.length_append]; exact kc_gs
  · rw [kc_gf (Ne.symm n1), kc_gf n3'] ; exact kc_gs
  · rw [kc_gf (Ne.symm n2)]; exact kc_gs
  · rw [kc_gf q1, kc_gf q3, kc_gf q2]
set_option maxRecDepth 100000 in
set_option maxHeartbeats 1000000 in
theorem y_Nm_append (d : Nat) {μ : kc_M} {a t v : Nat} {l : List tv} {ty : Int32} {x : Int64} (hp : nm_at μ a t v l) (n1 : a ≠ t) (n2 : a ≠ v) (n3 : v ≠ t) (n3' : t ≠ v) (hc : l.length < 4) : kc_Y kt kC (d + 1) j_Nm_append [.ref a, .int ty, .long x] μ (fun w μ' => w = none ∧ nm_at μ' a t v (l ++ [(ty, x)]) ∧ μ'.2 = μ.2 ∧ ∀ q, q ≠ a → q ≠ t → q ≠ v → μ'.1 q = μ.1 q) := by
  obtain ⟨f, g, h1, h2, h3, h4, h5⟩ := hp
  refine ⟨Nat.le_of_ble_eq_true rfl, ?_⟩
  refine x_al c_Nm_append_0 rfl ?_
  refine x_get c_Nm_append_1 (by first | rfl | exact h1 | exact h2 | exact h3 | exact (kc_gn n1 h1) | exact (kc_gn n1 (kc_gn n2 h1)) | exact (kc_gn n3 h3) | exact kc_gs | exact (kc_gn n2 (kc_gn n1 h1))) rfl ?_
  refine x_if_lt c_Nm_append_4 (fun h => absurd h (nI_pos (by omega))) (fun _ => ?_)
  refine x_al c_Nm_append_7 rfl ?_
  refine x_get c_Nm_append_8 (by first | rfl | exact h1 | exact h2 | exact h3 | exact (kc_gn n1 h1) | exact (kc_gn n1 (kc_gn n2 h1)) | exact (kc_gn n3 h3) | exact kc_gs | exact (kc_gn n2 (kc_gn n1 h1))) rfl ?_
  refine x_ci c_Nm_append_11 ?_
  refine x_cm_ge c_Nm_append_12 (fun h => absurd h (nI_ge hc (by omega))) (fun _ => ?_)
  refine x_al c_Nm_append_15 rfl ?_
  refine x_get c_Nm_append_16 (by first | rfl | exact h1 | exact h2 | exact h3 | exact (kc_gn n1 h1) | exact (kc_gn n1 (kc_gn n2 h1)) | exact (kc_gn n3 h3) | exact kc_gs | exact (kc_gn n2 (kc_gn n1 h1))) rfl ?_
  refine x_al c_Nm_append_19 rfl ?_
  refine x_get c_Nm_append_20 (by first | rfl | exact h1 | exact h2 | exact h3 | exact (kc_gn n1 h1) | exact (kc_gn n1 (kc_gn n2 h1)) | exact (kc_gn n3 h3) | exact kc_gs | exact (kc_gn n2 (kc_gn n1 h1))) rfl ?_
  refine x_il c_Nm_append_23 rfl ?_
  refine x_iastN c_Nm_append_24 (by first | rfl | exact h1 | exact h2 | exact h3 | exact (kc_gn n1 h1) | exact (kc_gn n1 (kc_gn n2 h1)) | exact (kc_gn n3 h3) | exact kc_gs | exact (kc_gn n2 (kc_gn n1 h1))) (by omega) (by omega) ?_
  refine x_al c_Nm_append_25 rfl ?_
  refine x_get c_Nm_append_26 (by first | rfl | exact h1 | exact h2 | exact h3 | exact (kc_gn n1 h1) | exact (kc_gn n1 (kc_gn n2 h1)) | exact (kc_gn n3 h3) | exact kc_gs | exact (kc_gn n2 (kc_gn n1 h1))) rfl ?_
  refine x_al c_Nm_append_29 rfl ?_
  refine x_get c_Nm_append_30 (by first | rfl | exact h1 | exact h2 | exact h3 | exact (kc_gn n1 h1) | exact (kc_gn n1 (kc_gn n2 h1)) | exact (kc_gn n3 h3) | exact kc_gs | exact (kc_gn n2 (kc_gn n1 h1))) rfl ?_
  refine x_ll c_Nm_append_33 rfl ?_
  refine x_lastN c_Nm_append_34 (by first | rfl | exact h1 | exact h2 | exact h3 | exact (kc_gn n1 h1) | exact (kc_gn n1 (kc_gn n2 h1)) | exact (kc_gn n3 h3) | exact kc_gs | exact (kc_gn n2 (kc_gn n1 h1))) (by omega) (by omega) ?_
  refine x_al c_Nm_append_35 rfl ?_
  refine x_dup c_Nm_append_36 rfl ?_
  refine x_get c_Nm_append_37 (by first | rfl | exact h1 | exact h2 | exact h3 | exact (kc_gn n1 h1) | exact (kc_gn n1 (kc_gn n2 h1)) | exact (kc_gn n3 h3) | exact kc_gs | exact (kc_gn n2 (kc_gn n1 h1))) rfl ?_
  refine x_ci c_Nm_append_40 ?_
  first | refine x_iaddN c_Nm_append_41 ?_ | refine x_iadd c_Nm_append_41 ?_
  refine x_put [_, _, _] c_Nm_append_42 (by first | rfl | exact h1 | exact h2 | exact h3 | exact (kc_gn n1 h1) | exact (kc_gn n1 (kc_gn n2 h1)) | exact (kc_gn n3 h3) | exact kc_gs | exact (kc_gn n2 (kc_gn n1 h1))) ⟨Nat.le_of_ble_eq_true rfl, rfl, rfl⟩ rfl ?_
  refine x_ret c_Nm_append_45 ?_
  refine ⟨rfl, ⟨upd f l.length ty, vp_updL g l.length x, ?_, ?_, ?_, ho_app h4 ty x, by simp; omega⟩, rfl, fun q q1 q2 q3 => ?_⟩
  · rw [List.length_append]; exact kc_gs
  · rw [kc_gf (Ne.symm n1), kc_gf n3'] ; exact kc_gs
  · rw [kc_gf (Ne.symm n2)]; exact kc_gs
  · rw [kc_gf q1, kc_gf q3, kc_gf q2]
