/-! A small pure machine over a flat memory, and the theorem that the JVM's walk follows it (kc_main):
    a method's run is a predicate transformer (kc_X, kc_Y), proved once for all methods; what a method does
    is then shown in the pure machine alone. -/
-- cells: an object (class number, fields) or an array; a memory, and the heap's size where it is known
abbrev kc_C : Type := (Nat × List Value) ⊕ vp_A
abbrev kc_M : Type := (Nat → Option kc_C) × Option Nat
abbrev kc_L : Type := List (Option Value)
abbrev kc_S : Type := Nat → kc_L → List Value → kc_M → Nat × Nat → Prop
abbrev kc_R : Type := Nat → List Value → kc_M → (Option Value → kc_M → Prop) → Prop
abbrev kc_A : Type := kc_R → Nat → kc_L → List Value → kc_M → Nat × Nat → kc_S → (Option Value → kc_M → Prop) → Prop
-- a method: name, bytes, locals, answer, cells and slots that it may make
abbrev kt_T : Type := Nat → MethodName × ByteArray × Nat × Option FieldType × Nat × Nat
def kc_k (x : vp_A) : Nat := match x.2 with
  | .inl _ => 0
  | .inr (.inl _) => 1
  | _ => 2
-- the pure machine's address a is the JVM's address b0 + a
def kc_t (b0 : Nat) : Value → Value
  | .ref a => .ref (b0 + a)
  | .retAddr a => .ref a
  | v => v
def kc_tA (b0 : Nat) (x : vp_A) : vp_A := match x with
  | (n, .inr (.inr (.inr (.inr f)))) => (n, .inr (.inr (.inr (.inr (fun j => (f j).map (fun a => b0 + a))))))
  | y => y
def kc_E (cA : Nat → ClassId) (b0 : Nat) (e : kc_C) : va_E := match e with
  | .inl o => .inr (o.1, o.2.map (kc_t b0))
  | .inr x => .inl (cA (kc_k x), kc_tA b0 x)
def kc_P (D : va_G) (cl : List vw_C) (cA : Nat → ClassId) (b0 : Nat) (μ : kc_M) (H : Heap) : Prop :=
  (∀ n, μ.2 = some n → H.size = b0 + n) ∧ ∀ (a : Nat) (e : kc_C), μ.1 a = some e → va_at D cl (b0 + a, kc_E cA b0 e) H
def kc_u (μ : kc_M) (a : Nat) (e : kc_C) : kc_M := (fun q => if q = a then some e else μ.1 q, μ.2)
def kc_tys (En : String) (cA : Nat → ClassId) : List (ClassId × FieldType) := [(cA 0, .int), (cA 1, .long), (cA 2, .object En)]
-- locals by places
def kc_at : kc_L → Nat → Option Value
  | [], _ => none
  | x :: _, 0 => x
  | _ :: t, n + 1 => kc_at t n
def kc_cl : Option Value → Option Value
  | some (.long _) => none
  | some (.double _) => none
  | y => y
def kc_s1 : kc_L → Nat → Value → kc_L
  | [], _, _ => []
  | _ :: t, 0, v => some v :: t
  | x :: t, 1, v => kc_cl x :: kc_s1 t 0 v
  | x :: t, n + 2, v => x :: kc_s1 t (n + 1) v
def kc_s2 : kc_L → Nat → Value → kc_L
  | [], _, _ => []
  | [_], _, _ => []
  | _ :: _ :: t, 0, v => some v :: none :: t
  | x :: y :: t, 1, v => kc_cl x :: kc_s2 (y :: t) 0 v
  | x :: y :: t, n + 2, v => x :: kc_s2 (y :: t) (n + 1) v
def kc_en : List Value → Nat → kc_L
  | [], n => List.replicate n none
  | v :: vs, n => some v :: (if v.category = 2 then none :: kc_en vs (n - 2) else kc_en vs (n - 1))
def kc_h (ls : Array Slot) (nL : Nat) (L : kc_L) : Prop := ls.size = nL ∧ lv_wf ls ∧ ∀ (i : Nat) (v : Value), kc_at L i = some v → ls[i]? = some (.val v)
theorem kc_t_cat (b0 : Nat) (v : Value) : (kc_t b0 v).category = v.category := by cases v <;> rfl
theorem kc_t_sum (b0 : Nat) : ∀ r : List Value, ((r.map (kc_t b0)).map fun v => v.category).sum = (r.map fun v => v.category).sum
  | [] => rfl
  | v :: r => by
    have := kc_t_sum b0 r
    simp only [List.map_cons, List.sum_cons, kc_t_cat] at this ⊢
    omega
theorem kc_t_nar {b0 : Nat} {ty : FieldType} {v : Value} (h : narrow ty v = v) : narrow ty (kc_t b0 v) = kc_t b0 v := by
  cases v <;> first | exact h | (cases ty <;> rfl)
theorem kc_t_fit {b0 : Nat} {ty : FieldType} {v : Value} (h : fits ty v = true) : fits ty (kc_t b0 v) = true := by
  cases v <;> first | exact h | (cases ty <;> first | rfl | cases h)
def kc_tl (b0 : Nat) (L : kc_L) : kc_L := L.map (Option.map (kc_t b0))
theorem kc_tl_at (b0 : Nat) : ∀ (L : kc_L) (i : Nat), kc_at (kc_tl b0 L) i = (kc_at L i).map (kc_t b0)
  | [], _ => rfl
  | _ :: _, 0 => rfl
  | _ :: t, n + 1 => kc_tl_at b0 t n
theorem kc_tl_cl (b0 : Nat) (x : Option Value) : kc_cl (x.map (kc_t b0)) = (kc_cl x).map (kc_t b0) := by
  cases x with
  | none => rfl
  | some v => cases v <;> rfl
theorem kc_tl_s1 (b0 : Nat) (v : Value) : ∀ (L : kc_L) (i : Nat), kc_s1 (kc_tl b0 L) i (kc_t b0 v) = kc_tl b0 (kc_s1 L i v)
  | [], _ => rfl
  | _ :: _, 0 => rfl
  | x :: t, 1 => by
    have := kc_tl_s1 b0 v t 0
    simp only [kc_tl, List.map_cons, kc_s1] at this ⊢
    rw [this, kc_tl_cl]
  | x :: t, n + 2 => by
    have := kc_tl_s1 b0 v t (n + 1)
    simp only [kc_tl, List.map_cons, kc_s1] at this ⊢
    rw [this]
theorem kc_tl_s2 (b0 : Nat) (v : Value) : ∀ (L : kc_L) (i : Nat), kc_s2 (kc_tl b0 L) i (kc_t b0 v) = kc_tl b0 (kc_s2 L i v)
  | [], _ => rfl
  | [_], _ => rfl
  | _ :: _ :: _, 0 => rfl
  | x :: y :: t, 1 => by
    have := kc_tl_s2 b0 v (y :: t) 0
    simp only [kc_tl, List.map_cons, kc_s2] at this ⊢
    rw [this, kc_tl_cl]
  | x :: y :: t, n + 2 => by
    have := kc_tl_s2 b0 v (y :: t) (n + 1)
    simp only [kc_tl, List.map_cons, kc_s2] at this ⊢
    rw [this]
theorem kc_tl_en (b0 : Nat) : ∀ (vs : List Value) (n : Nat), kc_en (vs.map (kc_t b0)) n = kc_tl b0 (kc_en vs n)
  | [], n => by simp [kc_en, kc_tl]
  | v :: vs, n => by
    have h1 := kc_tl_en b0 vs (n - 1)
    have h2 := kc_tl_en b0 vs (n - 2)
    rw [List.map_cons, kc_en, kc_en, kc_t_cat, h1, h2]
    by_cases hc : v.category = 2
    · rw [if_pos hc, if_pos hc]; rfl
    · rw [if_neg hc, if_neg hc]; rfl
theorem kc_t_sl (b0 : Nat) : ∀ vs : List Value, (lg_sl (vs.map (kc_t b0))).length = (lg_sl vs).length
  | [] => rfl
  | v :: vs => by
    have := kc_t_sl b0 vs
    simp only [lg_sl, List.map_cons, List.flatMap_cons, List.length_append, kc_t_cat] at this ⊢
    rw [this]
    by_cases hc : v.category = 2
    · simp [hc]
    · simp [hc]
theorem kc_cl_some {x : Option Value} {v : Value} (h : kc_cl x = some v) : x = some v ∧ v.category = 1 := by
  unfold kc_cl at h
  split at h
  · cases h
  · cases h
  · rename_i h1 h2
    refine ⟨h, ?_⟩
    subst h
    cases v <;> first | rfl | (exact absurd rfl (h1 _)) | (exact absurd rfl (h2 _))
theorem kc_s1_at : ∀ (L : kc_L) (i : Nat) (v : Value) (j : Nat) (w : Value), kc_at (kc_s1 L i v) j = some w → (j = i ∧ w = v) ∨ (j ≠ i ∧ kc_at L j = some w ∧ (j + 1 = i → w.category = 1))
  | [], i, v, j, w, h => by simp [kc_s1, kc_at] at h
  | x :: t, 0, v, j, w, h => by
    cases j with
    | zero => simp only [kc_s1, kc_at, Option.some.injEq] at h; exact Or.inl ⟨rfl, h.symm⟩
    | succ j => exact Or.inr ⟨by omega, h, by omega⟩
  | x :: t, 1, v, j, w, h => by
    cases j with
    | zero =>
      simp only [kc_s1, kc_at] at h
      obtain ⟨h1, h2⟩ := kc_cl_some h
      exact Or.inr ⟨by omega, h1, fun _ => h2⟩
    | succ j =>
      rcases kc_s1_at t 0 v j w h with ⟨a, b⟩ | ⟨a, b, c⟩
      · exact Or.inl ⟨by omega, b⟩
      · exact Or.inr ⟨by omega, b, by omega⟩
  | x :: t, n + 2, v, j, w, h => by
    cases j with
    | zero => exact Or.inr ⟨by omega, h, by omega⟩
    | succ j =>
      rcases kc_s1_at t (n + 1) v j w h with ⟨a, b⟩ | ⟨a, b, c⟩
      · exact Or.inl ⟨by omega, b⟩
      · exact Or.inr ⟨by omega, b, fun z => c (by omega)⟩
theorem kc_s2_at : ∀ (L : kc_L) (i : Nat) (v : Value) (j : Nat) (w : Value), kc_at (kc_s2 L i v) j = some w → (j = i ∧ w = v) ∨ (j ≠ i ∧ j ≠ i + 1 ∧ kc_at L j = some w ∧ (j + 1 = i → w.category = 1))
  | [], i, v, j, w, h => by simp [kc_s2, kc_at] at h
  | [x], i, v, j, w, h => by simp [kc_s2, kc_at] at h
  | x :: y :: t, 0, v, j, w, h => by
    match j with
    | 0 => simp only [kc_s2, kc_at, Option.some.injEq] at h; exact Or.inl ⟨rfl, h.symm⟩
    | 1 => simp [kc_s2, kc_at] at h
    | j + 2 => exact Or.inr ⟨by omega, by omega, h, by omega⟩
  | x :: y :: t, 1, v, j, w, h => by
    cases j with
    | zero =>
      simp only [kc_s2, kc_at] at h
      obtain ⟨h1, h2⟩ := kc_cl_some h
      exact Or.inr ⟨by omega, by omega, h1, fun _ => h2⟩
    | succ j =>
      rcases kc_s2_at (y :: t) 0 v j w h with ⟨a, b⟩ | ⟨a, a', b, c⟩
      · exact Or.inl ⟨by omega, b⟩
      · exact Or.inr ⟨by omega, by omega, b, by omega⟩
  | x :: y :: t, n + 2, v, j, w, h => by
    cases j with
    | zero => exact Or.inr ⟨by omega, by omega, h, by omega⟩
    | succ j =>
      rcases kc_s2_at (y :: t) (n + 1) v j w h with ⟨a, b⟩ | ⟨a, a', b, c⟩
      · exact Or.inl ⟨by omega, b⟩
      · exact Or.inr ⟨by omega, by omega, b, fun z => c (by omega)⟩
theorem kc_rep_at : ∀ (n j : Nat), kc_at (List.replicate n none) j = none
  | 0, _ => rfl
  | _ + 1, 0 => rfl
  | n + 1, j + 1 => kc_rep_at n j
theorem kc_en_at : ∀ (vs : List Value) (n o j : Nat) (w : Value), kc_at (kc_en vs n) j = some w → (o + j, w) ∈ lv_args o vs
  | [], n, o, j, w, h => by
    rw [kc_en, kc_rep_at] at h
    cases h
  | v :: vs, n, o, j, w, h => by
    rw [kc_en] at h
    cases j with
    | zero =>
      simp only [kc_at, Option.some.injEq] at h
      subst h
      simp [lv_args]
    | succ j =>
      simp only [kc_at] at h
      rw [lv_args]
      by_cases hc : v.category = 2
      · rw [if_pos hc] at h ⊢
        cases j with
        | zero => simp [kc_at] at h
        | succ j =>
          rw [show o + (j + 1 + 1) = o + 2 + j by omega]
          exact List.mem_cons_of_mem _ (kc_en_at vs (n - 2) (o + 2) j w h)
      · rw [if_neg hc] at h ⊢
        rw [show o + (j + 1) = o + 1 + j by omega]
        exact List.mem_cons_of_mem _ (kc_en_at vs (n - 1) (o + 1) j w h)
def kc_pr : Nat → kc_L → List (Nat × Value)
  | _, [] => []
  | o, none :: t => kc_pr (o + 1) t
  | o, some v :: t => (o, v) :: kc_pr (o + 1) t
theorem kc_pr_at : ∀ (L : kc_L) (o : Nat) (q : Nat × Value), q ∈ kc_pr o L → ∃ i, q.1 = o + i ∧ kc_at L i = some q.2
  | [], _, q, h => by simp [kc_pr] at h
  | none :: t, o, q, h => by
    obtain ⟨i, h1, h2⟩ := kc_pr_at t (o + 1) q h
    exact ⟨i + 1, by omega, h2⟩
  | some v :: t, o, q, h => by
    rw [kc_pr] at h
    rcases List.mem_cons.mp h with rfl | h
    · exact ⟨0, rfl, rfl⟩
    · obtain ⟨i, h1, h2⟩ := kc_pr_at t (o + 1) q h
      exact ⟨i + 1, by omega, h2⟩
theorem kc_at_pr : ∀ (L : kc_L) (o i : Nat) (v : Value), kc_at L i = some v → (o + i, v) ∈ kc_pr o L
  | [], _, i, v, h => by simp [kc_at] at h
  | none :: t, o, i, v, h => by
    cases i with
    | zero => simp [kc_at] at h
    | succ i =>
      rw [kc_pr, show o + (i + 1) = o + 1 + i by omega]
      exact kc_at_pr t (o + 1) i v h
  | some x :: t, o, i, v, h => by
    rw [kc_pr]
    cases i with
    | zero =>
      simp only [kc_at, Option.some.injEq] at h
      subst h
      exact List.mem_cons_self
    | succ i =>
      rw [show o + (i + 1) = o + 1 + i by omega]
      exact List.mem_cons_of_mem _ (kc_at_pr t (o + 1) i v h)
theorem kc_h.lv {ls : Array Slot} {nL : Nat} {L : kc_L} (h : kc_h ls nL L) : lv_has ls nL (kc_pr 0 L) := by
  refine ⟨h.1, h.2.1, fun q hq => ?_⟩
  obtain ⟨i, h1, h2⟩ := kc_pr_at L 0 q hq
  rw [h1, Nat.zero_add]
  exact h.2.2 i q.2 h2
theorem kc_h.s1 {ls : Array Slot} {nL : Nat} {L : kc_L} {i : Nat} {v : Value} (h : lv_has ls nL ((i, v) :: (kc_pr 0 L).filter (fun q => !(q.1 == i) && !(q.1 + 1 == i && q.2.category == 2)))) : kc_h ls nL (kc_s1 L i v) := by
  refine ⟨h.1, h.2.1, fun j w hj => ?_⟩
  rcases kc_s1_at L i v j w hj with ⟨rfl, rfl⟩ | ⟨hne, hat, hc⟩
  · exact h.2.2 (_, _) List.mem_cons_self
  · have hm := kc_at_pr L 0 j w hat
    rw [Nat.zero_add] at hm
    refine h.2.2 (j, w) (List.mem_cons_of_mem _ (List.mem_filter.mpr ⟨hm, ?_⟩))
    by_cases hj1 : j + 1 = i
    · have := hc hj1
      simp [hne, this]
    · simp [hne, hj1]
theorem kc_h.s2 {ls : Array Slot} {nL : Nat} {L : kc_L} {i : Nat} {v : Value} (h : lv_has ls nL ((i, v) :: (kc_pr 0 L).filter (fun q => !(q.1 == i) && (!(q.1 == i + 1) && !(q.1 + 1 == i && q.2.category == 2))))) : kc_h ls nL (kc_s2 L i v) := by
  refine ⟨h.1, h.2.1, fun j w hj => ?_⟩
  rcases kc_s2_at L i v j w hj with ⟨rfl, rfl⟩ | ⟨hne, hne2, hat, hc⟩
  · exact h.2.2 (_, _) List.mem_cons_self
  · have hm := kc_at_pr L 0 j w hat
    rw [Nat.zero_add] at hm
    refine h.2.2 (j, w) (List.mem_cons_of_mem _ (List.mem_filter.mpr ⟨hm, ?_⟩))
    by_cases hj1 : j + 1 = i
    · have := hc hj1
      simp [hne, hne2, this]
    · simp [hne, hne2, hj1]
theorem kc_h.en {ls : Array Slot} {nL : Nat} {vs : List Value} (h : lv_has ls nL (lv_args 0 vs)) : kc_h ls nL (kc_en vs nL) :=
  ⟨h.1, h.2.1, fun j w hj => by have := kc_en_at vs nL 0 j w hj; rw [Nat.zero_add] at this; exact h.2.2 (j, w) this⟩
