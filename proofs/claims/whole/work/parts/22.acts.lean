/-! the instructions of the pure machine -/
def ka_no : kc_A := fun Rr pc L st μ B k Q => False
def ka_ci (v : Int32) (n : Nat) : kc_A := fun Rr pc L st μ B k Q => k (pc + n) L (.int v :: st) μ B
def ka_cl (v : Int64) (n : Nat) : kc_A := fun Rr pc L st μ B k Q => k (pc + n) L (.long v :: st) μ B
def ka_il (i n : Nat) : kc_A := fun Rr pc L st μ B k Q => ∃ x : Int32, kc_at L i = some (.int x) ∧ k (pc + n) L (.int x :: st) μ B
def ka_is (i n : Nat) : kc_A := fun Rr pc L st μ B k Q => ∃ (x : Int32) (r : List Value), st = .int x :: r ∧ k (pc + n) (kc_s1 L i (.int x)) r μ B
def ka_ll (i n : Nat) : kc_A := fun Rr pc L st μ B k Q => ∃ x : Int64, kc_at L i = some (.long x) ∧ k (pc + n) L (.long x :: st) μ B
def ka_ls (i n : Nat) : kc_A := fun Rr pc L st μ B k Q => ∃ (x : Int64) (r : List Value), st = .long x :: r ∧ k (pc + n) (kc_s2 L i (.long x)) r μ B
def ka_al (i n : Nat) : kc_A := fun Rr pc L st μ B k Q => ∃ x : Nat, kc_at L i = some (.ref x) ∧ k (pc + n) L (.ref x :: st) μ B
def ka_as (i n : Nat) : kc_A := fun Rr pc L st μ B k Q => ∃ (x : Nat) (r : List Value), st = .ref x :: r ∧ k (pc + n) (kc_s1 L i (.ref x)) r μ B
def ka_inc (i : Nat) (v : Int32) : kc_A := fun Rr pc L st μ B k Q => ∃ x : Int32, kc_at L i = some (.int x) ∧ k (pc + 3) (kc_s1 L i (.int (x + v))) st μ B
def ka_ii (f : Int32 → Int32 → Int32) : kc_A := fun Rr pc L st μ B k Q => ∃ (x y : Int32) (r : List Value), st = .int y :: .int x :: r ∧ k (pc + 1) L (.int (f x y) :: r) μ B
def ka_idiv : kc_A := fun Rr pc L st μ B k Q => ∃ (x y : Int32) (r : List Value), st = .int y :: .int x :: r ∧ ¬ y = 0 ∧ k (pc + 1) L (.int (x / y) :: r) μ B
def ka_irem : kc_A := fun Rr pc L st μ B k Q => ∃ (x y : Int32) (r : List Value), st = .int y :: .int x :: r ∧ ¬ y = 0 ∧ k (pc + 1) L (.int (x - x / y * y) :: r) μ B
def ka_ll2 (f : Int64 → Int64 → Int64) : kc_A := fun Rr pc L st μ B k Q => ∃ (x y : Int64) (r : List Value), st = .long y :: .long x :: r ∧ k (pc + 1) L (.long (f x y) :: r) μ B
def ka_lsh (f : Int64 → Int32 → Int64) : kc_A := fun Rr pc L st μ B k Q => ∃ (x : Int64) (y : Int32) (r : List Value), st = .int y :: .long x :: r ∧ k (pc + 1) L (.long (f x y) :: r) μ B
def ka_i1 (f : Int32 → Int32) : kc_A := fun Rr pc L st μ B k Q => ∃ (x : Int32) (r : List Value), st = .int x :: r ∧ k (pc + 1) L (.int (f x) :: r) μ B
def ka_i2l : kc_A := fun Rr pc L st μ B k Q => ∃ (x : Int32) (r : List Value), st = .int x :: r ∧ k (pc + 1) L (.long x.toInt64 :: r) μ B
def ka_l2i : kc_A := fun Rr pc L st μ B k Q => ∃ (x : Int64) (r : List Value), st = .long x :: r ∧ k (pc + 1) L (.int x.toInt32 :: r) μ B
def ka_lcmp : kc_A := fun Rr pc L st μ B k Q => ∃ (x y : Int64) (r : List Value), st = .long y :: .long x :: r ∧ k (pc + 1) L (.int (lg_cmp x y) :: r) μ B
def ka_dup : kc_A := fun Rr pc L st μ B k Q => ∃ (v : Value) (r : List Value), st = v :: r ∧ v.category = 1 ∧ k (pc + 1) L (v :: v :: r) μ B
def ka_pop : kc_A := fun Rr pc L st μ B k Q => ∃ (v : Value) (r : List Value), st = v :: r ∧ v.category = 1 ∧ k (pc + 1) L r μ B
def ka_if (P : Int32 → Prop) (t : Nat) : kc_A := fun Rr pc L st μ B k Q => ∃ (x : Int32) (r : List Value), st = .int x :: r ∧ (P x → k t L r μ B) ∧ (¬ P x → k (pc + 3) L r μ B)
def ka_cm (P : Int32 → Int32 → Prop) (t : Nat) : kc_A := fun Rr pc L st μ B k Q => ∃ (x y : Int32) (r : List Value), st = .int y :: .int x :: r ∧ (P x y → k t L r μ B) ∧ (¬ P x y → k (pc + 3) L r μ B)
def ka_goto (t : Nat) : kc_A := fun Rr pc L st μ B k Q => k t L st μ B
def ka_sw (f : Int32 → Nat) : kc_A := fun Rr pc L st μ B k Q => ∃ (x : Int32) (r : List Value), st = .int x :: r ∧ k (f x) L r μ B
def ka_get (ci i : Nat) : kc_A := fun Rr pc L st μ B k Q => ∃ (a : Nat) (r fs : List Value) (v : Value), st = .ref a :: r ∧ μ.1 a = some (.inl (ci, fs)) ∧ fs[i]? = some v ∧ k (pc + 3) L (v :: r) μ B
def ka_put (ci i : Nat) (ty : FieldType) : kc_A := fun Rr pc L st μ B k Q => ∃ (a : Nat) (r fs : List Value) (v : Value), st = v :: .ref a :: r ∧ μ.1 a = some (.inl (ci, fs)) ∧ i < fs.length ∧ narrow ty v = v ∧ fits ty v = true ∧ k (pc + 3) L r (kc_u μ a (.inl (ci, fs.set i v))) B
def ka_iald : kc_A := fun Rr pc L st μ B k Q => ∃ (a n : Nat) (f : Nat → Int32) (i : Int32) (r : List Value), st = .int i :: .ref a :: r ∧ μ.1 a = some (.inr (n, .inl f)) ∧ vp_in i n ∧ k (pc + 1) L (.int (f i.toNatClampNeg) :: r) μ B
def ka_iast : kc_A := fun Rr pc L st μ B k Q => ∃ (a n : Nat) (f : Nat → Int32) (i : Int32) (x : Int32) (r : List Value), st = .int x :: .int i :: .ref a :: r ∧ μ.1 a = some (.inr (n, .inl f)) ∧ vp_in i n ∧ k (pc + 1) L r (kc_u μ a (.inr (n, .inl (upd f i.toNatClampNeg x)))) B
def ka_lald : kc_A := fun Rr pc L st μ B k Q => ∃ (a n : Nat) (f : Nat → Int64) (i : Int32) (r : List Value), st = .int i :: .ref a :: r ∧ μ.1 a = some (.inr (n, .inr (.inl f))) ∧ vp_in i n ∧ k (pc + 1) L (.long (f i.toNatClampNeg) :: r) μ B
def ka_last : kc_A := fun Rr pc L st μ B k Q => ∃ (a n : Nat) (f : Nat → Int64) (i : Int32) (x : Int64) (r : List Value), st = .long x :: .int i :: .ref a :: r ∧ μ.1 a = some (.inr (n, .inr (.inl f))) ∧ vp_in i n ∧ k (pc + 1) L r (kc_u μ a (.inr (n, .inr (.inl (vp_updL f i.toNatClampNeg x))))) B
def ka_aald : kc_A := fun Rr pc L st μ B k Q => ∃ (a n : Nat) (f : Nat → Option Nat) (i : Int32) (r : List Value) (b : Nat), st = .int i :: .ref a :: r ∧ μ.1 a = some (.inr (n, .inr (.inr (.inr (.inr f))))) ∧ vp_in i n ∧ f i.toNatClampNeg = some b ∧ k (pc + 1) L (.ref b :: r) μ B
def ka_aast (ci : Nat) : kc_A := fun Rr pc L st μ B k Q => ∃ (a n : Nat) (f : Nat → Option Nat) (i : Int32) (b : Nat) (fs r : List Value), st = .ref b :: .int i :: .ref a :: r ∧ μ.1 a = some (.inr (n, .inr (.inr (.inr (.inr f))))) ∧ μ.1 b = some (.inl (ci, fs)) ∧ vp_in i n ∧ k (pc + 1) L r (kc_u μ a (.inr (n, .inr (.inr (.inr (.inr (va_up f i.toNatClampNeg (some b)))))))) B
def ka_alen : kc_A := fun Rr pc L st μ B k Q => ∃ (a : Nat) (x : vp_A) (r : List Value), st = .ref a :: r ∧ μ.1 a = some (.inr x) ∧ k (pc + 1) L (.int (Int32.ofNat x.1) :: r) μ B
def ka_new (ci N : Nat) (fs : List Value) : kc_A := fun Rr pc L st μ B k Q => ∃ n : Nat, μ.2 = some n ∧ 1 ≤ B.1 ∧ N ≤ B.2 ∧ k (pc + 3) L (.ref n :: st) (kc_n μ n (.inl (ci, fs))) (B.1 - 1, B.2 - N)
def ka_newi : kc_A := fun Rr pc L st μ B k Q => ∃ (n : Nat) (i : Int32) (N : Nat) (r : List Value), st = .int i :: r ∧ μ.2 = some n ∧ ¬ i < 0 ∧ i.toNatClampNeg = N ∧ N * 8 ≤ 536870912 ∧ 1 ≤ B.1 ∧ N ≤ B.2 ∧ k (pc + 2) L (.ref n :: r) (kc_n μ n (.inr (N, .inl (fun _ => 0)))) (B.1 - 1, B.2 - N)
def ka_newl : kc_A := fun Rr pc L st μ B k Q => ∃ (n : Nat) (i : Int32) (N : Nat) (r : List Value), st = .int i :: r ∧ μ.2 = some n ∧ ¬ i < 0 ∧ i.toNatClampNeg = N ∧ N * 8 ≤ 536870912 ∧ 1 ≤ B.1 ∧ N ≤ B.2 ∧ k (pc + 2) L (.ref n :: r) (kc_n μ n (.inr (N, .inr (.inl (fun _ => 0))))) (B.1 - 1, B.2 - N)
def ka_newq : kc_A := fun Rr pc L st μ B k Q => ∃ (n : Nat) (i : Int32) (r : List Value), st = .int i :: r ∧ μ.2 = some n ∧ ¬ i < 0 ∧ i.toNatClampNeg * 4 ≤ 536870912 ∧ 1 ≤ B.1 ∧ i.toNatClampNeg ≤ B.2 ∧ k (pc + 3) L (.ref n :: r) (kc_n μ n (.inr (i.toNatClampNeg, .inr (.inr (.inr (.inr (fun _ => none))))))) (B.1 - 1, B.2 - i.toNatClampNeg)
def ka_obj : kc_A := fun Rr pc L st μ B k Q => ∃ (a : Nat) (r : List Value), st = .ref a :: r ∧ (r.map fun v => v.category).sum ≤ 8 ∧ k (pc + 3) L r μ B
def ka_cv (j n ci mj sj : Nat) : kc_A := fun Rr pc L st μ B k Q => ∃ (as : List Value) (a : Nat) (r fs : List Value), st = as.reverse ++ .ref a :: r ∧ as.length = n ∧ μ.1 a = some (.inl (ci, fs)) ∧ (r.map fun v => v.category).sum ≤ 8 ∧ mj ≤ B.1 ∧ sj ≤ B.2 ∧ ∃ Q1 : Option Value → kc_M → Prop, Rr j (.ref a :: as) μ Q1 ∧ ∀ (v : Option Value) (μ1 : kc_M), Q1 v μ1 → k (pc + 3) L (v.toList ++ r) μ1 (B.1 - mj, B.2 - sj)
def ka_cx (j n mj sj : Nat) : kc_A := fun Rr pc L st μ B k Q => ∃ (as : List Value) (a : Nat) (r : List Value), st = as.reverse ++ .ref a :: r ∧ as.length = n ∧ (r.map fun v => v.category).sum ≤ 8 ∧ mj ≤ B.1 ∧ sj ≤ B.2 ∧ ∃ Q1 : Option Value → kc_M → Prop, Rr j (.ref a :: as) μ Q1 ∧ ∀ (v : Option Value) (μ1 : kc_M), Q1 v μ1 → k (pc + 3) L (v.toList ++ r) μ1 (B.1 - mj, B.2 - sj)
def ka_cs (j n mj sj : Nat) : kc_A := fun Rr pc L st μ B k Q => ∃ (as r : List Value), st = as.reverse ++ r ∧ as.length = n ∧ (r.map fun v => v.category).sum ≤ 8 ∧ mj ≤ B.1 ∧ sj ≤ B.2 ∧ ∃ Q1 : Option Value → kc_M → Prop, Rr j as μ Q1 ∧ ∀ (v : Option Value) (μ1 : kc_M), Q1 v μ1 → k (pc + 3) L (v.toList ++ r) μ1 (B.1 - mj, B.2 - sj)
def ka_max : kc_A := fun Rr pc L st μ B k Q => ∃ (x y : Int32) (r : List Value), st = .int y :: .int x :: r ∧ (r.map fun v => v.category).sum ≤ 8 ∧ k (pc + 3) L (.int (if x < y then y else x) :: r) μ B
def ka_min : kc_A := fun Rr pc L st μ B k Q => ∃ (x y : Int32) (r : List Value), st = .int y :: .int x :: r ∧ (r.map fun v => v.category).sum ≤ 8 ∧ k (pc + 3) L (.int (if y < x then y else x) :: r) μ B
def ka_cpi : kc_A := fun Rr pc L st μ B k Q => ∃ (a0 a1 n0 n1 : Nat) (f g : Nat → Int32) (sp dp n : Int32) (r : List Value), st = .int n :: .int dp :: .ref a1 :: .int sp :: .ref a0 :: r ∧ (r.map fun v => v.category).sum ≤ 8 ∧ (μ.1 a0 = some (.inr (n0, .inl f)) ∧ μ.1 a1 = some (.inr (n1, .inl g)) ∧ ¬ sp < 0 ∧ ¬ dp < 0 ∧ ¬ n < 0 ∧ sp.toNatClampNeg + n.toNatClampNeg ≤ n0 ∧ dp.toNatClampNeg + n.toNatClampNeg ≤ n1 ∧ a0 ≠ a1) ∧ k (pc + 3) L r ((kc_u μ a1 (.inr (n1, .inl (va_cpy f g sp.toNatClampNeg dp.toNatClampNeg n.toNatClampNeg)))).1, none) B
def ka_cpl : kc_A := fun Rr pc L st μ B k Q => ∃ (a0 a1 n0 n1 : Nat) (f g : Nat → Int64) (sp dp n : Int32) (r : List Value), st = .int n :: .int dp :: .ref a1 :: .int sp :: .ref a0 :: r ∧ (r.map fun v => v.category).sum ≤ 8 ∧ (μ.1 a0 = some (.inr (n0, .inr (.inl f))) ∧ μ.1 a1 = some (.inr (n1, .inr (.inl g))) ∧ ¬ sp < 0 ∧ ¬ dp < 0 ∧ ¬ n < 0 ∧ sp.toNatClampNeg + n.toNatClampNeg ≤ n0 ∧ dp.toNatClampNeg + n.toNatClampNeg ≤ n1 ∧ a0 ≠ a1) ∧ k (pc + 3) L r ((kc_u μ a1 (.inr (n1, .inr (.inl (va_cpy f g sp.toNatClampNeg dp.toNatClampNeg n.toNatClampNeg))))).1, none) B
def ka_ret : kc_A := fun Rr pc L st μ B k Q => st = [] ∧ Q none μ
def ka_ri : kc_A := fun Rr pc L st μ B k Q => ∃ x : Int32, st = [.int x] ∧ Q (some (.int x)) μ
def ka_rz : kc_A := fun Rr pc L st μ B k Q => ∃ x : Int32, st = [.int x] ∧ narrow .boolean (.int x) = .int x ∧ Q (some (.int x)) μ
def ka_rl : kc_A := fun Rr pc L st μ B k Q => ∃ x : Int64, st = [.long x] ∧ Q (some (.long x)) μ
def ka_sl (i n : Nat) : kc_A := fun Rr pc L st μ B k Q => ∃ b : Nat, kc_at L i = some (.retAddr b) ∧ k (pc + n) L (.retAddr b :: st) μ B
def ka_sld (b N : Nat) (xs : Nat → Int32) : kc_A := fun Rr pc L st μ B k Q => ∃ (i : Int32) (r : List Value), st = .int i :: .retAddr b :: r ∧ vp_in i N ∧ k (pc + 1) L (.int (xs i.toNatClampNeg) :: r) μ B
def ka_sln (b N : Nat) : kc_A := fun Rr pc L st μ B k Q => ∃ r : List Value, st = .retAddr b :: r ∧ k (pc + 1) L (.int (Int32.ofNat N) :: r) μ B
theorem kc_P.list {D : va_G} {cl : List vw_C} {cA : Nat → ClassId} {b0 : Nat} {μ : kc_M} {H : Heap} (h : kc_P D cl cA b0 μ H) : ∃ ws : va_W, va_P D cl ws H ∧ va_D (fun q => b0 ≤ q) ws ∧ ∀ (a : Nat) (e : kc_C), μ.1 a = some e → ∃ p : Nat, ws[p]? = some (b0 + a, kc_E cA b0 e) := by
  have key : ∀ n : Nat, ∃ ws : va_W, va_P D cl ws H ∧ va_D (fun q => b0 ≤ q) ws ∧ (∀ (k : Nat) (q : Nat × va_E), ws[k]? = some q → q.1 < b0 + n) ∧ ∀ (a : Nat) (e : kc_C), a < n → μ.1 a = some e → ∃ p : Nat, ws[p]? = some (b0 + a, kc_E cA b0 e) := by
    intro n
    induction n with
    | zero => exact ⟨[], fun k q hk => by simp at hk, ⟨fun i j x y hi => by simp at hi, fun k q hk => by simp at hk⟩, fun k q hk => by simp at hk, fun a e ha => by omega⟩
    | succ n ih =>
      obtain ⟨ws, h1, h2, h3, h4⟩ := ih
      cases hn : μ.1 n with
      | none =>
        refine ⟨ws, h1, h2, fun k q hk => Nat.lt_succ_of_lt (h3 k q hk), fun a e ha he => ?_⟩
        by_cases hq : a = n
        · subst hq; rw [hn] at he; cases he
        · exact h4 a e (by omega) he
      | some e0 =>
        have h0 := h.2 n e0 hn
        refine ⟨ws ++ [(b0 + n, kc_E cA b0 e0)], h1.app (kc_P1 h0), va_D.app h2 ⟨fun i j x y hi hj _ => ?_, fun k q hk => ?_⟩ (fun i j x y hi hj => ?_), fun k q hk => ?_, fun a e ha he => ?_⟩
        · have := (List.getElem?_eq_some_iff.mp hi).1
          have := (List.getElem?_eq_some_iff.mp hj).1
          simp at *
          omega
        · cases k with
          | zero => cases hk; exact Nat.le_add_right _ _
          | succ k => simp at hk
        · have := h3 i x hi
          cases j with
          | zero => cases hj; show x.1 ≠ b0 + n; omega
          | succ j => simp at hj
        · by_cases hl : k < ws.length
          · rw [List.getElem?_append_left hl] at hk
            exact Nat.lt_succ_of_lt (h3 k q hk)
          · rw [List.getElem?_append_right (by omega)] at hk
            have hz : k - ws.length < 1 := (List.getElem?_eq_some_iff.mp hk).1
            rw [show k - ws.length = 0 by omega] at hk
            cases hk
            exact Nat.lt_succ_self _
        · by_cases hq : a = n
          · subst hq
            rw [hn] at he
            cases he
            exact ⟨ws.length, by rw [List.getElem?_append_right (Nat.le_refl _), Nat.sub_self]; rfl⟩
          · obtain ⟨p, hp⟩ := h4 a e (by omega) he
            exact ⟨p, by rw [List.getElem?_append_left (List.getElem?_eq_some_iff.mp hp).1]; exact hp⟩
  obtain ⟨ws, h1, h2, -, h4⟩ := key H.size
  exact ⟨ws, h1, h2, fun a e he => h4 a e (by have h8 : b0 + a < H.size := (h.2 a e he).lt; omega) he⟩
theorem kc_P.unlist {D : va_G} {cl : List vw_C} {cA : Nat → ClassId} {b0 : Nat} {μ : kc_M} {H H1 : Heap} {ws : va_W} {p1 a1 : Nat} {e0 e : kc_C} (h : kc_P D cl cA b0 μ H) (hD : va_D (fun q => b0 ≤ q) ws) (hat : ∀ (a : Nat) (e : kc_C), μ.1 a = some e → ∃ p : Nat, ws[p]? = some (b0 + a, kc_E cA b0 e)) {x : va_E} (he : ws[p1]? = some (b0 + a1, x)) (hm : μ.1 a1 = some e0) (h1 : va_P D cl (ws.set p1 (b0 + a1, kc_E cA b0 e)) H1) : kc_P D cl cA b0 ((kc_u μ a1 e).1, none) H1 := by
  refine ⟨fun n hn => (by cases hn), fun b e' hb => ?_⟩
  have hl := (List.getElem?_eq_some_iff.mp he).1
  by_cases hba : b = a1
  · subst hba
    have hb2 : some e = some e' := by rw [← hb]; simp [kc_u]
    cases hb2
    exact h1 p1 _ (List.getElem?_set_self hl)
  · have hb2 : μ.1 b = some e' := by rw [← hb]; simp [kc_u, hba]
    obtain ⟨p, hp⟩ := hat b e' hb2
    have hne : p1 ≠ p := fun q => by
      subst q
      rw [he] at hp
      exact hba (by have := congrArg Prod.fst (Option.some.inj hp); simp at this; omega)
    exact h1 p _ (by rw [List.getElem?_set_ne hne]; exact hp)
