/-! the pure machine: a run as the least predicate that is closed under the instructions; contracts; the JVM follows -/
theorem kc_P1 {D : va_G} {cl : List vw_C} {a : Nat} {e : va_E} {H : Heap} (h : va_at D cl (a, e) H) : va_P D cl [(a, e)] H := by
  intro k q hq
  cases k with
  | zero => cases hq; exact h
  | succ k => simp at hq
theorem kc_P.put {D : va_G} {cl : List vw_C} {cA : Nat → ClassId} {b0 : Nat} {μ : kc_M} {H H1 : Heap} {a : Nat} {e0 e : kc_C} (h : kc_P D cl cA b0 μ H) (ha : μ.1 a = some e0) (he : va_at D cl (b0 + a, kc_E cA b0 e) H1) (z : H1.size = H.size) (oq : ∀ q : Nat, q ≠ b0 + a → H1[q]? = H[q]?) : kc_P D cl cA b0 (kc_u μ a e) H1 := by
  refine ⟨fun n hn => z.trans (h.1 n hn), fun b e' hb => ?_⟩
  by_cases hba : b = a
  · subst hba
    have hb2 : some e = some e' := by rw [← hb]; simp [kc_u]
    cases hb2
    exact he
  · have hb2 : μ.1 b = some e' := by rw [← hb]; simp [kc_u, hba]
    exact (h.2 b e' hb2).kept (oq (b0 + b) (by omega))
def kc_n (μ : kc_M) (n : Nat) (e : kc_C) : kc_M := (fun q => if q = n then some e else μ.1 q, some (n + 1))
theorem kc_P.new {D : va_G} {cl : List vw_C} {cA : Nat → ClassId} {b0 : Nat} {μ : kc_M} {H H1 : Heap} {n : Nat} {e : kc_C} (h : kc_P D cl cA b0 μ H) (hn : μ.2 = some n) (he : va_at D cl (b0 + n, kc_E cA b0 e) H1) (z : H1.size = b0 + n + 1) (oq : ∀ q : Nat, q < b0 + n → H1[q]? = H[q]?) : kc_P D cl cA b0 (kc_n μ n e) H1 := by
  have hs := h.1 n hn
  refine ⟨fun n' hn' => ?_, fun b e' hb' => ?_⟩
  · have : n + 1 = n' := by simpa [kc_n] using hn'
    rw [z, ← this]
    rfl
  · by_cases hba : b = n
    · subst hba
      have hb2 : some e = some e' := by rw [← hb']; simp [kc_n]
      cases hb2
      exact he
    · have hb2 : μ.1 b = some e' := by rw [← hb']; simp [kc_n, hba]
      have h2 := h.2 b e' hb2
      have hlt : b0 + b < H.size := h2.lt
      exact h2.kept (oq (b0 + b) (by omega))
-- a run
def kc_X (C : Nat → kc_A) (R : kc_R) (Q : Option Value → kc_M → Prop) : kc_S := fun pc L st μ B =>
  ∀ P : kc_S, (∀ (pc : Nat) (L : kc_L) (st : List Value) (μ : kc_M) (B : Nat × Nat) (k : kc_S), (∀ (pc : Nat) (L : kc_L) (st : List Value) (μ : kc_M) (B : Nat × Nat), k pc L st μ B → P pc L st μ B) → C pc R pc L st μ B k Q → P pc L st μ B) → P pc L st μ B
theorem kc_in {C : Nat → kc_A} {R : kc_R} {Q : Option Value → kc_M → Prop} {pc : Nat} {L : kc_L} {st : List Value} {μ : kc_M} {B : Nat × Nat} (h : C pc R pc L st μ B (kc_X C R Q) Q) : kc_X C R Q pc L st μ B :=
  fun P hP => hP _ _ _ _ _ (kc_X C R Q) (fun _ _ _ _ _ h' => h' P hP) h
def kc_Y (T : kt_T) (C : Nat → Nat → kc_A) : Nat → kc_R
  | 0 => fun _ _ _ _ => False
  | d + 1 => fun j av μ Q => (lg_sl av).length ≤ (T j).2.2.1 ∧ kc_X (C j) (kc_Y T C d) Q 0 (kc_en av (T j).2.2.1) [] μ ((T j).2.2.2.2.1, (T j).2.2.2.2.2)
-- contracts
def kc_Q (D : va_G) (cl : List vw_C) (cA : Nat → ClassId) (b0 : Nat) (Q : Option Value → kc_M → Prop) : Array Value → State → Outcome → State → Prop := fun _ st oc t =>
  (∃ (v : Option Value) (μ : kc_M), oc = .returned (v.map (kc_t b0)) ∧ Q v μ ∧ kc_P D cl cA b0 μ t.heap) ∧ va_F (fun q => b0 ≤ q) st t
-- the tables: classes, array classes, and words that are no words of a head (nest mates, arrays over a class)
def kc_K (D : va_G) (cl : List vw_C) (En : String) (wsN : List Cond) (cA : Nat → ClassId) (U : State) : Prop := va_K D cl (kc_tys En cA) U ∧ ∀ w ∈ wsN, va_Nw w U
def kc_okN (wsN : List Cond) : Prop := ∀ w ∈ wsN, ∀ s U : State, s.WarmedH U.vm → va_Nw w s → va_Nw w U
theorem kc_K.moved {D : va_G} {cl : List vw_C} {En : String} {wsN : List Cond} {cA : Nat → ClassId} {s U : State} (ho : kc_okN wsN) (hW : s.WarmedH U.vm) (h : kc_K D cl En wsN cA s) : kc_K D cl En wsN cA U := ⟨va_K.moved hW.alike h.1, fun w hw => ho w hw s U hW (h.2 w hw)⟩
def kc_Pre (D : va_G) (cl : List vw_C) (En : String) (wsN : List Cond) (cA : Nat → ClassId) (b0 : Nat) (μ : kc_M) (av : List Value) : Array Value → State → Prop :=
  va_Pc (av.map (kc_t b0)) (fun U => kc_P D cl cA b0 μ U.heap ∧ kc_K D cl En wsN cA U ∧ b0 ≤ U.heap.size)
def kc_rm (d mc ms : Nat) : Room := { frames := d, cells := mc, slots := ms, locals := 100 * d }
def kc_ws (T : kt_T) (wsA : List Cond) (j : Nat) : List Cond := .code (T j).1 (T j).2.1 (T j).2.2.1 (T j).2.2.2.1 :: wsA
def kc_Met (l : Launch) (T : kt_T) (wsA wsN : List Cond) (D : va_G) (cl : List vw_C) (En : String) (cA : Nat → ClassId) (b0 d j : Nat) (av : List Value) (μ : kc_M) (Q : Option Value → kc_M → Prop) : Prop :=
  Met l (T j).1 (kc_ws T wsA j) (kc_rm d (T j).2.2.2.2.1 (T j).2.2.2.2.2) (kc_Pre D cl En wsN cA b0 μ av) (kc_Q D cl cA b0 Q) (T j).2.2.2.2.1 (T j).2.2.2.2.2 (fun q => b0 ≤ q)
def kc_ctx (wsA wsN : List Cond) (cl : List vw_C) (En own : String) (cc : ByteArray) (nL : Nat) (ret : Option FieldType) (nm : String) (Xs : Option (Nat × Nat × (Nat → Int32))) (D : va_G) (cA : Nat → ClassId) (b0 : Nat) (p : Program) (s : State) (m : MethodId) (args : Array Value) (meth : Method) (c : Code) : Prop :=
  CallFix p m c cc nL s args wsA own ∧ kc_K D cl En wsN cA s ∧ b0 ≤ s.heap.size ∧ meth.sig.returnType = ret ∧ meth.locks = false ∧ meth.name = nm ∧ ∀ (b L : Nat) (xs : Nat → Int32), Xs = some (b, L, xs) → va_X b L xs s s.heap ∧ b < s.heap.size ∧ b < b0
def kc_W (l : Launch) (D : va_G) (cl : List vw_C) (cA : Nat → ClassId) (b0 nL mc ms : Nat) (R : Room) (Z : State → Prop) (p : Program) (e : Env) (s : State) (m : MethodId) (args : Array Value) (below : List Frame) (meth : Method) (c : Code) : kc_S := fun pc L st μ B =>
  ∀ (ls : Array Slot) (H : Heap) (locs : List Loc) (cells slots : Nat), kc_h ls nL (kc_tl b0 L) → kc_P D cl cA b0 μ H → va_S (fun q => b0 ≤ q) s.heap H locs → cells + B.1 ≤ mc → slots + B.2 ≤ ms →
    W p l e R s m args below meth c H locs cells slots Z (F0 m pc ls (st.map (kc_t b0)))
-- an answer, by the type and the instruction; what an answer gives
def kc_vt (ret : Option FieldType) (v : Option Value) (i : Instr) : Prop := (ret = none ∧ v = none ∧ i = .return_) ∨ (ret = some .int ∧ i = .ireturn ∧ ∃ x : Int32, v = some (.int x)) ∨ (ret = some .boolean ∧ i = .ireturn ∧ ∃ x : Int32, v = some (.int x) ∧ narrow .boolean (.int x) = .int x) ∨ (ret = some .long ∧ i = .lreturn ∧ ∃ x : Int64, v = some (.long x))
def kc_rr (l : Launch) (D : va_G) (cl : List vw_C) (cA : Nat → ClassId) (b0 mc ms : Nat) (R : Room) (Z : State → Prop) (Q : Option Value → kc_M → Prop) (cc : ByteArray) (ret : Option FieldType) (p : Program) (e : Env) (s : State) (m : MethodId) (args : Array Value) (below : List Frame) (meth : Method) (c : Code) : Prop :=
  ∀ (v : Option Value) (μ : kc_M) (H : Heap) (locs : List Loc) (cells slots : Nat) (ls : Array Slot) (pc : Nat) (i : Instr), kc_vt ret v i → decode cc pc = .ok (i, 1) → Q v μ → kc_P D cl cA b0 μ H → va_S (fun q => b0 ≤ q) s.heap H locs → cells ≤ mc → slots ≤ ms →
    W p l e R s m args below meth c H locs cells slots Z (F0 m pc ls (v.toList.map (kc_t b0)))
def kc_Sim (T : kt_T) (wsA wsN : List Cond) (cl : List vw_C) (En own : String) (cc : ByteArray) (nL : Nat) (ret : Option FieldType) (nm : String) (Xs : Option (Nat × Nat × (Nat → Int32))) (pc : Nat) (a : kc_A) : Prop :=
  ∀ (l : Launch) (D : va_G) (cA : Nat → ClassId) (b0 d mc ms : Nat) (R : Room) (Z : State → Prop) (Q : Option Value → kc_M → Prop) (p : Program) (e : Env) (s : State) (m : MethodId) (args : Array Value) (below : List Frame) (meth : Method) (c : Code),
    kc_ctx wsA wsN cl En own cc nL ret nm Xs D cA b0 p s m args meth c → (d + 1 ≤ R.frames ∧ 100 * (d + 1) ≤ R.locals ∧ mc ≤ R.cells ∧ ms ≤ R.slots) → kc_rr l D cl cA b0 mc ms R Z Q cc ret p e s m args below meth c →
    ∀ Rr : kc_R, (∀ (j : Nat) (av : List Value) (μ : kc_M) (Q' : Option Value → kc_M → Prop), Rr j av μ Q' → kc_Met l T wsA wsN D cl En cA b0 d j av μ Q') →
    ∀ (L : kc_L) (st : List Value) (μ : kc_M) (B : Nat × Nat) (k : kc_S), (∀ (pc : Nat) (L : kc_L) (st : List Value) (μ : kc_M) (B : Nat × Nat), k pc L st μ B → kc_W l D cl cA b0 nL mc ms R Z p e s m args below meth c pc L st μ B) →
      a Rr pc L st μ B k Q → kc_W l D cl cA b0 nL mc ms R Z p e s m args below meth c pc L st μ B
theorem kc_se {T : kt_T} {wsA wsN : List Cond} {cl : List vw_C} {En own : String} {cc : ByteArray} {nL : Nat} {ret : Option FieldType} {nm : String} {Xs : Option (Nat × Nat × (Nat → Int32))} {pc : Nat} {a a' : kc_A} (h : a' = a) (hs : kc_Sim T wsA wsN cl En own cc nL ret nm Xs pc a) : kc_Sim T wsA wsN cl En own cc nL ret nm Xs pc a' := by
  rw [h]; exact hs
theorem kc_case {P : Nat → Prop} {n : Nat} (h : P n) (hs : ∀ j, j < n → P j) : ∀ j, j < n + 1 → P j := fun j hj => (Nat.lt_succ_iff_lt_or_eq.mp hj).elim (hs j) (fun e => e ▸ h)
theorem kc_case0 {P : Nat → Prop} : ∀ j, j < 0 → P j := fun j hj => absurd hj (Nat.not_lt_zero j)
def kc_sys (T : kt_T) (C : Nat → Nat → kc_A) (wsA wsN : List Cond) (cl : List vw_C) (En : String) : Prop :=
  ∀ j : Nat, plainName (T j).1.cls = true ∧ ∀ pc : Nat, kc_Sim T wsA wsN cl En (T j).1.cls (T j).2.1 (T j).2.2.1 (T j).2.2.2.1 (T j).1.name none pc (C j pc)
/-- the JVM follows the pure machine -/
theorem kc_main {T : kt_T} {C : Nat → Nat → kc_A} {wsA wsN : List Cond} {cl : List vw_C} {En : String} (hS : kc_sys T C wsA wsN cl En) (l : Launch) (D : va_G) (cA : Nat → ClassId) (b0 : Nat) :
    ∀ (d j : Nat) (av : List Value) (μ : kc_M) (Q : Option Value → kc_M → Prop), kc_Y T C d j av μ Q → kc_Met l T wsA wsN D cl En cA b0 d j av μ Q := by
  intro d
  induction d with
  | zero => intro j av μ Q h; exact h.elim
  | succ d ih =>
    intro j av μ Q hY
    obtain ⟨hlen, hX⟩ := hY
    refine Met.ofW (cc := (T j).2.1) (maxL := (T j).2.2.1) (ret := (T j).2.2.2.1) (hS j).1 rfl ?_
    intro p e s m args below meth c s₁ B hml hv
    obtain ⟨rfl, hP, hK, hb0⟩ := hv
    have hts := atoms_spec (ws := kc_ws T wsA j) B.pre
    have hctx : kc_ctx wsA wsN cl En (T j).1.cls (T j).2.1 (T j).2.2.1 (T j).2.2.2.1 (T j).1.name none D cA b0 p s m (av.map (kc_t b0)).toArray meth c :=
      ⟨⟨B.exec, B.bytes, hml, findClass_of_methodNamed B.named, fun w hw => hts w (List.mem_cons_of_mem _ hw)⟩, hK, hb0, B.returns, B.notSynchronized, (name_of_methodNamed B.named B.method).1, fun _ _ _ h => by cases h⟩
    have hl := kc_h.en (lv_entry (av.map (kc_t b0)) (n := (T j).2.2.1) (by rw [kc_t_sl]; exact hlen))
    rw [kc_tl_en] at hl
    rw [lg_entry_eq]
    have hrr : kc_rr l D cl cA b0 (T j).2.2.2.2.1 (T j).2.2.2.2.2 (kc_rm (d + 1) (T j).2.2.2.2.1 (T j).2.2.2.2.2) (MQ below (kc_Q D cl cA b0 Q) (av.map (kc_t b0)).toArray s (T j).2.2.2.2.1 (T j).2.2.2.2.2 (fun q => b0 ≤ q)) Q (T j).2.1 (T j).2.2.2.1 p e s m (av.map (kc_t b0)).toArray below meth c := by
      intro v μ' H locs cells slots ls pc i hvt hd hq hp hs hc1 hc2
      refine W.widen (k := (T j).2.2.2.2.1) (n := (T j).2.2.2.2.2) hc1 hc2 ?_
      rcases hvt with ⟨hr0, rfl, rfl⟩ | ⟨hr0, rfl, x, rfl⟩ | ⟨hr0, rfl, x, rfl, hn⟩ | ⟨hr0, rfl, x, rfl⟩
      · exact W.vret B.exec B.bytes (B.returns.trans hr0) (fun t ht hW => ⟨⟨_, μ', rfl, hq, by rw [ht]; exact hp⟩, hs.F ht⟩) hs.2.2 hd B.notSynchronized
      · exact W.iret B.exec B.bytes (B.returns.trans hr0) (fun t ht hW => ⟨⟨_, μ', rfl, hq, by rw [ht]; exact hp⟩, hs.F ht⟩) hs.2.2 hd B.notSynchronized
      · exact W.zret B.exec B.bytes (B.returns.trans hr0) hn (fun t ht hW => ⟨⟨_, μ', rfl, hq, by rw [ht]; exact hp⟩, hs.F ht⟩) hs.2.2 hd B.notSynchronized
      · exact W.lret B.exec B.bytes (B.returns.trans hr0) (fun t ht hW => ⟨⟨_, μ', rfl, hq, by rw [ht]; exact hp⟩, hs.F ht⟩) hs.2.2 hd B.notSynchronized
    exact hX (kc_W l D cl cA b0 (T j).2.2.1 (T j).2.2.2.2.1 (T j).2.2.2.2.2 (kc_rm (d + 1) (T j).2.2.2.2.1 (T j).2.2.2.2.2) _ p e s m (av.map (kc_t b0)).toArray below meth c)
      (fun pc L st μ B k hk ha => (hS j).2 pc l D cA b0 d (T j).2.2.2.2.1 (T j).2.2.2.2.2 (kc_rm (d + 1) (T j).2.2.2.2.1 (T j).2.2.2.2.2) _ Q p e s m (av.map (kc_t b0)).toArray below meth c hctx ⟨Nat.le_refl (d + 1), Nat.le_refl (100 * (d + 1)), Nat.le_refl (T j).2.2.2.2.1, Nat.le_refl (T j).2.2.2.2.2⟩ hrr (kc_Y T C d) ih L st μ B k hk ha)
      _ s.heap [] 0 0 hl hP va_S.rf (by omega) (by omega)
-- behind a call
theorem kc_call {p : Program} {l : Launch} {e : Env} {R : Room} {s : State} {m : MethodId} {args : Array Value} {below : List Frame} {meth : Method} {c : Code} {H : Heap} {locs : List Loc} {cells slots : Nat} {Q : State → Prop} {pc : Nat} {ls : Array Slot} {rest st0 : List Value} {a : Array Value} {mc ms b0 : Nat} {D : va_G} {cl : List vw_C} {cA : Nat → ClassId} {Q1 : Option Value → kc_M → Prop}
    (hr : va_Run p l e R s m args below meth c H locs cells slots mc ms (F0 m pc ls st0) rest (kc_Q D cl cA b0 Q1 a) (fun q => b0 ≤ q)) (hS : va_S (fun q => b0 ≤ q) s.heap H locs)
    (kk : ∀ (v : Option Value) (μ : kc_M) (H1 : Heap) (locs1 : List Loc), Q1 v μ → kc_P D cl cA b0 μ H1 → va_S (fun q => b0 ≤ q) s.heap H1 locs1 → W p l e R s m args below meth c H1 locs1 (cells + mc) (slots + ms) Q (F0 m (pc + 3) ls ((v.map (kc_t b0)).toList ++ rest))) : W p l e R s m args below meth c H locs cells slots Q (F0 m pc ls st0) := by
  intro T hT X
  obtain ⟨v, st₀, t, T', L, h0, X', hL, e1, e2, ⟨⟨v', μ, hv, hq, hp⟩, hz, hkp⟩, st⟩ := hr T hT X
  cases hv
  rw [h0] at hz hkp
  obtain ⟨t2, a1, b1⟩ := kk v' μ T'.heap (locs ++ L) hq (by rw [e1]; exact hp)
    ⟨Nat.le_trans hS.1 (by rw [e1]; exact hz), fun q h1 h2 => by rw [e1, hkp q (Nat.lt_of_lt_of_le h1 hS.1) h2]; exact hS.2.1 q h1 h2, fun q hq => by
      rcases List.mem_append.mp hq with h | h
      · exact hS.2.2 q h
      · exact hL q h⟩ T' rfl X'
  exact ⟨t2, st t2 a1, b1⟩
theorem kc_blind {D : va_G} {cl : List vw_C} {En : String} {wsN : List Cond} {cA : Nat → ClassId} {b0 : Nat} {μ : kc_M} {av : List Value} (ho : kc_okN wsN) : FrameBlind (kc_Pre D cl En wsN cA b0 μ av) := by
  intro a U g mk q
  obtain ⟨q0, q1, q2, q3⟩ := q
  exact ⟨q0, q1, kc_K.moved (s := U) (U := U.calling g mk a) ho (State.WarmedH.refl U) q2, q3⟩
theorem kc_pre {D : va_G} {cl : List vw_C} {En : String} {wsN : List Cond} {cA : Nat → ClassId} {b0 : Nat} {μ : kc_M} {av : List Value} {s : State} {H : Heap} (ho : kc_okN wsN) (hP : kc_P D cl cA b0 μ H) (hK : kc_K D cl En wsN cA s) (hb : b0 ≤ H.size) : PreS s H (kc_Pre D cl En wsN cA b0 μ av) (av.map (kc_t b0)) :=
  ⟨kc_blind ho, fun U hU hW => ⟨rfl, by rw [hU]; exact hP, hK.moved ho hW, by rw [hU]; exact hb⟩⟩
