/-! the claim out of the law's run in the pure machine (the rows lw_ are the skeleton's) -/
-- ===== end of PART A; then your names; then what follows =====
/-! THE CLAIM OUT OF ONE WALK OF THE LAW'S BODY. Your part is whole_start (and what it stands on); all else here is the same for every law, but numbers. -/
def R_law : String := "DirectoryDeskLaw"
def lw_P (b : Addr) (xs : List Int32) (args : Array Value) (s : State) : Prop := args = #[.ref b] ∧ s.IntsAt b xs ∧ xs.length ≤ 2048 ∧ (Jvm.Cond.and given_1 narrow_1).before args s = true
def lw_Q (_ : Array Value) (s : State) (o : Outcome) (t : State) : Prop := o = .returned (some (.int 1)) ∧ Framed s o t [] 600000 7302250
def lw_Z (below : List Frame) (a : Array Value) (s : State) : State → Prop := fun t => ∃ o, t.status = .running ∧ Ended t below o ∧ lw_Q a s o t
/-- the law's own end, with 1 on the stack, nothing written that was there before, its room as the claim has it -/
theorem lw_ret {p : Program} {l : Launch} {e : Env} {s : State} {m : MethodId} {below : List Frame} {meth : Method} {c : Code} {b : Nat} (hx : p.tables.exec = Jvm.exec) (hb : c.code = code) (hr : meth.sig.returnType = ret) (hlocks : meth.locks = false) {pc : Nat} {H : Heap} {ls : Array Slot} (hdg : decode code pc = .ok (.ireturn, 1)) : W p l e room_1 s m #[Value.ref b] below meth c H [] 600000 7302250 (lw_Z below #[Value.ref b] s) (F0 m pc ls [.int 1]) := by
  intro T hT X
  obtain ⟨fs, hret, hrun, hended, hW, hframe⟩ := X.leave (v := some (.int 1)) (hlocks := hlocks) (fun h => by rw [hr] at h; cases h)
  have hmeth' : T.vm.method? m = some meth := X.method'
  refine ⟨T.setFrames fs, ?_, .returned (some (.int 1)), hrun, hended, rfl, ⟨_, rfl⟩, hW, hframe⟩
  jvm_step X.here [X.here.top, hx, hb, hdg, hmeth', hr, ret, narrow_b1]
  (try refine ⟨rfl, ?_⟩); (try refine ⟨rfl, ?_⟩)
  first | (intro acts; rw [hret _ acts rfl rfl rfl]) | rw [hret _ _ rfl rfl rfl]
  exact Steps.refl _
/-- what holds at the law's entry: the machine, the code, the tables' words (any of lw_tbl by 'hts w (by decide +kernel)'), the script of L ints xs at the cell b, what the Statement gives of the start (any of its parts by flat_of_before) -/
def lw_At (p : Program) (s : State) (m : MethodId) (meth : Method) (c : Code) (b L : Nat) (xs : Nat → Int32) : Prop :=
  p.tables.exec = Jvm.exec ∧ c.code = code ∧ meth.sig.returnType = ret ∧ c.maxLocals = 4 ∧ s.vm.findClass R_law = some m.cls ∧ (∀ w ∈ lw_tbl, w.before #[Value.ref b] s = true) ∧ va_X b L xs s s.heap ∧ b < s.heap.size ∧ meth.locks = false ∧ (Jvm.Cond.and given_1 narrow_1).before #[Value.ref b] s = true
/-- the law's body in the pure machine, from its start: an empty memory, the script's address apart -/
def law_pure (b L : Nat) (xs : Nat → Int32) : Prop := kc_X (ct_Lw_law b L xs) (kc_Y kt kC 40) (fun v _ => v = some (.int 1)) 0 [some (.retAddr b), none, none, none] [] (fun _ => none, some 0) (600000, 7302250)
theorem kw_in {w : Cond} (h : w ∈ kw_A) : w ∈ lw_tbl := (List.mem_filter.mp h).1
theorem kc_arr {s : State} {ty : FieldType} (h : (Cond.arrayClass ty).before #[] s = true) : ∃ cA : ClassId, ArrOfT s cA ty ∧ s.vm.findClass ("[" ++ ty.toString) = some cA := by
  obtain ⟨c, k, comp, h1, h2, h3⟩ := Cond.arrayClass_spec h
  exact ⟨c, fun n z => ⟨fun k h => (by cases h), k, h2, comp, h3⟩, h1⟩
theorem kc_arq {s : State} {C : String} (h : (Cond.arrayOver (.object C)).before #[] s = true) : ∃ cA : ClassId, ArrOfT s cA (.object C) ∧ va_RA s cA (.object C) := by
  obtain ⟨comp, c, k, h1, h2, h3, h4, h5⟩ := Cond.arrayOver_spec h
  exact ⟨c, fun n z => ⟨fun k h => (by cases h), k, h3, comp, h4⟩, k, comp, h3, h4, h1, h5⟩
set_option maxRecDepth 100000 in
theorem kw_nin {s : State} {args : Array Value} (hts : ∀ w ∈ lw_tbl, w.before args s = true) : ∀ w ∈ kw_N, va_Nw w s := List.forall_mem_cons.mpr ⟨va_Nw.of rfl (hts _ (List.mem_append_right _ (show _ ∈ tables_1 from List.mem_append_left _ (List.mem_of_getElem? (i := 24) rfl)))), List.forall_mem_cons.mpr ⟨va_Nw.of rfl (hts _ (List.mem_append_right _ (show _ ∈ tables_1 from List.mem_append_left _ (List.mem_of_getElem? (i := 65) rfl)))), List.forall_mem_cons.mpr ⟨va_AO.of (hts _ (List.mem_append_right _ (show _ ∈ tables_1 from List.mem_append_left _ (List.mem_of_getElem? (i := 85) rfl)))), List.forall_mem_cons.mpr ⟨va_Nw.of rfl (hts _ (List.mem_append_right _ (show _ ∈ tables_1 from List.mem_append_left _ (List.mem_of_getElem? (i := 87) rfl)))), List.forall_mem_cons.mpr ⟨va_Nw.of rfl (hts _ (List.mem_append_right _ (show _ ∈ tables_1 from List.mem_append_left _ (List.mem_of_getElem? (i := 93) rfl)))), List.forall_mem_cons.mpr ⟨va_Nw.of rfl (hts _ (List.mem_append_right _ (show _ ∈ tables_1 from List.mem_append_left _ (List.mem_of_getElem? (i := 170) rfl)))), List.forall_mem_cons.mpr ⟨va_Nw.of rfl (hts _ (List.mem_append_right _ (show _ ∈ tables_1 from List.mem_append_left _ (List.mem_of_getElem? (i := 173) rfl)))), List.forall_mem_cons.mpr ⟨va_Nw.of rfl (hts _ (List.mem_append_right _ (show _ ∈ tables_1 from List.mem_append_left _ (List.mem_of_getElem? (i := 198) rfl)))), List.forall_mem_cons.mpr ⟨va_Nw.of rfl (hts _ (List.mem_append_right _ (show _ ∈ tables_1 from List.mem_append_left _ (List.mem_of_getElem? (i := 218) rfl)))), fun _ h => absurd h List.not_mem_nil⟩⟩⟩⟩⟩⟩⟩⟩⟩
/-- the classes and array classes, as the tables have them -/
theorem kc_start {s : State} {args : Array Value} (hts : ∀ w ∈ lw_tbl, w.before args s = true) : ∃ (D : va_G) (cA : Nat → ClassId), kc_K D kt_cl kt_En kw_N cA s := by
  have hA : ∀ w ∈ kw_A, w.before args s = true := fun w hw => hts w (kw_in hw)
  have hN : ∀ w ∈ kw_N, va_Nw w s := kw_nin hts
  obtain ⟨c0, i0, k0⟩ := u_known (C := "DirectoryDesk") (T := kF_Dk) (N := 10) (n := 10) hA kin_Dk (hA _ (kw1 15 rfl rfl))
  obtain ⟨c1, i1, k1⟩ := u_known (C := "DirectoryDesk$Reader") (T := kF_Rd) (N := 8) (n := 8) hA kin_Rd (hA _ (kw1 23 rfl rfl))
  obtain ⟨c2, i2, k2⟩ := u_known (C := "DirectoryDesk$Writer") (T := kF_Wr) (N := 2) (n := 2) hA kin_Wr (hA _ (kw1 64 rfl rfl))
  obtain ⟨c3, i3, k3⟩ := u_known (C := "DirectoryDesk$Tree") (T := kF_Tr) (N := 2) (n := 2) hA kin_Tr (hA _ (kw1 79 rfl rfl))
  obtain ⟨c4, i4, k4⟩ := u_known (C := "DirectoryDesk$Entry") (T := kF_En) (N := 2) (n := 2) hA kin_En (hA _ (kw1 86 rfl rfl))
  obtain ⟨c5, i5, k5⟩ := u_known (C := "DirectoryDesk$Name") (T := kF_Nm) (N := 3) (n := 3) hA kin_Nm (hA _ (kw1 92 rfl rfl))
  obtain ⟨c6, i6, k6⟩ := u_known (C := "DirectoryDesk$Pairs") (T := kF_Pa) (N := 3) (n := 3) hA kin_Pa (hA _ (kw1 117 rfl rfl))
  obtain ⟨c7, i7, k7⟩ := u_known (C := "DirectoryDesk$Changes") (T := kF_Ch) (N := 6) (n := 6) hA kin_Ch (hA _ (kw1 172 rfl rfl))
  obtain ⟨c8, i8, k8⟩ := u_known (C := "DirectoryDesk$Query") (T := kF_Qu) (N := 4) (n := 4) hA kin_Qu (hA _ (kw1 197 rfl rfl))
  obtain ⟨c9, i9, k9⟩ := u_known (C := "DirectoryDesk$Filters") (T := kF_Fi) (N := 5) (n := 5) hA kin_Fi (hA _ (kw1 217 rfl rfl))
  obtain ⟨c10, i10, k10⟩ := u_known (C := "DirectoryDeskModel") (T := kF_Md) (N := 52) (n := 52) hA kin_Md (hA _ (kw3 176 rfl rfl))
  obtain ⟨aI, f1, f2⟩ := kc_arr (s := s) (ty := .int) (word_at (State.WarmedH.refl s) (kw_g _ (kw1 62 rfl rfl)).2 (hA _ (kw1 62 rfl rfl)))
  obtain ⟨aJ, f3, f4⟩ := kc_arr (s := s) (ty := .long) (word_at (State.WarmedH.refl s) (kw_g _ (kw1 115 rfl rfl)).2 (hA _ (kw1 115 rfl rfl)))
  obtain ⟨aQ, f5, f6⟩ := kc_arq (s := s) (C := kt_En) (hN _ (List.mem_of_getElem? (i := 2) rfl))
  refine ⟨(fun c => match c with | 0 => c0 | 1 => c1 | 2 => c2 | 3 => c3 | 4 => c4 | 5 => c5 | 6 => c6 | 7 => c7 | 8 => c8 | 9 => c9 | _ => c10, fun c => match c with | 0 => i0 | 1 => i1 | 2 => i2 | 3 => i3 | 4 => i4 | 5 => i5 | 6 => i6 | 7 => i7 | 8 => i8 | 9 => i9 | _ => i10), fun k => match k with | 0 => aI | 1 => aJ | _ => aQ, ⟨fun c q hq => ?_, fun k q hq => ?_⟩, hN⟩
  · match c, hq with
    | 0, hq => cases hq; exact k0
    | 1, hq => cases hq; exact k1
    | 2, hq => cases hq; exact k2
    | 3, hq => cases hq; exact k3
    | 4, hq => cases hq; exact k4
    | 5, hq => cases hq; exact k5
    | 6, hq => cases hq; exact k6
    | 7, hq => cases hq; exact k7
    | 8, hq => cases hq; exact k8
    | 9, hq => cases hq; exact k9
    | 10, hq => cases hq; exact k10
    | n + 11, hq => simp at hq
  · match k, hq with
    | 0, hq => cases hq; exact ⟨f1, f2⟩
    | 1, hq => cases hq; exact ⟨f3, f4⟩
    | 2, hq => cases hq; exact ⟨f5, f6⟩
    | n + 3, hq => simp [kc_tys] at hq
set_option maxHeartbeats 4000000 in
/-- the walk of the law's body, out of its run in the pure machine -/
theorem law_start {p : Program} {e : Env} {s : State} {m : MethodId} {below : List Frame} {meth : Method} {c : Code} (l : Launch) {b L : Nat} {xs : Nat → Int32} (hp : law_pure b L xs) (C0 : lw_At p s m meth c b L xs) : W p l e room_1 s m #[Value.ref b] below meth c s.heap [] 0 0 (lw_Z below #[Value.ref b] s) (entryFrame m ([Value.ref b] : List Value).toArray 4) := by
  obtain ⟨hx, hb, hr, hml, hown, hts, hX, hbl, hlk, hgv⟩ := C0
  obtain ⟨D, cA, hK⟩ := kc_start hts
  have hctx : kc_ctx kw_A kw_N kt_cl kt_En "DirectoryDeskLaw" code 4 (some .boolean) meth.name (some (b, L, xs)) D cA s.heap.size p s m #[Value.ref b] meth c :=
    ⟨⟨hx, hb, hml, hown, fun w hw => hts w (kw_in hw)⟩, hK, Nat.le_refl _, hr, hlk, rfl, fun _ _ _ h => by cases h; exact ⟨hX, hbl, hbl⟩⟩
  have hl := kc_h.en (lv_entry ([Value.ref b] : List Value) (n := 4) (Nat.le_of_ble_eq_true rfl))
  rw [lg_entry_eq]
  have hP : kc_P D kt_cl cA s.heap.size (fun _ => none, some 0) s.heap := ⟨fun n hn => by cases hn; rfl, fun a e h => by cases h⟩
  have hrr : kc_rr l D kt_cl cA s.heap.size 600000 7302250 room_1 (lw_Z below #[Value.ref b] s) (fun v _ => v = some (.int 1)) code (some .boolean) p e s m #[Value.ref b] below meth c := by
    intro v μ' H locs cells slots ls pc i hvt hd hq hp hs hc1 hc2
    subst hq
    have hi : i = .ireturn := by
      rcases hvt with ⟨h0, -⟩ | ⟨h0, -⟩ | ⟨-, rfl, -⟩ | ⟨h0, -⟩
      · cases h0
      · cases h0
      · rfl
      · cases h0
    subst hi
    refine W.widen (k := 600000) (n := 7302250) hc1 hc2 ?_
    exact va_forget (fun q hq => hs.2.2 q hq) (lw_ret hx hb hr hlk hd)
  exact hp (kc_W l D kt_cl cA s.heap.size 4 600000 7302250 room_1 (lw_Z below #[Value.ref b] s) p e s m #[Value.ref b] below meth c)
    (fun pc L' st μ B k hk ha => s_Lw_law b L xs meth.name pc l D cA s.heap.size 40 600000 7302250 room_1 (lw_Z below #[Value.ref b] s) (fun v _ => v = some (.int 1)) p e s m #[Value.ref b] below meth c hctx ⟨by decide, by decide, by decide, by decide⟩ hrr (kc_Y kt kC 40) (kc_main kS l D cA s.heap.size 40) L' st μ B k hk ha)
    _ s.heap [] 0 0 hl hP va_S.rf (by decide) (by decide)
