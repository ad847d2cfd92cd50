/-! the JVM follows each instruction -/
theorem sm_no {T : kt_T} {wsA wsN : List Cond} {cl : List vw_C} {En own : String} {cc : ByteArray} {nL : Nat} {ret : Option FieldType} {nm : String} {Xs : Option (Nat × Nat × (Nat → Int32))} {pc : Nat} : kc_Sim T wsA wsN cl En own cc nL ret nm Xs pc ka_no := by
  intro l D cA b0 d mc ms R Z Q p e s m args below meth c hc hrm hrr Rr hR L st μ B k hk ha
  exact ha.elim
theorem sm_iconst {T : kt_T} {wsA wsN : List Cond} {cl : List vw_C} {En own : String} {cc : ByteArray} {nL : Nat} {ret : Option FieldType} {nm : String} {Xs : Option (Nat × Nat × (Nat → Int32))} {pc : Nat} {n : Int} {v : Int32} (hd : decode cc pc = .ok (.iconst n, 1)) (hv : Int32.ofInt n = v) : kc_Sim T wsA wsN cl En own cc nL ret nm Xs pc (ka_ci v 1) := by
  intro l D cA b0 d mc ms R Z Q p e s m args below meth c hc hrm hrr Rr hR L st μ B k hk ha ls H locs cells slots hl hP hS h1 h2
  obtain ⟨⟨hx, hb, hml, hown, hts⟩, hKN, hb0, hret, hlk, hnm, hXs⟩ := hc
  obtain ⟨hr1, hr2, hr3, hr4⟩ := hrm
  have hK := hKN.1
  exact lv_iconst hx hb hd hv (hk _ _ _ _ _ ha ls H locs cells slots hl hP hS h1 h2)
theorem sm_bipush {T : kt_T} {wsA wsN : List Cond} {cl : List vw_C} {En own : String} {cc : ByteArray} {nL : Nat} {ret : Option FieldType} {nm : String} {Xs : Option (Nat × Nat × (Nat → Int32))} {pc : Nat} {n : Int} {v : Int32} (hd : decode cc pc = .ok (.bipush n, 2)) (hv : (Int8.ofInt n).toInt32 = v) : kc_Sim T wsA wsN cl En own cc nL ret nm Xs pc (ka_ci v 2) := by
  intro l D cA b0 d mc ms R Z Q p e s m args below meth c hc hrm hrr Rr hR L st μ B k hk ha ls H locs cells slots hl hP hS h1 h2
  obtain ⟨⟨hx, hb, hml, hown, hts⟩, hKN, hb0, hret, hlk, hnm, hXs⟩ := hc
  obtain ⟨hr1, hr2, hr3, hr4⟩ := hrm
  have hK := hKN.1
  exact lv_bipush hx hb hd hv (hk _ _ _ _ _ ha ls H locs cells slots hl hP hS h1 h2)
theorem sm_sipush {T : kt_T} {wsA wsN : List Cond} {cl : List vw_C} {En own : String} {cc : ByteArray} {nL : Nat} {ret : Option FieldType} {nm : String} {Xs : Option (Nat × Nat × (Nat → Int32))} {pc : Nat} {n : Int} {v : Int32} (hd : decode cc pc = .ok (.sipush n, 3)) (hv : (Int16.ofInt n).toInt32 = v) : kc_Sim T wsA wsN cl En own cc nL ret nm Xs pc (ka_ci v 3) := by
  intro l D cA b0 d mc ms R Z Q p e s m args below meth c hc hrm hrr Rr hR L st μ B k hk ha ls H locs cells slots hl hP hS h1 h2
  obtain ⟨⟨hx, hb, hml, hown, hts⟩, hKN, hb0, hret, hlk, hnm, hXs⟩ := hc
  obtain ⟨hr1, hr2, hr3, hr4⟩ := hrm
  have hK := hKN.1
  exact lv_sipush hx hb hd hv (hk _ _ _ _ _ ha ls H locs cells slots hl hP hS h1 h2)
theorem sm_ldc {T : kt_T} {wsA wsN : List Cond} {cl : List vw_C} {En own : String} {cc : ByteArray} {nL : Nat} {ret : Option FieldType} {nm : String} {Xs : Option (Nat × Nat × (Nat → Int32))} {pc : Nat} {i : Nat} {v : Int32} (hd : decode cc pc = .ok (.ldc i, 2)) (hw : Cond.constant own i v ∈ wsA) : kc_Sim T wsA wsN cl En own cc nL ret nm Xs pc (ka_ci v 2) := by
  intro l D cA b0 d mc ms R Z Q p e s m args below meth c hc hrm hrr Rr hR L st μ B k hk ha ls H locs cells slots hl hP hS h1 h2
  obtain ⟨⟨hx, hb, hml, hown, hts⟩, hKN, hb0, hret, hlk, hnm, hXs⟩ := hc
  obtain ⟨hr1, hr2, hr3, hr4⟩ := hrm
  have hK := hKN.1
  exact lv_ldc hx hb hown (hts _ hw) hd (hk _ _ _ _ _ ha ls H locs cells slots hl hP hS h1 h2)
theorem sm_lconst {T : kt_T} {wsA wsN : List Cond} {cl : List vw_C} {En own : String} {cc : ByteArray} {nL : Nat} {ret : Option FieldType} {nm : String} {Xs : Option (Nat × Nat × (Nat → Int32))} {pc : Nat} {n : Fin 2} {v : Int64} (hd : decode cc pc = .ok (.lconst n, 1)) (hv : Int64.ofNat (n : Nat) = v) : kc_Sim T wsA wsN cl En own cc nL ret nm Xs pc (ka_cl v 1) := by
  intro l D cA b0 d mc ms R Z Q p e s m args below meth c hc hrm hrr Rr hR L st μ B k hk ha ls H locs cells slots hl hP hS h1 h2
  obtain ⟨⟨hx, hb, hml, hown, hts⟩, hKN, hb0, hret, hlk, hnm, hXs⟩ := hc
  obtain ⟨hr1, hr2, hr3, hr4⟩ := hrm
  have hK := hKN.1
  exact lv_lconst hx hb hd hv (hk _ _ _ _ _ ha ls H locs cells slots hl hP hS h1 h2)
theorem sm_ldc2 {T : kt_T} {wsA wsN : List Cond} {cl : List vw_C} {En own : String} {cc : ByteArray} {nL : Nat} {ret : Option FieldType} {nm : String} {Xs : Option (Nat × Nat × (Nat → Int32))} {pc : Nat} {i : Nat} {v : Int64} (hd : decode cc pc = .ok (.ldc2_w i, 3)) (hw : Cond.constantLong own i v ∈ wsA) : kc_Sim T wsA wsN cl En own cc nL ret nm Xs pc (ka_cl v 3) := by
  intro l D cA b0 d mc ms R Z Q p e s m args below meth c hc hrm hrr Rr hR L st μ B k hk ha ls H locs cells slots hl hP hS h1 h2
  obtain ⟨⟨hx, hb, hml, hown, hts⟩, hKN, hb0, hret, hlk, hnm, hXs⟩ := hc
  obtain ⟨hr1, hr2, hr3, hr4⟩ := hrm
  have hK := hKN.1
  exact lv_ldc2 hx hb hown (hts _ hw) hd (hk _ _ _ _ _ ha ls H locs cells slots hl hP hS h1 h2)
theorem sm_iload_n {T : kt_T} {wsA wsN : List Cond} {cl : List vw_C} {En own : String} {cc : ByteArray} {nL : Nat} {ret : Option FieldType} {nm : String} {Xs : Option (Nat × Nat × (Nat → Int32))} {pc : Nat} {q : Fin 4} {i : Nat} (hd : decode cc pc = .ok (.iload_n q, 1)) (hi : (q : Nat) = i) : kc_Sim T wsA wsN cl En own cc nL ret nm Xs pc (ka_il i 1) := by
  intro l D cA b0 d mc ms R Z Q p e s m args below meth c hc hrm hrr Rr hR L st μ B k hk ha ls H locs cells slots hl hP hS h1 h2
  obtain ⟨⟨hx, hb, hml, hown, hts⟩, hKN, hb0, hret, hlk, hnm, hXs⟩ := hc
  obtain ⟨hr1, hr2, hr3, hr4⟩ := hrm
  have hK := hKN.1
  obtain ⟨x, hx1, ha⟩ := ha
  exact lv_iload_n hx hb hd hi (hl.2.2 _ _ (by rw [kc_tl_at, hx1]; rfl)) (hk _ _ _ _ _ ha ls H locs cells slots hl hP hS h1 h2)
theorem sm_iload {T : kt_T} {wsA wsN : List Cond} {cl : List vw_C} {En own : String} {cc : ByteArray} {nL : Nat} {ret : Option FieldType} {nm : String} {Xs : Option (Nat × Nat × (Nat → Int32))} {pc : Nat} {i : Nat} (hd : decode cc pc = .ok (.iload i, 2)) : kc_Sim T wsA wsN cl En own cc nL ret nm Xs pc (ka_il i 2) := by
  intro l D cA b0 d mc ms R Z Q p e s m args below meth c hc hrm hrr Rr hR L st μ B k hk ha ls H locs cells slots hl hP hS h1 h2
  obtain ⟨⟨hx, hb, hml, hown, hts⟩, hKN, hb0, hret, hlk, hnm, hXs⟩ := hc
  obtain ⟨hr1, hr2, hr3, hr4⟩ := hrm
  have hK := hKN.1
  obtain ⟨x, hx1, ha⟩ := ha
  exact lv_iload hx hb hd (hl.2.2 _ _ (by rw [kc_tl_at, hx1]; rfl)) (hk _ _ _ _ _ ha ls H locs cells slots hl hP hS h1 h2)
theorem sm_istore_n {T : kt_T} {wsA wsN : List Cond} {cl : List vw_C} {En own : String} {cc : ByteArray} {nL : Nat} {ret : Option FieldType} {nm : String} {Xs : Option (Nat × Nat × (Nat → Int32))} {pc : Nat} {q : Fin 4} {i : Nat} (hd : decode cc pc = .ok (.istore_n q, 1)) (hi : (q : Nat) = i) (hn : i < nL) : kc_Sim T wsA wsN cl En own cc nL ret nm Xs pc (ka_is i 1) := by
  intro l D cA b0 d mc ms R Z Q p e s m args below meth c hc hrm hrr Rr hR L st μ B k hk ha ls H locs cells slots hl hP hS h1 h2
  obtain ⟨⟨hx, hb, hml, hown, hts⟩, hKN, hb0, hret, hlk, hnm, hXs⟩ := hc
  obtain ⟨hr1, hr2, hr3, hr4⟩ := hrm
  have hK := hKN.1
  obtain ⟨x, r, rfl, ha⟩ := ha
  refine lv_istore_n hx hb hd hi hl.lv hn rfl (fun ls' hl' => ?_)
  exact hk _ _ _ _ _ ha ls' H locs cells slots (by rw [← kc_tl_s1]; exact kc_h.s1 hl') hP hS h1 h2
theorem sm_istore {T : kt_T} {wsA wsN : List Cond} {cl : List vw_C} {En own : String} {cc : ByteArray} {nL : Nat} {ret : Option FieldType} {nm : String} {Xs : Option (Nat × Nat × (Nat → Int32))} {pc : Nat} {i : Nat} (hd : decode cc pc = .ok (.istore i, 2)) (hn : i < nL) : kc_Sim T wsA wsN cl En own cc nL ret nm Xs pc (ka_is i 2) := by
  intro l D cA b0 d mc ms R Z Q p e s m args below meth c hc hrm hrr Rr hR L st μ B k hk ha ls H locs cells slots hl hP hS h1 h2
  obtain ⟨⟨hx, hb, hml, hown, hts⟩, hKN, hb0, hret, hlk, hnm, hXs⟩ := hc
  obtain ⟨hr1, hr2, hr3, hr4⟩ := hrm
  have hK := hKN.1
  obtain ⟨x, r, rfl, ha⟩ := ha
  refine lv_istore hx hb hd hl.lv hn rfl (fun ls' hl' => ?_)
  exact hk _ _ _ _ _ ha ls' H locs cells slots (by rw [← kc_tl_s1]; exact kc_h.s1 hl') hP hS h1 h2
theorem sm_lload_n {T : kt_T} {wsA wsN : List Cond} {cl : List vw_C} {En own : String} {cc : ByteArray} {nL : Nat} {ret : Option FieldType} {nm : String} {Xs : Option (Nat × Nat × (Nat → Int32))} {pc : Nat} {q : Fin 4} {i : Nat} (hd : decode cc pc = .ok (.lload_n q, 1)) (hi : (q : Nat) = i) : kc_Sim T wsA wsN cl En own cc nL ret nm Xs pc (ka_ll i 1) := by
  intro l D cA b0 d mc ms R Z Q p e s m args below meth c hc hrm hrr Rr hR L st μ B k hk ha ls H locs cells slots hl hP hS h1 h2
  obtain ⟨⟨hx, hb, hml, hown, hts⟩, hKN, hb0, hret, hlk, hnm, hXs⟩ := hc
  obtain ⟨hr1, hr2, hr3, hr4⟩ := hrm
  have hK := hKN.1
  obtain ⟨x, hx1, ha⟩ := ha
  exact lv_lload_n hx hb hd hi (hl.2.2 _ _ (by rw [kc_tl_at, hx1]; rfl)) (hk _ _ _ _ _ ha ls H locs cells slots hl hP hS h1 h2)
theorem sm_lload {T : kt_T} {wsA wsN : List Cond} {cl : List vw_C} {En own : String} {cc : ByteArray} {nL : Nat} {ret : Option FieldType} {nm : String} {Xs : Option (Nat × Nat × (Nat → Int32))} {pc : Nat} {i : Nat} (hd : decode cc pc = .ok (.lload i, 2)) : kc_Sim T wsA wsN cl En own cc nL ret nm Xs pc (ka_ll i 2) := by
  intro l D cA b0 d mc ms R Z Q p e s m args below meth c hc hrm hrr Rr hR L st μ B k hk ha ls H locs cells slots hl hP hS h1 h2
  obtain ⟨⟨hx, hb, hml, hown, hts⟩, hKN, hb0, hret, hlk, hnm, hXs⟩ := hc
  obtain ⟨hr1, hr2, hr3, hr4⟩ := hrm
  have hK := hKN.1
  obtain ⟨x, hx1, ha⟩ := ha
  exact lv_lload hx hb hd (hl.2.2 _ _ (by rw [kc_tl_at, hx1]; rfl)) (hk _ _ _ _ _ ha ls H locs cells slots hl hP hS h1 h2)
theorem sm_lstore_n {T : kt_T} {wsA wsN : List Cond} {cl : List vw_C} {En own : String} {cc : ByteArray} {nL : Nat} {ret : Option FieldType} {nm : String} {Xs : Option (Nat × Nat × (Nat → Int32))} {pc : Nat} {q : Fin 4} {i : Nat} (hd : decode cc pc = .ok (.lstore_n q, 1)) (hi : (q : Nat) = i) (hn : i + 1 < nL) : kc_Sim T wsA wsN cl En own cc nL ret nm Xs pc (ka_ls i 1) := by
  intro l D cA b0 d mc ms R Z Q p e s m args below meth c hc hrm hrr Rr hR L st μ B k hk ha ls H locs cells slots hl hP hS h1 h2
  obtain ⟨⟨hx, hb, hml, hown, hts⟩, hKN, hb0, hret, hlk, hnm, hXs⟩ := hc
  obtain ⟨hr1, hr2, hr3, hr4⟩ := hrm
  have hK := hKN.1
  obtain ⟨x, r, rfl, ha⟩ := ha
  refine lv_lstore_n hx hb hd hi hl.lv hn rfl (fun ls' hl' => ?_)
  exact hk _ _ _ _ _ ha ls' H locs cells slots (by rw [← kc_tl_s2]; exact kc_h.s2 hl') hP hS h1 h2
theorem sm_lstore {T : kt_T} {wsA wsN : List Cond} {cl : List vw_C} {En own : String} {cc : ByteArray} {nL : Nat} {ret : Option FieldType} {nm : String} {Xs : Option (Nat × Nat × (Nat → Int32))} {pc : Nat} {i : Nat} (hd : decode cc pc = .ok (.lstore i, 2)) (hn : i + 1 < nL) : kc_Sim T wsA wsN cl En own cc nL ret nm Xs pc (ka_ls i 2) := by
  intro l D cA b0 d mc ms R Z Q p e s m args below meth c hc hrm hrr Rr hR L st μ B k hk ha ls H locs cells slots hl hP hS h1 h2
  obtain ⟨⟨hx, hb, hml, hown, hts⟩, hKN, hb0, hret, hlk, hnm, hXs⟩ := hc
  obtain ⟨hr1, hr2, hr3, hr4⟩ := hrm
  have hK := hKN.1
  obtain ⟨x, r, rfl, ha⟩ := ha
  refine lv_lstore hx hb hd hl.lv hn rfl (fun ls' hl' => ?_)
  exact hk _ _ _ _ _ ha ls' H locs cells slots (by rw [← kc_tl_s2]; exact kc_h.s2 hl') hP hS h1 h2
theorem sm_aload_n {T : kt_T} {wsA wsN : List Cond} {cl : List vw_C} {En own : String} {cc : ByteArray} {nL : Nat} {ret : Option FieldType} {nm : String} {Xs : Option (Nat × Nat × (Nat → Int32))} {pc : Nat} {q : Fin 4} {i : Nat} (hd : decode cc pc = .ok (.aload_n q, 1)) (hi : (q : Nat) = i) : kc_Sim T wsA wsN cl En own cc nL ret nm Xs pc (ka_al i 1) := by
  intro l D cA b0 d mc ms R Z Q p e s m args below meth c hc hrm hrr Rr hR L st μ B k hk ha ls H locs cells slots hl hP hS h1 h2
  obtain ⟨⟨hx, hb, hml, hown, hts⟩, hKN, hb0, hret, hlk, hnm, hXs⟩ := hc
  obtain ⟨hr1, hr2, hr3, hr4⟩ := hrm
  have hK := hKN.1
  obtain ⟨x, hx1, ha⟩ := ha
  exact lv_aload_n hx hb hd hi (hl.2.2 _ _ (by rw [kc_tl_at, hx1]; rfl)) (hk _ _ _ _ _ ha ls H locs cells slots hl hP hS h1 h2)
theorem sm_aload {T : kt_T} {wsA wsN : List Cond} {cl : List vw_C} {En own : String} {cc : ByteArray} {nL : Nat} {ret : Option FieldType} {nm : String} {Xs : Option (Nat × Nat × (Nat → Int32))} {pc : Nat} {i : Nat} (hd : decode cc pc = .ok (.aload i, 2)) : kc_Sim T wsA wsN cl En own cc nL ret nm Xs pc (ka_al i 2) := by
  intro l D cA b0 d mc ms R Z Q p e s m args below meth c hc hrm hrr Rr hR L st μ B k hk ha ls H locs cells slots hl hP hS h1 h2
  obtain ⟨⟨hx, hb, hml, hown, hts⟩, hKN, hb0, hret, hlk, hnm, hXs⟩ := hc
  obtain ⟨hr1, hr2, hr3, hr4⟩ := hrm
  have hK := hKN.1
  obtain ⟨x, hx1, ha⟩ := ha
  exact lv_aload hx hb hd (hl.2.2 _ _ (by rw [kc_tl_at, hx1]; rfl)) (hk _ _ _ _ _ ha ls H locs cells slots hl hP hS h1 h2)
theorem sm_astore_n {T : kt_T} {wsA wsN : List Cond} {cl : List vw_C} {En own : String} {cc : ByteArray} {nL : Nat} {ret : Option FieldType} {nm : String} {Xs : Option (Nat × Nat × (Nat → Int32))} {pc : Nat} {q : Fin 4} {i : Nat} (hd : decode cc pc = .ok (.astore_n q, 1)) (hi : (q : Nat) = i) (hn : i < nL) : kc_Sim T wsA wsN cl En own cc nL ret nm Xs pc (ka_as i 1) := by
  intro l D cA b0 d mc ms R Z Q p e s m args below meth c hc hrm hrr Rr hR L st μ B k hk ha ls H locs cells slots hl hP hS h1 h2
  obtain ⟨⟨hx, hb, hml, hown, hts⟩, hKN, hb0, hret, hlk, hnm, hXs⟩ := hc
  obtain ⟨hr1, hr2, hr3, hr4⟩ := hrm
  have hK := hKN.1
  obtain ⟨x, r, rfl, ha⟩ := ha
  refine lv_astore_n hx hb hd hi hl.lv hn rfl (fun ls' hl' => ?_)
  exact hk _ _ _ _ _ ha ls' H locs cells slots (by rw [← kc_tl_s1]; exact kc_h.s1 hl') hP hS h1 h2
theorem sm_astore {T : kt_T} {wsA wsN : List Cond} {cl : List vw_C} {En own : String} {cc : ByteArray} {nL : Nat} {ret : Option FieldType} {nm : String} {Xs : Option (Nat × Nat × (Nat → Int32))} {pc : Nat} {i : Nat} (hd : decode cc pc = .ok (.astore i, 2)) (hn : i < nL) : kc_Sim T wsA wsN cl En own cc nL ret nm Xs pc (ka_as i 2) := by
  intro l D cA b0 d mc ms R Z Q p e s m args below meth c hc hrm hrr Rr hR L st μ B k hk ha ls H locs cells slots hl hP hS h1 h2
  obtain ⟨⟨hx, hb, hml, hown, hts⟩, hKN, hb0, hret, hlk, hnm, hXs⟩ := hc
  obtain ⟨hr1, hr2, hr3, hr4⟩ := hrm
  have hK := hKN.1
  obtain ⟨x, r, rfl, ha⟩ := ha
  refine lv_astore hx hb hd hl.lv hn rfl (fun ls' hl' => ?_)
  exact hk _ _ _ _ _ ha ls' H locs cells slots (by rw [← kc_tl_s1]; exact kc_h.s1 hl') hP hS h1 h2
theorem sm_inc {T : kt_T} {wsA wsN : List Cond} {cl : List vw_C} {En own : String} {cc : ByteArray} {nL : Nat} {ret : Option FieldType} {nm : String} {Xs : Option (Nat × Nat × (Nat → Int32))} {pc : Nat} {i : Nat} {n : Int} {v : Int32} (hd : decode cc pc = .ok (.iinc i n, 3)) (hv : Int32.ofInt n = v) (hn : i < nL) : kc_Sim T wsA wsN cl En own cc nL ret nm Xs pc (ka_inc i v) := by
  intro l D cA b0 d mc ms R Z Q p e s m args below meth c hc hrm hrr Rr hR L st μ B k hk ha ls H locs cells slots hl hP hS h1 h2
  obtain ⟨⟨hx, hb, hml, hown, hts⟩, hKN, hb0, hret, hlk, hnm, hXs⟩ := hc
  obtain ⟨hr1, hr2, hr3, hr4⟩ := hrm
  have hK := hKN.1
  obtain ⟨x, hx1, ha⟩ := ha
  have hm := kc_at_pr (kc_tl b0 L) 0 i (.int x) (by rw [kc_tl_at, hx1]; rfl)
  rw [Nat.zero_add] at hm
  obtain ⟨q, hq⟩ := List.getElem?_of_mem hm
  subst hv
  refine lv_iinc hx hb hd hl.lv hq rfl hn rfl (fun ls' hl' => ?_)
  exact hk _ _ _ _ _ ha ls' H locs cells slots (by rw [← kc_tl_s1]; exact kc_h.s1 hl') hP hS h1 h2
theorem sm_iadd {T : kt_T} {wsA wsN : List Cond} {cl : List vw_C} {En own : String} {cc : ByteArray} {nL : Nat} {ret : Option FieldType} {nm : String} {Xs : Option (Nat × Nat × (Nat → Int32))} {pc : Nat} (hd : decode cc pc = .ok (.iadd, 1)) : kc_Sim T wsA wsN cl En own cc nL ret nm Xs pc (ka_ii (fun x y => x + y)) := by
  intro l D cA b0 d mc ms R Z Q p e s m args below meth c hc hrm hrr Rr hR L st μ B k hk ha ls H locs cells slots hl hP hS h1 h2
  obtain ⟨⟨hx, hb, hml, hown, hts⟩, hKN, hb0, hret, hlk, hnm, hXs⟩ := hc
  obtain ⟨hr1, hr2, hr3, hr4⟩ := hrm
  have hK := hKN.1
  obtain ⟨x, y, r, rfl, ha⟩ := ha
  exact lv_iadd hx hb hd (hk _ _ _ _ _ ha ls H locs cells slots hl hP hS h1 h2)
theorem sm_isub {T : kt_T} {wsA wsN : List Cond} {cl : List vw_C} {En own : String} {cc : ByteArray} {nL : Nat} {ret : Option FieldType} {nm : String} {Xs : Option (Nat × Nat × (Nat → Int32))} {pc : Nat} (hd : decode cc pc = .ok (.isub, 1)) : kc_Sim T wsA wsN cl En own cc nL ret nm Xs pc (ka_ii (fun x y => x - y)) := by
  intro l D cA b0 d mc ms R Z Q p e s m args below meth c hc hrm hrr Rr hR L st μ B k hk ha ls H locs cells slots hl hP hS h1 h2
  obtain ⟨⟨hx, hb, hml, hown, hts⟩, hKN, hb0, hret, hlk, hnm, hXs⟩ := hc
  obtain ⟨hr1, hr2, hr3, hr4⟩ := hrm
  have hK := hKN.1
  obtain ⟨x, y, r, rfl, ha⟩ := ha
  exact lv_isub hx hb hd (hk _ _ _ _ _ ha ls H locs cells slots hl hP hS h1 h2)
theorem sm_imul {T : kt_T} {wsA wsN : List Cond} {cl : List vw_C} {En own : String} {cc : ByteArray} {nL : Nat} {ret : Option FieldType} {nm : String} {Xs : Option (Nat × Nat × (Nat → Int32))} {pc : Nat} (hd : decode cc pc = .ok (.imul, 1)) : kc_Sim T wsA wsN cl En own cc nL ret nm Xs pc (ka_ii (fun x y => x * y)) := by
  intro l D cA b0 d mc ms R Z Q p e s m args below meth c hc hrm hrr Rr hR L st μ B k hk ha ls H locs cells slots hl hP hS h1 h2
  obtain ⟨⟨hx, hb, hml, hown, hts⟩, hKN, hb0, hret, hlk, hnm, hXs⟩ := hc
  obtain ⟨hr1, hr2, hr3, hr4⟩ := hrm
  have hK := hKN.1
  obtain ⟨x, y, r, rfl, ha⟩ := ha
  exact lv_imul hx hb hd (hk _ _ _ _ _ ha ls H locs cells slots hl hP hS h1 h2)
theorem sm_iand {T : kt_T} {wsA wsN : List Cond} {cl : List vw_C} {En own : String} {cc : ByteArray} {nL : Nat} {ret : Option FieldType} {nm : String} {Xs : Option (Nat × Nat × (Nat → Int32))} {pc : Nat} (hd : decode cc pc = .ok (.iand, 1)) : kc_Sim T wsA wsN cl En own cc nL ret nm Xs pc (ka_ii (fun x y => x &&& y)) := by
  intro l D cA b0 d mc ms R Z Q p e s m args below meth c hc hrm hrr Rr hR L st μ B k hk ha ls H locs cells slots hl hP hS h1 h2
  obtain ⟨⟨hx, hb, hml, hown, hts⟩, hKN, hb0, hret, hlk, hnm, hXs⟩ := hc
  obtain ⟨hr1, hr2, hr3, hr4⟩ := hrm
  have hK := hKN.1
  obtain ⟨x, y, r, rfl, ha⟩ := ha
  exact lv_iand hx hb hd (hk _ _ _ _ _ ha ls H locs cells slots hl hP hS h1 h2)
theorem sm_ior {T : kt_T} {wsA wsN : List Cond} {cl : List vw_C} {En own : String} {cc : ByteArray} {nL : Nat} {ret : Option FieldType} {nm : String} {Xs : Option (Nat × Nat × (Nat → Int32))} {pc : Nat} (hd : decode cc pc = .ok (.ior, 1)) : kc_Sim T wsA wsN cl En own cc nL ret nm Xs pc (ka_ii (fun x y => x ||| y)) := by
  intro l D cA b0 d mc ms R Z Q p e s m args below meth c hc hrm hrr Rr hR L st μ B k hk ha ls H locs cells slots hl hP hS h1 h2
  obtain ⟨⟨hx, hb, hml, hown, hts⟩, hKN, hb0, hret, hlk, hnm, hXs⟩ := hc
  obtain ⟨hr1, hr2, hr3, hr4⟩ := hrm
  have hK := hKN.1
  obtain ⟨x, y, r, rfl, ha⟩ := ha
  exact lv_ior hx hb hd (hk _ _ _ _ _ ha ls H locs cells slots hl hP hS h1 h2)
theorem sm_ixor {T : kt_T} {wsA wsN : List Cond} {cl : List vw_C} {En own : String} {cc : ByteArray} {nL : Nat} {ret : Option FieldType} {nm : String} {Xs : Option (Nat × Nat × (Nat → Int32))} {pc : Nat} (hd : decode cc pc = .ok (.ixor, 1)) : kc_Sim T wsA wsN cl En own cc nL ret nm Xs pc (ka_ii (fun x y => x ^^^ y)) := by
  intro l D cA b0 d mc ms R Z Q p e s m args below meth c hc hrm hrr Rr hR L st μ B k hk ha ls H locs cells slots hl hP hS h1 h2
  obtain ⟨⟨hx, hb, hml, hown, hts⟩, hKN, hb0, hret, hlk, hnm, hXs⟩ := hc
  obtain ⟨hr1, hr2, hr3, hr4⟩ := hrm
  have hK := hKN.1
  obtain ⟨x, y, r, rfl, ha⟩ := ha
  exact lv_ixor hx hb hd (hk _ _ _ _ _ ha ls H locs cells slots hl hP hS h1 h2)
theorem sm_ishl {T : kt_T} {wsA wsN : List Cond} {cl : List vw_C} {En own : String} {cc : ByteArray} {nL : Nat} {ret : Option FieldType} {nm : String} {Xs : Option (Nat × Nat × (Nat → Int32))} {pc : Nat} (hd : decode cc pc = .ok (.ishl, 1)) : kc_Sim T wsA wsN cl En own cc nL ret nm Xs pc (ka_ii (fun x y => x <<< (y &&& 31))) := by
  intro l D cA b0 d mc ms R Z Q p e s m args below meth c hc hrm hrr Rr hR L st μ B k hk ha ls H locs cells slots hl hP hS h1 h2
  obtain ⟨⟨hx, hb, hml, hown, hts⟩, hKN, hb0, hret, hlk, hnm, hXs⟩ := hc
  obtain ⟨hr1, hr2, hr3, hr4⟩ := hrm
  have hK := hKN.1
  obtain ⟨x, y, r, rfl, ha⟩ := ha
  exact lv_ishl hx hb hd (hk _ _ _ _ _ ha ls H locs cells slots hl hP hS h1 h2)
theorem sm_ishr {T : kt_T} {wsA wsN : List Cond} {cl : List vw_C} {En own : String} {cc : ByteArray} {nL : Nat} {ret : Option FieldType} {nm : String} {Xs : Option (Nat × Nat × (Nat → Int32))} {pc : Nat} (hd : decode cc pc = .ok (.ishr, 1)) : kc_Sim T wsA wsN cl En own cc nL ret nm Xs pc (ka_ii (fun x y => x >>> (y &&& 31))) := by
  intro l D cA b0 d mc ms R Z Q p e s m args below meth c hc hrm hrr Rr hR L st μ B k hk ha ls H locs cells slots hl hP hS h1 h2
  obtain ⟨⟨hx, hb, hml, hown, hts⟩, hKN, hb0, hret, hlk, hnm, hXs⟩ := hc
  obtain ⟨hr1, hr2, hr3, hr4⟩ := hrm
  have hK := hKN.1
  obtain ⟨x, y, r, rfl, ha⟩ := ha
  exact lv_ishr hx hb hd (hk _ _ _ _ _ ha ls H locs cells slots hl hP hS h1 h2)
theorem sm_idiv {T : kt_T} {wsA wsN : List Cond} {cl : List vw_C} {En own : String} {cc : ByteArray} {nL : Nat} {ret : Option FieldType} {nm : String} {Xs : Option (Nat × Nat × (Nat → Int32))} {pc : Nat} (hd : decode cc pc = .ok (.idiv, 1)) : kc_Sim T wsA wsN cl En own cc nL ret nm Xs pc (ka_idiv) := by
  intro l D cA b0 d mc ms R Z Q p e s m args below meth c hc hrm hrr Rr hR L st μ B k hk ha ls H locs cells slots hl hP hS h1 h2
  obtain ⟨⟨hx, hb, hml, hown, hts⟩, hKN, hb0, hret, hlk, hnm, hXs⟩ := hc
  obtain ⟨hr1, hr2, hr3, hr4⟩ := hrm
  have hK := hKN.1
  obtain ⟨x, y, r, rfl, hy, ha⟩ := ha
  exact lv_idiv hx hb hd hy (hk _ _ _ _ _ ha ls H locs cells slots hl hP hS h1 h2)
theorem sm_irem {T : kt_T} {wsA wsN : List Cond} {cl : List vw_C} {En own : String} {cc : ByteArray} {nL : Nat} {ret : Option FieldType} {nm : String} {Xs : Option (Nat × Nat × (Nat → Int32))} {pc : Nat} (hd : decode cc pc = .ok (.irem, 1)) : kc_Sim T wsA wsN cl En own cc nL ret nm Xs pc (ka_irem) := by
  intro l D cA b0 d mc ms R Z Q p e s m args below meth c hc hrm hrr Rr hR L st μ B k hk ha ls H locs cells slots hl hP hS h1 h2
  obtain ⟨⟨hx, hb, hml, hown, hts⟩, hKN, hb0, hret, hlk, hnm, hXs⟩ := hc
  obtain ⟨hr1, hr2, hr3, hr4⟩ := hrm
  have hK := hKN.1
  obtain ⟨x, y, r, rfl, hy, ha⟩ := ha
  exact lv_irem hx hb hd hy (hk _ _ _ _ _ ha ls H locs cells slots hl hP hS h1 h2)
theorem sm_ladd {T : kt_T} {wsA wsN : List Cond} {cl : List vw_C} {En own : String} {cc : ByteArray} {nL : Nat} {ret : Option FieldType} {nm : String} {Xs : Option (Nat × Nat × (Nat → Int32))} {pc : Nat} (hd : decode cc pc = .ok (.ladd, 1)) : kc_Sim T wsA wsN cl En own cc nL ret nm Xs pc (ka_ll2 (fun x y => x + y)) := by
  intro l D cA b0 d mc ms R Z Q p e s m args below meth c hc hrm hrr Rr hR L st μ B k hk ha ls H locs cells slots hl hP hS h1 h2
  obtain ⟨⟨hx, hb, hml, hown, hts⟩, hKN, hb0, hret, hlk, hnm, hXs⟩ := hc
  obtain ⟨hr1, hr2, hr3, hr4⟩ := hrm
  have hK := hKN.1
  obtain ⟨x, y, r, rfl, ha⟩ := ha
  exact lv_ladd hx hb hd (hk _ _ _ _ _ ha ls H locs cells slots hl hP hS h1 h2)
theorem sm_lsub {T : kt_T} {wsA wsN : List Cond} {cl : List vw_C} {En own : String} {cc : ByteArray} {nL : Nat} {ret : Option FieldType} {nm : String} {Xs : Option (Nat × Nat × (Nat → Int32))} {pc : Nat} (hd : decode cc pc = .ok (.lsub, 1)) : kc_Sim T wsA wsN cl En own cc nL ret nm Xs pc (ka_ll2 (fun x y => x - y)) := by
  intro l D cA b0 d mc ms R Z Q p e s m args below meth c hc hrm hrr Rr hR L st μ B k hk ha ls H locs cells slots hl hP hS h1 h2
  obtain ⟨⟨hx, hb, hml, hown, hts⟩, hKN, hb0, hret, hlk, hnm, hXs⟩ := hc
  obtain ⟨hr1, hr2, hr3, hr4⟩ := hrm
  have hK := hKN.1
  obtain ⟨x, y, r, rfl, ha⟩ := ha
  exact lv_lsub hx hb hd (hk _ _ _ _ _ ha ls H locs cells slots hl hP hS h1 h2)
theorem sm_land {T : kt_T} {wsA wsN : List Cond} {cl : List vw_C} {En own : String} {cc : ByteArray} {nL : Nat} {ret : Option FieldType} {nm : String} {Xs : Option (Nat × Nat × (Nat → Int32))} {pc : Nat} (hd : decode cc pc = .ok (.land, 1)) : kc_Sim T wsA wsN cl En own cc nL ret nm Xs pc (ka_ll2 (fun x y => x &&& y)) := by
  intro l D cA b0 d mc ms R Z Q p e s m args below meth c hc hrm hrr Rr hR L st μ B k hk ha ls H locs cells slots hl hP hS h1 h2
  obtain ⟨⟨hx, hb, hml, hown, hts⟩, hKN, hb0, hret, hlk, hnm, hXs⟩ := hc
  obtain ⟨hr1, hr2, hr3, hr4⟩ := hrm
  have hK := hKN.1
  obtain ⟨x, y, r, rfl, ha⟩ := ha
  exact lv_land hx hb hd (hk _ _ _ _ _ ha ls H locs cells slots hl hP hS h1 h2)
theorem sm_lor {T : kt_T} {wsA wsN : List Cond} {cl : List vw_C} {En own : String} {cc : ByteArray} {nL : Nat} {ret : Option FieldType} {nm : String} {Xs : Option (Nat × Nat × (Nat → Int32))} {pc : Nat} (hd : decode cc pc = .ok (.lor, 1)) : kc_Sim T wsA wsN cl En own cc nL ret nm Xs pc (ka_ll2 (fun x y => x ||| y)) := by
  intro l D cA b0 d mc ms R Z Q p e s m args below meth c hc hrm hrr Rr hR L st μ B k hk ha ls H locs cells slots hl hP hS h1 h2
  obtain ⟨⟨hx, hb, hml, hown, hts⟩, hKN, hb0, hret, hlk, hnm, hXs⟩ := hc
  obtain ⟨hr1, hr2, hr3, hr4⟩ := hrm
  have hK := hKN.1
  obtain ⟨x, y, r, rfl, ha⟩ := ha
  exact lv_lor hx hb hd (hk _ _ _ _ _ ha ls H locs cells slots hl hP hS h1 h2)
theorem sm_lshl {T : kt_T} {wsA wsN : List Cond} {cl : List vw_C} {En own : String} {cc : ByteArray} {nL : Nat} {ret : Option FieldType} {nm : String} {Xs : Option (Nat × Nat × (Nat → Int32))} {pc : Nat} (hd : decode cc pc = .ok (.lshl, 1)) : kc_Sim T wsA wsN cl En own cc nL ret nm Xs pc (ka_lsh (fun x y => x <<< (y.toInt64 &&& 63))) := by
  intro l D cA b0 d mc ms R Z Q p e s m args below meth c hc hrm hrr Rr hR L st μ B k hk ha ls H locs cells slots hl hP hS h1 h2
  obtain ⟨⟨hx, hb, hml, hown, hts⟩, hKN, hb0, hret, hlk, hnm, hXs⟩ := hc
  obtain ⟨hr1, hr2, hr3, hr4⟩ := hrm
  have hK := hKN.1
  obtain ⟨x, y, r, rfl, ha⟩ := ha
  exact lv_lshl hx hb hd rfl (hk _ _ _ _ _ ha ls H locs cells slots hl hP hS h1 h2)
theorem sm_lshr {T : kt_T} {wsA wsN : List Cond} {cl : List vw_C} {En own : String} {cc : ByteArray} {nL : Nat} {ret : Option FieldType} {nm : String} {Xs : Option (Nat × Nat × (Nat → Int32))} {pc : Nat} (hd : decode cc pc = .ok (.lshr, 1)) : kc_Sim T wsA wsN cl En own cc nL ret nm Xs pc (ka_lsh (fun x y => x >>> (y.toInt64 &&& 63))) := by
  intro l D cA b0 d mc ms R Z Q p e s m args below meth c hc hrm hrr Rr hR L st μ B k hk ha ls H locs cells slots hl hP hS h1 h2
  obtain ⟨⟨hx, hb, hml, hown, hts⟩, hKN, hb0, hret, hlk, hnm, hXs⟩ := hc
  obtain ⟨hr1, hr2, hr3, hr4⟩ := hrm
  have hK := hKN.1
  obtain ⟨x, y, r, rfl, ha⟩ := ha
  exact lv_lshr hx hb hd rfl (hk _ _ _ _ _ ha ls H locs cells slots hl hP hS h1 h2)
theorem sm_i2b {T : kt_T} {wsA wsN : List Cond} {cl : List vw_C} {En own : String} {cc : ByteArray} {nL : Nat} {ret : Option FieldType} {nm : String} {Xs : Option (Nat × Nat × (Nat → Int32))} {pc : Nat} (hd : decode cc pc = .ok (.i2b, 1)) : kc_Sim T wsA wsN cl En own cc nL ret nm Xs pc (ka_i1 (fun x => x.toInt8.toInt32)) := by
  intro l D cA b0 d mc ms R Z Q p e s m args below meth c hc hrm hrr Rr hR L st μ B k hk ha ls H locs cells slots hl hP hS h1 h2
  obtain ⟨⟨hx, hb, hml, hown, hts⟩, hKN, hb0, hret, hlk, hnm, hXs⟩ := hc
  obtain ⟨hr1, hr2, hr3, hr4⟩ := hrm
  have hK := hKN.1
  obtain ⟨x, r, rfl, ha⟩ := ha
  exact lv_i2b hx hb hd rfl (hk _ _ _ _ _ ha ls H locs cells slots hl hP hS h1 h2)
theorem sm_i2s {T : kt_T} {wsA wsN : List Cond} {cl : List vw_C} {En own : String} {cc : ByteArray} {nL : Nat} {ret : Option FieldType} {nm : String} {Xs : Option (Nat × Nat × (Nat → Int32))} {pc : Nat} (hd : decode cc pc = .ok (.i2s, 1)) : kc_Sim T wsA wsN cl En own cc nL ret nm Xs pc (ka_i1 (fun x => x.toInt16.toInt32)) := by
  intro l D cA b0 d mc ms R Z Q p e s m args below meth c hc hrm hrr Rr hR L st μ B k hk ha ls H locs cells slots hl hP hS h1 h2
  obtain ⟨⟨hx, hb, hml, hown, hts⟩, hKN, hb0, hret, hlk, hnm, hXs⟩ := hc
  obtain ⟨hr1, hr2, hr3, hr4⟩ := hrm
  have hK := hKN.1
  obtain ⟨x, r, rfl, ha⟩ := ha
  exact lv_i2s hx hb hd rfl (hk _ _ _ _ _ ha ls H locs cells slots hl hP hS h1 h2)
theorem sm_i2l {T : kt_T} {wsA wsN : List Cond} {cl : List vw_C} {En own : String} {cc : ByteArray} {nL : Nat} {ret : Option FieldType} {nm : String} {Xs : Option (Nat × Nat × (Nat → Int32))} {pc : Nat} (hd : decode cc pc = .ok (.i2l, 1)) : kc_Sim T wsA wsN cl En own cc nL ret nm Xs pc (ka_i2l) := by
  intro l D cA b0 d mc ms R Z Q p e s m args below meth c hc hrm hrr Rr hR L st μ B k hk ha ls H locs cells slots hl hP hS h1 h2
  obtain ⟨⟨hx, hb, hml, hown, hts⟩, hKN, hb0, hret, hlk, hnm, hXs⟩ := hc
  obtain ⟨hr1, hr2, hr3, hr4⟩ := hrm
  have hK := hKN.1
  obtain ⟨x, r, rfl, ha⟩ := ha
  exact lv_i2l hx hb hd rfl (hk _ _ _ _ _ ha ls H locs cells slots hl hP hS h1 h2)
theorem sm_l2i {T : kt_T} {wsA wsN : List Cond} {cl : List vw_C} {En own : String} {cc : ByteArray} {nL : Nat} {ret : Option FieldType} {nm : String} {Xs : Option (Nat × Nat × (Nat → Int32))} {pc : Nat} (hd : decode cc pc = .ok (.l2i, 1)) : kc_Sim T wsA wsN cl En own cc nL ret nm Xs pc (ka_l2i) := by
  intro l D cA b0 d mc ms R Z Q p e s m args below meth c hc hrm hrr Rr hR L st μ B k hk ha ls H locs cells slots hl hP hS h1 h2
  obtain ⟨⟨hx, hb, hml, hown, hts⟩, hKN, hb0, hret, hlk, hnm, hXs⟩ := hc
  obtain ⟨hr1, hr2, hr3, hr4⟩ := hrm
  have hK := hKN.1
  obtain ⟨x, r, rfl, ha⟩ := ha
  exact lv_l2i hx hb hd rfl (hk _ _ _ _ _ ha ls H locs cells slots hl hP hS h1 h2)
theorem sm_lcmp {T : kt_T} {wsA wsN : List Cond} {cl : List vw_C} {En own : String} {cc : ByteArray} {nL : Nat} {ret : Option FieldType} {nm : String} {Xs : Option (Nat × Nat × (Nat → Int32))} {pc : Nat} (hd : decode cc pc = .ok (.lcmp, 1)) : kc_Sim T wsA wsN cl En own cc nL ret nm Xs pc (ka_lcmp) := by
  intro l D cA b0 d mc ms R Z Q p e s m args below meth c hc hrm hrr Rr hR L st μ B k hk ha ls H locs cells slots hl hP hS h1 h2
  obtain ⟨⟨hx, hb, hml, hown, hts⟩, hKN, hb0, hret, hlk, hnm, hXs⟩ := hc
  obtain ⟨hr1, hr2, hr3, hr4⟩ := hrm
  have hK := hKN.1
  obtain ⟨x, y, r, rfl, ha⟩ := ha
  exact W.lcmp hx hb hd (hk _ _ _ _ _ ha ls H locs cells slots hl hP hS h1 h2)
theorem sm_dup {T : kt_T} {wsA wsN : List Cond} {cl : List vw_C} {En own : String} {cc : ByteArray} {nL : Nat} {ret : Option FieldType} {nm : String} {Xs : Option (Nat × Nat × (Nat → Int32))} {pc : Nat} (hd : decode cc pc = .ok (.dup, 1)) : kc_Sim T wsA wsN cl En own cc nL ret nm Xs pc (ka_dup) := by
  intro l D cA b0 d mc ms R Z Q p e s m args below meth c hc hrm hrr Rr hR L st μ B k hk ha ls H locs cells slots hl hP hS h1 h2
  obtain ⟨⟨hx, hb, hml, hown, hts⟩, hKN, hb0, hret, hlk, hnm, hXs⟩ := hc
  obtain ⟨hr1, hr2, hr3, hr4⟩ := hrm
  have hK := hKN.1
  obtain ⟨v, r, rfl, hv, ha⟩ := ha
  exact lv_dup hx hb hd (by rw [kc_t_cat]; exact hv) (hk _ _ _ _ _ ha ls H locs cells slots hl hP hS h1 h2)
theorem sm_pop {T : kt_T} {wsA wsN : List Cond} {cl : List vw_C} {En own : String} {cc : ByteArray} {nL : Nat} {ret : Option FieldType} {nm : String} {Xs : Option (Nat × Nat × (Nat → Int32))} {pc : Nat} (hd : decode cc pc = .ok (.pop, 1)) : kc_Sim T wsA wsN cl En own cc nL ret nm Xs pc (ka_pop) := by
  intro l D cA b0 d mc ms R Z Q p e s m args below meth c hc hrm hrr Rr hR L st μ B k hk ha ls H locs cells slots hl hP hS h1 h2
  obtain ⟨⟨hx, hb, hml, hown, hts⟩, hKN, hb0, hret, hlk, hnm, hXs⟩ := hc
  obtain ⟨hr1, hr2, hr3, hr4⟩ := hrm
  have hK := hKN.1
  obtain ⟨v, r, rfl, hv, ha⟩ := ha
  exact lv_pop hx hb hd (by rw [kc_t_cat]; exact hv) (hk _ _ _ _ _ ha ls H locs cells slots hl hP hS h1 h2)
theorem sm_if_eq {T : kt_T} {wsA wsN : List Cond} {cl : List vw_C} {En own : String} {cc : ByteArray} {nL : Nat} {ret : Option FieldType} {nm : String} {Xs : Option (Nat × Nat × (Nat → Int32))} {pc : Nat} {o : Int} {t : Nat} (hd : decode cc pc = .ok (.ifCond .eq o, 3)) (ht : (pc : Int) + o = (t : Int)) : kc_Sim T wsA wsN cl En own cc nL ret nm Xs pc (ka_if (fun x => x = 0) t) := by
  intro l D cA b0 d mc ms R Z Q p e s m args below meth c hc hrm hrr Rr hR L st μ B k hk ha ls H locs cells slots hl hP hS h1 h2
  obtain ⟨⟨hx, hb, hml, hown, hts⟩, hKN, hb0, hret, hlk, hnm, hXs⟩ := hc
  obtain ⟨hr1, hr2, hr3, hr4⟩ := hrm
  have hK := hKN.1
  obtain ⟨x, r, rfl, ha, hf⟩ := ha
  exact lv_if_eq hx hb hd ht (fun z => hk _ _ _ _ _ (ha z) ls H locs cells slots hl hP hS h1 h2) (fun z => hk _ _ _ _ _ (hf z) ls H locs cells slots hl hP hS h1 h2)
theorem sm_cm_eq {T : kt_T} {wsA wsN : List Cond} {cl : List vw_C} {En own : String} {cc : ByteArray} {nL : Nat} {ret : Option FieldType} {nm : String} {Xs : Option (Nat × Nat × (Nat → Int32))} {pc : Nat} {o : Int} {t : Nat} (hd : decode cc pc = .ok (.if_icmp .eq o, 3)) (ht : (pc : Int) + o = (t : Int)) : kc_Sim T wsA wsN cl En own cc nL ret nm Xs pc (ka_cm (fun x y => x = y) t) := by
  intro l D cA b0 d mc ms R Z Q p e s m args below meth c hc hrm hrr Rr hR L st μ B k hk ha ls H locs cells slots hl hP hS h1 h2
  obtain ⟨⟨hx, hb, hml, hown, hts⟩, hKN, hb0, hret, hlk, hnm, hXs⟩ := hc
  obtain ⟨hr1, hr2, hr3, hr4⟩ := hrm
  have hK := hKN.1
  obtain ⟨x, y, r, rfl, ha, hf⟩ := ha
  exact lv_icmp_eq hx hb hd ht (fun z => hk _ _ _ _ _ (ha z) ls H locs cells slots hl hP hS h1 h2) (fun z => hk _ _ _ _ _ (hf z) ls H locs cells slots hl hP hS h1 h2)
theorem sm_if_ne {T : kt_T} {wsA wsN : List Cond} {cl : List vw_C} {En own : String} {cc : ByteArray} {nL : Nat} {ret : Option FieldType} {nm : String} {Xs : Option (Nat × Nat × (Nat → Int32))} {pc : Nat} {o : Int} {t : Nat} (hd : decode cc pc = .ok (.ifCond .ne o, 3)) (ht : (pc : Int) + o = (t : Int)) : kc_Sim T wsA wsN cl En own cc nL ret nm Xs pc (ka_if (fun x => ¬ x = 0) t) := by
  intro l D cA b0 d mc ms R Z Q p e s m args below meth c hc hrm hrr Rr hR L st μ B k hk ha ls H locs cells slots hl hP hS h1 h2
  obtain ⟨⟨hx, hb, hml, hown, hts⟩, hKN, hb0, hret, hlk, hnm, hXs⟩ := hc
  obtain ⟨hr1, hr2, hr3, hr4⟩ := hrm
  have hK := hKN.1
  obtain ⟨x, r, rfl, ha, hf⟩ := ha
  exact lv_if_ne hx hb hd ht (fun z => hk _ _ _ _ _ (ha z) ls H locs cells slots hl hP hS h1 h2) (fun z => hk _ _ _ _ _ (hf (fun w => w z)) ls H locs cells slots hl hP hS h1 h2)
theorem sm_cm_ne {T : kt_T} {wsA wsN : List Cond} {cl : List vw_C} {En own : String} {cc : ByteArray} {nL : Nat} {ret : Option FieldType} {nm : String} {Xs : Option (Nat × Nat × (Nat → Int32))} {pc : Nat} {o : Int} {t : Nat} (hd : decode cc pc = .ok (.if_icmp .ne o, 3)) (ht : (pc : Int) + o = (t : Int)) : kc_Sim T wsA wsN cl En own cc nL ret nm Xs pc (ka_cm (fun x y => ¬ x = y) t) := by
  intro l D cA b0 d mc ms R Z Q p e s m args below meth c hc hrm hrr Rr hR L st μ B k hk ha ls H locs cells slots hl hP hS h1 h2
  obtain ⟨⟨hx, hb, hml, hown, hts⟩, hKN, hb0, hret, hlk, hnm, hXs⟩ := hc
  obtain ⟨hr1, hr2, hr3, hr4⟩ := hrm
  have hK := hKN.1
  obtain ⟨x, y, r, rfl, ha, hf⟩ := ha
  exact lv_icmp_ne hx hb hd ht (fun z => hk _ _ _ _ _ (ha z) ls H locs cells slots hl hP hS h1 h2) (fun z => hk _ _ _ _ _ (hf (fun w => w z)) ls H locs cells slots hl hP hS h1 h2)
theorem sm_if_lt {T : kt_T} {wsA wsN : List Cond} {cl : List vw_C} {En own : String} {cc : ByteArray} {nL : Nat} {ret : Option FieldType} {nm : String} {Xs : Option (Nat × Nat × (Nat → Int32))} {pc : Nat} {o : Int} {t : Nat} (hd : decode cc pc = .ok (.ifCond .lt o, 3)) (ht : (pc : Int) + o = (t : Int)) : kc_Sim T wsA wsN cl En own cc nL ret nm Xs pc (ka_if (fun x => x < 0) t) := by
  intro l D cA b0 d mc ms R Z Q p e s m args below meth c hc hrm hrr Rr hR L st μ B k hk ha ls H locs cells slots hl hP hS h1 h2
  obtain ⟨⟨hx, hb, hml, hown, hts⟩, hKN, hb0, hret, hlk, hnm, hXs⟩ := hc
  obtain ⟨hr1, hr2, hr3, hr4⟩ := hrm
  have hK := hKN.1
  obtain ⟨x, r, rfl, ha, hf⟩ := ha
  exact lv_if_lt hx hb hd ht (fun z => hk _ _ _ _ _ (ha z) ls H locs cells slots hl hP hS h1 h2) (fun z => hk _ _ _ _ _ (hf z) ls H locs cells slots hl hP hS h1 h2)
theorem sm_cm_lt {T : kt_T} {wsA wsN : List Cond} {cl : List vw_C} {En own : String} {cc : ByteArray} {nL : Nat} {ret : Option FieldType} {nm : String} {Xs : Option (Nat × Nat × (Nat → Int32))} {pc : Nat} {o : Int} {t : Nat} (hd : decode cc pc = .ok (.if_icmp .lt o, 3)) (ht : (pc : Int) + o = (t : Int)) : kc_Sim T wsA wsN cl En own cc nL ret nm Xs pc (ka_cm (fun x y => x < y) t) := by
  intro l D cA b0 d mc ms R Z Q p e s m args below meth c hc hrm hrr Rr hR L st μ B k hk ha ls H locs cells slots hl hP hS h1 h2
  obtain ⟨⟨hx, hb, hml, hown, hts⟩, hKN, hb0, hret, hlk, hnm, hXs⟩ := hc
  obtain ⟨hr1, hr2, hr3, hr4⟩ := hrm
  have hK := hKN.1
  obtain ⟨x, y, r, rfl, ha, hf⟩ := ha
  exact lv_icmp_lt hx hb hd ht (fun z => hk _ _ _ _ _ (ha z) ls H locs cells slots hl hP hS h1 h2) (fun z => hk _ _ _ _ _ (hf z) ls H locs cells slots hl hP hS h1 h2)
theorem sm_if_ge {T : kt_T} {wsA wsN : List Cond} {cl : List vw_C} {En own : String} {cc : ByteArray} {nL : Nat} {ret : Option FieldType} {nm : String} {Xs : Option (Nat × Nat × (Nat → Int32))} {pc : Nat} {o : Int} {t : Nat} (hd : decode cc pc = .ok (.ifCond .ge o, 3)) (ht : (pc : Int) + o = (t : Int)) : kc_Sim T wsA wsN cl En own cc nL ret nm Xs pc (ka_if (fun x => 0 ≤ x) t) := by
  intro l D cA b0 d mc ms R Z Q p e s m args below meth c hc hrm hrr Rr hR L st μ B k hk ha ls H locs cells slots hl hP hS h1 h2
  obtain ⟨⟨hx, hb, hml, hown, hts⟩, hKN, hb0, hret, hlk, hnm, hXs⟩ := hc
  obtain ⟨hr1, hr2, hr3, hr4⟩ := hrm
  have hK := hKN.1
  obtain ⟨x, r, rfl, ha, hf⟩ := ha
  exact lv_if_ge hx hb hd ht (fun z => hk _ _ _ _ _ (ha z) ls H locs cells slots hl hP hS h1 h2) (fun z => hk _ _ _ _ _ (hf z) ls H locs cells slots hl hP hS h1 h2)
theorem sm_cm_ge {T : kt_T} {wsA wsN : List Cond} {cl : List vw_C} {En own : String} {cc : ByteArray} {nL : Nat} {ret : Option FieldType} {nm : String} {Xs : Option (Nat × Nat × (Nat → Int32))} {pc : Nat} {o : Int} {t : Nat} (hd : decode cc pc = .ok (.if_icmp .ge o, 3)) (ht : (pc : Int) + o = (t : Int)) : kc_Sim T wsA wsN cl En own cc nL ret nm Xs pc (ka_cm (fun x y => y ≤ x) t) := by
  intro l D cA b0 d mc ms R Z Q p e s m args below meth c hc hrm hrr Rr hR L st μ B k hk ha ls H locs cells slots hl hP hS h1 h2
  obtain ⟨⟨hx, hb, hml, hown, hts⟩, hKN, hb0, hret, hlk, hnm, hXs⟩ := hc
  obtain ⟨hr1, hr2, hr3, hr4⟩ := hrm
  have hK := hKN.1
  obtain ⟨x, y, r, rfl, ha, hf⟩ := ha
  exact lv_icmp_ge hx hb hd ht (fun z => hk _ _ _ _ _ (ha z) ls H locs cells slots hl hP hS h1 h2) (fun z => hk _ _ _ _ _ (hf z) ls H locs cells slots hl hP hS h1 h2)
theorem sm_if_gt {T : kt_T} {wsA wsN : List Cond} {cl : List vw_C} {En own : String} {cc : ByteArray} {nL : Nat} {ret : Option FieldType} {nm : String} {Xs : Option (Nat × Nat × (Nat → Int32))} {pc : Nat} {o : Int} {t : Nat} (hd : decode cc pc = .ok (.ifCond .gt o, 3)) (ht : (pc : Int) + o = (t : Int)) : kc_Sim T wsA wsN cl En own cc nL ret nm Xs pc (ka_if (fun x => 0 < x) t) := by
  intro l D cA b0 d mc ms R Z Q p e s m args below meth c hc hrm hrr Rr hR L st μ B k hk ha ls H locs cells slots hl hP hS h1 h2
  obtain ⟨⟨hx, hb, hml, hown, hts⟩, hKN, hb0, hret, hlk, hnm, hXs⟩ := hc
  obtain ⟨hr1, hr2, hr3, hr4⟩ := hrm
  have hK := hKN.1
  obtain ⟨x, r, rfl, ha, hf⟩ := ha
  exact lv_if_gt hx hb hd ht (fun z => hk _ _ _ _ _ (ha z) ls H locs cells slots hl hP hS h1 h2) (fun z => hk _ _ _ _ _ (hf z) ls H locs cells slots hl hP hS h1 h2)
theorem sm_cm_gt {T : kt_T} {wsA wsN : List Cond} {cl : List vw_C} {En own : String} {cc : ByteArray} {nL : Nat} {ret : Option FieldType} {nm : String} {Xs : Option (Nat × Nat × (Nat → Int32))} {pc : Nat} {o : Int} {t : Nat} (hd : decode cc pc = .ok (.if_icmp .gt o, 3)) (ht : (pc : Int) + o = (t : Int)) : kc_Sim T wsA wsN cl En own cc nL ret nm Xs pc (ka_cm (fun x y => y < x) t) := by
  intro l D cA b0 d mc ms R Z Q p e s m args below meth c hc hrm hrr Rr hR L st μ B k hk ha ls H locs cells slots hl hP hS h1 h2
  obtain ⟨⟨hx, hb, hml, hown, hts⟩, hKN, hb0, hret, hlk, hnm, hXs⟩ := hc
  obtain ⟨hr1, hr2, hr3, hr4⟩ := hrm
  have hK := hKN.1
  obtain ⟨x, y, r, rfl, ha, hf⟩ := ha
  exact lv_icmp_gt hx hb hd ht (fun z => hk _ _ _ _ _ (ha z) ls H locs cells slots hl hP hS h1 h2) (fun z => hk _ _ _ _ _ (hf z) ls H locs cells slots hl hP hS h1 h2)
theorem sm_if_le {T : kt_T} {wsA wsN : List Cond} {cl : List vw_C} {En own : String} {cc : ByteArray} {nL : Nat} {ret : Option FieldType} {nm : String} {Xs : Option (Nat × Nat × (Nat → Int32))} {pc : Nat} {o : Int} {t : Nat} (hd : decode cc pc = .ok (.ifCond .le o, 3)) (ht : (pc : Int) + o = (t : Int)) : kc_Sim T wsA wsN cl En own cc nL ret nm Xs pc (ka_if (fun x => x ≤ 0) t) := by
  intro l D cA b0 d mc ms R Z Q p e s m args below meth c hc hrm hrr Rr hR L st μ B k hk ha ls H locs cells slots hl hP hS h1 h2
  obtain ⟨⟨hx, hb, hml, hown, hts⟩, hKN, hb0, hret, hlk, hnm, hXs⟩ := hc
  obtain ⟨hr1, hr2, hr3, hr4⟩ := hrm
  have hK := hKN.1
  obtain ⟨x, r, rfl, ha, hf⟩ := ha
  exact lv_if_le hx hb hd ht (fun z => hk _ _ _ _ _ (ha z) ls H locs cells slots hl hP hS h1 h2) (fun z => hk _ _ _ _ _ (hf z) ls H locs cells slots hl hP hS h1 h2)
theorem sm_cm_le {T : kt_T} {wsA wsN : List Cond} {cl : List vw_C} {En own : String} {cc : ByteArray} {nL : Nat} {ret : Option FieldType} {nm : String} {Xs : Option (Nat × Nat × (Nat → Int32))} {pc : Nat} {o : Int} {t : Nat} (hd : decode cc pc = .ok (.if_icmp .le o, 3)) (ht : (pc : Int) + o = (t : Int)) : kc_Sim T wsA wsN cl En own cc nL ret nm Xs pc (ka_cm (fun x y => x ≤ y) t) := by
  intro l D cA b0 d mc ms R Z Q p e s m args below meth c hc hrm hrr Rr hR L st μ B k hk ha ls H locs cells slots hl hP hS h1 h2
  obtain ⟨⟨hx, hb, hml, hown, hts⟩, hKN, hb0, hret, hlk, hnm, hXs⟩ := hc
  obtain ⟨hr1, hr2, hr3, hr4⟩ := hrm
  have hK := hKN.1
  obtain ⟨x, y, r, rfl, ha, hf⟩ := ha
  exact lv_icmp_le hx hb hd ht (fun z => hk _ _ _ _ _ (ha z) ls H locs cells slots hl hP hS h1 h2) (fun z => hk _ _ _ _ _ (hf z) ls H locs cells slots hl hP hS h1 h2)
theorem sm_goto {T : kt_T} {wsA wsN : List Cond} {cl : List vw_C} {En own : String} {cc : ByteArray} {nL : Nat} {ret : Option FieldType} {nm : String} {Xs : Option (Nat × Nat × (Nat → Int32))} {pc : Nat} {o : Int} {t : Nat} (hd : decode cc pc = .ok (.goto o, 3)) (ht : (pc : Int) + o = (t : Int)) : kc_Sim T wsA wsN cl En own cc nL ret nm Xs pc (ka_goto t) := by
  intro l D cA b0 d mc ms R Z Q p e s m args below meth c hc hrm hrr Rr hR L st μ B k hk ha ls H locs cells slots hl hP hS h1 h2
  obtain ⟨⟨hx, hb, hml, hown, hts⟩, hKN, hb0, hret, hlk, hnm, hXs⟩ := hc
  obtain ⟨hr1, hr2, hr3, hr4⟩ := hrm
  have hK := hKN.1
  exact lv_goto hx hb hd ht (hk _ _ _ _ _ ha ls H locs cells slots hl hP hS h1 h2)
theorem sm_lsw {T : kt_T} {wsA wsN : List Cond} {cl : List vw_C} {En own : String} {cc : ByteArray} {nL : Nat} {ret : Option FieldType} {nm : String} {Xs : Option (Nat × Nat × (Nat → Int32))} {pc : Nat} {df : Int} {ps : Array (Int × Int)} {n : Nat} {f : Int32 → Nat} (hd : decode cc pc = .ok (.lookupswitch df ps, n)) (hp : (ps.toList.zip (ps.toList.drop 1)).all (fun (a, next) => a.1 < next.1) = true) (ho : ∀ x : Int32, (pc : Int) + Op.lookupswitch.offset ps.toList df x.toInt = (f x : Int)) : kc_Sim T wsA wsN cl En own cc nL ret nm Xs pc (ka_sw f) := by
  intro l D cA b0 d mc ms R Z Q p e s m args below meth c hc hrm hrr Rr hR L st μ B k hk ha ls H locs cells slots hl hP hS h1 h2
  obtain ⟨⟨hx, hb, hml, hown, hts⟩, hKN, hb0, hret, hlk, hnm, hXs⟩ := hc
  obtain ⟨hr1, hr2, hr3, hr4⟩ := hrm
  have hK := hKN.1
  obtain ⟨x, r, rfl, ha⟩ := ha
  exact lv_lookup hx hb hd hp rfl (ho x) (hk _ _ _ _ _ ha ls H locs cells slots hl hP hS h1 h2)
theorem sm_tsw {T : kt_T} {wsA wsN : List Cond} {cl : List vw_C} {En own : String} {cc : ByteArray} {nL : Nat} {ret : Option FieldType} {nm : String} {Xs : Option (Nat × Nat × (Nat → Int32))} {pc : Nat} {df lo hi : Int} {os : Array Int} {n : Nat} {f : Int32 → Nat} (hd : decode cc pc = .ok (.tableswitch df lo hi os, n)) (ho : ∀ x : Int32, ((x.toInt < lo ∨ hi < x.toInt) ∧ (pc : Int) + df = (f x : Int)) ∨ (¬ x.toInt < lo ∧ ¬ hi < x.toInt ∧ ∃ o, os[(x.toInt - lo).toNat]? = some o ∧ (pc : Int) + o = (f x : Int))) : kc_Sim T wsA wsN cl En own cc nL ret nm Xs pc (ka_sw f) := by
  intro l D cA b0 d mc ms R Z Q p e s m args below meth c hc hrm hrr Rr hR L st μ B k hk ha ls H locs cells slots hl hP hS h1 h2
  obtain ⟨⟨hx, hb, hml, hown, hts⟩, hKN, hb0, hret, hlk, hnm, hXs⟩ := hc
  obtain ⟨hr1, hr2, hr3, hr4⟩ := hrm
  have hK := hKN.1
  obtain ⟨x, r, rfl, ha⟩ := ha
  rcases ho x with ⟨g1, g2⟩ | ⟨g1, g2, o, g3, g4⟩
  · exact lv_tableOut hx hb hd g1 g2 (hk _ _ _ _ _ ha ls H locs cells slots hl hP hS h1 h2)
  · exact lv_tableIn hx hb hd g1 g2 g3 g4 (hk _ _ _ _ _ ha ls H locs cells slots hl hP hS h1 h2)
theorem sm_get {T : kt_T} {wsA wsN : List Cond} {cl : List vw_C} {En own : String} {cc : ByteArray} {nL : Nat} {ret : Option FieldType} {nm : String} {Xs : Option (Nat × Nat × (Nat → Int32))} {pc : Nat} {ci i idx N : Nat} {C : String} {F : u_T} (hcl : cl[ci]? = some (C, F, N)) (hin : ∀ w ∈ u_ws C F N, w ∈ wsA) (hi : i < N) (hd : decode cc pc = .ok (.getfield idx, 3)) (hw : Cond.fieldLink own idx (F i).1 (F i).2.1 (F i).2.2.1 ∈ wsA) : kc_Sim T wsA wsN cl En own cc nL ret nm Xs pc (ka_get ci i) := by
  intro l D cA b0 d mc ms R Z Q p e s m args below meth c hc hrm hrr Rr hR L st μ B k hk ha ls H locs cells slots hl hP hS h1 h2
  obtain ⟨⟨hx, hb, hml, hown, hts⟩, hKN, hb0, hret, hlk, hnm, hXs⟩ := hc
  obtain ⟨hr1, hr2, hr3, hr4⟩ := hrm
  have hK := hKN.1
  obtain ⟨a, r, fs, v, rfl, hm, hv, ha⟩ := ha
  exact va_get (D := D) (ci := ci) hx hb hts hin hown hK (kc_P1 (hP.2 a _ hm)) 0 rfl hcl i hi (hts _ hw) (fun _ h9 => h9) (by rw [List.getElem?_map, hv]; rfl) hd (hk _ _ _ _ _ ha ls H locs cells slots hl hP hS h1 h2)
theorem sm_put {T : kt_T} {wsA wsN : List Cond} {cl : List vw_C} {En own : String} {cc : ByteArray} {nL : Nat} {ret : Option FieldType} {nm : String} {Xs : Option (Nat × Nat × (Nat → Int32))} {pc : Nat} {ci i idx N : Nat} {C : String} {F : u_T} {ty : FieldType} (hcl : cl[ci]? = some (C, F, N)) (hin : ∀ w ∈ u_ws C F N, w ∈ wsA) (ty0 : Nat → FieldType) (hty : ∀ k, k < N → parseFieldDescriptor (F k).2.2.1 = some (ty0 k)) (hnm0 : ∀ a, a < N → ∀ b, b < N → a ≠ b → (F a).2.1 ≠ (F b).2.1) (hi : i < N) (hfd : parseFieldDescriptor (F i).2.2.1 = some ty) (hd : decode cc pc = .ok (.putfield idx, 3)) (hw : Cond.fieldLink own idx (F i).1 (F i).2.1 (F i).2.2.1 ∈ wsA) (hfin : (F i).2.2.2 = false) : kc_Sim T wsA wsN cl En own cc nL ret nm Xs pc (ka_put ci i ty) := by
  intro l D cA b0 d mc ms R Z Q p e s m args below meth c hc hrm hrr Rr hR L st μ B k hk ha ls H locs cells slots hl hP hS h1 h2
  obtain ⟨⟨hx, hb, hml, hown, hts⟩, hKN, hb0, hret, hlk, hnm, hXs⟩ := hc
  obtain ⟨hr1, hr2, hr3, hr4⟩ := hrm
  have hK := hKN.1
  obtain ⟨a, r, fs, v, rfl, hm, hln, hn, hf, ha⟩ := ha
  have hap := va_apart (own := own) hts hin ty0 hty hnm0 hK hcl
  have hn := kc_t_nar (b0 := b0) hn
  have hf := kc_t_fit (b0 := b0) hf
  have hA : b0 ≤ b0 + a := Nat.le_add_right _ _
  obtain ⟨r', g1, cell, q1, q2, q3, q4⟩ := hP.2 a _ hm
  have hr' : r' = (C, F, N) := Option.some.inj (g1.symm.trans hcl)
  subst hr'
  obtain ⟨hSl, hfc, kC, hkC, hkind⟩ := hK.1 ci _ hcl
  obtain ⟨cf, kf, fi, f, hif, hsl⟩ := hSl i hi
  have hlay := hts _ (hin _ (u_in_lay hi))
  unfold u_lay at hlay
  rw [if_neg (by rw [hfin]; decide)] at hlay
  have hst := (u_facts hfc hkC (u_lays hts hin hi) hif).1
  have h6 := u_store hfc hkC hkind hlay hif hfd hn hf
  refine W.putK hx hb (f := f) ⟨hown, hts _ hw, ⟨_, _, _, hif⟩, hst⟩ (by rw [q2]; exact h6) q1 q3 (by rw [hsl]; exact k2_hasslot (q4 i hi)) rfl rfl hd fun H' e1 e2 e3 => ?_
  rw [hsl] at e1 ⊢
  exact hk _ _ _ _ _ ha ls H' _ cells slots hl (hP.put hm ⟨_, hcl, t_OB.to (V := updV (vp_V (fs.map (kc_t b0))) i (kc_t b0 v)) ⟨_, e1, q2, q3, t_set q4 hap hi (kc_t b0 v)⟩ (fun j _ => by rw [vp_updV_set (by rw [List.length_map]; exact hln), ← List.map_set])⟩ e2 e3) (hS.put e2 e3 hA) h1 h2
theorem sm_putF {T : kt_T} {wsA wsN : List Cond} {cl : List vw_C} {En own : String} {cc : ByteArray} {nL : Nat} {ret : Option FieldType} {nm : String} {Xs : Option (Nat × Nat × (Nat → Int32))} {pc : Nat} {ci i idx N : Nat} {C : String} {F : u_T} {ty : FieldType} (hcl : cl[ci]? = some (C, F, N)) (hin : ∀ w ∈ u_ws C F N, w ∈ wsA) (ty0 : Nat → FieldType) (hty : ∀ k, k < N → parseFieldDescriptor (F k).2.2.1 = some (ty0 k)) (hnm0 : ∀ a, a < N → ∀ b, b < N → a ≠ b → (F a).2.1 ≠ (F b).2.1) (hi : i < N) (hfd : parseFieldDescriptor (F i).2.2.1 = some ty) (hd : decode cc pc = .ok (.putfield idx, 3)) (hw : Cond.fieldLink own idx (F i).1 (F i).2.1 (F i).2.2.1 ∈ wsA) (hfin : (F i).2.2.2 = true) (hini : nm = "<init>") (hdecl : (F i).1 = own) : kc_Sim T wsA wsN cl En own cc nL ret nm Xs pc (ka_put ci i ty) := by
  intro l D cA b0 d mc ms R Z Q p e s m args below meth c hc hrm hrr Rr hR L st μ B k hk ha ls H locs cells slots hl hP hS h1 h2
  obtain ⟨⟨hx, hb, hml, hown, hts⟩, hKN, hb0, hret, hlk, hnm, hXs⟩ := hc
  obtain ⟨hr1, hr2, hr3, hr4⟩ := hrm
  have hK := hKN.1
  obtain ⟨a, r, fs, v, rfl, hm, hln, hn, hf, ha⟩ := ha
  have hap := va_apart (own := own) hts hin ty0 hty hnm0 hK hcl
  have hn := kc_t_nar (b0 := b0) hn
  have hf := kc_t_fit (b0 := b0) hf
  have hA : b0 ≤ b0 + a := Nat.le_add_right _ _
  obtain ⟨r', g1, cell, q1, q2, q3, q4⟩ := hP.2 a _ hm
  have hr' : r' = (C, F, N) := Option.some.inj (g1.symm.trans hcl)
  subst hr'
  obtain ⟨hSl, hfc, kC, hkC, hkind⟩ := hK.1 ci _ hcl
  obtain ⟨cf, kf, fi, f, hif, hsl⟩ := hSl i hi
  have hlay := hts _ (hin _ (u_in_lay hi))
  unfold u_lay at hlay
  rw [if_pos hfin] at hlay
  have hst := (u_facts hfc hkC (u_lays hts hin hi) hif).1
  have hcf : m.cls = cf := by
    obtain ⟨_, _, c', _, _, _, -, -, hf', -, -, -, hown2, -⟩ := Cond.laysFinal_spec hlay
    have e1 : c' = cf := by have := hif.symm.trans hf'; simp at this; exact this.1.symm
    rw [hdecl] at hown2
    rw [← e1]; exact Option.some.inj (hown.symm.trans hown2)
  have h6 := u_fits hfc hkC hkind (Or.inr hlay) hif hfd hn hf
  refine W.putFinK hx hb hown (hts _ hw) hif hst hcf (hnm.trans hini) (by rw [q2]; exact h6) q1 q3 (by rw [hsl]; exact k2_hasslot (q4 i hi)) rfl rfl hd fun H' e1 e2 e3 => ?_
  rw [hsl] at e1 ⊢
  exact hk _ _ _ _ _ ha ls H' _ cells slots hl (hP.put hm ⟨_, hcl, t_OB.to (V := updV (vp_V (fs.map (kc_t b0))) i (kc_t b0 v)) ⟨_, e1, q2, q3, t_set q4 hap hi (kc_t b0 v)⟩ (fun j _ => by rw [vp_updV_set (by rw [List.length_map]; exact hln), ← List.map_set])⟩ e2 e3) (hS.put e2 e3 hA) h1 h2
theorem sm_iald {T : kt_T} {wsA wsN : List Cond} {cl : List vw_C} {En own : String} {cc : ByteArray} {nL : Nat} {ret : Option FieldType} {nm : String} {Xs : Option (Nat × Nat × (Nat → Int32))} {pc : Nat} (hd : decode cc pc = .ok (.iaload, 1)) : kc_Sim T wsA wsN cl En own cc nL ret nm Xs pc (ka_iald) := by
  intro l D cA b0 d mc ms R Z Q p e s m args below meth c hc hrm hrr Rr hR L st μ B k hk ha ls H locs cells slots hl hP hS h1 h2
  obtain ⟨⟨hx, hb, hml, hown, hts⟩, hKN, hb0, hret, hlk, hnm, hXs⟩ := hc
  obtain ⟨hr1, hr2, hr3, hr4⟩ := hrm
  have hK := hKN.1
  obtain ⟨a, n, f, i, r, rfl, hm, hi, ha⟩ := ha
  exact va_iald hx hb hK (kc_P1 (hP.2 a _ hm)) 0 0 rfl rfl hi hd (hk _ _ _ _ _ ha ls H locs cells slots hl hP hS h1 h2)
theorem sm_iast {T : kt_T} {wsA wsN : List Cond} {cl : List vw_C} {En own : String} {cc : ByteArray} {nL : Nat} {ret : Option FieldType} {nm : String} {Xs : Option (Nat × Nat × (Nat → Int32))} {pc : Nat} (hd : decode cc pc = .ok (.iastore, 1)) : kc_Sim T wsA wsN cl En own cc nL ret nm Xs pc (ka_iast) := by
  intro l D cA b0 d mc ms R Z Q p e s m args below meth c hc hrm hrr Rr hR L st μ B k hk ha ls H locs cells slots hl hP hS h1 h2
  obtain ⟨⟨hx, hb, hml, hown, hts⟩, hKN, hb0, hret, hlk, hnm, hXs⟩ := hc
  obtain ⟨hr1, hr2, hr3, hr4⟩ := hrm
  have hK := hKN.1
  obtain ⟨a, n, f, i, x, r, rfl, hm, hi, ha⟩ := ha
  have hat : H[b0 + a]? = some (vp_cell (cA 0) (n, .inl f)) := hP.2 a _ hm
  refine W.iast hx hb hat ((hK.2 0 _ rfl).1 n (fun j => .int (f j))) (fun q => by cases q) (by show ¬ (i < 0 ∨ (arrV _ _ _).slots.size ≤ _); rw [arrV_size]; exact hi) rfl rfl hd fun H' e1 e2 e3 => ?_
  refine hk _ _ _ _ _ ha ls H' _ cells slots hl (hP.put hm ?_ e2 e3) (hS.put e2 e3 (Nat.le_add_right _ _)) h1 h2
  show H'[b0 + a]? = some (vp_cell (cA 0) (n, .inl (upd f i.toNatClampNeg x)))
  rw [e1]
  rw [vp_cell_i, vp_cell_i, arrV_store]
  congr 2
  funext q
  by_cases hq : q = i.toNatClampNeg
  · subst hq
    simp [updV, upd]
  · simp [updV, upd, hq]
theorem sm_lald {T : kt_T} {wsA wsN : List Cond} {cl : List vw_C} {En own : String} {cc : ByteArray} {nL : Nat} {ret : Option FieldType} {nm : String} {Xs : Option (Nat × Nat × (Nat → Int32))} {pc : Nat} (hd : decode cc pc = .ok (.laload, 1)) : kc_Sim T wsA wsN cl En own cc nL ret nm Xs pc (ka_lald) := by
  intro l D cA b0 d mc ms R Z Q p e s m args below meth c hc hrm hrr Rr hR L st μ B k hk ha ls H locs cells slots hl hP hS h1 h2
  obtain ⟨⟨hx, hb, hml, hown, hts⟩, hKN, hb0, hret, hlk, hnm, hXs⟩ := hc
  obtain ⟨hr1, hr2, hr3, hr4⟩ := hrm
  have hK := hKN.1
  obtain ⟨a, n, f, i, r, rfl, hm, hi, ha⟩ := ha
  exact va_lald hx hb hK (kc_P1 (hP.2 a _ hm)) 0 1 rfl rfl hi hd (hk _ _ _ _ _ ha ls H locs cells slots hl hP hS h1 h2)
theorem sm_last {T : kt_T} {wsA wsN : List Cond} {cl : List vw_C} {En own : String} {cc : ByteArray} {nL : Nat} {ret : Option FieldType} {nm : String} {Xs : Option (Nat × Nat × (Nat → Int32))} {pc : Nat} (hd : decode cc pc = .ok (.lastore, 1)) : kc_Sim T wsA wsN cl En own cc nL ret nm Xs pc (ka_last) := by
  intro l D cA b0 d mc ms R Z Q p e s m args below meth c hc hrm hrr Rr hR L st μ B k hk ha ls H locs cells slots hl hP hS h1 h2
  obtain ⟨⟨hx, hb, hml, hown, hts⟩, hKN, hb0, hret, hlk, hnm, hXs⟩ := hc
  obtain ⟨hr1, hr2, hr3, hr4⟩ := hrm
  have hK := hKN.1
  obtain ⟨a, n, f, i, x, r, rfl, hm, hi, ha⟩ := ha
  have hat : H[b0 + a]? = some (vp_cell (cA 1) (n, .inr (.inl f))) := hP.2 a _ hm
  refine W.last hx hb hat ((hK.2 1 _ rfl).1 n (fun j => .long (f j))) (fun q => by cases q) (by show ¬ (i < 0 ∨ (arrV _ _ _).slots.size ≤ _); rw [arrV_size]; exact hi) rfl rfl hd fun H' e1 e2 e3 => ?_
  refine hk _ _ _ _ _ ha ls H' _ cells slots hl (hP.put hm ?_ e2 e3) (hS.put e2 e3 (Nat.le_add_right _ _)) h1 h2
  show H'[b0 + a]? = some (vp_cell (cA 1) (n, .inr (.inl (vp_updL f i.toNatClampNeg x))))
  rw [e1]
  rw [vp_cell_l, vp_cell_l, arrV_store]
  congr 2
  funext q
  by_cases hq : q = i.toNatClampNeg
  · subst hq
    simp [updV, vp_updL]
  · simp [updV, vp_updL, hq]
theorem sm_aald {T : kt_T} {wsA wsN : List Cond} {cl : List vw_C} {En own : String} {cc : ByteArray} {nL : Nat} {ret : Option FieldType} {nm : String} {Xs : Option (Nat × Nat × (Nat → Int32))} {pc : Nat} (hd : decode cc pc = .ok (.aaload, 1)) : kc_Sim T wsA wsN cl En own cc nL ret nm Xs pc (ka_aald) := by
  intro l D cA b0 d mc ms R Z Q p e s m args below meth c hc hrm hrr Rr hR L st μ B k hk ha ls H locs cells slots hl hP hS h1 h2
  obtain ⟨⟨hx, hb, hml, hown, hts⟩, hKN, hb0, hret, hlk, hnm, hXs⟩ := hc
  obtain ⟨hr1, hr2, hr3, hr4⟩ := hrm
  have hK := hKN.1
  obtain ⟨a, n, f, i, r, b, rfl, hm, hi, hfb, ha⟩ := ha
  refine va_aldq (f := fun j => (f j).map (fun a => b0 + a)) hx hb hK (kc_P1 (hP.2 a _ hm)) 0 2 rfl rfl hi hd ?_
  rw [hfb]
  exact (hk _ _ _ _ _ ha ls H locs cells slots hl hP hS h1 h2)
theorem sm_aast {T : kt_T} {wsA wsN : List Cond} {cl : List vw_C} {En own : String} {cc : ByteArray} {nL : Nat} {ret : Option FieldType} {nm : String} {Xs : Option (Nat × Nat × (Nat → Int32))} {pc : Nat} {ci N : Nat} {F : u_T} (hcl : cl[ci]? = some (En, F, N)) (hd : decode cc pc = .ok (.aastore, 1)) : kc_Sim T wsA wsN cl En own cc nL ret nm Xs pc (ka_aast ci) := by
  intro l D cA b0 d mc ms R Z Q p e s m args below meth c hc hrm hrr Rr hR L st μ B k hk ha ls H locs cells slots hl hP hS h1 h2
  obtain ⟨⟨hx, hb, hml, hown, hts⟩, hKN, hb0, hret, hlk, hnm, hXs⟩ := hc
  obtain ⟨hr1, hr2, hr3, hr4⟩ := hrm
  have hK := hKN.1
  obtain ⟨a, n, f, i, b, fs, r, rfl, hm, hmb, hi, ha⟩ := ha
  have hlt : i.toNatClampNeg < n := Nat.not_le.mp fun q => hi (Or.inr q)
  have h0 : ¬ i < 0 := fun q => hi (Or.inl q)
  have hat : H[b0 + a]? = some (vp_cell (cA 2) (n, .inr (.inr (.inr (.inr (fun j => (f j).map (fun a => b0 + a))))))) := hP.2 a _ hm
  obtain ⟨r', hr', cellV, g1, g2, g3, -⟩ := hP.2 b _ hmb
  have hcls := (hK.1 ci _ hcl).2
  obtain ⟨kA, comp, k1, k2, k3, -⟩ := (hK.2 2 _ rfl).2
  have hcomp : comp = D.1 ci := Option.some.inj (k3.symm.trans hcls.1)
  subst hcomp
  obtain ⟨kC, hkC, -⟩ := hcls.2
  refine W.aast hx hb hat (fun q h => by cases h) (fun h => by cases h) k1 k2 rfl hkC ⟨h0, by show _ < (arrV _ _ _).slots.size; rw [arrV_size]; exact hlt⟩ g1 (fun q h => by rw [g3] at h; cases h) (by rw [g2]; exact hkC) (by rw [g2]; exact va_assign hcls) rfl rfl hd fun H' e1 e2 e3 => ?_
  refine hk _ _ _ _ _ ha ls H' _ cells slots hl (hP.put hm ?_ e2 e3) (hS.put e2 e3 (Nat.le_add_right _ _)) h1 h2
  show H'[b0 + a]? = some (vp_cell (cA 2) (n, .inr (.inr (.inr (.inr (fun j => (va_up f i.toNatClampNeg (some b) j).map (fun a => b0 + a)))))))
  rw [e1]
  rw [vp_cell_q, vp_cell_q, arrV_store]
  congr 2
  funext q
  by_cases hq : q = i.toNatClampNeg
  · subst hq
    simp [updV, va_up, va_rf]
  · simp [updV, va_up, hq]
theorem sm_alen {T : kt_T} {wsA wsN : List Cond} {cl : List vw_C} {En own : String} {cc : ByteArray} {nL : Nat} {ret : Option FieldType} {nm : String} {Xs : Option (Nat × Nat × (Nat → Int32))} {pc : Nat} (hd : decode cc pc = .ok (.arraylength, 1)) : kc_Sim T wsA wsN cl En own cc nL ret nm Xs pc (ka_alen) := by
  intro l D cA b0 d mc ms R Z Q p e s m args below meth c hc hrm hrr Rr hR L st μ B k hk ha ls H locs cells slots hl hP hS h1 h2
  obtain ⟨⟨hx, hb, hml, hown, hts⟩, hKN, hb0, hret, hlk, hnm, hXs⟩ := hc
  obtain ⟨hr1, hr2, hr3, hr4⟩ := hrm
  have hK := hKN.1
  obtain ⟨a, x, r, rfl, hm, ha⟩ := ha
  have hx1 : Int32.ofNat (kc_tA b0 x).1 = Int32.ofNat x.1 := by unfold kc_tA; split <;> rfl
  have hkx : kc_k x = 0 ∨ kc_k x = 1 ∨ kc_k x = 2 := by unfold kc_k; split <;> simp
  rcases hkx with hkx | hkx | hkx
  · exact va_alen hx hb hK (kc_P1 (hP.2 a _ hm)) 0 0 rfl (by rw [hkx]; rfl) hx1 hd (hk _ _ _ _ _ ha ls H locs cells slots hl hP hS h1 h2)
  · exact va_alen hx hb hK (kc_P1 (hP.2 a _ hm)) 0 1 rfl (by rw [hkx]; rfl) hx1 hd (hk _ _ _ _ _ ha ls H locs cells slots hl hP hS h1 h2)
  · exact va_alen hx hb hK (kc_P1 (hP.2 a _ hm)) 0 2 rfl (by rw [hkx]; rfl) hx1 hd (hk _ _ _ _ _ ha ls H locs cells slots hl hP hS h1 h2)
theorem sm_new {T : kt_T} {wsA wsN : List Cond} {cl : List vw_C} {En own : String} {cc : ByteArray} {nL : Nat} {ret : Option FieldType} {nm : String} {Xs : Option (Nat × Nat × (Nat → Int32))} {pc : Nat} {ci idx N : Nat} {C : String} {F : u_T} {fs : List Value} (hcl : cl[ci]? = some (C, F, N)) (hin : ∀ w ∈ u_ws C F N, w ∈ wsA) (ty0 : Nat → FieldType) (hty : ∀ k, k < N → parseFieldDescriptor (F k).2.2.1 = some (ty0 k)) (hfs : ∀ (b0 j : Nat), j < N → defaultValue (ty0 j) = vp_V (fs.map (kc_t b0)) j) (hd : decode cc pc = .ok (.new idx, 3)) (w1 : Cond.classLink own idx C ∈ wsA) (w2 : Cond.instantiable C N ∈ wsA) (w3 : Cond.initialized C ∈ wsA) : kc_Sim T wsA wsN cl En own cc nL ret nm Xs pc (ka_new ci N fs) := by
  intro l D cA b0 d mc ms R Z Q p e s m args below meth c hc hrm hrr Rr hR L st μ B k hk ha ls H locs cells slots hl hP hS h1 h2
  obtain ⟨⟨hx, hb, hml, hown, hts⟩, hKN, hb0, hret, hlk, hnm, hXs⟩ := hc
  obtain ⟨hr1, hr2, hr3, hr4⟩ := hrm
  have hK := hKN.1
  obtain ⟨n, hn, hb1, hb2, ha⟩ := ha
  have hKn := hK.1 ci _ hcl
  refine W.newcK hx hb hown (hts _ w1) (hts _ w2) (hts _ w3) rfl hd (by omega) (by omega) hKn.2.1 (hP.1 n hn) fun H1 kC hkC e1 z1 o1 => ?_
  have hsz := hP.1 n hn
  exact hk _ _ _ _ _ ha ls H1 locs (cells + 1) (slots + N) hl (hP.new hn ⟨_, hcl, (u_born ty0 hts hin hKn hkC e1 hty).to (hfs b0)⟩ z1 o1) ⟨by have := hS.1; omega, fun x g1 g2 => (o1 x (by have := hS.1; omega)).trans (hS.2.1 x g1 g2), hS.2.2⟩ (by show cells + 1 + (B.1 - 1) ≤ mc; omega) (by show slots + N + (B.2 - N) ≤ ms; omega)
theorem sm_newi {T : kt_T} {wsA wsN : List Cond} {cl : List vw_C} {En own : String} {cc : ByteArray} {nL : Nat} {ret : Option FieldType} {nm : String} {Xs : Option (Nat × Nat × (Nat → Int32))} {pc : Nat} {aty : ArrayType} (hty : newarray.typeOf aty = .int) (hd : decode cc pc = .ok (.newarray aty, 2)) (hw : Cond.arrayClass .int ∈ wsA) : kc_Sim T wsA wsN cl En own cc nL ret nm Xs pc (ka_newi) := by
  intro l D cA b0 d mc ms R Z Q p e s m args below meth c hc hrm hrr Rr hR L st μ B k hk ha ls H locs cells slots hl hP hS h1 h2
  obtain ⟨⟨hx, hb, hml, hown, hts⟩, hKN, hb0, hret, hlk, hnm, hXs⟩ := hc
  obtain ⟨hr1, hr2, hr3, hr4⟩ := hrm
  have hK := hKN.1
  obtain ⟨n, i, N, r, rfl, hn, hi, hN, hz, hb1, hb2, ha⟩ := ha
  have hcb : componentBytes (newarray.typeOf aty) ≤ 8 := by rw [hty]; decide
  have hsz := hP.1 n hn
  refine va_newaK hx hb (by rw [hty]; exact hts _ hw) rfl hd rfl hi hN (Nat.le_trans (Nat.mul_le_mul_left _ hcb) hz) (by omega) (by omega) hsz fun H1 cB e1 z1 o1 hAr hNm => ?_
  have hcB : cB = cA 0 := by
    have h9 : s.vm.findClass ("[" ++ (FieldType.int).toString) = some (cA 0) := (hK.2 0 _ rfl).2
    rw [hty, h9] at hNm
    exact (Option.some.inj hNm).symm
  subst hcB
  refine hk _ _ _ _ _ ha ls H1 locs (cells + 1) (slots + N) hl (hP.new hn ?_ z1 o1) ⟨by have := hS.1; omega, fun x g1 g2 => (o1 x (by have := hS.1; omega)).trans (hS.2.1 x g1 g2), hS.2.2⟩ (by show cells + 1 + (B.1 - 1) ≤ mc; omega) (by show slots + N + (B.2 - N) ≤ ms; omega)
  show H1[b0 + n]? = some (vp_cell _ _)
  rw [e1, hty]
  rfl
theorem sm_newl {T : kt_T} {wsA wsN : List Cond} {cl : List vw_C} {En own : String} {cc : ByteArray} {nL : Nat} {ret : Option FieldType} {nm : String} {Xs : Option (Nat × Nat × (Nat → Int32))} {pc : Nat} {aty : ArrayType} (hty : newarray.typeOf aty = .long) (hd : decode cc pc = .ok (.newarray aty, 2)) (hw : Cond.arrayClass .long ∈ wsA) : kc_Sim T wsA wsN cl En own cc nL ret nm Xs pc (ka_newl) := by
  intro l D cA b0 d mc ms R Z Q p e s m args below meth c hc hrm hrr Rr hR L st μ B k hk ha ls H locs cells slots hl hP hS h1 h2
  obtain ⟨⟨hx, hb, hml, hown, hts⟩, hKN, hb0, hret, hlk, hnm, hXs⟩ := hc
  obtain ⟨hr1, hr2, hr3, hr4⟩ := hrm
  have hK := hKN.1
  obtain ⟨n, i, N, r, rfl, hn, hi, hN, hz, hb1, hb2, ha⟩ := ha
  have hcb : componentBytes (newarray.typeOf aty) ≤ 8 := by rw [hty]; decide
  have hsz := hP.1 n hn
  refine va_newaK hx hb (by rw [hty]; exact hts _ hw) rfl hd rfl hi hN (Nat.le_trans (Nat.mul_le_mul_left _ hcb) hz) (by omega) (by omega) hsz fun H1 cB e1 z1 o1 hAr hNm => ?_
  have hcB : cB = cA 1 := by
    have h9 : s.vm.findClass ("[" ++ (FieldType.long).toString) = some (cA 1) := (hK.2 1 _ rfl).2
    rw [hty, h9] at hNm
    exact (Option.some.inj hNm).symm
  subst hcB
  refine hk _ _ _ _ _ ha ls H1 locs (cells + 1) (slots + N) hl (hP.new hn ?_ z1 o1) ⟨by have := hS.1; omega, fun x g1 g2 => (o1 x (by have := hS.1; omega)).trans (hS.2.1 x g1 g2), hS.2.2⟩ (by show cells + 1 + (B.1 - 1) ≤ mc; omega) (by show slots + N + (B.2 - N) ≤ ms; omega)
  show H1[b0 + n]? = some (vp_cell _ _)
  rw [e1, hty]
  rfl
theorem sm_newq {T : kt_T} {wsA wsN : List Cond} {cl : List vw_C} {En own : String} {cc : ByteArray} {nL : Nat} {ret : Option FieldType} {nm : String} {Xs : Option (Nat × Nat × (Nat → Int32))} {pc : Nat} {idx : Nat} (hd : decode cc pc = .ok (.anewarray idx, 3)) (w1 : Cond.classLink own idx En ∈ wsA) (w2 : Cond.arrayOver (.object En) ∈ wsN) : kc_Sim T wsA wsN cl En own cc nL ret nm Xs pc (ka_newq) := by
  intro l D cA b0 d mc ms R Z Q p e s m args below meth c hc hrm hrr Rr hR L st μ B k hk ha ls H locs cells slots hl hP hS h1 h2
  obtain ⟨⟨hx, hb, hml, hown, hts⟩, hKN, hb0, hret, hlk, hnm, hXs⟩ := hc
  obtain ⟨hr1, hr2, hr3, hr4⟩ := hrm
  have hK := hKN.1
  obtain ⟨n, i, r, rfl, hn, hi, hz, hb1, hb2, ha⟩ := ha
  have hsz := hP.1 n hn
  refine W.anew hx hb hown (hts _ w1) (va_AO.use (hKN.2 _ w2)) rfl hd rfl hi hz (by omega) (by omega) fun cB kA comp f1 f2 f3 f4 => ?_
  have hcB : cB = cA 2 := by
    obtain ⟨kA', comp', k1, k2, k3, k4⟩ := (hK.2 2 _ rfl).2
    exact Option.some.inj (f1.symm.trans k4)
  subst hcB
  rw [show (Value.ref H.size) = Value.ref (b0 + n) by rw [hsz]]
  generalize hH1 : H.push ({ cls := cA 2, slots := Array.replicate i.toNatClampNeg .null, vm := .none } : Cell) = H1
  have z1 : H1.size = b0 + n + 1 := by rw [← hH1, Array.size_push, hsz]
  have e1 : H1[b0 + n]? = some (arrV (cA 2) i.toNatClampNeg (fun _ => .null)) := by rw [← hH1, ← hsz, Array.getElem?_push_size, ← arrV_new]
  have o1 : ∀ q : Nat, q < b0 + n → H1[q]? = H[q]? := fun q hq => by rw [← hH1, Array.getElem?_push, if_neg (by omega)]
  exact hk _ _ _ _ _ ha ls H1 locs (cells + 1) (slots + i.toNatClampNeg) hl (hP.new hn e1 z1 o1) ⟨by have := hS.1; omega, fun x g1 g2 => (o1 x (by have := hS.1; omega)).trans (hS.2.1 x g1 g2), hS.2.2⟩ (by show cells + 1 + (B.1 - 1) ≤ mc; omega) (by show slots + i.toNatClampNeg + (B.2 - i.toNatClampNeg) ≤ ms; omega)
theorem sm_obj {T : kt_T} {wsA wsN : List Cond} {cl : List vw_C} {En own : String} {cc : ByteArray} {nL : Nat} {ret : Option FieldType} {nm : String} {Xs : Option (Nat × Nat × (Nat → Int32))} {pc : Nat} {idx : Nat} (hd : decode cc pc = .ok (.invokespecial idx, 3)) (w1 : Cond.methodLink own idx objectInit ∈ wsA) (w2 : Cond.instanceMethod objectInit ∈ wsA) (w3 : Cond.code objectInit ⟨#[0xb1]⟩ 1 none ∈ wsA) : kc_Sim T wsA wsN cl En own cc nL ret nm Xs pc (ka_obj) := by
  intro l D cA b0 d mc ms R Z Q p e s m args below meth c hc hrm hrr Rr hR L st μ B k hk ha ls H locs cells slots hl hP hS h1 h2
  obtain ⟨⟨hx, hb, hml, hown, hts⟩, hKN, hb0, hret, hlk, hnm, hXs⟩ := hc
  obtain ⟨hr1, hr2, hr3, hr4⟩ := hrm
  have hK := hKN.1
  obtain ⟨a, r, rfl, hr, ha⟩ := ha
  have hr := Nat.le_trans (Nat.le_of_eq (kc_t_sum b0 r)) hr
  refine W.objInit hx hb hown (hts _ w1) (hts _ w2) (hts _ w3) rfl (by rw [hml]; exact hl.1) rfl hd (by omega) (by show 2 * 0 + _ + 12 ≤ R.locals; omega) ?_
  exact (hk _ _ _ _ _ ha ls H locs cells slots hl hP hS h1 h2)
theorem sm_cv {T : kt_T} {wsA wsN : List Cond} {cl : List vw_C} {En own : String} {cc : ByteArray} {nL : Nat} {ret : Option FieldType} {nm : String} {Xs : Option (Nat × Nat × (Nat → Int32))} {pc : Nat} {j n mj sj idx : Nat} (htm : (T j).2.2.2.2.1 = mj) (hts0 : (T j).2.2.2.2.2 = sj) (hNo : kc_okN wsN) (hG : GoodIn wsA wsA) (wc : Cond.code (T j).1 (T j).2.1 (T j).2.2.1 (T j).2.2.2.1 ∈ wsA) (hlL : (T j).2.2.1 ≤ 80) (hde : (T j).1.cls ≠ "java/lang/invoke/MethodHandle" ∧ (T j).1.cls ≠ "java/lang/invoke/VarHandle" ∧ (parseMethodDescriptor (T j).1.desc).map (fun d => d.parameters.length) = some n) {ci N : Nat} {F : u_T} (hcl : cl[ci]? = some ((T j).1.cls, F, N)) (w1 : Cond.methodLink own idx (T j).1 ∈ wsA) (w2 : Cond.instanceMethod (T j).1 ∈ wsA) (w3 : Cond.selects (T j).1.cls (T j).1 (T j).1 ∈ wsA) (w4 : Cond.initialized (T j).1.cls ∈ wsA) (hd : decode cc pc = .ok (.invokevirtual idx, 3)) : kc_Sim T wsA wsN cl En own cc nL ret nm Xs pc (ka_cv j n ci mj sj) := by
  intro l D cA b0 d mc ms R Z Q p e s m args below meth c hc hrm hrr Rr hR L st μ B k hk ha ls H locs cells slots hl hP hS h1 h2
  obtain ⟨⟨hx, hb, hml, hown, hts⟩, hKN, hb0, hret, hlk, hnm, hXs⟩ := hc
  obtain ⟨hr1, hr2, hr3, hr4⟩ := hrm
  have hK := hKN.1
  obtain ⟨as, a, r, fs, rfl, hlen, hm, hsum, hm1, hm2, Q1, hcall, hcont⟩ := ha
  subst htm; subst hts0
  have hsum := Nat.le_trans (Nat.le_of_eq (kc_t_sum b0 r)) hsum
  have hlen := (List.length_map (f := kc_t b0) (as := as)).trans hlen
  have hM := hR j _ μ Q1 hcall
  have hbH : b0 ≤ H.size := Nat.le_trans hb0 hS.1
  have hGj : GoodIn wsA (kc_ws T wsA j) := fun w hw => by
    rcases List.mem_cons.mp hw with rfl | hw
    · exact hG _ wc
    · exact hG _ hw
  have hRm : (kc_rm d (T j).2.2.2.2.1 (T j).2.2.2.2.2).frames + 1 ≤ R.frames ∧ 8 + ((T j).2.2.1 + 11) + (kc_rm d (T j).2.2.2.2.1 (T j).2.2.2.2.2).locals ≤ R.locals := ⟨by show d + 1 ≤ R.frames; omega, by show 8 + ((T j).2.2.1 + 11) + 100 * d ≤ R.locals; omega⟩
  have hpre := kc_pre (En := En) (av := (.ref a :: as)) hNo hP hKN hbH
  rw [show (as.reverse ++ Value.ref a :: r).map (kc_t b0) = (as.map (kc_t b0)).reverse ++ Value.ref (b0 + a) :: r.map (kc_t b0) by simp [kc_t]]
  have hcw : CallW R s args own (T j).1.cls idx (T j).1 (T j).2.1 (T j).2.2.1 (T j).2.2.2.1 (kc_ws T wsA j) (kc_rm d (T j).2.2.2.2.1 (T j).2.2.2.2.2) (T j).2.2.2.2.1 (T j).2.2.2.2.2 n :=
    ⟨callB_of n hts hGj rfl rfl rfl (hts _ w4) (hts _ w1) hde hRm, hts _ w2, hts _ w3⟩
  have hpv : PreV s H (T j).1.cls (b0 + a) (kc_Pre D cl En wsN cA b0 μ (.ref a :: as)) (as.map (kc_t b0)) := ⟨hpre.1, va_recv (D := D) (cl := cl) (q0 := 0) (fs := fs.map (kc_t b0)) hK (kc_P1 (hP.2 a _ hm)) hcl rfl, hpre.2⟩
  exact kc_call (va_runV (rest := r.map (kc_t b0)) ⟨hx, hb, hml, hown, hts⟩ hM hcw hpv rfl hlen hl.1 rfl (lv_room hsum) hd ⟨by omega, by omega⟩) hS (fun v μ1 H1 locs1 hq hp hs => by
    have h9 := hk _ _ _ _ _ (hcont v μ1 hq) ls H1 locs1 _ _ hl hp hs (by show cells + (T j).2.2.2.2.1 + (B.1 - (T j).2.2.2.2.1) ≤ mc; omega) (by show slots + (T j).2.2.2.2.2 + (B.2 - (T j).2.2.2.2.2) ≤ ms; omega)
    rw [List.map_append, show (v.toList).map (kc_t b0) = (v.map (kc_t b0)).toList by cases v <;> rfl] at h9
    exact h9)
theorem sm_cx {T : kt_T} {wsA wsN : List Cond} {cl : List vw_C} {En own : String} {cc : ByteArray} {nL : Nat} {ret : Option FieldType} {nm : String} {Xs : Option (Nat × Nat × (Nat → Int32))} {pc : Nat} {j n mj sj idx : Nat} (htm : (T j).2.2.2.2.1 = mj) (hts0 : (T j).2.2.2.2.2 = sj) (hNo : kc_okN wsN) (hG : GoodIn wsA wsA) (wc : Cond.code (T j).1 (T j).2.1 (T j).2.2.1 (T j).2.2.2.1 ∈ wsA) (hlL : (T j).2.2.1 ≤ 80) (hde : (T j).1.cls ≠ "java/lang/invoke/MethodHandle" ∧ (T j).1.cls ≠ "java/lang/invoke/VarHandle" ∧ (parseMethodDescriptor (T j).1.desc).map (fun d => d.parameters.length) = some n) (hini : (T j).1.name = "<init>") (hrn : (T j).2.2.2.1 = none) (w1 : Cond.methodLink own idx (T j).1 ∈ wsA) (w2 : Cond.instanceMethod (T j).1 ∈ wsA) (w4 : Cond.initialized (T j).1.cls ∈ wsA) (hd : decode cc pc = .ok (.invokespecial idx, 3)) : kc_Sim T wsA wsN cl En own cc nL ret nm Xs pc (ka_cx j n mj sj) := by
  intro l D cA b0 d mc ms R Z Q p e s m args below meth c hc hrm hrr Rr hR L st μ B k hk ha ls H locs cells slots hl hP hS h1 h2
  obtain ⟨⟨hx, hb, hml, hown, hts⟩, hKN, hb0, hret, hlk, hnm, hXs⟩ := hc
  obtain ⟨hr1, hr2, hr3, hr4⟩ := hrm
  have hK := hKN.1
  obtain ⟨as, a, r, rfl, hlen, hsum, hm1, hm2, Q1, hcall, hcont⟩ := ha
  subst htm; subst hts0
  have hsum := Nat.le_trans (Nat.le_of_eq (kc_t_sum b0 r)) hsum
  have hlen := (List.length_map (f := kc_t b0) (as := as)).trans hlen
  have hM := hR j _ μ Q1 hcall
  have hbH : b0 ≤ H.size := Nat.le_trans hb0 hS.1
  have hGj : GoodIn wsA (kc_ws T wsA j) := fun w hw => by
    rcases List.mem_cons.mp hw with rfl | hw
    · exact hG _ wc
    · exact hG _ hw
  have hRm : (kc_rm d (T j).2.2.2.2.1 (T j).2.2.2.2.2).frames + 1 ≤ R.frames ∧ 8 + ((T j).2.2.1 + 11) + (kc_rm d (T j).2.2.2.2.1 (T j).2.2.2.2.2).locals ≤ R.locals := ⟨by show d + 1 ≤ R.frames; omega, by show 8 + ((T j).2.2.1 + 11) + 100 * d ≤ R.locals; omega⟩
  have hpre := kc_pre (En := En) (av := (.ref a :: as)) hNo hP hKN hbH
  rw [show (as.reverse ++ Value.ref a :: r).map (kc_t b0) = (as.map (kc_t b0)).reverse ++ Value.ref (b0 + a) :: r.map (kc_t b0) by simp [kc_t]]
  have hcw : CallB R s args own idx (T j).1 (T j).2.1 (T j).2.2.1 none (kc_ws T wsA j) (kc_rm d (T j).2.2.2.2.1 (T j).2.2.2.2.2) (T j).2.2.2.2.1 (T j).2.2.2.2.2 n ∧ (T j).1.name = "<init>" ∧ (Cond.instanceMethod (T j).1).before args s = true :=
    ⟨callB_of n hts hGj (by rw [← hrn]; rfl) rfl rfl (hts _ w4) (hts _ w1) hde hRm, hini, hts _ w2⟩
  exact kc_call (va_runI (rest := r.map (kc_t b0)) ⟨hx, hb, hml, hown, hts⟩ hM hcw hpre rfl hlen hl.1 rfl (lv_room hsum) hd ⟨by omega, by omega⟩) hS (fun v μ1 H1 locs1 hq hp hs => by
    have h9 := hk _ _ _ _ _ (hcont v μ1 hq) ls H1 locs1 _ _ hl hp hs (by show cells + (T j).2.2.2.2.1 + (B.1 - (T j).2.2.2.2.1) ≤ mc; omega) (by show slots + (T j).2.2.2.2.2 + (B.2 - (T j).2.2.2.2.2) ≤ ms; omega)
    rw [List.map_append, show (v.toList).map (kc_t b0) = (v.map (kc_t b0)).toList by cases v <;> rfl] at h9
    exact h9)
theorem sm_cxN {T : kt_T} {wsA wsN : List Cond} {cl : List vw_C} {En own : String} {cc : ByteArray} {nL : Nat} {ret : Option FieldType} {nm : String} {Xs : Option (Nat × Nat × (Nat → Int32))} {pc : Nat} {j n mj sj idx : Nat} (htm : (T j).2.2.2.2.1 = mj) (hts0 : (T j).2.2.2.2.2 = sj) (hNo : kc_okN wsN) (hG : GoodIn wsA wsA) (wc : Cond.code (T j).1 (T j).2.1 (T j).2.2.1 (T j).2.2.2.1 ∈ wsA) (hlL : (T j).2.2.1 ≤ 80) (hde : (T j).1.cls ≠ "java/lang/invoke/MethodHandle" ∧ (T j).1.cls ≠ "java/lang/invoke/VarHandle" ∧ (parseMethodDescriptor (T j).1.desc).map (fun d => d.parameters.length) = some n) {host : String} (hini : (T j).1.name = "<init>") (hrn : (T j).2.2.2.1 = none) (w1 : Cond.methodLinkNest own idx (T j).1 host ∈ wsN) (w2 : Cond.instanceMethod (T j).1 ∈ wsA) (w4 : Cond.initialized (T j).1.cls ∈ wsA) (hd : decode cc pc = .ok (.invokespecial idx, 3)) : kc_Sim T wsA wsN cl En own cc nL ret nm Xs pc (ka_cx j n mj sj) := by
  intro l D cA b0 d mc ms R Z Q p e s m args below meth c hc hrm hrr Rr hR L st μ B k hk ha ls H locs cells slots hl hP hS h1 h2
  obtain ⟨⟨hx, hb, hml, hown, hts⟩, hKN, hb0, hret, hlk, hnm, hXs⟩ := hc
  obtain ⟨hr1, hr2, hr3, hr4⟩ := hrm
  have hK := hKN.1
  obtain ⟨as, a, r, rfl, hlen, hsum, hm1, hm2, Q1, hcall, hcont⟩ := ha
  subst htm; subst hts0
  have hsum := Nat.le_trans (Nat.le_of_eq (kc_t_sum b0 r)) hsum
  have hlen := (List.length_map (f := kc_t b0) (as := as)).trans hlen
  have hM := hR j _ μ Q1 hcall
  have hbH : b0 ≤ H.size := Nat.le_trans hb0 hS.1
  have hGj : GoodIn wsA (kc_ws T wsA j) := fun w hw => by
    rcases List.mem_cons.mp hw with rfl | hw
    · exact hG _ wc
    · exact hG _ hw
  have hRm : (kc_rm d (T j).2.2.2.2.1 (T j).2.2.2.2.2).frames + 1 ≤ R.frames ∧ 8 + ((T j).2.2.1 + 11) + (kc_rm d (T j).2.2.2.2.1 (T j).2.2.2.2.2).locals ≤ R.locals := ⟨by show d + 1 ≤ R.frames; omega, by show 8 + ((T j).2.2.1 + 11) + 100 * d ≤ R.locals; omega⟩
  have hpre := kc_pre (En := En) (av := (.ref a :: as)) hNo hP hKN hbH
  rw [show (as.reverse ++ Value.ref a :: r).map (kc_t b0) = (as.map (kc_t b0)).reverse ++ Value.ref (b0 + a) :: r.map (kc_t b0) by simp [kc_t]]
  have hNw : va_Nw (.methodLinkNest own idx (T j).1 host) s := hKN.2 _ w1
  have hcw := va_cnB (R := R) (args := args) (bytes := (T j).2.1) (maxL := (T j).2.2.1) (ret := none) (rm := kc_rm d (T j).2.2.2.2.1 (T j).2.2.2.2.2) (mc := (T j).2.2.2.2.1) (ms := (T j).2.2.2.2.2) n hts hGj (by rw [← hrn]; rfl) rfl rfl hNw (hts _ w4) hde hRm
  exact kc_call (va_runIN (rest := r.map (kc_t b0)) ⟨hx, hb, hml, hown, hts⟩ hM ⟨hcw, hini, hts _ w2⟩ hpre rfl hlen hl.1 rfl (lv_room hsum) hd ⟨by omega, by omega⟩) hS (fun v μ1 H1 locs1 hq hp hs => by
    have h9 := hk _ _ _ _ _ (hcont v μ1 hq) ls H1 locs1 _ _ hl hp hs (by show cells + (T j).2.2.2.2.1 + (B.1 - (T j).2.2.2.2.1) ≤ mc; omega) (by show slots + (T j).2.2.2.2.2 + (B.2 - (T j).2.2.2.2.2) ≤ ms; omega)
    rw [List.map_append, show (v.toList).map (kc_t b0) = (v.map (kc_t b0)).toList by cases v <;> rfl] at h9
    exact h9)
theorem sm_cs {T : kt_T} {wsA wsN : List Cond} {cl : List vw_C} {En own : String} {cc : ByteArray} {nL : Nat} {ret : Option FieldType} {nm : String} {Xs : Option (Nat × Nat × (Nat → Int32))} {pc : Nat} {j n mj sj idx : Nat} (htm : (T j).2.2.2.2.1 = mj) (hts0 : (T j).2.2.2.2.2 = sj) (hNo : kc_okN wsN) (hG : GoodIn wsA wsA) (wc : Cond.code (T j).1 (T j).2.1 (T j).2.2.1 (T j).2.2.2.1 ∈ wsA) (hlL : (T j).2.2.1 ≤ 80) (hde : (T j).1.cls ≠ "java/lang/invoke/MethodHandle" ∧ (T j).1.cls ≠ "java/lang/invoke/VarHandle" ∧ (parseMethodDescriptor (T j).1.desc).map (fun d => d.parameters.length) = some n) (w1 : Cond.methodLink own idx (T j).1 ∈ wsA) (w2 : Cond.static (T j).1 ∈ wsA) (w4 : Cond.initialized (T j).1.cls ∈ wsA) (hd : decode cc pc = .ok (.invokestatic idx, 3)) : kc_Sim T wsA wsN cl En own cc nL ret nm Xs pc (ka_cs j n mj sj) := by
  intro l D cA b0 d mc ms R Z Q p e s m args below meth c hc hrm hrr Rr hR L st μ B k hk ha ls H locs cells slots hl hP hS h1 h2
  obtain ⟨⟨hx, hb, hml, hown, hts⟩, hKN, hb0, hret, hlk, hnm, hXs⟩ := hc
  obtain ⟨hr1, hr2, hr3, hr4⟩ := hrm
  have hK := hKN.1
  obtain ⟨as, r, rfl, hlen, hsum, hm1, hm2, Q1, hcall, hcont⟩ := ha
  subst htm; subst hts0
  have hsum := Nat.le_trans (Nat.le_of_eq (kc_t_sum b0 r)) hsum
  have hlen := (List.length_map (f := kc_t b0) (as := as)).trans hlen
  have hM := hR j _ μ Q1 hcall
  have hbH : b0 ≤ H.size := Nat.le_trans hb0 hS.1
  have hGj : GoodIn wsA (kc_ws T wsA j) := fun w hw => by
    rcases List.mem_cons.mp hw with rfl | hw
    · exact hG _ wc
    · exact hG _ hw
  have hRm : (kc_rm d (T j).2.2.2.2.1 (T j).2.2.2.2.2).frames + 1 ≤ R.frames ∧ 8 + ((T j).2.2.1 + 11) + (kc_rm d (T j).2.2.2.2.1 (T j).2.2.2.2.2).locals ≤ R.locals := ⟨by show d + 1 ≤ R.frames; omega, by show 8 + ((T j).2.2.1 + 11) + 100 * d ≤ R.locals; omega⟩
  have hpre := kc_pre (En := En) (av := as) hNo hP hKN hbH
  rw [show (as.reverse ++ r).map (kc_t b0) = (as.map (kc_t b0)).reverse ++ r.map (kc_t b0) by simp]
  have hcw : CallB R s args own idx (T j).1 (T j).2.1 (T j).2.2.1 (T j).2.2.2.1 (kc_ws T wsA j) (kc_rm d (T j).2.2.2.2.1 (T j).2.2.2.2.2) (T j).2.2.2.2.1 (T j).2.2.2.2.2 n ∧ (Cond.static (T j).1).before args s = true :=
    ⟨callB_of n hts hGj rfl rfl rfl (hts _ w4) (hts _ w1) hde hRm, hts _ w2⟩
  exact kc_call (va_runS (rest := r.map (kc_t b0)) ⟨hx, hb, hml, hown, hts⟩ hM hcw hpre rfl hlen hl.1 rfl (lv_room hsum) hd ⟨by omega, by omega⟩) hS (fun v μ1 H1 locs1 hq hp hs => by
    have h9 := hk _ _ _ _ _ (hcont v μ1 hq) ls H1 locs1 _ _ hl hp hs (by show cells + (T j).2.2.2.2.1 + (B.1 - (T j).2.2.2.2.1) ≤ mc; omega) (by show slots + (T j).2.2.2.2.2 + (B.2 - (T j).2.2.2.2.2) ≤ ms; omega)
    rw [List.map_append, show (v.toList).map (kc_t b0) = (v.map (kc_t b0)).toList by cases v <;> rfl] at h9
    exact h9)
theorem sm_max {T : kt_T} {wsA wsN : List Cond} {cl : List vw_C} {En own : String} {cc : ByteArray} {nL : Nat} {ret : Option FieldType} {nm : String} {Xs : Option (Nat × Nat × (Nat → Int32))} {pc : Nat} {idx : Nat} (hd : decode cc pc = .ok (.invokestatic idx, 3)) (w1 : Cond.methodLink own idx Lib.Math.max.name ∈ wsA) (w2 : Cond.static Lib.Math.max.name ∈ wsA) (w3 : Cond.initialized "java/lang/Math" ∈ wsA) (w4 : Cond.code Lib.Math.max.name Lib.Math.max.code 2 (some .int) ∈ wsA) : kc_Sim T wsA wsN cl En own cc nL ret nm Xs pc (ka_max) := by
  intro l D cA b0 d mc ms R Z Q p e s m args below meth c hc hrm hrr Rr hR L st μ B k hk ha ls H locs cells slots hl hP hS h1 h2
  obtain ⟨⟨hx, hb, hml, hown, hts⟩, hKN, hb0, hret, hlk, hnm, hXs⟩ := hc
  obtain ⟨hr1, hr2, hr3, hr4⟩ := hrm
  have hK := hKN.1
  obtain ⟨x, y, r, rfl, hr, ha⟩ := ha
  have hr := Nat.le_trans (Nat.le_of_eq (kc_t_sum b0 r)) hr
  exact va_mmax hx hb (by rw [hml]; exact hl.1.symm) hown (hts _ w1) (hts _ w2) (hts _ w3) (hts _ w4) (by omega) (by omega) (by omega) (by omega) hd (hk _ _ _ _ _ ha ls H locs cells slots hl hP hS h1 h2)
theorem sm_min {T : kt_T} {wsA wsN : List Cond} {cl : List vw_C} {En own : String} {cc : ByteArray} {nL : Nat} {ret : Option FieldType} {nm : String} {Xs : Option (Nat × Nat × (Nat → Int32))} {pc : Nat} {idx : Nat} (hd : decode cc pc = .ok (.invokestatic idx, 3)) (w1 : Cond.methodLink own idx Lib.Math.min.name ∈ wsA) (w2 : Cond.static Lib.Math.min.name ∈ wsA) (w3 : Cond.initialized "java/lang/Math" ∈ wsA) (w4 : Cond.code Lib.Math.min.name Lib.Math.min.code 2 (some .int) ∈ wsA) : kc_Sim T wsA wsN cl En own cc nL ret nm Xs pc (ka_min) := by
  intro l D cA b0 d mc ms R Z Q p e s m args below meth c hc hrm hrr Rr hR L st μ B k hk ha ls H locs cells slots hl hP hS h1 h2
  obtain ⟨⟨hx, hb, hml, hown, hts⟩, hKN, hb0, hret, hlk, hnm, hXs⟩ := hc
  obtain ⟨hr1, hr2, hr3, hr4⟩ := hrm
  have hK := hKN.1
  obtain ⟨x, y, r, rfl, hr, ha⟩ := ha
  have hr := Nat.le_trans (Nat.le_of_eq (kc_t_sum b0 r)) hr
  exact va_mmin hx hb (by rw [hml]; exact hl.1.symm) hown (hts _ w1) (hts _ w2) (hts _ w3) (hts _ w4) (by omega) (by omega) (by omega) (by omega) hd (hk _ _ _ _ _ ha ls H locs cells slots hl hP hS h1 h2)
theorem sm_cpi {T : kt_T} {wsA wsN : List Cond} {cl : List vw_C} {En own : String} {cc : ByteArray} {nL : Nat} {ret : Option FieldType} {nm : String} {Xs : Option (Nat × Nat × (Nat → Int32))} {pc : Nat} {idx : Nat} (hd : decode cc pc = .ok (.invokestatic idx, 3)) (w1 : Cond.methodLink own idx arraycopyName ∈ wsA) (w2 : Cond.native arraycopyName ∈ wsA) (w3 : Cond.static arraycopyName ∈ wsA) (w4 : Cond.initialized "java/lang/System" ∈ wsA) : kc_Sim T wsA wsN cl En own cc nL ret nm Xs pc (ka_cpi) := by
  intro l D cA b0 d mc ms R Z Q p e s m args below meth c hc hrm hrr Rr hR L st μ B k hk ha ls H locs cells slots hl hP hS h1 h2
  obtain ⟨⟨hx, hb, hml, hown, hts⟩, hKN, hb0, hret, hlk, hnm, hXs⟩ := hc
  obtain ⟨hr1, hr2, hr3, hr4⟩ := hrm
  have hK := hKN.1
  obtain ⟨a0, a1, n0, n1, f, g, sp, dp, n, r, rfl, hr, ⟨hm0, hm1, g1, g2, g3, g4, g5, hne⟩, ha⟩ := ha
  have hr := Nat.le_trans (Nat.le_of_eq (kc_t_sum b0 r)) hr
  obtain ⟨ws, hPw, hDw, hat⟩ := kc_P.list hP
  obtain ⟨p0, e0⟩ := hat a0 _ hm0
  obtain ⟨p1, e1⟩ := hat a1 _ hm1
  refine va_copyi hx hb (by rw [hml]; exact hl.1.symm) hown (hts _ w1) (hts _ w2) (hts _ w3) (hts _ w4) hK hPw hDw hS p0 p1 0 0 e0 e1 rfl rfl rfl g1 g2 g3 g4 g5 (fun _ _ => rfl) (by omega) (by show _ + (5 + 2 + 11) ≤ R.locals; omega) hd fun H1 locs1 hP1 hD1 hS1 => ?_
  exact hk _ _ _ _ _ ha ls H1 locs1 cells slots hl (kc_P.unlist hP hDw hat e1 hm1 hP1) hS1 h1 h2
theorem sm_cpl {T : kt_T} {wsA wsN : List Cond} {cl : List vw_C} {En own : String} {cc : ByteArray} {nL : Nat} {ret : Option FieldType} {nm : String} {Xs : Option (Nat × Nat × (Nat → Int32))} {pc : Nat} {idx : Nat} (hd : decode cc pc = .ok (.invokestatic idx, 3)) (w1 : Cond.methodLink own idx arraycopyName ∈ wsA) (w2 : Cond.native arraycopyName ∈ wsA) (w3 : Cond.static arraycopyName ∈ wsA) (w4 : Cond.initialized "java/lang/System" ∈ wsA) : kc_Sim T wsA wsN cl En own cc nL ret nm Xs pc (ka_cpl) := by
  intro l D cA b0 d mc ms R Z Q p e s m args below meth c hc hrm hrr Rr hR L st μ B k hk ha ls H locs cells slots hl hP hS h1 h2
  obtain ⟨⟨hx, hb, hml, hown, hts⟩, hKN, hb0, hret, hlk, hnm, hXs⟩ := hc
  obtain ⟨hr1, hr2, hr3, hr4⟩ := hrm
  have hK := hKN.1
  obtain ⟨a0, a1, n0, n1, f, g, sp, dp, n, r, rfl, hr, ⟨hm0, hm1, g1, g2, g3, g4, g5, hne⟩, ha⟩ := ha
  have hr := Nat.le_trans (Nat.le_of_eq (kc_t_sum b0 r)) hr
  obtain ⟨ws, hPw, hDw, hat⟩ := kc_P.list hP
  obtain ⟨p0, e0⟩ := hat a0 _ hm0
  obtain ⟨p1, e1⟩ := hat a1 _ hm1
  refine va_copyl hx hb (by rw [hml]; exact hl.1.symm) hown (hts _ w1) (hts _ w2) (hts _ w3) (hts _ w4) hK hPw hDw hS p0 p1 1 1 e0 e1 rfl rfl rfl g1 g2 g3 g4 g5 (fun _ _ => rfl) (by omega) (by show _ + (5 + 2 + 11) ≤ R.locals; omega) hd fun H1 locs1 hP1 hD1 hS1 => ?_
  exact hk _ _ _ _ _ ha ls H1 locs1 cells slots hl (kc_P.unlist hP hDw hat e1 hm1 hP1) hS1 h1 h2
theorem sm_ret {T : kt_T} {wsA wsN : List Cond} {cl : List vw_C} {En own : String} {cc : ByteArray} {nL : Nat} {ret : Option FieldType} {nm : String} {Xs : Option (Nat × Nat × (Nat → Int32))} {pc : Nat} (hd : decode cc pc = .ok (.return_, 1)) (hr0 : ret = none) : kc_Sim T wsA wsN cl En own cc nL ret nm Xs pc (ka_ret) := by
  intro l D cA b0 d mc ms R Z Q p e s m args below meth c hc hrm hrr Rr hR L st μ B k hk ha ls H locs cells slots hl hP hS h1 h2
  obtain ⟨⟨hx, hb, hml, hown, hts⟩, hKN, hb0, hret, hlk, hnm, hXs⟩ := hc
  obtain ⟨hr1, hr2, hr3, hr4⟩ := hrm
  have hK := hKN.1
  obtain ⟨rfl, ha⟩ := ha
  exact hrr none μ H locs cells slots ls pc _ (Or.inl ⟨hr0, rfl, rfl⟩) hd ha hP hS (by omega) (by omega)
theorem sm_ri {T : kt_T} {wsA wsN : List Cond} {cl : List vw_C} {En own : String} {cc : ByteArray} {nL : Nat} {ret : Option FieldType} {nm : String} {Xs : Option (Nat × Nat × (Nat → Int32))} {pc : Nat} (hd : decode cc pc = .ok (.ireturn, 1)) (hr0 : ret = some .int) : kc_Sim T wsA wsN cl En own cc nL ret nm Xs pc (ka_ri) := by
  intro l D cA b0 d mc ms R Z Q p e s m args below meth c hc hrm hrr Rr hR L st μ B k hk ha ls H locs cells slots hl hP hS h1 h2
  obtain ⟨⟨hx, hb, hml, hown, hts⟩, hKN, hb0, hret, hlk, hnm, hXs⟩ := hc
  obtain ⟨hr1, hr2, hr3, hr4⟩ := hrm
  have hK := hKN.1
  obtain ⟨x, rfl, ha⟩ := ha
  exact hrr (some (.int x)) μ H locs cells slots ls pc _ (Or.inr (Or.inl ⟨hr0, rfl, x, rfl⟩)) hd ha hP hS (by omega) (by omega)
theorem sm_rz {T : kt_T} {wsA wsN : List Cond} {cl : List vw_C} {En own : String} {cc : ByteArray} {nL : Nat} {ret : Option FieldType} {nm : String} {Xs : Option (Nat × Nat × (Nat → Int32))} {pc : Nat} (hd : decode cc pc = .ok (.ireturn, 1)) (hr0 : ret = some .boolean) : kc_Sim T wsA wsN cl En own cc nL ret nm Xs pc (ka_rz) := by
  intro l D cA b0 d mc ms R Z Q p e s m args below meth c hc hrm hrr Rr hR L st μ B k hk ha ls H locs cells slots hl hP hS h1 h2
  obtain ⟨⟨hx, hb, hml, hown, hts⟩, hKN, hb0, hret, hlk, hnm, hXs⟩ := hc
  obtain ⟨hr1, hr2, hr3, hr4⟩ := hrm
  have hK := hKN.1
  obtain ⟨x, rfl, hn, ha⟩ := ha
  exact hrr (some (.int x)) μ H locs cells slots ls pc _ (Or.inr (Or.inr (Or.inl ⟨hr0, rfl, x, rfl, hn⟩))) hd ha hP hS (by omega) (by omega)
theorem sm_rl {T : kt_T} {wsA wsN : List Cond} {cl : List vw_C} {En own : String} {cc : ByteArray} {nL : Nat} {ret : Option FieldType} {nm : String} {Xs : Option (Nat × Nat × (Nat → Int32))} {pc : Nat} (hd : decode cc pc = .ok (.lreturn, 1)) (hr0 : ret = some .long) : kc_Sim T wsA wsN cl En own cc nL ret nm Xs pc (ka_rl) := by
  intro l D cA b0 d mc ms R Z Q p e s m args below meth c hc hrm hrr Rr hR L st μ B k hk ha ls H locs cells slots hl hP hS h1 h2
  obtain ⟨⟨hx, hb, hml, hown, hts⟩, hKN, hb0, hret, hlk, hnm, hXs⟩ := hc
  obtain ⟨hr1, hr2, hr3, hr4⟩ := hrm
  have hK := hKN.1
  obtain ⟨x, rfl, ha⟩ := ha
  exact hrr (some (.long x)) μ H locs cells slots ls pc _ (Or.inr (Or.inr (Or.inr ⟨hr0, rfl, x, rfl⟩))) hd ha hP hS (by omega) (by omega)
theorem sm_sload_n {T : kt_T} {wsA wsN : List Cond} {cl : List vw_C} {En own : String} {cc : ByteArray} {nL : Nat} {ret : Option FieldType} {nm : String} {Xs : Option (Nat × Nat × (Nat → Int32))} {pc : Nat} {q : Fin 4} {i : Nat} (hd : decode cc pc = .ok (.aload_n q, 1)) (hi : (q : Nat) = i) : kc_Sim T wsA wsN cl En own cc nL ret nm Xs pc (ka_sl i 1) := by
  intro l D cA b0 d mc ms R Z Q p e s m args below meth c hc hrm hrr Rr hR L st μ B k hk ha ls H locs cells slots hl hP hS h1 h2
  obtain ⟨⟨hx, hb, hml, hown, hts⟩, hKN, hb0, hret, hlk, hnm, hXs⟩ := hc
  obtain ⟨hr1, hr2, hr3, hr4⟩ := hrm
  have hK := hKN.1
  obtain ⟨x, hx1, ha⟩ := ha
  exact lv_aload_n hx hb hd hi (hl.2.2 _ _ (by rw [kc_tl_at, hx1]; rfl)) (hk _ _ _ _ _ ha ls H locs cells slots hl hP hS h1 h2)
theorem sm_sld {T : kt_T} {wsA wsN : List Cond} {cl : List vw_C} {En own : String} {cc : ByteArray} {nL : Nat} {ret : Option FieldType} {nm : String} {Xs : Option (Nat × Nat × (Nat → Int32))} {pc : Nat} {b N : Nat} {xs : Nat → Int32} (hX : Xs = some (b, N, xs)) (hd : decode cc pc = .ok (.iaload, 1)) : kc_Sim T wsA wsN cl En own cc nL ret nm Xs pc (ka_sld b N xs) := by
  intro l D cA b0 d mc ms R Z Q p e s m args below meth c hc hrm hrr Rr hR L st μ B k hk ha ls H locs cells slots hl hP hS h1 h2
  obtain ⟨⟨hx, hb, hml, hown, hts⟩, hKN, hb0, hret, hlk, hnm, hXs⟩ := hc
  obtain ⟨hr1, hr2, hr3, hr4⟩ := hrm
  have hK := hKN.1
  obtain ⟨i, r, rfl, hi, ha⟩ := ha
  obtain ⟨g1, g2, g3⟩ := hXs b N xs hX
  exact va_sld hx hb g1 g2 (Nat.not_le.mpr g3) hS hi hd (hk _ _ _ _ _ ha ls H locs cells slots hl hP hS h1 h2)
theorem sm_sln {T : kt_T} {wsA wsN : List Cond} {cl : List vw_C} {En own : String} {cc : ByteArray} {nL : Nat} {ret : Option FieldType} {nm : String} {Xs : Option (Nat × Nat × (Nat → Int32))} {pc : Nat} {b N : Nat} {xs : Nat → Int32} (hX : Xs = some (b, N, xs)) (hd : decode cc pc = .ok (.arraylength, 1)) : kc_Sim T wsA wsN cl En own cc nL ret nm Xs pc (ka_sln b N) := by
  intro l D cA b0 d mc ms R Z Q p e s m args below meth c hc hrm hrr Rr hR L st μ B k hk ha ls H locs cells slots hl hP hS h1 h2
  obtain ⟨⟨hx, hb, hml, hown, hts⟩, hKN, hb0, hret, hlk, hnm, hXs⟩ := hc
  obtain ⟨hr1, hr2, hr3, hr4⟩ := hrm
  have hK := hKN.1
  obtain ⟨r, rfl, ha⟩ := ha
  obtain ⟨g1, g2, g3⟩ := hXs b N xs hX
  exact va_slen hx hb g1 g2 (Nat.not_le.mpr g3) hS hd (hk _ _ _ _ _ ha ls H locs cells slots hl hP hS h1 h2)
