/-! the reference clears a type -/
theorem fT_c {t : Int32} {l : List tv} {k : Nat} {q : tv} (h : l[k]? = some q) : fT t (l.drop k) = if q.1 = t then fT t (l.drop (k + 1)) else q :: fT t (l.drop (k + 1)) := by
  obtain ⟨hk, rfl⟩ := List.getElem?_eq_some_iff.mp h
  unfold fT
  rw [List.drop_eq_getElem_cons hk]
  by_cases hq : l[k].1 = t
  · rw [if_pos hq, List.filter_cons_of_neg (by rw [decide_eq_true hq]; decide)]
  · rw [if_neg hq, List.filter_cons_of_pos (by rw [decide_eq_false hq]; rfl)]
theorem er_k {l m : List tv} {k : Nat} (hk : k < l.length) : (l.take (k + 1) ++ m).eraseIdx k = l.take k ++ m := by
  rw [List.take_succ_eq_append_getElem hk, List.append_assoc, List.eraseIdx_append_of_length_le (by rw [List.length_take]; omega), List.length_take, show k - min k l.length = 0 by omega]
  rfl
theorem er_n {l : List tv} {k : Nat} {q : tv} {m : List tv} (h : l[k]? = some q) : l.take (k + 1) ++ m = l.take k ++ (q :: m) := by
  obtain ⟨hk, rfl⟩ := List.getElem?_eq_some_iff.mp h
  rw [List.take_succ_eq_append_getElem hk, List.append_assoc]; rfl
/-- in a row of different pairs, to take out the one at j is to take out all its likes -/
theorem er_f {p : tv} : ∀ (l : List tv) (j : Nat), l.Nodup → l[j]? = some p → l.eraseIdx j = rm1 p l
  | [], j, _, h => by cases h
  | q :: l, 0, hn, h => by
    have h : q = p := Option.some.inj h
    subst h
    rw [List.nodup_cons] at hn
    show l = rm1 q (q :: l)
    unfold rm1
    rw [List.filter_cons_of_neg (by simp)]
    exact (fl_0 hn.1).symm
  | q :: l, j + 1, hn, h => by
    rw [List.nodup_cons] at hn
    have h : l[j]? = some p := h
    have hne : ¬ q = p := fun e => hn.1 (e ▸ List.mem_of_getElem? h)
    show q :: l.eraseIdx j = rm1 p (q :: l)
    unfold rm1
    rw [List.filter_cons_of_pos (by rw [decide_eq_false hne]; rfl)]
    congr 1
    exact er_f l j hn.2 h
set_option maxRecDepth 100000 in
set_option maxHeartbeats 4000000 in
theorem y_Md_clearType (d : Nat) {μ : kc_M} {s : Nat → Int32} {l : List tv} (h0 : μ.1 136 = some (ce_Md s)) (hw : wk μ s l) {ty : Int32} : kc_Y kt kC (d + 2) j_Md_clearType [.ref 136, .int ty] μ (fun v μ' => v = some (.int (nI (l.length - (fT ty l).length))) ∧ ∃ s', wkC μ μ' s s' (fT ty l)) := by
  refine ⟨Nat.le_of_ble_eq_true rfl, ?_⟩
  have hl32 := hw.2.1
  have stop : ∀ c (μ1 : kc_M) (s1 : Nat → Int32), c + (fT ty l).length = l.length → wkC μ μ1 s s1 (fT ty l) → kc_X (kC j_Md_clearType) (kc_Y kt kC (d + 1)) (fun v μ' => v = some (.int (nI (l.length - (fT ty l).length))) ∧ ∃ s', wkC μ μ' s s' (fT ty l)) 9 [some (.ref 136), some (.int ty), some (.int (nI c)), some (.int (-1))] [] μ1 (0, 0) := by
    intro c μ1 s1 hlen hC
    refine x_il c_Md_clearType_9 rfl ?_
    refine x_if_lt c_Md_clearType_10 (fun _ => ?_) (fun h => absurd (by decide) h)
    refine x_il c_Md_clearType_37 rfl ?_
    refine x_ri c_Md_clearType_38 ?_
    exact ⟨by rw [show l.length - (fT ty l).length = c by omega], s1, hC⟩
  have loop : ∀ k c (μ1 : kc_M) (s1 : Nat → Int32), k < l.length → c + (k + 1) + (fT ty (l.drop (k + 1))).length = l.length → wkC μ μ1 s s1 (l.take (k + 1) ++ fT ty (l.drop (k + 1))) → kc_X (kC j_Md_clearType) (kc_Y kt kC (d + 1)) (fun v μ' => v = some (.int (nI (l.length - (fT ty l).length))) ∧ ∃ s', wkC μ μ' s s' (fT ty l)) 9 [some (.ref 136), some (.int ty), some (.int (nI c)), some (.int (nI k))] [] μ1 (0, 0) := by
    intro k
    induction k with
    | zero =>
      intro c μ1 s1 hkl hlen hC
      have cont : ∀ c (μ1 : kc_M) (s1 : Nat → Int32), c + (fT ty (l.drop 0)).length = l.length → wkC μ μ1 s s1 (l.take 0 ++ fT ty (l.drop 0)) → kc_X (kC j_Md_clearType) (kc_Y kt kC (d + 1)) (fun v μ' => v = some (.int (nI (l.length - (fT ty l).length))) ∧ ∃ s', wkC μ μ' s s' (fT ty l)) 9 [some (.ref 136), some (.int ty), some (.int (nI c)), some (.int (nI 0 + (-1)))] [] μ1 (0, 0) := fun c μ1 s1 h1 h2 => stop c μ1 s1 h1 h2
      have hq := List.getElem?_eq_getElem hkl
      have hfc := fT_c (t := ty) hq
      have hlt : (l.take (0 + 1) ++ fT ty (l.drop (0 + 1))).length = 0 + 1 + (fT ty (l.drop (0 + 1))).length := by rw [List.length_append, List.length_take]; omega
      obtain ⟨c0, c4, f, g, c1, c2, c3⟩ := hC.2.2.2
      have hfk := c3 0 (by omega)
      rw [List.getElem?_append_left (by rw [List.length_take]; omega), List.getElem?_take, if_pos (by omega), hq] at hfk
      have hf1 : f 0 = (l[0]'hkl).1 := (congrArg Prod.fst (Option.some.inj hfk)).symm
      refine x_il c_Md_clearType_9 rfl ?_
      refine x_ifN_lt c_Md_clearType_10 (by omega) (fun h => (by exfalso; omega)) (fun _ => ?_)
      refine x_al c_Md_clearType_13 rfl ?_
      refine x_get c_Md_clearType_14 (by first | rfl | exact hC.1 | exact c1) rfl ?_
      refine x_il c_Md_clearType_17 rfl ?_
      refine x_ialdE c_Md_clearType_18 (by first | rfl | exact hC.1 | exact c1) (by omega) (by omega) (hf1) ?_
      refine x_il c_Md_clearType_19 rfl ?_
      refine x_cm_ne c_Md_clearType_20 (fun h20 => ?_) (fun h20 => ?_)
      · first | refine x_decN [_, _, _, _] c_Md_clearType_31 rfl (by omega) rfl ?_ | refine x_inc [_, _, _, _] c_Md_clearType_31 rfl rfl ?_
        refine x_goto c_Md_clearType_34 ?_
        first
          | exact cont (c + 1) μ2 s2 (by rw [hfc, if_pos h20]; omega) (by rw [hfc, if_pos h20]; exact hC2)
          | exact cont c μ1 s1 (by rw [hfc, if_neg h20, List.length_cons]; omega) (by rw [hfc, if_neg h20, ← er_n hq]; exact hC)
      · refine x_al c_Md_clearType_23 rfl ?_
        refine x_il c_Md_clearType_24 rfl ?_
        refine x_cv1z _ c_Md_clearType_25 (by first | rfl | exact hC.1 | exact c1) (Nat.le_of_ble_eq_true rfl) (y_Md_unwork d hC.1 hC.2.2.2 (i := 0) (by omega)) ?_
        rintro _ μ2 ⟨rfl, s2, hC2⟩
        have hC2 := hC.to hC2
        rw [er_k hkl] at hC2
        show kc_X _ _ _ _ _ [] _ _
        first | refine x_incN [_, _, _, _] c_Md_clearType_28 rfl rfl ?_ | refine x_inc [_, _, _, _] c_Md_clearType_28 rfl rfl ?_
        first | refine x_decN [_, _, _, _] c_Md_clearType_31 rfl (by omega) rfl ?_ | refine x_inc [_, _, _, _] c_Md_clearType_31 rfl rfl ?_
        refine x_goto c_Md_clearType_34 ?_
        first
          | exact cont (c + 1) μ2 s2 (by rw [hfc, if_pos h20]; omega) (by rw [hfc, if_pos h20]; exact hC2)
          | exact cont c μ1 s1 (by rw [hfc, if_neg h20, List.length_cons]; omega) (by rw [hfc, if_neg h20, ← er_n hq]; exact hC)
    | succ k ih =>
      intro c μ1 s1 hkl hlen hC
      have cont : ∀ c (μ1 : kc_M) (s1 : Nat → Int32), c + (k + 1) + (fT ty (l.drop (k + 1))).length = l.length → wkC μ μ1 s s1 (l.take (k + 1) ++ fT ty (l.drop (k + 1))) → kc_X (kC j_Md_clearType) (kc_Y kt kC (d + 1)) (fun v μ' => v = some (.int (nI (l.length - (fT ty l).length))) ∧ ∃ s', wkC μ μ' s s' (fT ty l)) 9 [some (.ref 136), some (.int ty), some (.int (nI c)), some (.int (nI (k + 1 - 1)))] [] μ1 (0, 0) := fun c μ1 s1 h1 h2 => ih c μ1 s1 (by omega) h1 h2
      have hq := List.getElem?_eq_getElem hkl
      have hfc := fT_c (t := ty) hq
      have hlt : (l.take ((k + 1) + 1) ++ fT ty (l.drop ((k + 1) + 1))).length = (k + 1) + 1 + (fT ty (l.drop ((k + 1) + 1))).length := by rw [List.length_append, List.length_take]; omega
      obtain ⟨c0, c4, f, g, c1, c2, c3⟩ := hC.2.2.2
      have hfk := c3 (k + 1) (by omega)
      rw [List.getElem?_append_left (by rw [List.length_take]; omega), List.getElem?_take, if_pos (by omega), hq] at hfk
      have hf1 : f (k + 1) = (l[(k + 1)]'hkl).1 := (congrArg Prod.fst (Option.some.inj hfk)).symm
      refine x_il c_Md_clearType_9 rfl ?_
      refine x_ifN_lt c_Md_clearType_10 (by omega) (fun h => (by exfalso; omega)) (fun _ => ?_)
      refine x_al c_Md_clearType_13 rfl ?_
      refine x_get c_Md_clearType_14 (by first | rfl | exact hC.1 | exact c1) rfl ?_
      refine x_il c_Md_clearType_17 rfl ?_
      refine x_ialdE c_Md_clearType_18 (by first | rfl | exact hC.1 | exact c1) (by omega) (by omega) (hf1) ?_
      refine x_il c_Md_clearType_19 rfl ?_
      refine x_cm_ne c_Md_clearType_20 (fun h20 => ?_) (fun h20 => ?_)
      · first | refine x_decN [_, _, _, _] c_Md_clearType_31 rfl (by omega) rfl ?_ | refine x_inc [_, _, _, _] c_Md_clearType_31 rfl rfl ?_
        refine x_goto c_Md_clearType_34 ?_
        first
          | exact cont (c + 1) μ2 s2 (by rw [hfc, if_pos h20]; omega) (by rw [hfc, if_pos h20]; exact hC2)
          | exact cont c μ1 s1 (by rw [hfc, if_neg h20, List.length_cons]; omega) (by rw [hfc, if_neg h20, ← er_n hq]; exact hC)
      · refine x_al c_Md_clearType_23 rfl ?_
        refine x_il c_Md_clearType_24 rfl ?_
        refine x_cv1z _ c_Md_clearType_25 (by first | rfl | exact hC.1 | exact c1) (Nat.le_of_ble_eq_true rfl) (y_Md_unwork d hC.1 hC.2.2.2 (i := (k + 1)) (by omega)) ?_
        rintro _ μ2 ⟨rfl, s2, hC2⟩
        have hC2 := hC.to hC2
        rw [er_k hkl] at hC2
        show kc_X _ _ _ _ _ [] _ _
        first | refine x_incN [_, _, _, _] c_Md_clearType_28 rfl rfl ?_ | refine x_inc [_, _, _, _] c_Md_clearType_28 rfl rfl ?_
        first | refine x_decN [_, _, _, _] c_Md_clearType_31 rfl (by omega) rfl ?_ | refine x_inc [_, _, _, _] c_Md_clearType_31 rfl rfl ?_
        refine x_goto c_Md_clearType_34 ?_
        first
          | exact cont (c + 1) μ2 s2 (by rw [hfc, if_pos h20]; omega) (by rw [hfc, if_pos h20]; exact hC2)
          | exact cont c μ1 s1 (by rw [hfc, if_neg h20, List.length_cons]; omega) (by rw [hfc, if_neg h20, ← er_n hq]; exact hC)
  obtain ⟨c0, c4, f, g, c1, c2, c3⟩ := id hw
  by_cases hz : l.length = 0
  · have hl0 : l = [] := List.length_eq_zero_iff.mp hz
    rw [hz] at c0
    refine x_ci c_Md_clearType_0 ?_
    refine x_is [_, _, _, _] c_Md_clearType_1 rfl ?_
    refine x_al c_Md_clearType_2 rfl ?_
    refine x_getE c_Md_clearType_3 (by first | rfl | exact h0) rfl (by first | exact c0 | rfl) ?_
    refine x_ci c_Md_clearType_6 ?_
    refine x_isub c_Md_clearType_7 ?_
    refine x_is [_, _, _, _] c_Md_clearType_8 rfl ?_
    exact stop 0 μ s (by rw [hl0]; rfl) ⟨h0, fun _ _ => rfl, fun _ _ _ _ => rfl, by rw [hl0] at hw ⊢; exact hw⟩
  · skip
    refine x_ci c_Md_clearType_0 ?_
    refine x_is [_, _, _, _] c_Md_clearType_1 rfl ?_
    refine x_al c_Md_clearType_2 rfl ?_
    refine x_getE c_Md_clearType_3 (by first | rfl | exact h0) rfl (by first | exact c0 | rfl) ?_
    refine x_ci c_Md_clearType_6 ?_
    first | refine x_isubN c_Md_clearType_7 (by omega) ?_ | refine x_isub c_Md_clearType_7 ?_
    refine x_is [_, _, _, _] c_Md_clearType_8 rfl ?_
    exact loop (l.length - 1) 0 μ s (by omega) (by rw [List.drop_eq_nil_of_le (by omega)]; show 0 + (l.length - 1 + 1) + 0 = _; omega) ⟨h0, fun _ _ => rfl, fun _ _ _ _ => rfl, by rw [List.drop_eq_nil_of_le (by omega), List.take_of_length_le (by omega)]; show wk μ s (l ++ []); rw [List.append_nil]; exact hw⟩
