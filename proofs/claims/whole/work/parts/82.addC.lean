/-! adding and modifying, the class -/
def hdp (l : List tv) : tv := (l[0]?).getD (0, 0)
theorem hdp_0 {l : List tv} (h : 1 ≤ l.length) : l[0]? = some ((hdp l).1, (hdp l).2) := by
  unfold hdp
  rw [List.getElem?_eq_getElem (by omega)]; rfl
def adK (n : Nat) (nm : Nat → List tv) (l : List tv) (cs : List cg) : Nat × Option (List tv) :=
  if fd nm l n 0 = none then
    if 1 < l.length ∧ fd nm (l.drop 1) n 0 = none then (32, none)
    else if (apl cs []).1 = 0 then
      if hdp l ∈ (apl cs []).2 then
        if 16 ≤ n ∨ 6 < (apl cs []).2.length then (53, none) else (0, some (apl cs []).2)
      else (64, none)
    else ((apl cs []).1, none)
  else (68, none)
def moK (n : Nat) (nm pr : Nat → List tv) (l : List tv) (cs : List cg) : Nat × Option (Nat × List tv) := match fd nm l n 0 with
  | none => (32, none)
  | some e => if (apl cs (pr e)).1 = 0 then
      if hdp l ∈ (apl cs (pr e)).2 then
        if 6 < (apl cs (pr e)).2.length then (53, none) else (0, some (e, (apl cs (pr e)).2))
      else (67, none)
    else ((apl cs (pr e)).1, none)
def adN (n : Nat) : Option (List tv) → Nat
  | none => n
  | some _ => n + 1
def adF (n : Nat) (x : List tv → List tv) (f : Nat → List tv) : Option (List tv) → Nat → List tv
  | none => f
  | some a => fun i => if i = n then x a else f i
def moF (f : Nat → List tv) : Option (Nat × List tv) → Nat → List tv
  | none => f
  | some (e, p) => fun i => if i = e then p else f i
/-- an operation that changes entries, behind what comes first -/
def opK {α : Type} (so : Bool) (o : Option (List tv)) (ok : Bool) (f : List tv → Nat × Option α) : Nat × Option α := if chC so o ok = 0 then f (o.getD []) else (chC so o ok, none)
theorem chC_lt {so : Bool} {o : Option (List tv)} {ok : Bool} : chC so o ok < 64 := by
  unfold chC
  split
  · split
    · split
      · split <;> omega
      · omega
    · omega
  · omega
theorem chC_z {so : Bool} {o : Option (List tv)} {ok : Bool} (h : chC so o ok = 0) : ∃ l, o = some l ∧ 1 ≤ l.length := by
  unfold chC at h
  split at h
  · split at h
    · split at h
      · rename_i l
        split at h
        · omega
        · exact ⟨l, rfl, by omega⟩
      · omega
    · omega
  · omega
theorem sc_ch {μ μ' : kc_M} {c vc : Nat} {kf tf ef : Nat → Int32} {vf : Nat → Int64} (h : sc_at μ) (hA : chA μ' c vc kf tf ef vf) (hk : ∀ q, 119 ≤ q → q < 122 ∨ 126 < q → q < 136 → μ'.1 q = μ.1 q) : sc_at μ' := by
  obtain ⟨⟨p, f, g, a1, a2, a3⟩, _, ⟨b1, b2, b3, b4, b5⟩, ⟨c1, c2, c3, c4, c5, d1, d2, d3, d4, d5⟩, ⟨e1, e2, e3, e4, e5, e6⟩⟩ := h
  exact ⟨⟨p, f, g, (hk _ (by omega) (by omega) (by omega)).trans a1, (hk _ (by omega) (by omega) (by omega)).trans a2, (hk _ (by omega) (by omega) (by omega)).trans a3⟩, ⟨c, vc, kf, tf, ef, vf, hA.1, hA.2.1, hA.2.2.1, hA.2.2.2.1, hA.2.2.2.2⟩, ⟨b1, b2, b3, b4, (hk _ (by omega) (by omega) (by omega)).trans b5⟩, ⟨c1, c2, c3, c4, c5, (hk _ (by omega) (by omega) (by omega)).trans d1, (hk _ (by omega) (by omega) (by omega)).trans d2, (hk _ (by omega) (by omega) (by omega)).trans d3, (hk _ (by omega) (by omega) (by omega)).trans d4, (hk _ (by omega) (by omega) (by omega)).trans d5⟩, ⟨e1, e2, e3, (hk _ (by omega) (by omega) (by omega)).trans e4, (hk _ (by omega) (by omega) (by omega)).trans e5, (hk _ (by omega) (by omega) (by omega)).trans e6⟩⟩
theorem sc_pa {μ μ' : kc_M} {l : List tv} (h : sc_at μ) (hA : pa_at μ' 133 134 135 30 l) (hk : ∀ q, 119 ≤ q → q < 133 → μ'.1 q = μ.1 q) : sc_at μ' := by
  obtain ⟨⟨p, f, g, a1, a2, a3⟩, ⟨c, vc, f', g', h', k, x1, x2, x3, x4, x5⟩, ⟨b1, b2, b3, b4, b5⟩, ⟨c1, c2, c3, c4, c5, d1, d2, d3, d4, d5⟩, _⟩ := h
  obtain ⟨f9, g9, y1, y2, y3, _⟩ := hA
  exact ⟨⟨p, f, g, (hk _ (by omega) (by omega)).trans a1, (hk _ (by omega) (by omega)).trans a2, (hk _ (by omega) (by omega)).trans a3⟩, ⟨c, vc, f', g', h', k, (hk _ (by omega) (by omega)).trans x1, (hk _ (by omega) (by omega)).trans x2, (hk _ (by omega) (by omega)).trans x3, (hk _ (by omega) (by omega)).trans x4, (hk _ (by omega) (by omega)).trans x5⟩, ⟨b1, b2, b3, b4, (hk _ (by omega) (by omega)).trans b5⟩, ⟨c1, c2, c3, c4, c5, (hk _ (by omega) (by omega)).trans d1, (hk _ (by omega) (by omega)).trans d2, (hk _ (by omega) (by omega)).trans d3, (hk _ (by omega) (by omega)).trans d4, (hk _ (by omega) (by omega)).trans d5⟩, ⟨l.length, f9, g9, y1, y2, y3⟩⟩
set_option maxRecDepth 100000 in
set_option maxHeartbeats 4000000 in
theorem y_Dk_add (d : Nat) {μ : kc_M} {lo so : Bool} {tb : Nat → Nat} {sz : Nat} {id : Int32} {r : RS} (k0 : μ.1 0 = some (ce_Dk lo so)) (hr : rd_r μ tb sz id r) (hk : rok sz r) (htb : ∀ j, tb j < 256) {n : Nat} {ad : Nat → Nat} {nm pr : Nat → List tv} (ht : tr_at μ n ad nm pr) (hsc : sc_at μ) : kc_Y kt kC (d + 7) j_Dk_add [.ref 0] μ (fun v μ' => v = some (.int (nI (opK so (nmS tb (rS tb (nI 4) r).2.2.2.1 (rS tb (nI 4) r).2.2.2.2) (rD (rcF tb false (rS tb (nI 4) r)).1) (fun l => adK n nm l (rcF tb false (rS tb (nI 4) r)).2)).1)) ∧ μ'.1 0 = some (ce_Dk lo so) ∧ (∃ r', rd_r μ' tb sz id r' ∧ rok sz r') ∧ tr_at μ' (adN n (opK so (nmS tb (rS tb (nI 4) r).2.2.2.1 (rS tb (nI 4) r).2.2.2.2) (rD (rcF tb false (rS tb (nI 4) r)).1) (fun l => adK n nm l (rcF tb false (rS tb (nI 4) r)).2)).2) ad (adF n (fun _ => (nmS tb (rS tb (nI 4) r).2.2.2.1 (rS tb (nI 4) r).2.2.2.2).getD []) nm (opK so (nmS tb (rS tb (nI 4) r).2.2.2.1 (rS tb (nI 4) r).2.2.2.2) (rD (rcF tb false (rS tb (nI 4) r)).1) (fun l => adK n nm l (rcF tb false (rS tb (nI 4) r)).2)).2) (adF n (fun p => p) pr (opK so (nmS tb (rS tb (nI 4) r).2.2.2.1 (rS tb (nI 4) r).2.2.2.2) (rD (rcF tb false (rS tb (nI 4) r)).1) (fun l => adK n nm l (rcF tb false (rS tb (nI 4) r)).2)).2) ∧ (∀ q, q ≠ 1 → q < 5 ∨ 136 ≤ q → μ'.1 q = μ.1 q) ∧ sc_at μ' ∧ tg_at μ' (nmS tb (rS tb (nI 4) r).2.2.2.1 (rS tb (nI 4) r).2.2.2.2)) := by
  refine ⟨Nat.le_of_ble_eq_true rfl, ?_⟩
  refine x_al c_Dk_add_0 rfl ?_
  refine x_get c_Dk_add_1 (by first | rfl | exact k0 | exact hr.1 | exact m1 | exact hr1.1 | exact hs9 | exact m2 | exact hs2 | exact hr2.1 | exact m3) rfl ?_
  refine x_ci c_Dk_add_4 ?_
  refine x_cv1z _ c_Dk_add_5 (by first | rfl | exact k0 | exact hr.1 | exact m1 | exact hr1.1 | exact hs9 | exact m2 | exact hs2 | exact hr2.1 | exact m3) (Nat.le_of_ble_eq_true rfl) (y_Rd_span (d + 4) hr hk htb (tag := nI 4)) ?_
  rintro _ μ1 ⟨rfl, hr1, f1⟩
  have hk1 := rok_S (tb := tb) (tag := nI 4) hk
  have m1 := (f1 0 (by decide)).trans k0
  have hz := hk.2.2
  have hsc1 : sc_at μ1 := sc_k hsc (fun q h1 h2 => f1 q (by omega))
  have hsc1' := hsc1
  obtain ⟨⟨p9, f9, g9, hs9, _⟩, ⟨c8, vc8, f8, g8, h8, k8, hs8, _⟩, _⟩ := hsc1'
  show kc_X _ _ _ _ _ [] _ _
  refine x_al c_Dk_add_8 rfl ?_
  refine x_get c_Dk_add_9 (by first | rfl | exact k0 | exact hr.1 | exact m1 | exact hr1.1 | exact hs9 | exact m2 | exact hs2 | exact hr2.1 | exact m3) rfl ?_
  refine x_al c_Dk_add_12 rfl ?_
  refine x_get c_Dk_add_13 (by first | rfl | exact k0 | exact hr.1 | exact m1 | exact hr1.1 | exact hs9 | exact m2 | exact hs2 | exact hr2.1 | exact m3) rfl ?_
  refine x_cv1z _ c_Dk_add_16 (by first | rfl | exact k0 | exact hr.1 | exact m1 | exact hr1.1 | exact hs9 | exact m2 | exact hs2 | exact hr2.1 | exact m3) (Nat.le_of_ble_eq_true rfl) (y_Nm_readFrom (d + 2) hr1 htb hk1.2.2.1 (by have := hk1.2.2.2.1; omega) hsc1) ?_
  rintro _ μ2 ⟨rfl, g2, f2⟩
  have m2 := (f2 0 (by decide) (by decide) (by decide)).trans m1
  have hr2 : rd_r μ2 tb sz id (rS tb (nI 4) r) := ⟨(f2 1 (by decide) (by decide) (by decide)).trans hr1.1, (f2 2 (by decide) (by decide) (by decide)).trans hr1.2⟩
  have hsc2 : sc_at μ2 := sc_tg hsc1 g2 (fun q h1 h2 => f2 q (by omega) (by omega) (by omega))
  have hs2 := (f2 122 (by decide) (by decide) (by decide)).trans hs8
  show kc_X _ _ _ _ _ [] _ _
  refine x_al c_Dk_add_19 rfl ?_
  refine x_get c_Dk_add_20 (by first | rfl | exact k0 | exact hr.1 | exact m1 | exact hr1.1 | exact hs9 | exact m2 | exact hs2 | exact hr2.1 | exact m3) rfl ?_
  refine x_al c_Dk_add_23 rfl ?_
  refine x_get c_Dk_add_24 (by first | rfl | exact k0 | exact hr.1 | exact m1 | exact hr1.1 | exact hs9 | exact m2 | exact hs2 | exact hr2.1 | exact m3) rfl ?_
  refine x_ci c_Dk_add_27 ?_
  refine x_cv2z _ c_Dk_add_28 (by first | rfl | exact k0 | exact hr.1 | exact m1 | exact hr1.1 | exact hs9 | exact m2 | exact hs2 | exact hr2.1 | exact m3) (Nat.le_of_ble_eq_true rfl) (y_Ch_readFrom (d + 1) hr2 hk1.1 htb hsc2 false) ?_
  rintro _ μ3 ⟨rfl, hr3, hk3, ⟨kf, tf, ef, vf, hA3, hL3⟩, h12, h24, f3⟩
  have m3 := (f3 0 (by decide) (by decide)).trans m2
  have g3 := tg_k g2 (μ' := μ3) (fun q h1 h2 => f3 q (by omega) (by omega))
  have hsc3 : sc_at μ3 := sc_ch hsc2 hA3 (fun q h1 h2 h3 => f3 q (by omega) h2)
  have ff : ∀ q, q ≠ 1 → q < 119 ∨ 136 ≤ q → μ3.1 q = μ.1 q := fun q q1 q2 => (f3 q q1 (by omega)).trans ((f2 q (by omega) (by omega) (by omega)).trans (f1 q q1))
  have ht3 := tr_k ht (μ' := μ3) (fun q h1 h2 => ff q (by omega) (by omega))
  generalize (nmS tb (rS tb (nI 4) r).2.2.2.1 (rS tb (nI 4) r).2.2.2.2) = o at g3 ⊢
  generalize (rcF tb false (rS tb (nI 4) r)).2 = cs at hA3 hL3 h12 h24 ⊢
  generalize (rcF tb false (rS tb (nI 4) r)).1 = x3 at hr3 hk3 ⊢
  show kc_X _ _ _ _ _ [] _ _
  refine x_al c_Dk_add_31 rfl ?_
  refine x_cv0z _ c_Dk_add_32 (by first | rfl | exact k0 | exact hr.1 | exact m1 | exact hr1.1 | exact hs9 | exact m2 | exact hs2 | exact hr2.1 | exact m3) (Nat.le_of_ble_eq_true rfl) (y_Dk_changingCode (d + 4) m3 hr3 hk3 htb g3) ?_
  rintro _ μx ⟨rfl, hμx⟩
  have hμx := hμx.symm
  subst hμx
  show kc_X _ _ _ _ _ [.int (nI (chC so o (rD x3)))] _ _
  have hc64 := chC_lt (so := so) (o := o) (ok := rD x3)
  generalize hcc : chC so o (rD x3) = cc at hc64 ⊢
  refine x_is [_, _] c_Dk_add_35 rfl ?_
  refine x_il c_Dk_add_36 rfl ?_
  refine x_ifN_eq c_Dk_add_37 (by omega) (fun h37 => ?_) (fun h37 => ?_)
  · subst h37
    obtain ⟨l, rfl, hl1⟩ := chC_z hcc
    have hD : opK so (some l) (rD x3) (fun l => adK n nm l cs) = adK n nm l cs := by unfold opK; rw [if_pos hcc]; rfl
    rw [hD]
    have g3 : nm_at μ3 119 120 121 l := g3
    have h4 : l.length ≤ 4 := by obtain ⟨_, _, _, _, _, _, h⟩ := g3; exact h
    have hs3 := nm_c g3
    have hsc3' := hsc3
    obtain ⟨_, _, _, _, ⟨dn0, df, dg, hd1, hd2, hd3⟩⟩ := hsc3'
    have rest : fd nm l n 0 = none → ¬ (1 < l.length ∧ fd nm (l.drop 1) n 0 = none) → kc_X (kC j_Dk_add) (kc_Y kt kC (d + 6)) (fun v μ' => v = some (.int (nI (adK n nm l cs).1)) ∧ μ'.1 0 = some (ce_Dk lo so) ∧ (∃ r', rd_r μ' tb sz id r' ∧ rok sz r') ∧ tr_at μ' (adN n (adK n nm l cs).2) ad (adF n (fun _ => (some l).getD []) nm (adK n nm l cs).2) (adF n (fun p => p) pr (adK n nm l cs).2) ∧ (∀ q, q ≠ 1 → q < 5 ∨ 136 ≤ q → μ'.1 q = μ.1 q) ∧ sc_at μ' ∧ tg_at μ' (some l)) 91 [some (.ref 0), some (.int (nI 0))] [] μ3 (0, 0) := by
      intro hn0 hn1
      refine x_al c_Dk_add_91 rfl ?_
      refine x_get c_Dk_add_92 (by first | rfl | exact m3 | exact hd1 | exact hA3.1 | exact m5 | exact (pa_c hp5) | exact ht5.1 | exact ((f5 122 (by decide)).trans ((kc_gf (by decide)).trans hA3.1)) | exact (nm_c g5)) rfl ?_
      refine x_ci c_Dk_add_95 ?_
      refine x_put [_, _, _] c_Dk_add_96 (by first | rfl | exact m3 | exact hd1 | exact hA3.1 | exact m5 | exact (pa_c hp5) | exact ht5.1 | exact ((f5 122 (by decide)).trans ((kc_gf (by decide)).trans hA3.1)) | exact (nm_c g5)) ⟨Nat.le_of_ble_eq_true rfl, rfl, rfl⟩ rfl ?_
      refine x_al c_Dk_add_99 rfl ?_
      refine x_get c_Dk_add_100 (by first | rfl | exact m3 | exact hd1 | exact hA3.1 | exact m5 | exact (pa_c hp5) | exact ht5.1 | exact ((f5 122 (by decide)).trans ((kc_gf (by decide)).trans hA3.1)) | exact (nm_c g5)) rfl ?_
      refine x_al c_Dk_add_103 rfl ?_
      refine x_get c_Dk_add_104 (by first | rfl | exact m3 | exact hd1 | exact hA3.1 | exact m5 | exact (pa_c hp5) | exact ht5.1 | exact ((f5 122 (by decide)).trans ((kc_gf (by decide)).trans hA3.1)) | exact (nm_c g5)) rfl ?_
      refine x_cv1z _ c_Dk_add_107 (by first | rfl | exact m3 | exact hd1 | exact hA3.1 | exact m5 | exact (pa_c hp5) | exact ht5.1 | exact ((f5 122 (by decide)).trans ((kc_gf (by decide)).trans hA3.1)) | exact (nm_c g5)) (Nat.le_of_ble_eq_true rfl) (y_Ch_applyTo (d + 2) (μ := kc_u μ3 133 (ce_Pa 134 135 0)) (chA_k hA3 (fun q h1 h2 => kc_gf (by omega))) hL3 h12 (l := []) ⟨df, dg, kc_gs, (kc_gf (by decide)).trans hd2, (kc_gf (by decide)).trans hd3, fun k hk => (by cases hk), Nat.zero_le _⟩ ⟨List.nodup_nil, fun p hp => (by cases hp)⟩ (by show 0 + tot cs ≤ 30; omega)) ?_
      rintro _ μ5 ⟨rfl, hp5, f5, hg5, h64⟩
      have m5 := (f5 0 (by decide)).trans ((kc_gf (by decide)).trans m3)
      have hsc5 : sc_at μ5 := sc_pa hsc3 hp5 (fun q h1 h2 => (f5 q (by omega)).trans (kc_gf (by omega)))
      have g5 : nm_at μ5 119 120 121 l := nm_k g3 ((f5 119 (by decide)).trans (kc_gf (by decide))) ((f5 120 (by decide)).trans (kc_gf (by decide))) ((f5 121 (by decide)).trans (kc_gf (by decide)))
      have ht5 := tr_k ht3 (μ' := μ5) (fun q h1 h2 => (f5 q (by omega)).trans (kc_gf (by omega)))
      have hpl : (apl cs []).2.length ≤ 30 := by obtain ⟨_, _, _, _, _, _, h⟩ := hp5; exact h
      have hn16 := ht5.2.2.2.2.2
      show kc_X _ _ _ _ _ [.int (nI (apl cs []).1)] _ _
      refine x_is [_, _] c_Dk_add_110 rfl ?_
      refine x_il c_Dk_add_111 rfl ?_
      refine x_ifN_eq c_Dk_add_112 (by omega) (fun h112 => ?_) (fun h112 => ?_)
      · refine x_al c_Dk_add_117 rfl ?_
        refine x_get c_Dk_add_118 (by first | rfl | exact m3 | exact hd1 | exact hA3.1 | exact m5 | exact (pa_c hp5) | exact ht5.1 | exact ((f5 122 (by decide)).trans ((kc_gf (by decide)).trans hA3.1)) | exact (nm_c g5)) rfl ?_
        refine x_al c_Dk_add_121 rfl ?_
        refine x_get c_Dk_add_122 (by first | rfl | exact m3 | exact hd1 | exact hA3.1 | exact m5 | exact (pa_c hp5) | exact ht5.1 | exact ((f5 122 (by decide)).trans ((kc_gf (by decide)).trans hA3.1)) | exact (nm_c g5)) rfl ?_
        refine x_cv1z _ c_Dk_add_125 (by first | rfl | exact m3 | exact hd1 | exact hA3.1 | exact m5 | exact (pa_c hp5) | exact ht5.1 | exact ((f5 122 (by decide)).trans ((kc_gf (by decide)).trans hA3.1)) | exact (nm_c g5)) (Nat.le_of_ble_eq_true rfl) (y_Pa_hasOwnPartOf (d + 4) hp5 (by omega) g5 hl1 (hdp_0 hl1)) ?_
        rintro _ μx ⟨rfl, hμx⟩
        have hμx := hμx.symm
        subst hμx
        show kc_X _ _ _ _ _ [.int (bI (decide (hdp l ∈ (apl cs []).2)))] _ _
        refine x_ifB_ne c_Dk_add_128 (fun h128 => ?_) (fun h128 => ?_)
        · refine x_al c_Dk_add_134 rfl ?_
          refine x_get c_Dk_add_135 (by first | rfl | exact m3 | exact hd1 | exact hA3.1 | exact m5 | exact (pa_c hp5) | exact ht5.1 | exact ((f5 122 (by decide)).trans ((kc_gf (by decide)).trans hA3.1)) | exact (nm_c g5)) rfl ?_
          refine x_get c_Dk_add_138 (by first | rfl | exact m3 | exact hd1 | exact hA3.1 | exact m5 | exact (pa_c hp5) | exact ht5.1 | exact ((f5 122 (by decide)).trans ((kc_gf (by decide)).trans hA3.1)) | exact (nm_c g5)) rfl ?_
          refine x_ci c_Dk_add_141 ?_
          refine x_cmN_ge c_Dk_add_143 (by omega) (by omega) (fun h143 => ?_) (fun h143 => ?_)
          · refine x_ci c_Dk_add_158 ?_
            refine x_ri c_Dk_add_160 ?_
            have hK : adK n nm l cs = (53, none) := by unfold adK; rw [if_pos hn0, if_neg hn1, if_pos h112, if_pos (of_decide_eq_true h128), if_pos (by omega)]
            rw [hK]
            exact ⟨rfl, m5, ⟨_, ⟨(f5 1 (by decide)).trans ((kc_gf (by decide)).trans hr3.1), (f5 2 (by decide)).trans ((kc_gf (by decide)).trans hr3.2)⟩, hk3⟩, ht5, (fun q q1 q2 => (f5 q (by omega)).trans ((kc_gf (by omega)).trans (ff q q1 (by omega)))), hsc5, g5⟩
          · refine x_al c_Dk_add_146 rfl ?_
            refine x_get c_Dk_add_147 (by first | rfl | exact m3 | exact hd1 | exact hA3.1 | exact m5 | exact (pa_c hp5) | exact ht5.1 | exact ((f5 122 (by decide)).trans ((kc_gf (by decide)).trans hA3.1)) | exact (nm_c g5)) rfl ?_
            refine x_get c_Dk_add_150 (by first | rfl | exact m3 | exact hd1 | exact hA3.1 | exact m5 | exact (pa_c hp5) | exact ht5.1 | exact ((f5 122 (by decide)).trans ((kc_gf (by decide)).trans hA3.1)) | exact (nm_c g5)) rfl ?_
            refine x_ci c_Dk_add_153 ?_
            refine x_cmN_le c_Dk_add_155 (by omega) (by omega) (fun h155 => ?_) (fun h155 => ?_)
            · refine x_al c_Dk_add_161 rfl ?_
              refine x_get c_Dk_add_162 (by first | rfl | exact m3 | exact hd1 | exact hA3.1 | exact m5 | exact (pa_c hp5) | exact ht5.1 | exact ((f5 122 (by decide)).trans ((kc_gf (by decide)).trans hA3.1)) | exact (nm_c g5)) rfl ?_
              refine x_al c_Dk_add_165 rfl ?_
              refine x_get c_Dk_add_166 (by first | rfl | exact m3 | exact hd1 | exact hA3.1 | exact m5 | exact (pa_c hp5) | exact ht5.1 | exact ((f5 122 (by decide)).trans ((kc_gf (by decide)).trans hA3.1)) | exact (nm_c g5)) rfl ?_
              refine x_al c_Dk_add_169 rfl ?_
              refine x_get c_Dk_add_170 (by first | rfl | exact m3 | exact hd1 | exact hA3.1 | exact m5 | exact (pa_c hp5) | exact ht5.1 | exact ((f5 122 (by decide)).trans ((kc_gf (by decide)).trans hA3.1)) | exact (nm_c g5)) rfl ?_
              refine x_cv2z _ c_Dk_add_173 (by first | rfl | exact m3 | exact hd1 | exact hA3.1 | exact m5 | exact (pa_c hp5) | exact ht5.1 | exact ((f5 122 (by decide)).trans ((kc_gf (by decide)).trans hA3.1)) | exact (nm_c g5)) (Nat.le_of_ble_eq_true rfl) (y_Tr_append (d + 4) ht5 g5 hp5 (by omega) (by omega)) ?_
              rintro _ μ6 ⟨rfl, ht6, f6⟩
              show kc_X _ _ _ _ _ [] _ _
              refine x_ci c_Dk_add_176 ?_
              refine x_ri c_Dk_add_177 ?_
              have hK : adK n nm l cs = (0, some (apl cs []).2) := by unfold adK; rw [if_pos hn0, if_neg hn1, if_pos h112, if_pos (of_decide_eq_true h128), if_neg (by omega)]
              rw [hK]
              exact ⟨rfl, (f6 0 (by decide)).trans m5, ⟨_, ⟨(f6 1 (by decide)).trans ((f5 1 (by decide)).trans ((kc_gf (by decide)).trans hr3.1)), (f6 2 (by decide)).trans ((f5 2 (by decide)).trans ((kc_gf (by decide)).trans hr3.2))⟩, hk3⟩, ht6, (fun q q1 q2 => (f6 q (by omega)).trans ((f5 q (by omega)).trans ((kc_gf (by omega)).trans (ff q q1 (by omega))))), sc_k hsc5 (fun q h1 h2 => f6 q (by omega)), nm_k g5 (f6 119 (by decide)) (f6 120 (by decide)) (f6 121 (by decide))⟩
            · refine x_ci c_Dk_add_158 ?_
              refine x_ri c_Dk_add_160 ?_
              have hK : adK n nm l cs = (53, none) := by unfold adK; rw [if_pos hn0, if_neg hn1, if_pos h112, if_pos (of_decide_eq_true h128), if_pos (by omega)]
              rw [hK]
              exact ⟨rfl, m5, ⟨_, ⟨(f5 1 (by decide)).trans ((kc_gf (by decide)).trans hr3.1), (f5 2 (by decide)).trans ((kc_gf (by decide)).trans hr3.2)⟩, hk3⟩, ht5, (fun q q1 q2 => (f5 q (by omega)).trans ((kc_gf (by omega)).trans (ff q q1 (by omega)))), hsc5, g5⟩
        · refine x_ci c_Dk_add_131 ?_
          refine x_ri c_Dk_add_133 ?_
          have hK : adK n nm l cs = (64, none) := by unfold adK; rw [if_pos hn0, if_neg hn1, if_pos h112, if_neg (of_decide_eq_false h128)]
          rw [hK]
          exact ⟨rfl, m5, ⟨_, ⟨(f5 1 (by decide)).trans ((kc_gf (by decide)).trans hr3.1), (f5 2 (by decide)).trans ((kc_gf (by decide)).trans hr3.2)⟩, hk3⟩, ht5, (fun q q1 q2 => (f5 q (by omega)).trans ((kc_gf (by omega)).trans (ff q q1 (by omega)))), hsc5, g5⟩
      · refine x_il c_Dk_add_115 rfl ?_
        refine x_ri c_Dk_add_116 ?_
        have hK : adK n nm l cs = ((apl cs []).1, none) := by unfold adK; rw [if_pos hn0, if_neg hn1, if_neg h112]
        rw [hK]
        exact ⟨rfl, m5, ⟨_, ⟨(f5 1 (by decide)).trans ((kc_gf (by decide)).trans hr3.1), (f5 2 (by decide)).trans ((kc_gf (by decide)).trans hr3.2)⟩, hk3⟩, ht5, (fun q q1 q2 => (f5 q (by omega)).trans ((kc_gf (by omega)).trans (ff q q1 (by omega)))), hsc5, g5⟩
    refine x_al c_Dk_add_42 rfl ?_
    refine x_get c_Dk_add_43 (by first | rfl | exact m3 | exact hs3 | exact ht3.1) rfl ?_
    refine x_al c_Dk_add_46 rfl ?_
    refine x_get c_Dk_add_47 (by first | rfl | exact m3 | exact hs3 | exact ht3.1) rfl ?_
    refine x_ci c_Dk_add_50 ?_
    refine x_cv2z _ c_Dk_add_51 (by first | rfl | exact m3 | exact hs3 | exact ht3.1) (Nat.le_of_ble_eq_true rfl) (y_Tr_find (d + 4) ht3 g3 h4 (k := 0) (by omega)) ?_
    rintro _ μx ⟨rfl, hμx⟩
    have hμx := hμx.symm
    subst hμx
    show kc_X _ _ _ _ _ [.int (oI (fd nm l n 0))] _ _
    have ho0 := oI_m1 (r := fd nm l n 0) (fun m h => by have := (fd_in h).2.1; have := ht3.2.2.2.2.2; omega)
    refine x_ci c_Dk_add_54 ?_
    refine x_cm_eq c_Dk_add_55 (fun h55 => ?_) (fun h55 => ?_)
    · refine x_al c_Dk_add_61 rfl ?_
      refine x_get c_Dk_add_62 (by first | rfl | exact m3 | exact hs3 | exact ht3.1) rfl ?_
      refine x_get c_Dk_add_65 (by first | rfl | exact m3 | exact hs3 | exact ht3.1) rfl ?_
      refine x_ci c_Dk_add_68 ?_
      refine x_cmN_le c_Dk_add_69 (by omega) (by omega) (fun h69 => ?_) (fun h69 => ?_)
      · first | exact rest (ho0.mp h55) (fun q => absurd q.1 (by omega)) | exact rest (ho0.mp h55) (fun q => h85 (ho1.mpr q.2))
      · refine x_al c_Dk_add_72 rfl ?_
        refine x_get c_Dk_add_73 (by first | rfl | exact m3 | exact hs3 | exact ht3.1) rfl ?_
        refine x_al c_Dk_add_76 rfl ?_
        refine x_get c_Dk_add_77 (by first | rfl | exact m3 | exact hs3 | exact ht3.1) rfl ?_
        refine x_ci c_Dk_add_80 ?_
        refine x_cv2z _ c_Dk_add_81 (by first | rfl | exact m3 | exact hs3 | exact ht3.1) (Nat.le_of_ble_eq_true rfl) (y_Tr_find (d + 4) ht3 g3 h4 (k := 1) (by omega)) ?_
        rintro _ μx ⟨rfl, hμx⟩
        have hμx := hμx.symm
        subst hμx
        show kc_X _ _ _ _ _ [.int (oI (fd nm (l.drop 1) n 0))] _ _
        have ho1 := oI_m1 (r := fd nm (l.drop 1) n 0) (fun m h => by have := (fd_in h).2.1; have := ht3.2.2.2.2.2; omega)
        refine x_ci c_Dk_add_84 ?_
        refine x_cm_ne c_Dk_add_85 (fun h85 => ?_) (fun h85 => ?_)
        · first | exact rest (ho0.mp h55) (fun q => absurd q.1 (by omega)) | exact rest (ho0.mp h55) (fun q => h85 (ho1.mpr q.2))
        · refine x_ci c_Dk_add_88 ?_
          refine x_ri c_Dk_add_90 ?_
          have hK : adK n nm l cs = (32, none) := by unfold adK; rw [if_pos (ho0.mp h55), if_pos ⟨h69, ho1.mp h85⟩]
          rw [hK]
          exact ⟨rfl, m3, ⟨_, hr3, hk3⟩, ht3, (fun q q1 q2 => ff q q1 (by omega)), hsc3, g3⟩
    · refine x_ci c_Dk_add_58 ?_
      refine x_ri c_Dk_add_60 ?_
      have hK : adK n nm l cs = (68, none) := by unfold adK; rw [if_neg (fun q => h55 (ho0.mpr q))]
      rw [hK]
      exact ⟨rfl, m3, ⟨_, hr3, hk3⟩, ht3, (fun q q1 q2 => ff q q1 (by omega)), hsc3, g3⟩
  · refine x_il c_Dk_add_40 rfl ?_
    refine x_ri c_Dk_add_41 ?_
    have hD : opK so o (rD x3) (fun l => adK n nm l cs) = (cc, none) := by unfold opK; rw [hcc, if_neg h37]
    rw [hD]
    exact ⟨rfl, m3, ⟨_, hr3, hk3⟩, ht3, (fun q q1 q2 => ff q q1 (by omega)), hsc3, g3⟩
