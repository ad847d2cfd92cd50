/-! the class's Reader: what each method does to its place (at, end, wrong, spanFrom, spanTo) -/
theorem tbl {tb : Nat → Nat} (h : ∀ j, tb j < 256) (j : Nat) : tb j < 2 ^ 31 := Nat.lt_trans (h j) (by decide)
abbrev RS : Type := Nat × Nat × Bool × Nat × Nat
def rd_r (μ : kc_M) (tb : Nat → Nat) (sz : Nat) (id : Int32) (r : RS) : Prop := rd_at μ tb sz r.1 r.2.1 r.2.2.1 id r.2.2.2.1 r.2.2.2.2
def rok (sz : Nat) (r : RS) : Prop := r.1 ≤ r.2.1 ∧ r.2.1 ≤ sz ∧ sz ≤ 200
abbrev gL (tb : Nat → Nat) (tag : Int32) (a e : Nat) : Prop := a + 3 ≤ e ∧ tb (a + 1) = 129 ∧ nI (tb a) = tag ∧ a + 3 + tb (a + 2) ≤ e
abbrev gS (tb : Nat → Nat) (tag : Int32) (a e : Nat) : Prop := a + 2 ≤ e ∧ tb (a + 1) ≤ 127 ∧ nI (tb a) = tag ∧ a + 2 + tb (a + 1) ≤ e
def rE (tb : Nat → Nat) (tag : Int32) (r : RS) : RS :=
  if r.2.2.1 = false ∧ gL tb tag r.1 r.2.1 then (r.1 + 3, r.1 + 3 + tb (r.1 + 2), false, r.2.2.2.1, r.2.2.2.2)
  else if r.2.2.1 = false ∧ gS tb tag r.1 r.2.1 then (r.1 + 2, r.1 + 2 + tb (r.1 + 1), false, r.2.2.2.1, r.2.2.2.2)
  else (r.1, r.2.1, true, r.2.2.2.1, r.2.2.2.2)
def rL (ar : Nat) (r : RS) : RS := (r.1, ar, r.2.2.1 || !decide (r.1 = r.2.1), r.2.2.2.1, r.2.2.2.2)
def rR (r : RS) : RS := (r.2.1, r.2.1, r.2.2.1, r.1, r.2.1)
def rS (tb : Nat → Nat) (tag : Int32) (r : RS) : RS := rL r.2.1 (rR (rE tb tag r))
def rW (r : RS) : RS := (r.1, r.2.1, true, r.2.2.2.1, r.2.2.2.2)
def rM (r : RS) : Bool := !r.2.2.1 && decide (r.1 < r.2.1)
def rD (r : RS) : Bool := !r.2.2.1 && decide (r.1 = r.2.1)
def rT (tb : Nat → Nat) (r : RS) : Int32 := if rM r = true then nI (tb r.1) else -1
def s8 (b : Nat) : Int32 := (nI b).toInt8.toInt32
def s16 (b c : Nat) : Int32 := ((nI b <<< (nI 8 &&& 31)) ||| nI c).toInt16.toInt32
/-- number(), single(tag), choice(most): the place behind, and the answer -/
def rN (tb : Nat → Nat) (r : RS) : RS := if (rS tb (nI 2) r).2.2.2.2 - (rS tb (nI 2) r).2.2.2.1 = 1 ∨ (rS tb (nI 2) r).2.2.2.2 - (rS tb (nI 2) r).2.2.2.1 = 2 then rS tb (nI 2) r else rW (rS tb (nI 2) r)
def vN (tb : Nat → Nat) (r : RS) : Int32 := if (rS tb (nI 2) r).2.2.2.2 - (rS tb (nI 2) r).2.2.2.1 = 1 then s8 (tb (rS tb (nI 2) r).2.2.2.1) else if (rS tb (nI 2) r).2.2.2.2 - (rS tb (nI 2) r).2.2.2.1 = 2 then s16 (tb (rS tb (nI 2) r).2.2.2.1) (tb ((rS tb (nI 2) r).2.2.2.1 + 1)) else 0
def rO (tb : Nat → Nat) (tag : Int32) (r : RS) : RS := if (rS tb tag r).2.2.2.2 - (rS tb tag r).2.2.2.1 = 1 then rS tb tag r else rW (rS tb tag r)
def vO (tb : Nat → Nat) (tag : Int32) (r : RS) : Nat := if (rS tb tag r).2.2.2.2 - (rS tb tag r).2.2.2.1 = 1 then tb (rS tb tag r).2.2.2.1 else 0
def rC (tb : Nat → Nat) (most : Nat) (r : RS) : RS := if vO tb (nI 10) r ≤ most then rO tb (nI 10) r else rW (rO tb (nI 10) r)
theorem rok_E {tb : Nat → Nat} {tag : Int32} {sz : Nat} {r : RS} (h : rok sz r) : rok sz (rE tb tag r) ∧ (rE tb tag r).2.1 ≤ r.2.1 ∧ r.1 ≤ (rE tb tag r).1 := by
  obtain ⟨a, e, w, f, t⟩ := r
  obtain ⟨h1, h2, h3⟩ := h
  unfold rE
  dsimp only at *
  split
  · rename_i g
    obtain ⟨_, g1, g2, g3, g4⟩ := g
    exact ⟨⟨by show a + 3 ≤ a + 3 + tb (a + 2); omega, by show a + 3 + tb (a + 2) ≤ sz; omega, h3⟩, g4, by show a ≤ a + 3; omega⟩
  · split
    · rename_i g
      obtain ⟨_, g1, g2, g3, g4⟩ := g
      exact ⟨⟨by show a + 2 ≤ a + 2 + tb (a + 1); omega, by show a + 2 + tb (a + 1) ≤ sz; omega, h3⟩, g4, by show a ≤ a + 2; omega⟩
    · exact ⟨⟨h1, h2, h3⟩, Nat.le_refl _, Nat.le_refl _⟩
/-- behind a span: the place is in order, and so is the span -/
theorem rok_S {tb : Nat → Nat} {tag : Int32} {sz : Nat} {r : RS} (h : rok sz r) : rok sz (rS tb tag r) ∧ (rS tb tag r).2.1 = r.2.1 ∧ (rS tb tag r).2.2.2.1 ≤ (rS tb tag r).2.2.2.2 ∧ (rS tb tag r).2.2.2.2 ≤ sz ∧ (rS tb tag r).2.2.2.2 = (rS tb tag r).1 ∧ r.1 ≤ (rS tb tag r).1 := by
  obtain ⟨⟨h1, h2, h3⟩, h4, h5⟩ := rok_E (tb := tb) (tag := tag) h
  obtain ⟨a1, a2, a3⟩ := h
  refine ⟨⟨?_, ?_, h3⟩, rfl, h1, h2, rfl, Nat.le_trans h5 h1⟩
  · exact h4
  · exact a2
theorem rok_W {sz : Nat} {r : RS} (h : rok sz r) : rok sz (rW r) := h
theorem rok_N {tb : Nat → Nat} {sz : Nat} {r : RS} (h : rok sz r) : rok sz (rN tb r) ∧ (rN tb r).2.1 = r.2.1 ∧ r.1 ≤ (rN tb r).1 := by
  obtain ⟨h1, h2, _, _, _, h3⟩ := rok_S (tb := tb) (tag := nI 2) h
  unfold rN
  split
  · exact ⟨h1, h2, h3⟩
  · exact ⟨h1, h2, h3⟩
theorem rok_O {tb : Nat → Nat} {tag : Int32} {sz : Nat} {r : RS} (h : rok sz r) : rok sz (rO tb tag r) ∧ (rO tb tag r).2.1 = r.2.1 ∧ r.1 ≤ (rO tb tag r).1 := by
  obtain ⟨h1, h2, _, _, _, h3⟩ := rok_S (tb := tb) (tag := tag) h
  unfold rO
  split
  · exact ⟨h1, h2, h3⟩
  · exact ⟨h1, h2, h3⟩
theorem rok_C {tb : Nat → Nat} {most sz : Nat} {r : RS} (h : rok sz r) : rok sz (rC tb most r) ∧ (rC tb most r).2.1 = r.2.1 ∧ r.1 ≤ (rC tb most r).1 := by
  obtain ⟨h1, h2, h3⟩ := rok_O (tb := tb) (tag := nI 10) h
  unfold rC
  split
  · exact ⟨h1, h2, h3⟩
  · exact ⟨h1, h2, h3⟩
set_option maxRecDepth 100000 in
set_option maxHeartbeats 4000000 in
theorem y_Rd_enter (d : Nat) {μ : kc_M} {tb : Nat → Nat} {sz : Nat} {id : Int32} {r : RS} (hr : rd_r μ tb sz id r) (hk : rok sz r) (htb : ∀ j, tb j < 256) {tag : Int32} : kc_Y kt kC (d + 1) j_Rd_enter [.ref 1, .int tag] μ (fun v μ' => v = some (.int (nI r.2.1)) ∧ rd_r μ' tb sz id (rE tb tag r) ∧ ∀ q, q ≠ 1 → μ'.1 q = μ.1 q) := by
  obtain ⟨at_, en, wr, sf, st⟩ := r
  obtain ⟨h1, h2⟩ := hr
  obtain ⟨k1, k2, k3⟩ := hk
  dsimp only at h1 k1 k2
  refine ⟨Nat.le_of_ble_eq_true rfl, ?_⟩
  have j40 : ∀ lg : Bool, ((lg = true → at_ + 2 < en ∧ tb (at_ + 1) = 129) ∧ (lg = false → ¬ (at_ + 2 < en ∧ tb (at_ + 1) = 129))) → kc_X (kC j_Rd_enter) (kc_Y kt kC d) (fun v μ' => v = some (.int (nI en)) ∧ rd_r μ' tb sz id (rE tb tag (at_, en, wr, sf, st)) ∧ ∀ q, q ≠ 1 → μ'.1 q = μ.1 q) 40 [some (.ref 1), some (.int tag), some (.int (nI en)), none, none] [.int (bI lg)] μ (0, 0) := by
    intro lg hlg
    refine x_is [_, _, _, _, _] c_Rd_enter_40 rfl ?_
    refine x_il c_Rd_enter_41 rfl ?_
    refine x_ifB_eq c_Rd_enter_42 (fun h42 => ?_) (fun h42 => ?_)
    · refine x_al c_Rd_enter_54 rfl ?_
      refine x_get c_Rd_enter_55 (by first | rfl | exact h1 | exact h2) rfl ?_
      refine x_ci c_Rd_enter_58 ?_
      first | refine x_iaddN c_Rd_enter_59 ?_ | refine x_iadd c_Rd_enter_59 ?_
      refine x_is [_, _, _, _, _] c_Rd_enter_60 rfl ?_
      refine x_al c_Rd_enter_62 rfl ?_
      refine x_get c_Rd_enter_63 (by first | rfl | exact h1 | exact h2) rfl ?_
      refine x_ifB_ne c_Rd_enter_66 (fun h66 => ?_) (fun h66 => ?_)
      · refine x_al c_Rd_enter_130 rfl ?_
        refine x_ci c_Rd_enter_131 ?_
        refine x_put [_, _, _, _, _, _, _, _] c_Rd_enter_132 (by first | rfl | exact h1 | exact h2) ⟨Nat.le_of_ble_eq_true rfl, by first | decide | exact kz_n _, by first | decide | exact kz_f _⟩ rfl ?_
        refine x_il c_Rd_enter_135 rfl ?_
        refine x_ri c_Rd_enter_136 ?_
        first | (exfalso; rw [h42] at h92; cases h92; done) | (have e3 : tb (at_ + 3 - 1) = tb (at_ + 2) := rfl; have e2 : tb (at_ + 2 - 1) = tb (at_ + 1) := rfl; have hl := hlg.1 h42; exact ⟨rfl, by unfold rE; dsimp only; rw [if_neg (by rintro ⟨g0, g1, g2, g3, g4⟩; first | omega | exact absurd g3 (by assumption) | (rw [g0] at h66; cases h66)), if_neg (by rintro ⟨g0, g1, g2, g3, g4⟩; first | omega | exact absurd g3 (by assumption) | (rw [g0] at h66; cases h66))]; exact ⟨kc_gs, (kc_gf (by decide)).trans h2⟩, fun q hq => kc_gf hq⟩) | (have e3 : tb (at_ + 3 - 1) = tb (at_ + 2) := rfl; have e2 : tb (at_ + 2 - 1) = tb (at_ + 1) := rfl; have hl := hlg.2 h42; exact ⟨rfl, by unfold rE; dsimp only; rw [if_neg (by rintro ⟨g0, g1, g2, g3, g4⟩; first | omega | exact absurd g3 (by assumption) | (rw [g0] at h66; cases h66)), if_neg (by rintro ⟨g0, g1, g2, g3, g4⟩; first | omega | exact absurd g3 (by assumption) | (rw [g0] at h66; cases h66))]; exact ⟨kc_gs, (kc_gf (by decide)).trans h2⟩, fun q hq => kc_gf hq⟩)
      · refine x_il c_Rd_enter_69 rfl ?_
        refine x_al c_Rd_enter_71 rfl ?_
        refine x_get c_Rd_enter_72 (by first | rfl | exact h1 | exact h2) rfl ?_
        first | refine x_cmN_gt c_Rd_enter_75 (by first | omega | exact tbl htb _) (by first | omega | exact tbl htb _) (fun h75 => ?_) (fun h75 => ?_) | refine x_cm_gt c_Rd_enter_75 (fun h75 => ?_) (fun h75 => ?_)
        · refine x_al c_Rd_enter_130 rfl ?_
          refine x_ci c_Rd_enter_131 ?_
          refine x_put [_, _, _, _, _, _, _, _] c_Rd_enter_132 (by first | rfl | exact h1 | exact h2) ⟨Nat.le_of_ble_eq_true rfl, by first | decide | exact kz_n _, by first | decide | exact kz_f _⟩ rfl ?_
          refine x_il c_Rd_enter_135 rfl ?_
          refine x_ri c_Rd_enter_136 ?_
          first | (exfalso; rw [h42] at h92; cases h92; done) | (have e3 : tb (at_ + 3 - 1) = tb (at_ + 2) := rfl; have e2 : tb (at_ + 2 - 1) = tb (at_ + 1) := rfl; have hl := hlg.1 h42; exact ⟨rfl, by unfold rE; dsimp only; rw [if_neg (by rintro ⟨g0, g1, g2, g3, g4⟩; first | omega | exact absurd g3 (by assumption) | (rw [g0] at h66; cases h66)), if_neg (by rintro ⟨g0, g1, g2, g3, g4⟩; first | omega | exact absurd g3 (by assumption) | (rw [g0] at h66; cases h66))]; exact ⟨kc_gs, (kc_gf (by decide)).trans h2⟩, fun q hq => kc_gf hq⟩) | (have e3 : tb (at_ + 3 - 1) = tb (at_ + 2) := rfl; have e2 : tb (at_ + 2 - 1) = tb (at_ + 1) := rfl; have hl := hlg.2 h42; exact ⟨rfl, by unfold rE; dsimp only; rw [if_neg (by rintro ⟨g0, g1, g2, g3, g4⟩; first | omega | exact absurd g3 (by assumption) | (rw [g0] at h66; cases h66)), if_neg (by rintro ⟨g0, g1, g2, g3, g4⟩; first | omega | exact absurd g3 (by assumption) | (rw [g0] at h66; cases h66))]; exact ⟨kc_gs, (kc_gf (by decide)).trans h2⟩, fun q hq => kc_gf hq⟩)
        · refine x_al c_Rd_enter_78 rfl ?_
          refine x_get c_Rd_enter_79 (by first | rfl | exact h1 | exact h2) rfl ?_
          refine x_al c_Rd_enter_82 rfl ?_
          refine x_get c_Rd_enter_83 (by first | rfl | exact h1 | exact h2) rfl ?_
          refine x_ialdN c_Rd_enter_86 (by first | rfl | exact h1 | exact h2) (by omega) (by omega) ?_
          refine x_il c_Rd_enter_87 rfl ?_
          refine x_cm_ne c_Rd_enter_88 (fun h88 => ?_) (fun h88 => ?_)
          · refine x_al c_Rd_enter_130 rfl ?_
            refine x_ci c_Rd_enter_131 ?_
            refine x_put [_, _, _, _, _, _, _, _] c_Rd_enter_132 (by first | rfl | exact h1 | exact h2) ⟨Nat.le_of_ble_eq_true rfl, by first | decide | exact kz_n _, by first | decide | exact kz_f _⟩ rfl ?_
            refine x_il c_Rd_enter_135 rfl ?_
            refine x_ri c_Rd_enter_136 ?_
            first | (exfalso; rw [h42] at h92; cases h92; done) | (have e3 : tb (at_ + 3 - 1) = tb (at_ + 2) := rfl; have e2 : tb (at_ + 2 - 1) = tb (at_ + 1) := rfl; have hl := hlg.1 h42; exact ⟨rfl, by unfold rE; dsimp only; rw [if_neg (by rintro ⟨g0, g1, g2, g3, g4⟩; first | omega | exact absurd g3 (by assumption) | (rw [g0] at h66; cases h66)), if_neg (by rintro ⟨g0, g1, g2, g3, g4⟩; first | omega | exact absurd g3 (by assumption) | (rw [g0] at h66; cases h66))]; exact ⟨kc_gs, (kc_gf (by decide)).trans h2⟩, fun q hq => kc_gf hq⟩) | (have e3 : tb (at_ + 3 - 1) = tb (at_ + 2) := rfl; have e2 : tb (at_ + 2 - 1) = tb (at_ + 1) := rfl; have hl := hlg.2 h42; exact ⟨rfl, by unfold rE; dsimp only; rw [if_neg (by rintro ⟨g0, g1, g2, g3, g4⟩; first | omega | exact absurd g3 (by assumption) | (rw [g0] at h66; cases h66)), if_neg (by rintro ⟨g0, g1, g2, g3, g4⟩; first | omega | exact absurd g3 (by assumption) | (rw [g0] at h66; cases h66))]; exact ⟨kc_gs, (kc_gf (by decide)).trans h2⟩, fun q hq => kc_gf hq⟩)
          · refine x_il c_Rd_enter_91 rfl ?_
            refine x_ifB_ne c_Rd_enter_92 (fun h92 => ?_) (fun h92 => ?_)
            · refine x_al c_Rd_enter_111 rfl ?_
              refine x_get c_Rd_enter_112 (by first | rfl | exact h1 | exact h2) rfl ?_
              refine x_il c_Rd_enter_115 rfl ?_
              refine x_ci c_Rd_enter_117 ?_
              first | refine x_isubN c_Rd_enter_118 (by omega) ?_ | refine x_isub c_Rd_enter_118 ?_
              refine x_ialdN c_Rd_enter_119 (by first | rfl | exact h1 | exact h2) (by omega) (by omega) ?_
              refine x_al c_Rd_enter_120 rfl ?_
              refine x_get c_Rd_enter_121 (by first | rfl | exact h1 | exact h2) rfl ?_
              refine x_il c_Rd_enter_124 rfl ?_
              first | refine x_isubN c_Rd_enter_126 (by omega) ?_ | refine x_isub c_Rd_enter_126 ?_
              first | refine x_cmN_le c_Rd_enter_127 (by first | omega | exact tbl htb _) (by first | omega | exact tbl htb _) (fun h127 => ?_) (fun h127 => ?_) | refine x_cm_le c_Rd_enter_127 (fun h127 => ?_) (fun h127 => ?_)
              · refine x_al c_Rd_enter_137 rfl ?_
                refine x_il c_Rd_enter_138 rfl ?_
                refine x_put [_, _, _, _, _, _, _, _] c_Rd_enter_140 (by first | rfl | exact h1 | exact h2) ⟨Nat.le_of_ble_eq_true rfl, rfl, rfl⟩ rfl ?_
                refine x_al c_Rd_enter_143 rfl ?_
                refine x_il c_Rd_enter_144 rfl ?_
                refine x_al c_Rd_enter_146 rfl ?_
                refine x_get c_Rd_enter_147 (by first | rfl | exact h1 | exact h2) rfl ?_
                refine x_il c_Rd_enter_150 rfl ?_
                refine x_ci c_Rd_enter_152 ?_
                first | refine x_isubN c_Rd_enter_153 (by omega) ?_ | refine x_isub c_Rd_enter_153 ?_
                refine x_ialdN c_Rd_enter_154 (by first | rfl | exact h1 | exact h2) (by omega) (by omega) ?_
                first | refine x_iaddN c_Rd_enter_155 ?_ | refine x_iadd c_Rd_enter_155 ?_
                refine x_put [_, _, _, _, _, _, _, _] c_Rd_enter_156 (by first | rfl | exact h1 | exact h2) ⟨Nat.le_of_ble_eq_true rfl, rfl, rfl⟩ rfl ?_
                refine x_il c_Rd_enter_159 rfl ?_
                refine x_ri c_Rd_enter_160 ?_
                first | (exfalso; rw [h42] at h92; cases h92; done) | (have e3 : tb (at_ + 3 - 1) = tb (at_ + 2) := rfl; have e2 : tb (at_ + 2 - 1) = tb (at_ + 1) := rfl; have hl := hlg.1 h42; first | exact ⟨rfl, by unfold rE; dsimp only; rw [if_pos ⟨h66, by omega, by omega, h88, by omega⟩]; exact ⟨by rw [kc_gs, h66] <;> rfl, (kc_gf (by decide)).trans ((kc_gf (by decide)).trans h2)⟩, fun q hq => by rw [kc_gf hq, kc_gf hq]⟩ | exact ⟨rfl, by unfold rE; dsimp only; rw [if_neg (by rintro ⟨g0, g1, g2, g3, g4⟩; first | omega | exact absurd g3 (by assumption) | (rw [g0] at h66; cases h66)), if_pos ⟨h66, by omega, by omega, h88, by omega⟩]; exact ⟨by rw [kc_gs, h66] <;> rfl, (kc_gf (by decide)).trans ((kc_gf (by decide)).trans h2)⟩, fun q hq => by rw [kc_gf hq, kc_gf hq]⟩) | (have e3 : tb (at_ + 3 - 1) = tb (at_ + 2) := rfl; have e2 : tb (at_ + 2 - 1) = tb (at_ + 1) := rfl; have hl := hlg.2 h42; first | exact ⟨rfl, by unfold rE; dsimp only; rw [if_pos ⟨h66, by omega, by omega, h88, by omega⟩]; exact ⟨by rw [kc_gs, h66] <;> rfl, (kc_gf (by decide)).trans ((kc_gf (by decide)).trans h2)⟩, fun q hq => by rw [kc_gf hq, kc_gf hq]⟩ | exact ⟨rfl, by unfold rE; dsimp only; rw [if_neg (by rintro ⟨g0, g1, g2, g3, g4⟩; first | omega | exact absurd g3 (by assumption) | (rw [g0] at h66; cases h66)), if_pos ⟨h66, by omega, by omega, h88, by omega⟩]; exact ⟨by rw [kc_gs, h66] <;> rfl, (kc_gf (by decide)).trans ((kc_gf (by decide)).trans h2)⟩, fun q hq => by rw [kc_gf hq, kc_gf hq]⟩)
              · refine x_al c_Rd_enter_130 rfl ?_
                refine x_ci c_Rd_enter_131 ?_
                refine x_put [_, _, _, _, _, _, _, _] c_Rd_enter_132 (by first | rfl | exact h1 | exact h2) ⟨Nat.le_of_ble_eq_true rfl, by first | decide | exact kz_n _, by first | decide | exact kz_f _⟩ rfl ?_
                refine x_il c_Rd_enter_135 rfl ?_
                refine x_ri c_Rd_enter_136 ?_
                first | (exfalso; rw [h42] at h92; cases h92; done) | (have e3 : tb (at_ + 3 - 1) = tb (at_ + 2) := rfl; have e2 : tb (at_ + 2 - 1) = tb (at_ + 1) := rfl; have hl := hlg.1 h42; exact ⟨rfl, by unfold rE; dsimp only; rw [if_neg (by rintro ⟨g0, g1, g2, g3, g4⟩; first | omega | exact absurd g3 (by assumption) | (rw [g0] at h66; cases h66)), if_neg (by rintro ⟨g0, g1, g2, g3, g4⟩; first | omega | exact absurd g3 (by assumption) | (rw [g0] at h66; cases h66))]; exact ⟨kc_gs, (kc_gf (by decide)).trans h2⟩, fun q hq => kc_gf hq⟩) | (have e3 : tb (at_ + 3 - 1) = tb (at_ + 2) := rfl; have e2 : tb (at_ + 2 - 1) = tb (at_ + 1) := rfl; have hl := hlg.2 h42; exact ⟨rfl, by unfold rE; dsimp only; rw [if_neg (by rintro ⟨g0, g1, g2, g3, g4⟩; first | omega | exact absurd g3 (by assumption) | (rw [g0] at h66; cases h66)), if_neg (by rintro ⟨g0, g1, g2, g3, g4⟩; first | omega | exact absurd g3 (by assumption) | (rw [g0] at h66; cases h66))]; exact ⟨kc_gs, (kc_gf (by decide)).trans h2⟩, fun q hq => kc_gf hq⟩)
            · refine x_al c_Rd_enter_95 rfl ?_
              refine x_get c_Rd_enter_96 (by first | rfl | exact h1 | exact h2) rfl ?_
              refine x_al c_Rd_enter_99 rfl ?_
              refine x_get c_Rd_enter_100 (by first | rfl | exact h1 | exact h2) rfl ?_
              refine x_ci c_Rd_enter_103 ?_
              first | refine x_iaddN c_Rd_enter_104 ?_ | refine x_iadd c_Rd_enter_104 ?_
              refine x_ialdN c_Rd_enter_105 (by first | rfl | exact h1 | exact h2) (by omega) (by omega) ?_
              refine x_ci c_Rd_enter_106 ?_
              first | refine x_cmN_gt c_Rd_enter_108 (by first | omega | exact tbl htb _) (by first | omega | exact tbl htb _) (fun h108 => ?_) (fun h108 => ?_) | refine x_cm_gt c_Rd_enter_108 (fun h108 => ?_) (fun h108 => ?_)
              · refine x_al c_Rd_enter_130 rfl ?_
                refine x_ci c_Rd_enter_131 ?_
                refine x_put [_, _, _, _, _, _, _, _] c_Rd_enter_132 (by first | rfl | exact h1 | exact h2) ⟨Nat.le_of_ble_eq_true rfl, by first | decide | exact kz_n _, by first | decide | exact kz_f _⟩ rfl ?_
                refine x_il c_Rd_enter_135 rfl ?_
                refine x_ri c_Rd_enter_136 ?_
                first | (exfalso; rw [h42] at h92; cases h92; done) | (have e3 : tb (at_ + 3 - 1) = tb (at_ + 2) := rfl; have e2 : tb (at_ + 2 - 1) = tb (at_ + 1) := rfl; have hl := hlg.1 h42; exact ⟨rfl, by unfold rE; dsimp only; rw [if_neg (by rintro ⟨g0, g1, g2, g3, g4⟩; first | omega | exact absurd g3 (by assumption) | (rw [g0] at h66; cases h66)), if_neg (by rintro ⟨g0, g1, g2, g3, g4⟩; first | omega | exact absurd g3 (by assumption) | (rw [g0] at h66; cases h66))]; exact ⟨kc_gs, (kc_gf (by decide)).trans h2⟩, fun q hq => kc_gf hq⟩) | (have e3 : tb (at_ + 3 - 1) = tb (at_ + 2) := rfl; have e2 : tb (at_ + 2 - 1) = tb (at_ + 1) := rfl; have hl := hlg.2 h42; exact ⟨rfl, by unfold rE; dsimp only; rw [if_neg (by rintro ⟨g0, g1, g2, g3, g4⟩; first | omega | exact absurd g3 (by assumption) | (rw [g0] at h66; cases h66)), if_neg (by rintro ⟨g0, g1, g2, g3, g4⟩; first | omega | exact absurd g3 (by assumption) | (rw [g0] at h66; cases h66))]; exact ⟨kc_gs, (kc_gf (by decide)).trans h2⟩, fun q hq => kc_gf hq⟩)
              · refine x_al c_Rd_enter_111 rfl ?_
                refine x_get c_Rd_enter_112 (by first | rfl | exact h1 | exact h2) rfl ?_
                refine x_il c_Rd_enter_115 rfl ?_
                refine x_ci c_Rd_enter_117 ?_
                first | refine x_isubN c_Rd_enter_118 (by omega) ?_ | refine x_isub c_Rd_enter_118 ?_
                refine x_ialdN c_Rd_enter_119 (by first | rfl | exact h1 | exact h2) (by omega) (by omega) ?_
                refine x_al c_Rd_enter_120 rfl ?_
                refine x_get c_Rd_enter_121 (by first | rfl | exact h1 | exact h2) rfl ?_
                refine x_il c_Rd_enter_124 rfl ?_
                first | refine x_isubN c_Rd_enter_126 (by omega) ?_ | refine x_isub c_Rd_enter_126 ?_
                first | refine x_cmN_le c_Rd_enter_127 (by first | omega | exact tbl htb _) (by first | omega | exact tbl htb _) (fun h127 => ?_) (fun h127 => ?_) | refine x_cm_le c_Rd_enter_127 (fun h127 => ?_) (fun h127 => ?_)
                · refine x_al c_Rd_enter_137 rfl ?_
                  refine x_il c_Rd_enter_138 rfl ?_
                  refine x_put [_, _, _, _, _, _, _, _] c_Rd_enter_140 (by first | rfl | exact h1 | exact h2) ⟨Nat.le_of_ble_eq_true rfl, rfl, rfl⟩ rfl ?_
                  refine x_al c_Rd_enter_143 rfl ?_
                  refine x_il c_Rd_enter_144 rfl ?_
                  refine x_al c_Rd_enter_146 rfl ?_
                  refine x_get c_Rd_enter_147 (by first | rfl | exact h1 | exact h2) rfl ?_
                  refine x_il c_Rd_enter_150 rfl ?_
                  refine x_ci c_Rd_enter_152 ?_
                  first | refine x_isubN c_Rd_enter_153 (by omega) ?_ | refine x_isub c_Rd_enter_153 ?_
                  refine x_ialdN c_Rd_enter_154 (by first | rfl | exact h1 | exact h2) (by omega) (by omega) ?_
                  first | refine x_iaddN c_Rd_enter_155 ?_ | refine x_iadd c_Rd_enter_155 ?_
                  refine x_put [_, _, _, _, _, _, _, _] c_Rd_enter_156 (by first | rfl | exact h1 | exact h2) ⟨Nat.le_of_ble_eq_true rfl, rfl, rfl⟩ rfl ?_
                  refine x_il c_Rd_enter_159 rfl ?_
                  refine x_ri c_Rd_enter_160 ?_
                  first | (exfalso; rw [h42] at h92; cases h92; done) | (have e3 : tb (at_ + 3 - 1) = tb (at_ + 2) := rfl; have e2 : tb (at_ + 2 - 1) = tb (at_ + 1) := rfl; have hl := hlg.1 h42; first | exact ⟨rfl, by unfold rE; dsimp only; rw [if_pos ⟨h66, by omega, by omega, h88, by omega⟩]; exact ⟨by rw [kc_gs, h66] <;> rfl, (kc_gf (by decide)).trans ((kc_gf (by decide)).trans h2)⟩, fun q hq => by rw [kc_gf hq, kc_gf hq]⟩ | exact ⟨rfl, by unfold rE; dsimp only; rw [if_neg (by rintro ⟨g0, g1, g2, g3, g4⟩; first | omega | exact absurd g3 (by assumption) | (rw [g0] at h66; cases h66)), if_pos ⟨h66, by omega, by omega, h88, by omega⟩]; exact ⟨by rw [kc_gs, h66] <;> rfl, (kc_gf (by decide)).trans ((kc_gf (by decide)).trans h2)⟩, fun q hq => by rw [kc_gf hq, kc_gf hq]⟩) | (have e3 : tb (at_ + 3 - 1) = tb (at_ + 2) := rfl; have e2 : tb (at_ + 2 - 1) = tb (at_ + 1) := rfl; have hl := hlg.2 h42; first | exact ⟨rfl, by unfold rE; dsimp only; rw [if_pos ⟨h66, by omega, by omega, h88, by omega⟩]; exact ⟨by rw [kc_gs, h66] <;> rfl, (kc_gf (by decide)).trans ((kc_gf (by decide)).trans h2)⟩, fun q hq => by rw [kc_gf hq, kc_gf hq]⟩ | exact ⟨rfl, by unfold rE; dsimp only; rw [if_neg (by rintro ⟨g0, g1, g2, g3, g4⟩; first | omega | exact absurd g3 (by assumption) | (rw [g0] at h66; cases h66)), if_pos ⟨h66, by omega, by omega, h88, by omega⟩]; exact ⟨by rw [kc_gs, h66] <;> rfl, (kc_gf (by decide)).trans ((kc_gf (by decide)).trans h2)⟩, fun q hq => by rw [kc_gf hq, kc_gf hq]⟩)
                · refine x_al c_Rd_enter_130 rfl ?_
                  refine x_ci c_Rd_enter_131 ?_
                  refine x_put [_, _, _, _, _, _, _, _] c_Rd_enter_132 (by first | rfl | exact h1 | exact h2) ⟨Nat.le_of_ble_eq_true rfl, by first | decide | exact kz_n _, by first | decide | exact kz_f _⟩ rfl ?_
                  refine x_il c_Rd_enter_135 rfl ?_
                  refine x_ri c_Rd_enter_136 ?_
                  first | (exfalso; rw [h42] at h92; cases h92; done) | (have e3 : tb (at_ + 3 - 1) = tb (at_ + 2) := rfl; have e2 : tb (at_ + 2 - 1) = tb (at_ + 1) := rfl; have hl := hlg.1 h42; exact ⟨rfl, by unfold rE; dsimp only; rw [if_neg (by rintro ⟨g0, g1, g2, g3, g4⟩; first | omega | exact absurd g3 (by assumption) | (rw [g0] at h66; cases h66)), if_neg (by rintro ⟨g0, g1, g2, g3, g4⟩; first | omega | exact absurd g3 (by assumption) | (rw [g0] at h66; cases h66))]; exact ⟨kc_gs, (kc_gf (by decide)).trans h2⟩, fun q hq => kc_gf hq⟩) | (have e3 : tb (at_ + 3 - 1) = tb (at_ + 2) := rfl; have e2 : tb (at_ + 2 - 1) = tb (at_ + 1) := rfl; have hl := hlg.2 h42; exact ⟨rfl, by unfold rE; dsimp only; rw [if_neg (by rintro ⟨g0, g1, g2, g3, g4⟩; first | omega | exact absurd g3 (by assumption) | (rw [g0] at h66; cases h66)), if_neg (by rintro ⟨g0, g1, g2, g3, g4⟩; first | omega | exact absurd g3 (by assumption) | (rw [g0] at h66; cases h66))]; exact ⟨kc_gs, (kc_gf (by decide)).trans h2⟩, fun q hq => kc_gf hq⟩)
    · refine x_al c_Rd_enter_45 rfl ?_
      refine x_get c_Rd_enter_46 (by first | rfl | exact h1 | exact h2) rfl ?_
      refine x_ci c_Rd_enter_49 ?_
      first | refine x_iaddN c_Rd_enter_50 ?_ | refine x_iadd c_Rd_enter_50 ?_
      refine x_goto c_Rd_enter_51 ?_
      refine x_is [_, _, _, _, _] c_Rd_enter_60 rfl ?_
      refine x_al c_Rd_enter_62 rfl ?_
      refine x_get c_Rd_enter_63 (by first | rfl | exact h1 | exact h2) rfl ?_
      refine x_ifB_ne c_Rd_enter_66 (fun h66 => ?_) (fun h66 => ?_)
      · refine x_al c_Rd_enter_130 rfl ?_
        refine x_ci c_Rd_enter_131 ?_
        refine x_put [_, _, _, _, _, _, _, _] c_Rd_enter_132 (by first | rfl | exact h1 | exact h2) ⟨Nat.le_of_ble_eq_true rfl, by first | decide | exact kz_n _, by first | decide | exact kz_f _⟩ rfl ?_
        refine x_il c_Rd_enter_135 rfl ?_
        refine x_ri c_Rd_enter_136 ?_
        first | (exfalso; rw [h42] at h92; cases h92; done) | (have e3 : tb (at_ + 3 - 1) = tb (at_ + 2) := rfl; have e2 : tb (at_ + 2 - 1) = tb (at_ + 1) := rfl; have hl := hlg.1 h42; exact ⟨rfl, by unfold rE; dsimp only; rw [if_neg (by rintro ⟨g0, g1, g2, g3, g4⟩; first | omega | exact absurd g3 (by assumption) | (rw [g0] at h66; cases h66)), if_neg (by rintro ⟨g0, g1, g2, g3, g4⟩; first | omega | exact absurd g3 (by assumption) | (rw [g0] at h66; cases h66))]; exact ⟨kc_gs, (kc_gf (by decide)).trans h2⟩, fun q hq => kc_gf hq⟩) | (have e3 : tb (at_ + 3 - 1) = tb (at_ + 2) := rfl; have e2 : tb (at_ + 2 - 1) = tb (at_ + 1) := rfl; have hl := hlg.2 h42; exact ⟨rfl, by unfold rE; dsimp only; rw [if_neg (by rintro ⟨g0, g1, g2, g3, g4⟩; first | omega | exact absurd g3 (by assumption) | (rw [g0] at h66; cases h66)), if_neg (by rintro ⟨g0, g1, g2, g3, g4⟩; first | omega | exact absurd g3 (by assumption) | (rw [g0] at h66; cases h66))]; exact ⟨kc_gs, (kc_gf (by decide)).trans h2⟩, fun q hq => kc_gf hq⟩)
      · refine x_il c_Rd_enter_69 rfl ?_
        refine x_al c_Rd_enter_71 rfl ?_
        refine x_get c_Rd_enter_72 (by first | rfl | exact h1 | exact h2) rfl ?_
        first | refine x_cmN_gt c_Rd_enter_75 (by first | omega | exact tbl htb _) (by first | omega | exact tbl htb _) (fun h75 => ?_) (fun h75 => ?_) | refine x_cm_gt c_Rd_enter_75 (fun h75 => ?_) (fun h75 => ?_)
        · refine x_al c_Rd_enter_130 rfl ?_
          refine x_ci c_Rd_enter_131 ?_
          refine x_put [_, _, _, _, _, _, _, _] c_Rd_enter_132 (by first | rfl | exact h1 | exact h2) ⟨Nat.le_of_ble_eq_true rfl, by first | decide | exact kz_n _, by first | decide | exact kz_f _⟩ rfl ?_
          refine x_il c_Rd_enter_135 rfl ?_
          refine x_ri c_Rd_enter_136 ?_
          first | (exfalso; rw [h42] at h92; cases h92; done) | (have e3 : tb (at_ + 3 - 1) = tb (at_ + 2) := rfl; have e2 : tb (at_ + 2 - 1) = tb (at_ + 1) := rfl; have hl := hlg.1 h42; exact ⟨rfl, by unfold rE; dsimp only; rw [if_neg (by rintro ⟨g0, g1, g2, g3, g4⟩; first | omega | exact absurd g3 (by assumption) | (rw [g0] at h66; cases h66)), if_neg (by rintro ⟨g0, g1, g2, g3, g4⟩; first | omega | exact absurd g3 (by assumption) | (rw [g0] at h66; cases h66))]; exact ⟨kc_gs, (kc_gf (by decide)).trans h2⟩, fun q hq => kc_gf hq⟩) | (have e3 : tb (at_ + 3 - 1) = tb (at_ + 2) := rfl; have e2 : tb (at_ + 2 - 1) = tb (at_ + 1) := rfl; have hl := hlg.2 h42; exact ⟨rfl, by unfold rE; dsimp only; rw [if_neg (by rintro ⟨g0, g1, g2, g3, g4⟩; first | omega | exact absurd g3 (by assumption) | (rw [g0] at h66; cases h66)), if_neg (by rintro ⟨g0, g1, g2, g3, g4⟩; first | omega | exact absurd g3 (by assumption) | (rw [g0] at h66; cases h66))]; exact ⟨kc_gs, (kc_gf (by decide)).trans h2⟩, fun q hq => kc_gf hq⟩)
        · refine x_al c_Rd_enter_78 rfl ?_
          refine x_get c_Rd_enter_79 (by first | rfl | exact h1 | exact h2) rfl ?_
          refine x_al c_Rd_enter_82 rfl ?_
          refine x_get c_Rd_enter_83 (by first | rfl | exact h1 | exact h2) rfl ?_
          refine x_ialdN c_Rd_enter_86 (by first | rfl | exact h1 | exact h2) (by omega) (by omega) ?_
          refine x_il c_Rd_enter_87 rfl ?_
          refine x_cm_ne c_Rd_enter_88 (fun h88 => ?_) (fun h88 => ?_)
          · refine x_al c_Rd_enter_130 rfl ?_
            refine x_ci c_Rd_enter_131 ?_
            refine x_put [_, _, _, _, _, _, _, _] c_Rd_enter_132 (by first | rfl | exact h1 | exact h2) ⟨Nat.le_of_ble_eq_true rfl, by first | decide | exact kz_n _, by first | decide | exact kz_f _⟩ rfl ?_
            refine x_il c_Rd_enter_135 rfl ?_
            refine x_ri c_Rd_enter_136 ?_
            first | (exfalso; rw [h42] at h92; cases h92; done) | (have e3 : tb (at_ + 3 - 1) = tb (at_ + 2) := rfl; have e2 : tb (at_ + 2 - 1) = tb (at_ + 1) := rfl; have hl := hlg.1 h42; exact ⟨rfl, by unfold rE; dsimp only; rw [if_neg (by rintro ⟨g0, g1, g2, g3, g4⟩; first | omega | exact absurd g3 (by assumption) | (rw [g0] at h66; cases h66)), if_neg (by rintro ⟨g0, g1, g2, g3, g4⟩; first | omega | exact absurd g3 (by assumption) | (rw [g0] at h66; cases h66))]; exact ⟨kc_gs, (kc_gf (by decide)).trans h2⟩, fun q hq => kc_gf hq⟩) | (have e3 : tb (at_ + 3 - 1) = tb (at_ + 2) := rfl; have e2 : tb (at_ + 2 - 1) = tb (at_ + 1) := rfl; have hl := hlg.2 h42; exact ⟨rfl, by unfold rE; dsimp only; rw [if_neg (by rintro ⟨g0, g1, g2, g3, g4⟩; first | omega | exact absurd g3 (by assumption) | (rw [g0] at h66; cases h66)), if_neg (by rintro ⟨g0, g1, g2, g3, g4⟩; first | omega | exact absurd g3 (by assumption) | (rw [g0] at h66; cases h66))]; exact ⟨kc_gs, (kc_gf (by decide)).trans h2⟩, fun q hq => kc_gf hq⟩)
          · refine x_il c_Rd_enter_91 rfl ?_
            refine x_ifB_ne c_Rd_enter_92 (fun h92 => ?_) (fun h92 => ?_)
            · refine x_al c_Rd_enter_111 rfl ?_
              refine x_get c_Rd_enter_112 (by first | rfl | exact h1 | exact h2) rfl ?_
              refine x_il c_Rd_enter_115 rfl ?_
              refine x_ci c_Rd_enter_117 ?_
              first | refine x_isubN c_Rd_enter_118 (by omega) ?_ | refine x_isub c_Rd_enter_118 ?_
              refine x_ialdN c_Rd_enter_119 (by first | rfl | exact h1 | exact h2) (by omega) (by omega) ?_
              refine x_al c_Rd_enter_120 rfl ?_
              refine x_get c_Rd_enter_121 (by first | rfl | exact h1 | exact h2) rfl ?_
              refine x_il c_Rd_enter_124 rfl ?_
              first | refine x_isubN c_Rd_enter_126 (by omega) ?_ | refine x_isub c_Rd_enter_126 ?_
              first | refine x_cmN_le c_Rd_enter_127 (by first | omega | exact tbl htb _) (by first | omega | exact tbl htb _) (fun h127 => ?_) (fun h127 => ?_) | refine x_cm_le c_Rd_enter_127 (fun h127 => ?_) (fun h127 => ?_)
              · refine x_al c_Rd_enter_137 rfl ?_
                refine x_il c_Rd_enter_138 rfl ?_
                refine x_put [_, _, _, _, _, _, _, _] c_Rd_enter_140 (by first | rfl | exact h1 | exact h2) ⟨Nat.le_of_ble_eq_true rfl, rfl, rfl⟩ rfl ?_
                refine x_al c_Rd_enter_143 rfl ?_
                refine x_il c_Rd_enter_144 rfl ?_
                refine x_al c_Rd_enter_146 rfl ?_
                refine x_get c_Rd_enter_147 (by first | rfl | exact h1 | exact h2) rfl ?_
                refine x_il c_Rd_enter_150 rfl ?_
                refine x_ci c_Rd_enter_152 ?_
                first | refine x_isubN c_Rd_enter_153 (by omega) ?_ | refine x_isub c_Rd_enter_153 ?_
                refine x_ialdN c_Rd_enter_154 (by first | rfl | exact h1 | exact h2) (by omega) (by omega) ?_
                first | refine x_iaddN c_Rd_enter_155 ?_ | refine x_iadd c_Rd_enter_155 ?_
                refine x_put [_, _, _, _, _, _, _, _] c_Rd_enter_156 (by first | rfl | exact h1 | exact h2) ⟨Nat.le_of_ble_eq_true rfl, rfl, rfl⟩ rfl ?_
                refine x_il c_Rd_enter_159 rfl ?_
                refine x_ri c_Rd_enter_160 ?_
                first | (exfalso; rw [h42] at h92; cases h92; done) | (have e3 : tb (at_ + 3 - 1) = tb (at_ + 2) := rfl; have e2 : tb (at_ + 2 - 1) = tb (at_ + 1) := rfl; have hl := hlg.1 h42; first | exact ⟨rfl, by unfold rE; dsimp only; rw [if_pos ⟨h66, by omega, by omega, h88, by omega⟩]; exact ⟨by rw [kc_gs, h66] <;> rfl, (kc_gf (by decide)).trans ((kc_gf (by decide)).trans h2)⟩, fun q hq => by rw [kc_gf hq, kc_gf hq]⟩ | exact ⟨rfl, by unfold rE; dsimp only; rw [if_neg (by rintro ⟨g0, g1, g2, g3, g4⟩; first | omega | exact absurd g3 (by assumption) | (rw [g0] at h66; cases h66)), if_pos ⟨h66, by omega, by omega, h88, by omega⟩]; exact ⟨by rw [kc_gs, h66] <;> rfl, (kc_gf (by decide)).trans ((kc_gf (by decide)).trans h2)⟩, fun q hq => by rw [kc_gf hq, kc_gf hq]⟩) | (have e3 : tb (at_ + 3 - 1) = tb (at_ + 2) := rfl; have e2 : tb (at_ + 2 - 1) = tb (at_ + 1) := rfl; have hl := hlg.2 h42; first | exact ⟨rfl, by unfold rE; dsimp only; rw [if_pos ⟨h66, by omega, by omega, h88, by omega⟩]; exact ⟨by rw [kc_gs, h66] <;> rfl, (kc_gf (by decide)).trans ((kc_gf (by decide)).trans h2)⟩, fun q hq => by rw [kc_gf hq, kc_gf hq]⟩ | exact ⟨rfl, by unfold rE; dsimp only; rw [if_neg (by rintro ⟨g0, g1, g2, g3, g4⟩; first | omega | exact absurd g3 (by assumption) | (rw [g0] at h66; cases h66)), if_pos ⟨h66, by omega, by omega, h88, by omega⟩]; exact ⟨by rw [kc_gs, h66] <;> rfl, (kc_gf (by decide)).trans ((kc_gf (by decide)).trans h2)⟩, fun q hq => by rw [kc_gf hq, kc_gf hq]⟩)
              · refine x_al c_Rd_enter_130 rfl ?_
                refine x_ci c_Rd_enter_131 ?_
                refine x_put [_, _, _, _, _, _, _, _] c_Rd_enter_132 (by first | rfl | exact h1 | exact h2) ⟨Nat.le_of_ble_eq_true rfl, by first | decide | exact kz_n _, by first | decide | exact kz_f _⟩ rfl ?_
                refine x_il c_Rd_enter_135 rfl ?_
                refine x_ri c_Rd_enter_136 ?_
                first | (exfalso; rw [h42] at h92; cases h92; done) | (have e3 : tb (at_ + 3 - 1) = tb (at_ + 2) := rfl; have e2 : tb (at_ + 2 - 1) = tb (at_ + 1) := rfl; have hl := hlg.1 h42; exact ⟨rfl, by unfold rE; dsimp only; rw [if_neg (by rintro ⟨g0, g1, g2, g3, g4⟩; first | omega | exact absurd g3 (by assumption) | (rw [g0] at h66; cases h66)), if_neg (by rintro ⟨g0, g1, g2, g3, g4⟩; first | omega | exact absurd g3 (by assumption) | (rw [g0] at h66; cases h66))]; exact ⟨kc_gs, (kc_gf (by decide)).trans h2⟩, fun q hq => kc_gf hq⟩) | (have e3 : tb (at_ + 3 - 1) = tb (at_ + 2) := rfl; have e2 : tb (at_ + 2 - 1) = tb (at_ + 1) := rfl; have hl := hlg.2 h42; exact ⟨rfl, by unfold rE; dsimp only; rw [if_neg (by rintro ⟨g0, g1, g2, g3, g4⟩; first | omega | exact absurd g3 (by assumption) | (rw [g0] at h66; cases h66)), if_neg (by rintro ⟨g0, g1, g2, g3, g4⟩; first | omega | exact absurd g3 (by assumption) | (rw [g0] at h66; cases h66))]; exact ⟨kc_gs, (kc_gf (by decide)).trans h2⟩, fun q hq => kc_gf hq⟩)
            · refine x_al c_Rd_enter_95 rfl ?_
              refine x_get c_Rd_enter_96 (by first | rfl | exact h1 | exact h2) rfl ?_
              refine x_al c_Rd_enter_99 rfl ?_
              refine x_get c_Rd_enter_100 (by first | rfl | exact h1 | exact h2) rfl ?_
              refine x_ci c_Rd_enter_103 ?_
              first | refine x_iaddN c_Rd_enter_104 ?_ | refine x_iadd c_Rd_enter_104 ?_
              refine x_ialdN c_Rd_enter_105 (by first | rfl | exact h1 | exact h2) (by omega) (by omega) ?_
              refine x_ci c_Rd_enter_106 ?_
              first | refine x_cmN_gt c_Rd_enter_108 (by first | omega | exact tbl htb _) (by first | omega | exact tbl htb _) (fun h108 => ?_) (fun h108 => ?_) | refine x_cm_gt c_Rd_enter_108 (fun h108 => ?_) (fun h108 => ?_)
              · refine x_al c_Rd_enter_130 rfl ?_
                refine x_ci c_Rd_enter_131 ?_
                refine x_put [_, _, _, _, _, _, _, _] c_Rd_enter_132 (by first | rfl | exact h1 | exact h2) ⟨Nat.le_of_ble_eq_true rfl, by first | decide | exact kz_n _, by first | decide | exact kz_f _⟩ rfl ?_
                refine x_il c_Rd_enter_135 rfl ?_
                refine x_ri c_Rd_enter_136 ?_
                first | (exfalso; rw [h42] at h92; cases h92; done) | (have e3 : tb (at_ + 3 - 1) = tb (at_ + 2) := rfl; have e2 : tb (at_ + 2 - 1) = tb (at_ + 1) := rfl; have hl := hlg.1 h42; exact ⟨rfl, by unfold rE; dsimp only; rw [if_neg (by rintro ⟨g0, g1, g2, g3, g4⟩; first | omega | exact absurd g3 (by assumption) | (rw [g0] at h66; cases h66)), if_neg (by rintro ⟨g0, g1, g2, g3, g4⟩; first | omega | exact absurd g3 (by assumption) | (rw [g0] at h66; cases h66))]; exact ⟨kc_gs, (kc_gf (by decide)).trans h2⟩, fun q hq => kc_gf hq⟩) | (have e3 : tb (at_ + 3 - 1) = tb (at_ + 2) := rfl; have e2 : tb (at_ + 2 - 1) = tb (at_ + 1) := rfl; have hl := hlg.2 h42; exact ⟨rfl, by unfold rE; dsimp only; rw [if_neg (by rintro ⟨g0, g1, g2, g3, g4⟩; first | omega | exact absurd g3 (by assumption) | (rw [g0] at h66; cases h66)), if_neg (by rintro ⟨g0, g1, g2, g3, g4⟩; first | omega | exact absurd g3 (by assumption) | (rw [g0] at h66; cases h66))]; exact ⟨kc_gs, (kc_gf (by decide)).trans h2⟩, fun q hq => kc_gf hq⟩)
              · refine x_al c_Rd_enter_111 rfl ?_
                refine x_get c_Rd_enter_112 (by first | rfl | exact h1 | exact h2) rfl ?_
                refine x_il c_Rd_enter_115 rfl ?_
                refine x_ci c_Rd_enter_117 ?_
                first | refine x_isubN c_Rd_enter_118 (by omega) ?_ | refine x_isub c_Rd_enter_118 ?_
                refine x_ialdN c_Rd_enter_119 (by first | rfl | exact h1 | exact h2) (by omega) (by omega) ?_
                refine x_al c_Rd_enter_120 rfl ?_
                refine x_get c_Rd_enter_121 (by first | rfl | exact h1 | exact h2) rfl ?_
                refine x_il c_Rd_enter_124 rfl ?_
                first | refine x_isubN c_Rd_enter_126 (by omega) ?_ | refine x_isub c_Rd_enter_126 ?_
                first | refine x_cmN_le c_Rd_enter_127 (by first | omega | exact tbl htb _) (by first | omega | exact tbl htb _) (fun h127 => ?_) (fun h127 => ?_) | refine x_cm_le c_Rd_enter_127 (fun h127 => ?_) (fun h127 => ?_)
                · refine x_al c_Rd_enter_137 rfl ?_
                  refine x_il c_Rd_enter_138 rfl ?_
                  refine x_put [_, _, _, _, _, _, _, _] c_Rd_enter_140 (by first | rfl | exact h1 | exact h2) ⟨Nat.le_of_ble_eq_true rfl, rfl, rfl⟩ rfl ?_
                  refine x_al c_Rd_enter_143 rfl ?_
                  refine x_il c_Rd_enter_144 rfl ?_
                  refine x_al c_Rd_enter_146 rfl ?_
                  refine x_get c_Rd_enter_147 (by first | rfl | exact h1 | exact h2) rfl ?_
                  refine x_il c_Rd_enter_150 rfl ?_
                  refine x_ci c_Rd_enter_152 ?_
                  first | refine x_isubN c_Rd_enter_153 (by omega) ?_ | refine x_isub c_Rd_enter_153 ?_
                  refine x_ialdN c_Rd_enter_154 (by first | rfl | exact h1 | exact h2) (by omega) (by omega) ?_
                  first | refine x_iaddN c_Rd_enter_155 ?_ | refine x_iadd c_Rd_enter_155 ?_
                  refine x_put [_, _, _, _, _, _, _, _] c_Rd_enter_156 (by first | rfl | exact h1 | exact h2) ⟨Nat.le_of_ble_eq_true rfl, rfl, rfl⟩ rfl ?_
                  refine x_il c_Rd_enter_159 rfl ?_
                  refine x_ri c_Rd_enter_160 ?_
                  first | (exfalso; rw [h42] at h92; cases h92; done) | (have e3 : tb (at_ + 3 - 1) = tb (at_ + 2) := rfl; have e2 : tb (at_ + 2 - 1) = tb (at_ + 1) := rfl; have hl := hlg.1 h42; first | exact ⟨rfl, by unfold rE; dsimp only; rw [if_pos ⟨h66, by omega, by omega, h88, by omega⟩]; exact ⟨by rw [kc_gs, h66] <;> rfl, (kc_gf (by decide)).trans ((kc_gf (by decide)).trans h2)⟩, fun q hq => by rw [kc_gf hq, kc_gf hq]⟩ | exact ⟨rfl, by unfold rE; dsimp only; rw [if_neg (by rintro ⟨g0, g1, g2, g3, g4⟩; first | omega | exact absurd g3 (by assumption) | (rw [g0] at h66; cases h66)), if_pos ⟨h66, by omega, by omega, h88, by omega⟩]; exact ⟨by rw [kc_gs, h66] <;> rfl, (kc_gf (by decide)).trans ((kc_gf (by decide)).trans h2)⟩, fun q hq => by rw [kc_gf hq, kc_gf hq]⟩) | (have e3 : tb (at_ + 3 - 1) = tb (at_ + 2) := rfl; have e2 : tb (at_ + 2 - 1) = tb (at_ + 1) := rfl; have hl := hlg.2 h42; first | exact ⟨rfl, by unfold rE; dsimp only; rw [if_pos ⟨h66, by omega, by omega, h88, by omega⟩]; exact ⟨by rw [kc_gs, h66] <;> rfl, (kc_gf (by decide)).trans ((kc_gf (by decide)).trans h2)⟩, fun q hq => by rw [kc_gf hq, kc_gf hq]⟩ | exact ⟨rfl, by unfold rE; dsimp only; rw [if_neg (by rintro ⟨g0, g1, g2, g3, g4⟩; first | omega | exact absurd g3 (by assumption) | (rw [g0] at h66; cases h66)), if_pos ⟨h66, by omega, by omega, h88, by omega⟩]; exact ⟨by rw [kc_gs, h66] <;> rfl, (kc_gf (by decide)).trans ((kc_gf (by decide)).trans h2)⟩, fun q hq => by rw [kc_gf hq, kc_gf hq]⟩)
                · refine x_al c_Rd_enter_130 rfl ?_
                  refine x_ci c_Rd_enter_131 ?_
                  refine x_put [_, _, _, _, _, _, _, _] c_Rd_enter_132 (by first | rfl | exact h1 | exact h2) ⟨Nat.le_of_ble_eq_true rfl, by first | decide | exact kz_n _, by first | decide | exact kz_f _⟩ rfl ?_
                  refine x_il c_Rd_enter_135 rfl ?_
                  refine x_ri c_Rd_enter_136 ?_
                  first | (exfalso; rw [h42] at h92; cases h92; done) | (have e3 : tb (at_ + 3 - 1) = tb (at_ + 2) := rfl; have e2 : tb (at_ + 2 - 1) = tb (at_ + 1) := rfl; have hl := hlg.1 h42; exact ⟨rfl, by unfold rE; dsimp only; rw [if_neg (by rintro ⟨g0, g1, g2, g3, g4⟩; first | omega | exact absurd g3 (by assumption) | (rw [g0] at h66; cases h66)), if_neg (by rintro ⟨g0, g1, g2, g3, g4⟩; first | omega | exact absurd g3 (by assumption) | (rw [g0] at h66; cases h66))]; exact ⟨kc_gs, (kc_gf (by decide)).trans h2⟩, fun q hq => kc_gf hq⟩) | (have e3 : tb (at_ + 3 - 1) = tb (at_ + 2) := rfl; have e2 : tb (at_ + 2 - 1) = tb (at_ + 1) := rfl; have hl := hlg.2 h42; exact ⟨rfl, by unfold rE; dsimp only; rw [if_neg (by rintro ⟨g0, g1, g2, g3, g4⟩; first | omega | exact absurd g3 (by assumption) | (rw [g0] at h66; cases h66)), if_neg (by rintro ⟨g0, g1, g2, g3, g4⟩; first | omega | exact absurd g3 (by assumption) | (rw [g0] at h66; cases h66))]; exact ⟨kc_gs, (kc_gf (by decide)).trans h2⟩, fun q hq => kc_gf hq⟩)
  refine x_al c_Rd_enter_0 rfl ?_
  refine x_get c_Rd_enter_1 (by first | rfl | exact h1 | exact h2) rfl ?_
  refine x_is [_, _, _, _, _] c_Rd_enter_4 rfl ?_
  refine x_al c_Rd_enter_5 rfl ?_
  refine x_get c_Rd_enter_6 (by first | rfl | exact h1 | exact h2) rfl ?_
  refine x_ci c_Rd_enter_9 ?_
  first | refine x_iaddN c_Rd_enter_10 ?_ | refine x_iadd c_Rd_enter_10 ?_
  refine x_al c_Rd_enter_11 rfl ?_
  refine x_get c_Rd_enter_12 (by first | rfl | exact h1 | exact h2) rfl ?_
  first | refine x_cmN_ge c_Rd_enter_15 (by first | omega | exact tbl htb _) (by first | omega | exact tbl htb _) (fun h15 => ?_) (fun h15 => ?_) | refine x_cm_ge c_Rd_enter_15 (fun h15 => ?_) (fun h15 => ?_)
  · refine x_ci c_Rd_enter_39 ?_
    first | exact j40 true ⟨fun _ => ⟨by omega, by omega⟩, fun h => by cases h⟩ | exact j40 false ⟨fun h => (by cases h), fun _ => by omega⟩
  · refine x_al c_Rd_enter_18 rfl ?_
    refine x_get c_Rd_enter_19 (by first | rfl | exact h1 | exact h2) rfl ?_
    refine x_al c_Rd_enter_22 rfl ?_
    refine x_get c_Rd_enter_23 (by first | rfl | exact h1 | exact h2) rfl ?_
    refine x_ci c_Rd_enter_26 ?_
    first | refine x_iaddN c_Rd_enter_27 ?_ | refine x_iadd c_Rd_enter_27 ?_
    refine x_ialdN c_Rd_enter_28 (by first | rfl | exact h1 | exact h2) (by omega) (by omega) ?_
    refine x_ci c_Rd_enter_29 ?_
    first | refine x_cmN_ne c_Rd_enter_32 (by first | omega | exact tbl htb _) (by first | omega | exact tbl htb _) (fun h32 => ?_) (fun h32 => ?_) | refine x_cm_ne c_Rd_enter_32 (fun h32 => ?_) (fun h32 => ?_)
    · refine x_ci c_Rd_enter_39 ?_
      first | exact j40 true ⟨fun _ => ⟨by omega, by omega⟩, fun h => by cases h⟩ | exact j40 false ⟨fun h => (by cases h), fun _ => by omega⟩
    · refine x_ci c_Rd_enter_35 ?_
      refine x_goto c_Rd_enter_36 ?_
      first | exact j40 true ⟨fun _ => ⟨by omega, by omega⟩, fun h => by cases h⟩ | exact j40 false ⟨fun h => (by cases h), fun _ => by omega⟩
set_option maxRecDepth 100000 in
set_option maxHeartbeats 4000000 in
theorem y_Rd_leave (d : Nat) {μ : kc_M} {tb : Nat → Nat} {sz : Nat} {id : Int32} {r : RS} (hr : rd_r μ tb sz id r) (hk : rok sz r) (htb : ∀ j, tb j < 256) {ar : Nat} : kc_Y kt kC (d + 1) j_Rd_leave [.ref 1, .int (nI ar)] μ (fun v μ' => v = none ∧ rd_r μ' tb sz id (rL ar r) ∧ ∀ q, q ≠ 1 → μ'.1 q = μ.1 q) := by
  obtain ⟨at_, en, wr, sf, st⟩ := r
  obtain ⟨h1, h2⟩ := hr
  obtain ⟨k1, k2, k3⟩ := hk
  dsimp only at h1 k1 k2
  refine ⟨Nat.le_of_ble_eq_true rfl, ?_⟩
  refine x_al c_Rd_leave_0 rfl ?_
  refine x_get c_Rd_leave_1 (by first | rfl | exact h1 | exact h2) rfl ?_
  refine x_al c_Rd_leave_4 rfl ?_
  refine x_get c_Rd_leave_5 (by first | rfl | exact h1 | exact h2) rfl ?_
  first | refine x_cmN_eq c_Rd_leave_8 (by omega) (by omega) (fun h8 => ?_) (fun h8 => ?_) | refine x_cm_eq c_Rd_leave_8 (fun h8 => ?_) (fun h8 => ?_)
  · refine x_al c_Rd_leave_16 rfl ?_
    refine x_il c_Rd_leave_17 rfl ?_
    refine x_put [_, _, _, _, _, _, _, _] c_Rd_leave_18 (by first | rfl | exact h1 | exact h2) ⟨Nat.le_of_ble_eq_true rfl, rfl, rfl⟩ rfl ?_
    refine x_ret c_Rd_leave_21 ?_
    first | exact ⟨rfl, ⟨by unfold rL; dsimp only; rw [kc_gs, decide_eq_true h8]; simp, (kc_gf (by decide)).trans h2⟩, fun q hq => kc_gf hq⟩ | exact ⟨rfl, ⟨by unfold rL; dsimp only; rw [kc_gs, decide_eq_false h8]; simp [bI], (kc_gf (by decide)).trans ((kc_gf (by decide)).trans h2)⟩, fun q hq => by rw [kc_gf hq, kc_gf hq]⟩
  · refine x_al c_Rd_leave_11 rfl ?_
    refine x_ci c_Rd_leave_12 ?_
    refine x_put [_, _, _, _, _, _, _, _] c_Rd_leave_13 (by first | rfl | exact h1 | exact h2) ⟨Nat.le_of_ble_eq_true rfl, by first | decide | exact kz_n _, by first | decide | exact kz_f _⟩ rfl ?_
    refine x_al c_Rd_leave_16 rfl ?_
    refine x_il c_Rd_leave_17 rfl ?_
    refine x_put [_, _, _, _, _, _, _, _] c_Rd_leave_18 (by first | rfl | exact h1 | exact h2) ⟨Nat.le_of_ble_eq_true rfl, rfl, rfl⟩ rfl ?_
    refine x_ret c_Rd_leave_21 ?_
    first | exact ⟨rfl, ⟨by unfold rL; dsimp only; rw [kc_gs, decide_eq_true h8]; simp, (kc_gf (by decide)).trans h2⟩, fun q hq => kc_gf hq⟩ | exact ⟨rfl, ⟨by unfold rL; dsimp only; rw [kc_gs, decide_eq_false h8]; simp [bI], (kc_gf (by decide)).trans ((kc_gf (by decide)).trans h2)⟩, fun q hq => by rw [kc_gf hq, kc_gf hq]⟩
set_option maxRecDepth 100000 in
set_option maxHeartbeats 4000000 in
theorem y_Rd_spanRest (d : Nat) {μ : kc_M} {tb : Nat → Nat} {sz : Nat} {id : Int32} {r : RS} (hr : rd_r μ tb sz id r) (hk : rok sz r) (htb : ∀ j, tb j < 256) : kc_Y kt kC (d + 1) j_Rd_spanRest [.ref 1] μ (fun v μ' => v = none ∧ rd_r μ' tb sz id (rR r) ∧ ∀ q, q ≠ 1 → μ'.1 q = μ.1 q) := by
  obtain ⟨at_, en, wr, sf, st⟩ := r
  obtain ⟨h1, h2⟩ := hr
  obtain ⟨k1, k2, k3⟩ := hk
  dsimp only at h1 k1 k2
  refine ⟨Nat.le_of_ble_eq_true rfl, ?_⟩
  refine x_al c_Rd_spanRest_0 rfl ?_
  refine x_al c_Rd_spanRest_1 rfl ?_
  refine x_get c_Rd_spanRest_2 (by first | rfl | exact h1 | exact h2) rfl ?_
  refine x_put [_, _, _, _, _, _, _, _] c_Rd_spanRest_5 (by first | rfl | exact h1 | exact h2) ⟨Nat.le_of_ble_eq_true rfl, rfl, rfl⟩ rfl ?_
  refine x_al c_Rd_spanRest_8 rfl ?_
  refine x_al c_Rd_spanRest_9 rfl ?_
  refine x_get c_Rd_spanRest_10 (by first | rfl | exact h1 | exact h2) rfl ?_
  refine x_put [_, _, _, _, _, _, _, _] c_Rd_spanRest_13 (by first | rfl | exact h1 | exact h2) ⟨Nat.le_of_ble_eq_true rfl, rfl, rfl⟩ rfl ?_
  refine x_al c_Rd_spanRest_16 rfl ?_
  refine x_al c_Rd_spanRest_17 rfl ?_
  refine x_get c_Rd_spanRest_18 (by first | rfl | exact h1 | exact h2) rfl ?_
  refine x_put [_, _, _, _, _, _, _, _] c_Rd_spanRest_21 (by first | rfl | exact h1 | exact h2) ⟨Nat.le_of_ble_eq_true rfl, rfl, rfl⟩ rfl ?_
  refine x_ret c_Rd_spanRest_24 ?_
  exact ⟨rfl, ⟨kc_gs, h2⟩, fun q hq => by rw [kc_gf hq, kc_gf hq, kc_gf hq]⟩
set_option maxRecDepth 100000 in
set_option maxHeartbeats 4000000 in
theorem y_Rd_hasMore (d : Nat) {μ : kc_M} {tb : Nat → Nat} {sz : Nat} {id : Int32} {r : RS} (hr : rd_r μ tb sz id r) (hk : rok sz r) (htb : ∀ j, tb j < 256) : kc_Y kt kC (d + 1) j_Rd_hasMore [.ref 1] μ (fun v μ' => v = some (.int (bI (rM r))) ∧ μ' = μ) := by
  obtain ⟨at_, en, wr, sf, st⟩ := r
  obtain ⟨h1, h2⟩ := hr
  obtain ⟨k1, k2, k3⟩ := hk
  dsimp only at h1 k1 k2
  refine ⟨Nat.le_of_ble_eq_true rfl, ?_⟩
  refine x_al c_Rd_hasMore_0 rfl ?_
  refine x_get c_Rd_hasMore_1 (by first | rfl | exact h1 | exact h2) rfl ?_
  refine x_ifB_ne c_Rd_hasMore_4 (fun h4 => ?_) (fun h4 => ?_)
  · refine x_ci c_Rd_hasMore_22 ?_
    refine x_rz c_Rd_hasMore_23 (by first | decide | exact kz_n _) ?_
    first | exact ⟨by unfold rM; dsimp only; rw [h4]; rfl, rfl⟩ | exact ⟨by unfold rM; dsimp only; rw [h4, decide_eq_true (by omega)]; rfl, rfl⟩ | exact ⟨by unfold rM; dsimp only; rw [h4, decide_eq_false (by omega)]; rfl, rfl⟩
  · refine x_al c_Rd_hasMore_7 rfl ?_
    refine x_get c_Rd_hasMore_8 (by first | rfl | exact h1 | exact h2) rfl ?_
    refine x_al c_Rd_hasMore_11 rfl ?_
    refine x_get c_Rd_hasMore_12 (by first | rfl | exact h1 | exact h2) rfl ?_
    first | refine x_cmN_ge c_Rd_hasMore_15 (by omega) (by omega) (fun h15 => ?_) (fun h15 => ?_) | refine x_cm_ge c_Rd_hasMore_15 (fun h15 => ?_) (fun h15 => ?_)
    · refine x_ci c_Rd_hasMore_22 ?_
      refine x_rz c_Rd_hasMore_23 (by first | decide | exact kz_n _) ?_
      first | exact ⟨by unfold rM; dsimp only; rw [h4]; rfl, rfl⟩ | exact ⟨by unfold rM; dsimp only; rw [h4, decide_eq_true (by omega)]; rfl, rfl⟩ | exact ⟨by unfold rM; dsimp only; rw [h4, decide_eq_false (by omega)]; rfl, rfl⟩
    · refine x_ci c_Rd_hasMore_18 ?_
      refine x_goto c_Rd_hasMore_19 ?_
      refine x_rz c_Rd_hasMore_23 (by first | decide | exact kz_n _) ?_
      first | exact ⟨by unfold rM; dsimp only; rw [h4]; rfl, rfl⟩ | exact ⟨by unfold rM; dsimp only; rw [h4, decide_eq_true (by omega)]; rfl, rfl⟩ | exact ⟨by unfold rM; dsimp only; rw [h4, decide_eq_false (by omega)]; rfl, rfl⟩
set_option maxRecDepth 100000 in
set_option maxHeartbeats 4000000 in
theorem y_Rd_isReadWell (d : Nat) {μ : kc_M} {tb : Nat → Nat} {sz : Nat} {id : Int32} {r : RS} (hr : rd_r μ tb sz id r) (hk : rok sz r) (htb : ∀ j, tb j < 256) : kc_Y kt kC (d + 1) j_Rd_isReadWell [.ref 1] μ (fun v μ' => v = some (.int (bI (rD r))) ∧ μ' = μ) := by
  obtain ⟨at_, en, wr, sf, st⟩ := r
  obtain ⟨h1, h2⟩ := hr
  obtain ⟨k1, k2, k3⟩ := hk
  dsimp only at h1 k1 k2
  refine ⟨Nat.le_of_ble_eq_true rfl, ?_⟩
  refine x_al c_Rd_isReadWell_0 rfl ?_
  refine x_get c_Rd_isReadWell_1 (by first | rfl | exact h1 | exact h2) rfl ?_
  refine x_ifB_ne c_Rd_isReadWell_4 (fun h4 => ?_) (fun h4 => ?_)
  · refine x_ci c_Rd_isReadWell_22 ?_
    refine x_rz c_Rd_isReadWell_23 (by first | decide | exact kz_n _) ?_
    first | exact ⟨by unfold rD; dsimp only; rw [h4]; rfl, rfl⟩ | exact ⟨by unfold rD; dsimp only; rw [h4, decide_eq_true (by omega)]; rfl, rfl⟩ | exact ⟨by unfold rD; dsimp only; rw [h4, decide_eq_false (by omega)]; rfl, rfl⟩
  · refine x_al c_Rd_isReadWell_7 rfl ?_
    refine x_get c_Rd_isReadWell_8 (by first | rfl | exact h1 | exact h2) rfl ?_
    refine x_al c_Rd_isReadWell_11 rfl ?_
    refine x_get c_Rd_isReadWell_12 (by first | rfl | exact h1 | exact h2) rfl ?_
    first | refine x_cmN_ne c_Rd_isReadWell_15 (by omega) (by omega) (fun h15 => ?_) (fun h15 => ?_) | refine x_cm_ne c_Rd_isReadWell_15 (fun h15 => ?_) (fun h15 => ?_)
    · refine x_ci c_Rd_isReadWell_22 ?_
      refine x_rz c_Rd_isReadWell_23 (by first | decide | exact kz_n _) ?_
      first | exact ⟨by unfold rD; dsimp only; rw [h4]; rfl, rfl⟩ | exact ⟨by unfold rD; dsimp only; rw [h4, decide_eq_true (by omega)]; rfl, rfl⟩ | exact ⟨by unfold rD; dsimp only; rw [h4, decide_eq_false (by omega)]; rfl, rfl⟩
    · refine x_ci c_Rd_isReadWell_18 ?_
      refine x_goto c_Rd_isReadWell_19 ?_
      refine x_rz c_Rd_isReadWell_23 (by first | decide | exact kz_n _) ?_
      first | exact ⟨by unfold rD; dsimp only; rw [h4]; rfl, rfl⟩ | exact ⟨by unfold rD; dsimp only; rw [h4, decide_eq_true (by omega)]; rfl, rfl⟩ | exact ⟨by unfold rD; dsimp only; rw [h4, decide_eq_false (by omega)]; rfl, rfl⟩
set_option maxRecDepth 100000 in
set_option maxHeartbeats 4000000 in
theorem y_Rd_nextTag (d : Nat) {μ : kc_M} {tb : Nat → Nat} {sz : Nat} {id : Int32} {r : RS} (hr : rd_r μ tb sz id r) (hk : rok sz r) (htb : ∀ j, tb j < 256) : kc_Y kt kC (d + 2) j_Rd_nextTag [.ref 1] μ (fun v μ' => v = some (.int (rT tb r)) ∧ μ' = μ) := by
  have hr0 := hr
  have hk0 := hk
  obtain ⟨at_, en, wr, sf, st⟩ := r
  obtain ⟨h1, h2⟩ := hr
  obtain ⟨k1, k2, k3⟩ := hk
  dsimp only at h1 k1 k2
  refine ⟨Nat.le_of_ble_eq_true rfl, ?_⟩
  refine x_al c_Rd_nextTag_0 rfl ?_
  refine x_cv0z _ c_Rd_nextTag_1 (by first | rfl | exact h1 | exact h2) (Nat.le_of_ble_eq_true rfl) (y_Rd_hasMore d hr0 hk0 htb) ?_
  rintro _ _ ⟨rfl, rfl⟩
  show kc_X _ _ _ _ _ [.int (bI (rM _))] _ _
  refine x_ifB_eq c_Rd_nextTag_4 (fun h4 => ?_) (fun h4 => ?_)
  · refine x_ci c_Rd_nextTag_19 ?_
    refine x_ri c_Rd_nextTag_20 ?_
    first | exact ⟨by unfold rT; rw [if_pos h4], rfl⟩ | exact ⟨by unfold rT; rw [if_neg (by rw [h4]; decide)], rfl⟩
  · refine x_al c_Rd_nextTag_7 rfl ?_
    refine x_get c_Rd_nextTag_8 (by first | rfl | exact h1 | exact h2) rfl ?_
    refine x_al c_Rd_nextTag_11 rfl ?_
    refine x_get c_Rd_nextTag_12 (by first | rfl | exact h1 | exact h2) rfl ?_
    refine x_ialdN c_Rd_nextTag_15 (by first | rfl | exact h1 | exact h2) (by have h9 := h4; unfold rM at h9; simp at h9; omega) (by omega) ?_
    refine x_goto c_Rd_nextTag_16 ?_
    refine x_ri c_Rd_nextTag_20 ?_
    first | exact ⟨by unfold rT; rw [if_pos h4], rfl⟩ | exact ⟨by unfold rT; rw [if_neg (by rw [h4]; decide)], rfl⟩
set_option maxRecDepth 100000 in
set_option maxHeartbeats 4000000 in
theorem y_Rd_span (d : Nat) {μ : kc_M} {tb : Nat → Nat} {sz : Nat} {id : Int32} {r : RS} (hr : rd_r μ tb sz id r) (hk : rok sz r) (htb : ∀ j, tb j < 256) {tag : Int32} : kc_Y kt kC (d + 2) j_Rd_span [.ref 1, .int tag] μ (fun v μ' => v = none ∧ rd_r μ' tb sz id (rS tb tag r) ∧ ∀ q, q ≠ 1 → μ'.1 q = μ.1 q) := by
  refine ⟨Nat.le_of_ble_eq_true rfl, ?_⟩
  refine x_al c_Rd_span_0 rfl ?_
  refine x_il c_Rd_span_1 rfl ?_
  refine x_cv1z _ c_Rd_span_2 (by first | rfl | exact hr.1 | exact g1.1 | exact g2.1) (Nat.le_of_ble_eq_true rfl) (y_Rd_enter (d := d) hr hk htb) ?_
  rintro _ μ1 ⟨rfl, g1, f1⟩
  show kc_X _ _ _ _ _ [.int (nI r.2.1)] _ _
  have k1 := rok_E (tb := tb) (tag := tag) hk
  refine x_is [_, _, _] c_Rd_span_5 rfl ?_
  refine x_al c_Rd_span_6 rfl ?_
  refine x_cv0z _ c_Rd_span_7 (by first | rfl | exact hr.1 | exact g1.1 | exact g2.1) (Nat.le_of_ble_eq_true rfl) (y_Rd_spanRest (d := d) g1 k1.1 htb) ?_
  rintro _ μ2 ⟨rfl, g2, f2⟩
  show kc_X _ _ _ _ _ [] _ _
  refine x_al c_Rd_span_10 rfl ?_
  refine x_il c_Rd_span_11 rfl ?_
  refine x_cv1z _ c_Rd_span_12 (by first | rfl | exact hr.1 | exact g1.1 | exact g2.1) (Nat.le_of_ble_eq_true rfl) (y_Rd_leave (d := d) (r := rR (rE tb tag r)) g2 ⟨Nat.le_refl _, k1.1.2.1, k1.1.2.2⟩ htb) ?_
  rintro _ μ3 ⟨rfl, g3, f3⟩
  show kc_X _ _ _ _ _ [] _ _
  refine x_ret c_Rd_span_15 ?_
  exact ⟨rfl, g3, fun q hq => by rw [f3 q hq, f2 q hq, f1 q hq]⟩
set_option maxRecDepth 100000 in
set_option maxHeartbeats 4000000 in
theorem y_Rd_number (d : Nat) {μ : kc_M} {tb : Nat → Nat} {sz : Nat} {id : Int32} {r : RS} (hr : rd_r μ tb sz id r) (hk : rok sz r) (htb : ∀ j, tb j < 256) : kc_Y kt kC (d + 3) j_Rd_number [.ref 1] μ (fun v μ' => v = some (.int (vN tb r)) ∧ rd_r μ' tb sz id (rN tb r) ∧ ∀ q, q ≠ 1 → μ'.1 q = μ.1 q) := by
  refine ⟨Nat.le_of_ble_eq_true rfl, ?_⟩
  refine x_al c_Rd_number_0 rfl ?_
  refine x_ci c_Rd_number_1 ?_
  refine x_cv1z _ c_Rd_number_2 (by first | rfl | exact hr.1 | exact h1 | exact h2) (Nat.le_of_ble_eq_true rfl) (y_Rd_span (d := d) hr hk htb) ?_
  rintro _ μ1 ⟨rfl, ⟨h1, h2⟩, f1⟩
  show kc_X _ _ _ _ _ [] _ _
  have hs := rok_S (tb := tb) (tag := (nI 2)) hk
  generalize hR : rS tb (nI 2) r = r1 at h1 h2 hs
  obtain ⟨at_, en, wr, sf, st⟩ := r1
  obtain ⟨⟨k1, k2, k3⟩, k4, k5, k6, k7, k8⟩ := hs
  dsimp only at h1 h2 k1 k2 k4 k5 k6 k7
  refine x_al c_Rd_number_5 rfl ?_
  refine x_get c_Rd_number_6 (by first | rfl | exact hr.1 | exact h1 | exact h2) rfl ?_
  refine x_al c_Rd_number_9 rfl ?_
  refine x_get c_Rd_number_10 (by first | rfl | exact hr.1 | exact h1 | exact h2) rfl ?_
  first | refine x_isubN c_Rd_number_13 (by omega) ?_ | refine x_isub c_Rd_number_13 ?_
  refine x_is [_, _] c_Rd_number_14 rfl ?_
  refine x_il c_Rd_number_15 rfl ?_
  refine x_ci c_Rd_number_16 ?_
  first | refine x_cmN_ne c_Rd_number_17 (by first | omega | exact tbl htb _) (by first | omega | exact tbl htb _) (fun h17 => ?_) (fun h17 => ?_) | refine x_cm_ne c_Rd_number_17 (fun h17 => ?_) (fun h17 => ?_)
  · refine x_il c_Rd_number_31 rfl ?_
    refine x_ci c_Rd_number_32 ?_
    first | refine x_cmN_ne c_Rd_number_33 (by first | omega | exact tbl htb _) (by first | omega | exact tbl htb _) (fun h33 => ?_) (fun h33 => ?_) | refine x_cm_ne c_Rd_number_33 (fun h33 => ?_) (fun h33 => ?_)
    · refine x_al c_Rd_number_62 rfl ?_
      refine x_ci c_Rd_number_63 ?_
      refine x_put [_, _, _, _, _, _, _, _] c_Rd_number_64 (by first | rfl | exact hr.1 | exact h1 | exact h2) ⟨Nat.le_of_ble_eq_true rfl, by first | decide | exact kz_n _, by first | decide | exact kz_f _⟩ rfl ?_
      refine x_ci c_Rd_number_67 ?_
      refine x_ri c_Rd_number_68 ?_
      exact ⟨by unfold vN; rw [hR]; dsimp only; rw [if_neg h17, if_neg h33]; rfl, by unfold rN; rw [hR]; dsimp only; rw [if_neg (by omega)]; exact ⟨kc_gs, h2⟩, fun q hq => by rw [kc_gf hq, f1 q hq]⟩
    · refine x_al c_Rd_number_36 rfl ?_
      refine x_get c_Rd_number_37 (by first | rfl | exact hr.1 | exact h1 | exact h2) rfl ?_
      refine x_al c_Rd_number_40 rfl ?_
      refine x_get c_Rd_number_41 (by first | rfl | exact hr.1 | exact h1 | exact h2) rfl ?_
      refine x_ialdN c_Rd_number_44 (by first | rfl | exact hr.1 | exact h1 | exact h2) (by omega) (by omega) ?_
      refine x_ci c_Rd_number_45 ?_
      refine x_ishl c_Rd_number_47 ?_
      refine x_al c_Rd_number_48 rfl ?_
      refine x_get c_Rd_number_49 (by first | rfl | exact hr.1 | exact h1 | exact h2) rfl ?_
      refine x_al c_Rd_number_52 rfl ?_
      refine x_get c_Rd_number_53 (by first | rfl | exact hr.1 | exact h1 | exact h2) rfl ?_
      refine x_ci c_Rd_number_56 ?_
      first | refine x_iaddN c_Rd_number_57 ?_ | refine x_iadd c_Rd_number_57 ?_
      refine x_ialdN c_Rd_number_58 (by first | rfl | exact hr.1 | exact h1 | exact h2) (by omega) (by omega) ?_
      refine x_ior c_Rd_number_59 ?_
      refine x_i2s c_Rd_number_60 ?_
      refine x_ri c_Rd_number_61 ?_
      exact ⟨by unfold vN; rw [hR]; dsimp only; rw [if_neg h17, if_pos h33]; rfl, by unfold rN; rw [hR]; dsimp only; rw [if_pos (Or.inr h33)]; exact ⟨h1, h2⟩, f1⟩
  · refine x_al c_Rd_number_20 rfl ?_
    refine x_get c_Rd_number_21 (by first | rfl | exact hr.1 | exact h1 | exact h2) rfl ?_
    refine x_al c_Rd_number_24 rfl ?_
    refine x_get c_Rd_number_25 (by first | rfl | exact hr.1 | exact h1 | exact h2) rfl ?_
    refine x_ialdN c_Rd_number_28 (by first | rfl | exact hr.1 | exact h1 | exact h2) (by omega) (by omega) ?_
    refine x_i2b c_Rd_number_29 ?_
    refine x_ri c_Rd_number_30 ?_
    exact ⟨by unfold vN; rw [hR]; dsimp only; rw [if_pos h17]; rfl, by unfold rN; rw [hR]; dsimp only; rw [if_pos (Or.inl h17)]; exact ⟨h1, h2⟩, f1⟩
set_option maxRecDepth 100000 in
set_option maxHeartbeats 4000000 in
theorem y_Rd_single (d : Nat) {μ : kc_M} {tb : Nat → Nat} {sz : Nat} {id : Int32} {r : RS} (hr : rd_r μ tb sz id r) (hk : rok sz r) (htb : ∀ j, tb j < 256) {tag : Int32} : kc_Y kt kC (d + 3) j_Rd_single [.ref 1, .int tag] μ (fun v μ' => v = some (.int (nI (vO tb tag r))) ∧ rd_r μ' tb sz id (rO tb tag r) ∧ ∀ q, q ≠ 1 → μ'.1 q = μ.1 q) := by
  refine ⟨Nat.le_of_ble_eq_true rfl, ?_⟩
  refine x_al c_Rd_single_0 rfl ?_
  refine x_il c_Rd_single_1 rfl ?_
  refine x_cv1z _ c_Rd_single_2 (by first | rfl | exact hr.1 | exact h1 | exact h2) (Nat.le_of_ble_eq_true rfl) (y_Rd_span (d := d) hr hk htb) ?_
  rintro _ μ1 ⟨rfl, ⟨h1, h2⟩, f1⟩
  show kc_X _ _ _ _ _ [] _ _
  have hs := rok_S (tb := tb) (tag := tag) hk
  generalize hR : rS tb tag r = r1 at h1 h2 hs
  obtain ⟨at_, en, wr, sf, st⟩ := r1
  obtain ⟨⟨k1, k2, k3⟩, k4, k5, k6, k7, k8⟩ := hs
  dsimp only at h1 h2 k1 k2 k4 k5 k6 k7
  refine x_al c_Rd_single_5 rfl ?_
  refine x_get c_Rd_single_6 (by first | rfl | exact hr.1 | exact h1 | exact h2) rfl ?_
  refine x_al c_Rd_single_9 rfl ?_
  refine x_get c_Rd_single_10 (by first | rfl | exact hr.1 | exact h1 | exact h2) rfl ?_
  first | refine x_isubN c_Rd_single_13 (by omega) ?_ | refine x_isub c_Rd_single_13 ?_
  refine x_ci c_Rd_single_14 ?_
  first | refine x_cmN_eq c_Rd_single_15 (by first | omega | exact tbl htb _) (by first | omega | exact tbl htb _) (fun h15 => ?_) (fun h15 => ?_) | refine x_cm_eq c_Rd_single_15 (fun h15 => ?_) (fun h15 => ?_)
  · refine x_al c_Rd_single_25 rfl ?_
    refine x_get c_Rd_single_26 (by first | rfl | exact hr.1 | exact h1 | exact h2) rfl ?_
    refine x_al c_Rd_single_29 rfl ?_
    refine x_get c_Rd_single_30 (by first | rfl | exact hr.1 | exact h1 | exact h2) rfl ?_
    refine x_ialdN c_Rd_single_33 (by first | rfl | exact hr.1 | exact h1 | exact h2) (by omega) (by omega) ?_
    refine x_ri c_Rd_single_34 ?_
    exact ⟨by unfold vO; rw [hR]; dsimp only; rw [if_pos h15], by unfold rO; rw [hR]; dsimp only; rw [if_pos h15]; exact ⟨h1, h2⟩, f1⟩
  · refine x_al c_Rd_single_18 rfl ?_
    refine x_ci c_Rd_single_19 ?_
    refine x_put [_, _, _, _, _, _, _, _] c_Rd_single_20 (by first | rfl | exact hr.1 | exact h1 | exact h2) ⟨Nat.le_of_ble_eq_true rfl, by first | decide | exact kz_n _, by first | decide | exact kz_f _⟩ rfl ?_
    refine x_ci c_Rd_single_23 ?_
    refine x_ri c_Rd_single_24 ?_
    exact ⟨by unfold vO; rw [hR]; dsimp only; rw [if_neg h15], by unfold rO; rw [hR]; dsimp only; rw [if_neg h15]; exact ⟨kc_gs, h2⟩, fun q hq => by rw [kc_gf hq, f1 q hq]⟩
theorem vO_lt {tb : Nat → Nat} (h : ∀ j, tb j < 256) (tag : Int32) (r : RS) : vO tb tag r < 256 := by
  unfold vO
  split
  · exact h _
  · omega
set_option maxRecDepth 100000 in
set_option maxHeartbeats 4000000 in
theorem y_Rd_choice (d : Nat) {μ : kc_M} {tb : Nat → Nat} {sz : Nat} {id : Int32} {r : RS} (hr : rd_r μ tb sz id r) (hk : rok sz r) (htb : ∀ j, tb j < 256) {most : Nat} (hmo : most < 256) : kc_Y kt kC (d + 4) j_Rd_choice [.ref 1, .int (nI most)] μ (fun v μ' => v = some (.int (nI (vO tb (nI 10) r))) ∧ rd_r μ' tb sz id (rC tb most r) ∧ ∀ q, q ≠ 1 → μ'.1 q = μ.1 q) := by
  refine ⟨Nat.le_of_ble_eq_true rfl, ?_⟩
  have hv := vO_lt htb (nI 10) r
  refine x_al c_Rd_choice_0 rfl ?_
  refine x_ci c_Rd_choice_1 ?_
  refine x_cv1z _ c_Rd_choice_3 (by first | rfl | exact hr.1 | exact g1.1) (Nat.le_of_ble_eq_true rfl) (y_Rd_single (d := d) hr hk htb) ?_
  rintro _ μ1 ⟨rfl, g1, f1⟩
  show kc_X _ _ _ _ _ [.int (nI (vO tb (nI 10) r))] _ _
  refine x_is [_, _, _] c_Rd_choice_6 rfl ?_
  refine x_il c_Rd_choice_7 rfl ?_
  refine x_il c_Rd_choice_8 rfl ?_
  first | refine x_cmN_le c_Rd_choice_9 (by omega) (by omega) (fun h9 => ?_) (fun h9 => ?_) | refine x_cm_le c_Rd_choice_9 (fun h9 => ?_) (fun h9 => ?_)
  · refine x_il c_Rd_choice_17 rfl ?_
    refine x_ri c_Rd_choice_18 ?_
    first | exact ⟨rfl, by unfold rC; rw [if_pos (by omega)]; exact g1, f1⟩ | exact ⟨rfl, by unfold rC; rw [if_neg (by omega)]; exact ⟨kc_gs, g1.2⟩, fun q hq => by rw [kc_gf hq, f1 q hq]⟩
  · refine x_al c_Rd_choice_12 rfl ?_
    refine x_ci c_Rd_choice_13 ?_
    refine x_put [_, _, _, _, _, _, _, _] c_Rd_choice_14 (by first | rfl | exact hr.1 | exact g1.1) ⟨Nat.le_of_ble_eq_true rfl, by first | decide | exact kz_n _, by first | decide | exact kz_f _⟩ rfl ?_
    refine x_il c_Rd_choice_17 rfl ?_
    refine x_ri c_Rd_choice_18 ?_
    first | exact ⟨rfl, by unfold rC; rw [if_pos (by omega)]; exact g1, f1⟩ | exact ⟨rfl, by unfold rC; rw [if_neg (by omega)]; exact ⟨kc_gs, g1.2⟩, fun q hq => by rw [kc_gf hq, f1 q hq]⟩
set_option maxRecDepth 100000 in
set_option maxHeartbeats 4000000 in
theorem y_Rd_flag (d : Nat) {μ : kc_M} {tb : Nat → Nat} {sz : Nat} {id : Int32} {r : RS} (hr : rd_r μ tb sz id r) (hk : rok sz r) (htb : ∀ j, tb j < 256) : kc_Y kt kC (d + 4) j_Rd_flag [.ref 1] μ (fun v μ' => v = some (.int (bI (!decide (vO tb (nI 1) r = 0)))) ∧ rd_r μ' tb sz id (rO tb (nI 1) r) ∧ ∀ q, q ≠ 1 → μ'.1 q = μ.1 q) := by
  refine ⟨Nat.le_of_ble_eq_true rfl, ?_⟩
  have hv := vO_lt htb (nI 1) r
  refine x_al c_Rd_flag_0 rfl ?_
  refine x_ci c_Rd_flag_1 ?_
  refine x_cv1z _ c_Rd_flag_2 (by first | rfl | exact hr.1 | exact g1.1) (Nat.le_of_ble_eq_true rfl) (y_Rd_single (d := d) hr hk htb) ?_
  rintro _ μ1 ⟨rfl, g1, f1⟩
  show kc_X _ _ _ _ _ [.int (nI (vO tb (nI 1) r))] _ _
  refine x_ifN_eq c_Rd_flag_5 (by omega) (fun h5 => ?_) (fun h5 => ?_)
  · refine x_ci c_Rd_flag_12 ?_
    refine x_rz c_Rd_flag_13 (by first | decide | exact kz_n _) ?_
    first | exact ⟨by rw [decide_eq_true (by omega)]; rfl, g1, f1⟩ | exact ⟨by rw [decide_eq_false (by omega)]; rfl, g1, f1⟩
  · refine x_ci c_Rd_flag_8 ?_
    refine x_goto c_Rd_flag_9 ?_
    refine x_rz c_Rd_flag_13 (by first | decide | exact kz_n _) ?_
    first | exact ⟨by rw [decide_eq_true (by omega)]; rfl, g1, f1⟩ | exact ⟨by rw [decide_eq_false (by omega)]; rfl, g1, f1⟩
