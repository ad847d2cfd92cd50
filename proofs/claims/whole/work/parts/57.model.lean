/-! the reference: its object, its rows; DirectoryDeskModel() -/
def mdF (s : Nat → Int32) : List Value := [.int (s 0), .int (s 1), .ref 137, .int (s 3), .ref 138, .int (s 5), .int (s 6), .ref 139, .ref 140, .ref 141, .ref 142, .ref 143, .ref 144, .int (s 13), .int (s 14), .int (s 15), .int (s 16), .int (s 17), .int (s 18), .int (s 19), .int (s 20), .ref 145, .ref 146, .int (s 23), .int (s 24), .int (s 25), .int (s 26), .int (s 27), .int (s 28), .int (s 29), .int (s 30), .int (s 31), .int (s 32), .int (s 33), .ref 147, .ref 148, .ref 149, .ref 150, .int (s 38), .ref 151, .int (s 40), .ref 152, .ref 153, .ref 154, .ref 155, .ref 156, .int (s 46), .ref 157, .ref 158, .int (s 49), .ref 159, .ref 160]
abbrev ce_Md (s : Nat → Int32) : kc_C := .inl (10, mdF s)
def ms_at (μ : kc_M) : Prop := (∃ f, μ.1 145 = some (ce_I 4 f)) ∧ (∃ f, μ.1 146 = some (ce_L 4 f)) ∧ (∃ f, μ.1 147 = some (ce_I 12 f)) ∧ (∃ f, μ.1 148 = some (ce_I 12 f)) ∧ (∃ f, μ.1 149 = some (ce_I 12 f)) ∧ (∃ f, μ.1 150 = some (ce_I 12 f)) ∧ (∃ f, μ.1 151 = some (ce_L 24 f)) ∧ (∃ f, μ.1 152 = some (ce_I 20 f)) ∧ (∃ f, μ.1 153 = some (ce_I 20 f)) ∧ (∃ f, μ.1 154 = some (ce_I 20 f)) ∧ (∃ f, μ.1 155 = some (ce_L 20 f)) ∧ (∃ f, μ.1 156 = some (ce_I 20 f)) ∧ (∃ f, μ.1 157 = some (ce_I 6 f)) ∧ (∃ f, μ.1 158 = some (ce_I 6 f)) ∧ (∃ f, μ.1 159 = some (ce_I 32 f)) ∧ (∃ f, μ.1 160 = some (ce_L 32 f))
/-- the reference's lasting rows: what is typed (tb), its answer (ou), its entries' parts and pairs -/
def mr_at (μ : kc_M) (tb : Nat → Nat) (ou pa pt : Nat → Int32) (pv : Nat → Int64) (pr qt : Nat → Int32) (qv : Nat → Int64) : Prop :=
  μ.1 137 = some (ce_I 200 (fun j => nI (tb j))) ∧ μ.1 138 = some (ce_I 480 ou) ∧ μ.1 139 = some (ce_I 16 pa) ∧ μ.1 140 = some (ce_I 64 pt) ∧ μ.1 141 = some (ce_L 64 pv) ∧ μ.1 142 = some (ce_I 16 pr) ∧ μ.1 143 = some (ce_I 96 qt) ∧ μ.1 144 = some (ce_L 96 qv)
/-- the entries, n of them, as lists -/
def me_at (n : Nat) (pa pt : Nat → Int32) (pv : Nat → Int64) (pr qt : Nat → Int32) (qv : Nat → Int64) (nm prs : Nat → List tv) : Prop :=
  ∀ e, e < n → pa e = nI (nm e).length ∧ ho (nm e) (fun k => pt (4 * e + k)) (fun k => pv (4 * e + k)) ∧ pr e = nI (prs e).length ∧ ho (prs e) (fun k => qt (6 * e + k)) (fun k => qv (6 * e + k))
set_option maxRecDepth 100000 in
set_option maxHeartbeats 4000000 in
theorem y_Md_init (d : Nat) {μ : kc_M} (hn : μ.2 = some 137) (hm : μ.1 136 = some (.inl (10, [.int 0, .int 0, .null, .int 0, .null, .int 0, .int 0, .null, .null, .null, .null, .null, .null, .int 0, .int 0, .int 0, .int 0, .int 0, .int 0, .int 0, .int 0, .null, .null, .int 0, .int 0, .int 0, .int 0, .int 0, .int 0, .int 0, .int 0, .int 0, .int 0, .int 0, .null, .null, .null, .null, .int 0, .null, .int 0, .null, .null, .null, .null, .null, .int 0, .null, .null, .int 0, .null, .null]))) : kc_Y kt kC (d + 1) j_Md_init [.ref 136] μ (fun v μ' => v = none ∧ μ'.1 136 = some (ce_Md (upd (fun _ => 0) 6 (nI 1))) ∧ (∃ pa pt pv pr qt qv, mr_at μ' (fun _ => 0) (fun _ => 0) pa pt pv pr qt qv ∧ me_at 1 pa pt pv pr qt qv (fun e => if e = 0 then [(nI 97, v_r)] else []) (fun e => if e = 0 then [(nI 97, v_r), (nI 102, v_x)] else [])) ∧ ms_at μ' ∧ ∀ q, q < 136 → μ'.1 q = μ.1 q) := by
  refine ⟨Nat.le_of_ble_eq_true rfl, ?_⟩
  refine x_al c_Md_init_0 rfl ?_
  refine x_obj c_Md_init_1 (Nat.le_of_ble_eq_true rfl) ?_
  refine x_al c_Md_init_4 rfl ?_
  refine x_ci c_Md_init_5 ?_
  refine x_newi 200 c_Md_init_8 (by first | rfl | exact hn) ⟨by decide, by decide, by decide⟩ ⟨Nat.le_of_ble_eq_true rfl, Nat.le_of_ble_eq_true rfl⟩ ?_
  refine x_put [_, _, _, _, _, _, _, _, _, _, _, _, _, _, _, _, _, _, _, _, _, _, _, _, _, _, _, _, _, _, _, _, _, _, _, _, _, _, _, _, _, _, _, _, _, _, _, _, _, _, _, _] c_Md_init_10 (by first | rfl | exact hm) ⟨Nat.le_of_ble_eq_true rfl, rfl, rfl⟩ rfl ?_
  refine x_al c_Md_init_13 rfl ?_
  refine x_ci c_Md_init_14 ?_
  refine x_newi 480 c_Md_init_17 (by first | rfl | exact hn) ⟨by decide, by decide, by decide⟩ ⟨Nat.le_of_ble_eq_true rfl, Nat.le_of_ble_eq_true rfl⟩ ?_
  refine x_put [_, _, _, _, _, _, _, _, _, _, _, _, _, _, _, _, _, _, _, _, _, _, _, _, _, _, _, _, _, _, _, _, _, _, _, _, _, _, _, _, _, _, _, _, _, _, _, _, _, _, _, _] c_Md_init_19 (by first | rfl | exact hm) ⟨Nat.le_of_ble_eq_true rfl, rfl, rfl⟩ rfl ?_
  refine x_al c_Md_init_22 rfl ?_
  refine x_ci c_Md_init_23 ?_
  refine x_newi 16 c_Md_init_25 (by first | rfl | exact hn) ⟨by decide, by decide, by decide⟩ ⟨Nat.le_of_ble_eq_true rfl, Nat.le_of_ble_eq_true rfl⟩ ?_
  refine x_put [_, _, _, _, _, _, _, _, _, _, _, _, _, _, _, _, _, _, _, _, _, _, _, _, _, _, _, _, _, _, _, _, _, _, _, _, _, _, _, _, _, _, _, _, _, _, _, _, _, _, _, _] c_Md_init_27 (by first | rfl | exact hm) ⟨Nat.le_of_ble_eq_true rfl, rfl, rfl⟩ rfl ?_
  refine x_al c_Md_init_30 rfl ?_
  refine x_ci c_Md_init_31 ?_
  refine x_newi 64 c_Md_init_33 (by first | rfl | exact hn) ⟨by decide, by decide, by decide⟩ ⟨Nat.le_of_ble_eq_true rfl, Nat.le_of_ble_eq_true rfl⟩ ?_
  refine x_put [_, _, _, _, _, _, _, _, _, _, _, _, _, _, _, _, _, _, _, _, _, _, _, _, _, _, _, _, _, _, _, _, _, _, _, _, _, _, _, _, _, _, _, _, _, _, _, _, _, _, _, _] c_Md_init_35 (by first | rfl | exact hm) ⟨Nat.le_of_ble_eq_true rfl, rfl, rfl⟩ rfl ?_
  refine x_al c_Md_init_38 rfl ?_
  refine x_ci c_Md_init_39 ?_
  refine x_newl 64 c_Md_init_41 (by first | rfl | exact hn) ⟨by decide, by decide, by decide⟩ ⟨Nat.le_of_ble_eq_true rfl, Nat.le_of_ble_eq_true rfl⟩ ?_
  refine x_put [_, _, _, _, _, _, _, _, _, _, _, _, _, _, _, _, _, _, _, _, _, _, _, _, _, _, _, _, _, _, _, _, _, _, _, _, _, _, _, _, _, _, _, _, _, _, _, _, _, _, _, _] c_Md_init_43 (by first | rfl | exact hm) ⟨Nat.le_of_ble_eq_true rfl, rfl, rfl⟩ rfl ?_
  refine x_al c_Md_init_46 rfl ?_
  refine x_ci c_Md_init_47 ?_
  refine x_newi 16 c_Md_init_49 (by first | rfl | exact hn) ⟨by decide, by decide, by decide⟩ ⟨Nat.le_of_ble_eq_true rfl, Nat.le_of_ble_eq_true rfl⟩ ?_
  refine x_put [_, _, _, _, _, _, _, _, _, _, _, _, _, _, _, _, _, _, _, _, _, _, _, _, _, _, _, _, _, _, _, _, _, _, _, _, _, _, _, _, _, _, _, _, _, _, _, _, _, _, _, _] c_Md_init_51 (by first | rfl | exact hm) ⟨Nat.le_of_ble_eq_true rfl, rfl, rfl⟩ rfl ?_
  refine x_al c_Md_init_54 rfl ?_
  refine x_ci c_Md_init_55 ?_
  refine x_newi 96 c_Md_init_57 (by first | rfl | exact hn) ⟨by decide, by decide, by decide⟩ ⟨Nat.le_of_ble_eq_true rfl, Nat.le_of_ble_eq_true rfl⟩ ?_
  refine x_put [_, _, _, _, _, _, _, _, _, _, _, _, _, _, _, _, _, _, _, _, _, _, _, _, _, _, _, _, _, _, _, _, _, _, _, _, _, _, _, _, _, _, _, _, _, _, _, _, _, _, _, _] c_Md_init_59 (by first | rfl | exact hm) ⟨Nat.le_of_ble_eq_true rfl, rfl, rfl⟩ rfl ?_
  refine x_al c_Md_init_62 rfl ?_
  refine x_ci c_Md_init_63 ?_
  refine x_newl 96 c_Md_init_65 (by first | rfl | exact hn) ⟨by decide, by decide, by decide⟩ ⟨Nat.le_of_ble_eq_true rfl, Nat.le_of_ble_eq_true rfl⟩ ?_
  refine x_put [_, _, _, _, _, _, _, _, _, _, _, _, _, _, _, _, _, _, _, _, _, _, _, _, _, _, _, _, _, _, _, _, _, _, _, _, _, _, _, _, _, _, _, _, _, _, _, _, _, _, _, _] c_Md_init_67 (by first | rfl | exact hm) ⟨Nat.le_of_ble_eq_true rfl, rfl, rfl⟩ rfl ?_
  refine x_al c_Md_init_70 rfl ?_
  refine x_ci c_Md_init_71 ?_
  refine x_newi 4 c_Md_init_72 (by first | rfl | exact hn) ⟨by decide, by decide, by decide⟩ ⟨Nat.le_of_ble_eq_true rfl, Nat.le_of_ble_eq_true rfl⟩ ?_
  refine x_put [_, _, _, _, _, _, _, _, _, _, _, _, _, _, _, _, _, _, _, _, _, _, _, _, _, _, _, _, _, _, _, _, _, _, _, _, _, _, _, _, _, _, _, _, _, _, _, _, _, _, _, _] c_Md_init_74 (by first | rfl | exact hm) ⟨Nat.le_of_ble_eq_true rfl, rfl, rfl⟩ rfl ?_
  refine x_al c_Md_init_77 rfl ?_
  refine x_ci c_Md_init_78 ?_
  refine x_newl 4 c_Md_init_79 (by first | rfl | exact hn) ⟨by decide, by decide, by decide⟩ ⟨Nat.le_of_ble_eq_true rfl, Nat.le_of_ble_eq_true rfl⟩ ?_
  refine x_put [_, _, _, _, _, _, _, _, _, _, _, _, _, _, _, _, _, _, _, _, _, _, _, _, _, _, _, _, _, _, _, _, _, _, _, _, _, _, _, _, _, _, _, _, _, _, _, _, _, _, _, _] c_Md_init_81 (by first | rfl | exact hm) ⟨Nat.le_of_ble_eq_true rfl, rfl, rfl⟩ rfl ?_
  refine x_al c_Md_init_84 rfl ?_
  refine x_ci c_Md_init_85 ?_
  refine x_newi 12 c_Md_init_87 (by first | rfl | exact hn) ⟨by decide, by decide, by decide⟩ ⟨Nat.le_of_ble_eq_true rfl, Nat.le_of_ble_eq_true rfl⟩ ?_
  refine x_put [_, _, _, _, _, _, _, _, _, _, _, _, _, _, _, _, _, _, _, _, _, _, _, _, _, _, _, _, _, _, _, _, _, _, _, _, _, _, _, _, _, _, _, _, _, _, _, _, _, _, _, _] c_Md_init_89 (by first | rfl | exact hm) ⟨Nat.le_of_ble_eq_true rfl, rfl, rfl⟩ rfl ?_
  refine x_al c_Md_init_92 rfl ?_
  refine x_ci c_Md_init_93 ?_
  refine x_newi 12 c_Md_init_95 (by first | rfl | exact hn) ⟨by decide, by decide, by decide⟩ ⟨Nat.le_of_ble_eq_true rfl, Nat.le_of_ble_eq_true rfl⟩ ?_
  refine x_put [_, _, _, _, _, _, _, _, _, _, _, _, _, _, _, _, _, _, _, _, _, _, _, _, _, _, _, _, _, _, _, _, _, _, _, _, _, _, _, _, _, _, _, _, _, _, _, _, _, _, _, _] c_Md_init_97 (by first | rfl | exact hm) ⟨Nat.le_of_ble_eq_true rfl, rfl, rfl⟩ rfl ?_
  refine x_al c_Md_init_100 rfl ?_
  refine x_ci c_Md_init_101 ?_
  refine x_newi 12 c_Md_init_103 (by first | rfl | exact hn) ⟨by decide, by decide, by decide⟩ ⟨Nat.le_of_ble_eq_true rfl, Nat.le_of_ble_eq_true rfl⟩ ?_
  refine x_put [_, _, _, _, _, _, _, _, _, _, _, _, _, _, _, _, _, _, _, _, _, _, _, _, _, _, _, _, _, _, _, _, _, _, _, _, _, _, _, _, _, _, _, _, _, _, _, _, _, _, _, _] c_Md_init_105 (by first | rfl | exact hm) ⟨Nat.le_of_ble_eq_true rfl, rfl, rfl⟩ rfl ?_
  refine x_al c_Md_init_108 rfl ?_
  refine x_ci c_Md_init_109 ?_
  refine x_newi 12 c_Md_init_111 (by first | rfl | exact hn) ⟨by decide, by decide, by decide⟩ ⟨Nat.le_of_ble_eq_true rfl, Nat.le_of_ble_eq_true rfl⟩ ?_
  refine x_put [_, _, _, _, _, _, _, _, _, _, _, _, _, _, _, _, _, _, _, _, _, _, _, _, _, _, _, _, _, _, _, _, _, _, _, _, _, _, _, _, _, _, _, _, _, _, _, _, _, _, _, _] c_Md_init_113 (by first | rfl | exact hm) ⟨Nat.le_of_ble_eq_true rfl, rfl, rfl⟩ rfl ?_
  refine x_al c_Md_init_116 rfl ?_
  refine x_ci c_Md_init_117 ?_
  refine x_newl 24 c_Md_init_119 (by first | rfl | exact hn) ⟨by decide, by decide, by decide⟩ ⟨Nat.le_of_ble_eq_true rfl, Nat.le_of_ble_eq_true rfl⟩ ?_
  refine x_put [_, _, _, _, _, _, _, _, _, _, _, _, _, _, _, _, _, _, _, _, _, _, _, _, _, _, _, _, _, _, _, _, _, _, _, _, _, _, _, _, _, _, _, _, _, _, _, _, _, _, _, _] c_Md_init_121 (by first | rfl | exact hm) ⟨Nat.le_of_ble_eq_true rfl, rfl, rfl⟩ rfl ?_
  refine x_al c_Md_init_124 rfl ?_
  refine x_ci c_Md_init_125 ?_
  refine x_newi 20 c_Md_init_127 (by first | rfl | exact hn) ⟨by decide, by decide, by decide⟩ ⟨Nat.le_of_ble_eq_true rfl, Nat.le_of_ble_eq_true rfl⟩ ?_
  refine x_put [_, _, _, _, _, _, _, _, _, _, _, _, _, _, _, _, _, _, _, _, _, _, _, _, _, _, _, _, _, _, _, _, _, _, _, _, _, _, _, _, _, _, _, _, _, _, _, _, _, _, _, _] c_Md_init_129 (by first | rfl | exact hm) ⟨Nat.le_of_ble_eq_true rfl, rfl, rfl⟩ rfl ?_
  refine x_al c_Md_init_132 rfl ?_
  refine x_ci c_Md_init_133 ?_
  refine x_newi 20 c_Md_init_135 (by first | rfl | exact hn) ⟨by decide, by decide, by decide⟩ ⟨Nat.le_of_ble_eq_true rfl, Nat.le_of_ble_eq_true rfl⟩ ?_
  refine x_put [_, _, _, _, _, _, _, _, _, _, _, _, _, _, _, _, _, _, _, _, _, _, _, _, _, _, _, _, _, _, _, _, _, _, _, _, _, _, _, _, _, _, _, _, _, _, _, _, _, _, _, _] c_Md_init_137 (by first | rfl | exact hm) ⟨Nat.le_of_ble_eq_true rfl, rfl, rfl⟩ rfl ?_
  refine x_al c_Md_init_140 rfl ?_
  refine x_ci c_Md_init_141 ?_
  refine x_newi 20 c_Md_init_143 (by first | rfl | exact hn) ⟨by decide, by decide, by decide⟩ ⟨Nat.le_of_ble_eq_true rfl, Nat.le_of_ble_eq_true rfl⟩ ?_
  refine x_put [_, _, _, _, _, _, _, _, _, _, _, _, _, _, _, _, _, _, _, _, _, _, _, _, _, _, _, _, _, _, _, _, _, _, _, _, _, _, _, _, _, _, _, _, _, _, _, _, _, _, _, _] c_Md_init_145 (by first | rfl | exact hm) ⟨Nat.le_of_ble_eq_true rfl, rfl, rfl⟩ rfl ?_
  refine x_al c_Md_init_148 rfl ?_
  refine x_ci c_Md_init_149 ?_
  refine x_newl 20 c_Md_init_151 (by first | rfl | exact hn) ⟨by decide, by decide, by decide⟩ ⟨Nat.le_of_ble_eq_true rfl, Nat.le_of_ble_eq_true rfl⟩ ?_
  refine x_put [_, _, _, _, _, _, _, _, _, _, _, _, _, _, _, _, _, _, _, _, _, _, _, _, _, _, _, _, _, _, _, _, _, _, _, _, _, _, _, _, _, _, _, _, _, _, _, _, _, _, _, _] c_Md_init_153 (by first | rfl | exact hm) ⟨Nat.le_of_ble_eq_true rfl, rfl, rfl⟩ rfl ?_
  refine x_al c_Md_init_156 rfl ?_
  refine x_ci c_Md_init_157 ?_
  refine x_newi 20 c_Md_init_159 (by first | rfl | exact hn) ⟨by decide, by decide, by decide⟩ ⟨Nat.le_of_ble_eq_true rfl, Nat.le_of_ble_eq_true rfl⟩ ?_
  refine x_put [_, _, _, _, _, _, _, _, _, _, _, _, _, _, _, _, _, _, _, _, _, _, _, _, _, _, _, _, _, _, _, _, _, _, _, _, _, _, _, _, _, _, _, _, _, _, _, _, _, _, _, _] c_Md_init_161 (by first | rfl | exact hm) ⟨Nat.le_of_ble_eq_true rfl, rfl, rfl⟩ rfl ?_
  refine x_al c_Md_init_164 rfl ?_
  refine x_ci c_Md_init_165 ?_
  refine x_newi 6 c_Md_init_167 (by first | rfl | exact hn) ⟨by decide, by decide, by decide⟩ ⟨Nat.le_of_ble_eq_true rfl, Nat.le_of_ble_eq_true rfl⟩ ?_
  refine x_put [_, _, _, _, _, _, _, _, _, _, _, _, _, _, _, _, _, _, _, _, _, _, _, _, _, _, _, _, _, _, _, _, _, _, _, _, _, _, _, _, _, _, _, _, _, _, _, _, _, _, _, _] c_Md_init_169 (by first | rfl | exact hm) ⟨Nat.le_of_ble_eq_true rfl, rfl, rfl⟩ rfl ?_
  refine x_al c_Md_init_172 rfl ?_
  refine x_ci c_Md_init_173 ?_
  refine x_newi 6 c_Md_init_175 (by first | rfl | exact hn) ⟨by decide, by decide, by decide⟩ ⟨Nat.le_of_ble_eq_true rfl, Nat.le_of_ble_eq_true rfl⟩ ?_
  refine x_put [_, _, _, _, _, _, _, _, _, _, _, _, _, _, _, _, _, _, _, _, _, _, _, _, _, _, _, _, _, _, _, _, _, _, _, _, _, _, _, _, _, _, _, _, _, _, _, _, _, _, _, _] c_Md_init_177 (by first | rfl | exact hm) ⟨Nat.le_of_ble_eq_true rfl, rfl, rfl⟩ rfl ?_
  refine x_al c_Md_init_180 rfl ?_
  refine x_ci c_Md_init_181 ?_
  refine x_newi 32 c_Md_init_183 (by first | rfl | exact hn) ⟨by decide, by decide, by decide⟩ ⟨Nat.le_of_ble_eq_true rfl, Nat.le_of_ble_eq_true rfl⟩ ?_
  refine x_put [_, _, _, _, _, _, _, _, _, _, _, _, _, _, _, _, _, _, _, _, _, _, _, _, _, _, _, _, _, _, _, _, _, _, _, _, _, _, _, _, _, _, _, _, _, _, _, _, _, _, _, _] c_Md_init_185 (by first | rfl | exact hm) ⟨Nat.le_of_ble_eq_true rfl, rfl, rfl⟩ rfl ?_
  refine x_al c_Md_init_188 rfl ?_
  refine x_ci c_Md_init_189 ?_
  refine x_newl 32 c_Md_init_191 (by first | rfl | exact hn) ⟨by decide, by decide, by decide⟩ ⟨Nat.le_of_ble_eq_true rfl, Nat.le_of_ble_eq_true rfl⟩ ?_
  refine x_put [_, _, _, _, _, _, _, _, _, _, _, _, _, _, _, _, _, _, _, _, _, _, _, _, _, _, _, _, _, _, _, _, _, _, _, _, _, _, _, _, _, _, _, _, _, _, _, _, _, _, _, _] c_Md_init_193 (by first | rfl | exact hm) ⟨Nat.le_of_ble_eq_true rfl, rfl, rfl⟩ rfl ?_
  refine x_al c_Md_init_196 rfl ?_
  refine x_ci c_Md_init_197 ?_
  refine x_put [_, _, _, _, _, _, _, _, _, _, _, _, _, _, _, _, _, _, _, _, _, _, _, _, _, _, _, _, _, _, _, _, _, _, _, _, _, _, _, _, _, _, _, _, _, _, _, _, _, _, _, _] c_Md_init_198 (by first | rfl | exact hm) ⟨Nat.le_of_ble_eq_true rfl, rfl, rfl⟩ rfl ?_
  refine x_al c_Md_init_201 rfl ?_
  refine x_get c_Md_init_202 (by first | rfl | exact hm) rfl ?_
  refine x_ci c_Md_init_205 ?_
  refine x_ci c_Md_init_206 ?_
  refine x_iastN c_Md_init_207 (by first | rfl | exact hm) (by omega) (by omega) ?_
  refine x_al c_Md_init_208 rfl ?_
  refine x_get c_Md_init_209 (by first | rfl | exact hm) rfl ?_
  refine x_ci c_Md_init_212 ?_
  refine x_ci c_Md_init_213 ?_
  refine x_iastN c_Md_init_215 (by first | rfl | exact hm) (by omega) (by omega) ?_
  refine x_al c_Md_init_216 rfl ?_
  refine x_get c_Md_init_217 (by first | rfl | exact hm) rfl ?_
  refine x_ci c_Md_init_220 ?_
  refine x_cl c_Md_init_221 ?_
  refine x_lastN c_Md_init_224 (by first | rfl | exact hm) (by omega) (by omega) ?_
  refine x_al c_Md_init_225 rfl ?_
  refine x_get c_Md_init_226 (by first | rfl | exact hm) rfl ?_
  refine x_ci c_Md_init_229 ?_
  refine x_ci c_Md_init_230 ?_
  refine x_iastN c_Md_init_231 (by first | rfl | exact hm) (by omega) (by omega) ?_
  refine x_al c_Md_init_232 rfl ?_
  refine x_get c_Md_init_233 (by first | rfl | exact hm) rfl ?_
  refine x_ci c_Md_init_236 ?_
  refine x_ci c_Md_init_237 ?_
  refine x_iastN c_Md_init_239 (by first | rfl | exact hm) (by omega) (by omega) ?_
  refine x_al c_Md_init_240 rfl ?_
  refine x_get c_Md_init_241 (by first | rfl | exact hm) rfl ?_
  refine x_ci c_Md_init_244 ?_
  refine x_cl c_Md_init_245 ?_
  refine x_lastN c_Md_init_248 (by first | rfl | exact hm) (by omega) (by omega) ?_
  refine x_al c_Md_init_249 rfl ?_
  refine x_get c_Md_init_250 (by first | rfl | exact hm) rfl ?_
  refine x_ci c_Md_init_253 ?_
  refine x_ci c_Md_init_254 ?_
  refine x_iastN c_Md_init_256 (by first | rfl | exact hm) (by omega) (by omega) ?_
  refine x_al c_Md_init_257 rfl ?_
  refine x_get c_Md_init_258 (by first | rfl | exact hm) rfl ?_
  refine x_ci c_Md_init_261 ?_
  refine x_cl c_Md_init_262 ?_
  refine x_lastN c_Md_init_265 (by first | rfl | exact hm) (by omega) (by omega) ?_
  refine x_ret c_Md_init_266 ?_
  refine ⟨rfl, rfl, ⟨_, _, _, _, _, _, ⟨rfl, rfl, rfl, rfl, rfl, rfl, rfl, rfl⟩, ?_⟩, ⟨⟨_, rfl⟩, ⟨_, rfl⟩, ⟨_, rfl⟩, ⟨_, rfl⟩, ⟨_, rfl⟩, ⟨_, rfl⟩, ⟨_, rfl⟩, ⟨_, rfl⟩, ⟨_, rfl⟩, ⟨_, rfl⟩, ⟨_, rfl⟩, ⟨_, rfl⟩, ⟨_, rfl⟩, ⟨_, rfl⟩, ⟨_, rfl⟩, ⟨_, rfl⟩⟩, fun q hq => ?_⟩
  · intro e he
    have he0 : e = 0 := by omega
    subst he0
    refine ⟨rfl, fun k hk => ?_, rfl, fun k hk => ?_⟩
    · have hk0 : k = 0 := by simp at hk; omega
      subst hk0; rfl
    · have hk0 : k = 0 ∨ k = 1 := by simp at hk; omega
      rcases hk0 with rfl | rfl <;> rfl
  · repeat (first | refine (kc_gf (by omega)).trans ?_ | refine kc_nn (by omega) ?_)
    rfl
