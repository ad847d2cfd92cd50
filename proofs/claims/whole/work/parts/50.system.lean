/-! the system: every method -/
def kC_l : List (Nat → kc_A) := [ct_Dk_init, ct_Dk_connect, ct_Dk_type, ct_Dk_handle, ct_Dk_answered, ct_Dk_answer, ct_Dk_entries, ct_Dk_entry, ct_Dk_pairType, ct_Dk_pairValue, ct_Dk_signed, ct_Dk_open, ct_Dk_isPair, ct_Dk_signOn, ct_Dk_passwordCode, ct_Dk_add, ct_Dk_delete, ct_Dk_modify, ct_Dk_changingCode, ct_Dk_search, ct_Dk_answerFound, ct_Dk_answerEntry, ct_Dk_answerAttribute, ct_Dk_conclude, ct_Rd_init, ct_Rd_clear, ct_Rd_take, ct_Rd_readFrame, ct_Rd_enter, ct_Rd_leave, ct_Rd_hasMore, ct_Rd_isReadWell, ct_Rd_nextTag, ct_Rd_number, ct_Rd_choice, ct_Rd_flag, ct_Rd_single, ct_Rd_span, ct_Rd_spanRest, ct_Rd_spanType, ct_Rd_spanValue, ct_Rd_valueBetween, ct_Rd_partEnd, ct_Rd_typeOf, ct_Rd_isInValues, ct_Wr_init, ct_Wr_clear, ct_Wr_put, ct_Wr_begin, ct_Wr_finish, ct_Wr_number, ct_Wr_letter, ct_Wr_value, ct_Wr_name, ct_Wr_putValue, ct_Tr_init, ct_Tr_find, ct_Tr_findNearestAbove, ct_Tr_hasChildOf, ct_Tr_append, ct_Tr_removeAt, ct_En_init, ct_Nm_init, ct_Nm_readFrom, ct_Nm_readPart, ct_Nm_append, ct_Nm_copyFrom, ct_Nm_levelsUnder, ct_Pa_init, ct_Pa_find, ct_Pa_hasBetween, ct_Pa_hasOwnPartOf, ct_Pa_append, ct_Pa_remove, ct_Pa_removeBetween, ct_Pa_copyFrom, ct_Ch_init, ct_Ch_readFrom, ct_Ch_readAttribute, ct_Ch_applyTo, ct_Ch_applyOne, ct_Qu_init, ct_Qu_readFrom, ct_Qu_readWantedTypes, ct_Qu_wants, ct_Qu_isWithinLimit, ct_Qu_isInScope, ct_Fi_init, ct_Fi_readFrom, ct_Fi_areTrueFor, ct_Fi_readOne, ct_Fi_readInner, ct_Fi_readPair, ct_Fi_judge, ct_Fi_judgeInner, ct_Fi_judgePair, ct_Md_init, ct_Md_connect, ct_Md_type, ct_Md_element, ct_Md_tagged, ct_Md_numbered, ct_Md_number, ct_Md_chosen, ct_Md_isLetter, ct_Md_typeIn, ct_Md_valueIn, ct_Md_takeName, ct_Md_isNamed, ct_Md_find, ct_Md_isUnder, ct_Md_readSign, ct_Md_readValues, ct_Md_readAttribute, ct_Md_readPairs, ct_Md_readLeaf, ct_Md_isLeaf, ct_Md_inside, ct_Md_closeAt, ct_Md_readFilter, ct_Md_readWanted, ct_Md_readSearch, ct_Md_readOperation, ct_Md_workAt, ct_Md_work, ct_Md_unwork, ct_Md_clearType, ct_Md_settle, ct_Md_workIn, ct_Md_sign, ct_Md_add, ct_Md_remove, ct_Md_modify, ct_Md_judgeLeaf, ct_Md_having, ct_Md_judge, ct_Md_matches, ct_Md_inScope, ct_Md_search, ct_Md_say, ct_Md_begin, ct_Md_close, ct_Md_sayId, ct_Md_sayValue, ct_Md_sayPart, ct_Md_sayAttribute, ct_Md_show, ct_Md_conclude, ct_Md_isMessage, ct_Md_perform, ct_Md_handle, ct_Md_answered, ct_Md_answer, ct_Md_entries, ct_Md_entry, ct_Md_isPair, ct_Md_pairType, ct_Md_pairValue, ct_Md_signed, ct_Md_open]
def kC_nth : List (Nat → kc_A) → Nat → Nat → kc_A
  | [], _ => fun _ => ka_no
  | a :: _, 0 => a
  | _ :: t, n + 1 => kC_nth t n
def kC : Nat → Nat → kc_A := fun j => kC_nth kC_l j
theorem kC_ge : ∀ (l : List (Nat → kc_A)) (n : Nat), l.length ≤ n → kC_nth l n = fun _ => ka_no
  | [], _, _ => rfl
  | _ :: _, 0, h => absurd h (by simp)
  | _ :: t, n + 1, h => kC_ge t n (by simp at h; omega)
theorem kt_ge : ∀ (l : List (MethodName × ByteArray × Nat × Option FieldType × Nat × Nat)) (n : Nat), l.length ≤ n → kt_nth l n = (⟨"DirectoryDesk", "<init>", "()V"⟩, prog_1_method_1_code, 1, none, 0, 0)
  | [], _, _ => rfl
  | _ :: _, 0, h => absurd h (by simp)
  | _ :: t, n + 1, h => kt_ge t n (by simp at h; omega)
def kS_P (j : Nat) : Prop := plainName (kt j).1.cls = true ∧ ∀ pc : Nat, kc_Sim kt kw_A kw_N kt_cl kt_En (kt j).1.cls (kt j).2.1 (kt j).2.2.1 (kt j).2.2.2.1 (kt j).1.name none pc (kC j pc)
set_option maxRecDepth 100000 in
set_option maxHeartbeats 4000000 in
theorem kS_40 : ∀ j, j < 40 → kS_P j :=
  kc_case (P := kS_P) (n := 39) ⟨by decide +kernel, s_Rd_spanType⟩ (
  kc_case (P := kS_P) (n := 38) ⟨by decide +kernel, s_Rd_spanRest⟩ (
  kc_case (P := kS_P) (n := 37) ⟨by decide +kernel, s_Rd_span⟩ (
  kc_case (P := kS_P) (n := 36) ⟨by decide +kernel, s_Rd_single⟩ (
  kc_case (P := kS_P) (n := 35) ⟨by decide +kernel, s_Rd_flag⟩ (
  kc_case (P := kS_P) (n := 34) ⟨by decide +kernel, s_Rd_choice⟩ (
  kc_case (P := kS_P) (n := 33) ⟨by decide +kernel, s_Rd_number⟩ (
  kc_case (P := kS_P) (n := 32) ⟨by decide +kernel, s_Rd_nextTag⟩ (
  kc_case (P := kS_P) (n := 31) ⟨by decide +kernel, s_Rd_isReadWell⟩ (
  kc_case (P := kS_P) (n := 30) ⟨by decide +kernel, s_Rd_hasMore⟩ (
  kc_case (P := kS_P) (n := 29) ⟨by decide +kernel, s_Rd_leave⟩ (
  kc_case (P := kS_P) (n := 28) ⟨by decide +kernel, s_Rd_enter⟩ (
  kc_case (P := kS_P) (n := 27) ⟨by decide +kernel, s_Rd_readFrame⟩ (
  kc_case (P := kS_P) (n := 26) ⟨by decide +kernel, s_Rd_take⟩ (
  kc_case (P := kS_P) (n := 25) ⟨by decide +kernel, s_Rd_clear⟩ (
  kc_case (P := kS_P) (n := 24) ⟨by decide +kernel, s_Rd_init⟩ (
  kc_case (P := kS_P) (n := 23) ⟨by decide +kernel, s_Dk_conclude⟩ (
  kc_case (P := kS_P) (n := 22) ⟨by decide +kernel, s_Dk_answerAttribute⟩ (
  kc_case (P := kS_P) (n := 21) ⟨by decide +kernel, s_Dk_answerEntry⟩ (
  kc_case (P := kS_P) (n := 20) ⟨by decide +kernel, s_Dk_answerFound⟩ (
  kc_case (P := kS_P) (n := 19) ⟨by decide +kernel, s_Dk_search⟩ (
  kc_case (P := kS_P) (n := 18) ⟨by decide +kernel, s_Dk_changingCode⟩ (
  kc_case (P := kS_P) (n := 17) ⟨by decide +kernel, s_Dk_modify⟩ (
  kc_case (P := kS_P) (n := 16) ⟨by decide +kernel, s_Dk_delete⟩ (
  kc_case (P := kS_P) (n := 15) ⟨by decide +kernel, s_Dk_add⟩ (
  kc_case (P := kS_P) (n := 14) ⟨by decide +kernel, s_Dk_passwordCode⟩ (
  kc_case (P := kS_P) (n := 13) ⟨by decide +kernel, s_Dk_signOn⟩ (
  kc_case (P := kS_P) (n := 12) ⟨by decide +kernel, s_Dk_isPair⟩ (
  kc_case (P := kS_P) (n := 11) ⟨by decide +kernel, s_Dk_open⟩ (
  kc_case (P := kS_P) (n := 10) ⟨by decide +kernel, s_Dk_signed⟩ (
  kc_case (P := kS_P) (n := 9) ⟨by decide +kernel, s_Dk_pairValue⟩ (
  kc_case (P := kS_P) (n := 8) ⟨by decide +kernel, s_Dk_pairType⟩ (
  kc_case (P := kS_P) (n := 7) ⟨by decide +kernel, s_Dk_entry⟩ (
  kc_case (P := kS_P) (n := 6) ⟨by decide +kernel, s_Dk_entries⟩ (
  kc_case (P := kS_P) (n := 5) ⟨by decide +kernel, s_Dk_answer⟩ (
  kc_case (P := kS_P) (n := 4) ⟨by decide +kernel, s_Dk_answered⟩ (
  kc_case (P := kS_P) (n := 3) ⟨by decide +kernel, s_Dk_handle⟩ (
  kc_case (P := kS_P) (n := 2) ⟨by decide +kernel, s_Dk_type⟩ (
  kc_case (P := kS_P) (n := 1) ⟨by decide +kernel, s_Dk_connect⟩ (
  kc_case (P := kS_P) (n := 0) ⟨by decide +kernel, s_Dk_init⟩ (
  kc_case0))))))))))))))))))))))))))))))))))))))))
set_option maxRecDepth 100000 in
set_option maxHeartbeats 4000000 in
theorem kS_80 : ∀ j, j < 80 → kS_P j :=
  kc_case (P := kS_P) (n := 79) ⟨by decide +kernel, s_Ch_applyTo⟩ (
  kc_case (P := kS_P) (n := 78) ⟨by decide +kernel, s_Ch_readAttribute⟩ (
  kc_case (P := kS_P) (n := 77) ⟨by decide +kernel, s_Ch_readFrom⟩ (
  kc_case (P := kS_P) (n := 76) ⟨by decide +kernel, s_Ch_init⟩ (
  kc_case (P := kS_P) (n := 75) ⟨by decide +kernel, s_Pa_copyFrom⟩ (
  kc_case (P := kS_P) (n := 74) ⟨by decide +kernel, s_Pa_removeBetween⟩ (
  kc_case (P := kS_P) (n := 73) ⟨by decide +kernel, s_Pa_remove⟩ (
  kc_case (P := kS_P) (n := 72) ⟨by decide +kernel, s_Pa_append⟩ (
  kc_case (P := kS_P) (n := 71) ⟨by decide +kernel, s_Pa_hasOwnPartOf⟩ (
  kc_case (P := kS_P) (n := 70) ⟨by decide +kernel, s_Pa_hasBetween⟩ (
  kc_case (P := kS_P) (n := 69) ⟨by decide +kernel, s_Pa_find⟩ (
  kc_case (P := kS_P) (n := 68) ⟨by decide +kernel, s_Pa_init⟩ (
  kc_case (P := kS_P) (n := 67) ⟨by decide +kernel, s_Nm_levelsUnder⟩ (
  kc_case (P := kS_P) (n := 66) ⟨by decide +kernel, s_Nm_copyFrom⟩ (
  kc_case (P := kS_P) (n := 65) ⟨by decide +kernel, s_Nm_append⟩ (
  kc_case (P := kS_P) (n := 64) ⟨by decide +kernel, s_Nm_readPart⟩ (
  kc_case (P := kS_P) (n := 63) ⟨by decide +kernel, s_Nm_readFrom⟩ (
  kc_case (P := kS_P) (n := 62) ⟨by decide +kernel, s_Nm_init⟩ (
  kc_case (P := kS_P) (n := 61) ⟨by decide +kernel, s_En_init⟩ (
  kc_case (P := kS_P) (n := 60) ⟨by decide +kernel, s_Tr_removeAt⟩ (
  kc_case (P := kS_P) (n := 59) ⟨by decide +kernel, s_Tr_append⟩ (
  kc_case (P := kS_P) (n := 58) ⟨by decide +kernel, s_Tr_hasChildOf⟩ (
  kc_case (P := kS_P) (n := 57) ⟨by decide +kernel, s_Tr_findNearestAbove⟩ (
  kc_case (P := kS_P) (n := 56) ⟨by decide +kernel, s_Tr_find⟩ (
  kc_case (P := kS_P) (n := 55) ⟨by decide +kernel, s_Tr_init⟩ (
  kc_case (P := kS_P) (n := 54) ⟨by decide +kernel, s_Wr_putValue⟩ (
  kc_case (P := kS_P) (n := 53) ⟨by decide +kernel, s_Wr_name⟩ (
  kc_case (P := kS_P) (n := 52) ⟨by decide +kernel, s_Wr_value⟩ (
  kc_case (P := kS_P) (n := 51) ⟨by decide +kernel, s_Wr_letter⟩ (
  kc_case (P := kS_P) (n := 50) ⟨by decide +kernel, s_Wr_number⟩ (
  kc_case (P := kS_P) (n := 49) ⟨by decide +kernel, s_Wr_finish⟩ (
  kc_case (P := kS_P) (n := 48) ⟨by decide +kernel, s_Wr_begin⟩ (
  kc_case (P := kS_P) (n := 47) ⟨by decide +kernel, s_Wr_put⟩ (
  kc_case (P := kS_P) (n := 46) ⟨by decide +kernel, s_Wr_clear⟩ (
  kc_case (P := kS_P) (n := 45) ⟨by decide +kernel, s_Wr_init⟩ (
  kc_case (P := kS_P) (n := 44) ⟨by decide +kernel, s_Rd_isInValues⟩ (
  kc_case (P := kS_P) (n := 43) ⟨by decide +kernel, s_Rd_typeOf⟩ (
  kc_case (P := kS_P) (n := 42) ⟨by decide +kernel, s_Rd_partEnd⟩ (
  kc_case (P := kS_P) (n := 41) ⟨by decide +kernel, s_Rd_valueBetween⟩ (
  kc_case (P := kS_P) (n := 40) ⟨by decide +kernel, s_Rd_spanValue⟩ (
  kS_40))))))))))))))))))))))))))))))))))))))))
set_option maxRecDepth 100000 in
set_option maxHeartbeats 4000000 in
theorem kS_120 : ∀ j, j < 120 → kS_P j :=
  kc_case (P := kS_P) (n := 119) ⟨by decide +kernel, s_Md_readFilter⟩ (
  kc_case (P := kS_P) (n := 118) ⟨by decide +kernel, s_Md_closeAt⟩ (
  kc_case (P := kS_P) (n := 117) ⟨by decide +kernel, s_Md_inside⟩ (
  kc_case (P := kS_P) (n := 116) ⟨by decide +kernel, s_Md_isLeaf⟩ (
  kc_case (P := kS_P) (n := 115) ⟨by decide +kernel, s_Md_readLeaf⟩ (
  kc_case (P := kS_P) (n := 114) ⟨by decide +kernel, s_Md_readPairs⟩ (
  kc_case (P := kS_P) (n := 113) ⟨by decide +kernel, s_Md_readAttribute⟩ (
  kc_case (P := kS_P) (n := 112) ⟨by decide +kernel, s_Md_readValues⟩ (
  kc_case (P := kS_P) (n := 111) ⟨by decide +kernel, s_Md_readSign⟩ (
  kc_case (P := kS_P) (n := 110) ⟨by decide +kernel, s_Md_isUnder⟩ (
  kc_case (P := kS_P) (n := 109) ⟨by decide +kernel, s_Md_find⟩ (
  kc_case (P := kS_P) (n := 108) ⟨by decide +kernel, s_Md_isNamed⟩ (
  kc_case (P := kS_P) (n := 107) ⟨by decide +kernel, s_Md_takeName⟩ (
  kc_case (P := kS_P) (n := 106) ⟨by decide +kernel, s_Md_valueIn⟩ (
  kc_case (P := kS_P) (n := 105) ⟨by decide +kernel, s_Md_typeIn⟩ (
  kc_case (P := kS_P) (n := 104) ⟨by decide +kernel, s_Md_isLetter⟩ (
  kc_case (P := kS_P) (n := 103) ⟨by decide +kernel, s_Md_chosen⟩ (
  kc_case (P := kS_P) (n := 102) ⟨by decide +kernel, s_Md_number⟩ (
  kc_case (P := kS_P) (n := 101) ⟨by decide +kernel, s_Md_numbered⟩ (
  kc_case (P := kS_P) (n := 100) ⟨by decide +kernel, s_Md_tagged⟩ (
  kc_case (P := kS_P) (n := 99) ⟨by decide +kernel, s_Md_element⟩ (
  kc_case (P := kS_P) (n := 98) ⟨by decide +kernel, s_Md_type⟩ (
  kc_case (P := kS_P) (n := 97) ⟨by decide +kernel, s_Md_connect⟩ (
  kc_case (P := kS_P) (n := 96) ⟨by decide +kernel, s_Md_init⟩ (
  kc_case (P := kS_P) (n := 95) ⟨by decide +kernel, s_Fi_judgePair⟩ (
  kc_case (P := kS_P) (n := 94) ⟨by decide +kernel, s_Fi_judgeInner⟩ (
  kc_case (P := kS_P) (n := 93) ⟨by decide +kernel, s_Fi_judge⟩ (
  kc_case (P := kS_P) (n := 92) ⟨by decide +kernel, s_Fi_readPair⟩ (
  kc_case (P := kS_P) (n := 91) ⟨by decide +kernel, s_Fi_readInner⟩ (
  kc_case (P := kS_P) (n := 90) ⟨by decide +kernel, s_Fi_readOne⟩ (
  kc_case (P := kS_P) (n := 89) ⟨by decide +kernel, s_Fi_areTrueFor⟩ (
  kc_case (P := kS_P) (n := 88) ⟨by decide +kernel, s_Fi_readFrom⟩ (
  kc_case (P := kS_P) (n := 87) ⟨by decide +kernel, s_Fi_init⟩ (
  kc_case (P := kS_P) (n := 86) ⟨by decide +kernel, s_Qu_isInScope⟩ (
  kc_case (P := kS_P) (n := 85) ⟨by decide +kernel, s_Qu_isWithinLimit⟩ (
  kc_case (P := kS_P) (n := 84) ⟨by decide +kernel, s_Qu_wants⟩ (
  kc_case (P := kS_P) (n := 83) ⟨by decide +kernel, s_Qu_readWantedTypes⟩ (
  kc_case (P := kS_P) (n := 82) ⟨by decide +kernel, s_Qu_readFrom⟩ (
  kc_case (P := kS_P) (n := 81) ⟨by decide +kernel, s_Qu_init⟩ (
  kc_case (P := kS_P) (n := 80) ⟨by decide +kernel, s_Ch_applyOne⟩ (
  kS_80))))))))))))))))))))))))))))))))))))))))
set_option maxRecDepth 100000 in
set_option maxHeartbeats 4000000 in
theorem kS_160 : ∀ j, j < 160 → kS_P j :=
  kc_case (P := kS_P) (n := 159) ⟨by decide +kernel, s_Md_open⟩ (
  kc_case (P := kS_P) (n := 158) ⟨by decide +kernel, s_Md_signed⟩ (
  kc_case (P := kS_P) (n := 157) ⟨by decide +kernel, s_Md_pairValue⟩ (
  kc_case (P := kS_P) (n := 156) ⟨by decide +kernel, s_Md_pairType⟩ (
  kc_case (P := kS_P) (n := 155) ⟨by decide +kernel, s_Md_isPair⟩ (
  kc_case (P := kS_P) (n := 154) ⟨by decide +kernel, s_Md_entry⟩ (
  kc_case (P := kS_P) (n := 153) ⟨by decide +kernel, s_Md_entries⟩ (
  kc_case (P := kS_P) (n := 152) ⟨by decide +kernel, s_Md_answer⟩ (
  kc_case (P := kS_P) (n := 151) ⟨by decide +kernel, s_Md_answered⟩ (
  kc_case (P := kS_P) (n := 150) ⟨by decide +kernel, s_Md_handle⟩ (
  kc_case (P := kS_P) (n := 149) ⟨by decide +kernel, s_Md_perform⟩ (
  kc_case (P := kS_P) (n := 148) ⟨by decide +kernel, s_Md_isMessage⟩ (
  kc_case (P := kS_P) (n := 147) ⟨by decide +kernel, s_Md_conclude⟩ (
  kc_case (P := kS_P) (n := 146) ⟨by decide +kernel, s_Md_show⟩ (
  kc_case (P := kS_P) (n := 145) ⟨by decide +kernel, s_Md_sayAttribute⟩ (
  kc_case (P := kS_P) (n := 144) ⟨by decide +kernel, s_Md_sayPart⟩ (
  kc_case (P := kS_P) (n := 143) ⟨by decide +kernel, s_Md_sayValue⟩ (
  kc_case (P := kS_P) (n := 142) ⟨by decide +kernel, s_Md_sayId⟩ (
  kc_case (P := kS_P) (n := 141) ⟨by decide +kernel, s_Md_close⟩ (
  kc_case (P := kS_P) (n := 140) ⟨by decide +kernel, s_Md_begin⟩ (
  kc_case (P := kS_P) (n := 139) ⟨by decide +kernel, s_Md_say⟩ (
  kc_case (P := kS_P) (n := 138) ⟨by decide +kernel, s_Md_search⟩ (
  kc_case (P := kS_P) (n := 137) ⟨by decide +kernel, s_Md_inScope⟩ (
  kc_case (P := kS_P) (n := 136) ⟨by decide +kernel, s_Md_matches⟩ (
  kc_case (P := kS_P) (n := 135) ⟨by decide +kernel, s_Md_judge⟩ (
  kc_case (P := kS_P) (n := 134) ⟨by decide +kernel, s_Md_having⟩ (
  kc_case (P := kS_P) (n := 133) ⟨by decide +kernel, s_Md_judgeLeaf⟩ (
  kc_case (P := kS_P) (n := 132) ⟨by decide +kernel, s_Md_modify⟩ (
  kc_case (P := kS_P) (n := 131) ⟨by decide +kernel, s_Md_remove⟩ (
  kc_case (P := kS_P) (n := 130) ⟨by decide +kernel, s_Md_add⟩ (
  kc_case (P := kS_P) (n := 129) ⟨by decide +kernel, s_Md_sign⟩ (
  kc_case (P := kS_P) (n := 128) ⟨by decide +kernel, s_Md_workIn⟩ (
  kc_case (P := kS_P) (n := 127) ⟨by decide +kernel, s_Md_settle⟩ (
  kc_case (P := kS_P) (n := 126) ⟨by decide +kernel, s_Md_clearType⟩ (
  kc_case (P := kS_P) (n := 125) ⟨by decide +kernel, s_Md_unwork⟩ (
  kc_case (P := kS_P) (n := 124) ⟨by decide +kernel, s_Md_work⟩ (
  kc_case (P := kS_P) (n := 123) ⟨by decide +kernel, s_Md_workAt⟩ (
  kc_case (P := kS_P) (n := 122) ⟨by decide +kernel, s_Md_readOperation⟩ (
  kc_case (P := kS_P) (n := 121) ⟨by decide +kernel, s_Md_readSearch⟩ (
  kc_case (P := kS_P) (n := 120) ⟨by decide +kernel, s_Md_readWanted⟩ (
  kS_120))))))))))))))))))))))))))))))))))))))))
theorem kS : kc_sys kt kC kw_A kw_N kt_cl kt_En := fun j => (Nat.lt_or_ge j 160).elim (kS_160 j) (fun h => by
    have h1 : kC j = fun _ => ka_no := kC_ge kC_l j (Nat.le_trans (Nat.le_of_eq (by rfl)) h)
    have h2 : kt j = (⟨"DirectoryDesk", "<init>", "()V"⟩, prog_1_method_1_code, 1, none, 0, 0) := kt_ge kt_l j (Nat.le_trans (Nat.le_of_eq (by rfl)) h)
    rw [h1, h2]
    exact ⟨by decide +kernel, fun pc => sm_no⟩)
