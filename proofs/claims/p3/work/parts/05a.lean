/-! THE WORDS: the tables' words that go with a method, and where each stands -/
def lwG : List Cond := lw_tbl.filter goodWord
theorem lwG_all : lwG.all goodWord = true := List.all_eq_true.mpr fun _ h => (List.mem_filter.mp h).2
theorem lwG_in : ∀ w ∈ lwG, w ∈ lw_tbl := fun _ h => (List.mem_filter.mp h).1
theorem lwG_self : ∀ w ∈ lwG, w ∈ lwG ∧ ((w.onTables && w.keeps) = true ∨ ∃ ty, w = .arrayClass ty) := fun _ h => ⟨h, good_of_word (List.mem_filter.mp h).2⟩
theorem lwG_of {w : Cond} (h : w ∈ lw_tbl) (hg : goodWord w = true) : w ∈ lwG := List.mem_filter.mpr ⟨h, hg⟩
theorem lwG_met {y : MethodName} {cc : ByteArray} {n : Nat} {r : Option FieldType} (h : Cond.code y cc n r ∈ lwG) : GoodIn lwG (Cond.code y cc n r :: lwG) := fun w hw => (List.mem_cons.mp hw).elim (fun e => e ▸ lwG_self _ h) (lwG_self w)
theorem tG1 {w : Cond} (h : w ∈ tables_1_1) : w ∈ lw_tbl := List.mem_append_right _ (show w ∈ tables_1 from List.mem_append_left _ h)
theorem tG2 {w : Cond} (h : w ∈ tables_1_2) : w ∈ lw_tbl := List.mem_append_right _ (show w ∈ tables_1 from List.mem_append_right _ (List.mem_append_left _ h))
theorem tG3 {w : Cond} (h : w ∈ tables_1_3) : w ∈ lw_tbl := List.mem_append_right _ (show w ∈ tables_1 from List.mem_append_right _ (List.mem_append_right _ (List.mem_append_left _ h)))
theorem tG4 {w : Cond} (h : w ∈ tables_1_4) : w ∈ lw_tbl := List.mem_append_right _ (show w ∈ tables_1 from List.mem_append_right _ (List.mem_append_right _ (List.mem_append_right _ (List.mem_append_left _ h))))
theorem tG5 {w : Cond} (h : w ∈ tables_1_5) : w ∈ lw_tbl := List.mem_append_right _ (show w ∈ tables_1 from List.mem_append_right _ (List.mem_append_right _ (List.mem_append_right _ (List.mem_append_right _ (List.mem_append_left _ h)))))
theorem tG6 {w : Cond} (h : w ∈ tables_1_6) : w ∈ lw_tbl := List.mem_append_right _ (show w ∈ tables_1 from List.mem_append_right _ (List.mem_append_right _ (List.mem_append_right _ (List.mem_append_right _ (List.mem_append_right _ (List.mem_append_left _ h))))))
theorem tG7 {w : Cond} (h : w ∈ tables_1_7) : w ∈ lw_tbl := List.mem_append_right _ (show w ∈ tables_1 from List.mem_append_right _ (List.mem_append_right _ (List.mem_append_right _ (List.mem_append_right _ (List.mem_append_right _ (List.mem_append_right _ (List.mem_append_left _ h)))))))
theorem tG8 {w : Cond} (h : w ∈ tables_1_8) : w ∈ lw_tbl := List.mem_append_right _ (show w ∈ tables_1 from List.mem_append_right _ (List.mem_append_right _ (List.mem_append_right _ (List.mem_append_right _ (List.mem_append_right _ (List.mem_append_right _ (List.mem_append_right _ (h))))))))
theorem in_RL : Cond.initialized RL ∈ lwG := lwG_of (tG1 (List.mem_of_getElem? (i := 0) (by decide +kernel))) rfl
theorem in_RX11 : Cond.initialized RX11 ∈ lwG := lwG_of (tG1 (List.mem_of_getElem? (i := 1) (by decide +kernel))) rfl
theorem in_RX9 : Cond.initialized RX9 ∈ lwG := lwG_of (tG1 (List.mem_of_getElem? (i := 2) (by decide +kernel))) rfl
theorem in_RX0 : Cond.initialized RX0 ∈ lwG := lwG_of (tG1 (List.mem_of_getElem? (i := 3) (by decide +kernel))) rfl
theorem in_RX8 : Cond.initialized RX8 ∈ lwG := lwG_of (tG1 (List.mem_of_getElem? (i := 4) (by decide +kernel))) rfl
theorem in_RJ0 : Cond.initialized RJ0 ∈ lwG := lwG_of (tG1 (List.mem_of_getElem? (i := 5) (by decide +kernel))) rfl
theorem in_RJ1 : Cond.initialized RJ1 ∈ lwG := lwG_of (tG1 (List.mem_of_getElem? (i := 6) (by decide +kernel))) rfl
theorem in_RJ3 : Cond.initialized RJ3 ∈ lwG := lwG_of (tG1 (List.mem_of_getElem? (i := 7) (by decide +kernel))) rfl
theorem in_RJ2 : Cond.initialized RJ2 ∈ lwG := lwG_of (tG1 (List.mem_of_getElem? (i := 8) (by decide +kernel))) rfl
theorem in_RX2 : Cond.initialized RX2 ∈ lwG := lwG_of (tG1 (List.mem_of_getElem? (i := 9) (by decide +kernel))) rfl
theorem in_RX10 : Cond.initialized RX10 ∈ lwG := lwG_of (tG1 (List.mem_of_getElem? (i := 10) (by decide +kernel))) rfl
theorem in_RX7 : Cond.initialized RX7 ∈ lwG := lwG_of (tG1 (List.mem_of_getElem? (i := 11) (by decide +kernel))) rfl
theorem in_RX5 : Cond.initialized RX5 ∈ lwG := lwG_of (tG1 (List.mem_of_getElem? (i := 12) (by decide +kernel))) rfl
theorem in_RX1 : Cond.initialized RX1 ∈ lwG := lwG_of (tG1 (List.mem_of_getElem? (i := 13) (by decide +kernel))) rfl
theorem in_RX4 : Cond.initialized RX4 ∈ lwG := lwG_of (tG1 (List.mem_of_getElem? (i := 14) (by decide +kernel))) rfl
theorem in_RX3 : Cond.initialized RX3 ∈ lwG := lwG_of (tG1 (List.mem_of_getElem? (i := 15) (by decide +kernel))) rfl
theorem in_RX6 : Cond.initialized RX6 ∈ lwG := lwG_of (tG1 (List.mem_of_getElem? (i := 16) (by decide +kernel))) rfl
theorem in_RX12 : Cond.initialized RX12 ∈ lwG := lwG_of (tG1 (List.mem_of_getElem? (i := 17) (by decide +kernel))) rfl
theorem in_RJ9 : Cond.initialized RJ9 ∈ lwG := lwG_of (tG1 (List.mem_of_getElem? (i := 18) (by decide +kernel))) rfl
theorem in_RJ11 : Cond.initialized RJ11 ∈ lwG := lwG_of (tG1 (List.mem_of_getElem? (i := 19) (by decide +kernel))) rfl
theorem in_RJ6 : Cond.initialized RJ6 ∈ lwG := lwG_of (tG1 (List.mem_of_getElem? (i := 20) (by decide +kernel))) rfl
theorem kl_RL_7 : Cond.classLink RL 7 RX11 ∈ lwG := lwG_of (tG1 (List.mem_of_getElem? (i := 21) (by decide +kernel))) rfl
theorem ib_RX11 : Cond.instantiable RX11 16 ∈ lwG := lwG_of (tG1 (List.mem_of_getElem? (i := 22) (by decide +kernel))) rfl
theorem ml_RL_9 : Cond.methodLink RL 9 yX11_init ∈ lwG := lwG_of (tG1 (List.mem_of_getElem? (i := 23) (by decide +kernel))) rfl
theorem im_yX11_init : Cond.instanceMethod yX11_init ∈ lwG := lwG_of (tG1 (List.mem_of_getElem? (i := 24) (by decide +kernel))) rfl
theorem co_yX11_init : Cond.code yX11_init cX11_init 2 none ∈ lwG := lwG_of (tG1 (List.mem_of_getElem? (i := 25) rfl)) rfl
theorem ml_RX11_1 : Cond.methodLink RX11 1 objectInit ∈ lwG := lwG_of (tG1 (List.mem_of_getElem? (i := 26) (by decide +kernel))) rfl
theorem im_objectInit : Cond.instanceMethod objectInit ∈ lwG := lwG_of (tG1 (List.mem_of_getElem? (i := 27) (by decide +kernel))) rfl
theorem co_objectInit : Cond.code objectInit ⟨#[0xb1]⟩ 1 none ∈ lwG := lwG_of (tG1 (List.mem_of_getElem? (i := 28) rfl)) rfl
theorem kl_RX11_7 : Cond.classLink RX11 7 RX9 ∈ lwG := lwG_of (tG1 (List.mem_of_getElem? (i := 29) (by decide +kernel))) rfl
theorem ib_RX9 : Cond.instantiable RX9 5 ∈ lwG := lwG_of (tG1 (List.mem_of_getElem? (i := 30) (by decide +kernel))) rfl
theorem im_yX9_init : Cond.instanceMethod yX9_init ∈ lwG := lwG_of (tG1 (List.mem_of_getElem? (i := 32) (by decide +kernel))) rfl
theorem co_yX9_init : Cond.code yX9_init cX9_init 1 none ∈ lwG := lwG_of (tG1 (List.mem_of_getElem? (i := 33) rfl)) rfl
theorem ml_RX9_3 : Cond.methodLink RX9 3 objectInit ∈ lwG := lwG_of (tG1 (List.mem_of_getElem? (i := 34) (by decide +kernel))) rfl
theorem kl_RX9_9 : Cond.classLink RX9 9 RX0 ∈ lwG := lwG_of (tG1 (List.mem_of_getElem? (i := 35) (by decide +kernel))) rfl
theorem ib_RX0 : Cond.instantiable RX0 8 ∈ lwG := lwG_of (tG1 (List.mem_of_getElem? (i := 36) (by decide +kernel))) rfl
theorem im_yX0_init : Cond.instanceMethod yX0_init ∈ lwG := lwG_of (tG1 (List.mem_of_getElem? (i := 38) (by decide +kernel))) rfl
theorem co_yX0_init : Cond.code yX0_init cX0_init 1 none ∈ lwG := lwG_of (tG1 (List.mem_of_getElem? (i := 39) rfl)) rfl
theorem ml_RX0_3 : Cond.methodLink RX0 3 objectInit ∈ lwG := lwG_of (tG1 (List.mem_of_getElem? (i := 40) (by decide +kernel))) rfl
theorem kl_RX0_9 : Cond.classLink RX0 9 RX8 ∈ lwG := lwG_of (tG1 (List.mem_of_getElem? (i := 41) (by decide +kernel))) rfl
theorem ib_RX8 : Cond.instantiable RX8 7 ∈ lwG := lwG_of (tG1 (List.mem_of_getElem? (i := 42) (by decide +kernel))) rfl
theorem ml_RX0_11 : Cond.methodLink RX0 11 yX8_init ∈ lwG := lwG_of (tG1 (List.mem_of_getElem? (i := 43) (by decide +kernel))) rfl
theorem im_yX8_init : Cond.instanceMethod yX8_init ∈ lwG := lwG_of (tG1 (List.mem_of_getElem? (i := 44) (by decide +kernel))) rfl
theorem co_yX8_init : Cond.code yX8_init cX8_init 4 none ∈ lwG := lwG_of (tG1 (List.mem_of_getElem? (i := 45) rfl)) rfl
theorem ml_RX8_3 : Cond.methodLink RX8 3 objectInit ∈ lwG := lwG_of (tG1 (List.mem_of_getElem? (i := 46) (by decide +kernel))) rfl
theorem ml_RX8_30 : Cond.methodLink RX8 30 yJ0_length_8abf5 ∈ lwG := lwG_of (tG1 (List.mem_of_getElem? (i := 48) (by decide +kernel))) rfl
theorem im_yJ0_length_8abf5 : Cond.instanceMethod yJ0_length_8abf5 ∈ lwG := lwG_of (tG1 (List.mem_of_getElem? (i := 49) (by decide +kernel))) rfl
theorem se_yJ0_length_8abf5 : Cond.selects RJ0 yJ0_length_8abf5 yJ0_length_8abf5 ∈ lwG := lwG_of (tG1 (List.mem_of_getElem? (i := 50) (by decide +kernel))) rfl
theorem co_yJ0_length_8abf5 : Cond.code yJ0_length_8abf5 cJ0_length_8abf5 1 (some .int) ∈ lwG := lwG_of (tG1 (List.mem_of_getElem? (i := 51) rfl)) rfl
theorem ml_RJ0_335 : Cond.methodLink RJ0 335 yJ0_coder_7d493 ∈ lwG := lwG_of (tG1 (List.mem_of_getElem? (i := 52) (by decide +kernel))) rfl
theorem im_yJ0_coder_7d493 : Cond.instanceMethod yJ0_coder_7d493 ∈ lwG := lwG_of (tG1 (List.mem_of_getElem? (i := 53) (by decide +kernel))) rfl
theorem se_yJ0_coder_7d493 : Cond.selects RJ0 yJ0_coder_7d493 yJ0_coder_7d493 ∈ lwG := lwG_of (tG1 (List.mem_of_getElem? (i := 54) (by decide +kernel))) rfl
theorem co_yJ0_coder_7d493 : Cond.code yJ0_coder_7d493 cJ0_coder_7d493 1 (some .byte) ∈ lwG := lwG_of (tG1 (List.mem_of_getElem? (i := 55) rfl)) rfl
theorem fl_RJ0_38 : Cond.fieldLink RJ0 38 RJ0 "COMPACT_STRINGS" "Z" ∈ lwG := lwG_of (tG1 (List.mem_of_getElem? (i := 56) (by decide +kernel))) rfl
theorem ml_RX8_36 : Cond.methodLink RX8 36 yJ0_charAt_5068e ∈ lwG := lwG_of (tG1 (List.mem_of_getElem? (i := 58) (by decide +kernel))) rfl
theorem im_yJ0_charAt_5068e : Cond.instanceMethod yJ0_charAt_5068e ∈ lwG := lwG_of (tG1 (List.mem_of_getElem? (i := 59) (by decide +kernel))) rfl
theorem se_yJ0_charAt_5068e : Cond.selects RJ0 yJ0_charAt_5068e yJ0_charAt_5068e ∈ lwG := lwG_of (tG1 (List.mem_of_getElem? (i := 60) (by decide +kernel))) rfl
theorem co_yJ0_charAt_5068e : Cond.code yJ0_charAt_5068e cJ0_charAt_5068e 2 (some .char) ∈ lwG := lwG_of (tG1 (List.mem_of_getElem? (i := 61) rfl)) rfl
theorem ml_RJ0_492 : Cond.methodLink RJ0 492 yJ0_isLatin1_aae02 ∈ lwG := lwG_of (tG1 (List.mem_of_getElem? (i := 62) (by decide +kernel))) rfl
theorem im_yJ0_isLatin1_aae02 : Cond.instanceMethod yJ0_isLatin1_aae02 ∈ lwG := lwG_of (tG1 (List.mem_of_getElem? (i := 63) (by decide +kernel))) rfl
theorem se_yJ0_isLatin1_aae02 : Cond.selects RJ0 yJ0_isLatin1_aae02 yJ0_isLatin1_aae02 ∈ lwG := lwG_of (tG1 (List.mem_of_getElem? (i := 64) (by decide +kernel))) rfl
theorem co_yJ0_isLatin1_aae02 : Cond.code yJ0_isLatin1_aae02 cJ0_isLatin1_aae02 1 (some .boolean) ∈ lwG := lwG_of (tG1 (List.mem_of_getElem? (i := 65) rfl)) rfl
theorem ml_RJ0_495 : Cond.methodLink RJ0 495 yJ1_charAt_3b067 ∈ lwG := lwG_of (tG1 (List.mem_of_getElem? (i := 66) (by decide +kernel))) rfl
theorem sm_yJ1_charAt_3b067 : Cond.static yJ1_charAt_3b067 ∈ lwG := lwG_of (tG1 (List.mem_of_getElem? (i := 67) (by decide +kernel))) rfl
theorem co_yJ1_charAt_3b067 : Cond.code yJ1_charAt_3b067 cJ1_charAt_3b067 2 (some .char) ∈ lwG := lwG_of (tG1 (List.mem_of_getElem? (i := 68) rfl)) rfl
theorem ml_RJ1_9 : Cond.methodLink RJ1 9 yJ0_checkIndex_df160 ∈ lwG := lwG_of (tG1 (List.mem_of_getElem? (i := 69) (by decide +kernel))) rfl
theorem sm_yJ0_checkIndex_df160 : Cond.static yJ0_checkIndex_df160 ∈ lwG := lwG_of (tG1 (List.mem_of_getElem? (i := 70) (by decide +kernel))) rfl
theorem co_yJ0_checkIndex_df160 : Cond.code yJ0_checkIndex_df160 cJ0_checkIndex_df160 2 none ∈ lwG := lwG_of (tG1 (List.mem_of_getElem? (i := 71) rfl)) rfl
theorem fl_RJ0_1053 : Cond.fieldLink RJ0 1053 RJ3 "SIOOBE_FORMATTER" "Ljava/util/function/BiFunction;" ∈ lwG := lwG_of (tG1 (List.mem_of_getElem? (i := 72) (by decide +kernel))) rfl
theorem ml_RJ0_1059 : Cond.methodLink RJ0 1059 yJ3_checkIndex_8e157 ∈ lwG := lwG_of (tG1 (List.mem_of_getElem? (i := 74) (by decide +kernel))) rfl
theorem sm_yJ3_checkIndex_8e157 : Cond.static yJ3_checkIndex_8e157 ∈ lwG := lwG_of (tG1 (List.mem_of_getElem? (i := 75) (by decide +kernel))) rfl
theorem co_yJ3_checkIndex_8e157 : Cond.code yJ3_checkIndex_8e157 cJ3_checkIndex_8e157 3 (some .int) ∈ lwG := lwG_of (tG1 (List.mem_of_getElem? (i := 76) rfl)) rfl
theorem ml_RJ0_498 : Cond.methodLink RJ0 498 yJ2_charAt_3b067 ∈ lwG := lwG_of (tG1 (List.mem_of_getElem? (i := 77) (by decide +kernel))) rfl
theorem sm_yJ2_charAt_3b067 : Cond.static yJ2_charAt_3b067 ∈ lwG := lwG_of (tG1 (List.mem_of_getElem? (i := 78) (by decide +kernel))) rfl
theorem co_yJ2_charAt_3b067 : Cond.code yJ2_charAt_3b067 cJ2_charAt_3b067 2 (some .char) ∈ lwG := lwG_of (tG1 (List.mem_of_getElem? (i := 79) rfl)) rfl
theorem ml_RJ2_67 : Cond.methodLink RJ2 67 yJ2_checkIndex_2214a ∈ lwG := lwG_of (tG1 (List.mem_of_getElem? (i := 80) (by decide +kernel))) rfl
theorem sm_yJ2_checkIndex_2214a : Cond.static yJ2_checkIndex_2214a ∈ lwG := lwG_of (tG1 (List.mem_of_getElem? (i := 81) (by decide +kernel))) rfl
theorem co_yJ2_checkIndex_2214a : Cond.code yJ2_checkIndex_2214a cJ2_checkIndex_2214a 2 none ∈ lwG := lwG_of (tG1 (List.mem_of_getElem? (i := 82) rfl)) rfl
theorem ml_RJ2_48 : Cond.methodLink RJ2 48 yJ2_length_9d52b ∈ lwG := lwG_of (tG1 (List.mem_of_getElem? (i := 83) (by decide +kernel))) rfl
theorem sm_yJ2_length_9d52b : Cond.static yJ2_length_9d52b ∈ lwG := lwG_of (tG1 (List.mem_of_getElem? (i := 84) (by decide +kernel))) rfl
theorem co_yJ2_length_9d52b : Cond.code yJ2_length_9d52b cJ2_length_9d52b 1 (some .int) ∈ lwG := lwG_of (tG1 (List.mem_of_getElem? (i := 85) rfl)) rfl
theorem ml_RJ2_414 : Cond.methodLink RJ2 414 yJ0_checkIndex_df160 ∈ lwG := lwG_of (tG1 (List.mem_of_getElem? (i := 86) (by decide +kernel))) rfl
theorem ml_RJ2_71 : Cond.methodLink RJ2 71 yJ2_getChar_3b067 ∈ lwG := lwG_of (tG1 (List.mem_of_getElem? (i := 87) (by decide +kernel))) rfl
theorem sm_yJ2_getChar_3b067 : Cond.static yJ2_getChar_3b067 ∈ lwG := lwG_of (tG1 (List.mem_of_getElem? (i := 88) (by decide +kernel))) rfl
theorem co_yJ2_getChar_3b067 : Cond.code yJ2_getChar_3b067 cJ2_getChar_3b067 2 (some .char) ∈ lwG := lwG_of (tG1 (List.mem_of_getElem? (i := 89) rfl)) rfl
theorem fl_RJ2_44 : Cond.fieldLink RJ2 44 RJ2 "$assertionsDisabled" "Z" ∈ lwG := lwG_of (tG1 (List.mem_of_getElem? (i := 90) (by decide +kernel))) rfl
theorem fl_RJ2_59 : Cond.fieldLink RJ2 59 RJ2 "HI_BYTE_SHIFT" "I" ∈ lwG := lwG_of (tG1 (List.mem_of_getElem? (i := 92) (by decide +kernel))) rfl
theorem fl_RJ2_63 : Cond.fieldLink RJ2 63 RJ2 "LO_BYTE_SHIFT" "I" ∈ lwG := lwG_of (tG1 (List.mem_of_getElem? (i := 94) (by decide +kernel))) rfl
theorem ml_RX8_40 : Cond.methodLink RX8 40 yX8_withLetter ∈ lwG := lwG_of (tG1 (List.mem_of_getElem? (i := 96) (by decide +kernel))) rfl
theorem sm_yX8_withLetter : Cond.static yX8_withLetter ∈ lwG := lwG_of (tG1 (List.mem_of_getElem? (i := 97) (by decide +kernel))) rfl
theorem co_yX8_withLetter : Cond.code yX8_withLetter cX8_withLetter 3 (some .long) ∈ lwG := lwG_of (tG1 (List.mem_of_getElem? (i := 98) rfl)) rfl
theorem kL_RX8_96 : Cond.constantLong RX8 96 (27) ∈ lwG := lwG_of (tG1 (List.mem_of_getElem? (i := 99) (by decide +kernel))) rfl
theorem kL_RX8_98 : Cond.constantLong RX8 98 (97) ∈ lwG := lwG_of (tG1 (List.mem_of_getElem? (i := 100) (by decide +kernel))) rfl
theorem fl_RX8_9 : Cond.fieldLink RX8 9 RX8 "bytes" "[I" ∈ lwG := lwG_of (tG1 (List.mem_of_getElem? (i := 101) (by decide +kernel))) rfl
theorem fl_RX11_88 : Cond.fieldLink RX11 88 RX8 "length" "I" ∈ lwG := lwG_of (tG1 (List.mem_of_getElem? (i := 102) (by decide +kernel))) rfl
theorem fl_RX8_44 : Cond.fieldLink RX8 44 RX8 "length" "I" ∈ lwG := lwG_of (tG1 (List.mem_of_getElem? (i := 103) (by decide +kernel))) rfl
theorem fl_RX8_15 : Cond.fieldLink RX8 15 RX8 "types" "[I" ∈ lwG := lwG_of (tG1 (List.mem_of_getElem? (i := 104) (by decide +kernel))) rfl
theorem fl_RX8_18 : Cond.fieldLink RX8 18 RX8 "values" "[J" ∈ lwG := lwG_of (tG1 (List.mem_of_getElem? (i := 105) (by decide +kernel))) rfl
theorem fl_RX8_22 : Cond.fieldLink RX8 22 RX8 "starts" "[I" ∈ lwG := lwG_of (tG1 (List.mem_of_getElem? (i := 106) (by decide +kernel))) rfl
theorem fl_RX9_51 : Cond.fieldLink RX9 51 RX8 "tokens" "I" ∈ lwG := lwG_of (tG1 (List.mem_of_getElem? (i := 107) (by decide +kernel))) rfl
theorem fl_RX8_51 : Cond.fieldLink RX8 51 RX8 "tokens" "I" ∈ lwG := lwG_of (tG1 (List.mem_of_getElem? (i := 108) (by decide +kernel))) rfl
theorem fl_RX8_25 : Cond.fieldLink RX8 25 RX8 "words" "[J" ∈ lwG := lwG_of (tG1 (List.mem_of_getElem? (i := 109) (by decide +kernel))) rfl
theorem ac_int : Cond.arrayClass .int ∈ lwG := lwG_of (tG1 (List.mem_of_getElem? (i := 125) (by decide +kernel))) rfl
theorem ac_long : Cond.arrayClass .long ∈ lwG := lwG_of (tG1 (List.mem_of_getElem? (i := 126) (by decide +kernel))) rfl
theorem ac_byte : Cond.arrayClass .byte ∈ lwG := lwG_of (tG1 (List.mem_of_getElem? (i := 127) (by decide +kernel))) rfl
theorem kl_RX0_18 : Cond.classLink RX0 18 RX2 ∈ lwG := lwG_of (tG1 (List.mem_of_getElem? (i := 128) (by decide +kernel))) rfl
theorem ib_RX2 : Cond.instantiable RX2 4 ∈ lwG := lwG_of (tG1 (List.mem_of_getElem? (i := 129) (by decide +kernel))) rfl
theorem im_yX2_init : Cond.instanceMethod yX2_init ∈ lwG := lwG_of (tG1 (List.mem_of_getElem? (i := 131) (by decide +kernel))) rfl
theorem co_yX2_init : Cond.code yX2_init cX2_init 1 none ∈ lwG := lwG_of (tG1 (List.mem_of_getElem? (i := 132) rfl)) rfl
theorem ml_RX2_3 : Cond.methodLink RX2 3 objectInit ∈ lwG := lwG_of (tG1 (List.mem_of_getElem? (i := 133) (by decide +kernel))) rfl
theorem fl_RX2_9 : Cond.fieldLink RX2 9 RX2 "does" "[I" ∈ lwG := lwG_of (tG1 (List.mem_of_getElem? (i := 134) (by decide +kernel))) rfl
theorem fl_RX2_15 : Cond.fieldLink RX2 15 RX2 "with" "[I" ∈ lwG := lwG_of (tG1 (List.mem_of_getElem? (i := 135) (by decide +kernel))) rfl
theorem fl_RX2_21 : Cond.fieldLink RX2 21 RX2 "length" "I" ∈ lwG := lwG_of (tG1 (List.mem_of_getElem? (i := 136) (by decide +kernel))) rfl
theorem fl_RX2_18 : Cond.fieldLink RX2 18 RX2 "waiting" "[I" ∈ lwG := lwG_of (tG1 (List.mem_of_getElem? (i := 137) (by decide +kernel))) rfl
theorem fl_RX0_12 : Cond.fieldLink RX0 12 RX0 "tape" "LSockTable$Tape;" ∈ lwG := lwG_of (tG1 (List.mem_of_getElem? (i := 147) (by decide +kernel))) rfl
theorem fl_RX9_18 : Cond.fieldLink RX9 18 RX0 "tape" "LSockTable$Tape;" ∈ lwG := lwG_of (tG1 (List.mem_of_getElem? (i := 148) (by decide +kernel))) rfl
theorem fl_RX11_21 : Cond.fieldLink RX11 21 RX0 "tape" "LSockTable$Tape;" ∈ lwG := lwG_of (tG1 (List.mem_of_getElem? (i := 149) (by decide +kernel))) rfl
theorem fl_RX0_21 : Cond.fieldLink RX0 21 RX0 "law" "LSockTable$Law;" ∈ lwG := lwG_of (tG1 (List.mem_of_getElem? (i := 150) (by decide +kernel))) rfl
theorem fl_RX9_37 : Cond.fieldLink RX9 37 RX0 "law" "LSockTable$Law;" ∈ lwG := lwG_of (tG1 (List.mem_of_getElem? (i := 151) (by decide +kernel))) rfl
theorem fl_RX0_28 : Cond.fieldLink RX0 28 RX0 "next" "I" ∈ lwG := lwG_of (tG1 (List.mem_of_getElem? (i := 152) (by decide +kernel))) rfl
theorem fl_RX11_104 : Cond.fieldLink RX11 104 RX0 "next" "I" ∈ lwG := lwG_of (tG1 (List.mem_of_getElem? (i := 153) (by decide +kernel))) rfl
theorem fl_RX0_36 : Cond.fieldLink RX0 36 RX0 "type" "I" ∈ lwG := lwG_of (tG1 (List.mem_of_getElem? (i := 154) (by decide +kernel))) rfl
theorem fl_RX0_39 : Cond.fieldLink RX0 39 RX0 "fault" "I" ∈ lwG := lwG_of (tG1 (List.mem_of_getElem? (i := 155) (by decide +kernel))) rfl
theorem fl_RX0_42 : Cond.fieldLink RX0 42 RX0 "kinds" "I" ∈ lwG := lwG_of (tG1 (List.mem_of_getElem? (i := 156) (by decide +kernel))) rfl
theorem fl_RX0_45 : Cond.fieldLink RX0 45 RX0 "likes" "I" ∈ lwG := lwG_of (tG1 (List.mem_of_getElem? (i := 157) (by decide +kernel))) rfl
theorem fl_RX0_48 : Cond.fieldLink RX0 48 RX0 "ifs" "I" ∈ lwG := lwG_of (tG1 (List.mem_of_getElem? (i := 158) (by decide +kernel))) rfl
theorem kl_RX9_23 : Cond.classLink RX9 23 RX10 ∈ lwG := lwG_of (tG1 (List.mem_of_getElem? (i := 176) (by decide +kernel))) rfl
theorem ib_RX10 : Cond.instantiable RX10 17 ∈ lwG := lwG_of (tG1 (List.mem_of_getElem? (i := 177) (by decide +kernel))) rfl
theorem ml_RX9_25 : Cond.methodLink RX9 25 yX10_init ∈ lwG := lwG_of (tG1 (List.mem_of_getElem? (i := 178) (by decide +kernel))) rfl
theorem im_yX10_init : Cond.instanceMethod yX10_init ∈ lwG := lwG_of (tG1 (List.mem_of_getElem? (i := 179) (by decide +kernel))) rfl
theorem co_yX10_init : Cond.code yX10_init cX10_init 1 none ∈ lwG := lwG_of (tG1 (List.mem_of_getElem? (i := 180) rfl)) rfl
theorem ml_RX10_3 : Cond.methodLink RX10 3 objectInit ∈ lwG := lwG_of (tG1 (List.mem_of_getElem? (i := 181) (by decide +kernel))) rfl
theorem kl_RX10_40 : Cond.classLink RX10 40 RX2 ∈ lwG := lwG_of (tG1 (List.mem_of_getElem? (i := 182) (by decide +kernel))) rfl
theorem ml_RX10_47 : Cond.methodLink RX10 47 yX10_clear ∈ lwG := lwG_of (tG1 (List.mem_of_getElem? (i := 184) (by decide +kernel))) rfl
theorem im_yX10_clear : Cond.instanceMethod yX10_clear ∈ lwG := lwG_of (tG1 (List.mem_of_getElem? (i := 185) (by decide +kernel))) rfl
theorem se_yX10_clear : Cond.selects RX10 yX10_clear yX10_clear ∈ lwG := lwG_of (tG1 (List.mem_of_getElem? (i := 186) (by decide +kernel))) rfl
theorem co_yX10_clear : Cond.code yX10_clear cX10_clear 3 none ∈ lwG := lwG_of (tG1 (List.mem_of_getElem? (i := 187) rfl)) rfl
theorem sm_yX11_put : Cond.static yX11_put ∈ lwG := lwG_of (tG1 (List.mem_of_getElem? (i := 189) (by decide +kernel))) rfl
theorem co_yX11_put : Cond.code yX11_put cX11_put 3 none ∈ lwG := lwG_of (tG1 (List.mem_of_getElem? (i := 190) rfl)) rfl
theorem ml_RX10_73 : Cond.methodLink RX10 73 yX10_takeLineAway ∈ lwG := lwG_of (tG1 (List.mem_of_getElem? (i := 191) (by decide +kernel))) rfl
theorem im_yX10_takeLineAway : Cond.instanceMethod yX10_takeLineAway ∈ lwG := lwG_of (tG1 (List.mem_of_getElem? (i := 192) (by decide +kernel))) rfl
theorem se_yX10_takeLineAway : Cond.selects RX10 yX10_takeLineAway yX10_takeLineAway ∈ lwG := lwG_of (tG1 (List.mem_of_getElem? (i := 193) (by decide +kernel))) rfl
theorem co_yX10_takeLineAway : Cond.code yX10_takeLineAway cX10_takeLineAway 2 none ∈ lwG := lwG_of (tG1 (List.mem_of_getElem? (i := 194) rfl)) rfl
theorem ml_RX10_76 : Cond.methodLink RX10 76 yX2_clear ∈ lwG := lwG_of (tG1 (List.mem_of_getElem? (i := 195) (by decide +kernel))) rfl
theorem im_yX2_clear : Cond.instanceMethod yX2_clear ∈ lwG := lwG_of (tG1 (List.mem_of_getElem? (i := 196) (by decide +kernel))) rfl
theorem se_yX2_clear : Cond.selects RX2 yX2_clear yX2_clear ∈ lwG := lwG_of (tG1 (List.mem_of_getElem? (i := 197) (by decide +kernel))) rfl
theorem co_yX2_clear : Cond.code yX2_clear cX2_clear 1 none ∈ lwG := lwG_of (tG1 (List.mem_of_getElem? (i := 198) rfl)) rfl
theorem fl_RX10_50 : Cond.fieldLink RX10 50 RX10 "kinds" "I" ∈ lwG := lwG_of (tG1 (List.mem_of_getElem? (i := 199) (by decide +kernel))) rfl
theorem fl_RX9_109 : Cond.fieldLink RX9 109 RX10 "kinds" "I" ∈ lwG := lwG_of (tG1 (List.mem_of_getElem? (i := 200) (by decide +kernel))) rfl
theorem fl_RX11_275 : Cond.fieldLink RX11 275 RX10 "kinds" "I" ∈ lwG := lwG_of (tG1 (List.mem_of_getElem? (i := 201) (by decide +kernel))) rfl
theorem fl_RX10_54 : Cond.fieldLink RX10 54 RX10 "names" "I" ∈ lwG := lwG_of (tG1 (List.mem_of_getElem? (i := 202) (by decide +kernel))) rfl
theorem fl_RX11_160 : Cond.fieldLink RX11 160 RX10 "names" "I" ∈ lwG := lwG_of (tG1 (List.mem_of_getElem? (i := 203) (by decide +kernel))) rfl
theorem fl_RX10_9 : Cond.fieldLink RX10 9 RX10 "number" "[I" ∈ lwG := lwG_of (tG1 (List.mem_of_getElem? (i := 204) (by decide +kernel))) rfl
theorem fl_RX7_21 : Cond.fieldLink RX7 21 RX10 "number" "[I" ∈ lwG := lwG_of (tG1 (List.mem_of_getElem? (i := 205) (by decide +kernel))) rfl
theorem fl_RX6_46 : Cond.fieldLink RX6 46 RX10 "number" "[I" ∈ lwG := lwG_of (tG1 (List.mem_of_getElem? (i := 206) (by decide +kernel))) rfl
theorem fl_RX9_98 : Cond.fieldLink RX9 98 RX10 "number" "[I" ∈ lwG := lwG_of (tG1 (List.mem_of_getElem? (i := 207) (by decide +kernel))) rfl
theorem fl_RX3_89 : Cond.fieldLink RX3 89 RX10 "number" "[I" ∈ lwG := lwG_of (tG1 (List.mem_of_getElem? (i := 208) (by decide +kernel))) rfl
theorem fl_RX11_142 : Cond.fieldLink RX11 142 RX10 "number" "[I" ∈ lwG := lwG_of (tG1 (List.mem_of_getElem? (i := 209) (by decide +kernel))) rfl
theorem fl_RX10_15 : Cond.fieldLink RX10 15 RX10 "partner" "[I" ∈ lwG := lwG_of (tG1 (List.mem_of_getElem? (i := 210) (by decide +kernel))) rfl
theorem fl_RX5_46 : Cond.fieldLink RX5 46 RX10 "partner" "[I" ∈ lwG := lwG_of (tG1 (List.mem_of_getElem? (i := 211) (by decide +kernel))) rfl
theorem fl_RX3_39 : Cond.fieldLink RX3 39 RX10 "partner" "[I" ∈ lwG := lwG_of (tG1 (List.mem_of_getElem? (i := 212) (by decide +kernel))) rfl
theorem fl_RX6_29 : Cond.fieldLink RX6 29 RX10 "partner" "[I" ∈ lwG := lwG_of (tG1 (List.mem_of_getElem? (i := 213) (by decide +kernel))) rfl
theorem fl_RX7_38 : Cond.fieldLink RX7 38 RX10 "partner" "[I" ∈ lwG := lwG_of (tG1 (List.mem_of_getElem? (i := 214) (by decide +kernel))) rfl
theorem fl_RX4_76 : Cond.fieldLink RX4 76 RX10 "partner" "[I" ∈ lwG := lwG_of (tG1 (List.mem_of_getElem? (i := 215) (by decide +kernel))) rfl
theorem fl_RX11_145 : Cond.fieldLink RX11 145 RX10 "partner" "[I" ∈ lwG := lwG_of (tG1 (List.mem_of_getElem? (i := 216) (by decide +kernel))) rfl
theorem fl_RX9_144 : Cond.fieldLink RX9 144 RX10 "partner" "[I" ∈ lwG := lwG_of (tG1 (List.mem_of_getElem? (i := 217) (by decide +kernel))) rfl
theorem fl_RX10_18 : Cond.fieldLink RX10 18 RX10 "nameOf" "[I" ∈ lwG := lwG_of (tG1 (List.mem_of_getElem? (i := 218) (by decide +kernel))) rfl
theorem fl_RX4_84 : Cond.fieldLink RX4 84 RX10 "nameOf" "[I" ∈ lwG := lwG_of (tG1 (List.mem_of_getElem? (i := 219) (by decide +kernel))) rfl
theorem fl_RX11_157 : Cond.fieldLink RX11 157 RX10 "nameOf" "[I" ∈ lwG := lwG_of (tG1 (List.mem_of_getElem? (i := 220) (by decide +kernel))) rfl
theorem fl_RX10_21 : Cond.fieldLink RX10 21 RX10 "codes" "[J" ∈ lwG := lwG_of (tG1 (List.mem_of_getElem? (i := 221) (by decide +kernel))) rfl
theorem fl_RX10_25 : Cond.fieldLink RX10 25 RX10 "firstKind" "[I" ∈ lwG := lwG_of (tG1 (List.mem_of_getElem? (i := 222) (by decide +kernel))) rfl
theorem fl_RX9_137 : Cond.fieldLink RX9 137 RX10 "firstKind" "[I" ∈ lwG := lwG_of (tG1 (List.mem_of_getElem? (i := 223) (by decide +kernel))) rfl
theorem fl_RX10_28 : Cond.fieldLink RX10 28 RX10 "unlikeRows" "[I" ∈ lwG := lwG_of (tG1 (List.mem_of_getElem? (i := 224) (by decide +kernel))) rfl
theorem fl_RX10_61 : Cond.fieldLink RX10 61 RX10 "near" "I" ∈ lwG := lwG_of (tG1 (List.mem_of_getElem? (i := 225) (by decide +kernel))) rfl
theorem fl_RX9_77 : Cond.fieldLink RX9 77 RX10 "near" "I" ∈ lwG := lwG_of (tG1 (List.mem_of_getElem? (i := 226) (by decide +kernel))) rfl
theorem fl_RX4_71 : Cond.fieldLink RX4 71 RX10 "near" "I" ∈ lwG := lwG_of (tG1 (List.mem_of_getElem? (i := 227) (by decide +kernel))) rfl
theorem fl_RX11_284 : Cond.fieldLink RX11 284 RX10 "near" "I" ∈ lwG := lwG_of (tG1 (List.mem_of_getElem? (i := 228) (by decide +kernel))) rfl
theorem fl_RX10_64 : Cond.fieldLink RX10 64 RX10 "room" "I" ∈ lwG := lwG_of (tG1 (List.mem_of_getElem? (i := 229) (by decide +kernel))) rfl
theorem fl_RX9_80 : Cond.fieldLink RX9 80 RX10 "room" "I" ∈ lwG := lwG_of (tG1 (List.mem_of_getElem? (i := 230) (by decide +kernel))) rfl
theorem fl_RX7_59 : Cond.fieldLink RX7 59 RX10 "room" "I" ∈ lwG := lwG_of (tG1 (List.mem_of_getElem? (i := 231) (by decide +kernel))) rfl
theorem fl_RX11_278 : Cond.fieldLink RX11 278 RX10 "room" "I" ∈ lwG := lwG_of (tG1 (List.mem_of_getElem? (i := 232) (by decide +kernel))) rfl
theorem fl_RX10_67 : Cond.fieldLink RX10 67 RX10 "full" "I" ∈ lwG := lwG_of (tG1 (List.mem_of_getElem? (i := 233) (by decide +kernel))) rfl
theorem fl_RX9_83 : Cond.fieldLink RX9 83 RX10 "full" "I" ∈ lwG := lwG_of (tG1 (List.mem_of_getElem? (i := 234) (by decide +kernel))) rfl
theorem fl_RX11_173 : Cond.fieldLink RX11 173 RX10 "full" "I" ∈ lwG := lwG_of (tG1 (List.mem_of_getElem? (i := 235) (by decide +kernel))) rfl
theorem fl_RX10_70 : Cond.fieldLink RX10 70 RX10 "seed" "I" ∈ lwG := lwG_of (tG1 (List.mem_of_getElem? (i := 236) (by decide +kernel))) rfl
theorem fl_RX9_92 : Cond.fieldLink RX9 92 RX10 "seed" "I" ∈ lwG := lwG_of (tG1 (List.mem_of_getElem? (i := 237) (by decide +kernel))) rfl
theorem fl_RX11_184 : Cond.fieldLink RX11 184 RX10 "seed" "I" ∈ lwG := lwG_of (tG1 (List.mem_of_getElem? (i := 238) (by decide +kernel))) rfl
theorem fl_RX3_119 : Cond.fieldLink RX3 119 RX10 "seed" "I" ∈ lwG := lwG_of (tG1 (List.mem_of_getElem? (i := 239) (by decide +kernel))) rfl
theorem fl_RX10_31 : Cond.fieldLink RX10 31 RX10 "hung" "[I" ∈ lwG := lwG_of (tG2 (List.mem_of_getElem? (i := 0) (by decide +kernel))) rfl
theorem fl_RX10_81 : Cond.fieldLink RX10 81 RX10 "hungCount" "I" ∈ lwG := lwG_of (tG2 (List.mem_of_getElem? (i := 1) (by decide +kernel))) rfl
theorem fl_RX11_235 : Cond.fieldLink RX11 235 RX10 "hungCount" "I" ∈ lwG := lwG_of (tG2 (List.mem_of_getElem? (i := 2) (by decide +kernel))) rfl
theorem fl_RX10_34 : Cond.fieldLink RX10 34 RX10 "hungOf" "[I" ∈ lwG := lwG_of (tG2 (List.mem_of_getElem? (i := 3) (by decide +kernel))) rfl
theorem fl_RX10_37 : Cond.fieldLink RX10 37 RX10 "out" "[I" ∈ lwG := lwG_of (tG2 (List.mem_of_getElem? (i := 4) (by decide +kernel))) rfl
theorem fl_RX10_43 : Cond.fieldLink RX10 43 RX10 "law" "LSockTable$Law;" ∈ lwG := lwG_of (tG2 (List.mem_of_getElem? (i := 5) (by decide +kernel))) rfl
theorem fl_RX9_33 : Cond.fieldLink RX9 33 RX10 "law" "LSockTable$Law;" ∈ lwG := lwG_of (tG2 (List.mem_of_getElem? (i := 6) (by decide +kernel))) rfl
theorem fl_RX3_126 : Cond.fieldLink RX3 126 RX10 "law" "LSockTable$Law;" ∈ lwG := lwG_of (tG2 (List.mem_of_getElem? (i := 7) (by decide +kernel))) rfl
theorem fl_RX9_12 : Cond.fieldLink RX9 12 RX9 "grammar" "LSockTable$Grammar;" ∈ lwG := lwG_of (tG2 (List.mem_of_getElem? (i := 43) (by decide +kernel))) rfl
theorem fl_RX11_16 : Cond.fieldLink RX11 16 RX9 "grammar" "LSockTable$Grammar;" ∈ lwG := lwG_of (tG2 (List.mem_of_getElem? (i := 44) (by decide +kernel))) rfl
theorem fl_RX9_22 : Cond.fieldLink RX9 22 RX9 "tape" "LSockTable$Tape;" ∈ lwG := lwG_of (tG2 (List.mem_of_getElem? (i := 45) (by decide +kernel))) rfl
theorem fl_RX9_26 : Cond.fieldLink RX9 26 RX9 "draft" "LSockTable$Text;" ∈ lwG := lwG_of (tG2 (List.mem_of_getElem? (i := 46) (by decide +kernel))) rfl
theorem fl_RX11_117 : Cond.fieldLink RX11 117 RX9 "draft" "LSockTable$Text;" ∈ lwG := lwG_of (tG2 (List.mem_of_getElem? (i := 47) (by decide +kernel))) rfl
theorem fl_RX9_44 : Cond.fieldLink RX9 44 RX9 "fault" "I" ∈ lwG := lwG_of (tG2 (List.mem_of_getElem? (i := 48) (by decide +kernel))) rfl
theorem fl_RX9_48 : Cond.fieldLink RX9 48 RX9 "faultToken" "I" ∈ lwG := lwG_of (tG2 (List.mem_of_getElem? (i := 49) (by decide +kernel))) rfl
theorem fl_RX11_110 : Cond.fieldLink RX11 110 RX9 "faultToken" "I" ∈ lwG := lwG_of (tG2 (List.mem_of_getElem? (i := 50) (by decide +kernel))) rfl
theorem kl_RX11_28 : Cond.classLink RX11 28 RX10 ∈ lwG := lwG_of (tG2 (List.mem_of_getElem? (i := 62) (by decide +kernel))) rfl
theorem ml_RX11_30 : Cond.methodLink RX11 30 yX10_init ∈ lwG := lwG_of (tG2 (List.mem_of_getElem? (i := 63) (by decide +kernel))) rfl
theorem kl_RX11_39 : Cond.classLink RX11 39 RX7 ∈ lwG := lwG_of (tG2 (List.mem_of_getElem? (i := 64) (by decide +kernel))) rfl
theorem ib_RX7 : Cond.instantiable RX7 5 ∈ lwG := lwG_of (tG2 (List.mem_of_getElem? (i := 65) (by decide +kernel))) rfl
theorem im_yX7_init : Cond.instanceMethod yX7_init ∈ lwG := lwG_of (tG2 (List.mem_of_getElem? (i := 67) (by decide +kernel))) rfl
theorem co_yX7_init : Cond.code yX7_init cX7_init 1 none ∈ lwG := lwG_of (tG2 (List.mem_of_getElem? (i := 68) rfl)) rfl
theorem ml_RX7_3 : Cond.methodLink RX7 3 objectInit ∈ lwG := lwG_of (tG2 (List.mem_of_getElem? (i := 69) (by decide +kernel))) rfl
theorem fl_RX7_9 : Cond.fieldLink RX7 9 RX7 "bag" "[I" ∈ lwG := lwG_of (tG2 (List.mem_of_getElem? (i := 70) (by decide +kernel))) rfl
theorem fl_RX5_38 : Cond.fieldLink RX5 38 RX7 "bag" "[I" ∈ lwG := lwG_of (tG2 (List.mem_of_getElem? (i := 71) (by decide +kernel))) rfl
theorem fl_RX3_48 : Cond.fieldLink RX3 48 RX7 "bag" "[I" ∈ lwG := lwG_of (tG2 (List.mem_of_getElem? (i := 72) (by decide +kernel))) rfl
theorem fl_RX11_131 : Cond.fieldLink RX11 131 RX7 "bag" "[I" ∈ lwG := lwG_of (tG2 (List.mem_of_getElem? (i := 73) (by decide +kernel))) rfl
theorem fl_RX7_15 : Cond.fieldLink RX7 15 RX7 "table" "[I" ∈ lwG := lwG_of (tG2 (List.mem_of_getElem? (i := 74) (by decide +kernel))) rfl
theorem fl_RX5_45 : Cond.fieldLink RX5 45 RX7 "table" "[I" ∈ lwG := lwG_of (tG2 (List.mem_of_getElem? (i := 75) (by decide +kernel))) rfl
theorem fl_RX3_53 : Cond.fieldLink RX3 53 RX7 "table" "[I" ∈ lwG := lwG_of (tG2 (List.mem_of_getElem? (i := 76) (by decide +kernel))) rfl
theorem fl_RX11_139 : Cond.fieldLink RX11 139 RX7 "table" "[I" ∈ lwG := lwG_of (tG2 (List.mem_of_getElem? (i := 77) (by decide +kernel))) rfl
theorem fl_RX7_18 : Cond.fieldLink RX7 18 RX7 "rolled" "[I" ∈ lwG := lwG_of (tG2 (List.mem_of_getElem? (i := 78) (by decide +kernel))) rfl
theorem fl_RX11_148 : Cond.fieldLink RX11 148 RX7 "rolled" "[I" ∈ lwG := lwG_of (tG2 (List.mem_of_getElem? (i := 79) (by decide +kernel))) rfl
theorem fl_RX7_30 : Cond.fieldLink RX7 30 RX7 "draws" "I" ∈ lwG := lwG_of (tG2 (List.mem_of_getElem? (i := 80) (by decide +kernel))) rfl
theorem fl_RX11_281 : Cond.fieldLink RX11 281 RX7 "draws" "I" ∈ lwG := lwG_of (tG2 (List.mem_of_getElem? (i := 81) (by decide +kernel))) rfl
theorem fl_RX7_34 : Cond.fieldLink RX7 34 RX7 "stopped" "Z" ∈ lwG := lwG_of (tG2 (List.mem_of_getElem? (i := 82) (by decide +kernel))) rfl
theorem fl_RX11_166 : Cond.fieldLink RX11 166 RX7 "stopped" "Z" ∈ lwG := lwG_of (tG2 (List.mem_of_getElem? (i := 83) (by decide +kernel))) rfl
theorem kl_RX11_60 : Cond.classLink RX11 60 RX5 ∈ lwG := lwG_of (tG2 (List.mem_of_getElem? (i := 96) (by decide +kernel))) rfl
theorem ib_RX5 : Cond.instantiable RX5 7 ∈ lwG := lwG_of (tG2 (List.mem_of_getElem? (i := 97) (by decide +kernel))) rfl
theorem ml_RX11_62 : Cond.methodLink RX11 62 yX5_init ∈ lwG := lwG_of (tG2 (List.mem_of_getElem? (i := 98) (by decide +kernel))) rfl
theorem im_yX5_init : Cond.instanceMethod yX5_init ∈ lwG := lwG_of (tG2 (List.mem_of_getElem? (i := 99) (by decide +kernel))) rfl
theorem co_yX5_init : Cond.code yX5_init cX5_init 1 none ∈ lwG := lwG_of (tG2 (List.mem_of_getElem? (i := 100) rfl)) rfl
theorem ml_RX5_3 : Cond.methodLink RX5 3 objectInit ∈ lwG := lwG_of (tG2 (List.mem_of_getElem? (i := 101) (by decide +kernel))) rfl
theorem kl_RX5_21 : Cond.classLink RX5 21 RX1 ∈ lwG := lwG_of (tG2 (List.mem_of_getElem? (i := 102) (by decide +kernel))) rfl
theorem ib_RX1 : Cond.instantiable RX1 4 ∈ lwG := lwG_of (tG2 (List.mem_of_getElem? (i := 103) (by decide +kernel))) rfl
theorem im_yX1_init : Cond.instanceMethod yX1_init ∈ lwG := lwG_of (tG2 (List.mem_of_getElem? (i := 105) (by decide +kernel))) rfl
theorem co_yX1_init : Cond.code yX1_init cX1_init 1 none ∈ lwG := lwG_of (tG2 (List.mem_of_getElem? (i := 106) rfl)) rfl
theorem ml_RX1_3 : Cond.methodLink RX1 3 objectInit ∈ lwG := lwG_of (tG2 (List.mem_of_getElem? (i := 107) (by decide +kernel))) rfl
theorem fl_RX1_9 : Cond.fieldLink RX1 9 RX1 "most" "[I" ∈ lwG := lwG_of (tG2 (List.mem_of_getElem? (i := 108) (by decide +kernel))) rfl
theorem fl_RX1_15 : Cond.fieldLink RX1 15 RX1 "stride" "[I" ∈ lwG := lwG_of (tG2 (List.mem_of_getElem? (i := 109) (by decide +kernel))) rfl
theorem fl_RX4_50 : Cond.fieldLink RX4 50 RX1 "stride" "[I" ∈ lwG := lwG_of (tG2 (List.mem_of_getElem? (i := 110) (by decide +kernel))) rfl
theorem fl_RX5_119 : Cond.fieldLink RX5 119 RX1 "stride" "[I" ∈ lwG := lwG_of (tG2 (List.mem_of_getElem? (i := 111) (by decide +kernel))) rfl
theorem fl_RX1_18 : Cond.fieldLink RX1 18 RX1 "digit" "[I" ∈ lwG := lwG_of (tG2 (List.mem_of_getElem? (i := 112) (by decide +kernel))) rfl
theorem fl_RX4_47 : Cond.fieldLink RX4 47 RX1 "digit" "[I" ∈ lwG := lwG_of (tG2 (List.mem_of_getElem? (i := 113) (by decide +kernel))) rfl
theorem fl_RX5_116 : Cond.fieldLink RX5 116 RX1 "digit" "[I" ∈ lwG := lwG_of (tG2 (List.mem_of_getElem? (i := 114) (by decide +kernel))) rfl
theorem fl_RX4_26 : Cond.fieldLink RX4 26 RX1 "cells" "I" ∈ lwG := lwG_of (tG2 (List.mem_of_getElem? (i := 115) (by decide +kernel))) rfl
theorem fl_RX1_31 : Cond.fieldLink RX1 31 RX1 "cells" "I" ∈ lwG := lwG_of (tG2 (List.mem_of_getElem? (i := 116) (by decide +kernel))) rfl
theorem fl_RX5_99 : Cond.fieldLink RX5 99 RX1 "cells" "I" ∈ lwG := lwG_of (tG2 (List.mem_of_getElem? (i := 117) (by decide +kernel))) rfl
theorem ac_boolean : Cond.arrayClass .boolean ∈ lwG := lwG_of (tG2 (List.mem_of_getElem? (i := 127) (by decide +kernel))) rfl
theorem ml_RX5_35 : Cond.methodLink RX5 35 yX5_forgetCounts ∈ lwG := lwG_of (tG2 (List.mem_of_getElem? (i := 128) (by decide +kernel))) rfl
theorem im_yX5_forgetCounts : Cond.instanceMethod yX5_forgetCounts ∈ lwG := lwG_of (tG2 (List.mem_of_getElem? (i := 130) (by decide +kernel))) rfl
theorem co_yX5_forgetCounts : Cond.code yX5_forgetCounts cX5_forgetCounts 2 none ∈ lwG := lwG_of (tG2 (List.mem_of_getElem? (i := 131) rfl)) rfl
theorem kL_RX5_61 : Cond.constantLong RX5 61 (-1) ∈ lwG := lwG_of (tG2 (List.mem_of_getElem? (i := 132) (by decide +kernel))) rfl
theorem fl_RX5_9 : Cond.fieldLink RX5 9 RX5 "bag" "[I" ∈ lwG := lwG_of (tG2 (List.mem_of_getElem? (i := 133) (by decide +kernel))) rfl
theorem fl_RX5_15 : Cond.fieldLink RX5 15 RX5 "table" "[I" ∈ lwG := lwG_of (tG2 (List.mem_of_getElem? (i := 134) (by decide +kernel))) rfl
theorem fl_RX5_18 : Cond.fieldLink RX5 18 RX5 "partner" "[I" ∈ lwG := lwG_of (tG2 (List.mem_of_getElem? (i := 135) (by decide +kernel))) rfl
theorem fl_RX5_57 : Cond.fieldLink RX5 57 RX5 "things" "I" ∈ lwG := lwG_of (tG2 (List.mem_of_getElem? (i := 136) (by decide +kernel))) rfl
theorem fl_RX5_24 : Cond.fieldLink RX5 24 RX5 "grid" "LSockTable$Grid;" ∈ lwG := lwG_of (tG2 (List.mem_of_getElem? (i := 137) (by decide +kernel))) rfl
theorem fl_RX5_28 : Cond.fieldLink RX5 28 RX5 "ways" "[J" ∈ lwG := lwG_of (tG2 (List.mem_of_getElem? (i := 138) (by decide +kernel))) rfl
theorem fl_RX5_32 : Cond.fieldLink RX5 32 RX5 "known" "[J" ∈ lwG := lwG_of (tG2 (List.mem_of_getElem? (i := 139) (by decide +kernel))) rfl
theorem kl_RX11_67 : Cond.classLink RX11 67 RX4 ∈ lwG := lwG_of (tG2 (List.mem_of_getElem? (i := 155) (by decide +kernel))) rfl
theorem ib_RX4 : Cond.instantiable RX4 4 ∈ lwG := lwG_of (tG2 (List.mem_of_getElem? (i := 156) (by decide +kernel))) rfl
theorem im_yX4_init : Cond.instanceMethod yX4_init ∈ lwG := lwG_of (tG2 (List.mem_of_getElem? (i := 158) (by decide +kernel))) rfl
theorem co_yX4_init : Cond.code yX4_init cX4_init 1 none ∈ lwG := lwG_of (tG2 (List.mem_of_getElem? (i := 159) rfl)) rfl
theorem ml_RX4_3 : Cond.methodLink RX4 3 objectInit ∈ lwG := lwG_of (tG2 (List.mem_of_getElem? (i := 160) (by decide +kernel))) rfl
theorem kl_RX4_9 : Cond.classLink RX4 9 RX1 ∈ lwG := lwG_of (tG2 (List.mem_of_getElem? (i := 161) (by decide +kernel))) rfl
theorem fl_RX4_12 : Cond.fieldLink RX4 12 RX4 "grid" "LSockTable$Grid;" ∈ lwG := lwG_of (tG2 (List.mem_of_getElem? (i := 163) (by decide +kernel))) rfl
theorem fl_RX4_18 : Cond.fieldLink RX4 18 RX4 "worth" "[I" ∈ lwG := lwG_of (tG2 (List.mem_of_getElem? (i := 164) (by decide +kernel))) rfl
theorem fl_RX4_41 : Cond.fieldLink RX4 41 RX4 "pairs" "I" ∈ lwG := lwG_of (tG2 (List.mem_of_getElem? (i := 165) (by decide +kernel))) rfl
theorem fl_RX11_242 : Cond.fieldLink RX11 242 RX4 "pairs" "I" ∈ lwG := lwG_of (tG2 (List.mem_of_getElem? (i := 166) (by decide +kernel))) rfl
theorem fl_RX4_44 : Cond.fieldLink RX4 44 RX4 "sum" "I" ∈ lwG := lwG_of (tG2 (List.mem_of_getElem? (i := 167) (by decide +kernel))) rfl
theorem fl_RX11_245 : Cond.fieldLink RX11 245 RX4 "sum" "I" ∈ lwG := lwG_of (tG2 (List.mem_of_getElem? (i := 168) (by decide +kernel))) rfl
theorem kl_RX11_74 : Cond.classLink RX11 74 RX3 ∈ lwG := lwG_of (tG2 (List.mem_of_getElem? (i := 178) (by decide +kernel))) rfl
theorem ib_RX3 : Cond.instantiable RX3 9 ∈ lwG := lwG_of (tG2 (List.mem_of_getElem? (i := 179) (by decide +kernel))) rfl
theorem im_yX3_init : Cond.instanceMethod yX3_init ∈ lwG := lwG_of (tG2 (List.mem_of_getElem? (i := 181) (by decide +kernel))) rfl
theorem co_yX3_init : Cond.code yX3_init cX3_init 1 none ∈ lwG := lwG_of (tG2 (List.mem_of_getElem? (i := 182) rfl)) rfl
theorem ml_RX3_3 : Cond.methodLink RX3 3 objectInit ∈ lwG := lwG_of (tG2 (List.mem_of_getElem? (i := 183) (by decide +kernel))) rfl
theorem fl_RX3_9 : Cond.fieldLink RX3 9 RX3 "ways" "[J" ∈ lwG := lwG_of (tG2 (List.mem_of_getElem? (i := 184) (by decide +kernel))) rfl
theorem fl_RX3_15 : Cond.fieldLink RX3 15 RX3 "nextWays" "[J" ∈ lwG := lwG_of (tG2 (List.mem_of_getElem? (i := 185) (by decide +kernel))) rfl
theorem fl_RX3_18 : Cond.fieldLink RX3 18 RX3 "left" "[I" ∈ lwG := lwG_of (tG2 (List.mem_of_getElem? (i := 186) (by decide +kernel))) rfl
theorem fl_RX3_22 : Cond.fieldLink RX3 22 RX3 "gone" "[Z" ∈ lwG := lwG_of (tG2 (List.mem_of_getElem? (i := 187) (by decide +kernel))) rfl
theorem fl_RX3_26 : Cond.fieldLink RX3 26 RX3 "given" "[I" ∈ lwG := lwG_of (tG2 (List.mem_of_getElem? (i := 188) (by decide +kernel))) rfl
theorem fl_RX3_96 : Cond.fieldLink RX3 96 RX3 "weeks" "I" ∈ lwG := lwG_of (tG2 (List.mem_of_getElem? (i := 189) (by decide +kernel))) rfl
theorem fl_RX3_29 : Cond.fieldLink RX3 29 RX3 "firstLost" "I" ∈ lwG := lwG_of (tG2 (List.mem_of_getElem? (i := 190) (by decide +kernel))) rfl
theorem fl_RX11_262 : Cond.fieldLink RX11 262 RX3 "firstLost" "I" ∈ lwG := lwG_of (tG2 (List.mem_of_getElem? (i := 191) (by decide +kernel))) rfl
theorem fl_RX3_33 : Cond.fieldLink RX3 33 RX3 "leftAfter" "[I" ∈ lwG := lwG_of (tG2 (List.mem_of_getElem? (i := 192) (by decide +kernel))) rfl
theorem fl_RX11_256 : Cond.fieldLink RX11 256 RX3 "leftAfter" "[I" ∈ lwG := lwG_of (tG2 (List.mem_of_getElem? (i := 193) (by decide +kernel))) rfl
theorem fl_RX3_36 : Cond.fieldLink RX3 36 RX3 "pairsAfter" "[I" ∈ lwG := lwG_of (tG2 (List.mem_of_getElem? (i := 194) (by decide +kernel))) rfl
theorem fl_RX11_259 : Cond.fieldLink RX11 259 RX3 "pairsAfter" "[I" ∈ lwG := lwG_of (tG2 (List.mem_of_getElem? (i := 195) (by decide +kernel))) rfl
theorem kl_RX11_81 : Cond.classLink RX11 81 RX6 ∈ lwG := lwG_of (tG2 (List.mem_of_getElem? (i := 215) (by decide +kernel))) rfl
theorem ib_RX6 : Cond.instantiable RX6 5 ∈ lwG := lwG_of (tG2 (List.mem_of_getElem? (i := 216) (by decide +kernel))) rfl
theorem im_yX6_init : Cond.instanceMethod yX6_init ∈ lwG := lwG_of (tG2 (List.mem_of_getElem? (i := 218) (by decide +kernel))) rfl
theorem co_yX6_init : Cond.code yX6_init cX6_init 1 none ∈ lwG := lwG_of (tG2 (List.mem_of_getElem? (i := 219) rfl)) rfl
theorem ml_RX6_3 : Cond.methodLink RX6 3 objectInit ∈ lwG := lwG_of (tG2 (List.mem_of_getElem? (i := 220) (by decide +kernel))) rfl
theorem fl_RX6_11 : Cond.fieldLink RX6 11 RX6 "kindOf" "[I" ∈ lwG := lwG_of (tG2 (List.mem_of_getElem? (i := 221) (by decide +kernel))) rfl
theorem fl_RX6_15 : Cond.fieldLink RX6 15 RX6 "manyOf" "[I" ∈ lwG := lwG_of (tG2 (List.mem_of_getElem? (i := 222) (by decide +kernel))) rfl
theorem fl_RX6_25 : Cond.fieldLink RX6 25 RX6 "count" "I" ∈ lwG := lwG_of (tG2 (List.mem_of_getElem? (i := 223) (by decide +kernel))) rfl
theorem fl_RX11_268 : Cond.fieldLink RX11 268 RX6 "count" "I" ∈ lwG := lwG_of (tG2 (List.mem_of_getElem? (i := 224) (by decide +kernel))) rfl
theorem fl_RX6_18 : Cond.fieldLink RX6 18 RX6 "ways" "[J" ∈ lwG := lwG_of (tG2 (List.mem_of_getElem? (i := 225) (by decide +kernel))) rfl
theorem fl_RX6_22 : Cond.fieldLink RX6 22 RX6 "nextWays" "[J" ∈ lwG := lwG_of (tG2 (List.mem_of_getElem? (i := 226) (by decide +kernel))) rfl
theorem fl_RX11_10 : Cond.fieldLink RX11 10 RX11 "teller" "LSockTable$Teller;" ∈ lwG := lwG_of (tG2 (List.mem_of_getElem? (i := 238) (by decide +kernel))) rfl
theorem fl_RX11_20 : Cond.fieldLink RX11 20 RX11 "grammar" "LSockTable$Grammar;" ∈ lwG := lwG_of (tG2 (List.mem_of_getElem? (i := 239) (by decide +kernel))) rfl
theorem fl_RX11_27 : Cond.fieldLink RX11 27 RX11 "tape" "LSockTable$Tape;" ∈ lwG := lwG_of (tG3 (List.mem_of_getElem? (i := 0) (by decide +kernel))) rfl
theorem fl_RX11_31 : Cond.fieldLink RX11 31 RX11 "told" "LSockTable$Text;" ∈ lwG := lwG_of (tG3 (List.mem_of_getElem? (i := 1) (by decide +kernel))) rfl
theorem fl_RX11_35 : Cond.fieldLink RX11 35 RX11 "faultPlace" "I" ∈ lwG := lwG_of (tG3 (List.mem_of_getElem? (i := 2) (by decide +kernel))) rfl
theorem fl_RX11_42 : Cond.fieldLink RX11 42 RX11 "now" "LSockTable$State;" ∈ lwG := lwG_of (tG3 (List.mem_of_getElem? (i := 3) (by decide +kernel))) rfl
theorem fl_RX11_46 : Cond.fieldLink RX11 46 RX11 "trial" "LSockTable$State;" ∈ lwG := lwG_of (tG3 (List.mem_of_getElem? (i := 4) (by decide +kernel))) rfl
theorem fl_RX11_49 : Cond.fieldLink RX11 49 RX11 "past" "[LSockTable$State;" ∈ lwG := lwG_of (tG3 (List.mem_of_getElem? (i := 5) (by decide +kernel))) rfl
theorem fl_RX11_196 : Cond.fieldLink RX11 196 RX11 "pastStart" "I" ∈ lwG := lwG_of (tG3 (List.mem_of_getElem? (i := 6) (by decide +kernel))) rfl
theorem fl_RX11_193 : Cond.fieldLink RX11 193 RX11 "pastCount" "I" ∈ lwG := lwG_of (tG3 (List.mem_of_getElem? (i := 7) (by decide +kernel))) rfl
theorem fl_RX11_53 : Cond.fieldLink RX11 53 RX11 "slots" "[LSockTable$State;" ∈ lwG := lwG_of (tG3 (List.mem_of_getElem? (i := 8) (by decide +kernel))) rfl
theorem fl_RX11_56 : Cond.fieldLink RX11 56 RX11 "held" "[Z" ∈ lwG := lwG_of (tG3 (List.mem_of_getElem? (i := 9) (by decide +kernel))) rfl
theorem fl_RX11_63 : Cond.fieldLink RX11 63 RX11 "orders" "LSockTable$Orders;" ∈ lwG := lwG_of (tG3 (List.mem_of_getElem? (i := 10) (by decide +kernel))) rfl
theorem fl_RX11_70 : Cond.fieldLink RX11 70 RX11 "odds" "LSockTable$Odds;" ∈ lwG := lwG_of (tG3 (List.mem_of_getElem? (i := 11) (by decide +kernel))) rfl
theorem fl_RX11_77 : Cond.fieldLink RX11 77 RX11 "losses" "LSockTable$Losses;" ∈ lwG := lwG_of (tG3 (List.mem_of_getElem? (i := 12) (by decide +kernel))) rfl
theorem fl_RX11_84 : Cond.fieldLink RX11 84 RX11 "seen" "LSockTable$Seen;" ∈ lwG := lwG_of (tG3 (List.mem_of_getElem? (i := 13) (by decide +kernel))) rfl
theorem ml_RL_13 : Cond.methodLink RL 13 yX11_feed ∈ lwG := lwG_of (tG3 (List.mem_of_getElem? (i := 47) (by decide +kernel))) rfl
theorem im_yX11_feed : Cond.instanceMethod yX11_feed ∈ lwG := lwG_of (tG3 (List.mem_of_getElem? (i := 48) (by decide +kernel))) rfl
theorem se_yX11_feed : Cond.selects RX11 yX11_feed yX11_feed ∈ lwG := lwG_of (tG3 (List.mem_of_getElem? (i := 49) (by decide +kernel))) rfl
theorem co_yX11_feed : Cond.code yX11_feed cX11_feed 6 (some .int) ∈ lwG := lwG_of (tG3 (List.mem_of_getElem? (i := 50) rfl)) rfl
theorem ml_RX11_93 : Cond.methodLink RX11 93 yX8_addFour ∈ lwG := lwG_of (tG3 (List.mem_of_getElem? (i := 51) (by decide +kernel))) rfl
theorem im_yX8_addFour : Cond.instanceMethod yX8_addFour ∈ lwG := lwG_of (tG3 (List.mem_of_getElem? (i := 52) (by decide +kernel))) rfl
theorem se_yX8_addFour : Cond.selects RX8 yX8_addFour yX8_addFour ∈ lwG := lwG_of (tG3 (List.mem_of_getElem? (i := 53) (by decide +kernel))) rfl
theorem co_yX8_addFour : Cond.code yX8_addFour cX8_addFour 3 none ∈ lwG := lwG_of (tG3 (List.mem_of_getElem? (i := 54) rfl)) rfl
theorem ml_RL_18 : Cond.methodLink RL 18 yX11_back ∈ lwG := lwG_of (tG3 (List.mem_of_getElem? (i := 56) (by decide +kernel))) rfl
theorem im_yX11_back : Cond.instanceMethod yX11_back ∈ lwG := lwG_of (tG3 (List.mem_of_getElem? (i := 57) (by decide +kernel))) rfl
theorem se_yX11_back : Cond.selects RX11 yX11_back yX11_back ∈ lwG := lwG_of (tG3 (List.mem_of_getElem? (i := 58) (by decide +kernel))) rfl
theorem co_yX11_back : Cond.code yX11_back cX11_back 2 (some .int) ∈ lwG := lwG_of (tG3 (List.mem_of_getElem? (i := 59) rfl)) rfl
theorem ml_RL_23 : Cond.methodLink RL 23 yX11_read ∈ lwG := lwG_of (tG3 (List.mem_of_getElem? (i := 60) (by decide +kernel))) rfl
theorem im_yX11_read : Cond.instanceMethod yX11_read ∈ lwG := lwG_of (tG3 (List.mem_of_getElem? (i := 61) (by decide +kernel))) rfl
theorem se_yX11_read : Cond.selects RX11 yX11_read yX11_read ∈ lwG := lwG_of (tG3 (List.mem_of_getElem? (i := 62) (by decide +kernel))) rfl
theorem co_yX11_read : Cond.code yX11_read cX11_read 3 (some .int) ∈ lwG := lwG_of (tG3 (List.mem_of_getElem? (i := 63) rfl)) rfl
theorem ml_RX11_97 : Cond.methodLink RX11 97 yX8_split ∈ lwG := lwG_of (tG3 (List.mem_of_getElem? (i := 64) (by decide +kernel))) rfl
theorem im_yX8_split : Cond.instanceMethod yX8_split ∈ lwG := lwG_of (tG3 (List.mem_of_getElem? (i := 65) (by decide +kernel))) rfl
theorem se_yX8_split : Cond.selects RX8 yX8_split yX8_split ∈ lwG := lwG_of (tG3 (List.mem_of_getElem? (i := 66) (by decide +kernel))) rfl
theorem co_yX8_split : Cond.code yX8_split cX8_split 3 none ∈ lwG := lwG_of (tG3 (List.mem_of_getElem? (i := 67) rfl)) rfl
theorem ml_RX8_54 : Cond.methodLink RX8 54 yX8_afterBlanks ∈ lwG := lwG_of (tG3 (List.mem_of_getElem? (i := 68) (by decide +kernel))) rfl
theorem im_yX8_afterBlanks : Cond.instanceMethod yX8_afterBlanks ∈ lwG := lwG_of (tG3 (List.mem_of_getElem? (i := 70) (by decide +kernel))) rfl
theorem co_yX8_afterBlanks : Cond.code yX8_afterBlanks cX8_afterBlanks 3 (some .int) ∈ lwG := lwG_of (tG3 (List.mem_of_getElem? (i := 71) rfl)) rfl
theorem sm_yX11_at : Cond.static yX11_at ∈ lwG := lwG_of (tG3 (List.mem_of_getElem? (i := 73) (by decide +kernel))) rfl
theorem co_yX11_at : Cond.code yX11_at cX11_at 2 (some .int) ∈ lwG := lwG_of (tG3 (List.mem_of_getElem? (i := 74) rfl)) rfl
theorem ml_RX8_73 : Cond.methodLink RX8 73 yX8_isBlank ∈ lwG := lwG_of (tG3 (List.mem_of_getElem? (i := 75) (by decide +kernel))) rfl
theorem sm_yX8_isBlank : Cond.static yX8_isBlank ∈ lwG := lwG_of (tG3 (List.mem_of_getElem? (i := 76) (by decide +kernel))) rfl
theorem co_yX8_isBlank : Cond.code yX8_isBlank cX8_isBlank 1 (some .boolean) ∈ lwG := lwG_of (tG3 (List.mem_of_getElem? (i := 77) rfl)) rfl
theorem ml_RX8_58 : Cond.methodLink RX8 58 yX8_splitOff ∈ lwG := lwG_of (tG3 (List.mem_of_getElem? (i := 78) (by decide +kernel))) rfl
theorem im_yX8_splitOff : Cond.instanceMethod yX8_splitOff ∈ lwG := lwG_of (tG3 (List.mem_of_getElem? (i := 80) (by decide +kernel))) rfl
theorem co_yX8_splitOff : Cond.code yX8_splitOff cX8_splitOff 3 (some .int) ∈ lwG := lwG_of (tG3 (List.mem_of_getElem? (i := 81) rfl)) rfl
theorem ml_RX8_77 : Cond.methodLink RX8 77 yX8_isLetter ∈ lwG := lwG_of (tG3 (List.mem_of_getElem? (i := 82) (by decide +kernel))) rfl
theorem sm_yX8_isLetter : Cond.static yX8_isLetter ∈ lwG := lwG_of (tG3 (List.mem_of_getElem? (i := 83) (by decide +kernel))) rfl
theorem co_yX8_isLetter : Cond.code yX8_isLetter cX8_isLetter 1 (some .boolean) ∈ lwG := lwG_of (tG3 (List.mem_of_getElem? (i := 84) rfl)) rfl
theorem ml_RX8_80 : Cond.methodLink RX8 80 yX8_splitOffLetters ∈ lwG := lwG_of (tG3 (List.mem_of_getElem? (i := 85) (by decide +kernel))) rfl
theorem im_yX8_splitOffLetters : Cond.instanceMethod yX8_splitOffLetters ∈ lwG := lwG_of (tG3 (List.mem_of_getElem? (i := 87) (by decide +kernel))) rfl
theorem co_yX8_splitOffLetters : Cond.code yX8_splitOffLetters cX8_splitOffLetters 5 (some .int) ∈ lwG := lwG_of (tG3 (List.mem_of_getElem? (i := 88) rfl)) rfl
theorem ml_RX8_92 : Cond.methodLink RX8 92 yX8_typeOfLetters ∈ lwG := lwG_of (tG3 (List.mem_of_getElem? (i := 89) (by decide +kernel))) rfl
theorem im_yX8_typeOfLetters : Cond.instanceMethod yX8_typeOfLetters ∈ lwG := lwG_of (tG3 (List.mem_of_getElem? (i := 91) (by decide +kernel))) rfl
theorem co_yX8_typeOfLetters : Cond.code yX8_typeOfLetters cX8_typeOfLetters 4 (some .int) ∈ lwG := lwG_of (tG3 (List.mem_of_getElem? (i := 92) rfl)) rfl
theorem ml_RX8_61 : Cond.methodLink RX8 61 yX8_addToken ∈ lwG := lwG_of (tG3 (List.mem_of_getElem? (i := 93) (by decide +kernel))) rfl
theorem im_yX8_addToken : Cond.instanceMethod yX8_addToken ∈ lwG := lwG_of (tG3 (List.mem_of_getElem? (i := 95) (by decide +kernel))) rfl
theorem co_yX8_addToken : Cond.code yX8_addToken cX8_addToken 5 none ∈ lwG := lwG_of (tG3 (List.mem_of_getElem? (i := 96) rfl)) rfl
theorem ml_RX8_83 : Cond.methodLink RX8 83 yX8_isDigit ∈ lwG := lwG_of (tG3 (List.mem_of_getElem? (i := 97) (by decide +kernel))) rfl
theorem sm_yX8_isDigit : Cond.static yX8_isDigit ∈ lwG := lwG_of (tG3 (List.mem_of_getElem? (i := 98) (by decide +kernel))) rfl
theorem co_yX8_isDigit : Cond.code yX8_isDigit cX8_isDigit 1 (some .boolean) ∈ lwG := lwG_of (tG3 (List.mem_of_getElem? (i := 99) rfl)) rfl
theorem ml_RX8_86 : Cond.methodLink RX8 86 yX8_splitOffDigits ∈ lwG := lwG_of (tG3 (List.mem_of_getElem? (i := 100) (by decide +kernel))) rfl
theorem im_yX8_splitOffDigits : Cond.instanceMethod yX8_splitOffDigits ∈ lwG := lwG_of (tG3 (List.mem_of_getElem? (i := 102) (by decide +kernel))) rfl
theorem co_yX8_splitOffDigits : Cond.code yX8_splitOffDigits cX8_splitOffDigits 4 (some .int) ∈ lwG := lwG_of (tG3 (List.mem_of_getElem? (i := 103) rfl)) rfl
theorem ml_RX8_89 : Cond.methodLink RX8 89 yX8_isSign ∈ lwG := lwG_of (tG3 (List.mem_of_getElem? (i := 104) (by decide +kernel))) rfl
theorem sm_yX8_isSign : Cond.static yX8_isSign ∈ lwG := lwG_of (tG3 (List.mem_of_getElem? (i := 105) (by decide +kernel))) rfl
theorem co_yX8_isSign : Cond.code yX8_isSign cX8_isSign 1 (some .boolean) ∈ lwG := lwG_of (tG3 (List.mem_of_getElem? (i := 106) rfl)) rfl
theorem ml_RX8_102 : Cond.methodLink RX8 102 yJ0_indexOf_0f7a4 ∈ lwG := lwG_of (tG3 (List.mem_of_getElem? (i := 108) (by decide +kernel))) rfl
theorem im_yJ0_indexOf_0f7a4 : Cond.instanceMethod yJ0_indexOf_0f7a4 ∈ lwG := lwG_of (tG3 (List.mem_of_getElem? (i := 109) (by decide +kernel))) rfl
theorem se_yJ0_indexOf_0f7a4 : Cond.selects RJ0 yJ0_indexOf_0f7a4 yJ0_indexOf_0f7a4 ∈ lwG := lwG_of (tG3 (List.mem_of_getElem? (i := 110) (by decide +kernel))) rfl
theorem co_yJ0_indexOf_0f7a4 : Cond.code yJ0_indexOf_0f7a4 cJ0_indexOf_0f7a4 2 (some .int) ∈ lwG := lwG_of (tG3 (List.mem_of_getElem? (i := 111) rfl)) rfl
theorem ml_RJ0_633 : Cond.methodLink RJ0 633 yJ0_indexOf_7cf53 ∈ lwG := lwG_of (tG3 (List.mem_of_getElem? (i := 112) (by decide +kernel))) rfl
theorem im_yJ0_indexOf_7cf53 : Cond.instanceMethod yJ0_indexOf_7cf53 ∈ lwG := lwG_of (tG3 (List.mem_of_getElem? (i := 113) (by decide +kernel))) rfl
theorem se_yJ0_indexOf_7cf53 : Cond.selects RJ0 yJ0_indexOf_7cf53 yJ0_indexOf_7cf53 ∈ lwG := lwG_of (tG3 (List.mem_of_getElem? (i := 114) (by decide +kernel))) rfl
theorem co_yJ0_indexOf_7cf53 : Cond.code yJ0_indexOf_7cf53 cJ0_indexOf_7cf53 3 (some .int) ∈ lwG := lwG_of (tG3 (List.mem_of_getElem? (i := 115) rfl)) rfl
theorem ml_RJ0_505 : Cond.methodLink RJ0 505 yJ0_length_8abf5 ∈ lwG := lwG_of (tG3 (List.mem_of_getElem? (i := 116) (by decide +kernel))) rfl
theorem ml_RJ0_637 : Cond.methodLink RJ0 637 yJ1_indexOf_4cfef ∈ lwG := lwG_of (tG3 (List.mem_of_getElem? (i := 117) (by decide +kernel))) rfl
theorem sm_yJ1_indexOf_4cfef : Cond.static yJ1_indexOf_4cfef ∈ lwG := lwG_of (tG3 (List.mem_of_getElem? (i := 118) (by decide +kernel))) rfl
theorem co_yJ1_indexOf_4cfef : Cond.code yJ1_indexOf_4cfef cJ1_indexOf_4cfef 4 (some .int) ∈ lwG := lwG_of (tG3 (List.mem_of_getElem? (i := 119) rfl)) rfl
theorem ml_RJ1_88 : Cond.methodLink RJ1 88 yJ1_canEncode_9a6ad ∈ lwG := lwG_of (tG3 (List.mem_of_getElem? (i := 120) (by decide +kernel))) rfl
theorem sm_yJ1_canEncode_9a6ad : Cond.static yJ1_canEncode_9a6ad ∈ lwG := lwG_of (tG3 (List.mem_of_getElem? (i := 121) (by decide +kernel))) rfl
theorem co_yJ1_canEncode_9a6ad : Cond.code yJ1_canEncode_9a6ad cJ1_canEncode_9a6ad 1 (some .boolean) ∈ lwG := lwG_of (tG3 (List.mem_of_getElem? (i := 122) rfl)) rfl
theorem ml_RJ1_92 : Cond.methodLink RJ1 92 yJ9_max_7cf53 ∈ lwG := lwG_of (tG3 (List.mem_of_getElem? (i := 123) (by decide +kernel))) rfl
theorem sm_yJ9_max_7cf53 : Cond.static yJ9_max_7cf53 ∈ lwG := lwG_of (tG3 (List.mem_of_getElem? (i := 124) (by decide +kernel))) rfl
theorem co_yJ9_max_7cf53 : Cond.code yJ9_max_7cf53 cJ9_max_7cf53 2 (some .int) ∈ lwG := lwG_of (tG3 (List.mem_of_getElem? (i := 125) rfl)) rfl
theorem ml_RJ1_38 : Cond.methodLink RJ1 38 yJ9_min_7cf53 ∈ lwG := lwG_of (tG3 (List.mem_of_getElem? (i := 126) (by decide +kernel))) rfl
theorem sm_yJ9_min_7cf53 : Cond.static yJ9_min_7cf53 ∈ lwG := lwG_of (tG3 (List.mem_of_getElem? (i := 127) (by decide +kernel))) rfl
theorem co_yJ9_min_7cf53 : Cond.code yJ9_min_7cf53 cJ9_min_7cf53 2 (some .int) ∈ lwG := lwG_of (tG3 (List.mem_of_getElem? (i := 128) rfl)) rfl
theorem ml_RJ1_95 : Cond.methodLink RJ1 95 yJ1_indexOfChar_4cfef ∈ lwG := lwG_of (tG3 (List.mem_of_getElem? (i := 129) (by decide +kernel))) rfl
theorem sm_yJ1_indexOfChar_4cfef : Cond.static yJ1_indexOfChar_4cfef ∈ lwG := lwG_of (tG3 (List.mem_of_getElem? (i := 130) (by decide +kernel))) rfl
theorem co_yJ1_indexOfChar_4cfef : Cond.code yJ1_indexOfChar_4cfef cJ1_indexOfChar_4cfef 6 (some .int) ∈ lwG := lwG_of (tG3 (List.mem_of_getElem? (i := 131) rfl)) rfl
theorem ml_RJ0_640 : Cond.methodLink RJ0 640 yJ2_indexOf_4cfef ∈ lwG := lwG_of (tG3 (List.mem_of_getElem? (i := 132) (by decide +kernel))) rfl
theorem sm_yJ2_indexOf_4cfef : Cond.static yJ2_indexOf_4cfef ∈ lwG := lwG_of (tG3 (List.mem_of_getElem? (i := 133) (by decide +kernel))) rfl
theorem co_yJ2_indexOf_4cfef : Cond.code yJ2_indexOf_4cfef cJ2_indexOf_4cfef 4 (some .int) ∈ lwG := lwG_of (tG3 (List.mem_of_getElem? (i := 134) rfl)) rfl
theorem ml_RJ2_224 : Cond.methodLink RJ2 224 yJ9_max_7cf53 ∈ lwG := lwG_of (tG3 (List.mem_of_getElem? (i := 135) (by decide +kernel))) rfl
theorem ml_RJ2_183 : Cond.methodLink RJ2 183 yJ9_min_7cf53 ∈ lwG := lwG_of (tG3 (List.mem_of_getElem? (i := 136) (by decide +kernel))) rfl
theorem kc_RJ2_227 : Cond.constant RJ2 227 (65536) ∈ lwG := lwG_of (tG3 (List.mem_of_getElem? (i := 137) (by decide +kernel))) rfl
theorem ml_RJ2_228 : Cond.methodLink RJ2 228 yJ2_indexOfChar_4cfef ∈ lwG := lwG_of (tG3 (List.mem_of_getElem? (i := 138) (by decide +kernel))) rfl
theorem sm_yJ2_indexOfChar_4cfef : Cond.static yJ2_indexOfChar_4cfef ∈ lwG := lwG_of (tG3 (List.mem_of_getElem? (i := 139) (by decide +kernel))) rfl
theorem co_yJ2_indexOfChar_4cfef : Cond.code yJ2_indexOfChar_4cfef cJ2_indexOfChar_4cfef 4 (some .int) ∈ lwG := lwG_of (tG3 (List.mem_of_getElem? (i := 140) rfl)) rfl
theorem ml_RJ2_96 : Cond.methodLink RJ2 96 yJ2_checkBoundsBeginEnd_d044e ∈ lwG := lwG_of (tG3 (List.mem_of_getElem? (i := 141) (by decide +kernel))) rfl
theorem sm_yJ2_checkBoundsBeginEnd_d044e : Cond.static yJ2_checkBoundsBeginEnd_d044e ∈ lwG := lwG_of (tG3 (List.mem_of_getElem? (i := 142) (by decide +kernel))) rfl
theorem co_yJ2_checkBoundsBeginEnd_d044e : Cond.code yJ2_checkBoundsBeginEnd_d044e cJ2_checkBoundsBeginEnd_d044e 3 none ∈ lwG := lwG_of (tG3 (List.mem_of_getElem? (i := 143) rfl)) rfl
theorem ml_RJ2_241 : Cond.methodLink RJ2 241 yJ0_checkBoundsBeginEnd_23922 ∈ lwG := lwG_of (tG3 (List.mem_of_getElem? (i := 144) (by decide +kernel))) rfl
theorem sm_yJ0_checkBoundsBeginEnd_23922 : Cond.static yJ0_checkBoundsBeginEnd_23922 ∈ lwG := lwG_of (tG3 (List.mem_of_getElem? (i := 145) (by decide +kernel))) rfl
theorem co_yJ0_checkBoundsBeginEnd_23922 : Cond.code yJ0_checkBoundsBeginEnd_23922 cJ0_checkBoundsBeginEnd_23922 3 none ∈ lwG := lwG_of (tG3 (List.mem_of_getElem? (i := 146) rfl)) rfl
theorem ml_RJ0_1062 : Cond.methodLink RJ0 1062 yJ3_checkFromToIndex_8c36e ∈ lwG := lwG_of (tG3 (List.mem_of_getElem? (i := 147) (by decide +kernel))) rfl
theorem sm_yJ3_checkFromToIndex_8c36e : Cond.static yJ3_checkFromToIndex_8c36e ∈ lwG := lwG_of (tG3 (List.mem_of_getElem? (i := 148) (by decide +kernel))) rfl
theorem co_yJ3_checkFromToIndex_8c36e : Cond.code yJ3_checkFromToIndex_8c36e cJ3_checkFromToIndex_8c36e 4 (some .int) ∈ lwG := lwG_of (tG3 (List.mem_of_getElem? (i := 149) rfl)) rfl
theorem ml_RJ2_244 : Cond.methodLink RJ2 244 yJ2_indexOfCharUnsafe_4cfef ∈ lwG := lwG_of (tG3 (List.mem_of_getElem? (i := 150) (by decide +kernel))) rfl
theorem sm_yJ2_indexOfCharUnsafe_4cfef : Cond.static yJ2_indexOfCharUnsafe_4cfef ∈ lwG := lwG_of (tG3 (List.mem_of_getElem? (i := 151) (by decide +kernel))) rfl
theorem co_yJ2_indexOfCharUnsafe_4cfef : Cond.code yJ2_indexOfCharUnsafe_4cfef cJ2_indexOfCharUnsafe_4cfef 5 (some .int) ∈ lwG := lwG_of (tG3 (List.mem_of_getElem? (i := 152) rfl)) rfl
theorem ml_RJ2_232 : Cond.methodLink RJ2 232 yJ2_indexOfSupplementary_4cfef ∈ lwG := lwG_of (tG3 (List.mem_of_getElem? (i := 153) (by decide +kernel))) rfl
theorem sm_yJ2_indexOfSupplementary_4cfef : Cond.static yJ2_indexOfSupplementary_4cfef ∈ lwG := lwG_of (tG3 (List.mem_of_getElem? (i := 154) (by decide +kernel))) rfl
theorem co_yJ2_indexOfSupplementary_4cfef : Cond.code yJ2_indexOfSupplementary_4cfef cJ2_indexOfSupplementary_4cfef 7 (some .int) ∈ lwG := lwG_of (tG3 (List.mem_of_getElem? (i := 155) rfl)) rfl
theorem ml_RJ2_164 : Cond.methodLink RJ2 164 yJ11_isValidCodePoint_9a6ad ∈ lwG := lwG_of (tG3 (List.mem_of_getElem? (i := 156) (by decide +kernel))) rfl
theorem sm_yJ11_isValidCodePoint_9a6ad : Cond.static yJ11_isValidCodePoint_9a6ad ∈ lwG := lwG_of (tG3 (List.mem_of_getElem? (i := 157) (by decide +kernel))) rfl
theorem co_yJ11_isValidCodePoint_9a6ad : Cond.code yJ11_isValidCodePoint_9a6ad cJ11_isValidCodePoint_9a6ad 2 (some .boolean) ∈ lwG := lwG_of (tG3 (List.mem_of_getElem? (i := 158) rfl)) rfl
theorem ml_RJ2_157 : Cond.methodLink RJ2 157 yJ11_highSurrogate_5068e ∈ lwG := lwG_of (tG3 (List.mem_of_getElem? (i := 159) (by decide +kernel))) rfl
theorem sm_yJ11_highSurrogate_5068e : Cond.static yJ11_highSurrogate_5068e ∈ lwG := lwG_of (tG3 (List.mem_of_getElem? (i := 160) (by decide +kernel))) rfl
theorem co_yJ11_highSurrogate_5068e : Cond.code yJ11_highSurrogate_5068e cJ11_highSurrogate_5068e 1 (some .char) ∈ lwG := lwG_of (tG3 (List.mem_of_getElem? (i := 161) rfl)) rfl
theorem kc_RJ11_110 : Cond.constant RJ11 110 (55232) ∈ lwG := lwG_of (tG3 (List.mem_of_getElem? (i := 162) (by decide +kernel))) rfl
theorem ml_RJ2_161 : Cond.methodLink RJ2 161 yJ11_lowSurrogate_5068e ∈ lwG := lwG_of (tG3 (List.mem_of_getElem? (i := 163) (by decide +kernel))) rfl
theorem sm_yJ11_lowSurrogate_5068e : Cond.static yJ11_lowSurrogate_5068e ∈ lwG := lwG_of (tG3 (List.mem_of_getElem? (i := 164) (by decide +kernel))) rfl
theorem co_yJ11_lowSurrogate_5068e : Cond.code yJ11_lowSurrogate_5068e cJ11_lowSurrogate_5068e 1 (some .char) ∈ lwG := lwG_of (tG3 (List.mem_of_getElem? (i := 165) rfl)) rfl
theorem kc_RJ11_76 : Cond.constant RJ11 76 (56320) ∈ lwG := lwG_of (tG3 (List.mem_of_getElem? (i := 166) (by decide +kernel))) rfl
theorem ml_RX11_100 : Cond.methodLink RX11 100 yX0_check ∈ lwG := lwG_of (tG3 (List.mem_of_getElem? (i := 167) (by decide +kernel))) rfl
theorem im_yX0_check : Cond.instanceMethod yX0_check ∈ lwG := lwG_of (tG3 (List.mem_of_getElem? (i := 168) (by decide +kernel))) rfl
theorem se_yX0_check : Cond.selects RX0 yX0_check yX0_check ∈ lwG := lwG_of (tG3 (List.mem_of_getElem? (i := 169) (by decide +kernel))) rfl
theorem co_yX0_check : Cond.code yX0_check cX0_check 3 (some .int) ∈ lwG := lwG_of (tG3 (List.mem_of_getElem? (i := 170) rfl)) rfl
theorem ml_RX0_25 : Cond.methodLink RX0 25 yX2_clear ∈ lwG := lwG_of (tG3 (List.mem_of_getElem? (i := 171) (by decide +kernel))) rfl
theorem ml_RX0_32 : Cond.methodLink RX0 32 yX8_typeAt ∈ lwG := lwG_of (tG3 (List.mem_of_getElem? (i := 172) (by decide +kernel))) rfl
theorem im_yX8_typeAt : Cond.instanceMethod yX8_typeAt ∈ lwG := lwG_of (tG3 (List.mem_of_getElem? (i := 173) (by decide +kernel))) rfl
theorem se_yX8_typeAt : Cond.selects RX8 yX8_typeAt yX8_typeAt ∈ lwG := lwG_of (tG3 (List.mem_of_getElem? (i := 174) (by decide +kernel))) rfl
theorem co_yX8_typeAt : Cond.code yX8_typeAt cX8_typeAt 2 (some .int) ∈ lwG := lwG_of (tG3 (List.mem_of_getElem? (i := 175) rfl)) rfl
theorem ml_RX0_51 : Cond.methodLink RX0 51 yX0_step ∈ lwG := lwG_of (tG3 (List.mem_of_getElem? (i := 176) (by decide +kernel))) rfl
theorem im_yX0_step : Cond.instanceMethod yX0_step ∈ lwG := lwG_of (tG3 (List.mem_of_getElem? (i := 178) (by decide +kernel))) rfl
theorem co_yX0_step : Cond.code yX0_step cX0_step 2 (some .boolean) ∈ lwG := lwG_of (tG3 (List.mem_of_getElem? (i := 179) rfl)) rfl
theorem ml_RX0_74 : Cond.methodLink RX0 74 yX0_fail ∈ lwG := lwG_of (tG3 (List.mem_of_getElem? (i := 180) (by decide +kernel))) rfl
theorem im_yX0_fail : Cond.instanceMethod yX0_fail ∈ lwG := lwG_of (tG3 (List.mem_of_getElem? (i := 182) (by decide +kernel))) rfl
theorem co_yX0_fail : Cond.code yX0_fail cX0_fail 2 (some .boolean) ∈ lwG := lwG_of (tG3 (List.mem_of_getElem? (i := 183) rfl)) rfl
theorem ml_RX0_55 : Cond.methodLink RX0 55 yX0_wholeLaw ∈ lwG := lwG_of (tG3 (List.mem_of_getElem? (i := 184) (by decide +kernel))) rfl
theorem im_yX0_wholeLaw : Cond.instanceMethod yX0_wholeLaw ∈ lwG := lwG_of (tG3 (List.mem_of_getElem? (i := 186) (by decide +kernel))) rfl
theorem co_yX0_wholeLaw : Cond.code yX0_wholeLaw cX0_wholeLaw 4 (some .boolean) ∈ lwG := lwG_of (tG3 (List.mem_of_getElem? (i := 187) rfl)) rfl
theorem ml_RX0_77 : Cond.methodLink RX0 77 yX0_addIf ∈ lwG := lwG_of (tG3 (List.mem_of_getElem? (i := 188) (by decide +kernel))) rfl
theorem im_yX0_addIf : Cond.instanceMethod yX0_addIf ∈ lwG := lwG_of (tG3 (List.mem_of_getElem? (i := 190) (by decide +kernel))) rfl
theorem co_yX0_addIf : Cond.code yX0_addIf cX0_addIf 1 (some .boolean) ∈ lwG := lwG_of (tG3 (List.mem_of_getElem? (i := 191) rfl)) rfl
theorem ml_RX0_80 : Cond.methodLink RX0 80 yX0_sum ∈ lwG := lwG_of (tG3 (List.mem_of_getElem? (i := 192) (by decide +kernel))) rfl
theorem im_yX0_sum : Cond.instanceMethod yX0_sum ∈ lwG := lwG_of (tG3 (List.mem_of_getElem? (i := 194) (by decide +kernel))) rfl
theorem co_yX0_sum : Cond.code yX0_sum cX0_sum 5 (some .boolean) ∈ lwG := lwG_of (tG3 (List.mem_of_getElem? (i := 195) rfl)) rfl
theorem ml_RX0_91 : Cond.methodLink RX0 91 yX0_product ∈ lwG := lwG_of (tG3 (List.mem_of_getElem? (i := 196) (by decide +kernel))) rfl
theorem im_yX0_product : Cond.instanceMethod yX0_product ∈ lwG := lwG_of (tG3 (List.mem_of_getElem? (i := 198) (by decide +kernel))) rfl
theorem co_yX0_product : Cond.code yX0_product cX0_product 5 (some .boolean) ∈ lwG := lwG_of (tG3 (List.mem_of_getElem? (i := 199) rfl)) rfl
theorem ml_RX0_94 : Cond.methodLink RX0 94 yX0_unit ∈ lwG := lwG_of (tG3 (List.mem_of_getElem? (i := 200) (by decide +kernel))) rfl
theorem im_yX0_unit : Cond.instanceMethod yX0_unit ∈ lwG := lwG_of (tG3 (List.mem_of_getElem? (i := 202) (by decide +kernel))) rfl
theorem co_yX0_unit : Cond.code yX0_unit cX0_unit 2 (some .boolean) ∈ lwG := lwG_of (tG3 (List.mem_of_getElem? (i := 203) rfl)) rfl
theorem ml_RX0_97 : Cond.methodLink RX0 97 yX8_intAt ∈ lwG := lwG_of (tG3 (List.mem_of_getElem? (i := 204) (by decide +kernel))) rfl
theorem im_yX8_intAt : Cond.instanceMethod yX8_intAt ∈ lwG := lwG_of (tG3 (List.mem_of_getElem? (i := 205) (by decide +kernel))) rfl
theorem se_yX8_intAt : Cond.selects RX8 yX8_intAt yX8_intAt ∈ lwG := lwG_of (tG3 (List.mem_of_getElem? (i := 206) (by decide +kernel))) rfl
theorem co_yX8_intAt : Cond.code yX8_intAt cX8_intAt 2 (some .int) ∈ lwG := lwG_of (tG3 (List.mem_of_getElem? (i := 207) rfl)) rfl
theorem sm_yX11_longAt : Cond.static yX11_longAt ∈ lwG := lwG_of (tG3 (List.mem_of_getElem? (i := 209) (by decide +kernel))) rfl
theorem co_yX11_longAt : Cond.code yX11_longAt cX11_longAt 2 (some .long) ∈ lwG := lwG_of (tG3 (List.mem_of_getElem? (i := 210) rfl)) rfl
theorem ml_RX0_83 : Cond.methodLink RX0 83 yX2_write ∈ lwG := lwG_of (tG3 (List.mem_of_getElem? (i := 211) (by decide +kernel))) rfl
theorem im_yX2_write : Cond.instanceMethod yX2_write ∈ lwG := lwG_of (tG3 (List.mem_of_getElem? (i := 212) (by decide +kernel))) rfl
theorem se_yX2_write : Cond.selects RX2 yX2_write yX2_write ∈ lwG := lwG_of (tG3 (List.mem_of_getElem? (i := 213) (by decide +kernel))) rfl
theorem co_yX2_write : Cond.code yX2_write cX2_write 3 (some .int) ∈ lwG := lwG_of (tG3 (List.mem_of_getElem? (i := 214) rfl)) rfl
theorem ml_RX0_87 : Cond.methodLink RX0 87 yX2_aim ∈ lwG := lwG_of (tG3 (List.mem_of_getElem? (i := 216) (by decide +kernel))) rfl
theorem im_yX2_aim : Cond.instanceMethod yX2_aim ∈ lwG := lwG_of (tG3 (List.mem_of_getElem? (i := 217) (by decide +kernel))) rfl
theorem se_yX2_aim : Cond.selects RX2 yX2_aim yX2_aim ∈ lwG := lwG_of (tG3 (List.mem_of_getElem? (i := 218) (by decide +kernel))) rfl
theorem co_yX2_aim : Cond.code yX2_aim cX2_aim 2 none ∈ lwG := lwG_of (tG3 (List.mem_of_getElem? (i := 219) rfl)) rfl
theorem ml_RX0_59 : Cond.methodLink RX0 59 yX0_tell ∈ lwG := lwG_of (tG3 (List.mem_of_getElem? (i := 220) (by decide +kernel))) rfl
theorem im_yX0_tell : Cond.instanceMethod yX0_tell ∈ lwG := lwG_of (tG3 (List.mem_of_getElem? (i := 222) (by decide +kernel))) rfl
theorem co_yX0_tell : Cond.code yX0_tell cX0_tell 1 (some .boolean) ∈ lwG := lwG_of (tG3 (List.mem_of_getElem? (i := 223) rfl)) rfl
theorem ml_RX0_62 : Cond.methodLink RX0 62 yX0_addKinds ∈ lwG := lwG_of (tG3 (List.mem_of_getElem? (i := 224) (by decide +kernel))) rfl
theorem im_yX0_addKinds : Cond.instanceMethod yX0_addKinds ∈ lwG := lwG_of (tG3 (List.mem_of_getElem? (i := 226) (by decide +kernel))) rfl
theorem co_yX0_addKinds : Cond.code yX0_addKinds cX0_addKinds 2 (some .boolean) ∈ lwG := lwG_of (tG3 (List.mem_of_getElem? (i := 227) rfl)) rfl
theorem ml_RX0_65 : Cond.methodLink RX0 65 yX0_addLike ∈ lwG := lwG_of (tG3 (List.mem_of_getElem? (i := 228) (by decide +kernel))) rfl
theorem im_yX0_addLike : Cond.instanceMethod yX0_addLike ∈ lwG := lwG_of (tG3 (List.mem_of_getElem? (i := 230) (by decide +kernel))) rfl
theorem co_yX0_addLike : Cond.code yX0_addLike cX0_addLike 1 (some .boolean) ∈ lwG := lwG_of (tG3 (List.mem_of_getElem? (i := 231) rfl)) rfl
theorem ml_RX0_68 : Cond.methodLink RX0 68 yX0_wayOfFull ∈ lwG := lwG_of (tG3 (List.mem_of_getElem? (i := 232) (by decide +kernel))) rfl
theorem im_yX0_wayOfFull : Cond.instanceMethod yX0_wayOfFull ∈ lwG := lwG_of (tG3 (List.mem_of_getElem? (i := 234) (by decide +kernel))) rfl
theorem co_yX0_wayOfFull : Cond.code yX0_wayOfFull cX0_wayOfFull 1 (some .boolean) ∈ lwG := lwG_of (tG3 (List.mem_of_getElem? (i := 235) rfl)) rfl
theorem ml_RX0_71 : Cond.methodLink RX0 71 yX0_sides ∈ lwG := lwG_of (tG3 (List.mem_of_getElem? (i := 236) (by decide +kernel))) rfl
theorem im_yX0_sides : Cond.instanceMethod yX0_sides ∈ lwG := lwG_of (tG3 (List.mem_of_getElem? (i := 238) (by decide +kernel))) rfl
theorem co_yX0_sides : Cond.code yX0_sides cX0_sides 3 (some .boolean) ∈ lwG := lwG_of (tG3 (List.mem_of_getElem? (i := 239) rfl)) rfl
theorem ml_RX11_107 : Cond.methodLink RX11 107 yX9_tellAll ∈ lwG := lwG_of (tG4 (List.mem_of_getElem? (i := 0) (by decide +kernel))) rfl
theorem im_yX9_tellAll : Cond.instanceMethod yX9_tellAll ∈ lwG := lwG_of (tG4 (List.mem_of_getElem? (i := 1) (by decide +kernel))) rfl
theorem se_yX9_tellAll : Cond.selects RX9 yX9_tellAll yX9_tellAll ∈ lwG := lwG_of (tG4 (List.mem_of_getElem? (i := 2) (by decide +kernel))) rfl
theorem co_yX9_tellAll : Cond.code yX9_tellAll cX9_tellAll 2 (some .int) ∈ lwG := lwG_of (tG4 (List.mem_of_getElem? (i := 3) rfl)) rfl
theorem ml_RX9_30 : Cond.methodLink RX9 30 yX10_clear ∈ lwG := lwG_of (tG4 (List.mem_of_getElem? (i := 4) (by decide +kernel))) rfl
theorem ml_RX9_38 : Cond.methodLink RX9 38 yX2_become ∈ lwG := lwG_of (tG4 (List.mem_of_getElem? (i := 5) (by decide +kernel))) rfl
theorem im_yX2_become : Cond.instanceMethod yX2_become ∈ lwG := lwG_of (tG4 (List.mem_of_getElem? (i := 6) (by decide +kernel))) rfl
theorem se_yX2_become : Cond.selects RX2 yX2_become yX2_become ∈ lwG := lwG_of (tG4 (List.mem_of_getElem? (i := 7) (by decide +kernel))) rfl
theorem co_yX2_become : Cond.code yX2_become cX2_become 2 none ∈ lwG := lwG_of (tG4 (List.mem_of_getElem? (i := 8) rfl)) rfl
theorem sm_yX11_copyRow : Cond.static yX11_copyRow ∈ lwG := lwG_of (tG4 (List.mem_of_getElem? (i := 10) (by decide +kernel))) rfl
theorem co_yX11_copyRow : Cond.code yX11_copyRow cX11_copyRow 3 none ∈ lwG := lwG_of (tG4 (List.mem_of_getElem? (i := 11) rfl)) rfl
theorem ml_RX9_56 : Cond.methodLink RX9 56 yX9_tell ∈ lwG := lwG_of (tG4 (List.mem_of_getElem? (i := 12) (by decide +kernel))) rfl
theorem im_yX9_tell : Cond.instanceMethod yX9_tell ∈ lwG := lwG_of (tG4 (List.mem_of_getElem? (i := 14) (by decide +kernel))) rfl
theorem co_yX9_tell : Cond.code yX9_tell cX9_tell 2 none ∈ lwG := lwG_of (tG4 (List.mem_of_getElem? (i := 15) rfl)) rfl
theorem ml_RX9_60 : Cond.methodLink RX9 60 yX8_typeAt ∈ lwG := lwG_of (tG4 (List.mem_of_getElem? (i := 16) (by decide +kernel))) rfl
theorem ml_RX9_64 : Cond.methodLink RX9 64 yX9_tellSock ∈ lwG := lwG_of (tG4 (List.mem_of_getElem? (i := 17) (by decide +kernel))) rfl
theorem im_yX9_tellSock : Cond.instanceMethod yX9_tellSock ∈ lwG := lwG_of (tG4 (List.mem_of_getElem? (i := 19) (by decide +kernel))) rfl
theorem co_yX9_tellSock : Cond.code yX9_tellSock cX9_tellSock 3 none ∈ lwG := lwG_of (tG4 (List.mem_of_getElem? (i := 20) rfl)) rfl
theorem ml_RX9_95 : Cond.methodLink RX9 95 yX9_newName ∈ lwG := lwG_of (tG4 (List.mem_of_getElem? (i := 21) (by decide +kernel))) rfl
theorem im_yX9_newName : Cond.instanceMethod yX9_newName ∈ lwG := lwG_of (tG4 (List.mem_of_getElem? (i := 23) (by decide +kernel))) rfl
theorem co_yX9_newName : Cond.code yX9_newName cX9_newName 2 none ∈ lwG := lwG_of (tG4 (List.mem_of_getElem? (i := 24) rfl)) rfl
theorem ml_RX9_115 : Cond.methodLink RX9 115 yX8_valueAt ∈ lwG := lwG_of (tG4 (List.mem_of_getElem? (i := 25) (by decide +kernel))) rfl
theorem im_yX8_valueAt : Cond.instanceMethod yX8_valueAt ∈ lwG := lwG_of (tG4 (List.mem_of_getElem? (i := 26) (by decide +kernel))) rfl
theorem se_yX8_valueAt : Cond.selects RX8 yX8_valueAt yX8_valueAt ∈ lwG := lwG_of (tG4 (List.mem_of_getElem? (i := 27) (by decide +kernel))) rfl
theorem co_yX8_valueAt : Cond.code yX8_valueAt cX8_valueAt 2 (some .long) ∈ lwG := lwG_of (tG4 (List.mem_of_getElem? (i := 28) rfl)) rfl
theorem ml_RX9_150 : Cond.methodLink RX9 150 yX10_find ∈ lwG := lwG_of (tG4 (List.mem_of_getElem? (i := 29) (by decide +kernel))) rfl
theorem im_yX10_find : Cond.instanceMethod yX10_find ∈ lwG := lwG_of (tG4 (List.mem_of_getElem? (i := 30) (by decide +kernel))) rfl
theorem se_yX10_find : Cond.selects RX10 yX10_find yX10_find ∈ lwG := lwG_of (tG4 (List.mem_of_getElem? (i := 31) (by decide +kernel))) rfl
theorem co_yX10_find : Cond.code yX10_find cX10_find 4 (some .int) ∈ lwG := lwG_of (tG4 (List.mem_of_getElem? (i := 32) rfl)) rfl
theorem ml_RX9_105 : Cond.methodLink RX9 105 yX9_fail ∈ lwG := lwG_of (tG4 (List.mem_of_getElem? (i := 33) (by decide +kernel))) rfl
theorem im_yX9_fail : Cond.instanceMethod yX9_fail ∈ lwG := lwG_of (tG4 (List.mem_of_getElem? (i := 35) (by decide +kernel))) rfl
theorem co_yX9_fail : Cond.code yX9_fail cX9_fail 3 none ∈ lwG := lwG_of (tG4 (List.mem_of_getElem? (i := 36) rfl)) rfl
theorem ml_RX9_73 : Cond.methodLink RX9 73 yX9_number ∈ lwG := lwG_of (tG4 (List.mem_of_getElem? (i := 37) (by decide +kernel))) rfl
theorem im_yX9_number : Cond.instanceMethod yX9_number ∈ lwG := lwG_of (tG4 (List.mem_of_getElem? (i := 39) (by decide +kernel))) rfl
theorem co_yX9_number : Cond.code yX9_number cX9_number 5 (some .int) ∈ lwG := lwG_of (tG4 (List.mem_of_getElem? (i := 40) rfl)) rfl
theorem ml_RX9_89 : Cond.methodLink RX9 89 yX8_intAt ∈ lwG := lwG_of (tG4 (List.mem_of_getElem? (i := 41) (by decide +kernel))) rfl
theorem sm_yX11_total : Cond.static yX11_total ∈ lwG := lwG_of (tG4 (List.mem_of_getElem? (i := 43) (by decide +kernel))) rfl
theorem co_yX11_total : Cond.code yX11_total cX11_total 3 (some .int) ∈ lwG := lwG_of (tG4 (List.mem_of_getElem? (i := 44) rfl)) rfl
theorem ml_RX9_112 : Cond.methodLink RX9 112 yX10_addKind ∈ lwG := lwG_of (tG4 (List.mem_of_getElem? (i := 45) (by decide +kernel))) rfl
theorem im_yX10_addKind : Cond.instanceMethod yX10_addKind ∈ lwG := lwG_of (tG4 (List.mem_of_getElem? (i := 46) (by decide +kernel))) rfl
theorem se_yX10_addKind : Cond.selects RX10 yX10_addKind yX10_addKind ∈ lwG := lwG_of (tG4 (List.mem_of_getElem? (i := 47) (by decide +kernel))) rfl
theorem co_yX10_addKind : Cond.code yX10_addKind cX10_addKind 3 none ∈ lwG := lwG_of (tG4 (List.mem_of_getElem? (i := 48) rfl)) rfl
theorem ml_RX9_119 : Cond.methodLink RX9 119 yX10_addName ∈ lwG := lwG_of (tG4 (List.mem_of_getElem? (i := 49) (by decide +kernel))) rfl
theorem im_yX10_addName : Cond.instanceMethod yX10_addName ∈ lwG := lwG_of (tG4 (List.mem_of_getElem? (i := 50) (by decide +kernel))) rfl
theorem se_yX10_addName : Cond.selects RX10 yX10_addName yX10_addName ∈ lwG := lwG_of (tG4 (List.mem_of_getElem? (i := 51) (by decide +kernel))) rfl
theorem co_yX10_addName : Cond.code yX10_addName cX10_addName 4 none ∈ lwG := lwG_of (tG4 (List.mem_of_getElem? (i := 52) rfl)) rfl
theorem ml_RX9_67 : Cond.methodLink RX9 67 yX9_tellGlove ∈ lwG := lwG_of (tG4 (List.mem_of_getElem? (i := 53) (by decide +kernel))) rfl
theorem im_yX9_tellGlove : Cond.instanceMethod yX9_tellGlove ∈ lwG := lwG_of (tG4 (List.mem_of_getElem? (i := 55) (by decide +kernel))) rfl
theorem co_yX9_tellGlove : Cond.code yX9_tellGlove cX9_tellGlove 4 none ∈ lwG := lwG_of (tG4 (List.mem_of_getElem? (i := 56) rfl)) rfl
theorem ml_RX9_70 : Cond.methodLink RX9 70 yX9_tellLike ∈ lwG := lwG_of (tG4 (List.mem_of_getElem? (i := 57) (by decide +kernel))) rfl
theorem im_yX9_tellLike : Cond.instanceMethod yX9_tellLike ∈ lwG := lwG_of (tG4 (List.mem_of_getElem? (i := 59) (by decide +kernel))) rfl
theorem co_yX9_tellLike : Cond.code yX9_tellLike cX9_tellLike 5 none ∈ lwG := lwG_of (tG4 (List.mem_of_getElem? (i := 60) rfl)) rfl
theorem ml_RX9_123 : Cond.methodLink RX9 123 yX9_oldName ∈ lwG := lwG_of (tG4 (List.mem_of_getElem? (i := 61) (by decide +kernel))) rfl
theorem im_yX9_oldName : Cond.instanceMethod yX9_oldName ∈ lwG := lwG_of (tG4 (List.mem_of_getElem? (i := 63) (by decide +kernel))) rfl
theorem co_yX9_oldName : Cond.code yX9_oldName cX9_oldName 3 (some .int) ∈ lwG := lwG_of (tG4 (List.mem_of_getElem? (i := 64) rfl)) rfl
theorem ml_RX9_126 : Cond.methodLink RX9 126 yX10_tellUnlike ∈ lwG := lwG_of (tG4 (List.mem_of_getElem? (i := 65) (by decide +kernel))) rfl
theorem im_yX10_tellUnlike : Cond.instanceMethod yX10_tellUnlike ∈ lwG := lwG_of (tG4 (List.mem_of_getElem? (i := 66) (by decide +kernel))) rfl
theorem se_yX10_tellUnlike : Cond.selects RX10 yX10_tellUnlike yX10_tellUnlike ∈ lwG := lwG_of (tG4 (List.mem_of_getElem? (i := 67) (by decide +kernel))) rfl
theorem co_yX10_tellUnlike : Cond.code yX10_tellUnlike cX10_tellUnlike 4 none ∈ lwG := lwG_of (tG4 (List.mem_of_getElem? (i := 68) rfl)) rfl
theorem ml_RX9_86 : Cond.methodLink RX9 86 yX9_tellLine ∈ lwG := lwG_of (tG4 (List.mem_of_getElem? (i := 69) (by decide +kernel))) rfl
theorem im_yX9_tellLine : Cond.instanceMethod yX9_tellLine ∈ lwG := lwG_of (tG4 (List.mem_of_getElem? (i := 71) (by decide +kernel))) rfl
theorem co_yX9_tellLine : Cond.code yX9_tellLine cX9_tellLine 3 none ∈ lwG := lwG_of (tG4 (List.mem_of_getElem? (i := 72) rfl)) rfl
