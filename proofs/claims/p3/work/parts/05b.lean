theorem ml_RX9_130 : Cond.methodLink RX9 130 yX10_takeLineAway ∈ lwG := lwG_of (tG4 (List.mem_of_getElem? (i := 73) (by decide +kernel))) rfl
theorem ml_RX9_133 : Cond.methodLink RX9 133 yX9_hang ∈ lwG := lwG_of (tG4 (List.mem_of_getElem? (i := 74) (by decide +kernel))) rfl
theorem im_yX9_hang : Cond.instanceMethod yX9_hang ∈ lwG := lwG_of (tG4 (List.mem_of_getElem? (i := 76) (by decide +kernel))) rfl
theorem co_yX9_hang : Cond.code yX9_hang cX9_hang 6 none ∈ lwG := lwG_of (tG4 (List.mem_of_getElem? (i := 77) rfl)) rfl
theorem ml_RX9_147 : Cond.methodLink RX9 147 yX10_hang ∈ lwG := lwG_of (tG4 (List.mem_of_getElem? (i := 79) (by decide +kernel))) rfl
theorem im_yX10_hang : Cond.instanceMethod yX10_hang ∈ lwG := lwG_of (tG4 (List.mem_of_getElem? (i := 80) (by decide +kernel))) rfl
theorem se_yX10_hang : Cond.selects RX10 yX10_hang yX10_hang ∈ lwG := lwG_of (tG4 (List.mem_of_getElem? (i := 81) (by decide +kernel))) rfl
theorem co_yX10_hang : Cond.code yX10_hang cX10_hang 2 (some .boolean) ∈ lwG := lwG_of (tG4 (List.mem_of_getElem? (i := 82) rfl)) rfl
theorem sm_yX11_add : Cond.static yX11_add ∈ lwG := lwG_of (tG4 (List.mem_of_getElem? (i := 85) (by decide +kernel))) rfl
theorem co_yX11_add : Cond.code yX11_add cX11_add 3 none ∈ lwG := lwG_of (tG4 (List.mem_of_getElem? (i := 86) rfl)) rfl
theorem ml_RX11_113 : Cond.methodLink RX11 113 yX8_startAt ∈ lwG := lwG_of (tG4 (List.mem_of_getElem? (i := 87) (by decide +kernel))) rfl
theorem im_yX8_startAt : Cond.instanceMethod yX8_startAt ∈ lwG := lwG_of (tG4 (List.mem_of_getElem? (i := 88) (by decide +kernel))) rfl
theorem se_yX8_startAt : Cond.selects RX8 yX8_startAt yX8_startAt ∈ lwG := lwG_of (tG4 (List.mem_of_getElem? (i := 89) (by decide +kernel))) rfl
theorem co_yX8_startAt : Cond.code yX8_startAt cX8_startAt 2 (some .int) ∈ lwG := lwG_of (tG4 (List.mem_of_getElem? (i := 90) rfl)) rfl
theorem ml_RX11_120 : Cond.methodLink RX11 120 yX10_become ∈ lwG := lwG_of (tG4 (List.mem_of_getElem? (i := 91) (by decide +kernel))) rfl
theorem im_yX10_become : Cond.instanceMethod yX10_become ∈ lwG := lwG_of (tG4 (List.mem_of_getElem? (i := 92) (by decide +kernel))) rfl
theorem se_yX10_become : Cond.selects RX10 yX10_become yX10_become ∈ lwG := lwG_of (tG4 (List.mem_of_getElem? (i := 93) (by decide +kernel))) rfl
theorem co_yX10_become : Cond.code yX10_become cX10_become 2 none ∈ lwG := lwG_of (tG4 (List.mem_of_getElem? (i := 94) rfl)) rfl
theorem ml_RX10_84 : Cond.methodLink RX10 84 yX2_become ∈ lwG := lwG_of (tG4 (List.mem_of_getElem? (i := 96) (by decide +kernel))) rfl
theorem ml_RX11_124 : Cond.methodLink RX11 124 yX11_beginAnew ∈ lwG := lwG_of (tG4 (List.mem_of_getElem? (i := 97) (by decide +kernel))) rfl
theorem im_yX11_beginAnew : Cond.instanceMethod yX11_beginAnew ∈ lwG := lwG_of (tG4 (List.mem_of_getElem? (i := 99) (by decide +kernel))) rfl
theorem co_yX11_beginAnew : Cond.code yX11_beginAnew cX11_beginAnew 2 none ∈ lwG := lwG_of (tG4 (List.mem_of_getElem? (i := 100) rfl)) rfl
theorem ml_RX11_290 : Cond.methodLink RX11 290 yX7_begin ∈ lwG := lwG_of (tG4 (List.mem_of_getElem? (i := 101) (by decide +kernel))) rfl
theorem im_yX7_begin : Cond.instanceMethod yX7_begin ∈ lwG := lwG_of (tG4 (List.mem_of_getElem? (i := 102) (by decide +kernel))) rfl
theorem se_yX7_begin : Cond.selects RX7 yX7_begin yX7_begin ∈ lwG := lwG_of (tG4 (List.mem_of_getElem? (i := 103) (by decide +kernel))) rfl
theorem co_yX7_begin : Cond.code yX7_begin cX7_begin 3 none ∈ lwG := lwG_of (tG4 (List.mem_of_getElem? (i := 104) rfl)) rfl
theorem ml_RX11_293 : Cond.methodLink RX11 293 yX3_begin ∈ lwG := lwG_of (tG4 (List.mem_of_getElem? (i := 106) (by decide +kernel))) rfl
theorem im_yX3_begin : Cond.instanceMethod yX3_begin ∈ lwG := lwG_of (tG4 (List.mem_of_getElem? (i := 107) (by decide +kernel))) rfl
theorem se_yX3_begin : Cond.selects RX3 yX3_begin yX3_begin ∈ lwG := lwG_of (tG4 (List.mem_of_getElem? (i := 108) (by decide +kernel))) rfl
theorem co_yX3_begin : Cond.code yX3_begin cX3_begin 3 none ∈ lwG := lwG_of (tG4 (List.mem_of_getElem? (i := 109) rfl)) rfl
theorem ml_RL_28 : Cond.methodLink RL 28 yX11_place ∈ lwG := lwG_of (tG4 (List.mem_of_getElem? (i := 111) (by decide +kernel))) rfl
theorem im_yX11_place : Cond.instanceMethod yX11_place ∈ lwG := lwG_of (tG4 (List.mem_of_getElem? (i := 112) (by decide +kernel))) rfl
theorem se_yX11_place : Cond.selects RX11 yX11_place yX11_place ∈ lwG := lwG_of (tG4 (List.mem_of_getElem? (i := 113) (by decide +kernel))) rfl
theorem co_yX11_place : Cond.code yX11_place cX11_place 1 (some .int) ∈ lwG := lwG_of (tG4 (List.mem_of_getElem? (i := 114) rfl)) rfl
theorem ml_RL_32 : Cond.methodLink RL 32 yX11_kind ∈ lwG := lwG_of (tG4 (List.mem_of_getElem? (i := 115) (by decide +kernel))) rfl
theorem im_yX11_kind : Cond.instanceMethod yX11_kind ∈ lwG := lwG_of (tG4 (List.mem_of_getElem? (i := 116) (by decide +kernel))) rfl
theorem se_yX11_kind : Cond.selects RX11 yX11_kind yX11_kind ∈ lwG := lwG_of (tG4 (List.mem_of_getElem? (i := 117) (by decide +kernel))) rfl
theorem co_yX11_kind : Cond.code yX11_kind cX11_kind 3 (some .int) ∈ lwG := lwG_of (tG4 (List.mem_of_getElem? (i := 118) rfl)) rfl
theorem ml_RX11_127 : Cond.methodLink RX11 127 yX11_isKind ∈ lwG := lwG_of (tG4 (List.mem_of_getElem? (i := 119) (by decide +kernel))) rfl
theorem im_yX11_isKind : Cond.instanceMethod yX11_isKind ∈ lwG := lwG_of (tG4 (List.mem_of_getElem? (i := 121) (by decide +kernel))) rfl
theorem co_yX11_isKind : Cond.code yX11_isKind cX11_isKind 2 (some .boolean) ∈ lwG := lwG_of (tG4 (List.mem_of_getElem? (i := 122) rfl)) rfl
theorem ml_RX11_135 : Cond.methodLink RX11 135 yX11_at ∈ lwG := lwG_of (tG4 (List.mem_of_getElem? (i := 123) (by decide +kernel))) rfl
theorem ml_RX11_151 : Cond.methodLink RX11 151 yJ9_min_7cf53 ∈ lwG := lwG_of (tG4 (List.mem_of_getElem? (i := 124) (by decide +kernel))) rfl
theorem ml_RL_37 : Cond.methodLink RL 37 yX11_unlike ∈ lwG := lwG_of (tG4 (List.mem_of_getElem? (i := 125) (by decide +kernel))) rfl
theorem im_yX11_unlike : Cond.instanceMethod yX11_unlike ∈ lwG := lwG_of (tG4 (List.mem_of_getElem? (i := 126) (by decide +kernel))) rfl
theorem se_yX11_unlike : Cond.selects RX11 yX11_unlike yX11_unlike ∈ lwG := lwG_of (tG4 (List.mem_of_getElem? (i := 127) (by decide +kernel))) rfl
theorem co_yX11_unlike : Cond.code yX11_unlike cX11_unlike 3 (some .int) ∈ lwG := lwG_of (tG4 (List.mem_of_getElem? (i := 128) rfl)) rfl
theorem ml_RX11_163 : Cond.methodLink RX11 163 yX10_unlikeness ∈ lwG := lwG_of (tG4 (List.mem_of_getElem? (i := 129) (by decide +kernel))) rfl
theorem im_yX10_unlikeness : Cond.instanceMethod yX10_unlikeness ∈ lwG := lwG_of (tG4 (List.mem_of_getElem? (i := 130) (by decide +kernel))) rfl
theorem se_yX10_unlikeness : Cond.selects RX10 yX10_unlikeness yX10_unlikeness ∈ lwG := lwG_of (tG4 (List.mem_of_getElem? (i := 131) (by decide +kernel))) rfl
theorem co_yX10_unlikeness : Cond.code yX10_unlikeness cX10_unlikeness 3 (some .int) ∈ lwG := lwG_of (tG4 (List.mem_of_getElem? (i := 132) rfl)) rfl
theorem ml_RL_41 : Cond.methodLink RL 41 yX11_draw ∈ lwG := lwG_of (tG4 (List.mem_of_getElem? (i := 133) (by decide +kernel))) rfl
theorem im_yX11_draw : Cond.instanceMethod yX11_draw ∈ lwG := lwG_of (tG4 (List.mem_of_getElem? (i := 134) (by decide +kernel))) rfl
theorem se_yX11_draw : Cond.selects RX11 yX11_draw yX11_draw ∈ lwG := lwG_of (tG4 (List.mem_of_getElem? (i := 135) (by decide +kernel))) rfl
theorem co_yX11_draw : Cond.code yX11_draw cX11_draw 2 (some .int) ∈ lwG := lwG_of (tG4 (List.mem_of_getElem? (i := 136) rfl)) rfl
theorem ml_RX11_170 : Cond.methodLink RX11 170 yX11_remember ∈ lwG := lwG_of (tG4 (List.mem_of_getElem? (i := 137) (by decide +kernel))) rfl
theorem im_yX11_remember : Cond.instanceMethod yX11_remember ∈ lwG := lwG_of (tG4 (List.mem_of_getElem? (i := 139) (by decide +kernel))) rfl
theorem co_yX11_remember : Cond.code yX11_remember cX11_remember 1 none ∈ lwG := lwG_of (tG4 (List.mem_of_getElem? (i := 140) rfl)) rfl
theorem ml_RX11_199 : Cond.methodLink RX11 199 yJ9_floorMod_7cf53 ∈ lwG := lwG_of (tG4 (List.mem_of_getElem? (i := 141) (by decide +kernel))) rfl
theorem sm_yJ9_floorMod_7cf53 : Cond.static yJ9_floorMod_7cf53 ∈ lwG := lwG_of (tG4 (List.mem_of_getElem? (i := 142) (by decide +kernel))) rfl
theorem co_yJ9_floorMod_7cf53 : Cond.code yJ9_floorMod_7cf53 cJ9_floorMod_7cf53 3 (some .int) ∈ lwG := lwG_of (tG4 (List.mem_of_getElem? (i := 143) rfl)) rfl
theorem ml_RX11_202 : Cond.methodLink RX11 202 yX7_become ∈ lwG := lwG_of (tG4 (List.mem_of_getElem? (i := 144) (by decide +kernel))) rfl
theorem im_yX7_become : Cond.instanceMethod yX7_become ∈ lwG := lwG_of (tG4 (List.mem_of_getElem? (i := 145) (by decide +kernel))) rfl
theorem se_yX7_become : Cond.selects RX7 yX7_become yX7_become ∈ lwG := lwG_of (tG4 (List.mem_of_getElem? (i := 146) (by decide +kernel))) rfl
theorem co_yX7_become : Cond.code yX7_become cX7_become 2 none ∈ lwG := lwG_of (tG4 (List.mem_of_getElem? (i := 147) rfl)) rfl
theorem ml_RX11_176 : Cond.methodLink RX11 176 yX7_drawOne ∈ lwG := lwG_of (tG4 (List.mem_of_getElem? (i := 148) (by decide +kernel))) rfl
theorem im_yX7_drawOne : Cond.instanceMethod yX7_drawOne ∈ lwG := lwG_of (tG4 (List.mem_of_getElem? (i := 149) (by decide +kernel))) rfl
theorem se_yX7_drawOne : Cond.selects RX7 yX7_drawOne yX7_drawOne ∈ lwG := lwG_of (tG4 (List.mem_of_getElem? (i := 150) (by decide +kernel))) rfl
theorem co_yX7_drawOne : Cond.code yX7_drawOne cX7_drawOne 6 (some .int) ∈ lwG := lwG_of (tG4 (List.mem_of_getElem? (i := 151) rfl)) rfl
theorem ml_RX7_49 : Cond.methodLink RX7 49 yJ9_min_7cf53 ∈ lwG := lwG_of (tG4 (List.mem_of_getElem? (i := 154) (by decide +kernel))) rfl
theorem ml_RX7_62 : Cond.methodLink RX7 62 yX7_goingBack ∈ lwG := lwG_of (tG4 (List.mem_of_getElem? (i := 156) (by decide +kernel))) rfl
theorem im_yX7_goingBack : Cond.instanceMethod yX7_goingBack ∈ lwG := lwG_of (tG4 (List.mem_of_getElem? (i := 158) (by decide +kernel))) rfl
theorem co_yX7_goingBack : Cond.code yX7_goingBack cX7_goingBack 8 (some .int) ∈ lwG := lwG_of (tG4 (List.mem_of_getElem? (i := 159) rfl)) rfl
theorem ml_RL_45 : Cond.methodLink RL 45 yX11_lot ∈ lwG := lwG_of (tG4 (List.mem_of_getElem? (i := 160) (by decide +kernel))) rfl
theorem im_yX11_lot : Cond.instanceMethod yX11_lot ∈ lwG := lwG_of (tG4 (List.mem_of_getElem? (i := 161) (by decide +kernel))) rfl
theorem se_yX11_lot : Cond.selects RX11 yX11_lot yX11_lot ∈ lwG := lwG_of (tG4 (List.mem_of_getElem? (i := 162) (by decide +kernel))) rfl
theorem co_yX11_lot : Cond.code yX11_lot cX11_lot 2 (some .int) ∈ lwG := lwG_of (tG4 (List.mem_of_getElem? (i := 163) rfl)) rfl
theorem ml_RX11_180 : Cond.methodLink RX11 180 yX11_total ∈ lwG := lwG_of (tG4 (List.mem_of_getElem? (i := 164) (by decide +kernel))) rfl
theorem ml_RX11_187 : Cond.methodLink RX11 187 yX7_pick ∈ lwG := lwG_of (tG4 (List.mem_of_getElem? (i := 165) (by decide +kernel))) rfl
theorem im_yX7_pick : Cond.instanceMethod yX7_pick ∈ lwG := lwG_of (tG4 (List.mem_of_getElem? (i := 166) (by decide +kernel))) rfl
theorem se_yX7_pick : Cond.selects RX7 yX7_pick yX7_pick ∈ lwG := lwG_of (tG4 (List.mem_of_getElem? (i := 167) (by decide +kernel))) rfl
theorem co_yX7_pick : Cond.code yX7_pick cX7_pick 4 (some .int) ∈ lwG := lwG_of (tG4 (List.mem_of_getElem? (i := 168) rfl)) rfl
theorem sm_yX11_chance : Cond.static yX11_chance ∈ lwG := lwG_of (tG4 (List.mem_of_getElem? (i := 170) (by decide +kernel))) rfl
theorem co_yX11_chance : Cond.code yX11_chance cX11_chance 4 (some .int) ∈ lwG := lwG_of (tG4 (List.mem_of_getElem? (i := 171) rfl)) rfl
theorem ml_RX11_294 : Cond.methodLink RX11 294 yX11_mixed ∈ lwG := lwG_of (tG4 (List.mem_of_getElem? (i := 172) (by decide +kernel))) rfl
theorem sm_yX11_mixed : Cond.static yX11_mixed ∈ lwG := lwG_of (tG4 (List.mem_of_getElem? (i := 173) (by decide +kernel))) rfl
theorem co_yX11_mixed : Cond.code yX11_mixed cX11_mixed 3 (some .int) ∈ lwG := lwG_of (tG4 (List.mem_of_getElem? (i := 174) rfl)) rfl
theorem kc_RX11_297 : Cond.constant RX11 297 (1103515245) ∈ lwG := lwG_of (tG4 (List.mem_of_getElem? (i := 175) (by decide +kernel))) rfl
theorem ml_RL_49 : Cond.methodLink RL 49 yX11_take ∈ lwG := lwG_of (tG4 (List.mem_of_getElem? (i := 176) (by decide +kernel))) rfl
theorem im_yX11_take : Cond.instanceMethod yX11_take ∈ lwG := lwG_of (tG4 (List.mem_of_getElem? (i := 177) (by decide +kernel))) rfl
theorem se_yX11_take : Cond.selects RX11 yX11_take yX11_take ∈ lwG := lwG_of (tG4 (List.mem_of_getElem? (i := 178) (by decide +kernel))) rfl
theorem co_yX11_take : Cond.code yX11_take cX11_take 2 (some .boolean) ∈ lwG := lwG_of (tG4 (List.mem_of_getElem? (i := 179) rfl)) rfl
theorem ml_RX11_190 : Cond.methodLink RX11 190 yX7_takeAway ∈ lwG := lwG_of (tG4 (List.mem_of_getElem? (i := 180) (by decide +kernel))) rfl
theorem im_yX7_takeAway : Cond.instanceMethod yX7_takeAway ∈ lwG := lwG_of (tG4 (List.mem_of_getElem? (i := 181) (by decide +kernel))) rfl
theorem se_yX7_takeAway : Cond.selects RX7 yX7_takeAway yX7_takeAway ∈ lwG := lwG_of (tG4 (List.mem_of_getElem? (i := 182) (by decide +kernel))) rfl
theorem co_yX7_takeAway : Cond.code yX7_takeAway cX7_takeAway 2 none ∈ lwG := lwG_of (tG4 (List.mem_of_getElem? (i := 183) rfl)) rfl
theorem ml_RL_54 : Cond.methodLink RL 54 yX11_undo ∈ lwG := lwG_of (tG4 (List.mem_of_getElem? (i := 184) (by decide +kernel))) rfl
theorem im_yX11_undo : Cond.instanceMethod yX11_undo ∈ lwG := lwG_of (tG4 (List.mem_of_getElem? (i := 185) (by decide +kernel))) rfl
theorem se_yX11_undo : Cond.selects RX11 yX11_undo yX11_undo ∈ lwG := lwG_of (tG4 (List.mem_of_getElem? (i := 186) (by decide +kernel))) rfl
theorem co_yX11_undo : Cond.code yX11_undo cX11_undo 1 (some .boolean) ∈ lwG := lwG_of (tG4 (List.mem_of_getElem? (i := 187) rfl)) rfl
theorem ml_RL_59 : Cond.methodLink RL 59 yX11_within ∈ lwG := lwG_of (tG4 (List.mem_of_getElem? (i := 188) (by decide +kernel))) rfl
theorem im_yX11_within : Cond.instanceMethod yX11_within ∈ lwG := lwG_of (tG4 (List.mem_of_getElem? (i := 189) (by decide +kernel))) rfl
theorem se_yX11_within : Cond.selects RX11 yX11_within yX11_within ∈ lwG := lwG_of (tG4 (List.mem_of_getElem? (i := 190) (by decide +kernel))) rfl
theorem co_yX11_within : Cond.code yX11_within cX11_within 2 (some .long) ∈ lwG := lwG_of (tG4 (List.mem_of_getElem? (i := 191) rfl)) rfl
theorem kL_RX11_205 : Cond.constantLong RX11 205 (-1) ∈ lwG := lwG_of (tG4 (List.mem_of_getElem? (i := 192) (by decide +kernel))) rfl
theorem ml_RX11_207 : Cond.methodLink RX11 207 yX5_look ∈ lwG := lwG_of (tG4 (List.mem_of_getElem? (i := 193) (by decide +kernel))) rfl
theorem im_yX5_look : Cond.instanceMethod yX5_look ∈ lwG := lwG_of (tG4 (List.mem_of_getElem? (i := 194) (by decide +kernel))) rfl
theorem se_yX5_look : Cond.selects RX5 yX5_look yX5_look ∈ lwG := lwG_of (tG4 (List.mem_of_getElem? (i := 195) (by decide +kernel))) rfl
theorem co_yX5_look : Cond.code yX5_look cX5_look 4 none ∈ lwG := lwG_of (tG4 (List.mem_of_getElem? (i := 196) rfl)) rfl
theorem sm_yX11_sameRow : Cond.static yX11_sameRow ∈ lwG := lwG_of (tG4 (List.mem_of_getElem? (i := 198) (by decide +kernel))) rfl
theorem co_yX11_sameRow : Cond.code yX11_sameRow cX11_sameRow 4 (some .boolean) ∈ lwG := lwG_of (tG4 (List.mem_of_getElem? (i := 199) rfl)) rfl
theorem ml_RX11_211 : Cond.methodLink RX11 211 yX5_withinCount ∈ lwG := lwG_of (tG4 (List.mem_of_getElem? (i := 202) (by decide +kernel))) rfl
theorem im_yX5_withinCount : Cond.instanceMethod yX5_withinCount ∈ lwG := lwG_of (tG4 (List.mem_of_getElem? (i := 203) (by decide +kernel))) rfl
theorem se_yX5_withinCount : Cond.selects RX5 yX5_withinCount yX5_withinCount ∈ lwG := lwG_of (tG4 (List.mem_of_getElem? (i := 204) (by decide +kernel))) rfl
theorem co_yX5_withinCount : Cond.code yX5_withinCount cX5_withinCount 2 (some .long) ∈ lwG := lwG_of (tG4 (List.mem_of_getElem? (i := 205) rfl)) rfl
theorem ml_RX5_63 : Cond.methodLink RX5 63 yX5_countWithin ∈ lwG := lwG_of (tG4 (List.mem_of_getElem? (i := 206) (by decide +kernel))) rfl
theorem im_yX5_countWithin : Cond.instanceMethod yX5_countWithin ∈ lwG := lwG_of (tG4 (List.mem_of_getElem? (i := 208) (by decide +kernel))) rfl
theorem co_yX5_countWithin : Cond.code yX5_countWithin cX5_countWithin 3 (some .long) ∈ lwG := lwG_of (tG4 (List.mem_of_getElem? (i := 209) rfl)) rfl
theorem ml_RX5_95 : Cond.methodLink RX5 95 yX1_begin ∈ lwG := lwG_of (tG4 (List.mem_of_getElem? (i := 210) (by decide +kernel))) rfl
theorem im_yX1_begin : Cond.instanceMethod yX1_begin ∈ lwG := lwG_of (tG4 (List.mem_of_getElem? (i := 211) (by decide +kernel))) rfl
theorem se_yX1_begin : Cond.selects RX1 yX1_begin yX1_begin ∈ lwG := lwG_of (tG4 (List.mem_of_getElem? (i := 212) (by decide +kernel))) rfl
theorem co_yX1_begin : Cond.code yX1_begin cX1_begin 4 none ∈ lwG := lwG_of (tG4 (List.mem_of_getElem? (i := 213) rfl)) rfl
theorem ml_RX1_25 : Cond.methodLink RX1 25 yJ9_min_7cf53 ∈ lwG := lwG_of (tG4 (List.mem_of_getElem? (i := 215) (by decide +kernel))) rfl
theorem ml_RX5_102 : Cond.methodLink RX5 102 yX1_step ∈ lwG := lwG_of (tG4 (List.mem_of_getElem? (i := 216) (by decide +kernel))) rfl
theorem im_yX1_step : Cond.instanceMethod yX1_step ∈ lwG := lwG_of (tG4 (List.mem_of_getElem? (i := 217) (by decide +kernel))) rfl
theorem se_yX1_step : Cond.selects RX1 yX1_step yX1_step ∈ lwG := lwG_of (tG4 (List.mem_of_getElem? (i := 218) (by decide +kernel))) rfl
theorem co_yX1_step : Cond.code yX1_step cX1_step 2 none ∈ lwG := lwG_of (tG4 (List.mem_of_getElem? (i := 219) rfl)) rfl
theorem ml_RX5_105 : Cond.methodLink RX5 105 yX5_lyingNow ∈ lwG := lwG_of (tG4 (List.mem_of_getElem? (i := 220) (by decide +kernel))) rfl
theorem im_yX5_lyingNow : Cond.instanceMethod yX5_lyingNow ∈ lwG := lwG_of (tG4 (List.mem_of_getElem? (i := 222) (by decide +kernel))) rfl
theorem co_yX5_lyingNow : Cond.code yX5_lyingNow cX5_lyingNow 4 (some .int) ∈ lwG := lwG_of (tG4 (List.mem_of_getElem? (i := 223) rfl)) rfl
theorem ml_RX5_85 : Cond.methodLink RX5 85 yX5_lyingOf ∈ lwG := lwG_of (tG4 (List.mem_of_getElem? (i := 225) (by decide +kernel))) rfl
theorem im_yX5_lyingOf : Cond.instanceMethod yX5_lyingOf ∈ lwG := lwG_of (tG4 (List.mem_of_getElem? (i := 227) (by decide +kernel))) rfl
theorem co_yX5_lyingOf : Cond.code yX5_lyingOf cX5_lyingOf 6 (some .int) ∈ lwG := lwG_of (tG4 (List.mem_of_getElem? (i := 228) rfl)) rfl
theorem ml_RX5_89 : Cond.methodLink RX5 89 yJ9_abs_0f7a4 ∈ lwG := lwG_of (tG4 (List.mem_of_getElem? (i := 229) (by decide +kernel))) rfl
theorem sm_yJ9_abs_0f7a4 : Cond.static yJ9_abs_0f7a4 ∈ lwG := lwG_of (tG4 (List.mem_of_getElem? (i := 230) (by decide +kernel))) rfl
theorem co_yJ9_abs_0f7a4 : Cond.code yJ9_abs_0f7a4 cJ9_abs_0f7a4 1 (some .int) ∈ lwG := lwG_of (tG4 (List.mem_of_getElem? (i := 231) rfl)) rfl
theorem ml_RX5_109 : Cond.methodLink RX5 109 yX5_waysTo ∈ lwG := lwG_of (tG4 (List.mem_of_getElem? (i := 232) (by decide +kernel))) rfl
theorem im_yX5_waysTo : Cond.instanceMethod yX5_waysTo ∈ lwG := lwG_of (tG4 (List.mem_of_getElem? (i := 234) (by decide +kernel))) rfl
theorem co_yX5_waysTo : Cond.code yX5_waysTo cX5_waysTo 6 (some .long) ∈ lwG := lwG_of (tG4 (List.mem_of_getElem? (i := 235) rfl)) rfl
theorem ml_RL_64 : Cond.methodLink RL 64 yX11_lies ∈ lwG := lwG_of (tG4 (List.mem_of_getElem? (i := 237) (by decide +kernel))) rfl
theorem im_yX11_lies : Cond.instanceMethod yX11_lies ∈ lwG := lwG_of (tG4 (List.mem_of_getElem? (i := 238) (by decide +kernel))) rfl
theorem se_yX11_lies : Cond.selects RX11 yX11_lies yX11_lies ∈ lwG := lwG_of (tG4 (List.mem_of_getElem? (i := 239) (by decide +kernel))) rfl
theorem co_yX11_lies : Cond.code yX11_lies cX11_lies 2 (some .long) ∈ lwG := lwG_of (tG5 (List.mem_of_getElem? (i := 0) rfl)) rfl
theorem ml_RX11_215 : Cond.methodLink RX11 215 yX5_lyingAfter ∈ lwG := lwG_of (tG5 (List.mem_of_getElem? (i := 1) (by decide +kernel))) rfl
theorem im_yX5_lyingAfter : Cond.instanceMethod yX5_lyingAfter ∈ lwG := lwG_of (tG5 (List.mem_of_getElem? (i := 2) (by decide +kernel))) rfl
theorem se_yX5_lyingAfter : Cond.selects RX5 yX5_lyingAfter yX5_lyingAfter ∈ lwG := lwG_of (tG5 (List.mem_of_getElem? (i := 3) (by decide +kernel))) rfl
theorem co_yX5_lyingAfter : Cond.code yX5_lyingAfter cX5_lyingAfter 5 (some .long) ∈ lwG := lwG_of (tG5 (List.mem_of_getElem? (i := 4) rfl)) rfl
theorem ml_RX5_73 : Cond.methodLink RX5 73 yX5_choicesLying ∈ lwG := lwG_of (tG5 (List.mem_of_getElem? (i := 5) (by decide +kernel))) rfl
theorem im_yX5_choicesLying : Cond.instanceMethod yX5_choicesLying ∈ lwG := lwG_of (tG5 (List.mem_of_getElem? (i := 7) (by decide +kernel))) rfl
theorem co_yX5_choicesLying : Cond.code yX5_choicesLying cX5_choicesLying 12 (some .long) ∈ lwG := lwG_of (tG5 (List.mem_of_getElem? (i := 8) rfl)) rfl
theorem sm_yX11_choose : Cond.static yX11_choose ∈ lwG := lwG_of (tG5 (List.mem_of_getElem? (i := 10) (by decide +kernel))) rfl
theorem co_yX11_choose : Cond.code yX11_choose cX11_choose 5 (some .long) ∈ lwG := lwG_of (tG5 (List.mem_of_getElem? (i := 11) rfl)) rfl
theorem sm_yX11_factorial : Cond.static yX11_factorial ∈ lwG := lwG_of (tG5 (List.mem_of_getElem? (i := 13) (by decide +kernel))) rfl
theorem co_yX11_factorial : Cond.code yX11_factorial cX11_factorial 4 (some .long) ∈ lwG := lwG_of (tG5 (List.mem_of_getElem? (i := 14) rfl)) rfl
theorem ml_RL_68 : Cond.methodLink RL 68 yX11_mosts ∈ lwG := lwG_of (tG5 (List.mem_of_getElem? (i := 15) (by decide +kernel))) rfl
theorem im_yX11_mosts : Cond.instanceMethod yX11_mosts ∈ lwG := lwG_of (tG5 (List.mem_of_getElem? (i := 16) (by decide +kernel))) rfl
theorem se_yX11_mosts : Cond.selects RX11 yX11_mosts yX11_mosts ∈ lwG := lwG_of (tG5 (List.mem_of_getElem? (i := 17) (by decide +kernel))) rfl
theorem co_yX11_mosts : Cond.code yX11_mosts cX11_mosts 1 (some .long) ∈ lwG := lwG_of (tG5 (List.mem_of_getElem? (i := 18) rfl)) rfl
theorem ml_RX11_218 : Cond.methodLink RX11 218 yX5_sumOfMosts ∈ lwG := lwG_of (tG5 (List.mem_of_getElem? (i := 19) (by decide +kernel))) rfl
theorem im_yX5_sumOfMosts : Cond.instanceMethod yX5_sumOfMosts ∈ lwG := lwG_of (tG5 (List.mem_of_getElem? (i := 20) (by decide +kernel))) rfl
theorem se_yX5_sumOfMosts : Cond.selects RX5 yX5_sumOfMosts yX5_sumOfMosts ∈ lwG := lwG_of (tG5 (List.mem_of_getElem? (i := 21) (by decide +kernel))) rfl
theorem co_yX5_sumOfMosts : Cond.code yX5_sumOfMosts cX5_sumOfMosts 8 (some .long) ∈ lwG := lwG_of (tG5 (List.mem_of_getElem? (i := 22) rfl)) rfl
theorem ml_RX5_70 : Cond.methodLink RX5 70 yX5_withinCount ∈ lwG := lwG_of (tG5 (List.mem_of_getElem? (i := 23) (by decide +kernel))) rfl
theorem ml_RL_73 : Cond.methodLink RL 73 yX11_sure ∈ lwG := lwG_of (tG5 (List.mem_of_getElem? (i := 24) (by decide +kernel))) rfl
theorem im_yX11_sure : Cond.instanceMethod yX11_sure ∈ lwG := lwG_of (tG5 (List.mem_of_getElem? (i := 25) (by decide +kernel))) rfl
theorem se_yX11_sure : Cond.selects RX11 yX11_sure yX11_sure ∈ lwG := lwG_of (tG5 (List.mem_of_getElem? (i := 26) (by decide +kernel))) rfl
theorem co_yX11_sure : Cond.code yX11_sure cX11_sure 3 (some .int) ∈ lwG := lwG_of (tG5 (List.mem_of_getElem? (i := 27) rfl)) rfl
theorem ml_RX11_222 : Cond.methodLink RX11 222 yX5_leastSure ∈ lwG := lwG_of (tG5 (List.mem_of_getElem? (i := 28) (by decide +kernel))) rfl
theorem im_yX5_leastSure : Cond.instanceMethod yX5_leastSure ∈ lwG := lwG_of (tG5 (List.mem_of_getElem? (i := 29) (by decide +kernel))) rfl
theorem se_yX5_leastSure : Cond.selects RX5 yX5_leastSure yX5_leastSure ∈ lwG := lwG_of (tG5 (List.mem_of_getElem? (i := 30) (by decide +kernel))) rfl
theorem co_yX5_leastSure : Cond.code yX5_leastSure cX5_leastSure 6 (some .int) ∈ lwG := lwG_of (tG5 (List.mem_of_getElem? (i := 31) rfl)) rfl
theorem ml_RL_77 : Cond.methodLink RL 77 yX11_evening ∈ lwG := lwG_of (tG5 (List.mem_of_getElem? (i := 32) (by decide +kernel))) rfl
theorem im_yX11_evening : Cond.instanceMethod yX11_evening ∈ lwG := lwG_of (tG5 (List.mem_of_getElem? (i := 33) (by decide +kernel))) rfl
theorem se_yX11_evening : Cond.selects RX11 yX11_evening yX11_evening ∈ lwG := lwG_of (tG5 (List.mem_of_getElem? (i := 34) (by decide +kernel))) rfl
theorem co_yX11_evening : Cond.code yX11_evening cX11_evening 2 (some .int) ∈ lwG := lwG_of (tG5 (List.mem_of_getElem? (i := 35) rfl)) rfl
theorem ml_RX11_225 : Cond.methodLink RX11 225 yX7_playOut ∈ lwG := lwG_of (tG5 (List.mem_of_getElem? (i := 36) (by decide +kernel))) rfl
theorem im_yX7_playOut : Cond.instanceMethod yX7_playOut ∈ lwG := lwG_of (tG5 (List.mem_of_getElem? (i := 37) (by decide +kernel))) rfl
theorem se_yX7_playOut : Cond.selects RX7 yX7_playOut yX7_playOut ∈ lwG := lwG_of (tG5 (List.mem_of_getElem? (i := 38) (by decide +kernel))) rfl
theorem co_yX7_playOut : Cond.code yX7_playOut cX7_playOut 6 (some .int) ∈ lwG := lwG_of (tG5 (List.mem_of_getElem? (i := 39) rfl)) rfl
theorem ml_RX7_70 : Cond.methodLink RX7 70 yX7_pick ∈ lwG := lwG_of (tG5 (List.mem_of_getElem? (i := 40) (by decide +kernel))) rfl
theorem ml_RX7_74 : Cond.methodLink RX7 74 yX7_drawOne ∈ lwG := lwG_of (tG5 (List.mem_of_getElem? (i := 41) (by decide +kernel))) rfl
theorem ml_RL_81 : Cond.methodLink RL 81 yX11_soonest ∈ lwG := lwG_of (tG5 (List.mem_of_getElem? (i := 42) (by decide +kernel))) rfl
theorem im_yX11_soonest : Cond.instanceMethod yX11_soonest ∈ lwG := lwG_of (tG5 (List.mem_of_getElem? (i := 43) (by decide +kernel))) rfl
theorem se_yX11_soonest : Cond.selects RX11 yX11_soonest yX11_soonest ∈ lwG := lwG_of (tG5 (List.mem_of_getElem? (i := 44) (by decide +kernel))) rfl
theorem co_yX11_soonest : Cond.code yX11_soonest cX11_soonest 7 (some .int) ∈ lwG := lwG_of (tG5 (List.mem_of_getElem? (i := 45) rfl)) rfl
theorem ml_RX11_229 : Cond.methodLink RX11 229 yX11_sumOfEvenings ∈ lwG := lwG_of (tG5 (List.mem_of_getElem? (i := 46) (by decide +kernel))) rfl
theorem im_yX11_sumOfEvenings : Cond.instanceMethod yX11_sumOfEvenings ∈ lwG := lwG_of (tG5 (List.mem_of_getElem? (i := 48) (by decide +kernel))) rfl
theorem co_yX11_sumOfEvenings : Cond.code yX11_sumOfEvenings cX11_sumOfEvenings 6 (some .int) ∈ lwG := lwG_of (tG5 (List.mem_of_getElem? (i := 49) rfl)) rfl
theorem ml_RL_85 : Cond.methodLink RL 85 yX11_line ∈ lwG := lwG_of (tG5 (List.mem_of_getElem? (i := 50) (by decide +kernel))) rfl
theorem im_yX11_line : Cond.instanceMethod yX11_line ∈ lwG := lwG_of (tG5 (List.mem_of_getElem? (i := 51) (by decide +kernel))) rfl
theorem se_yX11_line : Cond.selects RX11 yX11_line yX11_line ∈ lwG := lwG_of (tG5 (List.mem_of_getElem? (i := 52) (by decide +kernel))) rfl
theorem co_yX11_line : Cond.code yX11_line cX11_line 1 (some .int) ∈ lwG := lwG_of (tG5 (List.mem_of_getElem? (i := 53) rfl)) rfl
theorem ml_RX11_232 : Cond.methodLink RX11 232 yX10_mostOut ∈ lwG := lwG_of (tG5 (List.mem_of_getElem? (i := 54) (by decide +kernel))) rfl
theorem im_yX10_mostOut : Cond.instanceMethod yX10_mostOut ∈ lwG := lwG_of (tG5 (List.mem_of_getElem? (i := 55) (by decide +kernel))) rfl
theorem se_yX10_mostOut : Cond.selects RX10 yX10_mostOut yX10_mostOut ∈ lwG := lwG_of (tG5 (List.mem_of_getElem? (i := 56) (by decide +kernel))) rfl
theorem co_yX10_mostOut : Cond.code yX10_mostOut cX10_mostOut 8 (some .int) ∈ lwG := lwG_of (tG5 (List.mem_of_getElem? (i := 57) rfl)) rfl
theorem ml_RX10_95 : Cond.methodLink RX10 95 yJ9_max_7cf53 ∈ lwG := lwG_of (tG5 (List.mem_of_getElem? (i := 58) (by decide +kernel))) rfl
theorem ml_RL_89 : Cond.methodLink RL 89 yX11_exchange ∈ lwG := lwG_of (tG5 (List.mem_of_getElem? (i := 59) (by decide +kernel))) rfl
theorem im_yX11_exchange : Cond.instanceMethod yX11_exchange ∈ lwG := lwG_of (tG5 (List.mem_of_getElem? (i := 60) (by decide +kernel))) rfl
theorem se_yX11_exchange : Cond.selects RX11 yX11_exchange yX11_exchange ∈ lwG := lwG_of (tG5 (List.mem_of_getElem? (i := 61) (by decide +kernel))) rfl
theorem co_yX11_exchange : Cond.code yX11_exchange cX11_exchange 7 (some .int) ∈ lwG := lwG_of (tG5 (List.mem_of_getElem? (i := 62) rfl)) rfl
theorem ml_RL_93 : Cond.methodLink RL 93 yX11_odd ∈ lwG := lwG_of (tG5 (List.mem_of_getElem? (i := 63) (by decide +kernel))) rfl
theorem im_yX11_odd : Cond.instanceMethod yX11_odd ∈ lwG := lwG_of (tG5 (List.mem_of_getElem? (i := 64) (by decide +kernel))) rfl
theorem se_yX11_odd : Cond.selects RX11 yX11_odd yX11_odd ∈ lwG := lwG_of (tG5 (List.mem_of_getElem? (i := 65) (by decide +kernel))) rfl
theorem co_yX11_odd : Cond.code yX11_odd cX11_odd 2 (some .int) ∈ lwG := lwG_of (tG5 (List.mem_of_getElem? (i := 66) rfl)) rfl
theorem ml_RX11_238 : Cond.methodLink RX11 238 yX4_pairUp ∈ lwG := lwG_of (tG5 (List.mem_of_getElem? (i := 67) (by decide +kernel))) rfl
theorem im_yX4_pairUp : Cond.instanceMethod yX4_pairUp ∈ lwG := lwG_of (tG5 (List.mem_of_getElem? (i := 68) (by decide +kernel))) rfl
theorem se_yX4_pairUp : Cond.selects RX4 yX4_pairUp yX4_pairUp ∈ lwG := lwG_of (tG5 (List.mem_of_getElem? (i := 69) (by decide +kernel))) rfl
theorem co_yX4_pairUp : Cond.code yX4_pairUp cX4_pairUp 4 none ∈ lwG := lwG_of (tG5 (List.mem_of_getElem? (i := 70) rfl)) rfl
theorem ml_RX4_22 : Cond.methodLink RX4 22 yX1_begin ∈ lwG := lwG_of (tG5 (List.mem_of_getElem? (i := 71) (by decide +kernel))) rfl
theorem ml_RX4_30 : Cond.methodLink RX4 30 yX1_step ∈ lwG := lwG_of (tG5 (List.mem_of_getElem? (i := 72) (by decide +kernel))) rfl
theorem ml_RX4_33 : Cond.methodLink RX4 33 yX4_bestWorth ∈ lwG := lwG_of (tG5 (List.mem_of_getElem? (i := 73) (by decide +kernel))) rfl
theorem im_yX4_bestWorth : Cond.instanceMethod yX4_bestWorth ∈ lwG := lwG_of (tG5 (List.mem_of_getElem? (i := 75) (by decide +kernel))) rfl
theorem co_yX4_bestWorth : Cond.code yX4_bestWorth cX4_bestWorth 9 (some .int) ∈ lwG := lwG_of (tG5 (List.mem_of_getElem? (i := 76) rfl)) rfl
theorem ml_RX4_53 : Cond.methodLink RX4 53 yX4_canPair ∈ lwG := lwG_of (tG5 (List.mem_of_getElem? (i := 78) (by decide +kernel))) rfl
theorem sm_yX4_canPair : Cond.static yX4_canPair ∈ lwG := lwG_of (tG5 (List.mem_of_getElem? (i := 79) (by decide +kernel))) rfl
theorem co_yX4_canPair : Cond.code yX4_canPair cX4_canPair 3 (some .boolean) ∈ lwG := lwG_of (tG5 (List.mem_of_getElem? (i := 80) rfl)) rfl
theorem ml_RX4_67 : Cond.methodLink RX4 67 yX4_sideOf ∈ lwG := lwG_of (tG5 (List.mem_of_getElem? (i := 81) (by decide +kernel))) rfl
theorem sm_yX4_sideOf : Cond.static yX4_sideOf ∈ lwG := lwG_of (tG5 (List.mem_of_getElem? (i := 82) (by decide +kernel))) rfl
theorem co_yX4_sideOf : Cond.code yX4_sideOf cX4_sideOf 2 (some .int) ∈ lwG := lwG_of (tG5 (List.mem_of_getElem? (i := 83) rfl)) rfl
theorem ml_RX4_79 : Cond.methodLink RX4 79 yJ6_compare_7cf53 ∈ lwG := lwG_of (tG5 (List.mem_of_getElem? (i := 84) (by decide +kernel))) rfl
theorem sm_yJ6_compare_7cf53 : Cond.static yJ6_compare_7cf53 ∈ lwG := lwG_of (tG5 (List.mem_of_getElem? (i := 85) (by decide +kernel))) rfl
theorem co_yJ6_compare_7cf53 : Cond.code yJ6_compare_7cf53 cJ6_compare_7cf53 2 (some .int) ∈ lwG := lwG_of (tG5 (List.mem_of_getElem? (i := 86) rfl)) rfl
theorem ml_RX4_57 : Cond.methodLink RX4 57 yX4_unlikeKinds ∈ lwG := lwG_of (tG5 (List.mem_of_getElem? (i := 87) (by decide +kernel))) rfl
theorem sm_yX4_unlikeKinds : Cond.static yX4_unlikeKinds ∈ lwG := lwG_of (tG5 (List.mem_of_getElem? (i := 88) (by decide +kernel))) rfl
theorem co_yX4_unlikeKinds : Cond.code yX4_unlikeKinds cX4_unlikeKinds 3 (some .int) ∈ lwG := lwG_of (tG5 (List.mem_of_getElem? (i := 89) rfl)) rfl
theorem ml_RX4_87 : Cond.methodLink RX4 87 yX10_unlikeness ∈ lwG := lwG_of (tG5 (List.mem_of_getElem? (i := 90) (by decide +kernel))) rfl
theorem ml_RX4_61 : Cond.methodLink RX4 61 yJ9_max_7cf53 ∈ lwG := lwG_of (tG5 (List.mem_of_getElem? (i := 91) (by decide +kernel))) rfl
theorem ml_RL_97 : Cond.methodLink RL 97 yX11_lost ∈ lwG := lwG_of (tG5 (List.mem_of_getElem? (i := 92) (by decide +kernel))) rfl
theorem im_yX11_lost : Cond.instanceMethod yX11_lost ∈ lwG := lwG_of (tG5 (List.mem_of_getElem? (i := 93) (by decide +kernel))) rfl
theorem se_yX11_lost : Cond.selects RX11 yX11_lost yX11_lost ∈ lwG := lwG_of (tG5 (List.mem_of_getElem? (i := 94) (by decide +kernel))) rfl
theorem co_yX11_lost : Cond.code yX11_lost cX11_lost 4 (some .long) ∈ lwG := lwG_of (tG5 (List.mem_of_getElem? (i := 95) rfl)) rfl
theorem ml_RX11_248 : Cond.methodLink RX11 248 yX3_waysWithout ∈ lwG := lwG_of (tG5 (List.mem_of_getElem? (i := 96) (by decide +kernel))) rfl
theorem im_yX3_waysWithout : Cond.instanceMethod yX3_waysWithout ∈ lwG := lwG_of (tG5 (List.mem_of_getElem? (i := 97) (by decide +kernel))) rfl
theorem se_yX3_waysWithout : Cond.selects RX3 yX3_waysWithout yX3_waysWithout ∈ lwG := lwG_of (tG5 (List.mem_of_getElem? (i := 98) (by decide +kernel))) rfl
theorem co_yX3_waysWithout : Cond.code yX3_waysWithout cX3_waysWithout 9 (some .long) ∈ lwG := lwG_of (tG5 (List.mem_of_getElem? (i := 99) rfl)) rfl
theorem ml_RX3_56 : Cond.methodLink RX3 56 yX3_joinKinds ∈ lwG := lwG_of (tG5 (List.mem_of_getElem? (i := 101) (by decide +kernel))) rfl
theorem im_yX3_joinKinds : Cond.instanceMethod yX3_joinKinds ∈ lwG := lwG_of (tG5 (List.mem_of_getElem? (i := 103) (by decide +kernel))) rfl
theorem co_yX3_joinKinds : Cond.code yX3_joinKinds cX3_joinKinds 9 none ∈ lwG := lwG_of (tG5 (List.mem_of_getElem? (i := 104) rfl)) rfl
theorem ml_RX3_64 : Cond.methodLink RX3 64 yJ9_max_7cf53 ∈ lwG := lwG_of (tG5 (List.mem_of_getElem? (i := 105) (by decide +kernel))) rfl
theorem ml_RX3_70 : Cond.methodLink RX3 70 yX3_waysLeft ∈ lwG := lwG_of (tG5 (List.mem_of_getElem? (i := 106) (by decide +kernel))) rfl
theorem sm_yX3_waysLeft : Cond.static yX3_waysLeft ∈ lwG := lwG_of (tG5 (List.mem_of_getElem? (i := 107) (by decide +kernel))) rfl
theorem co_yX3_waysLeft : Cond.code yX3_waysLeft cX3_waysLeft 4 (some .long) ∈ lwG := lwG_of (tG5 (List.mem_of_getElem? (i := 108) rfl)) rfl
theorem sm_yX11_power : Cond.static yX11_power ∈ lwG := lwG_of (tG5 (List.mem_of_getElem? (i := 111) (by decide +kernel))) rfl
theorem co_yX11_power : Cond.code yX11_power cX11_power 5 (some .long) ∈ lwG := lwG_of (tG5 (List.mem_of_getElem? (i := 112) rfl)) rfl
theorem ml_RX3_74 : Cond.methodLink RX3 74 yJ9_abs_0f7a4 ∈ lwG := lwG_of (tG5 (List.mem_of_getElem? (i := 113) (by decide +kernel))) rfl
theorem ml_RX3_78 : Cond.methodLink RX3 78 yX3_addShifted ∈ lwG := lwG_of (tG5 (List.mem_of_getElem? (i := 114) (by decide +kernel))) rfl
theorem im_yX3_addShifted : Cond.instanceMethod yX3_addShifted ∈ lwG := lwG_of (tG5 (List.mem_of_getElem? (i := 116) (by decide +kernel))) rfl
theorem co_yX3_addShifted : Cond.code yX3_addShifted cX3_addShifted 5 none ∈ lwG := lwG_of (tG5 (List.mem_of_getElem? (i := 117) rfl)) rfl
theorem ml_RL_102 : Cond.methodLink RL 102 yX11_years ∈ lwG := lwG_of (tG5 (List.mem_of_getElem? (i := 119) (by decide +kernel))) rfl
theorem im_yX11_years : Cond.instanceMethod yX11_years ∈ lwG := lwG_of (tG5 (List.mem_of_getElem? (i := 120) (by decide +kernel))) rfl
theorem se_yX11_years : Cond.selects RX11 yX11_years yX11_years ∈ lwG := lwG_of (tG5 (List.mem_of_getElem? (i := 121) (by decide +kernel))) rfl
theorem co_yX11_years : Cond.code yX11_years cX11_years 3 (some .int) ∈ lwG := lwG_of (tG5 (List.mem_of_getElem? (i := 122) rfl)) rfl
theorem ml_RX11_252 : Cond.methodLink RX11 252 yX3_liveUntil ∈ lwG := lwG_of (tG5 (List.mem_of_getElem? (i := 123) (by decide +kernel))) rfl
theorem im_yX3_liveUntil : Cond.instanceMethod yX3_liveUntil ∈ lwG := lwG_of (tG5 (List.mem_of_getElem? (i := 124) (by decide +kernel))) rfl
theorem se_yX3_liveUntil : Cond.selects RX3 yX3_liveUntil yX3_liveUntil ∈ lwG := lwG_of (tG5 (List.mem_of_getElem? (i := 125) (by decide +kernel))) rfl
theorem co_yX3_liveUntil : Cond.code yX3_liveUntil cX3_liveUntil 4 none ∈ lwG := lwG_of (tG5 (List.mem_of_getElem? (i := 126) rfl)) rfl
theorem ml_RX3_99 : Cond.methodLink RX3 99 yX3_liveWeek ∈ lwG := lwG_of (tG5 (List.mem_of_getElem? (i := 127) (by decide +kernel))) rfl
theorem im_yX3_liveWeek : Cond.instanceMethod yX3_liveWeek ∈ lwG := lwG_of (tG5 (List.mem_of_getElem? (i := 129) (by decide +kernel))) rfl
theorem co_yX3_liveWeek : Cond.code yX3_liveWeek cX3_liveWeek 6 none ∈ lwG := lwG_of (tG5 (List.mem_of_getElem? (i := 130) rfl)) rfl
theorem ml_RX3_111 : Cond.methodLink RX3 111 yX3_isLost ∈ lwG := lwG_of (tG5 (List.mem_of_getElem? (i := 131) (by decide +kernel))) rfl
theorem im_yX3_isLost : Cond.instanceMethod yX3_isLost ∈ lwG := lwG_of (tG5 (List.mem_of_getElem? (i := 133) (by decide +kernel))) rfl
theorem co_yX3_isLost : Cond.code yX3_isLost cX3_isLost 6 (some .boolean) ∈ lwG := lwG_of (tG5 (List.mem_of_getElem? (i := 134) rfl)) rfl
theorem ml_RX3_130 : Cond.methodLink RX3 130 yX2_value ∈ lwG := lwG_of (tG5 (List.mem_of_getElem? (i := 138) (by decide +kernel))) rfl
theorem im_yX2_value : Cond.instanceMethod yX2_value ∈ lwG := lwG_of (tG5 (List.mem_of_getElem? (i := 139) (by decide +kernel))) rfl
theorem se_yX2_value : Cond.selects RX2 yX2_value yX2_value ∈ lwG := lwG_of (tG5 (List.mem_of_getElem? (i := 140) (by decide +kernel))) rfl
theorem co_yX2_value : Cond.code yX2_value cX2_value 8 (some .int) ∈ lwG := lwG_of (tG5 (List.mem_of_getElem? (i := 141) rfl)) rfl
theorem ml_RX2_37 : Cond.methodLink RX2 37 yX2_joined ∈ lwG := lwG_of (tG5 (List.mem_of_getElem? (i := 143) (by decide +kernel))) rfl
theorem sm_yX2_joined : Cond.static yX2_joined ∈ lwG := lwG_of (tG5 (List.mem_of_getElem? (i := 144) (by decide +kernel))) rfl
theorem co_yX2_joined : Cond.code yX2_joined cX2_joined 3 (some .int) ∈ lwG := lwG_of (tG5 (List.mem_of_getElem? (i := 145) rfl)) rfl
theorem ml_RX3_107 : Cond.methodLink RX3 107 yX3_pairsLeft ∈ lwG := lwG_of (tG5 (List.mem_of_getElem? (i := 146) (by decide +kernel))) rfl
theorem im_yX3_pairsLeft : Cond.instanceMethod yX3_pairsLeft ∈ lwG := lwG_of (tG5 (List.mem_of_getElem? (i := 148) (by decide +kernel))) rfl
theorem co_yX3_pairsLeft : Cond.code yX3_pairsLeft cX3_pairsLeft 5 (some .int) ∈ lwG := lwG_of (tG5 (List.mem_of_getElem? (i := 149) rfl)) rfl
theorem ml_RX3_135 : Cond.methodLink RX3 135 yJ9_min_7cf53 ∈ lwG := lwG_of (tG5 (List.mem_of_getElem? (i := 150) (by decide +kernel))) rfl
theorem ml_RL_106 : Cond.methodLink RL 106 yX11_see ∈ lwG := lwG_of (tG5 (List.mem_of_getElem? (i := 151) (by decide +kernel))) rfl
theorem im_yX11_see : Cond.instanceMethod yX11_see ∈ lwG := lwG_of (tG5 (List.mem_of_getElem? (i := 152) (by decide +kernel))) rfl
theorem se_yX11_see : Cond.selects RX11 yX11_see yX11_see ∈ lwG := lwG_of (tG5 (List.mem_of_getElem? (i := 153) (by decide +kernel))) rfl
theorem co_yX11_see : Cond.code yX11_see cX11_see 3 (some .int) ∈ lwG := lwG_of (tG5 (List.mem_of_getElem? (i := 154) rfl)) rfl
theorem ml_RX11_265 : Cond.methodLink RX11 265 yX6_note ∈ lwG := lwG_of (tG5 (List.mem_of_getElem? (i := 155) (by decide +kernel))) rfl
theorem im_yX6_note : Cond.instanceMethod yX6_note ∈ lwG := lwG_of (tG5 (List.mem_of_getElem? (i := 156) (by decide +kernel))) rfl
theorem se_yX6_note : Cond.selects RX6 yX6_note yX6_note ∈ lwG := lwG_of (tG5 (List.mem_of_getElem? (i := 157) (by decide +kernel))) rfl
theorem co_yX6_note : Cond.code yX6_note cX6_note 3 (some .int) ∈ lwG := lwG_of (tG5 (List.mem_of_getElem? (i := 158) rfl)) rfl
theorem ml_RL_110 : Cond.methodLink RL 110 yX11_forget ∈ lwG := lwG_of (tG5 (List.mem_of_getElem? (i := 159) (by decide +kernel))) rfl
theorem im_yX11_forget : Cond.instanceMethod yX11_forget ∈ lwG := lwG_of (tG5 (List.mem_of_getElem? (i := 160) (by decide +kernel))) rfl
theorem se_yX11_forget : Cond.selects RX11 yX11_forget yX11_forget ∈ lwG := lwG_of (tG5 (List.mem_of_getElem? (i := 161) (by decide +kernel))) rfl
theorem co_yX11_forget : Cond.code yX11_forget cX11_forget 2 (some .int) ∈ lwG := lwG_of (tG5 (List.mem_of_getElem? (i := 162) rfl)) rfl
theorem ml_RL_114 : Cond.methodLink RL 114 yX11_rows ∈ lwG := lwG_of (tG5 (List.mem_of_getElem? (i := 163) (by decide +kernel))) rfl
theorem im_yX11_rows : Cond.instanceMethod yX11_rows ∈ lwG := lwG_of (tG5 (List.mem_of_getElem? (i := 164) (by decide +kernel))) rfl
theorem se_yX11_rows : Cond.selects RX11 yX11_rows yX11_rows ∈ lwG := lwG_of (tG5 (List.mem_of_getElem? (i := 165) (by decide +kernel))) rfl
theorem co_yX11_rows : Cond.code yX11_rows cX11_rows 3 (some .long) ∈ lwG := lwG_of (tG5 (List.mem_of_getElem? (i := 166) rfl)) rfl
theorem ml_RX11_271 : Cond.methodLink RX11 271 yX6_countRows ∈ lwG := lwG_of (tG5 (List.mem_of_getElem? (i := 167) (by decide +kernel))) rfl
theorem im_yX6_countRows : Cond.instanceMethod yX6_countRows ∈ lwG := lwG_of (tG5 (List.mem_of_getElem? (i := 168) (by decide +kernel))) rfl
theorem se_yX6_countRows : Cond.selects RX6 yX6_countRows yX6_countRows ∈ lwG := lwG_of (tG5 (List.mem_of_getElem? (i := 169) (by decide +kernel))) rfl
theorem co_yX6_countRows : Cond.code yX6_countRows cX6_countRows 7 (some .long) ∈ lwG := lwG_of (tG5 (List.mem_of_getElem? (i := 170) rfl)) rfl
theorem ml_RX6_34 : Cond.methodLink RX6 34 yX6_joinKinds ∈ lwG := lwG_of (tG5 (List.mem_of_getElem? (i := 171) (by decide +kernel))) rfl
theorem im_yX6_joinKinds : Cond.instanceMethod yX6_joinKinds ∈ lwG := lwG_of (tG5 (List.mem_of_getElem? (i := 173) (by decide +kernel))) rfl
theorem co_yX6_joinKinds : Cond.code yX6_joinKinds cX6_joinKinds 12 none ∈ lwG := lwG_of (tG5 (List.mem_of_getElem? (i := 174) rfl)) rfl
theorem ml_RX6_49 : Cond.methodLink RX6 49 yX6_fits ∈ lwG := lwG_of (tG5 (List.mem_of_getElem? (i := 176) (by decide +kernel))) rfl
theorem im_yX6_fits : Cond.instanceMethod yX6_fits ∈ lwG := lwG_of (tG5 (List.mem_of_getElem? (i := 178) (by decide +kernel))) rfl
theorem co_yX6_fits : Cond.code yX6_fits cX6_fits 5 (some .boolean) ∈ lwG := lwG_of (tG5 (List.mem_of_getElem? (i := 179) rfl)) rfl
theorem ml_RX6_57 : Cond.methodLink RX6 57 yJ9_max_7cf53 ∈ lwG := lwG_of (tG5 (List.mem_of_getElem? (i := 180) (by decide +kernel))) rfl
theorem ml_RX6_53 : Cond.methodLink RX6 53 yX6_addShifted ∈ lwG := lwG_of (tG5 (List.mem_of_getElem? (i := 181) (by decide +kernel))) rfl
theorem im_yX6_addShifted : Cond.instanceMethod yX6_addShifted ∈ lwG := lwG_of (tG5 (List.mem_of_getElem? (i := 183) (by decide +kernel))) rfl
theorem co_yX6_addShifted : Cond.code yX6_addShifted cX6_addShifted 3 none ∈ lwG := lwG_of (tG5 (List.mem_of_getElem? (i := 184) rfl)) rfl
theorem ml_RL_119 : Cond.methodLink RL 119 yX11_span ∈ lwG := lwG_of (tG5 (List.mem_of_getElem? (i := 186) (by decide +kernel))) rfl
theorem im_yX11_span : Cond.instanceMethod yX11_span ∈ lwG := lwG_of (tG5 (List.mem_of_getElem? (i := 187) (by decide +kernel))) rfl
theorem se_yX11_span : Cond.selects RX11 yX11_span yX11_span ∈ lwG := lwG_of (tG5 (List.mem_of_getElem? (i := 188) (by decide +kernel))) rfl
theorem co_yX11_span : Cond.code yX11_span cX11_span 7 (some .int) ∈ lwG := lwG_of (tG5 (List.mem_of_getElem? (i := 189) rfl)) rfl
theorem ml_RL_124 : Cond.methodLink RL 124 yX11_hold ∈ lwG := lwG_of (tG5 (List.mem_of_getElem? (i := 190) (by decide +kernel))) rfl
theorem im_yX11_hold : Cond.instanceMethod yX11_hold ∈ lwG := lwG_of (tG5 (List.mem_of_getElem? (i := 191) (by decide +kernel))) rfl
theorem se_yX11_hold : Cond.selects RX11 yX11_hold yX11_hold ∈ lwG := lwG_of (tG5 (List.mem_of_getElem? (i := 192) (by decide +kernel))) rfl
theorem co_yX11_hold : Cond.code yX11_hold cX11_hold 2 (some .boolean) ∈ lwG := lwG_of (tG5 (List.mem_of_getElem? (i := 193) rfl)) rfl
theorem ml_RL_128 : Cond.methodLink RL 128 yX11_restore ∈ lwG := lwG_of (tG5 (List.mem_of_getElem? (i := 194) (by decide +kernel))) rfl
theorem im_yX11_restore : Cond.instanceMethod yX11_restore ∈ lwG := lwG_of (tG5 (List.mem_of_getElem? (i := 195) (by decide +kernel))) rfl
theorem se_yX11_restore : Cond.selects RX11 yX11_restore yX11_restore ∈ lwG := lwG_of (tG5 (List.mem_of_getElem? (i := 196) (by decide +kernel))) rfl
theorem co_yX11_restore : Cond.code yX11_restore cX11_restore 2 (some .boolean) ∈ lwG := lwG_of (tG5 (List.mem_of_getElem? (i := 197) rfl)) rfl
theorem ml_RL_132 : Cond.methodLink RL 132 yX11_count ∈ lwG := lwG_of (tG5 (List.mem_of_getElem? (i := 198) (by decide +kernel))) rfl
theorem im_yX11_count : Cond.instanceMethod yX11_count ∈ lwG := lwG_of (tG5 (List.mem_of_getElem? (i := 199) (by decide +kernel))) rfl
theorem se_yX11_count : Cond.selects RX11 yX11_count yX11_count ∈ lwG := lwG_of (tG5 (List.mem_of_getElem? (i := 200) (by decide +kernel))) rfl
theorem co_yX11_count : Cond.code yX11_count cX11_count 2 (some .int) ∈ lwG := lwG_of (tG5 (List.mem_of_getElem? (i := 201) rfl)) rfl
theorem ml_RX11_287 : Cond.methodLink RX11 287 yX11_slotsHeld ∈ lwG := lwG_of (tG5 (List.mem_of_getElem? (i := 202) (by decide +kernel))) rfl
theorem im_yX11_slotsHeld : Cond.instanceMethod yX11_slotsHeld ∈ lwG := lwG_of (tG5 (List.mem_of_getElem? (i := 204) (by decide +kernel))) rfl
theorem co_yX11_slotsHeld : Cond.code yX11_slotsHeld cX11_slotsHeld 3 (some .int) ∈ lwG := lwG_of (tG5 (List.mem_of_getElem? (i := 205) rfl)) rfl
theorem kl_RL_10 : Cond.classLink RL 10 RX12 ∈ lwG := lwG_of (tG5 (List.mem_of_getElem? (i := 206) (by decide +kernel))) rfl
theorem ib_RX12 : Cond.instantiable RX12 77 ∈ lwG := lwG_of (tG5 (List.mem_of_getElem? (i := 207) (by decide +kernel))) rfl
theorem ml_RL_12 : Cond.methodLink RL 12 yX12_init ∈ lwG := lwG_of (tG5 (List.mem_of_getElem? (i := 208) (by decide +kernel))) rfl
theorem im_yX12_init : Cond.instanceMethod yX12_init ∈ lwG := lwG_of (tG5 (List.mem_of_getElem? (i := 209) (by decide +kernel))) rfl
theorem co_yX12_init : Cond.code yX12_init cX12_init 1 none ∈ lwG := lwG_of (tG5 (List.mem_of_getElem? (i := 210) rfl)) rfl
theorem ml_RX12_7 : Cond.methodLink RX12 7 objectInit ∈ lwG := lwG_of (tG5 (List.mem_of_getElem? (i := 211) (by decide +kernel))) rfl
theorem kc_RX12_155 : Cond.constant RX12 155 (262144) ∈ lwG := lwG_of (tG5 (List.mem_of_getElem? (i := 212) (by decide +kernel))) rfl
theorem ml_RX12_189 : Cond.methodLink RX12 189 yX12_plain ∈ lwG := lwG_of (tG5 (List.mem_of_getElem? (i := 213) (by decide +kernel))) rfl
theorem im_yX12_plain : Cond.instanceMethod yX12_plain ∈ lwG := lwG_of (tG5 (List.mem_of_getElem? (i := 215) (by decide +kernel))) rfl
theorem co_yX12_plain : Cond.code yX12_plain cX12_plain 3 none ∈ lwG := lwG_of (tG5 (List.mem_of_getElem? (i := 216) rfl)) rfl
theorem ml_RX12_193 : Cond.methodLink RX12 193 yX12_word ∈ lwG := lwG_of (tG5 (List.mem_of_getElem? (i := 217) (by decide +kernel))) rfl
theorem sm_yX12_word : Cond.static yX12_word ∈ lwG := lwG_of (tG5 (List.mem_of_getElem? (i := 218) (by decide +kernel))) rfl
theorem co_yX12_word : Cond.code yX12_word cX12_word 7 (some .long) ∈ lwG := lwG_of (tG5 (List.mem_of_getElem? (i := 219) rfl)) rfl
theorem ml_RX12_208 : Cond.methodLink RX12 208 yX12_appends ∈ lwG := lwG_of (tG5 (List.mem_of_getElem? (i := 220) (by decide +kernel))) rfl
theorem sm_yX12_appends : Cond.static yX12_appends ∈ lwG := lwG_of (tG5 (List.mem_of_getElem? (i := 221) (by decide +kernel))) rfl
theorem co_yX12_appends : Cond.code yX12_appends cX12_appends 3 (some .long) ∈ lwG := lwG_of (tG5 (List.mem_of_getElem? (i := 222) rfl)) rfl
theorem kL_RX12_206 : Cond.constantLong RX12 206 (27) ∈ lwG := lwG_of (tG5 (List.mem_of_getElem? (i := 223) (by decide +kernel))) rfl
theorem fl_RX12_13 : Cond.fieldLink RX12 13 RX12 "tape" "[B" ∈ lwG := lwG_of (tG5 (List.mem_of_getElem? (i := 224) (by decide +kernel))) rfl
theorem fl_RX12_197 : Cond.fieldLink RX12 197 RX12 "taped" "I" ∈ lwG := lwG_of (tG5 (List.mem_of_getElem? (i := 225) (by decide +kernel))) rfl
theorem fl_RX12_17 : Cond.fieldLink RX12 17 RX12 "text" "[B" ∈ lwG := lwG_of (tG5 (List.mem_of_getElem? (i := 226) (by decide +kernel))) rfl
theorem fl_RX12_203 : Cond.fieldLink RX12 203 RX12 "size" "I" ∈ lwG := lwG_of (tG5 (List.mem_of_getElem? (i := 227) (by decide +kernel))) rfl
theorem fl_RX12_20 : Cond.fieldLink RX12 20 RX12 "tKind" "[I" ∈ lwG := lwG_of (tG5 (List.mem_of_getElem? (i := 228) (by decide +kernel))) rfl
theorem fl_RX12_24 : Cond.fieldLink RX12 24 RX12 "tPlace" "[I" ∈ lwG := lwG_of (tG5 (List.mem_of_getElem? (i := 229) (by decide +kernel))) rfl
theorem fl_RX12_27 : Cond.fieldLink RX12 27 RX12 "tValue" "[I" ∈ lwG := lwG_of (tG5 (List.mem_of_getElem? (i := 230) (by decide +kernel))) rfl
theorem fl_RX12_30 : Cond.fieldLink RX12 30 RX12 "tName" "[J" ∈ lwG := lwG_of (tG5 (List.mem_of_getElem? (i := 231) (by decide +kernel))) rfl
theorem fl_RX12_34 : Cond.fieldLink RX12 34 RX12 "keys" "[J" ∈ lwG := lwG_of (tG5 (List.mem_of_getElem? (i := 232) (by decide +kernel))) rfl
theorem fl_RX12_212 : Cond.fieldLink RX12 212 RX12 "tokens" "I" ∈ lwG := lwG_of (tG5 (List.mem_of_getElem? (i := 233) (by decide +kernel))) rfl
theorem fl_RX12_237 : Cond.fieldLink RX12 237 RX12 "t" "I" ∈ lwG := lwG_of (tG5 (List.mem_of_getElem? (i := 234) (by decide +kernel))) rfl
theorem fl_RX12_261 : Cond.fieldLink RX12 261 RX12 "open" "I" ∈ lwG := lwG_of (tG5 (List.mem_of_getElem? (i := 235) (by decide +kernel))) rfl
theorem fl_RX12_234 : Cond.fieldLink RX12 234 RX12 "fault" "I" ∈ lwG := lwG_of (tG5 (List.mem_of_getElem? (i := 236) (by decide +kernel))) rfl
theorem fl_RX12_240 : Cond.fieldLink RX12 240 RX12 "faultPlace" "I" ∈ lwG := lwG_of (tG5 (List.mem_of_getElem? (i := 237) (by decide +kernel))) rfl
theorem fl_RX12_243 : Cond.fieldLink RX12 243 RX12 "worst" "I" ∈ lwG := lwG_of (tG5 (List.mem_of_getElem? (i := 238) (by decide +kernel))) rfl
theorem fl_RX12_246 : Cond.fieldLink RX12 246 RX12 "worstPlace" "I" ∈ lwG := lwG_of (tG5 (List.mem_of_getElem? (i := 239) (by decide +kernel))) rfl
theorem fl_RX12_37 : Cond.fieldLink RX12 37 RX12 "place" "I" ∈ lwG := lwG_of (tG6 (List.mem_of_getElem? (i := 0) (by decide +kernel))) rfl
theorem fl_RX12_264 : Cond.fieldLink RX12 264 RX12 "live" "I" ∈ lwG := lwG_of (tG6 (List.mem_of_getElem? (i := 1) (by decide +kernel))) rfl
theorem fl_RX12_267 : Cond.fieldLink RX12 267 RX12 "side" "I" ∈ lwG := lwG_of (tG6 (List.mem_of_getElem? (i := 2) (by decide +kernel))) rfl
theorem fl_RX12_40 : Cond.fieldLink RX12 40 RX12 "names" "[I" ∈ lwG := lwG_of (tG6 (List.mem_of_getElem? (i := 3) (by decide +kernel))) rfl
theorem fl_RX12_43 : Cond.fieldLink RX12 43 RX12 "nameOf" "[J" ∈ lwG := lwG_of (tG6 (List.mem_of_getElem? (i := 4) (by decide +kernel))) rfl
theorem fl_RX12_46 : Cond.fieldLink RX12 46 RX12 "nameKind" "[I" ∈ lwG := lwG_of (tG6 (List.mem_of_getElem? (i := 5) (by decide +kernel))) rfl
theorem fl_RX12_49 : Cond.fieldLink RX12 49 RX12 "kinds" "[I" ∈ lwG := lwG_of (tG6 (List.mem_of_getElem? (i := 6) (by decide +kernel))) rfl
theorem fl_RX12_52 : Cond.fieldLink RX12 52 RX12 "partnerOf" "[I" ∈ lwG := lwG_of (tG6 (List.mem_of_getElem? (i := 7) (by decide +kernel))) rfl
theorem fl_RX12_55 : Cond.fieldLink RX12 55 RX12 "numberOf" "[I" ∈ lwG := lwG_of (tG6 (List.mem_of_getElem? (i := 8) (by decide +kernel))) rfl
theorem fl_RX12_58 : Cond.fieldLink RX12 58 RX12 "nameAt" "[I" ∈ lwG := lwG_of (tG6 (List.mem_of_getElem? (i := 9) (by decide +kernel))) rfl
theorem fl_RX12_61 : Cond.fieldLink RX12 61 RX12 "things" "[I" ∈ lwG := lwG_of (tG6 (List.mem_of_getElem? (i := 10) (by decide +kernel))) rfl
theorem fl_RX12_64 : Cond.fieldLink RX12 64 RX12 "likes" "[I" ∈ lwG := lwG_of (tG6 (List.mem_of_getElem? (i := 11) (by decide +kernel))) rfl
theorem fl_RX12_67 : Cond.fieldLink RX12 67 RX12 "unlikeOf" "[I" ∈ lwG := lwG_of (tG6 (List.mem_of_getElem? (i := 12) (by decide +kernel))) rfl
theorem fl_RX12_70 : Cond.fieldLink RX12 70 RX12 "near" "[I" ∈ lwG := lwG_of (tG6 (List.mem_of_getElem? (i := 13) (by decide +kernel))) rfl
theorem fl_RX12_73 : Cond.fieldLink RX12 73 RX12 "room" "[I" ∈ lwG := lwG_of (tG6 (List.mem_of_getElem? (i := 14) (by decide +kernel))) rfl
theorem fl_RX12_76 : Cond.fieldLink RX12 76 RX12 "full" "[I" ∈ lwG := lwG_of (tG6 (List.mem_of_getElem? (i := 15) (by decide +kernel))) rfl
theorem fl_RX12_79 : Cond.fieldLink RX12 79 RX12 "lineLong" "[I" ∈ lwG := lwG_of (tG6 (List.mem_of_getElem? (i := 16) (by decide +kernel))) rfl
theorem fl_RX12_82 : Cond.fieldLink RX12 82 RX12 "lineKind" "[I" ∈ lwG := lwG_of (tG6 (List.mem_of_getElem? (i := 17) (by decide +kernel))) rfl
theorem fl_RX12_85 : Cond.fieldLink RX12 85 RX12 "lineHas" "[I" ∈ lwG := lwG_of (tG6 (List.mem_of_getElem? (i := 18) (by decide +kernel))) rfl
theorem fl_RX12_88 : Cond.fieldLink RX12 88 RX12 "seed" "[I" ∈ lwG := lwG_of (tG6 (List.mem_of_getElem? (i := 19) (by decide +kernel))) rfl
theorem fl_RX12_91 : Cond.fieldLink RX12 91 RX12 "lawFirst" "[I" ∈ lwG := lwG_of (tG6 (List.mem_of_getElem? (i := 20) (by decide +kernel))) rfl
theorem fl_RX12_94 : Cond.fieldLink RX12 94 RX12 "lawLast" "[I" ∈ lwG := lwG_of (tG6 (List.mem_of_getElem? (i := 21) (by decide +kernel))) rfl
theorem fl_RX12_270 : Cond.fieldLink RX12 270 RX12 "branches" "I" ∈ lwG := lwG_of (tG6 (List.mem_of_getElem? (i := 22) (by decide +kernel))) rfl
theorem fl_RX12_97 : Cond.fieldLink RX12 97 RX12 "hasTest" "[Z" ∈ lwG := lwG_of (tG6 (List.mem_of_getElem? (i := 23) (by decide +kernel))) rfl
theorem fl_RX12_101 : Cond.fieldLink RX12 101 RX12 "testFrom" "[I" ∈ lwG := lwG_of (tG6 (List.mem_of_getElem? (i := 24) (by decide +kernel))) rfl
theorem fl_RX12_104 : Cond.fieldLink RX12 104 RX12 "testMid" "[I" ∈ lwG := lwG_of (tG6 (List.mem_of_getElem? (i := 25) (by decide +kernel))) rfl
theorem fl_RX12_107 : Cond.fieldLink RX12 107 RX12 "testTo" "[I" ∈ lwG := lwG_of (tG6 (List.mem_of_getElem? (i := 26) (by decide +kernel))) rfl
theorem fl_RX12_110 : Cond.fieldLink RX12 110 RX12 "termTo" "[I" ∈ lwG := lwG_of (tG6 (List.mem_of_getElem? (i := 27) (by decide +kernel))) rfl
theorem fl_RX12_273 : Cond.fieldLink RX12 273 RX12 "codes" "I" ∈ lwG := lwG_of (tG6 (List.mem_of_getElem? (i := 28) (by decide +kernel))) rfl
theorem fl_RX12_113 : Cond.fieldLink RX12 113 RX12 "code" "[I" ∈ lwG := lwG_of (tG6 (List.mem_of_getElem? (i := 29) (by decide +kernel))) rfl
theorem fl_RX12_116 : Cond.fieldLink RX12 116 RX12 "codeInt" "[I" ∈ lwG := lwG_of (tG6 (List.mem_of_getElem? (i := 30) (by decide +kernel))) rfl
theorem fl_RX12_119 : Cond.fieldLink RX12 119 RX12 "waits" "[I" ∈ lwG := lwG_of (tG6 (List.mem_of_getElem? (i := 31) (by decide +kernel))) rfl
theorem fl_RX12_318 : Cond.fieldLink RX12 318 RX12 "waiting" "I" ∈ lwG := lwG_of (tG6 (List.mem_of_getElem? (i := 32) (by decide +kernel))) rfl
theorem fl_RX12_122 : Cond.fieldLink RX12 122 RX12 "variables" "[I" ∈ lwG := lwG_of (tG6 (List.mem_of_getElem? (i := 33) (by decide +kernel))) rfl
theorem fl_RX12_125 : Cond.fieldLink RX12 125 RX12 "pile" "[I" ∈ lwG := lwG_of (tG6 (List.mem_of_getElem? (i := 34) (by decide +kernel))) rfl
theorem fl_RX12_331 : Cond.fieldLink RX12 331 RX12 "isBroken" "Z" ∈ lwG := lwG_of (tG6 (List.mem_of_getElem? (i := 35) (by decide +kernel))) rfl
theorem fl_RX12_128 : Cond.fieldLink RX12 128 RX12 "now" "[I" ∈ lwG := lwG_of (tG6 (List.mem_of_getElem? (i := 36) (by decide +kernel))) rfl
theorem fl_RX12_131 : Cond.fieldLink RX12 131 RX12 "row" "[I" ∈ lwG := lwG_of (tG6 (List.mem_of_getElem? (i := 37) (by decide +kernel))) rfl
theorem fl_RX12_339 : Cond.fieldLink RX12 339 RX12 "how" "I" ∈ lwG := lwG_of (tG6 (List.mem_of_getElem? (i := 38) (by decide +kernel))) rfl
theorem fl_RX12_342 : Cond.fieldLink RX12 342 RX12 "lots" "I" ∈ lwG := lwG_of (tG6 (List.mem_of_getElem? (i := 39) (by decide +kernel))) rfl
theorem fl_RX12_279 : Cond.fieldLink RX12 279 RX12 "undos" "I" ∈ lwG := lwG_of (tG6 (List.mem_of_getElem? (i := 40) (by decide +kernel))) rfl
theorem fl_RX12_134 : Cond.fieldLink RX12 134 RX12 "history" "[I" ∈ lwG := lwG_of (tG6 (List.mem_of_getElem? (i := 41) (by decide +kernel))) rfl
theorem fl_RX12_137 : Cond.fieldLink RX12 137 RX12 "stepOf" "[I" ∈ lwG := lwG_of (tG6 (List.mem_of_getElem? (i := 42) (by decide +kernel))) rfl
theorem fl_RX12_140 : Cond.fieldLink RX12 140 RX12 "ways" "[J" ∈ lwG := lwG_of (tG6 (List.mem_of_getElem? (i := 43) (by decide +kernel))) rfl
theorem fl_RX12_143 : Cond.fieldLink RX12 143 RX12 "drawn" "[I" ∈ lwG := lwG_of (tG6 (List.mem_of_getElem? (i := 44) (by decide +kernel))) rfl
theorem fl_RX12_146 : Cond.fieldLink RX12 146 RX12 "hung" "[I" ∈ lwG := lwG_of (tG6 (List.mem_of_getElem? (i := 45) (by decide +kernel))) rfl
theorem fl_RX12_149 : Cond.fieldLink RX12 149 RX12 "out" "[I" ∈ lwG := lwG_of (tG6 (List.mem_of_getElem? (i := 46) (by decide +kernel))) rfl
theorem fl_RX12_152 : Cond.fieldLink RX12 152 RX12 "lying" "[I" ∈ lwG := lwG_of (tG6 (List.mem_of_getElem? (i := 47) (by decide +kernel))) rfl
theorem fl_RX12_156 : Cond.fieldLink RX12 156 RX12 "worth" "[I" ∈ lwG := lwG_of (tG6 (List.mem_of_getElem? (i := 48) (by decide +kernel))) rfl
theorem fl_RX12_159 : Cond.fieldLink RX12 159 RX12 "waysLost" "[J" ∈ lwG := lwG_of (tG6 (List.mem_of_getElem? (i := 49) (by decide +kernel))) rfl
theorem fl_RX12_162 : Cond.fieldLink RX12 162 RX12 "waysThen" "[J" ∈ lwG := lwG_of (tG6 (List.mem_of_getElem? (i := 50) (by decide +kernel))) rfl
theorem fl_RX12_165 : Cond.fieldLink RX12 165 RX12 "isGone" "[Z" ∈ lwG := lwG_of (tG6 (List.mem_of_getElem? (i := 51) (by decide +kernel))) rfl
theorem fl_RX12_168 : Cond.fieldLink RX12 168 RX12 "there" "[I" ∈ lwG := lwG_of (tG6 (List.mem_of_getElem? (i := 52) (by decide +kernel))) rfl
theorem fl_RX12_282 : Cond.fieldLink RX12 282 RX12 "seen" "I" ∈ lwG := lwG_of (tG6 (List.mem_of_getElem? (i := 53) (by decide +kernel))) rfl
theorem fl_RX12_171 : Cond.fieldLink RX12 171 RX12 "seenKind" "[I" ∈ lwG := lwG_of (tG6 (List.mem_of_getElem? (i := 54) (by decide +kernel))) rfl
theorem fl_RX12_174 : Cond.fieldLink RX12 174 RX12 "seenMany" "[I" ∈ lwG := lwG_of (tG6 (List.mem_of_getElem? (i := 55) (by decide +kernel))) rfl
theorem fl_RX12_177 : Cond.fieldLink RX12 177 RX12 "least" "[I" ∈ lwG := lwG_of (tG6 (List.mem_of_getElem? (i := 56) (by decide +kernel))) rfl
theorem fl_RX12_180 : Cond.fieldLink RX12 180 RX12 "most" "[I" ∈ lwG := lwG_of (tG6 (List.mem_of_getElem? (i := 57) (by decide +kernel))) rfl
theorem fl_RX12_183 : Cond.fieldLink RX12 183 RX12 "isHeld" "[Z" ∈ lwG := lwG_of (tG6 (List.mem_of_getElem? (i := 58) (by decide +kernel))) rfl
theorem fl_RX12_186 : Cond.fieldLink RX12 186 RX12 "held" "[I" ∈ lwG := lwG_of (tG6 (List.mem_of_getElem? (i := 59) (by decide +kernel))) rfl
theorem ml_RL_17 : Cond.methodLink RL 17 yX12_feed ∈ lwG := lwG_of (tG6 (List.mem_of_getElem? (i := 215) (by decide +kernel))) rfl
theorem im_yX12_feed : Cond.instanceMethod yX12_feed ∈ lwG := lwG_of (tG6 (List.mem_of_getElem? (i := 216) (by decide +kernel))) rfl
theorem se_yX12_feed : Cond.selects RX12 yX12_feed yX12_feed ∈ lwG := lwG_of (tG6 (List.mem_of_getElem? (i := 217) (by decide +kernel))) rfl
theorem co_yX12_feed : Cond.code yX12_feed cX12_feed 6 (some .int) ∈ lwG := lwG_of (tG6 (List.mem_of_getElem? (i := 218) rfl)) rfl
theorem ml_RX12_200 : Cond.methodLink RX12 200 yX12_put ∈ lwG := lwG_of (tG6 (List.mem_of_getElem? (i := 219) (by decide +kernel))) rfl
theorem im_yX12_put : Cond.instanceMethod yX12_put ∈ lwG := lwG_of (tG6 (List.mem_of_getElem? (i := 221) (by decide +kernel))) rfl
theorem co_yX12_put : Cond.code yX12_put cX12_put 3 none ∈ lwG := lwG_of (tG6 (List.mem_of_getElem? (i := 222) rfl)) rfl
theorem ml_RL_22 : Cond.methodLink RL 22 yX12_back ∈ lwG := lwG_of (tG6 (List.mem_of_getElem? (i := 223) (by decide +kernel))) rfl
theorem im_yX12_back : Cond.instanceMethod yX12_back ∈ lwG := lwG_of (tG6 (List.mem_of_getElem? (i := 224) (by decide +kernel))) rfl
theorem se_yX12_back : Cond.selects RX12 yX12_back yX12_back ∈ lwG := lwG_of (tG6 (List.mem_of_getElem? (i := 225) (by decide +kernel))) rfl
theorem co_yX12_back : Cond.code yX12_back cX12_back 2 (some .int) ∈ lwG := lwG_of (tG6 (List.mem_of_getElem? (i := 226) rfl)) rfl
theorem ml_RL_27 : Cond.methodLink RL 27 yX12_read ∈ lwG := lwG_of (tG6 (List.mem_of_getElem? (i := 227) (by decide +kernel))) rfl
theorem im_yX12_read : Cond.instanceMethod yX12_read ∈ lwG := lwG_of (tG6 (List.mem_of_getElem? (i := 228) (by decide +kernel))) rfl
theorem se_yX12_read : Cond.selects RX12 yX12_read yX12_read ∈ lwG := lwG_of (tG6 (List.mem_of_getElem? (i := 229) (by decide +kernel))) rfl
theorem co_yX12_read : Cond.code yX12_read cX12_read 2 (some .int) ∈ lwG := lwG_of (tG6 (List.mem_of_getElem? (i := 230) rfl)) rfl
theorem ml_RX12_258 : Cond.methodLink RX12 258 yX12_cut ∈ lwG := lwG_of (tG6 (List.mem_of_getElem? (i := 231) (by decide +kernel))) rfl
theorem im_yX12_cut : Cond.instanceMethod yX12_cut ∈ lwG := lwG_of (tG6 (List.mem_of_getElem? (i := 233) (by decide +kernel))) rfl
theorem co_yX12_cut : Cond.code yX12_cut cX12_cut 8 none ∈ lwG := lwG_of (tG6 (List.mem_of_getElem? (i := 234) rfl)) rfl
theorem ml_RX12_215 : Cond.methodLink RX12 215 yX12_byteAt ∈ lwG := lwG_of (tG6 (List.mem_of_getElem? (i := 235) (by decide +kernel))) rfl
theorem im_yX12_byteAt : Cond.instanceMethod yX12_byteAt ∈ lwG := lwG_of (tG6 (List.mem_of_getElem? (i := 237) (by decide +kernel))) rfl
theorem co_yX12_byteAt : Cond.code yX12_byteAt cX12_byteAt 2 (some .int) ∈ lwG := lwG_of (tG6 (List.mem_of_getElem? (i := 238) rfl)) rfl
theorem ml_RX12_219 : Cond.methodLink RX12 219 yX12_token ∈ lwG := lwG_of (tG6 (List.mem_of_getElem? (i := 239) (by decide +kernel))) rfl
theorem im_yX12_token : Cond.instanceMethod yX12_token ∈ lwG := lwG_of (tG7 (List.mem_of_getElem? (i := 1) (by decide +kernel))) rfl
theorem co_yX12_token : Cond.code yX12_token cX12_token 6 none ∈ lwG := lwG_of (tG7 (List.mem_of_getElem? (i := 2) rfl)) rfl
theorem ml_RX12_223 : Cond.methodLink RX12 223 yX12_isLetter ∈ lwG := lwG_of (tG7 (List.mem_of_getElem? (i := 3) (by decide +kernel))) rfl
theorem sm_yX12_isLetter : Cond.static yX12_isLetter ∈ lwG := lwG_of (tG7 (List.mem_of_getElem? (i := 4) (by decide +kernel))) rfl
theorem co_yX12_isLetter : Cond.code yX12_isLetter cX12_isLetter 1 (some .boolean) ∈ lwG := lwG_of (tG7 (List.mem_of_getElem? (i := 5) rfl)) rfl
theorem ml_RX12_227 : Cond.methodLink RX12 227 yX12_isDigit ∈ lwG := lwG_of (tG7 (List.mem_of_getElem? (i := 6) (by decide +kernel))) rfl
theorem sm_yX12_isDigit : Cond.static yX12_isDigit ∈ lwG := lwG_of (tG7 (List.mem_of_getElem? (i := 7) (by decide +kernel))) rfl
theorem co_yX12_isDigit : Cond.code yX12_isDigit cX12_isDigit 1 (some .boolean) ∈ lwG := lwG_of (tG7 (List.mem_of_getElem? (i := 8) rfl)) rfl
theorem ml_RX12_230 : Cond.methodLink RX12 230 yX12_sign ∈ lwG := lwG_of (tG7 (List.mem_of_getElem? (i := 9) (by decide +kernel))) rfl
theorem im_yX12_sign : Cond.instanceMethod yX12_sign ∈ lwG := lwG_of (tG7 (List.mem_of_getElem? (i := 11) (by decide +kernel))) rfl
theorem co_yX12_sign : Cond.code yX12_sign cX12_sign 5 (some .int) ∈ lwG := lwG_of (tG7 (List.mem_of_getElem? (i := 12) rfl)) rfl
theorem ml_RX12_252 : Cond.methodLink RX12 252 yX12_is ∈ lwG := lwG_of (tG7 (List.mem_of_getElem? (i := 13) (by decide +kernel))) rfl
theorem im_yX12_is : Cond.instanceMethod yX12_is ∈ lwG := lwG_of (tG7 (List.mem_of_getElem? (i := 15) (by decide +kernel))) rfl
theorem co_yX12_is : Cond.code yX12_is cX12_is 2 (some .boolean) ∈ lwG := lwG_of (tG7 (List.mem_of_getElem? (i := 16) rfl)) rfl
theorem ml_RX12_276 : Cond.methodLink RX12 276 yX12_tell ∈ lwG := lwG_of (tG7 (List.mem_of_getElem? (i := 17) (by decide +kernel))) rfl
theorem im_yX12_tell : Cond.instanceMethod yX12_tell ∈ lwG := lwG_of (tG7 (List.mem_of_getElem? (i := 19) (by decide +kernel))) rfl
theorem co_yX12_tell : Cond.code yX12_tell cX12_tell 2 none ∈ lwG := lwG_of (tG7 (List.mem_of_getElem? (i := 20) rfl)) rfl
theorem ml_RX12_249 : Cond.methodLink RX12 249 yX12_fail ∈ lwG := lwG_of (tG7 (List.mem_of_getElem? (i := 21) (by decide +kernel))) rfl
theorem im_yX12_fail : Cond.instanceMethod yX12_fail ∈ lwG := lwG_of (tG7 (List.mem_of_getElem? (i := 23) (by decide +kernel))) rfl
theorem co_yX12_fail : Cond.code yX12_fail cX12_fail 2 none ∈ lwG := lwG_of (tG7 (List.mem_of_getElem? (i := 24) rfl)) rfl
theorem ml_RX12_285 : Cond.methodLink RX12 285 yX12_tellThing ∈ lwG := lwG_of (tG7 (List.mem_of_getElem? (i := 25) (by decide +kernel))) rfl
theorem im_yX12_tellThing : Cond.instanceMethod yX12_tellThing ∈ lwG := lwG_of (tG7 (List.mem_of_getElem? (i := 27) (by decide +kernel))) rfl
theorem co_yX12_tellThing : Cond.code yX12_tellThing cX12_tellThing 8 none ∈ lwG := lwG_of (tG7 (List.mem_of_getElem? (i := 28) rfl)) rfl
theorem ml_RX12_255 : Cond.methodLink RX12 255 yX12_goesOn ∈ lwG := lwG_of (tG7 (List.mem_of_getElem? (i := 29) (by decide +kernel))) rfl
theorem im_yX12_goesOn : Cond.instanceMethod yX12_goesOn ∈ lwG := lwG_of (tG7 (List.mem_of_getElem? (i := 31) (by decide +kernel))) rfl
theorem co_yX12_goesOn : Cond.code yX12_goesOn cX12_goesOn 1 none ∈ lwG := lwG_of (tG7 (List.mem_of_getElem? (i := 32) rfl)) rfl
theorem ml_RX12_295 : Cond.methodLink RX12 295 yX12_must ∈ lwG := lwG_of (tG7 (List.mem_of_getElem? (i := 33) (by decide +kernel))) rfl
theorem im_yX12_must : Cond.instanceMethod yX12_must ∈ lwG := lwG_of (tG7 (List.mem_of_getElem? (i := 35) (by decide +kernel))) rfl
theorem co_yX12_must : Cond.code yX12_must cX12_must 2 none ∈ lwG := lwG_of (tG7 (List.mem_of_getElem? (i := 36) rfl)) rfl
theorem ml_RX12_304 : Cond.methodLink RX12 304 yX12_wrong ∈ lwG := lwG_of (tG7 (List.mem_of_getElem? (i := 37) (by decide +kernel))) rfl
theorem im_yX12_wrong : Cond.instanceMethod yX12_wrong ∈ lwG := lwG_of (tG7 (List.mem_of_getElem? (i := 39) (by decide +kernel))) rfl
theorem co_yX12_wrong : Cond.code yX12_wrong cX12_wrong 4 none ∈ lwG := lwG_of (tG7 (List.mem_of_getElem? (i := 40) rfl)) rfl
theorem ml_RX12_291 : Cond.methodLink RX12 291 yX12_bounded ∈ lwG := lwG_of (tG7 (List.mem_of_getElem? (i := 41) (by decide +kernel))) rfl
theorem im_yX12_bounded : Cond.instanceMethod yX12_bounded ∈ lwG := lwG_of (tG7 (List.mem_of_getElem? (i := 43) (by decide +kernel))) rfl
theorem co_yX12_bounded : Cond.code yX12_bounded cX12_bounded 4 (some .int) ∈ lwG := lwG_of (tG7 (List.mem_of_getElem? (i := 44) rfl)) rfl
theorem ml_RX12_288 : Cond.methodLink RX12 288 yX12_tellLike ∈ lwG := lwG_of (tG7 (List.mem_of_getElem? (i := 45) (by decide +kernel))) rfl
theorem im_yX12_tellLike : Cond.instanceMethod yX12_tellLike ∈ lwG := lwG_of (tG7 (List.mem_of_getElem? (i := 47) (by decide +kernel))) rfl
theorem co_yX12_tellLike : Cond.code yX12_tellLike cX12_tellLike 4 none ∈ lwG := lwG_of (tG7 (List.mem_of_getElem? (i := 48) rfl)) rfl
theorem ml_RX12_308 : Cond.methodLink RX12 308 yX12_known ∈ lwG := lwG_of (tG7 (List.mem_of_getElem? (i := 49) (by decide +kernel))) rfl
theorem im_yX12_known : Cond.instanceMethod yX12_known ∈ lwG := lwG_of (tG7 (List.mem_of_getElem? (i := 51) (by decide +kernel))) rfl
theorem co_yX12_known : Cond.code yX12_known cX12_known 3 (some .int) ∈ lwG := lwG_of (tG7 (List.mem_of_getElem? (i := 52) rfl)) rfl
theorem ml_RX12_298 : Cond.methodLink RX12 298 yX12_tellLine ∈ lwG := lwG_of (tG7 (List.mem_of_getElem? (i := 53) (by decide +kernel))) rfl
theorem im_yX12_tellLine : Cond.instanceMethod yX12_tellLine ∈ lwG := lwG_of (tG7 (List.mem_of_getElem? (i := 55) (by decide +kernel))) rfl
theorem co_yX12_tellLine : Cond.code yX12_tellLine cX12_tellLine 7 none ∈ lwG := lwG_of (tG7 (List.mem_of_getElem? (i := 56) rfl)) rfl
theorem ml_RX12_301 : Cond.methodLink RX12 301 yX12_tellLaw ∈ lwG := lwG_of (tG7 (List.mem_of_getElem? (i := 57) (by decide +kernel))) rfl
theorem im_yX12_tellLaw : Cond.instanceMethod yX12_tellLaw ∈ lwG := lwG_of (tG7 (List.mem_of_getElem? (i := 59) (by decide +kernel))) rfl
theorem co_yX12_tellLaw : Cond.code yX12_tellLaw cX12_tellLaw 3 none ∈ lwG := lwG_of (tG7 (List.mem_of_getElem? (i := 60) rfl)) rfl
theorem ml_RX12_312 : Cond.methodLink RX12 312 yX12_expression ∈ lwG := lwG_of (tG7 (List.mem_of_getElem? (i := 61) (by decide +kernel))) rfl
theorem im_yX12_expression : Cond.instanceMethod yX12_expression ∈ lwG := lwG_of (tG7 (List.mem_of_getElem? (i := 63) (by decide +kernel))) rfl
theorem co_yX12_expression : Cond.code yX12_expression cX12_expression 3 none ∈ lwG := lwG_of (tG7 (List.mem_of_getElem? (i := 64) rfl)) rfl
theorem ml_RX12_324 : Cond.methodLink RX12 324 yX12_unit ∈ lwG := lwG_of (tG7 (List.mem_of_getElem? (i := 65) (by decide +kernel))) rfl
theorem im_yX12_unit : Cond.instanceMethod yX12_unit ∈ lwG := lwG_of (tG7 (List.mem_of_getElem? (i := 67) (by decide +kernel))) rfl
theorem co_yX12_unit : Cond.code yX12_unit cX12_unit 1 none ∈ lwG := lwG_of (tG7 (List.mem_of_getElem? (i := 68) rfl)) rfl
theorem ml_RX12_321 : Cond.methodLink RX12 321 yX12_emit ∈ lwG := lwG_of (tG7 (List.mem_of_getElem? (i := 69) (by decide +kernel))) rfl
theorem im_yX12_emit : Cond.instanceMethod yX12_emit ∈ lwG := lwG_of (tG7 (List.mem_of_getElem? (i := 71) (by decide +kernel))) rfl
theorem co_yX12_emit : Cond.code yX12_emit cX12_emit 3 none ∈ lwG := lwG_of (tG7 (List.mem_of_getElem? (i := 72) rfl)) rfl
theorem ml_RX12_327 : Cond.methodLink RX12 327 yX12_comesOut ∈ lwG := lwG_of (tG7 (List.mem_of_getElem? (i := 73) (by decide +kernel))) rfl
theorem im_yX12_comesOut : Cond.instanceMethod yX12_comesOut ∈ lwG := lwG_of (tG7 (List.mem_of_getElem? (i := 75) (by decide +kernel))) rfl
theorem co_yX12_comesOut : Cond.code yX12_comesOut cX12_comesOut 3 none ∈ lwG := lwG_of (tG7 (List.mem_of_getElem? (i := 76) rfl)) rfl
theorem ml_RX12_315 : Cond.methodLink RX12 315 yX12_term ∈ lwG := lwG_of (tG7 (List.mem_of_getElem? (i := 77) (by decide +kernel))) rfl
theorem im_yX12_term : Cond.instanceMethod yX12_term ∈ lwG := lwG_of (tG7 (List.mem_of_getElem? (i := 79) (by decide +kernel))) rfl
theorem co_yX12_term : Cond.code yX12_term cX12_term 1 none ∈ lwG := lwG_of (tG7 (List.mem_of_getElem? (i := 80) rfl)) rfl
theorem ml_RL_31 : Cond.methodLink RL 31 yX12_place ∈ lwG := lwG_of (tG7 (List.mem_of_getElem? (i := 81) (by decide +kernel))) rfl
theorem im_yX12_place : Cond.instanceMethod yX12_place ∈ lwG := lwG_of (tG7 (List.mem_of_getElem? (i := 82) (by decide +kernel))) rfl
theorem se_yX12_place : Cond.selects RX12 yX12_place yX12_place ∈ lwG := lwG_of (tG7 (List.mem_of_getElem? (i := 83) (by decide +kernel))) rfl
theorem co_yX12_place : Cond.code yX12_place cX12_place 1 (some .int) ∈ lwG := lwG_of (tG7 (List.mem_of_getElem? (i := 84) rfl)) rfl
theorem ml_RL_36 : Cond.methodLink RL 36 yX12_kind ∈ lwG := lwG_of (tG7 (List.mem_of_getElem? (i := 85) (by decide +kernel))) rfl
theorem im_yX12_kind : Cond.instanceMethod yX12_kind ∈ lwG := lwG_of (tG7 (List.mem_of_getElem? (i := 86) (by decide +kernel))) rfl
theorem se_yX12_kind : Cond.selects RX12 yX12_kind yX12_kind ∈ lwG := lwG_of (tG7 (List.mem_of_getElem? (i := 87) (by decide +kernel))) rfl
theorem co_yX12_kind : Cond.code yX12_kind cX12_kind 3 (some .int) ∈ lwG := lwG_of (tG7 (List.mem_of_getElem? (i := 88) rfl)) rfl
theorem ml_RX12_361 : Cond.methodLink RX12 361 yX12_isKind ∈ lwG := lwG_of (tG7 (List.mem_of_getElem? (i := 89) (by decide +kernel))) rfl
theorem im_yX12_isKind : Cond.instanceMethod yX12_isKind ∈ lwG := lwG_of (tG7 (List.mem_of_getElem? (i := 91) (by decide +kernel))) rfl
theorem co_yX12_isKind : Cond.code yX12_isKind cX12_isKind 2 (some .boolean) ∈ lwG := lwG_of (tG7 (List.mem_of_getElem? (i := 92) rfl)) rfl
theorem ml_RX12_335 : Cond.methodLink RX12 335 yX12_in ∈ lwG := lwG_of (tG7 (List.mem_of_getElem? (i := 93) (by decide +kernel))) rfl
theorem sm_yX12_in : Cond.static yX12_in ∈ lwG := lwG_of (tG7 (List.mem_of_getElem? (i := 94) (by decide +kernel))) rfl
theorem co_yX12_in : Cond.code yX12_in cX12_in 3 (some .boolean) ∈ lwG := lwG_of (tG7 (List.mem_of_getElem? (i := 95) rfl)) rfl
theorem ml_RX12_349 : Cond.methodLink RX12 349 yX12_partner ∈ lwG := lwG_of (tG7 (List.mem_of_getElem? (i := 96) (by decide +kernel))) rfl
theorem im_yX12_partner : Cond.instanceMethod yX12_partner ∈ lwG := lwG_of (tG7 (List.mem_of_getElem? (i := 98) (by decide +kernel))) rfl
theorem co_yX12_partner : Cond.code yX12_partner cX12_partner 2 (some .int) ∈ lwG := lwG_of (tG7 (List.mem_of_getElem? (i := 99) rfl)) rfl
theorem ml_RL_40 : Cond.methodLink RL 40 yX12_unlike ∈ lwG := lwG_of (tG7 (List.mem_of_getElem? (i := 100) (by decide +kernel))) rfl
theorem im_yX12_unlike : Cond.instanceMethod yX12_unlike ∈ lwG := lwG_of (tG7 (List.mem_of_getElem? (i := 101) (by decide +kernel))) rfl
theorem se_yX12_unlike : Cond.selects RX12 yX12_unlike yX12_unlike ∈ lwG := lwG_of (tG7 (List.mem_of_getElem? (i := 102) (by decide +kernel))) rfl
theorem co_yX12_unlike : Cond.code yX12_unlike cX12_unlike 3 (some .int) ∈ lwG := lwG_of (tG7 (List.mem_of_getElem? (i := 103) rfl)) rfl
theorem ml_RL_44 : Cond.methodLink RL 44 yX12_draw ∈ lwG := lwG_of (tG7 (List.mem_of_getElem? (i := 104) (by decide +kernel))) rfl
theorem im_yX12_draw : Cond.instanceMethod yX12_draw ∈ lwG := lwG_of (tG7 (List.mem_of_getElem? (i := 105) (by decide +kernel))) rfl
theorem se_yX12_draw : Cond.selects RX12 yX12_draw yX12_draw ∈ lwG := lwG_of (tG7 (List.mem_of_getElem? (i := 106) (by decide +kernel))) rfl
theorem co_yX12_draw : Cond.code yX12_draw cX12_draw 3 (some .int) ∈ lwG := lwG_of (tG7 (List.mem_of_getElem? (i := 107) rfl)) rfl
theorem ml_RX12_364 : Cond.methodLink RX12 364 yX12_copies ∈ lwG := lwG_of (tG7 (List.mem_of_getElem? (i := 108) (by decide +kernel))) rfl
theorem im_yX12_copies : Cond.instanceMethod yX12_copies ∈ lwG := lwG_of (tG7 (List.mem_of_getElem? (i := 110) (by decide +kernel))) rfl
theorem co_yX12_copies : Cond.code yX12_copies cX12_copies 2 none ∈ lwG := lwG_of (tG7 (List.mem_of_getElem? (i := 111) rfl)) rfl
theorem ml_RX12_367 : Cond.methodLink RX12 367 yX12_draws ∈ lwG := lwG_of (tG7 (List.mem_of_getElem? (i := 112) (by decide +kernel))) rfl
theorem im_yX12_draws : Cond.instanceMethod yX12_draws ∈ lwG := lwG_of (tG7 (List.mem_of_getElem? (i := 114) (by decide +kernel))) rfl
theorem co_yX12_draws : Cond.code yX12_draws cX12_draws 4 (some .int) ∈ lwG := lwG_of (tG7 (List.mem_of_getElem? (i := 115) rfl)) rfl
theorem ml_RX12_352 : Cond.methodLink RX12 352 yX12_sumOn ∈ lwG := lwG_of (tG7 (List.mem_of_getElem? (i := 116) (by decide +kernel))) rfl
theorem im_yX12_sumOn : Cond.instanceMethod yX12_sumOn ∈ lwG := lwG_of (tG7 (List.mem_of_getElem? (i := 118) (by decide +kernel))) rfl
theorem co_yX12_sumOn : Cond.code yX12_sumOn cX12_sumOn 4 (some .int) ∈ lwG := lwG_of (tG7 (List.mem_of_getElem? (i := 119) rfl)) rfl
theorem ml_RX12_355 : Cond.methodLink RX12 355 yX12_goesBack ∈ lwG := lwG_of (tG7 (List.mem_of_getElem? (i := 120) (by decide +kernel))) rfl
theorem im_yX12_goesBack : Cond.instanceMethod yX12_goesBack ∈ lwG := lwG_of (tG7 (List.mem_of_getElem? (i := 122) (by decide +kernel))) rfl
theorem co_yX12_goesBack : Cond.code yX12_goesBack cX12_goesBack 4 (some .int) ∈ lwG := lwG_of (tG7 (List.mem_of_getElem? (i := 123) rfl)) rfl
theorem ml_RX12_370 : Cond.methodLink RX12 370 yX12_keeps ∈ lwG := lwG_of (tG7 (List.mem_of_getElem? (i := 124) (by decide +kernel))) rfl
theorem im_yX12_keeps : Cond.instanceMethod yX12_keeps ∈ lwG := lwG_of (tG7 (List.mem_of_getElem? (i := 126) (by decide +kernel))) rfl
theorem co_yX12_keeps : Cond.code yX12_keeps cX12_keeps 2 none ∈ lwG := lwG_of (tG7 (List.mem_of_getElem? (i := 127) rfl)) rfl
theorem ml_RL_48 : Cond.methodLink RL 48 yX12_lot ∈ lwG := lwG_of (tG7 (List.mem_of_getElem? (i := 128) (by decide +kernel))) rfl
theorem im_yX12_lot : Cond.instanceMethod yX12_lot ∈ lwG := lwG_of (tG7 (List.mem_of_getElem? (i := 129) (by decide +kernel))) rfl
theorem se_yX12_lot : Cond.selects RX12 yX12_lot yX12_lot ∈ lwG := lwG_of (tG7 (List.mem_of_getElem? (i := 130) (by decide +kernel))) rfl
theorem co_yX12_lot : Cond.code yX12_lot cX12_lot 3 (some .int) ∈ lwG := lwG_of (tG7 (List.mem_of_getElem? (i := 131) rfl)) rfl
theorem ml_RX12_373 : Cond.methodLink RX12 373 yX12_kindByLot ∈ lwG := lwG_of (tG7 (List.mem_of_getElem? (i := 132) (by decide +kernel))) rfl
theorem im_yX12_kindByLot : Cond.instanceMethod yX12_kindByLot ∈ lwG := lwG_of (tG7 (List.mem_of_getElem? (i := 134) (by decide +kernel))) rfl
theorem co_yX12_kindByLot : Cond.code yX12_kindByLot cX12_kindByLot 3 (some .int) ∈ lwG := lwG_of (tG7 (List.mem_of_getElem? (i := 135) rfl)) rfl
theorem ml_RX12_358 : Cond.methodLink RX12 358 yX12_lotOf ∈ lwG := lwG_of (tG7 (List.mem_of_getElem? (i := 136) (by decide +kernel))) rfl
theorem sm_yX12_lotOf : Cond.static yX12_lotOf ∈ lwG := lwG_of (tG7 (List.mem_of_getElem? (i := 137) (by decide +kernel))) rfl
theorem co_yX12_lotOf : Cond.code yX12_lotOf cX12_lotOf 3 (some .int) ∈ lwG := lwG_of (tG7 (List.mem_of_getElem? (i := 138) rfl)) rfl
theorem ml_RX12_346 : Cond.methodLink RX12 346 yX12_mixed ∈ lwG := lwG_of (tG7 (List.mem_of_getElem? (i := 139) (by decide +kernel))) rfl
theorem sm_yX12_mixed : Cond.static yX12_mixed ∈ lwG := lwG_of (tG7 (List.mem_of_getElem? (i := 140) (by decide +kernel))) rfl
theorem co_yX12_mixed : Cond.code yX12_mixed cX12_mixed 3 (some .int) ∈ lwG := lwG_of (tG7 (List.mem_of_getElem? (i := 141) rfl)) rfl
theorem kc_RX12_345 : Cond.constant RX12 345 (1103515245) ∈ lwG := lwG_of (tG7 (List.mem_of_getElem? (i := 142) (by decide +kernel))) rfl
theorem ml_RL_53 : Cond.methodLink RL 53 yX12_take ∈ lwG := lwG_of (tG7 (List.mem_of_getElem? (i := 143) (by decide +kernel))) rfl
theorem im_yX12_take : Cond.instanceMethod yX12_take ∈ lwG := lwG_of (tG7 (List.mem_of_getElem? (i := 144) (by decide +kernel))) rfl
theorem se_yX12_take : Cond.selects RX12 yX12_take yX12_take ∈ lwG := lwG_of (tG7 (List.mem_of_getElem? (i := 145) (by decide +kernel))) rfl
theorem co_yX12_take : Cond.code yX12_take cX12_take 2 (some .boolean) ∈ lwG := lwG_of (tG7 (List.mem_of_getElem? (i := 146) rfl)) rfl
theorem ml_RL_58 : Cond.methodLink RL 58 yX12_undo ∈ lwG := lwG_of (tG7 (List.mem_of_getElem? (i := 147) (by decide +kernel))) rfl
theorem im_yX12_undo : Cond.instanceMethod yX12_undo ∈ lwG := lwG_of (tG7 (List.mem_of_getElem? (i := 148) (by decide +kernel))) rfl
theorem se_yX12_undo : Cond.selects RX12 yX12_undo yX12_undo ∈ lwG := lwG_of (tG7 (List.mem_of_getElem? (i := 149) (by decide +kernel))) rfl
theorem co_yX12_undo : Cond.code yX12_undo cX12_undo 2 (some .boolean) ∈ lwG := lwG_of (tG7 (List.mem_of_getElem? (i := 150) rfl)) rfl
theorem ml_RL_63 : Cond.methodLink RL 63 yX12_within ∈ lwG := lwG_of (tG7 (List.mem_of_getElem? (i := 151) (by decide +kernel))) rfl
theorem im_yX12_within : Cond.instanceMethod yX12_within ∈ lwG := lwG_of (tG7 (List.mem_of_getElem? (i := 152) (by decide +kernel))) rfl
theorem se_yX12_within : Cond.selects RX12 yX12_within yX12_within ∈ lwG := lwG_of (tG7 (List.mem_of_getElem? (i := 153) (by decide +kernel))) rfl
theorem co_yX12_within : Cond.code yX12_within cX12_within 2 (some .long) ∈ lwG := lwG_of (tG7 (List.mem_of_getElem? (i := 154) rfl)) rfl
theorem ml_RX12_388 : Cond.methodLink RX12 388 yX12_withinOf ∈ lwG := lwG_of (tG7 (List.mem_of_getElem? (i := 155) (by decide +kernel))) rfl
theorem im_yX12_withinOf : Cond.instanceMethod yX12_withinOf ∈ lwG := lwG_of (tG7 (List.mem_of_getElem? (i := 157) (by decide +kernel))) rfl
theorem co_yX12_withinOf : Cond.code yX12_withinOf cX12_withinOf 2 (some .long) ∈ lwG := lwG_of (tG7 (List.mem_of_getElem? (i := 158) rfl)) rfl
theorem ml_RX12_385 : Cond.methodLink RX12 385 yX12_fillsWays ∈ lwG := lwG_of (tG7 (List.mem_of_getElem? (i := 159) (by decide +kernel))) rfl
theorem im_yX12_fillsWays : Cond.instanceMethod yX12_fillsWays ∈ lwG := lwG_of (tG7 (List.mem_of_getElem? (i := 161) (by decide +kernel))) rfl
theorem co_yX12_fillsWays : Cond.code yX12_fillsWays cX12_fillsWays 6 none ∈ lwG := lwG_of (tG7 (List.mem_of_getElem? (i := 162) rfl)) rfl
theorem ml_RX12_376 : Cond.methodLink RX12 376 yX12_fillsSteps ∈ lwG := lwG_of (tG7 (List.mem_of_getElem? (i := 163) (by decide +kernel))) rfl
theorem im_yX12_fillsSteps : Cond.instanceMethod yX12_fillsSteps ∈ lwG := lwG_of (tG7 (List.mem_of_getElem? (i := 165) (by decide +kernel))) rfl
theorem co_yX12_fillsSteps : Cond.code yX12_fillsSteps cX12_fillsSteps 2 none ∈ lwG := lwG_of (tG7 (List.mem_of_getElem? (i := 166) rfl)) rfl
theorem ml_RX12_379 : Cond.methodLink RX12 379 yX12_takesNumber ∈ lwG := lwG_of (tG7 (List.mem_of_getElem? (i := 167) (by decide +kernel))) rfl
theorem im_yX12_takesNumber : Cond.instanceMethod yX12_takesNumber ∈ lwG := lwG_of (tG7 (List.mem_of_getElem? (i := 169) (by decide +kernel))) rfl
theorem co_yX12_takesNumber : Cond.code yX12_takesNumber cX12_takesNumber 3 none ∈ lwG := lwG_of (tG7 (List.mem_of_getElem? (i := 170) rfl)) rfl
theorem ml_RX12_382 : Cond.methodLink RX12 382 yX12_lieOut ∈ lwG := lwG_of (tG7 (List.mem_of_getElem? (i := 171) (by decide +kernel))) rfl
theorem im_yX12_lieOut : Cond.instanceMethod yX12_lieOut ∈ lwG := lwG_of (tG7 (List.mem_of_getElem? (i := 173) (by decide +kernel))) rfl
theorem co_yX12_lieOut : Cond.code yX12_lieOut cX12_lieOut 5 (some .int) ∈ lwG := lwG_of (tG7 (List.mem_of_getElem? (i := 174) rfl)) rfl
theorem kL_RX12_392 : Cond.constantLong RX12 392 (-1) ∈ lwG := lwG_of (tG7 (List.mem_of_getElem? (i := 175) (by decide +kernel))) rfl
theorem ml_RL_67 : Cond.methodLink RL 67 yX12_lies ∈ lwG := lwG_of (tG7 (List.mem_of_getElem? (i := 176) (by decide +kernel))) rfl
theorem im_yX12_lies : Cond.instanceMethod yX12_lies ∈ lwG := lwG_of (tG7 (List.mem_of_getElem? (i := 177) (by decide +kernel))) rfl
theorem se_yX12_lies : Cond.selects RX12 yX12_lies yX12_lies ∈ lwG := lwG_of (tG7 (List.mem_of_getElem? (i := 178) (by decide +kernel))) rfl
theorem co_yX12_lies : Cond.code yX12_lies cX12_lies 7 (some .long) ∈ lwG := lwG_of (tG7 (List.mem_of_getElem? (i := 179) rfl)) rfl
theorem ml_RX12_394 : Cond.methodLink RX12 394 yX12_orders ∈ lwG := lwG_of (tG7 (List.mem_of_getElem? (i := 180) (by decide +kernel))) rfl
theorem sm_yX12_orders : Cond.static yX12_orders ∈ lwG := lwG_of (tG7 (List.mem_of_getElem? (i := 181) (by decide +kernel))) rfl
theorem co_yX12_orders : Cond.code yX12_orders cX12_orders 4 (some .long) ∈ lwG := lwG_of (tG7 (List.mem_of_getElem? (i := 182) rfl)) rfl
theorem ml_RX12_397 : Cond.methodLink RX12 397 yX12_drawnAll ∈ lwG := lwG_of (tG7 (List.mem_of_getElem? (i := 183) (by decide +kernel))) rfl
theorem im_yX12_drawnAll : Cond.instanceMethod yX12_drawnAll ∈ lwG := lwG_of (tG7 (List.mem_of_getElem? (i := 185) (by decide +kernel))) rfl
theorem co_yX12_drawnAll : Cond.code yX12_drawnAll cX12_drawnAll 3 (some .int) ∈ lwG := lwG_of (tG7 (List.mem_of_getElem? (i := 186) rfl)) rfl
theorem ml_RL_72 : Cond.methodLink RL 72 yX12_mosts ∈ lwG := lwG_of (tG7 (List.mem_of_getElem? (i := 187) (by decide +kernel))) rfl
theorem im_yX12_mosts : Cond.instanceMethod yX12_mosts ∈ lwG := lwG_of (tG7 (List.mem_of_getElem? (i := 188) (by decide +kernel))) rfl
theorem se_yX12_mosts : Cond.selects RX12 yX12_mosts yX12_mosts ∈ lwG := lwG_of (tG7 (List.mem_of_getElem? (i := 189) (by decide +kernel))) rfl
theorem co_yX12_mosts : Cond.code yX12_mosts cX12_mosts 6 (some .long) ∈ lwG := lwG_of (tG7 (List.mem_of_getElem? (i := 190) rfl)) rfl
theorem ml_RL_76 : Cond.methodLink RL 76 yX12_sure ∈ lwG := lwG_of (tG7 (List.mem_of_getElem? (i := 191) (by decide +kernel))) rfl
theorem im_yX12_sure : Cond.instanceMethod yX12_sure ∈ lwG := lwG_of (tG7 (List.mem_of_getElem? (i := 192) (by decide +kernel))) rfl
theorem se_yX12_sure : Cond.selects RX12 yX12_sure yX12_sure ∈ lwG := lwG_of (tG7 (List.mem_of_getElem? (i := 193) (by decide +kernel))) rfl
theorem co_yX12_sure : Cond.code yX12_sure cX12_sure 6 (some .int) ∈ lwG := lwG_of (tG7 (List.mem_of_getElem? (i := 194) rfl)) rfl
theorem ml_RL_80 : Cond.methodLink RL 80 yX12_evening ∈ lwG := lwG_of (tG7 (List.mem_of_getElem? (i := 195) (by decide +kernel))) rfl
theorem im_yX12_evening : Cond.instanceMethod yX12_evening ∈ lwG := lwG_of (tG7 (List.mem_of_getElem? (i := 196) (by decide +kernel))) rfl
theorem se_yX12_evening : Cond.selects RX12 yX12_evening yX12_evening ∈ lwG := lwG_of (tG7 (List.mem_of_getElem? (i := 197) (by decide +kernel))) rfl
theorem co_yX12_evening : Cond.code yX12_evening cX12_evening 2 (some .int) ∈ lwG := lwG_of (tG7 (List.mem_of_getElem? (i := 198) rfl)) rfl
theorem ml_RX12_400 : Cond.methodLink RX12 400 yX12_drawsIn ∈ lwG := lwG_of (tG7 (List.mem_of_getElem? (i := 199) (by decide +kernel))) rfl
theorem im_yX12_drawsIn : Cond.instanceMethod yX12_drawsIn ∈ lwG := lwG_of (tG7 (List.mem_of_getElem? (i := 201) (by decide +kernel))) rfl
theorem co_yX12_drawsIn : Cond.code yX12_drawsIn cX12_drawsIn 3 (some .int) ∈ lwG := lwG_of (tG7 (List.mem_of_getElem? (i := 202) rfl)) rfl
theorem ml_RL_84 : Cond.methodLink RL 84 yX12_soonest ∈ lwG := lwG_of (tG7 (List.mem_of_getElem? (i := 203) (by decide +kernel))) rfl
theorem im_yX12_soonest : Cond.instanceMethod yX12_soonest ∈ lwG := lwG_of (tG7 (List.mem_of_getElem? (i := 204) (by decide +kernel))) rfl
theorem se_yX12_soonest : Cond.selects RX12 yX12_soonest yX12_soonest ∈ lwG := lwG_of (tG7 (List.mem_of_getElem? (i := 205) (by decide +kernel))) rfl
theorem co_yX12_soonest : Cond.code yX12_soonest cX12_soonest 9 (some .int) ∈ lwG := lwG_of (tG7 (List.mem_of_getElem? (i := 206) rfl)) rfl
theorem ml_RL_88 : Cond.methodLink RL 88 yX12_line ∈ lwG := lwG_of (tG7 (List.mem_of_getElem? (i := 207) (by decide +kernel))) rfl
theorem im_yX12_line : Cond.instanceMethod yX12_line ∈ lwG := lwG_of (tG7 (List.mem_of_getElem? (i := 208) (by decide +kernel))) rfl
theorem se_yX12_line : Cond.selects RX12 yX12_line yX12_line ∈ lwG := lwG_of (tG7 (List.mem_of_getElem? (i := 209) (by decide +kernel))) rfl
theorem co_yX12_line : Cond.code yX12_line cX12_line 1 (some .int) ∈ lwG := lwG_of (tG7 (List.mem_of_getElem? (i := 210) rfl)) rfl
theorem ml_RX12_403 : Cond.methodLink RX12 403 yX12_hangs ∈ lwG := lwG_of (tG7 (List.mem_of_getElem? (i := 211) (by decide +kernel))) rfl
theorem im_yX12_hangs : Cond.instanceMethod yX12_hangs ∈ lwG := lwG_of (tG7 (List.mem_of_getElem? (i := 213) (by decide +kernel))) rfl
theorem co_yX12_hangs : Cond.code yX12_hangs cX12_hangs 2 none ∈ lwG := lwG_of (tG7 (List.mem_of_getElem? (i := 214) rfl)) rfl
theorem ml_RX12_406 : Cond.methodLink RX12 406 yX12_mostOut ∈ lwG := lwG_of (tG7 (List.mem_of_getElem? (i := 215) (by decide +kernel))) rfl
theorem im_yX12_mostOut : Cond.instanceMethod yX12_mostOut ∈ lwG := lwG_of (tG7 (List.mem_of_getElem? (i := 217) (by decide +kernel))) rfl
theorem co_yX12_mostOut : Cond.code yX12_mostOut cX12_mostOut 5 (some .int) ∈ lwG := lwG_of (tG7 (List.mem_of_getElem? (i := 218) rfl)) rfl
theorem ml_RL_92 : Cond.methodLink RL 92 yX12_exchange ∈ lwG := lwG_of (tG7 (List.mem_of_getElem? (i := 219) (by decide +kernel))) rfl
theorem im_yX12_exchange : Cond.instanceMethod yX12_exchange ∈ lwG := lwG_of (tG7 (List.mem_of_getElem? (i := 220) (by decide +kernel))) rfl
theorem se_yX12_exchange : Cond.selects RX12 yX12_exchange yX12_exchange ∈ lwG := lwG_of (tG7 (List.mem_of_getElem? (i := 221) (by decide +kernel))) rfl
theorem co_yX12_exchange : Cond.code yX12_exchange cX12_exchange 8 (some .int) ∈ lwG := lwG_of (tG7 (List.mem_of_getElem? (i := 222) rfl)) rfl
theorem ml_RL_96 : Cond.methodLink RL 96 yX12_odd ∈ lwG := lwG_of (tG7 (List.mem_of_getElem? (i := 223) (by decide +kernel))) rfl
theorem im_yX12_odd : Cond.instanceMethod yX12_odd ∈ lwG := lwG_of (tG7 (List.mem_of_getElem? (i := 224) (by decide +kernel))) rfl
theorem se_yX12_odd : Cond.selects RX12 yX12_odd yX12_odd ∈ lwG := lwG_of (tG7 (List.mem_of_getElem? (i := 225) (by decide +kernel))) rfl
theorem co_yX12_odd : Cond.code yX12_odd cX12_odd 8 (some .int) ∈ lwG := lwG_of (tG7 (List.mem_of_getElem? (i := 226) rfl)) rfl
theorem ml_RX12_412 : Cond.methodLink RX12 412 yX12_canPair ∈ lwG := lwG_of (tG7 (List.mem_of_getElem? (i := 227) (by decide +kernel))) rfl
theorem im_yX12_canPair : Cond.instanceMethod yX12_canPair ∈ lwG := lwG_of (tG7 (List.mem_of_getElem? (i := 229) (by decide +kernel))) rfl
theorem co_yX12_canPair : Cond.code yX12_canPair cX12_canPair 6 (some .boolean) ∈ lwG := lwG_of (tG7 (List.mem_of_getElem? (i := 230) rfl)) rfl
theorem ml_RX12_409 : Cond.methodLink RX12 409 yX12_unlikeBy ∈ lwG := lwG_of (tG7 (List.mem_of_getElem? (i := 231) (by decide +kernel))) rfl
theorem im_yX12_unlikeBy : Cond.instanceMethod yX12_unlikeBy ∈ lwG := lwG_of (tG7 (List.mem_of_getElem? (i := 233) (by decide +kernel))) rfl
theorem co_yX12_unlikeBy : Cond.code yX12_unlikeBy cX12_unlikeBy 3 (some .int) ∈ lwG := lwG_of (tG7 (List.mem_of_getElem? (i := 234) rfl)) rfl
theorem ml_RL_101 : Cond.methodLink RL 101 yX12_lost ∈ lwG := lwG_of (tG7 (List.mem_of_getElem? (i := 235) (by decide +kernel))) rfl
theorem im_yX12_lost : Cond.instanceMethod yX12_lost ∈ lwG := lwG_of (tG7 (List.mem_of_getElem? (i := 236) (by decide +kernel))) rfl
theorem se_yX12_lost : Cond.selects RX12 yX12_lost yX12_lost ∈ lwG := lwG_of (tG7 (List.mem_of_getElem? (i := 237) (by decide +kernel))) rfl
theorem co_yX12_lost : Cond.code yX12_lost cX12_lost 10 (some .long) ∈ lwG := lwG_of (tG7 (List.mem_of_getElem? (i := 238) rfl)) rfl
theorem ml_RX12_420 : Cond.methodLink RX12 420 yX12_left ∈ lwG := lwG_of (tG7 (List.mem_of_getElem? (i := 239) (by decide +kernel))) rfl
theorem sm_yX12_left : Cond.static yX12_left ∈ lwG := lwG_of (tG8 (List.mem_of_getElem? (i := 0) (by decide +kernel))) rfl
theorem co_yX12_left : Cond.code yX12_left cX12_left 7 (some .long) ∈ lwG := lwG_of (tG8 (List.mem_of_getElem? (i := 1) rfl)) rfl
theorem ml_RX12_416 : Cond.methodLink RX12 416 yX12_choose ∈ lwG := lwG_of (tG8 (List.mem_of_getElem? (i := 2) (by decide +kernel))) rfl
theorem sm_yX12_choose : Cond.static yX12_choose ∈ lwG := lwG_of (tG8 (List.mem_of_getElem? (i := 3) (by decide +kernel))) rfl
theorem co_yX12_choose : Cond.code yX12_choose cX12_choose 5 (some .long) ∈ lwG := lwG_of (tG8 (List.mem_of_getElem? (i := 4) rfl)) rfl
theorem ml_RX12_424 : Cond.methodLink RX12 424 yX12_joins ∈ lwG := lwG_of (tG8 (List.mem_of_getElem? (i := 5) (by decide +kernel))) rfl
theorem im_yX12_joins : Cond.instanceMethod yX12_joins ∈ lwG := lwG_of (tG8 (List.mem_of_getElem? (i := 7) (by decide +kernel))) rfl
theorem co_yX12_joins : Cond.code yX12_joins cX12_joins 5 none ∈ lwG := lwG_of (tG8 (List.mem_of_getElem? (i := 8) rfl)) rfl
theorem ml_RL_105 : Cond.methodLink RL 105 yX12_years ∈ lwG := lwG_of (tG8 (List.mem_of_getElem? (i := 9) (by decide +kernel))) rfl
theorem im_yX12_years : Cond.instanceMethod yX12_years ∈ lwG := lwG_of (tG8 (List.mem_of_getElem? (i := 10) (by decide +kernel))) rfl
theorem se_yX12_years : Cond.selects RX12 yX12_years yX12_years ∈ lwG := lwG_of (tG8 (List.mem_of_getElem? (i := 11) (by decide +kernel))) rfl
theorem co_yX12_years : Cond.code yX12_years cX12_years 10 (some .int) ∈ lwG := lwG_of (tG8 (List.mem_of_getElem? (i := 12) rfl)) rfl
theorem ml_RX12_431 : Cond.methodLink RX12 431 yX12_loses ∈ lwG := lwG_of (tG8 (List.mem_of_getElem? (i := 13) (by decide +kernel))) rfl
theorem im_yX12_loses : Cond.instanceMethod yX12_loses ∈ lwG := lwG_of (tG8 (List.mem_of_getElem? (i := 15) (by decide +kernel))) rfl
theorem co_yX12_loses : Cond.code yX12_loses cX12_loses 4 (some .int) ∈ lwG := lwG_of (tG8 (List.mem_of_getElem? (i := 16) rfl)) rfl
theorem ml_RX12_428 : Cond.methodLink RX12 428 yX12_termOf ∈ lwG := lwG_of (tG8 (List.mem_of_getElem? (i := 17) (by decide +kernel))) rfl
theorem im_yX12_termOf : Cond.instanceMethod yX12_termOf ∈ lwG := lwG_of (tG8 (List.mem_of_getElem? (i := 19) (by decide +kernel))) rfl
theorem co_yX12_termOf : Cond.code yX12_termOf cX12_termOf 8 (some .int) ∈ lwG := lwG_of (tG8 (List.mem_of_getElem? (i := 20) rfl)) rfl
theorem ml_RL_109 : Cond.methodLink RL 109 yX12_see ∈ lwG := lwG_of (tG8 (List.mem_of_getElem? (i := 21) (by decide +kernel))) rfl
theorem im_yX12_see : Cond.instanceMethod yX12_see ∈ lwG := lwG_of (tG8 (List.mem_of_getElem? (i := 22) (by decide +kernel))) rfl
theorem se_yX12_see : Cond.selects RX12 yX12_see yX12_see ∈ lwG := lwG_of (tG8 (List.mem_of_getElem? (i := 23) (by decide +kernel))) rfl
theorem co_yX12_see : Cond.code yX12_see cX12_see 3 (some .int) ∈ lwG := lwG_of (tG8 (List.mem_of_getElem? (i := 24) rfl)) rfl
theorem ml_RL_113 : Cond.methodLink RL 113 yX12_forget ∈ lwG := lwG_of (tG8 (List.mem_of_getElem? (i := 25) (by decide +kernel))) rfl
theorem im_yX12_forget : Cond.instanceMethod yX12_forget ∈ lwG := lwG_of (tG8 (List.mem_of_getElem? (i := 26) (by decide +kernel))) rfl
theorem se_yX12_forget : Cond.selects RX12 yX12_forget yX12_forget ∈ lwG := lwG_of (tG8 (List.mem_of_getElem? (i := 27) (by decide +kernel))) rfl
theorem co_yX12_forget : Cond.code yX12_forget cX12_forget 2 (some .int) ∈ lwG := lwG_of (tG8 (List.mem_of_getElem? (i := 28) rfl)) rfl
theorem ml_RL_118 : Cond.methodLink RL 118 yX12_rows ∈ lwG := lwG_of (tG8 (List.mem_of_getElem? (i := 29) (by decide +kernel))) rfl
theorem im_yX12_rows : Cond.instanceMethod yX12_rows ∈ lwG := lwG_of (tG8 (List.mem_of_getElem? (i := 30) (by decide +kernel))) rfl
theorem se_yX12_rows : Cond.selects RX12 yX12_rows yX12_rows ∈ lwG := lwG_of (tG8 (List.mem_of_getElem? (i := 31) (by decide +kernel))) rfl
theorem co_yX12_rows : Cond.code yX12_rows cX12_rows 3 (some .long) ∈ lwG := lwG_of (tG8 (List.mem_of_getElem? (i := 32) rfl)) rfl
theorem ml_RX12_437 : Cond.methodLink RX12 437 yX12_fillsRows ∈ lwG := lwG_of (tG8 (List.mem_of_getElem? (i := 33) (by decide +kernel))) rfl
theorem im_yX12_fillsRows : Cond.instanceMethod yX12_fillsRows ∈ lwG := lwG_of (tG8 (List.mem_of_getElem? (i := 35) (by decide +kernel))) rfl
theorem co_yX12_fillsRows : Cond.code yX12_fillsRows cX12_fillsRows 7 (some .int) ∈ lwG := lwG_of (tG8 (List.mem_of_getElem? (i := 36) rfl)) rfl
theorem ml_RX12_434 : Cond.methodLink RX12 434 yX12_liesOf ∈ lwG := lwG_of (tG8 (List.mem_of_getElem? (i := 37) (by decide +kernel))) rfl
theorem im_yX12_liesOf : Cond.instanceMethod yX12_liesOf ∈ lwG := lwG_of (tG8 (List.mem_of_getElem? (i := 39) (by decide +kernel))) rfl
theorem co_yX12_liesOf : Cond.code yX12_liesOf cX12_liesOf 3 (some .int) ∈ lwG := lwG_of (tG8 (List.mem_of_getElem? (i := 40) rfl)) rfl
theorem ml_RL_123 : Cond.methodLink RL 123 yX12_span ∈ lwG := lwG_of (tG8 (List.mem_of_getElem? (i := 41) (by decide +kernel))) rfl
theorem im_yX12_span : Cond.instanceMethod yX12_span ∈ lwG := lwG_of (tG8 (List.mem_of_getElem? (i := 42) (by decide +kernel))) rfl
theorem se_yX12_span : Cond.selects RX12 yX12_span yX12_span ∈ lwG := lwG_of (tG8 (List.mem_of_getElem? (i := 43) (by decide +kernel))) rfl
theorem co_yX12_span : Cond.code yX12_span cX12_span 4 (some .int) ∈ lwG := lwG_of (tG8 (List.mem_of_getElem? (i := 44) rfl)) rfl
theorem ml_RL_127 : Cond.methodLink RL 127 yX12_hold ∈ lwG := lwG_of (tG8 (List.mem_of_getElem? (i := 45) (by decide +kernel))) rfl
theorem im_yX12_hold : Cond.instanceMethod yX12_hold ∈ lwG := lwG_of (tG8 (List.mem_of_getElem? (i := 46) (by decide +kernel))) rfl
theorem se_yX12_hold : Cond.selects RX12 yX12_hold yX12_hold ∈ lwG := lwG_of (tG8 (List.mem_of_getElem? (i := 47) (by decide +kernel))) rfl
theorem co_yX12_hold : Cond.code yX12_hold cX12_hold 3 (some .boolean) ∈ lwG := lwG_of (tG8 (List.mem_of_getElem? (i := 48) rfl)) rfl
theorem ml_RL_131 : Cond.methodLink RL 131 yX12_restore ∈ lwG := lwG_of (tG8 (List.mem_of_getElem? (i := 49) (by decide +kernel))) rfl
theorem im_yX12_restore : Cond.instanceMethod yX12_restore ∈ lwG := lwG_of (tG8 (List.mem_of_getElem? (i := 50) (by decide +kernel))) rfl
theorem se_yX12_restore : Cond.selects RX12 yX12_restore yX12_restore ∈ lwG := lwG_of (tG8 (List.mem_of_getElem? (i := 51) (by decide +kernel))) rfl
theorem co_yX12_restore : Cond.code yX12_restore cX12_restore 3 (some .boolean) ∈ lwG := lwG_of (tG8 (List.mem_of_getElem? (i := 52) rfl)) rfl
theorem ml_RL_135 : Cond.methodLink RL 135 yX12_count ∈ lwG := lwG_of (tG8 (List.mem_of_getElem? (i := 53) (by decide +kernel))) rfl
theorem im_yX12_count : Cond.instanceMethod yX12_count ∈ lwG := lwG_of (tG8 (List.mem_of_getElem? (i := 54) (by decide +kernel))) rfl
theorem se_yX12_count : Cond.selects RX12 yX12_count yX12_count ∈ lwG := lwG_of (tG8 (List.mem_of_getElem? (i := 55) (by decide +kernel))) rfl
theorem co_yX12_count : Cond.code yX12_count cX12_count 2 (some .int) ∈ lwG := lwG_of (tG8 (List.mem_of_getElem? (i := 56) rfl)) rfl
theorem ml_RX12_440 : Cond.methodLink RX12 440 yX12_rolledAll ∈ lwG := lwG_of (tG8 (List.mem_of_getElem? (i := 57) (by decide +kernel))) rfl
theorem im_yX12_rolledAll : Cond.instanceMethod yX12_rolledAll ∈ lwG := lwG_of (tG8 (List.mem_of_getElem? (i := 59) (by decide +kernel))) rfl
theorem co_yX12_rolledAll : Cond.code yX12_rolledAll cX12_rolledAll 3 (some .int) ∈ lwG := lwG_of (tG8 (List.mem_of_getElem? (i := 60) rfl)) rfl
theorem fl_RJ0_9 : Cond.fieldLink RJ0 9 RJ0 "value" "[B" ∈ lwG := lwG_of (tG8 (List.mem_of_getElem? (i := 61) (by decide +kernel))) rfl
theorem fl_RJ0_15 : Cond.fieldLink RJ0 15 RJ0 "coder" "B" ∈ lwG := lwG_of (tG8 (List.mem_of_getElem? (i := 62) (by decide +kernel))) rfl
theorem se_yX5_forgetCounts : Cond.selects RX5 yX5_forgetCounts yX5_forgetCounts ∈ lwG := lwG_of (List.mem_append_left _ (List.mem_of_getElem? (i := 0) (by decide +kernel))) rfl
theorem se_yX8_afterBlanks : Cond.selects RX8 yX8_afterBlanks yX8_afterBlanks ∈ lwG := lwG_of (List.mem_append_left _ (List.mem_of_getElem? (i := 1) (by decide +kernel))) rfl
theorem se_yX8_splitOff : Cond.selects RX8 yX8_splitOff yX8_splitOff ∈ lwG := lwG_of (List.mem_append_left _ (List.mem_of_getElem? (i := 2) (by decide +kernel))) rfl
theorem se_yX8_splitOffLetters : Cond.selects RX8 yX8_splitOffLetters yX8_splitOffLetters ∈ lwG := lwG_of (List.mem_append_left _ (List.mem_of_getElem? (i := 3) (by decide +kernel))) rfl
theorem se_yX8_typeOfLetters : Cond.selects RX8 yX8_typeOfLetters yX8_typeOfLetters ∈ lwG := lwG_of (List.mem_append_left _ (List.mem_of_getElem? (i := 4) (by decide +kernel))) rfl
theorem se_yX8_addToken : Cond.selects RX8 yX8_addToken yX8_addToken ∈ lwG := lwG_of (List.mem_append_left _ (List.mem_of_getElem? (i := 5) (by decide +kernel))) rfl
theorem se_yX8_splitOffDigits : Cond.selects RX8 yX8_splitOffDigits yX8_splitOffDigits ∈ lwG := lwG_of (List.mem_append_left _ (List.mem_of_getElem? (i := 6) (by decide +kernel))) rfl
theorem se_yX0_step : Cond.selects RX0 yX0_step yX0_step ∈ lwG := lwG_of (List.mem_append_left _ (List.mem_of_getElem? (i := 7) (by decide +kernel))) rfl
theorem se_yX0_fail : Cond.selects RX0 yX0_fail yX0_fail ∈ lwG := lwG_of (List.mem_append_left _ (List.mem_of_getElem? (i := 8) (by decide +kernel))) rfl
theorem se_yX0_wholeLaw : Cond.selects RX0 yX0_wholeLaw yX0_wholeLaw ∈ lwG := lwG_of (List.mem_append_left _ (List.mem_of_getElem? (i := 9) (by decide +kernel))) rfl
theorem se_yX0_addIf : Cond.selects RX0 yX0_addIf yX0_addIf ∈ lwG := lwG_of (List.mem_append_left _ (List.mem_of_getElem? (i := 10) (by decide +kernel))) rfl
theorem se_yX0_sum : Cond.selects RX0 yX0_sum yX0_sum ∈ lwG := lwG_of (List.mem_append_left _ (List.mem_of_getElem? (i := 11) (by decide +kernel))) rfl
theorem se_yX0_product : Cond.selects RX0 yX0_product yX0_product ∈ lwG := lwG_of (List.mem_append_left _ (List.mem_of_getElem? (i := 12) (by decide +kernel))) rfl
theorem se_yX0_unit : Cond.selects RX0 yX0_unit yX0_unit ∈ lwG := lwG_of (List.mem_append_left _ (List.mem_of_getElem? (i := 13) (by decide +kernel))) rfl
theorem se_yX0_tell : Cond.selects RX0 yX0_tell yX0_tell ∈ lwG := lwG_of (List.mem_append_left _ (List.mem_of_getElem? (i := 14) (by decide +kernel))) rfl
theorem se_yX0_addKinds : Cond.selects RX0 yX0_addKinds yX0_addKinds ∈ lwG := lwG_of (List.mem_append_left _ (List.mem_of_getElem? (i := 15) (by decide +kernel))) rfl
theorem se_yX0_addLike : Cond.selects RX0 yX0_addLike yX0_addLike ∈ lwG := lwG_of (List.mem_append_left _ (List.mem_of_getElem? (i := 16) (by decide +kernel))) rfl
theorem se_yX0_wayOfFull : Cond.selects RX0 yX0_wayOfFull yX0_wayOfFull ∈ lwG := lwG_of (List.mem_append_left _ (List.mem_of_getElem? (i := 17) (by decide +kernel))) rfl
theorem se_yX0_sides : Cond.selects RX0 yX0_sides yX0_sides ∈ lwG := lwG_of (List.mem_append_left _ (List.mem_of_getElem? (i := 18) (by decide +kernel))) rfl
theorem se_yX9_tell : Cond.selects RX9 yX9_tell yX9_tell ∈ lwG := lwG_of (List.mem_append_left _ (List.mem_of_getElem? (i := 19) (by decide +kernel))) rfl
theorem se_yX9_tellSock : Cond.selects RX9 yX9_tellSock yX9_tellSock ∈ lwG := lwG_of (List.mem_append_left _ (List.mem_of_getElem? (i := 20) (by decide +kernel))) rfl
theorem se_yX9_newName : Cond.selects RX9 yX9_newName yX9_newName ∈ lwG := lwG_of (List.mem_append_left _ (List.mem_of_getElem? (i := 21) (by decide +kernel))) rfl
theorem se_yX9_fail : Cond.selects RX9 yX9_fail yX9_fail ∈ lwG := lwG_of (List.mem_append_left _ (List.mem_of_getElem? (i := 22) (by decide +kernel))) rfl
theorem se_yX9_number : Cond.selects RX9 yX9_number yX9_number ∈ lwG := lwG_of (List.mem_append_left _ (List.mem_of_getElem? (i := 23) (by decide +kernel))) rfl
theorem se_yX9_tellGlove : Cond.selects RX9 yX9_tellGlove yX9_tellGlove ∈ lwG := lwG_of (List.mem_append_left _ (List.mem_of_getElem? (i := 24) (by decide +kernel))) rfl
theorem se_yX9_tellLike : Cond.selects RX9 yX9_tellLike yX9_tellLike ∈ lwG := lwG_of (List.mem_append_left _ (List.mem_of_getElem? (i := 25) (by decide +kernel))) rfl
theorem se_yX9_oldName : Cond.selects RX9 yX9_oldName yX9_oldName ∈ lwG := lwG_of (List.mem_append_left _ (List.mem_of_getElem? (i := 26) (by decide +kernel))) rfl
theorem se_yX9_tellLine : Cond.selects RX9 yX9_tellLine yX9_tellLine ∈ lwG := lwG_of (List.mem_append_left _ (List.mem_of_getElem? (i := 27) (by decide +kernel))) rfl
theorem se_yX9_hang : Cond.selects RX9 yX9_hang yX9_hang ∈ lwG := lwG_of (List.mem_append_left _ (List.mem_of_getElem? (i := 28) (by decide +kernel))) rfl
theorem se_yX11_beginAnew : Cond.selects RX11 yX11_beginAnew yX11_beginAnew ∈ lwG := lwG_of (List.mem_append_left _ (List.mem_of_getElem? (i := 29) (by decide +kernel))) rfl
theorem se_yX11_isKind : Cond.selects RX11 yX11_isKind yX11_isKind ∈ lwG := lwG_of (List.mem_append_left _ (List.mem_of_getElem? (i := 30) (by decide +kernel))) rfl
theorem se_yX11_remember : Cond.selects RX11 yX11_remember yX11_remember ∈ lwG := lwG_of (List.mem_append_left _ (List.mem_of_getElem? (i := 31) (by decide +kernel))) rfl
theorem se_yX7_goingBack : Cond.selects RX7 yX7_goingBack yX7_goingBack ∈ lwG := lwG_of (List.mem_append_left _ (List.mem_of_getElem? (i := 32) (by decide +kernel))) rfl
theorem se_yX5_countWithin : Cond.selects RX5 yX5_countWithin yX5_countWithin ∈ lwG := lwG_of (List.mem_append_left _ (List.mem_of_getElem? (i := 33) (by decide +kernel))) rfl
theorem se_yX5_lyingNow : Cond.selects RX5 yX5_lyingNow yX5_lyingNow ∈ lwG := lwG_of (List.mem_append_left _ (List.mem_of_getElem? (i := 34) (by decide +kernel))) rfl
theorem se_yX5_lyingOf : Cond.selects RX5 yX5_lyingOf yX5_lyingOf ∈ lwG := lwG_of (List.mem_append_left _ (List.mem_of_getElem? (i := 35) (by decide +kernel))) rfl
theorem se_yX5_waysTo : Cond.selects RX5 yX5_waysTo yX5_waysTo ∈ lwG := lwG_of (List.mem_append_left _ (List.mem_of_getElem? (i := 36) (by decide +kernel))) rfl
theorem se_yX5_choicesLying : Cond.selects RX5 yX5_choicesLying yX5_choicesLying ∈ lwG := lwG_of (List.mem_append_left _ (List.mem_of_getElem? (i := 37) (by decide +kernel))) rfl
theorem se_yX11_sumOfEvenings : Cond.selects RX11 yX11_sumOfEvenings yX11_sumOfEvenings ∈ lwG := lwG_of (List.mem_append_left _ (List.mem_of_getElem? (i := 38) (by decide +kernel))) rfl
theorem se_yX4_bestWorth : Cond.selects RX4 yX4_bestWorth yX4_bestWorth ∈ lwG := lwG_of (List.mem_append_left _ (List.mem_of_getElem? (i := 39) (by decide +kernel))) rfl
theorem se_yX3_joinKinds : Cond.selects RX3 yX3_joinKinds yX3_joinKinds ∈ lwG := lwG_of (List.mem_append_left _ (List.mem_of_getElem? (i := 40) (by decide +kernel))) rfl
theorem se_yX3_addShifted : Cond.selects RX3 yX3_addShifted yX3_addShifted ∈ lwG := lwG_of (List.mem_append_left _ (List.mem_of_getElem? (i := 41) (by decide +kernel))) rfl
theorem se_yX3_liveWeek : Cond.selects RX3 yX3_liveWeek yX3_liveWeek ∈ lwG := lwG_of (List.mem_append_left _ (List.mem_of_getElem? (i := 42) (by decide +kernel))) rfl
theorem se_yX3_isLost : Cond.selects RX3 yX3_isLost yX3_isLost ∈ lwG := lwG_of (List.mem_append_left _ (List.mem_of_getElem? (i := 43) (by decide +kernel))) rfl
theorem se_yX3_pairsLeft : Cond.selects RX3 yX3_pairsLeft yX3_pairsLeft ∈ lwG := lwG_of (List.mem_append_left _ (List.mem_of_getElem? (i := 44) (by decide +kernel))) rfl
theorem se_yX6_joinKinds : Cond.selects RX6 yX6_joinKinds yX6_joinKinds ∈ lwG := lwG_of (List.mem_append_left _ (List.mem_of_getElem? (i := 45) (by decide +kernel))) rfl
theorem se_yX6_fits : Cond.selects RX6 yX6_fits yX6_fits ∈ lwG := lwG_of (List.mem_append_left _ (List.mem_of_getElem? (i := 46) (by decide +kernel))) rfl
theorem se_yX6_addShifted : Cond.selects RX6 yX6_addShifted yX6_addShifted ∈ lwG := lwG_of (List.mem_append_left _ (List.mem_of_getElem? (i := 47) (by decide +kernel))) rfl
theorem se_yX11_slotsHeld : Cond.selects RX11 yX11_slotsHeld yX11_slotsHeld ∈ lwG := lwG_of (List.mem_append_left _ (List.mem_of_getElem? (i := 48) (by decide +kernel))) rfl
theorem se_yX12_plain : Cond.selects RX12 yX12_plain yX12_plain ∈ lwG := lwG_of (List.mem_append_left _ (List.mem_of_getElem? (i := 49) (by decide +kernel))) rfl
theorem se_yX12_put : Cond.selects RX12 yX12_put yX12_put ∈ lwG := lwG_of (List.mem_append_left _ (List.mem_of_getElem? (i := 50) (by decide +kernel))) rfl
theorem se_yX12_cut : Cond.selects RX12 yX12_cut yX12_cut ∈ lwG := lwG_of (List.mem_append_left _ (List.mem_of_getElem? (i := 51) (by decide +kernel))) rfl
theorem se_yX12_byteAt : Cond.selects RX12 yX12_byteAt yX12_byteAt ∈ lwG := lwG_of (List.mem_append_left _ (List.mem_of_getElem? (i := 52) (by decide +kernel))) rfl
theorem se_yX12_token : Cond.selects RX12 yX12_token yX12_token ∈ lwG := lwG_of (List.mem_append_left _ (List.mem_of_getElem? (i := 53) (by decide +kernel))) rfl
theorem se_yX12_sign : Cond.selects RX12 yX12_sign yX12_sign ∈ lwG := lwG_of (List.mem_append_left _ (List.mem_of_getElem? (i := 54) (by decide +kernel))) rfl
theorem se_yX12_is : Cond.selects RX12 yX12_is yX12_is ∈ lwG := lwG_of (List.mem_append_left _ (List.mem_of_getElem? (i := 55) (by decide +kernel))) rfl
theorem se_yX12_tell : Cond.selects RX12 yX12_tell yX12_tell ∈ lwG := lwG_of (List.mem_append_left _ (List.mem_of_getElem? (i := 56) (by decide +kernel))) rfl
theorem se_yX12_fail : Cond.selects RX12 yX12_fail yX12_fail ∈ lwG := lwG_of (List.mem_append_left _ (List.mem_of_getElem? (i := 57) (by decide +kernel))) rfl
theorem se_yX12_tellThing : Cond.selects RX12 yX12_tellThing yX12_tellThing ∈ lwG := lwG_of (List.mem_append_left _ (List.mem_of_getElem? (i := 58) (by decide +kernel))) rfl
theorem se_yX12_goesOn : Cond.selects RX12 yX12_goesOn yX12_goesOn ∈ lwG := lwG_of (List.mem_append_left _ (List.mem_of_getElem? (i := 59) (by decide +kernel))) rfl
theorem se_yX12_must : Cond.selects RX12 yX12_must yX12_must ∈ lwG := lwG_of (List.mem_append_left _ (List.mem_of_getElem? (i := 60) (by decide +kernel))) rfl
theorem se_yX12_wrong : Cond.selects RX12 yX12_wrong yX12_wrong ∈ lwG := lwG_of (List.mem_append_left _ (List.mem_of_getElem? (i := 61) (by decide +kernel))) rfl
theorem se_yX12_bounded : Cond.selects RX12 yX12_bounded yX12_bounded ∈ lwG := lwG_of (List.mem_append_left _ (List.mem_of_getElem? (i := 62) (by decide +kernel))) rfl
theorem se_yX12_tellLike : Cond.selects RX12 yX12_tellLike yX12_tellLike ∈ lwG := lwG_of (List.mem_append_left _ (List.mem_of_getElem? (i := 63) (by decide +kernel))) rfl
theorem se_yX12_known : Cond.selects RX12 yX12_known yX12_known ∈ lwG := lwG_of (List.mem_append_left _ (List.mem_of_getElem? (i := 64) (by decide +kernel))) rfl
theorem se_yX12_tellLine : Cond.selects RX12 yX12_tellLine yX12_tellLine ∈ lwG := lwG_of (List.mem_append_left _ (List.mem_of_getElem? (i := 65) (by decide +kernel))) rfl
theorem se_yX12_tellLaw : Cond.selects RX12 yX12_tellLaw yX12_tellLaw ∈ lwG := lwG_of (List.mem_append_left _ (List.mem_of_getElem? (i := 66) (by decide +kernel))) rfl
theorem se_yX12_expression : Cond.selects RX12 yX12_expression yX12_expression ∈ lwG := lwG_of (List.mem_append_left _ (List.mem_of_getElem? (i := 67) (by decide +kernel))) rfl
theorem se_yX12_unit : Cond.selects RX12 yX12_unit yX12_unit ∈ lwG := lwG_of (List.mem_append_left _ (List.mem_of_getElem? (i := 68) (by decide +kernel))) rfl
theorem se_yX12_emit : Cond.selects RX12 yX12_emit yX12_emit ∈ lwG := lwG_of (List.mem_append_left _ (List.mem_of_getElem? (i := 69) (by decide +kernel))) rfl
theorem se_yX12_comesOut : Cond.selects RX12 yX12_comesOut yX12_comesOut ∈ lwG := lwG_of (List.mem_append_left _ (List.mem_of_getElem? (i := 70) (by decide +kernel))) rfl
theorem se_yX12_term : Cond.selects RX12 yX12_term yX12_term ∈ lwG := lwG_of (List.mem_append_left _ (List.mem_of_getElem? (i := 71) (by decide +kernel))) rfl
theorem se_yX12_isKind : Cond.selects RX12 yX12_isKind yX12_isKind ∈ lwG := lwG_of (List.mem_append_left _ (List.mem_of_getElem? (i := 72) (by decide +kernel))) rfl
theorem se_yX12_partner : Cond.selects RX12 yX12_partner yX12_partner ∈ lwG := lwG_of (List.mem_append_left _ (List.mem_of_getElem? (i := 73) (by decide +kernel))) rfl
theorem se_yX12_copies : Cond.selects RX12 yX12_copies yX12_copies ∈ lwG := lwG_of (List.mem_append_left _ (List.mem_of_getElem? (i := 74) (by decide +kernel))) rfl
theorem se_yX12_draws : Cond.selects RX12 yX12_draws yX12_draws ∈ lwG := lwG_of (List.mem_append_left _ (List.mem_of_getElem? (i := 75) (by decide +kernel))) rfl
theorem se_yX12_sumOn : Cond.selects RX12 yX12_sumOn yX12_sumOn ∈ lwG := lwG_of (List.mem_append_left _ (List.mem_of_getElem? (i := 76) (by decide +kernel))) rfl
theorem se_yX12_goesBack : Cond.selects RX12 yX12_goesBack yX12_goesBack ∈ lwG := lwG_of (List.mem_append_left _ (List.mem_of_getElem? (i := 77) (by decide +kernel))) rfl
theorem se_yX12_keeps : Cond.selects RX12 yX12_keeps yX12_keeps ∈ lwG := lwG_of (List.mem_append_left _ (List.mem_of_getElem? (i := 78) (by decide +kernel))) rfl
theorem se_yX12_kindByLot : Cond.selects RX12 yX12_kindByLot yX12_kindByLot ∈ lwG := lwG_of (List.mem_append_left _ (List.mem_of_getElem? (i := 79) (by decide +kernel))) rfl
theorem se_yX12_withinOf : Cond.selects RX12 yX12_withinOf yX12_withinOf ∈ lwG := lwG_of (List.mem_append_left _ (List.mem_of_getElem? (i := 80) (by decide +kernel))) rfl
theorem se_yX12_fillsWays : Cond.selects RX12 yX12_fillsWays yX12_fillsWays ∈ lwG := lwG_of (List.mem_append_left _ (List.mem_of_getElem? (i := 81) (by decide +kernel))) rfl
theorem se_yX12_fillsSteps : Cond.selects RX12 yX12_fillsSteps yX12_fillsSteps ∈ lwG := lwG_of (List.mem_append_left _ (List.mem_of_getElem? (i := 82) (by decide +kernel))) rfl
theorem se_yX12_takesNumber : Cond.selects RX12 yX12_takesNumber yX12_takesNumber ∈ lwG := lwG_of (List.mem_append_left _ (List.mem_of_getElem? (i := 83) (by decide +kernel))) rfl
theorem se_yX12_lieOut : Cond.selects RX12 yX12_lieOut yX12_lieOut ∈ lwG := lwG_of (List.mem_append_left _ (List.mem_of_getElem? (i := 84) (by decide +kernel))) rfl
theorem se_yX12_drawnAll : Cond.selects RX12 yX12_drawnAll yX12_drawnAll ∈ lwG := lwG_of (List.mem_append_left _ (List.mem_of_getElem? (i := 85) (by decide +kernel))) rfl
theorem se_yX12_drawsIn : Cond.selects RX12 yX12_drawsIn yX12_drawsIn ∈ lwG := lwG_of (List.mem_append_left _ (List.mem_of_getElem? (i := 86) (by decide +kernel))) rfl
theorem se_yX12_hangs : Cond.selects RX12 yX12_hangs yX12_hangs ∈ lwG := lwG_of (List.mem_append_left _ (List.mem_of_getElem? (i := 87) (by decide +kernel))) rfl
theorem se_yX12_mostOut : Cond.selects RX12 yX12_mostOut yX12_mostOut ∈ lwG := lwG_of (List.mem_append_left _ (List.mem_of_getElem? (i := 88) (by decide +kernel))) rfl
theorem se_yX12_canPair : Cond.selects RX12 yX12_canPair yX12_canPair ∈ lwG := lwG_of (List.mem_append_left _ (List.mem_of_getElem? (i := 89) (by decide +kernel))) rfl
theorem se_yX12_unlikeBy : Cond.selects RX12 yX12_unlikeBy yX12_unlikeBy ∈ lwG := lwG_of (List.mem_append_left _ (List.mem_of_getElem? (i := 90) (by decide +kernel))) rfl
theorem se_yX12_joins : Cond.selects RX12 yX12_joins yX12_joins ∈ lwG := lwG_of (List.mem_append_left _ (List.mem_of_getElem? (i := 91) (by decide +kernel))) rfl
theorem se_yX12_loses : Cond.selects RX12 yX12_loses yX12_loses ∈ lwG := lwG_of (List.mem_append_left _ (List.mem_of_getElem? (i := 92) (by decide +kernel))) rfl
theorem se_yX12_termOf : Cond.selects RX12 yX12_termOf yX12_termOf ∈ lwG := lwG_of (List.mem_append_left _ (List.mem_of_getElem? (i := 93) (by decide +kernel))) rfl
theorem se_yX12_fillsRows : Cond.selects RX12 yX12_fillsRows yX12_fillsRows ∈ lwG := lwG_of (List.mem_append_left _ (List.mem_of_getElem? (i := 94) (by decide +kernel))) rfl
theorem se_yX12_liesOf : Cond.selects RX12 yX12_liesOf yX12_liesOf ∈ lwG := lwG_of (List.mem_append_left _ (List.mem_of_getElem? (i := 95) (by decide +kernel))) rfl
theorem se_yX12_rolledAll : Cond.selects RX12 yX12_rolledAll yX12_rolledAll ∈ lwG := lwG_of (List.mem_append_left _ (List.mem_of_getElem? (i := 96) (by decide +kernel))) rfl
/-- the links to private methods of nest mates: they go with the world -/
def nestW : List (String × Nat × MethodName × String) := [(RX11, 9, yX9_init, RX11), (RX9, 11, yX0_init, RX11), (RX0, 20, yX2_init, RX11), (RX10, 42, yX2_init, RX11), (RX10, 57, yX11_put, RX11), (RX11, 41, yX7_init, RX11), (RX5, 23, yX1_init, RX11), (RX11, 69, yX4_init, RX11), (RX4, 11, yX1_init, RX11), (RX11, 76, yX3_init, RX11), (RX11, 83, yX6_init, RX11), (RX8, 47, yX11_put, RX11), (RX8, 69, yX11_at, RX11), (RX8, 65, yX11_longAt, RX11), (RX2, 29, yX11_put, RX11), (RX2, 25, yX11_copyRow, RX11), (RX9, 101, yX11_total, RX11), (RX9, 140, yX11_at, RX11), (RX10, 88, yX11_at, RX11), (RX10, 92, yX11_add, RX11), (RX10, 77, yX11_copyRow, RX11), (RX7, 26, yX11_copyRow, RX11), (RX3, 92, yX11_copyRow, RX11), (RX7, 41, yX11_at, RX11), (RX7, 45, yX11_add, RX11), (RX7, 55, yX11_total, RX11), (RX7, 66, yX11_chance, RX11), (RX5, 41, yX11_sameRow, RX11), (RX5, 49, yX11_copyRow, RX11), (RX5, 53, yX11_total, RX11), (RX1, 21, yX11_at, RX11), (RX5, 77, yX11_at, RX11), (RX5, 112, yX11_longAt, RX11), (RX5, 81, yX11_choose, RX11), (RX5, 67, yX11_factorial, RX11), (RX4, 37, yX11_at, RX11), (RX3, 44, yX11_at, RX11), (RX3, 82, yX11_choose, RX11), (RX3, 86, yX11_power, RX11), (RX3, 60, yX11_longAt, RX11), (RX3, 115, yX11_put, RX11), (RX3, 103, yX11_total, RX11), (RX3, 122, yX11_chance, RX11), (RX2, 33, yX11_at, RX11), (RX6, 42, yX11_at, RX11), (RX6, 38, yX11_longAt, RX11)]
theorem nestW_in : ∀ q ∈ nestW, Cond.methodLinkNest q.1 q.2.1 q.2.2.1 q.2.2.2 ∈ lw_tbl := by
  intro q hq
  simp only [nestW, List.mem_cons, List.not_mem_nil, or_false] at hq
  rcases hq with rfl | rfl | rfl | rfl | rfl | rfl | rfl | rfl | rfl | rfl | rfl | rfl | rfl | rfl | rfl | rfl | rfl | rfl | rfl | rfl | rfl | rfl | rfl | rfl | rfl | rfl | rfl | rfl | rfl | rfl | rfl | rfl | rfl | rfl | rfl | rfl | rfl | rfl | rfl | rfl | rfl | rfl | rfl | rfl | rfl | rfl
  · exact tG1 (List.mem_of_getElem? (i := 31) (by decide +kernel))
  · exact tG1 (List.mem_of_getElem? (i := 37) (by decide +kernel))
  · exact tG1 (List.mem_of_getElem? (i := 130) (by decide +kernel))
  · exact tG1 (List.mem_of_getElem? (i := 183) (by decide +kernel))
  · exact tG1 (List.mem_of_getElem? (i := 188) (by decide +kernel))
  · exact tG2 (List.mem_of_getElem? (i := 66) (by decide +kernel))
  · exact tG2 (List.mem_of_getElem? (i := 104) (by decide +kernel))
  · exact tG2 (List.mem_of_getElem? (i := 157) (by decide +kernel))
  · exact tG2 (List.mem_of_getElem? (i := 162) (by decide +kernel))
  · exact tG2 (List.mem_of_getElem? (i := 180) (by decide +kernel))
  · exact tG2 (List.mem_of_getElem? (i := 217) (by decide +kernel))
  · exact tG3 (List.mem_of_getElem? (i := 55) (by decide +kernel))
  · exact tG3 (List.mem_of_getElem? (i := 72) (by decide +kernel))
  · exact tG3 (List.mem_of_getElem? (i := 208) (by decide +kernel))
  · exact tG3 (List.mem_of_getElem? (i := 215) (by decide +kernel))
  · exact tG4 (List.mem_of_getElem? (i := 9) (by decide +kernel))
  · exact tG4 (List.mem_of_getElem? (i := 42) (by decide +kernel))
  · exact tG4 (List.mem_of_getElem? (i := 78) (by decide +kernel))
  · exact tG4 (List.mem_of_getElem? (i := 83) (by decide +kernel))
  · exact tG4 (List.mem_of_getElem? (i := 84) (by decide +kernel))
  · exact tG4 (List.mem_of_getElem? (i := 95) (by decide +kernel))
  · exact tG4 (List.mem_of_getElem? (i := 105) (by decide +kernel))
  · exact tG4 (List.mem_of_getElem? (i := 110) (by decide +kernel))
  · exact tG4 (List.mem_of_getElem? (i := 152) (by decide +kernel))
  · exact tG4 (List.mem_of_getElem? (i := 153) (by decide +kernel))
  · exact tG4 (List.mem_of_getElem? (i := 155) (by decide +kernel))
  · exact tG4 (List.mem_of_getElem? (i := 169) (by decide +kernel))
  · exact tG4 (List.mem_of_getElem? (i := 197) (by decide +kernel))
  · exact tG4 (List.mem_of_getElem? (i := 200) (by decide +kernel))
  · exact tG4 (List.mem_of_getElem? (i := 201) (by decide +kernel))
  · exact tG4 (List.mem_of_getElem? (i := 214) (by decide +kernel))
  · exact tG4 (List.mem_of_getElem? (i := 224) (by decide +kernel))
  · exact tG4 (List.mem_of_getElem? (i := 236) (by decide +kernel))
  · exact tG5 (List.mem_of_getElem? (i := 9) (by decide +kernel))
  · exact tG5 (List.mem_of_getElem? (i := 12) (by decide +kernel))
  · exact tG5 (List.mem_of_getElem? (i := 77) (by decide +kernel))
  · exact tG5 (List.mem_of_getElem? (i := 100) (by decide +kernel))
  · exact tG5 (List.mem_of_getElem? (i := 109) (by decide +kernel))
  · exact tG5 (List.mem_of_getElem? (i := 110) (by decide +kernel))
  · exact tG5 (List.mem_of_getElem? (i := 118) (by decide +kernel))
  · exact tG5 (List.mem_of_getElem? (i := 135) (by decide +kernel))
  · exact tG5 (List.mem_of_getElem? (i := 136) (by decide +kernel))
  · exact tG5 (List.mem_of_getElem? (i := 137) (by decide +kernel))
  · exact tG5 (List.mem_of_getElem? (i := 142) (by decide +kernel))
  · exact tG5 (List.mem_of_getElem? (i := 175) (by decide +kernel))
  · exact tG5 (List.mem_of_getElem? (i := 185) (by decide +kernel))
theorem ne_RX11_9 : (RX11, 9, yX9_init, RX11) ∈ nestW := List.mem_of_getElem? (i := 0) rfl
theorem ne_RX9_11 : (RX9, 11, yX0_init, RX11) ∈ nestW := List.mem_of_getElem? (i := 1) rfl
theorem ne_RX0_20 : (RX0, 20, yX2_init, RX11) ∈ nestW := List.mem_of_getElem? (i := 2) rfl
theorem ne_RX10_42 : (RX10, 42, yX2_init, RX11) ∈ nestW := List.mem_of_getElem? (i := 3) rfl
theorem ne_RX10_57 : (RX10, 57, yX11_put, RX11) ∈ nestW := List.mem_of_getElem? (i := 4) rfl
theorem ne_RX11_41 : (RX11, 41, yX7_init, RX11) ∈ nestW := List.mem_of_getElem? (i := 5) rfl
theorem ne_RX5_23 : (RX5, 23, yX1_init, RX11) ∈ nestW := List.mem_of_getElem? (i := 6) rfl
theorem ne_RX11_69 : (RX11, 69, yX4_init, RX11) ∈ nestW := List.mem_of_getElem? (i := 7) rfl
theorem ne_RX4_11 : (RX4, 11, yX1_init, RX11) ∈ nestW := List.mem_of_getElem? (i := 8) rfl
theorem ne_RX11_76 : (RX11, 76, yX3_init, RX11) ∈ nestW := List.mem_of_getElem? (i := 9) rfl
theorem ne_RX11_83 : (RX11, 83, yX6_init, RX11) ∈ nestW := List.mem_of_getElem? (i := 10) rfl
theorem ne_RX8_47 : (RX8, 47, yX11_put, RX11) ∈ nestW := List.mem_of_getElem? (i := 11) rfl
theorem ne_RX8_69 : (RX8, 69, yX11_at, RX11) ∈ nestW := List.mem_of_getElem? (i := 12) rfl
theorem ne_RX8_65 : (RX8, 65, yX11_longAt, RX11) ∈ nestW := List.mem_of_getElem? (i := 13) rfl
theorem ne_RX2_29 : (RX2, 29, yX11_put, RX11) ∈ nestW := List.mem_of_getElem? (i := 14) rfl
theorem ne_RX2_25 : (RX2, 25, yX11_copyRow, RX11) ∈ nestW := List.mem_of_getElem? (i := 15) rfl
theorem ne_RX9_101 : (RX9, 101, yX11_total, RX11) ∈ nestW := List.mem_of_getElem? (i := 16) rfl
theorem ne_RX9_140 : (RX9, 140, yX11_at, RX11) ∈ nestW := List.mem_of_getElem? (i := 17) rfl
theorem ne_RX10_88 : (RX10, 88, yX11_at, RX11) ∈ nestW := List.mem_of_getElem? (i := 18) rfl
theorem ne_RX10_92 : (RX10, 92, yX11_add, RX11) ∈ nestW := List.mem_of_getElem? (i := 19) rfl
theorem ne_RX10_77 : (RX10, 77, yX11_copyRow, RX11) ∈ nestW := List.mem_of_getElem? (i := 20) rfl
theorem ne_RX7_26 : (RX7, 26, yX11_copyRow, RX11) ∈ nestW := List.mem_of_getElem? (i := 21) rfl
theorem ne_RX3_92 : (RX3, 92, yX11_copyRow, RX11) ∈ nestW := List.mem_of_getElem? (i := 22) rfl
theorem ne_RX7_41 : (RX7, 41, yX11_at, RX11) ∈ nestW := List.mem_of_getElem? (i := 23) rfl
theorem ne_RX7_45 : (RX7, 45, yX11_add, RX11) ∈ nestW := List.mem_of_getElem? (i := 24) rfl
theorem ne_RX7_55 : (RX7, 55, yX11_total, RX11) ∈ nestW := List.mem_of_getElem? (i := 25) rfl
theorem ne_RX7_66 : (RX7, 66, yX11_chance, RX11) ∈ nestW := List.mem_of_getElem? (i := 26) rfl
theorem ne_RX5_41 : (RX5, 41, yX11_sameRow, RX11) ∈ nestW := List.mem_of_getElem? (i := 27) rfl
theorem ne_RX5_49 : (RX5, 49, yX11_copyRow, RX11) ∈ nestW := List.mem_of_getElem? (i := 28) rfl
theorem ne_RX5_53 : (RX5, 53, yX11_total, RX11) ∈ nestW := List.mem_of_getElem? (i := 29) rfl
theorem ne_RX1_21 : (RX1, 21, yX11_at, RX11) ∈ nestW := List.mem_of_getElem? (i := 30) rfl
theorem ne_RX5_77 : (RX5, 77, yX11_at, RX11) ∈ nestW := List.mem_of_getElem? (i := 31) rfl
theorem ne_RX5_112 : (RX5, 112, yX11_longAt, RX11) ∈ nestW := List.mem_of_getElem? (i := 32) rfl
theorem ne_RX5_81 : (RX5, 81, yX11_choose, RX11) ∈ nestW := List.mem_of_getElem? (i := 33) rfl
theorem ne_RX5_67 : (RX5, 67, yX11_factorial, RX11) ∈ nestW := List.mem_of_getElem? (i := 34) rfl
theorem ne_RX4_37 : (RX4, 37, yX11_at, RX11) ∈ nestW := List.mem_of_getElem? (i := 35) rfl
theorem ne_RX3_44 : (RX3, 44, yX11_at, RX11) ∈ nestW := List.mem_of_getElem? (i := 36) rfl
theorem ne_RX3_82 : (RX3, 82, yX11_choose, RX11) ∈ nestW := List.mem_of_getElem? (i := 37) rfl
theorem ne_RX3_86 : (RX3, 86, yX11_power, RX11) ∈ nestW := List.mem_of_getElem? (i := 38) rfl
theorem ne_RX3_60 : (RX3, 60, yX11_longAt, RX11) ∈ nestW := List.mem_of_getElem? (i := 39) rfl
theorem ne_RX3_115 : (RX3, 115, yX11_put, RX11) ∈ nestW := List.mem_of_getElem? (i := 40) rfl
theorem ne_RX3_103 : (RX3, 103, yX11_total, RX11) ∈ nestW := List.mem_of_getElem? (i := 41) rfl
theorem ne_RX3_122 : (RX3, 122, yX11_chance, RX11) ∈ nestW := List.mem_of_getElem? (i := 42) rfl
theorem ne_RX2_33 : (RX2, 33, yX11_at, RX11) ∈ nestW := List.mem_of_getElem? (i := 43) rfl
theorem ne_RX6_42 : (RX6, 42, yX11_at, RX11) ∈ nestW := List.mem_of_getElem? (i := 44) rfl
theorem ne_RX6_38 : (RX6, 38, yX11_longAt, RX11) ∈ nestW := List.mem_of_getElem? (i := 45) rfl
theorem inG0 : ∀ w ∈ u_ws RX0 TX0 8, w ∈ lwG := fun w h => lwG_of ((show ∀ w ∈ u_ws RX0 TX0 8, w ∈ lw_tbl by decide +kernel) w h) ((show ∀ w ∈ u_ws RX0 TX0 8, goodWord w = true by decide +kernel) w h)
theorem inG1 : ∀ w ∈ u_ws RX1 TX1 4, w ∈ lwG := fun w h => lwG_of ((show ∀ w ∈ u_ws RX1 TX1 4, w ∈ lw_tbl by decide +kernel) w h) ((show ∀ w ∈ u_ws RX1 TX1 4, goodWord w = true by decide +kernel) w h)
theorem inG2 : ∀ w ∈ u_ws RX2 TX2 4, w ∈ lwG := fun w h => lwG_of ((show ∀ w ∈ u_ws RX2 TX2 4, w ∈ lw_tbl by decide +kernel) w h) ((show ∀ w ∈ u_ws RX2 TX2 4, goodWord w = true by decide +kernel) w h)
theorem inG3 : ∀ w ∈ u_ws RX3 TX3 9, w ∈ lwG := fun w h => lwG_of ((show ∀ w ∈ u_ws RX3 TX3 9, w ∈ lw_tbl by decide +kernel) w h) ((show ∀ w ∈ u_ws RX3 TX3 9, goodWord w = true by decide +kernel) w h)
theorem inG4 : ∀ w ∈ u_ws RX4 TX4 4, w ∈ lwG := fun w h => lwG_of ((show ∀ w ∈ u_ws RX4 TX4 4, w ∈ lw_tbl by decide +kernel) w h) ((show ∀ w ∈ u_ws RX4 TX4 4, goodWord w = true by decide +kernel) w h)
theorem inG5 : ∀ w ∈ u_ws RX5 TX5 7, w ∈ lwG := fun w h => lwG_of ((show ∀ w ∈ u_ws RX5 TX5 7, w ∈ lw_tbl by decide +kernel) w h) ((show ∀ w ∈ u_ws RX5 TX5 7, goodWord w = true by decide +kernel) w h)
theorem inG6 : ∀ w ∈ u_ws RX6 TX6 5, w ∈ lwG := fun w h => lwG_of ((show ∀ w ∈ u_ws RX6 TX6 5, w ∈ lw_tbl by decide +kernel) w h) ((show ∀ w ∈ u_ws RX6 TX6 5, goodWord w = true by decide +kernel) w h)
theorem inG7 : ∀ w ∈ u_ws RX7 TX7 5, w ∈ lwG := fun w h => lwG_of ((show ∀ w ∈ u_ws RX7 TX7 5, w ∈ lw_tbl by decide +kernel) w h) ((show ∀ w ∈ u_ws RX7 TX7 5, goodWord w = true by decide +kernel) w h)
theorem inG8 : ∀ w ∈ u_ws RX8 TX8 7, w ∈ lwG := fun w h => lwG_of ((show ∀ w ∈ u_ws RX8 TX8 7, w ∈ lw_tbl by decide +kernel) w h) ((show ∀ w ∈ u_ws RX8 TX8 7, goodWord w = true by decide +kernel) w h)
theorem inG9 : ∀ w ∈ u_ws RX9 TX9 5, w ∈ lwG := fun w h => lwG_of ((show ∀ w ∈ u_ws RX9 TX9 5, w ∈ lw_tbl by decide +kernel) w h) ((show ∀ w ∈ u_ws RX9 TX9 5, goodWord w = true by decide +kernel) w h)
theorem inG10 : ∀ w ∈ u_ws RX10 TX10 17, w ∈ lwG := fun w h => lwG_of ((show ∀ w ∈ u_ws RX10 TX10 17, w ∈ lw_tbl by decide +kernel) w h) ((show ∀ w ∈ u_ws RX10 TX10 17, goodWord w = true by decide +kernel) w h)
theorem inG11 : ∀ w ∈ u_ws RX11 TX11 16, w ∈ lwG := fun w h => lwG_of ((show ∀ w ∈ u_ws RX11 TX11 16, w ∈ lw_tbl by decide +kernel) w h) ((show ∀ w ∈ u_ws RX11 TX11 16, goodWord w = true by decide +kernel) w h)
theorem inG12 : ∀ w ∈ u_ws RX12 TX12 77, w ∈ lwG := fun w h => lwG_of ((show ∀ w ∈ u_ws RX12 TX12 77, w ∈ lw_tbl by decide +kernel) w h) ((show ∀ w ∈ u_ws RX12 TX12 77, goodWord w = true by decide +kernel) w h)
