/-- what the reference's object holds: its arrays by a, its numbers by i -/
abbrev mF (a : Nat → Nat) (i : Nat → Int32) : List Value := [.ref (a 0), .ref (a 1), .int (i 0), .int (i 1), .int (i 2), .int (i 3), .int (i 4), .int (i 5), .int (i 6), .int (i 7), .int (i 8), .ref (a 2), .ref (a 3), .ref (a 4), .ref (a 5), .ref (a 6), .ref (a 7), .ref (a 8), .ref (a 9), .ref (a 10), .ref (a 11), .ref (a 12), .ref (a 13), .ref (a 14), .int (i 9), .int (i 10), .int (i 11), .int (i 12), .int (i 13), .int (i 14), .ref (a 15), .ref (a 16), .ref (a 17), .int (i 15), .ref (a 18), .ref (a 19), .int (i 16), .int (i 17), .int (i 18), .ref (a 20), .ref (a 21), .ref (a 22), .ref (a 23), .int (i 19), .ref (a 24), .ref (a 25), .ref (a 26), .ref (a 27), .ref (a 28), .int (i 20), .ref (a 29), .ref (a 30), .ref (a 31), .ref (a 32), .ref (a 33), .ref (a 34), .ref (a 35), .ref (a 36), .ref (a 37), .ref (a 38), .ref (a 39), .int (i 21), .int (i 22), .int (i 23), .int (i 24), .int (i 25), .ref (a 40), .ref (a 41), .ref (a 42), .ref (a 43), .ref (a 44), .ref (a 45), .ref (a 46), .ref (a 47), .int (i 26), .ref (a 48), .ref (a 49), .ref (a 50), .ref (a 51), .int (i 27), .ref (a 52), .ref (a 53), .ref (a 54), .int (i 28), .int (i 29), .int (i 30), .int (i 31), .int (i 32), .ref (a 55), .ref (a 56), .ref (a 57), .ref (a 58), .int (i 33), .int (i 34), .ref (a 59), .int (i 35)]
theorem q169 : Cond.methodLink RX10 1 objectInit ∈ wsL_law := mT_6 (List.mem_of_getElem? (i := 89) rfl) rfl
theorem q170 : Cond.arrayClass .long ∈ wsL_law := mT_7 (List.mem_of_getElem? (i := 160) rfl) rfl
theorem q171 : Cond.constantLong RX10 7 (427595) ∈ wsL_law := mT_6 (List.mem_of_getElem? (i := 90) rfl) rfl
theorem q172 : Cond.constantLong RX10 9 (99724) ∈ wsL_law := mT_6 (List.mem_of_getElem? (i := 91) rfl) rfl
theorem q173 : Cond.constantLong RX10 11 (18935) ∈ wsL_law := mT_6 (List.mem_of_getElem? (i := 92) rfl) rfl
theorem q174 : Cond.constantLong RX10 13 (474565) ∈ wsL_law := mT_6 (List.mem_of_getElem? (i := 93) rfl) rfl
theorem q175 : Cond.constantLong RX10 15 (609900110) ∈ wsL_law := mT_6 (List.mem_of_getElem? (i := 94) rfl) rfl
theorem q176 : Cond.constantLong RX10 17 (294) ∈ wsL_law := mT_6 (List.mem_of_getElem? (i := 95) rfl) rfl
theorem q177 : Cond.constantLong RX10 19 (176741) ∈ wsL_law := mT_6 (List.mem_of_getElem? (i := 96) rfl) rfl
theorem q178 : Cond.constantLong RX10 21 (409072) ∈ wsL_law := mT_6 (List.mem_of_getElem? (i := 97) rfl) rfl
theorem q179 : Cond.constantLong RX10 23 (12748485) ∈ wsL_law := mT_6 (List.mem_of_getElem? (i := 98) rfl) rfl
theorem q180 : Cond.constantLong RX10 25 (464660) ∈ wsL_law := mT_6 (List.mem_of_getElem? (i := 99) rfl) rfl
theorem q181 : Cond.constantLong RX10 27 (21252599) ∈ wsL_law := mT_6 (List.mem_of_getElem? (i := 100) rfl) rfl
theorem q182 : Cond.constantLong RX10 29 (772144) ∈ wsL_law := mT_6 (List.mem_of_getElem? (i := 101) rfl) rfl
theorem q183 : Cond.constantLong RX10 31 (1279278) ∈ wsL_law := mT_6 (List.mem_of_getElem? (i := 102) rfl) rfl
theorem q184 : Cond.constantLong RX10 33 (8029764) ∈ wsL_law := mT_6 (List.mem_of_getElem? (i := 103) rfl) rfl
theorem q185 : Cond.constantLong RX10 35 (763528) ∈ wsL_law := mT_6 (List.mem_of_getElem? (i := 104) rfl) rfl
theorem q186 : Cond.constantLong RX10 37 (3199080) ∈ wsL_law := mT_6 (List.mem_of_getElem? (i := 105) rfl) rfl
theorem q187 : Cond.constantLong RX10 39 (6759166361) ∈ wsL_law := mT_6 (List.mem_of_getElem? (i := 106) rfl) rfl
theorem q188 : Cond.constantLong RX10 41 (632645) ∈ wsL_law := mT_6 (List.mem_of_getElem? (i := 107) rfl) rfl
theorem q189 : Cond.constantLong RX10 43 (370116) ∈ wsL_law := mT_6 (List.mem_of_getElem? (i := 108) rfl) rfl
theorem q190 : Cond.constantLong RX10 45 (22483122) ∈ wsL_law := mT_6 (List.mem_of_getElem? (i := 109) rfl) rfl
theorem q191 : Cond.constantLong RX10 47 (442114532) ∈ wsL_law := mT_6 (List.mem_of_getElem? (i := 110) rfl) rfl
theorem q192 : Cond.fieldLink RX10 49 "WaysAtlasModel" "words" "[J" ∈ wsL_law := mT_6 (List.mem_of_getElem? (i := 111) rfl) rfl
theorem q193 : Cond.arrayClass .byte ∈ wsL_law := mT_4 (List.mem_of_getElem? (i := 161) rfl) rfl
theorem q194 : Cond.fieldLink RX10 55 "WaysAtlasModel" "text" "[B" ∈ wsL_law := mT_6 (List.mem_of_getElem? (i := 112) rfl) rfl
theorem q195 : Cond.fieldLink RX10 59 "WaysAtlasModel" "stat" "[I" ∈ wsL_law := mT_6 (List.mem_of_getElem? (i := 122) rfl) rfl
theorem q196 : Cond.fieldLink RX10 63 "WaysAtlasModel" "statements" "[I" ∈ wsL_law := mT_6 (List.mem_of_getElem? (i := 123) rfl) rfl
theorem q197 : Cond.fieldLink RX10 66 "WaysAtlasModel" "entryKind" "[I" ∈ wsL_law := mT_6 (List.mem_of_getElem? (i := 124) rfl) rfl
theorem q198 : Cond.fieldLink RX10 69 "WaysAtlasModel" "entryValue" "[I" ∈ wsL_law := mT_6 (List.mem_of_getElem? (i := 125) rfl) rfl
theorem q199 : Cond.fieldLink RX10 72 "WaysAtlasModel" "firstOf" "[I" ∈ wsL_law := mT_6 (List.mem_of_getElem? (i := 126) rfl) rfl
theorem q200 : Cond.fieldLink RX10 75 "WaysAtlasModel" "catchOf" "[I" ∈ wsL_law := mT_6 (List.mem_of_getElem? (i := 127) rfl) rfl
theorem q201 : Cond.fieldLink RX10 78 "WaysAtlasModel" "catchKind" "[I" ∈ wsL_law := mT_6 (List.mem_of_getElem? (i := 128) rfl) rfl
theorem q202 : Cond.fieldLink RX10 81 "WaysAtlasModel" "catchBlock" "[I" ∈ wsL_law := mT_6 (List.mem_of_getElem? (i := 129) rfl) rfl
theorem q203 : Cond.fieldLink RX10 84 "WaysAtlasModel" "catches" "[I" ∈ wsL_law := mT_6 (List.mem_of_getElem? (i := 130) rfl) rfl
theorem q204 : Cond.fieldLink RX10 87 "WaysAtlasModel" "body" "[I" ∈ wsL_law := mT_6 (List.mem_of_getElem? (i := 131) rfl) rfl
theorem q205 : Cond.fieldLink RX10 90 "WaysAtlasModel" "methods" "[I" ∈ wsL_law := mT_6 (List.mem_of_getElem? (i := 132) rfl) rfl
theorem q206 : Cond.fieldLink RX10 93 "WaysAtlasModel" "above" "[I" ∈ wsL_law := mT_6 (List.mem_of_getElem? (i := 133) rfl) rfl
theorem q207 : Cond.fieldLink RX10 96 "WaysAtlasModel" "kinds" "[I" ∈ wsL_law := mT_6 (List.mem_of_getElem? (i := 134) rfl) rfl
theorem q208 : Cond.fieldLink RX10 99 "WaysAtlasModel" "checkHow" "[I" ∈ wsL_law := mT_6 (List.mem_of_getElem? (i := 141) rfl) rfl
theorem q209 : Cond.fieldLink RX10 102 "WaysAtlasModel" "checkAt" "[I" ∈ wsL_law := mT_6 (List.mem_of_getElem? (i := 142) rfl) rfl
theorem q210 : Cond.fieldLink RX10 105 "WaysAtlasModel" "checkValue" "[I" ∈ wsL_law := mT_6 (List.mem_of_getElem? (i := 143) rfl) rfl
theorem q211 : Cond.fieldLink RX10 108 "WaysAtlasModel" "wait" "[I" ∈ wsL_law := mT_6 (List.mem_of_getElem? (i := 145) rfl) rfl
theorem q212 : Cond.fieldLink RX10 111 "WaysAtlasModel" "waitValue" "[I" ∈ wsL_law := mT_6 (List.mem_of_getElem? (i := 146) rfl) rfl
theorem q213 : Cond.fieldLink RX10 114 "WaysAtlasModel" "pileKind" "[I" ∈ wsL_law := mT_6 (List.mem_of_getElem? (i := 150) rfl) rfl
theorem q214 : Cond.fieldLink RX10 117 "WaysAtlasModel" "pileStatement" "[I" ∈ wsL_law := mT_6 (List.mem_of_getElem? (i := 151) rfl) rfl
theorem q215 : Cond.fieldLink RX10 120 "WaysAtlasModel" "pileBlock" "[I" ∈ wsL_law := mT_6 (List.mem_of_getElem? (i := 152) rfl) rfl
theorem q216 : Cond.fieldLink RX10 123 "WaysAtlasModel" "pileLast" "[I" ∈ wsL_law := mT_6 (List.mem_of_getElem? (i := 153) rfl) rfl
theorem q217 : Cond.fieldLink RX10 126 "WaysAtlasModel" "planStatement" "[I" ∈ wsL_law := mT_6 (List.mem_of_getElem? (i := 155) rfl) rfl
theorem q218 : Cond.fieldLink RX10 129 "WaysAtlasModel" "planPart" "[I" ∈ wsL_law := mT_6 (List.mem_of_getElem? (i := 156) rfl) rfl
theorem q219 : Cond.fieldLink RX10 132 "WaysAtlasModel" "planTime" "[I" ∈ wsL_law := mT_6 (List.mem_of_getElem? (i := 157) rfl) rfl
theorem q220 : Cond.fieldLink RX10 135 "WaysAtlasModel" "planKind" "[I" ∈ wsL_law := mT_6 (List.mem_of_getElem? (i := 158) rfl) rfl
theorem q221 : Cond.arrayClass .boolean ∈ wsL_law := mT_7 (List.mem_of_getElem? (i := 161) rfl) rfl
theorem q222 : Cond.fieldLink RX10 138 "WaysAtlasModel" "hasRun" "[Z" ∈ wsL_law := mT_6 (List.mem_of_getElem? (i := 159) rfl) rfl
theorem q223 : Cond.fieldLink RX10 142 "WaysAtlasModel" "told" "[I" ∈ wsL_law := mT_6 (List.mem_of_getElem? (i := 161) rfl) rfl
theorem q224 : Cond.fieldLink RX10 145 "WaysAtlasModel" "tape" "[I" ∈ wsL_law := mT_6 (List.mem_of_getElem? (i := 162) rfl) rfl
theorem q225 : Cond.fieldLink RX10 148 "WaysAtlasModel" "failedKind" "[I" ∈ wsL_law := mT_6 (List.mem_of_getElem? (i := 163) rfl) rfl
theorem q226 : Cond.fieldLink RX10 151 "WaysAtlasModel" "cause" "[I" ∈ wsL_law := mT_6 (List.mem_of_getElem? (i := 164) rfl) rfl
theorem q227 : Cond.fieldLink RX10 154 "WaysAtlasModel" "underFirst" "[I" ∈ wsL_law := mT_6 (List.mem_of_getElem? (i := 165) rfl) rfl
theorem q228 : Cond.fieldLink RX10 157 "WaysAtlasModel" "underNext" "[I" ∈ wsL_law := mT_6 (List.mem_of_getElem? (i := 166) rfl) rfl
theorem q229 : Cond.fieldLink RX10 160 "WaysAtlasModel" "failedAt" "[I" ∈ wsL_law := mT_6 (List.mem_of_getElem? (i := 167) rfl) rfl
theorem q230 : Cond.fieldLink RX10 163 "WaysAtlasModel" "underWay" "[I" ∈ wsL_law := mT_6 (List.mem_of_getElem? (i := 168) rfl) rfl
theorem q231 : Cond.fieldLink RX10 166 "WaysAtlasModel" "traces" "[I" ∈ wsL_law := mT_6 (List.mem_of_getElem? (i := 169) rfl) rfl
theorem q232 : Cond.fieldLink RX10 169 "WaysAtlasModel" "closings" "[I" ∈ wsL_law := mT_6 (List.mem_of_getElem? (i := 170) rfl) rfl
theorem q233 : Cond.fieldLink RX10 172 "WaysAtlasModel" "enteredOf" "[I" ∈ wsL_law := mT_6 (List.mem_of_getElem? (i := 171) rfl) rfl
theorem q234 : Cond.fieldLink RX10 175 "WaysAtlasModel" "frameKind" "[I" ∈ wsL_law := mT_6 (List.mem_of_getElem? (i := 177) rfl) rfl
theorem q235 : Cond.fieldLink RX10 178 "WaysAtlasModel" "frameStatement" "[I" ∈ wsL_law := mT_6 (List.mem_of_getElem? (i := 178) rfl) rfl
theorem q236 : Cond.fieldLink RX10 181 "WaysAtlasModel" "frameNow" "[I" ∈ wsL_law := mT_6 (List.mem_of_getElem? (i := 179) rfl) rfl
theorem q237 : Cond.fieldLink RX10 184 "WaysAtlasModel" "pending" "[I" ∈ wsL_law := mT_6 (List.mem_of_getElem? (i := 180) rfl) rfl
theorem q238 : Cond.fieldLink RX10 187 "WaysAtlasModel" "pendingValue" "[I" ∈ wsL_law := mT_6 (List.mem_of_getElem? (i := 181) rfl) rfl
theorem q239 : Cond.fieldLink RX10 190 "WaysAtlasModel" "firstResource" "[I" ∈ wsL_law := mT_6 (List.mem_of_getElem? (i := 182) rfl) rfl
theorem q240 : Cond.fieldLink RX10 193 "WaysAtlasModel" "openedOf" "[I" ∈ wsL_law := mT_6 (List.mem_of_getElem? (i := 183) rfl) rfl
theorem q241 : Cond.fieldLink RX10 196 "WaysAtlasModel" "caught" "[I" ∈ wsL_law := mT_6 (List.mem_of_getElem? (i := 184) rfl) rfl
theorem q242 : Cond.fieldLink RX10 199 "WaysAtlasModel" "actVar" "[I" ∈ wsL_law := mT_6 (List.mem_of_getElem? (i := 186) rfl) rfl
theorem q243 : Cond.fieldLink RX10 202 "WaysAtlasModel" "actRow" "[I" ∈ wsL_law := mT_6 (List.mem_of_getElem? (i := 187) rfl) rfl
theorem q244 : Cond.fieldLink RX10 205 "WaysAtlasModel" "actMethod" "[I" ∈ wsL_law := mT_6 (List.mem_of_getElem? (i := 188) rfl) rfl
theorem q245 : Cond.fieldLink RX10 208 "WaysAtlasModel" "actStatement" "[I" ∈ wsL_law := mT_6 (List.mem_of_getElem? (i := 189) rfl) rfl
theorem q246 : Cond.fieldLink RX10 211 "WaysAtlasModel" "rowSize" "[I" ∈ wsL_law := mT_6 (List.mem_of_getElem? (i := 191) rfl) rfl
theorem q247 : Cond.fieldLink RX10 214 "WaysAtlasModel" "rowItem" "[I" ∈ wsL_law := mT_6 (List.mem_of_getElem? (i := 192) rfl) rfl
theorem q248 : Cond.fieldLink RX10 217 "WaysAtlasModel" "passed" "[I" ∈ wsL_law := mT_6 (List.mem_of_getElem? (i := 193) rfl) rfl
theorem q249 : Cond.fieldLink RX10 220 "WaysAtlasModel" "quietStatement" "[I" ∈ wsL_law := mT_6 (List.mem_of_getElem? (i := 199) rfl) rfl
theorem q250 : Cond.fieldLink RX10 223 "WaysAtlasModel" "quietPart" "[I" ∈ wsL_law := mT_6 (List.mem_of_getElem? (i := 200) rfl) rfl
theorem q251 : Cond.fieldLink RX10 226 "WaysAtlasModel" "quietTime" "[I" ∈ wsL_law := mT_6 (List.mem_of_getElem? (i := 201) rfl) rfl
theorem q252 : Cond.fieldLink RX10 229 "WaysAtlasModel" "stack" "[I" ∈ wsL_law := mT_6 (List.mem_of_getElem? (i := 202) rfl) rfl
theorem q253 : Cond.fieldLink RX10 232 "WaysAtlasModel" "wayOut" "[I" ∈ wsL_law := mT_6 (List.mem_of_getElem? (i := 205) rfl) rfl
theorem q254 : Cond.fieldLink RX10 235 "WaysAtlasModel" "live" "I" ∈ wsL_law := mT_6 (List.mem_of_getElem? (i := 119) rfl) rfl
theorem dX10_init_0 : decode cX10_init 0 = .ok (.aload_n 0, 1) := by decide +kernel
theorem dX10_init_1 : decode cX10_init 1 = .ok (.invokespecial 1, 3) := by decide +kernel
theorem dX10_init_4 : decode cX10_init 4 = .ok (.aload_n 0, 1) := by decide +kernel
theorem dX10_init_5 : decode cX10_init 5 = .ok (.bipush 21, 2) := by decide +kernel
theorem dX10_init_7 : decode cX10_init 7 = .ok (.newarray .long, 2) := by decide +kernel
theorem dX10_init_9 : decode cX10_init 9 = .ok (.dup, 1) := by decide +kernel
theorem dX10_init_10 : decode cX10_init 10 = .ok (.iconst 0, 1) := by decide +kernel
theorem dX10_init_11 : decode cX10_init 11 = .ok (.ldc2_w 7, 3) := by decide +kernel
theorem dX10_init_14 : decode cX10_init 14 = .ok (.lastore, 1) := by decide +kernel
theorem dX10_init_15 : decode cX10_init 15 = .ok (.dup, 1) := by decide +kernel
theorem dX10_init_16 : decode cX10_init 16 = .ok (.iconst 1, 1) := by decide +kernel
theorem dX10_init_17 : decode cX10_init 17 = .ok (.ldc2_w 9, 3) := by decide +kernel
theorem dX10_init_20 : decode cX10_init 20 = .ok (.lastore, 1) := by decide +kernel
theorem dX10_init_21 : decode cX10_init 21 = .ok (.dup, 1) := by decide +kernel
theorem dX10_init_22 : decode cX10_init 22 = .ok (.iconst 2, 1) := by decide +kernel
theorem dX10_init_23 : decode cX10_init 23 = .ok (.ldc2_w 11, 3) := by decide +kernel
theorem dX10_init_26 : decode cX10_init 26 = .ok (.lastore, 1) := by decide +kernel
theorem dX10_init_27 : decode cX10_init 27 = .ok (.dup, 1) := by decide +kernel
theorem dX10_init_28 : decode cX10_init 28 = .ok (.iconst 3, 1) := by decide +kernel
theorem dX10_init_29 : decode cX10_init 29 = .ok (.ldc2_w 13, 3) := by decide +kernel
theorem dX10_init_32 : decode cX10_init 32 = .ok (.lastore, 1) := by decide +kernel
theorem dX10_init_33 : decode cX10_init 33 = .ok (.dup, 1) := by decide +kernel
theorem dX10_init_34 : decode cX10_init 34 = .ok (.iconst 4, 1) := by decide +kernel
theorem dX10_init_35 : decode cX10_init 35 = .ok (.ldc2_w 15, 3) := by decide +kernel
theorem dX10_init_38 : decode cX10_init 38 = .ok (.lastore, 1) := by decide +kernel
theorem dX10_init_39 : decode cX10_init 39 = .ok (.dup, 1) := by decide +kernel
theorem dX10_init_40 : decode cX10_init 40 = .ok (.iconst 5, 1) := by decide +kernel
theorem dX10_init_41 : decode cX10_init 41 = .ok (.ldc2_w 17, 3) := by decide +kernel
theorem dX10_init_44 : decode cX10_init 44 = .ok (.lastore, 1) := by decide +kernel
theorem dX10_init_45 : decode cX10_init 45 = .ok (.dup, 1) := by decide +kernel
theorem dX10_init_46 : decode cX10_init 46 = .ok (.bipush 6, 2) := by decide +kernel
theorem dX10_init_48 : decode cX10_init 48 = .ok (.ldc2_w 19, 3) := by decide +kernel
theorem dX10_init_51 : decode cX10_init 51 = .ok (.lastore, 1) := by decide +kernel
theorem dX10_init_52 : decode cX10_init 52 = .ok (.dup, 1) := by decide +kernel
theorem dX10_init_53 : decode cX10_init 53 = .ok (.bipush 7, 2) := by decide +kernel
theorem dX10_init_55 : decode cX10_init 55 = .ok (.ldc2_w 21, 3) := by decide +kernel
theorem dX10_init_58 : decode cX10_init 58 = .ok (.lastore, 1) := by decide +kernel
theorem dX10_init_59 : decode cX10_init 59 = .ok (.dup, 1) := by decide +kernel
theorem dX10_init_60 : decode cX10_init 60 = .ok (.bipush 8, 2) := by decide +kernel
theorem dX10_init_62 : decode cX10_init 62 = .ok (.ldc2_w 23, 3) := by decide +kernel
theorem dX10_init_65 : decode cX10_init 65 = .ok (.lastore, 1) := by decide +kernel
theorem dX10_init_66 : decode cX10_init 66 = .ok (.dup, 1) := by decide +kernel
theorem dX10_init_67 : decode cX10_init 67 = .ok (.bipush 9, 2) := by decide +kernel
theorem dX10_init_69 : decode cX10_init 69 = .ok (.ldc2_w 25, 3) := by decide +kernel
theorem dX10_init_72 : decode cX10_init 72 = .ok (.lastore, 1) := by decide +kernel
theorem dX10_init_73 : decode cX10_init 73 = .ok (.dup, 1) := by decide +kernel
theorem dX10_init_74 : decode cX10_init 74 = .ok (.bipush 10, 2) := by decide +kernel
theorem dX10_init_76 : decode cX10_init 76 = .ok (.ldc2_w 27, 3) := by decide +kernel
theorem dX10_init_79 : decode cX10_init 79 = .ok (.lastore, 1) := by decide +kernel
theorem dX10_init_80 : decode cX10_init 80 = .ok (.dup, 1) := by decide +kernel
theorem dX10_init_81 : decode cX10_init 81 = .ok (.bipush 11, 2) := by decide +kernel
theorem dX10_init_83 : decode cX10_init 83 = .ok (.ldc2_w 29, 3) := by decide +kernel
theorem dX10_init_86 : decode cX10_init 86 = .ok (.lastore, 1) := by decide +kernel
theorem dX10_init_87 : decode cX10_init 87 = .ok (.dup, 1) := by decide +kernel
theorem dX10_init_88 : decode cX10_init 88 = .ok (.bipush 12, 2) := by decide +kernel
theorem dX10_init_90 : decode cX10_init 90 = .ok (.ldc2_w 31, 3) := by decide +kernel
theorem dX10_init_93 : decode cX10_init 93 = .ok (.lastore, 1) := by decide +kernel
theorem dX10_init_94 : decode cX10_init 94 = .ok (.dup, 1) := by decide +kernel
theorem dX10_init_95 : decode cX10_init 95 = .ok (.bipush 13, 2) := by decide +kernel
theorem dX10_init_97 : decode cX10_init 97 = .ok (.ldc2_w 33, 3) := by decide +kernel
theorem dX10_init_100 : decode cX10_init 100 = .ok (.lastore, 1) := by decide +kernel
theorem dX10_init_101 : decode cX10_init 101 = .ok (.dup, 1) := by decide +kernel
theorem dX10_init_102 : decode cX10_init 102 = .ok (.bipush 14, 2) := by decide +kernel
theorem dX10_init_104 : decode cX10_init 104 = .ok (.ldc2_w 35, 3) := by decide +kernel
theorem dX10_init_107 : decode cX10_init 107 = .ok (.lastore, 1) := by decide +kernel
theorem dX10_init_108 : decode cX10_init 108 = .ok (.dup, 1) := by decide +kernel
theorem dX10_init_109 : decode cX10_init 109 = .ok (.bipush 15, 2) := by decide +kernel
theorem dX10_init_111 : decode cX10_init 111 = .ok (.ldc2_w 37, 3) := by decide +kernel
theorem dX10_init_114 : decode cX10_init 114 = .ok (.lastore, 1) := by decide +kernel
theorem dX10_init_115 : decode cX10_init 115 = .ok (.dup, 1) := by decide +kernel
theorem dX10_init_116 : decode cX10_init 116 = .ok (.bipush 16, 2) := by decide +kernel
theorem dX10_init_118 : decode cX10_init 118 = .ok (.ldc2_w 39, 3) := by decide +kernel
theorem dX10_init_121 : decode cX10_init 121 = .ok (.lastore, 1) := by decide +kernel
theorem dX10_init_122 : decode cX10_init 122 = .ok (.dup, 1) := by decide +kernel
theorem dX10_init_123 : decode cX10_init 123 = .ok (.bipush 17, 2) := by decide +kernel
theorem dX10_init_125 : decode cX10_init 125 = .ok (.ldc2_w 41, 3) := by decide +kernel
theorem dX10_init_128 : decode cX10_init 128 = .ok (.lastore, 1) := by decide +kernel
theorem dX10_init_129 : decode cX10_init 129 = .ok (.dup, 1) := by decide +kernel
theorem dX10_init_130 : decode cX10_init 130 = .ok (.bipush 18, 2) := by decide +kernel
theorem dX10_init_132 : decode cX10_init 132 = .ok (.ldc2_w 43, 3) := by decide +kernel
theorem dX10_init_135 : decode cX10_init 135 = .ok (.lastore, 1) := by decide +kernel
theorem dX10_init_136 : decode cX10_init 136 = .ok (.dup, 1) := by decide +kernel
theorem dX10_init_137 : decode cX10_init 137 = .ok (.bipush 19, 2) := by decide +kernel
theorem dX10_init_139 : decode cX10_init 139 = .ok (.ldc2_w 45, 3) := by decide +kernel
theorem dX10_init_142 : decode cX10_init 142 = .ok (.lastore, 1) := by decide +kernel
theorem dX10_init_143 : decode cX10_init 143 = .ok (.dup, 1) := by decide +kernel
theorem dX10_init_144 : decode cX10_init 144 = .ok (.bipush 20, 2) := by decide +kernel
theorem dX10_init_146 : decode cX10_init 146 = .ok (.ldc2_w 47, 3) := by decide +kernel
theorem dX10_init_149 : decode cX10_init 149 = .ok (.lastore, 1) := by decide +kernel
theorem dX10_init_150 : decode cX10_init 150 = .ok (.putfield 49, 3) := by decide +kernel
theorem dX10_init_153 : decode cX10_init 153 = .ok (.aload_n 0, 1) := by decide +kernel
theorem dX10_init_154 : decode cX10_init 154 = .ok (.sipush 1000, 3) := by decide +kernel
theorem dX10_init_157 : decode cX10_init 157 = .ok (.newarray .byte, 2) := by decide +kernel
theorem dX10_init_159 : decode cX10_init 159 = .ok (.putfield 55, 3) := by decide +kernel
theorem dX10_init_162 : decode cX10_init 162 = .ok (.aload_n 0, 1) := by decide +kernel
theorem dX10_init_163 : decode cX10_init 163 = .ok (.sipush 2560, 3) := by decide +kernel
theorem dX10_init_166 : decode cX10_init 166 = .ok (.newarray .int, 2) := by decide +kernel
theorem dX10_init_168 : decode cX10_init 168 = .ok (.putfield 59, 3) := by decide +kernel
theorem dX10_init_171 : decode cX10_init 171 = .ok (.aload_n 0, 1) := by decide +kernel
theorem dX10_init_172 : decode cX10_init 172 = .ok (.iconst 2, 1) := by decide +kernel
theorem dX10_init_173 : decode cX10_init 173 = .ok (.newarray .int, 2) := by decide +kernel
theorem dX10_init_175 : decode cX10_init 175 = .ok (.putfield 63, 3) := by decide +kernel
theorem dX10_init_178 : decode cX10_init 178 = .ok (.aload_n 0, 1) := by decide +kernel
theorem dX10_init_179 : decode cX10_init 179 = .ok (.sipush 2200, 3) := by decide +kernel
theorem dX10_init_182 : decode cX10_init 182 = .ok (.newarray .int, 2) := by decide +kernel
theorem dX10_init_184 : decode cX10_init 184 = .ok (.putfield 66, 3) := by decide +kernel
theorem dX10_init_187 : decode cX10_init 187 = .ok (.aload_n 0, 1) := by decide +kernel
theorem dX10_init_188 : decode cX10_init 188 = .ok (.sipush 2200, 3) := by decide +kernel
theorem dX10_init_191 : decode cX10_init 191 = .ok (.newarray .int, 2) := by decide +kernel
theorem dX10_init_193 : decode cX10_init 193 = .ok (.putfield 69, 3) := by decide +kernel
theorem dX10_init_196 : decode cX10_init 196 = .ok (.aload_n 0, 1) := by decide +kernel
theorem dX10_init_197 : decode cX10_init 197 = .ok (.sipush 800, 3) := by decide +kernel
theorem dX10_init_200 : decode cX10_init 200 = .ok (.newarray .int, 2) := by decide +kernel
theorem dX10_init_202 : decode cX10_init 202 = .ok (.putfield 72, 3) := by decide +kernel
theorem dX10_init_205 : decode cX10_init 205 = .ok (.aload_n 0, 1) := by decide +kernel
theorem dX10_init_206 : decode cX10_init 206 = .ok (.sipush 320, 3) := by decide +kernel
theorem dX10_init_209 : decode cX10_init 209 = .ok (.newarray .int, 2) := by decide +kernel
theorem dX10_init_211 : decode cX10_init 211 = .ok (.putfield 75, 3) := by decide +kernel
theorem dX10_init_214 : decode cX10_init 214 = .ok (.aload_n 0, 1) := by decide +kernel
theorem dX10_init_215 : decode cX10_init 215 = .ok (.sipush 320, 3) := by decide +kernel
theorem dX10_init_218 : decode cX10_init 218 = .ok (.newarray .int, 2) := by decide +kernel
theorem dX10_init_220 : decode cX10_init 220 = .ok (.putfield 78, 3) := by decide +kernel
theorem dX10_init_223 : decode cX10_init 223 = .ok (.aload_n 0, 1) := by decide +kernel
theorem dX10_init_224 : decode cX10_init 224 = .ok (.sipush 320, 3) := by decide +kernel
theorem dX10_init_227 : decode cX10_init 227 = .ok (.newarray .int, 2) := by decide +kernel
theorem dX10_init_229 : decode cX10_init 229 = .ok (.putfield 81, 3) := by decide +kernel
theorem dX10_init_232 : decode cX10_init 232 = .ok (.aload_n 0, 1) := by decide +kernel
theorem dX10_init_233 : decode cX10_init 233 = .ok (.iconst 2, 1) := by decide +kernel
theorem dX10_init_234 : decode cX10_init 234 = .ok (.newarray .int, 2) := by decide +kernel
theorem dX10_init_236 : decode cX10_init 236 = .ok (.putfield 84, 3) := by decide +kernel
theorem dX10_init_239 : decode cX10_init 239 = .ok (.aload_n 0, 1) := by decide +kernel
theorem dX10_init_240 : decode cX10_init 240 = .ok (.bipush 16, 2) := by decide +kernel
theorem dX10_init_242 : decode cX10_init 242 = .ok (.newarray .int, 2) := by decide +kernel
theorem dX10_init_244 : decode cX10_init 244 = .ok (.putfield 87, 3) := by decide +kernel
theorem dX10_init_247 : decode cX10_init 247 = .ok (.aload_n 0, 1) := by decide +kernel
theorem dX10_init_248 : decode cX10_init 248 = .ok (.iconst 2, 1) := by decide +kernel
theorem dX10_init_249 : decode cX10_init 249 = .ok (.newarray .int, 2) := by decide +kernel
theorem dX10_init_251 : decode cX10_init 251 = .ok (.putfield 90, 3) := by decide +kernel
theorem dX10_init_254 : decode cX10_init 254 = .ok (.aload_n 0, 1) := by decide +kernel
theorem dX10_init_255 : decode cX10_init 255 = .ok (.bipush 32, 2) := by decide +kernel
theorem dX10_init_257 : decode cX10_init 257 = .ok (.newarray .int, 2) := by decide +kernel
theorem dX10_init_259 : decode cX10_init 259 = .ok (.putfield 93, 3) := by decide +kernel
theorem dX10_init_262 : decode cX10_init 262 = .ok (.aload_n 0, 1) := by decide +kernel
theorem dX10_init_263 : decode cX10_init 263 = .ok (.iconst 2, 1) := by decide +kernel
theorem dX10_init_264 : decode cX10_init 264 = .ok (.newarray .int, 2) := by decide +kernel
theorem dX10_init_266 : decode cX10_init 266 = .ok (.putfield 96, 3) := by decide +kernel
theorem dX10_init_269 : decode cX10_init 269 = .ok (.aload_n 0, 1) := by decide +kernel
theorem dX10_init_270 : decode cX10_init 270 = .ok (.sipush 500, 3) := by decide +kernel
theorem dX10_init_273 : decode cX10_init 273 = .ok (.newarray .int, 2) := by decide +kernel
theorem dX10_init_275 : decode cX10_init 275 = .ok (.putfield 99, 3) := by decide +kernel
theorem dX10_init_278 : decode cX10_init 278 = .ok (.aload_n 0, 1) := by decide +kernel
theorem dX10_init_279 : decode cX10_init 279 = .ok (.sipush 500, 3) := by decide +kernel
theorem dX10_init_282 : decode cX10_init 282 = .ok (.newarray .int, 2) := by decide +kernel
theorem dX10_init_284 : decode cX10_init 284 = .ok (.putfield 102, 3) := by decide +kernel
theorem dX10_init_287 : decode cX10_init 287 = .ok (.aload_n 0, 1) := by decide +kernel
theorem dX10_init_288 : decode cX10_init 288 = .ok (.sipush 500, 3) := by decide +kernel
theorem dX10_init_291 : decode cX10_init 291 = .ok (.newarray .int, 2) := by decide +kernel
theorem dX10_init_293 : decode cX10_init 293 = .ok (.putfield 105, 3) := by decide +kernel
theorem dX10_init_296 : decode cX10_init 296 = .ok (.aload_n 0, 1) := by decide +kernel
theorem dX10_init_297 : decode cX10_init 297 = .ok (.sipush 1000, 3) := by decide +kernel
theorem dX10_init_300 : decode cX10_init 300 = .ok (.newarray .int, 2) := by decide +kernel
theorem dX10_init_302 : decode cX10_init 302 = .ok (.putfield 108, 3) := by decide +kernel
theorem dX10_init_305 : decode cX10_init 305 = .ok (.aload_n 0, 1) := by decide +kernel
theorem dX10_init_306 : decode cX10_init 306 = .ok (.sipush 1000, 3) := by decide +kernel
theorem dX10_init_309 : decode cX10_init 309 = .ok (.newarray .int, 2) := by decide +kernel
theorem dX10_init_311 : decode cX10_init 311 = .ok (.putfield 111, 3) := by decide +kernel
theorem dX10_init_314 : decode cX10_init 314 = .ok (.aload_n 0, 1) := by decide +kernel
theorem dX10_init_315 : decode cX10_init 315 = .ok (.bipush 12, 2) := by decide +kernel
theorem dX10_init_317 : decode cX10_init 317 = .ok (.newarray .int, 2) := by decide +kernel
theorem dX10_init_319 : decode cX10_init 319 = .ok (.putfield 114, 3) := by decide +kernel
theorem dX10_init_322 : decode cX10_init 322 = .ok (.aload_n 0, 1) := by decide +kernel
theorem dX10_init_323 : decode cX10_init 323 = .ok (.bipush 12, 2) := by decide +kernel
theorem dX10_init_325 : decode cX10_init 325 = .ok (.newarray .int, 2) := by decide +kernel
theorem dX10_init_327 : decode cX10_init 327 = .ok (.putfield 117, 3) := by decide +kernel
theorem dX10_init_330 : decode cX10_init 330 = .ok (.aload_n 0, 1) := by decide +kernel
theorem dX10_init_331 : decode cX10_init 331 = .ok (.bipush 12, 2) := by decide +kernel
theorem dX10_init_333 : decode cX10_init 333 = .ok (.newarray .int, 2) := by decide +kernel
theorem dX10_init_335 : decode cX10_init 335 = .ok (.putfield 120, 3) := by decide +kernel
theorem dX10_init_338 : decode cX10_init 338 = .ok (.aload_n 0, 1) := by decide +kernel
theorem dX10_init_339 : decode cX10_init 339 = .ok (.bipush 12, 2) := by decide +kernel
theorem dX10_init_341 : decode cX10_init 341 = .ok (.newarray .int, 2) := by decide +kernel
theorem dX10_init_343 : decode cX10_init 343 = .ok (.putfield 123, 3) := by decide +kernel
theorem dX10_init_346 : decode cX10_init 346 = .ok (.aload_n 0, 1) := by decide +kernel
theorem dX10_init_347 : decode cX10_init 347 = .ok (.bipush 30, 2) := by decide +kernel
theorem dX10_init_349 : decode cX10_init 349 = .ok (.newarray .int, 2) := by decide +kernel
theorem dX10_init_351 : decode cX10_init 351 = .ok (.putfield 126, 3) := by decide +kernel
theorem dX10_init_354 : decode cX10_init 354 = .ok (.aload_n 0, 1) := by decide +kernel
theorem dX10_init_355 : decode cX10_init 355 = .ok (.bipush 30, 2) := by decide +kernel
theorem dX10_init_357 : decode cX10_init 357 = .ok (.newarray .int, 2) := by decide +kernel
theorem dX10_init_359 : decode cX10_init 359 = .ok (.putfield 129, 3) := by decide +kernel
theorem dX10_init_362 : decode cX10_init 362 = .ok (.aload_n 0, 1) := by decide +kernel
theorem dX10_init_363 : decode cX10_init 363 = .ok (.bipush 30, 2) := by decide +kernel
theorem dX10_init_365 : decode cX10_init 365 = .ok (.newarray .int, 2) := by decide +kernel
theorem dX10_init_367 : decode cX10_init 367 = .ok (.putfield 132, 3) := by decide +kernel
theorem dX10_init_370 : decode cX10_init 370 = .ok (.aload_n 0, 1) := by decide +kernel
theorem dX10_init_371 : decode cX10_init 371 = .ok (.bipush 30, 2) := by decide +kernel
theorem dX10_init_373 : decode cX10_init 373 = .ok (.newarray .int, 2) := by decide +kernel
theorem dX10_init_375 : decode cX10_init 375 = .ok (.putfield 135, 3) := by decide +kernel
theorem dX10_init_378 : decode cX10_init 378 = .ok (.aload_n 0, 1) := by decide +kernel
theorem dX10_init_379 : decode cX10_init 379 = .ok (.iconst 2, 1) := by decide +kernel
theorem dX10_init_380 : decode cX10_init 380 = .ok (.newarray .boolean, 2) := by decide +kernel
theorem dX10_init_382 : decode cX10_init 382 = .ok (.putfield 138, 3) := by decide +kernel
theorem dX10_init_385 : decode cX10_init 385 = .ok (.aload_n 0, 1) := by decide +kernel
theorem dX10_init_386 : decode cX10_init 386 = .ok (.bipush 30, 2) := by decide +kernel
theorem dX10_init_388 : decode cX10_init 388 = .ok (.newarray .int, 2) := by decide +kernel
theorem dX10_init_390 : decode cX10_init 390 = .ok (.putfield 142, 3) := by decide +kernel
theorem dX10_init_393 : decode cX10_init 393 = .ok (.aload_n 0, 1) := by decide +kernel
theorem dX10_init_394 : decode cX10_init 394 = .ok (.sipush 1230, 3) := by decide +kernel
theorem dX10_init_397 : decode cX10_init 397 = .ok (.newarray .int, 2) := by decide +kernel
theorem dX10_init_399 : decode cX10_init 399 = .ok (.putfield 145, 3) := by decide +kernel
theorem dX10_init_402 : decode cX10_init 402 = .ok (.aload_n 0, 1) := by decide +kernel
theorem dX10_init_403 : decode cX10_init 403 = .ok (.sipush 1260, 3) := by decide +kernel
theorem dX10_init_406 : decode cX10_init 406 = .ok (.newarray .int, 2) := by decide +kernel
theorem dX10_init_408 : decode cX10_init 408 = .ok (.putfield 148, 3) := by decide +kernel
theorem dX10_init_411 : decode cX10_init 411 = .ok (.aload_n 0, 1) := by decide +kernel
theorem dX10_init_412 : decode cX10_init 412 = .ok (.sipush 1260, 3) := by decide +kernel
theorem dX10_init_415 : decode cX10_init 415 = .ok (.newarray .int, 2) := by decide +kernel
theorem dX10_init_417 : decode cX10_init 417 = .ok (.putfield 151, 3) := by decide +kernel
theorem dX10_init_420 : decode cX10_init 420 = .ok (.aload_n 0, 1) := by decide +kernel
theorem dX10_init_421 : decode cX10_init 421 = .ok (.sipush 1260, 3) := by decide +kernel
theorem dX10_init_424 : decode cX10_init 424 = .ok (.newarray .int, 2) := by decide +kernel
theorem dX10_init_426 : decode cX10_init 426 = .ok (.putfield 154, 3) := by decide +kernel
theorem dX10_init_429 : decode cX10_init 429 = .ok (.aload_n 0, 1) := by decide +kernel
theorem dX10_init_430 : decode cX10_init 430 = .ok (.sipush 1260, 3) := by decide +kernel
theorem dX10_init_433 : decode cX10_init 433 = .ok (.newarray .int, 2) := by decide +kernel
theorem dX10_init_435 : decode cX10_init 435 = .ok (.putfield 157, 3) := by decide +kernel
theorem dX10_init_438 : decode cX10_init 438 = .ok (.aload_n 0, 1) := by decide +kernel
theorem dX10_init_439 : decode cX10_init 439 = .ok (.sipush 1260, 3) := by decide +kernel
theorem dX10_init_442 : decode cX10_init 442 = .ok (.newarray .int, 2) := by decide +kernel
theorem dX10_init_444 : decode cX10_init 444 = .ok (.putfield 160, 3) := by decide +kernel
theorem dX10_init_447 : decode cX10_init 447 = .ok (.aload_n 0, 1) := by decide +kernel
theorem dX10_init_448 : decode cX10_init 448 = .ok (.sipush 1260, 3) := by decide +kernel
theorem dX10_init_451 : decode cX10_init 451 = .ok (.newarray .int, 2) := by decide +kernel
theorem dX10_init_453 : decode cX10_init 453 = .ok (.putfield 163, 3) := by decide +kernel
theorem dX10_init_456 : decode cX10_init 456 = .ok (.aload_n 0, 1) := by decide +kernel
theorem dX10_init_457 : decode cX10_init 457 = .ok (.sipush 15120, 3) := by decide +kernel
theorem dX10_init_460 : decode cX10_init 460 = .ok (.newarray .int, 2) := by decide +kernel
theorem dX10_init_462 : decode cX10_init 462 = .ok (.putfield 166, 3) := by decide +kernel
theorem dX10_init_465 : decode cX10_init 465 = .ok (.aload_n 0, 1) := by decide +kernel
theorem dX10_init_466 : decode cX10_init 466 = .ok (.sipush 1230, 3) := by decide +kernel
theorem dX10_init_469 : decode cX10_init 469 = .ok (.newarray .int, 2) := by decide +kernel
theorem dX10_init_471 : decode cX10_init 471 = .ok (.putfield 169, 3) := by decide +kernel
theorem dX10_init_474 : decode cX10_init 474 = .ok (.aload_n 0, 1) := by decide +kernel
theorem dX10_init_475 : decode cX10_init 475 = .ok (.sipush 240, 3) := by decide +kernel
theorem dX10_init_478 : decode cX10_init 478 = .ok (.newarray .int, 2) := by decide +kernel
theorem dX10_init_480 : decode cX10_init 480 = .ok (.putfield 172, 3) := by decide +kernel
theorem dX10_init_483 : decode cX10_init 483 = .ok (.aload_n 0, 1) := by decide +kernel
theorem dX10_init_484 : decode cX10_init 484 = .ok (.sipush 400, 3) := by decide +kernel
theorem dX10_init_487 : decode cX10_init 487 = .ok (.newarray .int, 2) := by decide +kernel
theorem dX10_init_489 : decode cX10_init 489 = .ok (.putfield 175, 3) := by decide +kernel
theorem dX10_init_492 : decode cX10_init 492 = .ok (.aload_n 0, 1) := by decide +kernel
theorem dX10_init_493 : decode cX10_init 493 = .ok (.sipush 400, 3) := by decide +kernel
theorem dX10_init_496 : decode cX10_init 496 = .ok (.newarray .int, 2) := by decide +kernel
theorem dX10_init_498 : decode cX10_init 498 = .ok (.putfield 178, 3) := by decide +kernel
theorem dX10_init_501 : decode cX10_init 501 = .ok (.aload_n 0, 1) := by decide +kernel
theorem dX10_init_502 : decode cX10_init 502 = .ok (.sipush 400, 3) := by decide +kernel
theorem dX10_init_505 : decode cX10_init 505 = .ok (.newarray .int, 2) := by decide +kernel
theorem dX10_init_507 : decode cX10_init 507 = .ok (.putfield 181, 3) := by decide +kernel
theorem dX10_init_510 : decode cX10_init 510 = .ok (.aload_n 0, 1) := by decide +kernel
theorem dX10_init_511 : decode cX10_init 511 = .ok (.sipush 400, 3) := by decide +kernel
theorem dX10_init_514 : decode cX10_init 514 = .ok (.newarray .int, 2) := by decide +kernel
theorem dX10_init_516 : decode cX10_init 516 = .ok (.putfield 184, 3) := by decide +kernel
theorem dX10_init_519 : decode cX10_init 519 = .ok (.aload_n 0, 1) := by decide +kernel
theorem dX10_init_520 : decode cX10_init 520 = .ok (.sipush 400, 3) := by decide +kernel
theorem dX10_init_523 : decode cX10_init 523 = .ok (.newarray .int, 2) := by decide +kernel
theorem dX10_init_525 : decode cX10_init 525 = .ok (.putfield 187, 3) := by decide +kernel
theorem dX10_init_528 : decode cX10_init 528 = .ok (.aload_n 0, 1) := by decide +kernel
theorem dX10_init_529 : decode cX10_init 529 = .ok (.sipush 400, 3) := by decide +kernel
theorem dX10_init_532 : decode cX10_init 532 = .ok (.newarray .int, 2) := by decide +kernel
theorem dX10_init_534 : decode cX10_init 534 = .ok (.putfield 190, 3) := by decide +kernel
theorem dX10_init_537 : decode cX10_init 537 = .ok (.aload_n 0, 1) := by decide +kernel
theorem dX10_init_538 : decode cX10_init 538 = .ok (.sipush 400, 3) := by decide +kernel
theorem dX10_init_541 : decode cX10_init 541 = .ok (.newarray .int, 2) := by decide +kernel
theorem dX10_init_543 : decode cX10_init 543 = .ok (.putfield 193, 3) := by decide +kernel
theorem dX10_init_546 : decode cX10_init 546 = .ok (.aload_n 0, 1) := by decide +kernel
theorem dX10_init_547 : decode cX10_init 547 = .ok (.sipush 400, 3) := by decide +kernel
theorem dX10_init_550 : decode cX10_init 550 = .ok (.newarray .int, 2) := by decide +kernel
theorem dX10_init_552 : decode cX10_init 552 = .ok (.putfield 196, 3) := by decide +kernel
theorem dX10_init_555 : decode cX10_init 555 = .ok (.aload_n 0, 1) := by decide +kernel
theorem dX10_init_556 : decode cX10_init 556 = .ok (.bipush 72, 2) := by decide +kernel
theorem dX10_init_558 : decode cX10_init 558 = .ok (.newarray .int, 2) := by decide +kernel
theorem dX10_init_560 : decode cX10_init 560 = .ok (.putfield 199, 3) := by decide +kernel
theorem dX10_init_563 : decode cX10_init 563 = .ok (.aload_n 0, 1) := by decide +kernel
theorem dX10_init_564 : decode cX10_init 564 = .ok (.bipush 36, 2) := by decide +kernel
theorem dX10_init_566 : decode cX10_init 566 = .ok (.newarray .int, 2) := by decide +kernel
theorem dX10_init_568 : decode cX10_init 568 = .ok (.putfield 202, 3) := by decide +kernel
theorem dX10_init_571 : decode cX10_init 571 = .ok (.aload_n 0, 1) := by decide +kernel
theorem dX10_init_572 : decode cX10_init 572 = .ok (.bipush 12, 2) := by decide +kernel
theorem dX10_init_574 : decode cX10_init 574 = .ok (.newarray .int, 2) := by decide +kernel
theorem dX10_init_576 : decode cX10_init 576 = .ok (.putfield 205, 3) := by decide +kernel
theorem dX10_init_579 : decode cX10_init 579 = .ok (.aload_n 0, 1) := by decide +kernel
theorem dX10_init_580 : decode cX10_init 580 = .ok (.bipush 12, 2) := by decide +kernel
theorem dX10_init_582 : decode cX10_init 582 = .ok (.newarray .int, 2) := by decide +kernel
theorem dX10_init_584 : decode cX10_init 584 = .ok (.putfield 208, 3) := by decide +kernel
theorem dX10_init_587 : decode cX10_init 587 = .ok (.aload_n 0, 1) := by decide +kernel
theorem dX10_init_588 : decode cX10_init 588 = .ok (.sipush 420, 3) := by decide +kernel
theorem dX10_init_591 : decode cX10_init 591 = .ok (.newarray .int, 2) := by decide +kernel
theorem dX10_init_593 : decode cX10_init 593 = .ok (.putfield 211, 3) := by decide +kernel
theorem dX10_init_596 : decode cX10_init 596 = .ok (.aload_n 0, 1) := by decide +kernel
theorem dX10_init_597 : decode cX10_init 597 = .ok (.sipush 3360, 3) := by decide +kernel
theorem dX10_init_600 : decode cX10_init 600 = .ok (.newarray .int, 2) := by decide +kernel
theorem dX10_init_602 : decode cX10_init 602 = .ok (.putfield 214, 3) := by decide +kernel
theorem dX10_init_605 : decode cX10_init 605 = .ok (.aload_n 0, 1) := by decide +kernel
theorem dX10_init_606 : decode cX10_init 606 = .ok (.sipush 560, 3) := by decide +kernel
theorem dX10_init_609 : decode cX10_init 609 = .ok (.newarray .int, 2) := by decide +kernel
theorem dX10_init_611 : decode cX10_init 611 = .ok (.putfield 217, 3) := by decide +kernel
theorem dX10_init_614 : decode cX10_init 614 = .ok (.aload_n 0, 1) := by decide +kernel
theorem dX10_init_615 : decode cX10_init 615 = .ok (.bipush 60, 2) := by decide +kernel
theorem dX10_init_617 : decode cX10_init 617 = .ok (.newarray .int, 2) := by decide +kernel
theorem dX10_init_619 : decode cX10_init 619 = .ok (.putfield 220, 3) := by decide +kernel
theorem dX10_init_622 : decode cX10_init 622 = .ok (.aload_n 0, 1) := by decide +kernel
theorem dX10_init_623 : decode cX10_init 623 = .ok (.bipush 60, 2) := by decide +kernel
theorem dX10_init_625 : decode cX10_init 625 = .ok (.newarray .int, 2) := by decide +kernel
theorem dX10_init_627 : decode cX10_init 627 = .ok (.putfield 223, 3) := by decide +kernel
theorem dX10_init_630 : decode cX10_init 630 = .ok (.aload_n 0, 1) := by decide +kernel
theorem dX10_init_631 : decode cX10_init 631 = .ok (.bipush 60, 2) := by decide +kernel
theorem dX10_init_633 : decode cX10_init 633 = .ok (.newarray .int, 2) := by decide +kernel
theorem dX10_init_635 : decode cX10_init 635 = .ok (.putfield 226, 3) := by decide +kernel
theorem dX10_init_638 : decode cX10_init 638 = .ok (.aload_n 0, 1) := by decide +kernel
theorem dX10_init_639 : decode cX10_init 639 = .ok (.sipush 1100, 3) := by decide +kernel
theorem dX10_init_642 : decode cX10_init 642 = .ok (.newarray .int, 2) := by decide +kernel
theorem dX10_init_644 : decode cX10_init 644 = .ok (.putfield 229, 3) := by decide +kernel
theorem dX10_init_647 : decode cX10_init 647 = .ok (.aload_n 0, 1) := by decide +kernel
theorem dX10_init_648 : decode cX10_init 648 = .ok (.sipush 244, 3) := by decide +kernel
theorem dX10_init_651 : decode cX10_init 651 = .ok (.newarray .int, 2) := by decide +kernel
theorem dX10_init_653 : decode cX10_init 653 = .ok (.putfield 232, 3) := by decide +kernel
theorem dX10_init_656 : decode cX10_init 656 = .ok (.aload_n 0, 1) := by decide +kernel
theorem dX10_init_657 : decode cX10_init 657 = .ok (.iconst 0, 1) := by decide +kernel
theorem dX10_init_658 : decode cX10_init 658 = .ok (.putfield 235, 3) := by decide +kernel
theorem dX10_init_661 : decode cX10_init 661 = .ok (.return_, 1) := by decide +kernel
set_option maxHeartbeats 4000000 in
set_option maxRecDepth 100000 in
theorem c_m_init (l : Launch) (D : va_G) (g : Nat → ClassId) (h sz : Nat) : vz_Mv l D (tyG g) yX10_init cX10_init 1 1 12 60 48073 [.ref h] sz [(h, .inr (10, [.null, .null, .int 0, .int 0, .int 0, .int 0, .int 0, .int 0, .int 0, .int 0, .int 0, .null, .null, .null, .null, .null, .null, .null, .null, .null, .null, .null, .null, .null, .int 0, .int 0, .int 0, .int 0, .int 0, .int 0, .null, .null, .null, .int 0, .null, .null, .int 0, .int 0, .int 0, .null, .null, .null, .null, .int 0, .null, .null, .null, .null, .null, .int 0, .null, .null, .null, .null, .null, .null, .null, .null, .null, .null, .null, .int 0, .int 0, .int 0, .int 0, .int 0, .null, .null, .null, .null, .null, .null, .null, .null, .int 0, .null, .null, .null, .null, .int 0, .null, .null, .null, .int 0, .int 0, .int 0, .int 0, .int 0, .null, .null, .null, .null, .int 0, .int 0, .null, .int 0]))] (fun _ : Nat → Nat => True) (fun a => [(h, .inr (10, mF a (fun _ => 0))), ((a 1), .inl (g 1, 1000, .inl (fun _ => 0))), tA g (a 3) 2 (fun _ => 0), tA g (a 10) 2 (fun _ => 0), tA g (a 12) 2 (fun _ => 0), tA g (a 14) 2 (fun _ => 0), tA g (a 13) 32 (fun _ => 0), ((a 28), .inl (g 3, 2, .inl (fun _ => 0)))]) := by
  refine vz_sv (by decide) (Nat.le_of_ble_eq_true rfl) (fun p e s m args below meth c hx hb hr hml hts hown hlk hin hK hsz A hA H locs hP hD hS ls hl => ?_)
  have hl : lv_has ls 1 [(0, .ref h)] := hl
  refine lv_aload_n hx hb dX10_init_0 rfl (lv_at hl 0 rfl) ?_
  refine W.objInit hx hb hown (hts _ q169) (hts _ q11) (hts _ q12) rfl (hl.1.trans hml.symm) rfl dX10_init_1 (Nat.le_of_ble_eq_true rfl) (Nat.le_of_ble_eq_true rfl) ?_
  refine W.eq (g2 := F0 m 4 ls []) rfl ?_
  refine lv_aload_n hx hb dX10_init_4 rfl (lv_at hl 0 rfl) ?_
  refine lv_bipush (v := 21) hx hb dX10_init_5 (by decide) ?_
  refine vz_newa (t0 := 2) (atype := .long) (ty := .long) (a0 := (21, .inr (.inl (fun _ => 0)))) hx hb (hts _ q170) rfl rfl (fun _ _ h => h) hK hP hD hS hA (fun _ => rfl) (by decide) (by decide) (by decide) (Nat.le_of_ble_eq_true rfl) (Nat.le_of_ble_eq_true rfl) dX10_init_7 (fun qq1 H hP hD hS => ?_)
  refine W.cs (cells' := 1) (slots' := 21) rfl rfl ?_
  refine lv_dup hx hb dX10_init_9 rfl ?_
  refine lv_iconst (v := 0) hx hb dX10_init_10 (by decide) ?_
  refine lv_ldc2 hx hb hown (hts _ q171) dX10_init_11 ?_
  refine va_last hx hb hK hP hD hS 1 2 rfl rfl (vp_in_c (by decide)) dX10_init_14 (fun H locs hP hD hS => ?_)
  have hP : va_P D vwCl [(h, .inr (10, [.null, .null, .int 0, .int 0, .int 0, .int 0, .int 0, .int 0, .int 0, .int 0, .int 0, .null, .null, .null, .null, .null, .null, .null, .null, .null, .null, .null, .null, .null, .int 0, .int 0, .int 0, .int 0, .int 0, .int 0, .null, .null, .null, .int 0, .null, .null, .int 0, .int 0, .int 0, .null, .null, .null, .null, .int 0, .null, .null, .null, .null, .null, .int 0, .null, .null, .null, .null, .null, .null, .null, .null, .null, .null, .null, .int 0, .int 0, .int 0, .int 0, .int 0, .null, .null, .null, .null, .null, .null, .null, .null, .int 0, .null, .null, .null, .null, .int 0, .null, .null, .null, .int 0, .int 0, .int 0, .int 0, .int 0, .null, .null, .null, .null, .int 0, .int 0, .null, .int 0])), (qq1, .inl (g 2, 21, .inr (.inl (vp_updL (fun _ => 0) 0 427595))))] H := hP
  have hD : va_D A [(h, .inr (10, [.null, .null, .int 0, .int 0, .int 0, .int 0, .int 0, .int 0, .int 0, .int 0, .int 0, .null, .null, .null, .null, .null, .null, .null, .null, .null, .null, .null, .null, .null, .int 0, .int 0, .int 0, .int 0, .int 0, .int 0, .null, .null, .null, .int 0, .null, .null, .int 0, .int 0, .int 0, .null, .null, .null, .null, .int 0, .null, .null, .null, .null, .null, .int 0, .null, .null, .null, .null, .null, .null, .null, .null, .null, .null, .null, .int 0, .int 0, .int 0, .int 0, .int 0, .null, .null, .null, .null, .null, .null, .null, .null, .int 0, .null, .null, .null, .null, .int 0, .null, .null, .null, .int 0, .int 0, .int 0, .int 0, .int 0, .null, .null, .null, .null, .int 0, .int 0, .null, .int 0])), (qq1, .inl (g 2, 21, .inr (.inl (vp_updL (fun _ => 0) 0 427595))))] := hD
  refine lv_dup hx hb dX10_init_15 rfl ?_
  refine lv_iconst (v := 1) hx hb dX10_init_16 (by decide) ?_
  refine lv_ldc2 hx hb hown (hts _ q172) dX10_init_17 ?_
  refine va_last hx hb hK hP hD hS 1 2 rfl rfl (vp_in_c (by decide)) dX10_init_20 (fun H locs hP hD hS => ?_)
  have hP : va_P D vwCl [(h, .inr (10, [.null, .null, .int 0, .int 0, .int 0, .int 0, .int 0, .int 0, .int 0, .int 0, .int 0, .null, .null, .null, .null, .null, .null, .null, .null, .null, .null, .null, .null, .null, .int 0, .int 0, .int 0, .int 0, .int 0, .int 0, .null, .null, .null, .int 0, .null, .null, .int 0, .int 0, .int 0, .null, .null, .null, .null, .int 0, .null, .null, .null, .null, .null, .int 0, .null, .null, .null, .null, .null, .null, .null, .null, .null, .null, .null, .int 0, .int 0, .int 0, .int 0, .int 0, .null, .null, .null, .null, .null, .null, .null, .null, .int 0, .null, .null, .null, .null, .int 0, .null, .null, .null, .int 0, .int 0, .int 0, .int 0, .int 0, .null, .null, .null, .null, .int 0, .int 0, .null, .int 0])), (qq1, .inl (g 2, 21, .inr (.inl (vp_updL (vp_updL (fun _ => 0) 0 427595) 1 99724))))] H := hP
  have hD : va_D A [(h, .inr (10, [.null, .null, .int 0, .int 0, .int 0, .int 0, .int 0, .int 0, .int 0, .int 0, .int 0, .null, .null, .null, .null, .null, .null, .null, .null, .null, .null, .null, .null, .null, .int 0, .int 0, .int 0, .int 0, .int 0, .int 0, .null, .null, .null, .int 0, .null, .null, .int 0, .int 0, .int 0, .null, .null, .null, .null, .int 0, .null, .null, .null, .null, .null, .int 0, .null, .null, .null, .null, .null, .null, .null, .null, .null, .null, .null, .int 0, .int 0, .int 0, .int 0, .int 0, .null, .null, .null, .null, .null, .null, .null, .null, .int 0, .null, .null, .null, .null, .int 0, .null, .null, .null, .int 0, .int 0, .int 0, .int 0, .int 0, .null, .null, .null, .null, .int 0, .int 0, .null, .int 0])), (qq1, .inl (g 2, 21, .inr (.inl (vp_updL (vp_updL (fun _ => 0) 0 427595) 1 99724))))] := hD
  refine lv_dup hx hb dX10_init_21 rfl ?_
  refine lv_iconst (v := 2) hx hb dX10_init_22 (by decide) ?_
  refine lv_ldc2 hx hb hown (hts _ q173) dX10_init_23 ?_
  refine va_last hx hb hK hP hD hS 1 2 rfl rfl (vp_in_c (by decide)) dX10_init_26 (fun H locs hP hD hS => ?_)
  have hP : va_P D vwCl [(h, .inr (10, [.null, .null, .int 0, .int 0, .int 0, .int 0, .int 0, .int 0, .int 0, .int 0, .int 0, .null, .null, .null, .null, .null, .null, .null, .null, .null, .null, .null, .null, .null, .int 0, .int 0, .int 0, .int 0, .int 0, .int 0, .null, .null, .null, .int 0, .null, .null, .int 0, .int 0, .int 0, .null, .null, .null, .null, .int 0, .null, .null, .null, .null, .null, .int 0, .null, .null, .null, .null, .null, .null, .null, .null, .null, .null, .null, .int 0, .int 0, .int 0, .int 0, .int 0, .null, .null, .null, .null, .null, .null, .null, .null, .int 0, .null, .null, .null, .null, .int 0, .null, .null, .null, .int 0, .int 0, .int 0, .int 0, .int 0, .null, .null, .null, .null, .int 0, .int 0, .null, .int 0])), (qq1, .inl (g 2, 21, .inr (.inl (vp_updL (vp_updL (vp_updL (fun _ => 0) 0 427595) 1 99724) 2 18935))))] H := hP
  have hD : va_D A [(h, .inr (10, [.null, .null, .int 0, .int 0, .int 0, .int 0, .int 0, .int 0, .int 0, .int 0, .int 0, .null, .null, .null, .null, .null, .null, .null, .null, .null, .null, .null, .null, .null, .int 0, .int 0, .int 0, .int 0, .int 0, .int 0, .null, .null, .null, .int 0, .null, .null, .int 0, .int 0, .int 0, .null, .null, .null, .null, .int 0, .null, .null, .null, .null, .null, .int 0, .null, .null, .null, .null, .null, .null, .null, .null, .null, .null, .null, .int 0, .int 0, .int 0, .int 0, .int 0, .null, .null, .null, .null, .null, .null, .null, .null, .int 0, .null, .null, .null, .null, .int 0, .null, .null, .null, .int 0, .int 0, .int 0, .int 0, .int 0, .null, .null, .null, .null, .int 0, .int 0, .null, .int 0])), (qq1, .inl (g 2, 21, .inr (.inl (vp_updL (vp_updL (vp_updL (fun _ => 0) 0 427595) 1 99724) 2 18935))))] := hD
  refine lv_dup hx hb dX10_init_27 rfl ?_
  refine lv_iconst (v := 3) hx hb dX10_init_28 (by decide) ?_
  refine lv_ldc2 hx hb hown (hts _ q174) dX10_init_29 ?_
  refine va_last hx hb hK hP hD hS 1 2 rfl rfl (vp_in_c (by decide)) dX10_init_32 (fun H locs hP hD hS => ?_)
  have hP : va_P D vwCl [(h, .inr (10, [.null, .null, .int 0, .int 0, .int 0, .int 0, .int 0, .int 0, .int 0, .int 0, .int 0, .null, .null, .null, .null, .null, .null, .null, .null, .null, .null, .null, .null, .null, .int 0, .int 0, .int 0, .int 0, .int 0, .int 0, .null, .null, .null, .int 0, .null, .null, .int 0, .int 0, .int 0, .null, .null, .null, .null, .int 0, .null, .null, .null, .null, .null, .int 0, .null, .null, .null, .null, .null, .null, .null, .null, .null, .null, .null, .int 0, .int 0, .int 0, .int 0, .int 0, .null, .null, .null, .null, .null, .null, .null, .null, .int 0, .null, .null, .null, .null, .int 0, .null, .null, .null, .int 0, .int 0, .int 0, .int 0, .int 0, .null, .null, .null, .null, .int 0, .int 0, .null, .int 0])), (qq1, .inl (g 2, 21, .inr (.inl (vp_updL (vp_updL (vp_updL (vp_updL (fun _ => 0) 0 427595) 1 99724) 2 18935) 3 474565))))] H := hP
  have hD : va_D A [(h, .inr (10, [.null, .null, .int 0, .int 0, .int 0, .int 0, .int 0, .int 0, .int 0, .int 0, .int 0, .null, .null, .null, .null, .null, .null, .null, .null, .null, .null, .null, .null, .null, .int 0, .int 0, .int 0, .int 0, .int 0, .int 0, .null, .null, .null, .int 0, .null, .null, .int 0, .int 0, .int 0, .null, .null, .null, .null, .int 0, .null, .null, .null, .null, .null, .int 0, .null, .null, .null, .null, .null, .null, .null, .null, .null, .null, .null, .int 0, .int 0, .int 0, .int 0, .int 0, .null, .null, .null, .null, .null, .null, .null, .null, .int 0, .null, .null, .null, .null, .int 0, .null, .null, .null, .int 0, .int 0, .int 0, .int 0, .int 0, .null, .null, .null, .null, .int 0, .int 0, .null, .int 0])), (qq1, .inl (g 2, 21, .inr (.inl (vp_updL (vp_updL (vp_updL (vp_updL (fun _ => 0) 0 427595) 1 99724) 2 18935) 3 474565))))] := hD
  refine lv_dup hx hb dX10_init_33 rfl ?_
  refine lv_iconst (v := 4) hx hb dX10_init_34 (by decide) ?_
  refine lv_ldc2 hx hb hown (hts _ q175) dX10_init_35 ?_
  refine va_last hx hb hK hP hD hS 1 2 rfl rfl (vp_in_c (by decide)) dX10_init_38 (fun H locs hP hD hS => ?_)
  have hP : va_P D vwCl [(h, .inr (10, [.null, .null, .int 0, .int 0, .int 0, .int 0, .int 0, .int 0, .int 0, .int 0, .int 0, .null, .null, .null, .null, .null, .null, .null, .null, .null, .null, .null, .null, .null, .int 0, .int 0, .int 0, .int 0, .int 0, .int 0, .null, .null, .null, .int 0, .null, .null, .int 0, .int 0, .int 0, .null, .null, .null, .null, .int 0, .null, .null, .null, .null, .null, .int 0, .null, .null, .null, .null, .null, .null, .null, .null, .null, .null, .null, .int 0, .int 0, .int 0, .int 0, .int 0, .null, .null, .null, .null, .null, .null, .null, .null, .int 0, .null, .null, .null, .null, .int 0, .null, .null, .null, .int 0, .int 0, .int 0, .int 0, .int 0, .null, .null, .null, .null, .int 0, .int 0, .null, .int 0])), (qq1, .inl (g 2, 21, .inr (.inl (vp_updL (vp_updL (vp_updL (vp_updL (vp_updL (fun _ => 0) 0 427595) 1 99724) 2 18935) 3 474565) 4 609900110))))] H := hP
  have hD : va_D A [(h, .inr (10, [.null, .null, .int 0, .int 0, .int 0, .int 0, .int 0, .int 0, .int 0, .int 0, .int 0, .null, .null, .null, .null, .null, .null, .null, .null, .null, .null, .null, .null, .null, .int 0, .int 0, .int 0, .int 0, .int 0, .int 0, .null, .null, .null, .int 0, .null, .null, .int 0, .int 0, .int 0, .null, .null, .null, .null, .int 0, .null, .null, .null, .null, .null, .int 0, .null, .null, .null, .null, .null, .null, .null, .null, .null, .null, .null, .int 0, .int 0, .int 0, .int 0, .int 0, .null, .null, .null, .null, .null, .null, .null, .null, .int 0, .null, .null, .null, .null, .int 0, .null, .null, .null, .int 0, .int 0, .int 0, .int 0, .int 0, .null, .null, .null, .null, .int 0, .int 0, .null, .int 0])), (qq1, .inl (g 2, 21, .inr (.inl (vp_updL (vp_updL (vp_updL (vp_updL (vp_updL (fun _ => 0) 0 427595) 1 99724) 2 18935) 3 474565) 4 609900110))))] := hD
  refine lv_dup hx hb dX10_init_39 rfl ?_
  refine lv_iconst (v := 5) hx hb dX10_init_40 (by decide) ?_
  refine lv_ldc2 hx hb hown (hts _ q176) dX10_init_41 ?_
  refine va_last hx hb hK hP hD hS 1 2 rfl rfl (vp_in_c (by decide)) dX10_init_44 (fun H locs hP hD hS => ?_)
  have hP : va_P D vwCl [(h, .inr (10, [.null, .null, .int 0, .int 0, .int 0, .int 0, .int 0, .int 0, .int 0, .int 0, .int 0, .null, .null, .null, .null, .null, .null, .null, .null, .null, .null, .null, .null, .null, .int 0, .int 0, .int 0, .int 0, .int 0, .int 0, .null, .null, .null, .int 0, .null, .null, .int 0, .int 0, .int 0, .null, .null, .null, .null, .int 0, .null, .null, .null, .null, .null, .int 0, .null, .null, .null, .null, .null, .null, .null, .null, .null, .null, .null, .int 0, .int 0, .int 0, .int 0, .int 0, .null, .null, .null, .null, .null, .null, .null, .null, .int 0, .null, .null, .null, .null, .int 0, .null, .null, .null, .int 0, .int 0, .int 0, .int 0, .int 0, .null, .null, .null, .null, .int 0, .int 0, .null, .int 0])), (qq1, .inl (g 2, 21, .inr (.inl (vp_updL (vp_updL (vp_updL (vp_updL (vp_updL (vp_updL (fun _ => 0) 0 427595) 1 99724) 2 18935) 3 474565) 4 609900110) 5 294))))] H := hP
  have hD : va_D A [(h, .inr (10, [.null, .null, .int 0, .int 0, .int 0, .int 0, .int 0, .int 0, .int 0, .int 0, .int 0, .null, .null, .null, .null, .null, .null, .null, .null, .null, .null, .null, .null, .null, .int 0, .int 0, .int 0, .int 0, .int 0, .int 0, .null, .null, .null, .int 0, .null, .null, .int 0, .int 0, .int 0, .null, .null, .null, .null, .int 0, .null, .null, .null, .null, .null, .int 0, .null, .null, .null, .null, .null, .null, .null, .null, .null, .null, .null, .int 0, .int 0, .int 0, .int 0, .int 0, .null, .null, .null, .null, .null, .null, .null, .null, .int 0, .null, .null, .null, .null, .int 0, .null, .null, .null, .int 0, .int 0, .int 0, .int 0, .int 0, .null, .null, .null, .null, .int 0, .int 0, .null, .int 0])), (qq1, .inl (g 2, 21, .inr (.inl (vp_updL (vp_updL (vp_updL (vp_updL (vp_updL (vp_updL (fun _ => 0) 0 427595) 1 99724) 2 18935) 3 474565) 4 609900110) 5 294))))] := hD
  refine lv_dup hx hb dX10_init_45 rfl ?_
  refine lv_bipush (v := 6) hx hb dX10_init_46 (by decide) ?_
  refine lv_ldc2 hx hb hown (hts _ q177) dX10_init_48 ?_
  refine va_last hx hb hK hP hD hS 1 2 rfl rfl (vp_in_c (by decide)) dX10_init_51 (fun H locs hP hD hS => ?_)
  have hP : va_P D vwCl [(h, .inr (10, [.null, .null, .int 0, .int 0, .int 0, .int 0, .int 0, .int 0, .int 0, .int 0, .int 0, .null, .null, .null, .null, .null, .null, .null, .null, .null, .null, .null, .null, .null, .int 0, .int 0, .int 0, .int 0, .int 0, .int 0, .null, .null, .null, .int 0, .null, .null, .int 0, .int 0, .int 0, .null, .null, .null, .null, .int 0, .null, .null, .null, .null, .null, .int 0, .null, .null, .null, .null, .null, .null, .null, .null, .null, .null, .null, .int 0, .int 0, .int 0, .int 0, .int 0, .null, .null, .null, .null, .null, .null, .null, .null, .int 0, .null, .null, .null, .null, .int 0, .null, .null, .null, .int 0, .int 0, .int 0, .int 0, .int 0, .null, .null, .null, .null, .int 0, .int 0, .null, .int 0])), (qq1, .inl (g 2, 21, .inr (.inl (vp_updL (vp_updL (vp_updL (vp_updL (vp_updL (vp_updL (vp_updL (fun _ => 0) 0 427595) 1 99724) 2 18935) 3 474565) 4 609900110) 5 294) 6 176741))))] H := hP
  have hD : va_D A [(h, .inr (10, [.null, .null, .int 0, .int 0, .int 0, .int 0, .int 0, .int 0, .int 0, .int 0, .int 0, .null, .null, .null, .null, .null, .null, .null, .null, .null, .null, .null, .null, .null, .int 0, .int 0, .int 0, .int 0, .int 0, .int 0, .null, .null, .null, .int 0, .null, .null, .int 0, .int 0, .int 0, .null, .null, .null, .null, .int 0, .null, .null, .null, .null, .null, .int 0, .null, .null, .null, .null, .null, .null, .null, .null, .null, .null, .null, .int 0, .int 0, .int 0, .int 0, .int 0, .null, .null, .null, .null, .null, .null, .null, .null, .int 0, .null, .null, .null, .null, .int 0, .null, .null, .null, .int 0, .int 0, .int 0, .int 0, .int 0, .null, .null, .null, .null, .int 0, .int 0, .null, .int 0])), (qq1, .inl (g 2, 21, .inr (.inl (vp_updL (vp_updL (vp_updL (vp_updL (vp_updL (vp_updL (vp_updL (fun _ => 0) 0 427595) 1 99724) 2 18935) 3 474565) 4 609900110) 5 294) 6 176741))))] := hD
  refine lv_dup hx hb dX10_init_52 rfl ?_
  refine lv_bipush (v := 7) hx hb dX10_init_53 (by decide) ?_
  refine lv_ldc2 hx hb hown (hts _ q178) dX10_init_55 ?_
  refine va_last hx hb hK hP hD hS 1 2 rfl rfl (vp_in_c (by decide)) dX10_init_58 (fun H locs hP hD hS => ?_)
  have hP : va_P D vwCl [(h, .inr (10, [.null, .null, .int 0, .int 0, .int 0, .int 0, .int 0, .int 0, .int 0, .int 0, .int 0, .null, .null, .null, .null, .null, .null, .null, .null, .null, .null, .null, .null, .null, .int 0, .int 0, .int 0, .int 0, .int 0, .int 0, .null, .null, .null, .int 0, .null, .null, .int 0, .int 0, .int 0, .null, .null, .null, .null, .int 0, .null, .null, .null, .null, .null, .int 0, .null, .null, .null, .null, .null, .null, .null, .null, .null, .null, .null, .int 0, .int 0, .int 0, .int 0, .int 0, .null, .null, .null, .null, .null, .null, .null, .null, .int 0, .null, .null, .null, .null, .int 0, .null, .null, .null, .int 0, .int 0, .int 0, .int 0, .int 0, .null, .null, .null, .null, .int 0, .int 0, .null, .int 0])), (qq1, .inl (g 2, 21, .inr (.inl (vp_updL (vp_updL (vp_updL (vp_updL (vp_updL (vp_updL (vp_updL (vp_updL (fun _ => 0) 0 427595) 1 99724) 2 18935) 3 474565) 4 609900110) 5 294) 6 176741) 7 409072))))] H := hP
  have hD : va_D A [(h, .inr (10, [.null, .null, .int 0, .int 0, .int 0, .int 0, .int 0, .int 0, .int 0, .int 0, .int 0, .null, .null, .null, .null, .null, .null, .null, .null, .null, .null, .null, .null, .null, .int 0, .int 0, .int 0, .int 0, .int 0, .int 0, .null, .null, .null, .int 0, .null, .null, .int 0, .int 0, .int 0, .null, .null, .null, .null, .int 0, .null, .null, .null, .null, .null, .int 0, .null, .null, .null, .null, .null, .null, .null, .null, .null, .null, .null, .int 0, .int 0, .int 0, .int 0, .int 0, .null, .null, .null, .null, .null, .null, .null, .null, .int 0, .null, .null, .null, .null, .int 0, .null, .null, .null, .int 0, .int 0, .int 0, .int 0, .int 0, .null, .null, .null, .null, .int 0, .int 0, .null, .int 0])), (qq1, .inl (g 2, 21, .inr (.inl (vp_updL (vp_updL (vp_updL (vp_updL (vp_updL (vp_updL (vp_updL (vp_updL (fun _ => 0) 0 427595) 1 99724) 2 18935) 3 474565) 4 609900110) 5 294) 6 176741) 7 409072))))] := hD
  refine lv_dup hx hb dX10_init_59 rfl ?_
  refine lv_bipush (v := 8) hx hb dX10_init_60 (by decide) ?_
  refine lv_ldc2 hx hb hown (hts _ q179) dX10_init_62 ?_
  refine va_last hx hb hK hP hD hS 1 2 rfl rfl (vp_in_c (by decide)) dX10_init_65 (fun H locs hP hD hS => ?_)
  have hP : va_P D vwCl [(h, .inr (10, [.null, .null, .int 0, .int 0, .int 0, .int 0, .int 0, .int 0, .int 0, .int 0, .int 0, .null, .null, .null, .null, .null, .null, .null, .null, .null, .null, .null, .null, .null, .int 0, .int 0, .int 0, .int 0, .int 0, .int 0, .null, .null, .null, .int 0, .null, .null, .int 0, .int 0, .int 0, .null, .null, .null, .null, .int 0, .null, .null, .null, .null, .null, .int 0, .null, .null, .null, .null, .null, .null, .null, .null, .null, .null, .null, .int 0, .int 0, .int 0, .int 0, .int 0, .null, .null, .null, .null, .null, .null, .null, .null, .int 0, .null, .null, .null, .null, .int 0, .null, .null, .null, .int 0, .int 0, .int 0, .int 0, .int 0, .null, .null, .null, .null, .int 0, .int 0, .null, .int 0])), (qq1, .inl (g 2, 21, .inr (.inl (vp_updL (vp_updL (vp_updL (vp_updL (vp_updL (vp_updL (vp_updL (vp_updL (vp_updL (fun _ => 0) 0 427595) 1 99724) 2 18935) 3 474565) 4 609900110) 5 294) 6 176741) 7 409072) 8 12748485))))] H := hP
  have hD : va_D A [(h, .inr (10, [.null, .null, .int 0, .int 0, .int 0, .int 0, .int 0, .int 0, .int 0, .int 0, .int 0, .null, .null, .null, .null, .null, .null, .null, .null, .null, .null, .null, .null, .null, .int 0, .int 0, .int 0, .int 0, .int 0, .int 0, .null, .null, .null, .int 0, .null, .null, .int 0, .int 0, .int 0, .null, .null, .null, .null, .int 0, .null, .null, .null, .null, .null, .int 0, .null, .null, .null, .null, .null, .null, .null, .null, .null, .null, .null, .int 0, .int 0, .int 0, .int 0, .int 0, .null, .null, .null, .null, .null, .null, .null, .null, .int 0, .null, .null, .null, .null, .int 0, .null, .null, .null, .int 0, .int 0, .int 0, .int 0, .int 0, .null, .null, .null, .null, .int 0, .int 0, .null, .int 0])), (qq1, .inl (g 2, 21, .inr (.inl (vp_updL (vp_updL (vp_updL (vp_updL (vp_updL (vp_updL (vp_updL (vp_updL (vp_updL (fun _ => 0) 0 427595) 1 99724) 2 18935) 3 474565) 4 609900110) 5 294) 6 176741) 7 409072) 8 12748485))))] := hD
  refine lv_dup hx hb dX10_init_66 rfl ?_
  refine lv_bipush (v := 9) hx hb dX10_init_67 (by decide) ?_
  refine lv_ldc2 hx hb hown (hts _ q180) dX10_init_69 ?_
  refine va_last hx hb hK hP hD hS 1 2 rfl rfl (vp_in_c (by decide)) dX10_init_72 (fun H locs hP hD hS => ?_)
  have hP : va_P D vwCl [(h, .inr (10, [.null, .null, .int 0, .int 0, .int 0, .int 0, .int 0, .int 0, .int 0, .int 0, .int 0, .null, .null, .null, .null, .null, .null, .null, .null, .null, .null, .null, .null, .null, .int 0, .int 0, .int 0, .int 0, .int 0, .int 0, .null, .null, .null, .int 0, .null, .null, .int 0, .int 0, .int 0, .null, .null, .null, .null, .int 0, .null, .null, .null, .null, .null, .int 0, .null, .null, .null, .null, .null, .null, .null, .null, .null, .null, .null, .int 0, .int 0, .int 0, .int 0, .int 0, .null, .null, .null, .null, .null, .null, .null, .null, .int 0, .null, .null, .null, .null, .int 0, .null, .null, .null, .int 0, .int 0, .int 0, .int 0, .int 0, .null, .null, .null, .null, .int 0, .int 0, .null, .int 0])), (qq1, .inl (g 2, 21, .inr (.inl (vp_updL (vp_updL (vp_updL (vp_updL (vp_updL (vp_updL (vp_updL (vp_updL (vp_updL (vp_updL (fun _ => 0) 0 427595) 1 99724) 2 18935) 3 474565) 4 609900110) 5 294) 6 176741) 7 409072) 8 12748485) 9 464660))))] H := hP
  have hD : va_D A [(h, .inr (10, [.null, .null, .int 0, .int 0, .int 0, .int 0, .int 0, .int 0, .int 0, .int 0, .int 0, .null, .null, .null, .null, .null, .null, .null, .null, .null, .null, .null, .null, .null, .int 0, .int 0, .int 0, .int 0, .int 0, .int 0, .null, .null, .null, .int 0, .null, .null, .int 0, .int 0, .int 0, .null, .null, .null, .null, .int 0, .null, .null, .null, .null, .null, .int 0, .null, .null, .null, .null, .null, .null, .null, .null, .null, .null, .null, .int 0, .int 0, .int 0, .int 0, .int 0, .null, .null, .null, .null, .null, .null, .null, .null, .int 0, .null, .null, .null, .null, .int 0, .null, .null, .null, .int 0, .int 0, .int 0, .int 0, .int 0, .null, .null, .null, .null, .int 0, .int 0, .null, .int 0])), (qq1, .inl (g 2, 21, .inr (.inl (vp_updL (vp_updL (vp_updL (vp_updL (vp_updL (vp_updL (vp_updL (vp_updL (vp_updL (vp_updL (fun _ => 0) 0 427595) 1 99724) 2 18935) 3 474565) 4 609900110) 5 294) 6 176741) 7 409072) 8 12748485) 9 464660))))] := hD
  refine lv_dup hx hb dX10_init_73 rfl ?_
  refine lv_bipush (v := 10) hx hb dX10_init_74 (by decide) ?_
  refine lv_ldc2 hx hb hown (hts _ q181) dX10_init_76 ?_
  refine va_last hx hb hK hP hD hS 1 2 rfl rfl (vp_in_c (by decide)) dX10_init_79 (fun H locs hP hD hS => ?_)
  have hP : va_P D vwCl [(h, .inr (10, [.null, .null, .int 0, .int 0, .int 0, .int 0, .int 0, .int 0, .int 0, .int 0, .int 0, .null, .null, .null, .null, .null, .null, .null, .null, .null, .null, .null, .null, .null, .int 0, .int 0, .int 0, .int 0, .int 0, .int 0, .null, .null, .null, .int 0, .null, .null, .int 0, .int 0, .int 0, .null, .null, .null, .null, .int 0, .null, .null, .null, .null, .null, .int 0, .null, .null, .null, .null, .null, .null, .null, .null, .null, .null, .null, .int 0, .int 0, .int 0, .int 0, .int 0, .null, .null, .null, .null, .null, .null, .null, .null, .int 0, .null, .null, .null, .null, .int 0, .null, .null, .null, .int 0, .int 0, .int 0, .int 0, .int 0, .null, .null, .null, .null, .int 0, .int 0, .null, .int 0])), (qq1, .inl (g 2, 21, .inr (.inl (vp_updL (vp_updL (vp_updL (vp_updL (vp_updL (vp_updL (vp_updL (vp_updL (vp_updL (vp_updL (vp_updL (fun _ => 0) 0 427595) 1 99724) 2 18935) 3 474565) 4 609900110) 5 294) 6 176741) 7 409072) 8 12748485) 9 464660) 10 21252599))))] H := hP
  have hD : va_D A [(h, .inr (10, [.null, .null, .int 0, .int 0, .int 0, .int 0, .int 0, .int 0, .int 0, .int 0, .int 0, .null, .null, .null, .null, .null, .null, .null, .null, .null, .null, .null, .null, .null, .int 0, .int 0, .int 0, .int 0, .int 0, .int 0, .null, .null, .null, .int 0, .null, .null, .int 0, .int 0, .int 0, .null, .null, .null, .null, .int 0, .null, .null, .null, .null, .null, .int 0, .null, .null, .null, .null, .null, .null, .null, .null, .null, .null, .null, .int 0, .int 0, .int 0, .int 0, .int 0, .null, .null, .null, .null, .null, .null, .null, .null, .int 0, .null, .null, .null, .null, .int 0, .null, .null, .null, .int 0, .int 0, .int 0, .int 0, .int 0, .null, .null, .null, .null, .int 0, .int 0, .null, .int 0])), (qq1, .inl (g 2, 21, .inr (.inl (vp_updL (vp_updL (vp_updL (vp_updL (vp_updL (vp_updL (vp_updL (vp_updL (vp_updL (vp_updL (vp_updL (fun _ => 0) 0 427595) 1 99724) 2 18935) 3 474565) 4 609900110) 5 294) 6 176741) 7 409072) 8 12748485) 9 464660) 10 21252599))))] := hD
  refine lv_dup hx hb dX10_init_80 rfl ?_
  refine lv_bipush (v := 11) hx hb dX10_init_81 (by decide) ?_
  refine lv_ldc2 hx hb hown (hts _ q182) dX10_init_83 ?_
  refine va_last hx hb hK hP hD hS 1 2 rfl rfl (vp_in_c (by decide)) dX10_init_86 (fun H locs hP hD hS => ?_)
  have hP : va_P D vwCl [(h, .inr (10, [.null, .null, .int 0, .int 0, .int 0, .int 0, .int 0, .int 0, .int 0, .int 0, .int 0, .null, .null, .null, .null, .null, .null, .null, .null, .null, .null, .null, .null, .null, .int 0, .int 0, .int 0, .int 0, .int 0, .int 0, .null, .null, .null, .int 0, .null, .null, .int 0, .int 0, .int 0, .null, .null, .null, .null, .int 0, .null, .null, .null, .null, .null, .int 0, .null, .null, .null, .null, .null, .null, .null, .null, .null, .null, .null, .int 0, .int 0, .int 0, .int 0, .int 0, .null, .null, .null, .null, .null, .null, .null, .null, .int 0, .null, .null, .null, .null, .int 0, .null, .null, .null, .int 0, .int 0, .int 0, .int 0, .int 0, .null, .null, .null, .null, .int 0, .int 0, .null, .int 0])), (qq1, .inl (g 2, 21, .inr (.inl (vp_updL (vp_updL (vp_updL (vp_updL (vp_updL (vp_updL (vp_updL (vp_updL (vp_updL (vp_updL (vp_updL (vp_updL (fun _ => 0) 0 427595) 1 99724) 2 18935) 3 474565) 4 609900110) 5 294) 6 176741) 7 409072) 8 12748485) 9 464660) 10 21252599) 11 772144))))] H := hP
  have hD : va_D A [(h, .inr (10, [.null, .null, .int 0, .int 0, .int 0, .int 0, .int 0, .int 0, .int 0, .int 0, .int 0, .null, .null, .null, .null, .null, .null, .null, .null, .null, .null, .null, .null, .null, .int 0, .int 0, .int 0, .int 0, .int 0, .int 0, .null, .null, .null, .int 0, .null, .null, .int 0, .int 0, .int 0, .null, .null, .null, .null, .int 0, .null, .null, .null, .null, .null, .int 0, .null, .null, .null, .null, .null, .null, .null, .null, .null, .null, .null, .int 0, .int 0, .int 0, .int 0, .int 0, .null, .null, .null, .null, .null, .null, .null, .null, .int 0, .null, .null, .null, .null, .int 0, .null, .null, .null, .int 0, .int 0, .int 0, .int 0, .int 0, .null, .null, .null, .null, .int 0, .int 0, .null, .int 0])), (qq1, .inl (g 2, 21, .inr (.inl (vp_updL (vp_updL (vp_updL (vp_updL (vp_updL (vp_updL (vp_updL (vp_updL (vp_updL (vp_updL (vp_updL (vp_updL (fun _ => 0) 0 427595) 1 99724) 2 18935) 3 474565) 4 609900110) 5 294) 6 176741) 7 409072) 8 12748485) 9 464660) 10 21252599) 11 772144))))] := hD
  refine lv_dup hx hb dX10_init_87 rfl ?_
  refine lv_bipush (v := 12) hx hb dX10_init_88 (by decide) ?_
  refine lv_ldc2 hx hb hown (hts _ q183) dX10_init_90 ?_
  refine va_last hx hb hK hP hD hS 1 2 rfl rfl (vp_in_c (by decide)) dX10_init_93 (fun H locs hP hD hS => ?_)
  have hP : va_P D vwCl [(h, .inr (10, [.null, .null, .int 0, .int 0, .int 0, .int 0, .int 0, .int 0, .int 0, .int 0, .int 0, .null, .null, .null, .null, .null, .null, .null, .null, .null, .null, .null, .null, .null, .int 0, .int 0, .int 0, .int 0, .int 0, .int 0, .null, .null, .null, .int 0, .null, .null, .int 0, .int 0, .int 0, .null, .null, .null, .null, .int 0, .null, .null, .null, .null, .null, .int 0, .null, .null, .null, .null, .null, .null, .null, .null, .null, .null, .null, .int 0, .int 0, .int 0, .int 0, .int 0, .null, .null, .null, .null, .null, .null, .null, .null, .int 0, .null, .null, .null, .null, .int 0, .null, .null, .null, .int 0, .int 0, .int 0, .int 0, .int 0, .null, .null, .null, .null, .int 0, .int 0, .null, .int 0])), (qq1, .inl (g 2, 21, .inr (.inl (vp_updL (vp_updL (vp_updL (vp_updL (vp_updL (vp_updL (vp_updL (vp_updL (vp_updL (vp_updL (vp_updL (vp_updL (vp_updL (fun _ => 0) 0 427595) 1 99724) 2 18935) 3 474565) 4 609900110) 5 294) 6 176741) 7 409072) 8 12748485) 9 464660) 10 21252599) 11 772144) 12 1279278))))] H := hP
  have hD : va_D A [(h, .inr (10, [.null, .null, .int 0, .int 0, .int 0, .int 0, .int 0, .int 0, .int 0, .int 0, .int 0, .null, .null, .null, .null, .null, .null, .null, .null, .null, .null, .null, .null, .null, .int 0, .int 0, .int 0, .int 0, .int 0, .int 0, .null, .null, .null, .int 0, .null, .null, .int 0, .int 0, .int 0, .null, .null, .null, .null, .int 0, .null, .null, .null, .null, .null, .int 0, .null, .null, .null, .null, .null, .null, .null, .null, .null, .null, .null, .int 0, .int 0, .int 0, .int 0, .int 0, .null, .null, .null, .null, .null, .null, .null, .null, .int 0, .null, .null, .null, .null, .int 0, .null, .null, .null, .int 0, .int 0, .int 0, .int 0, .int 0, .null, .null, .null, .null, .int 0, .int 0, .null, .int 0])), (qq1, .inl (g 2, 21, .inr (.inl (vp_updL (vp_updL (vp_updL (vp_updL (vp_updL (vp_updL (vp_updL (vp_updL (vp_updL (vp_updL (vp_updL (vp_updL (vp_updL (fun _ => 0) 0 427595) 1 99724) 2 18935) 3 474565) 4 609900110) 5 294) 6 176741) 7 409072) 8 12748485) 9 464660) 10 21252599) 11 772144) 12 1279278))))] := hD
  refine lv_dup hx hb dX10_init_94 rfl ?_
  refine lv_bipush (v := 13) hx hb dX10_init_95 (by decide) ?_
  refine lv_ldc2 hx hb hown (hts _ q184) dX10_init_97 ?_
  refine va_last hx hb hK hP hD hS 1 2 rfl rfl (vp_in_c (by decide)) dX10_init_100 (fun H locs hP hD hS => ?_)
  have hP : va_P D vwCl [(h, .inr (10, [.null, .null, .int 0, .int 0, .int 0, .int 0, .int 0, .int 0, .int 0, .int 0, .int 0, .null, .null, .null, .null, .null, .null, .null, .null, .null, .null, .null, .null, .null, .int 0, .int 0, .int 0, .int 0, .int 0, .int 0, .null, .null, .null, .int 0, .null, .null, .int 0, .int 0, .int 0, .null, .null, .null, .null, .int 0, .null, .null, .null, .null, .null, .int 0, .null, .null, .null, .null, .null, .null, .null, .null, .null, .null, .null, .int 0, .int 0, .int 0, .int 0, .int 0, .null, .null, .null, .null, .null, .null, .null, .null, .int 0, .null, .null, .null, .null, .int 0, .null, .null, .null, .int 0, .int 0, .int 0, .int 0, .int 0, .null, .null, .null, .null, .int 0, .int 0, .null, .int 0])), (qq1, .inl (g 2, 21, .inr (.inl (vp_updL (vp_updL (vp_updL (vp_updL (vp_updL (vp_updL (vp_updL (vp_updL (vp_updL (vp_updL (vp_updL (vp_updL (vp_updL (vp_updL (fun _ => 0) 0 427595) 1 99724) 2 18935) 3 474565) 4 609900110) 5 294) 6 176741) 7 409072) 8 12748485) 9 464660) 10 21252599) 11 772144) 12 1279278) 13 8029764))))] H := hP
  have hD : va_D A [(h, .inr (10, [.null, .null, .int 0, .int 0, .int 0, .int 0, .int 0, .int 0, .int 0, .int 0, .int 0, .null, .null, .null, .null, .null, .null, .null, .null, .null, .null, .null, .null, .null, .int 0, .int 0, .int 0, .int 0, .int 0, .int 0, .null, .null, .null, .int 0, .null, .null, .int 0, .int 0, .int 0, .null, .null, .null, .null, .int 0, .null, .null, .null, .null, .null, .int 0, .null, .null, .null, .null, .null, .null, .null, .null, .null, .null, .null, .int 0, .int 0, .int 0, .int 0, .int 0, .null, .null, .null, .null, .null, .null, .null, .null, .int 0, .null, .null, .null, .null, .int 0, .null, .null, .null, .int 0, .int 0, .int 0, .int 0, .int 0, .null, .null, .null, .null, .int 0, .int 0, .null, .int 0])), (qq1, .inl (g 2, 21, .inr (.inl (vp_updL (vp_updL (vp_updL (vp_updL (vp_updL (vp_updL (vp_updL (vp_updL (vp_updL (vp_updL (vp_updL (vp_updL (vp_updL (vp_updL (fun _ => 0) 0 427595) 1 99724) 2 18935) 3 474565) 4 609900110) 5 294) 6 176741) 7 409072) 8 12748485) 9 464660) 10 21252599) 11 772144) 12 1279278) 13 8029764))))] := hD
  refine lv_dup hx hb dX10_init_101 rfl ?_
  refine lv_bipush (v := 14) hx hb dX10_init_102 (by decide) ?_
  refine lv_ldc2 hx hb hown (hts _ q185) dX10_init_104 ?_
  refine va_last hx hb hK hP hD hS 1 2 rfl rfl (vp_in_c (by decide)) dX10_init_107 (fun H locs hP hD hS => ?_)
  have hP : va_P D vwCl [(h, .inr (10, [.null, .null, .int 0, .int 0, .int 0, .int 0, .int 0, .int 0, .int 0, .int 0, .int 0, .null, .null, .null, .null, .null, .null, .null, .null, .null, .null, .null, .null, .null, .int 0, .int 0, .int 0, .int 0, .int 0, .int 0, .null, .null, .null, .int 0, .null, .null, .int 0, .int 0, .int 0, .null, .null, .null, .null, .int 0, .null, .null, .null, .null, .null, .int 0, .null, .null, .null, .null, .null, .null, .null, .null, .null, .null, .null, .int 0, .int 0, .int 0, .int 0, .int 0, .null, .null, .null, .null, .null, .null, .null, .null, .int 0, .null, .null, .null, .null, .int 0, .null, .null, .null, .int 0, .int 0, .int 0, .int 0, .int 0, .null, .null, .null, .null, .int 0, .int 0, .null, .int 0])), (qq1, .inl (g 2, 21, .inr (.inl (vp_updL (vp_updL (vp_updL (vp_updL (vp_updL (vp_updL (vp_updL (vp_updL (vp_updL (vp_updL (vp_updL (vp_updL (vp_updL (vp_updL (vp_updL (fun _ => 0) 0 427595) 1 99724) 2 18935) 3 474565) 4 609900110) 5 294) 6 176741) 7 409072) 8 12748485) 9 464660) 10 21252599) 11 772144) 12 1279278) 13 8029764) 14 763528))))] H := hP
  have hD : va_D A [(h, .inr (10, [.null, .null, .int 0, .int 0, .int 0, .int 0, .int 0, .int 0, .int 0, .int 0, .int 0, .null, .null, .null, .null, .null, .null, .null, .null, .null, .null, .null, .null, .null, .int 0, .int 0, .int 0, .int 0, .int 0, .int 0, .null, .null, .null, .int 0, .null, .null, .int 0, .int 0, .int 0, .null, .null, .null, .null, .int 0, .null, .null, .null, .null, .null, .int 0, .null, .null, .null, .null, .null, .null, .null, .null, .null, .null, .null, .int 0, .int 0, .int 0, .int 0, .int 0, .null, .null, .null, .null, .null, .null, .null, .null, .int 0, .null, .null, .null, .null, .int 0, .null, .null, .null, .int 0, .int 0, .int 0, .int 0, .int 0, .null, .null, .null, .null, .int 0, .int 0, .null, .int 0])), (qq1, .inl (g 2, 21, .inr (.inl (vp_updL (vp_updL (vp_updL (vp_updL (vp_updL (vp_updL (vp_updL (vp_updL (vp_updL (vp_updL (vp_updL (vp_updL (vp_updL (vp_updL (vp_updL (fun _ => 0) 0 427595) 1 99724) 2 18935) 3 474565) 4 609900110) 5 294) 6 176741) 7 409072) 8 12748485) 9 464660) 10 21252599) 11 772144) 12 1279278) 13 8029764) 14 763528))))] := hD
  refine lv_dup hx hb dX10_init_108 rfl ?_
  refine lv_bipush (v := 15) hx hb dX10_init_109 (by decide) ?_
  refine lv_ldc2 hx hb hown (hts _ q186) dX10_init_111 ?_
  refine va_last hx hb hK hP hD hS 1 2 rfl rfl (vp_in_c (by decide)) dX10_init_114 (fun H locs hP hD hS => ?_)
  have hP : va_P D vwCl [(h, .inr (10, [.null, .null, .int 0, .int 0, .int 0, .int 0, .int 0, .int 0, .int 0, .int 0, .int 0, .null, .null, .null, .null, .null, .null, .null, .null, .null, .null, .null, .null, .null, .int 0, .int 0, .int 0, .int 0, .int 0, .int 0, .null, .null, .null, .int 0, .null, .null, .int 0, .int 0, .int 0, .null, .null, .null, .null, .int 0, .null, .null, .null, .null, .null, .int 0, .null, .null, .null, .null, .null, .null, .null, .null, .null, .null, .null, .int 0, .int 0, .int 0, .int 0, .int 0, .null, .null, .null, .null, .null, .null, .null, .null, .int 0, .null, .null, .null, .null, .int 0, .null, .null, .null, .int 0, .int 0, .int 0, .int 0, .int 0, .null, .null, .null, .null, .int 0, .int 0, .null, .int 0])), (qq1, .inl (g 2, 21, .inr (.inl (vp_updL (vp_updL (vp_updL (vp_updL (vp_updL (vp_updL (vp_updL (vp_updL (vp_updL (vp_updL (vp_updL (vp_updL (vp_updL (vp_updL (vp_updL (vp_updL (fun _ => 0) 0 427595) 1 99724) 2 18935) 3 474565) 4 609900110) 5 294) 6 176741) 7 409072) 8 12748485) 9 464660) 10 21252599) 11 772144) 12 1279278) 13 8029764) 14 763528) 15 3199080))))] H := hP
  have hD : va_D A [(h, .inr (10, [.null, .null, .int 0, .int 0, .int 0, .int 0, .int 0, .int 0, .int 0, .int 0, .int 0, .null, .null, .null, .null, .null, .null, .null, .null, .null, .null, .null, .null, .null, .int 0, .int 0, .int 0, .int 0, .int 0, .int 0, .null, .null, .null, .int 0, .null, .null, .int 0, .int 0, .int 0, .null, .null, .null, .null, .int 0, .null, .null, .null, .null, .null, .int 0, .null, .null, .null, .null, .null, .null, .null, .null, .null, .null, .null, .int 0, .int 0, .int 0, .int 0, .int 0, .null, .null, .null, .null, .null, .null, .null, .null, .int 0, .null, .null, .null, .null, .int 0, .null, .null, .null, .int 0, .int 0, .int 0, .int 0, .int 0, .null, .null, .null, .null, .int 0, .int 0, .null, .int 0])), (qq1, .inl (g 2, 21, .inr (.inl (vp_updL (vp_updL (vp_updL (vp_updL (vp_updL (vp_updL (vp_updL (vp_updL (vp_updL (vp_updL (vp_updL (vp_updL (vp_updL (vp_updL (vp_updL (vp_updL (fun _ => 0) 0 427595) 1 99724) 2 18935) 3 474565) 4 609900110) 5 294) 6 176741) 7 409072) 8 12748485) 9 464660) 10 21252599) 11 772144) 12 1279278) 13 8029764) 14 763528) 15 3199080))))] := hD
  refine lv_dup hx hb dX10_init_115 rfl ?_
  refine lv_bipush (v := 16) hx hb dX10_init_116 (by decide) ?_
  refine lv_ldc2 hx hb hown (hts _ q187) dX10_init_118 ?_
  refine va_last hx hb hK hP hD hS 1 2 rfl rfl (vp_in_c (by decide)) dX10_init_121 (fun H locs hP hD hS => ?_)
  have hP : va_P D vwCl [(h, .inr (10, [.null, .null, .int 0, .int 0, .int 0, .int 0, .int 0, .int 0, .int 0, .int 0, .int 0, .null, .null, .null, .null, .null, .null, .null, .null, .null, .null, .null, .null, .null, .int 0, .int 0, .int 0, .int 0, .int 0, .int 0, .null, .null, .null, .int 0, .null, .null, .int 0, .int 0, .int 0, .null, .null, .null, .null, .int 0, .null, .null, .null, .null, .null, .int 0, .null, .null, .null, .null, .null, .null, .null, .null, .null, .null, .null, .int 0, .int 0, .int 0, .int 0, .int 0, .null, .null, .null, .null, .null, .null, .null, .null, .int 0, .null, .null, .null, .null, .int 0, .null, .null, .null, .int 0, .int 0, .int 0, .int 0, .int 0, .null, .null, .null, .null, .int 0, .int 0, .null, .int 0])), (qq1, .inl (g 2, 21, .inr (.inl (vp_updL (vp_updL (vp_updL (vp_updL (vp_updL (vp_updL (vp_updL (vp_updL (vp_updL (vp_updL (vp_updL (vp_updL (vp_updL (vp_updL (vp_updL (vp_updL (vp_updL (fun _ => 0) 0 427595) 1 99724) 2 18935) 3 474565) 4 609900110) 5 294) 6 176741) 7 409072) 8 12748485) 9 464660) 10 21252599) 11 772144) 12 1279278) 13 8029764) 14 763528) 15 3199080) 16 6759166361))))] H := hP
  have hD : va_D A [(h, .inr (10, [.null, .null, .int 0, .int 0, .int 0, .int 0, .int 0, .int 0, .int 0, .int 0, .int 0, .null, .null, .null, .null, .null, .null, .null, .null, .null, .null, .null, .null, .null, .int 0, .int 0, .int 0, .int 0, .int 0, .int 0, .null, .null, .null, .int 0, .null, .null, .int 0, .int 0, .int 0, .null, .null, .null, .null, .int 0, .null, .null, .null, .null, .null, .int 0, .null, .null, .null, .null, .null, .null, .null, .null, .null, .null, .null, .int 0, .int 0, .int 0, .int 0, .int 0, .null, .null, .null, .null, .null, .null, .null, .null, .int 0, .null, .null, .null, .null, .int 0, .null, .null, .null, .int 0, .int 0, .int 0, .int 0, .int 0, .null, .null, .null, .null, .int 0, .int 0, .null, .int 0])), (qq1, .inl (g 2, 21, .inr (.inl (vp_updL (vp_updL (vp_updL (vp_updL (vp_updL (vp_updL (vp_updL (vp_updL (vp_updL (vp_updL (vp_updL (vp_updL (vp_updL (vp_updL (vp_updL (vp_updL (vp_updL (fun _ => 0) 0 427595) 1 99724) 2 18935) 3 474565) 4 609900110) 5 294) 6 176741) 7 409072) 8 12748485) 9 464660) 10 21252599) 11 772144) 12 1279278) 13 8029764) 14 763528) 15 3199080) 16 6759166361))))] := hD
  refine lv_dup hx hb dX10_init_122 rfl ?_
  refine lv_bipush (v := 17) hx hb dX10_init_123 (by decide) ?_
  refine lv_ldc2 hx hb hown (hts _ q188) dX10_init_125 ?_
  refine va_last hx hb hK hP hD hS 1 2 rfl rfl (vp_in_c (by decide)) dX10_init_128 (fun H locs hP hD hS => ?_)
  have hP : va_P D vwCl [(h, .inr (10, [.null, .null, .int 0, .int 0, .int 0, .int 0, .int 0, .int 0, .int 0, .int 0, .int 0, .null, .null, .null, .null, .null, .null, .null, .null, .null, .null, .null, .null, .null, .int 0, .int 0, .int 0, .int 0, .int 0, .int 0, .null, .null, .null, .int 0, .null, .null, .int 0, .int 0, .int 0, .null, .null, .null, .null, .int 0, .null, .null, .null, .null, .null, .int 0, .null, .null, .null, .null, .null, .null, .null, .null, .null, .null, .null, .int 0, .int 0, .int 0, .int 0, .int 0, .null, .null, .null, .null, .null, .null, .null, .null, .int 0, .null, .null, .null, .null, .int 0, .null, .null, .null, .int 0, .int 0, .int 0, .int 0, .int 0, .null, .null, .null, .null, .int 0, .int 0, .null, .int 0])), (qq1, .inl (g 2, 21, .inr (.inl (vp_updL (vp_updL (vp_updL (vp_updL (vp_updL (vp_updL (vp_updL (vp_updL (vp_updL (vp_updL (vp_updL (vp_updL (vp_updL (vp_updL (vp_updL (vp_updL (vp_updL (vp_updL (fun _ => 0) 0 427595) 1 99724) 2 18935) 3 474565) 4 609900110) 5 294) 6 176741) 7 409072) 8 12748485) 9 464660) 10 21252599) 11 772144) 12 1279278) 13 8029764) 14 763528) 15 3199080) 16 6759166361) 17 632645))))] H := hP
  have hD : va_D A [(h, .inr (10, [.null, .null, .int 0, .int 0, .int 0, .int 0, .int 0, .int 0, .int 0, .int 0, .int 0, .null, .null, .null, .null, .null, .null, .null, .null, .null, .null, .null, .null, .null, .int 0, .int 0, .int 0, .int 0, .int 0, .int 0, .null, .null, .null, .int 0, .null, .null, .int 0, .int 0, .int 0, .null, .null, .null, .null, .int 0, .null, .null, .null, .null, .null, .int 0, .null, .null, .null, .null, .null, .null, .null, .null, .null, .null, .null, .int 0, .int 0, .int 0, .int 0, .int 0, .null, .null, .null, .null, .null, .null, .null, .null, .int 0, .null, .null, .null, .null, .int 0, .null, .null, .null, .int 0, .int 0, .int 0, .int 0, .int 0, .null, .null, .null, .null, .int 0, .int 0, .null, .int 0])), (qq1, .inl (g 2, 21, .inr (.inl (vp_updL (vp_updL (vp_updL (vp_updL (vp_updL (vp_updL (vp_updL (vp_updL (vp_updL (vp_updL (vp_updL (vp_updL (vp_updL (vp_updL (vp_updL (vp_updL (vp_updL (vp_updL (fun _ => 0) 0 427595) 1 99724) 2 18935) 3 474565) 4 609900110) 5 294) 6 176741) 7 409072) 8 12748485) 9 464660) 10 21252599) 11 772144) 12 1279278) 13 8029764) 14 763528) 15 3199080) 16 6759166361) 17 632645))))] := hD
  refine lv_dup hx hb dX10_init_129 rfl ?_
  refine lv_bipush (v := 18) hx hb dX10_init_130 (by decide) ?_
  refine lv_ldc2 hx hb hown (hts _ q189) dX10_init_132 ?_
  refine va_last hx hb hK hP hD hS 1 2 rfl rfl (vp_in_c (by decide)) dX10_init_135 (fun H locs hP hD hS => ?_)
  have hP : va_P D vwCl [(h, .inr (10, [.null, .null, .int 0, .int 0, .int 0, .int 0, .int 0, .int 0, .int 0, .int 0, .int 0, .null, .null, .null, .null, .null, .null, .null, .null, .null, .null, .null, .null, .null, .int 0, .int 0, .int 0, .int 0, .int 0, .int 0, .null, .null, .null, .int 0, .null, .null, .int 0, .int 0, .int 0, .null, .null, .null, .null, .int 0, .null, .null, .null, .null, .null, .int 0, .null, .null, .null, .null, .null, .null, .null, .null, .null, .null, .null, .int 0, .int 0, .int 0, .int 0, .int 0, .null, .null, .null, .null, .null, .null, .null, .null, .int 0, .null, .null, .null, .null, .int 0, .null, .null, .null, .int 0, .int 0, .int 0, .int 0, .int 0, .null, .null, .null, .null, .int 0, .int 0, .null, .int 0])), (qq1, .inl (g 2, 21, .inr (.inl (vp_updL (vp_updL (vp_updL (vp_updL (vp_updL (vp_updL (vp_updL (vp_updL (vp_updL (vp_updL (vp_updL (vp_updL (vp_updL (vp_updL (vp_updL (vp_updL (vp_updL (vp_updL (vp_updL (fun _ => 0) 0 427595) 1 99724) 2 18935) 3 474565) 4 609900110) 5 294) 6 176741) 7 409072) 8 12748485) 9 464660) 10 21252599) 11 772144) 12 1279278) 13 8029764) 14 763528) 15 3199080) 16 6759166361) 17 632645) 18 370116))))] H := hP
  have hD : va_D A [(h, .inr (10, [.null, .null, .int 0, .int 0, .int 0, .int 0, .int 0, .int 0, .int 0, .int 0, .int 0, .null, .null, .null, .null, .null, .null, .null, .null, .null, .null, .null, .null, .null, .int 0, .int 0, .int 0, .int 0, .int 0, .int 0, .null, .null, .null, .int 0, .null, .null, .int 0, .int 0, .int 0, .null, .null, .null, .null, .int 0, .null, .null, .null, .null, .null, .int 0, .null, .null, .null, .null, .null, .null, .null, .null, .null, .null, .null, .int 0, .int 0, .int 0, .int 0, .int 0, .null, .null, .null, .null, .null, .null, .null, .null, .int 0, .null, .null, .null, .null, .int 0, .null, .null, .null, .int 0, .int 0, .int 0, .int 0, .int 0, .null, .null, .null, .null, .int 0, .int 0, .null, .int 0])), (qq1, .inl (g 2, 21, .inr (.inl (vp_updL (vp_updL (vp_updL (vp_updL (vp_updL (vp_updL (vp_updL (vp_updL (vp_updL (vp_updL (vp_updL (vp_updL (vp_updL (vp_updL (vp_updL (vp_updL (vp_updL (vp_updL (vp_updL (fun _ => 0) 0 427595) 1 99724) 2 18935) 3 474565) 4 609900110) 5 294) 6 176741) 7 409072) 8 12748485) 9 464660) 10 21252599) 11 772144) 12 1279278) 13 8029764) 14 763528) 15 3199080) 16 6759166361) 17 632645) 18 370116))))] := hD
  refine lv_dup hx hb dX10_init_136 rfl ?_
  refine lv_bipush (v := 19) hx hb dX10_init_137 (by decide) ?_
  refine lv_ldc2 hx hb hown (hts _ q190) dX10_init_139 ?_
  refine va_last hx hb hK hP hD hS 1 2 rfl rfl (vp_in_c (by decide)) dX10_init_142 (fun H locs hP hD hS => ?_)
  have hP : va_P D vwCl [(h, .inr (10, [.null, .null, .int 0, .int 0, .int 0, .int 0, .int 0, .int 0, .int 0, .int 0, .int 0, .null, .null, .null, .null, .null, .null, .null, .null, .null, .null, .null, .null, .null, .int 0, .int 0, .int 0, .int 0, .int 0, .int 0, .null, .null, .null, .int 0, .null, .null, .int 0, .int 0, .int 0, .null, .null, .null, .null, .int 0, .null, .null, .null, .null, .null, .int 0, .null, .null, .null, .null, .null, .null, .null, .null, .null, .null, .null, .int 0, .int 0, .int 0, .int 0, .int 0, .null, .null, .null, .null, .null, .null, .null, .null, .int 0, .null, .null, .null, .null, .int 0, .null, .null, .null, .int 0, .int 0, .int 0, .int 0, .int 0, .null, .null, .null, .null, .int 0, .int 0, .null, .int 0])), (qq1, .inl (g 2, 21, .inr (.inl (vp_updL (vp_updL (vp_updL (vp_updL (vp_updL (vp_updL (vp_updL (vp_updL (vp_updL (vp_updL (vp_updL (vp_updL (vp_updL (vp_updL (vp_updL (vp_updL (vp_updL (vp_updL (vp_updL (vp_updL (fun _ => 0) 0 427595) 1 99724) 2 18935) 3 474565) 4 609900110) 5 294) 6 176741) 7 409072) 8 12748485) 9 464660) 10 21252599) 11 772144) 12 1279278) 13 8029764) 14 763528) 15 3199080) 16 6759166361) 17 632645) 18 370116) 19 22483122))))] H := hP
  have hD : va_D A [(h, .inr (10, [.null, .null, .int 0, .int 0, .int 0, .int 0, .int 0, .int 0, .int 0, .int 0, .int 0, .null, .null, .null, .null, .null, .null, .null, .null, .null, .null, .null, .null, .null, .int 0, .int 0, .int 0, .int 0, .int 0, .int 0, .null, .null, .null, .int 0, .null, .null, .int 0, .int 0, .int 0, .null, .null, .null, .null, .int 0, .null, .null, .null, .null, .null, .int 0, .null, .null, .null, .null, .null, .null, .null, .null, .null, .null, .null, .int 0, .int 0, .int 0, .int 0, .int 0, .null, .null, .null, .null, .null, .null, .null, .null, .int 0, .null, .null, .null, .null, .int 0, .null, .null, .null, .int 0, .int 0, .int 0, .int 0, .int 0, .null, .null, .null, .null, .int 0, .int 0, .null, .int 0])), (qq1, .inl (g 2, 21, .inr (.inl (vp_updL (vp_updL (vp_updL (vp_updL (vp_updL (vp_updL (vp_updL (vp_updL (vp_updL (vp_updL (vp_updL (vp_updL (vp_updL (vp_updL (vp_updL (vp_updL (vp_updL (vp_updL (vp_updL (vp_updL (fun _ => 0) 0 427595) 1 99724) 2 18935) 3 474565) 4 609900110) 5 294) 6 176741) 7 409072) 8 12748485) 9 464660) 10 21252599) 11 772144) 12 1279278) 13 8029764) 14 763528) 15 3199080) 16 6759166361) 17 632645) 18 370116) 19 22483122))))] := hD
  refine lv_dup hx hb dX10_init_143 rfl ?_
  refine lv_bipush (v := 20) hx hb dX10_init_144 (by decide) ?_
  refine lv_ldc2 hx hb hown (hts _ q191) dX10_init_146 ?_
  refine va_last hx hb hK hP hD hS 1 2 rfl rfl (vp_in_c (by decide)) dX10_init_149 (fun H locs hP hD hS => ?_)
  have hP : va_P D vwCl [(h, .inr (10, [.null, .null, .int 0, .int 0, .int 0, .int 0, .int 0, .int 0, .int 0, .int 0, .int 0, .null, .null, .null, .null, .null, .null, .null, .null, .null, .null, .null, .null, .null, .int 0, .int 0, .int 0, .int 0, .int 0, .int 0, .null, .null, .null, .int 0, .null, .null, .int 0, .int 0, .int 0, .null, .null, .null, .null, .int 0, .null, .null, .null, .null, .null, .int 0, .null, .null, .null, .null, .null, .null, .null, .null, .null, .null, .null, .int 0, .int 0, .int 0, .int 0, .int 0, .null, .null, .null, .null, .null, .null, .null, .null, .int 0, .null, .null, .null, .null, .int 0, .null, .null, .null, .int 0, .int 0, .int 0, .int 0, .int 0, .null, .null, .null, .null, .int 0, .int 0, .null, .int 0])), (qq1, .inl (g 2, 21, .inr (.inl (vp_updL (vp_updL (vp_updL (vp_updL (vp_updL (vp_updL (vp_updL (vp_updL (vp_updL (vp_updL (vp_updL (vp_updL (vp_updL (vp_updL (vp_updL (vp_updL (vp_updL (vp_updL (vp_updL (vp_updL (vp_updL (fun _ => 0) 0 427595) 1 99724) 2 18935) 3 474565) 4 609900110) 5 294) 6 176741) 7 409072) 8 12748485) 9 464660) 10 21252599) 11 772144) 12 1279278) 13 8029764) 14 763528) 15 3199080) 16 6759166361) 17 632645) 18 370116) 19 22483122) 20 442114532))))] H := hP
  have hD : va_D A [(h, .inr (10, [.null, .null, .int 0, .int 0, .int 0, .int 0, .int 0, .int 0, .int 0, .int 0, .int 0, .null, .null, .null, .null, .null, .null, .null, .null, .null, .null, .null, .null, .null, .int 0, .int 0, .int 0, .int 0, .int 0, .int 0, .null, .null, .null, .int 0, .null, .null, .int 0, .int 0, .int 0, .null, .null, .null, .null, .int 0, .null, .null, .null, .null, .null, .int 0, .null, .null, .null, .null, .null, .null, .null, .null, .null, .null, .null, .int 0, .int 0, .int 0, .int 0, .int 0, .null, .null, .null, .null, .null, .null, .null, .null, .int 0, .null, .null, .null, .null, .int 0, .null, .null, .null, .int 0, .int 0, .int 0, .int 0, .int 0, .null, .null, .null, .null, .int 0, .int 0, .null, .int 0])), (qq1, .inl (g 2, 21, .inr (.inl (vp_updL (vp_updL (vp_updL (vp_updL (vp_updL (vp_updL (vp_updL (vp_updL (vp_updL (vp_updL (vp_updL (vp_updL (vp_updL (vp_updL (vp_updL (vp_updL (vp_updL (vp_updL (vp_updL (vp_updL (vp_updL (fun _ => 0) 0 427595) 1 99724) 2 18935) 3 474565) 4 609900110) 5 294) 6 176741) 7 409072) 8 12748485) 9 464660) 10 21252599) 11 772144) 12 1279278) 13 8029764) 14 763528) 15 3199080) 16 6759166361) 17 632645) 18 370116) 19 22483122) 20 442114532))))] := hD
  refine va_putF (D := D) (ci := 10) (v := .ref qq1) (ty := .array .long) (C := RX10) (T := TX10) (N := 96) hx hb hts inlX10 tyX10 tyX10_ok nmX10 hown hK hP hD hS 0 rfl rfl 0 (by decide) (hts _ q192) (fun _ h => h) rfl hin rfl (by decide +kernel) rfl rfl (Nat.le_of_ble_eq_true rfl) dX10_init_150 (fun H locs hP hD hS => ?_)
  have hP : va_P D vwCl [(h, .inr (10, [.ref qq1, .null, .int 0, .int 0, .int 0, .int 0, .int 0, .int 0, .int 0, .int 0, .int 0, .null, .null, .null, .null, .null, .null, .null, .null, .null, .null, .null, .null, .null, .int 0, .int 0, .int 0, .int 0, .int 0, .int 0, .null, .null, .null, .int 0, .null, .null, .int 0, .int 0, .int 0, .null, .null, .null, .null, .int 0, .null, .null, .null, .null, .null, .int 0, .null, .null, .null, .null, .null, .null, .null, .null, .null, .null, .null, .int 0, .int 0, .int 0, .int 0, .int 0, .null, .null, .null, .null, .null, .null, .null, .null, .int 0, .null, .null, .null, .null, .int 0, .null, .null, .null, .int 0, .int 0, .int 0, .int 0, .int 0, .null, .null, .null, .null, .int 0, .int 0, .null, .int 0]))] H := vz_pickP hP [0] rfl
  have hD : va_D A [(h, .inr (10, [.ref qq1, .null, .int 0, .int 0, .int 0, .int 0, .int 0, .int 0, .int 0, .int 0, .int 0, .null, .null, .null, .null, .null, .null, .null, .null, .null, .null, .null, .null, .null, .int 0, .int 0, .int 0, .int 0, .int 0, .int 0, .null, .null, .null, .int 0, .null, .null, .int 0, .int 0, .int 0, .null, .null, .null, .null, .int 0, .null, .null, .null, .null, .null, .int 0, .null, .null, .null, .null, .null, .null, .null, .null, .null, .null, .null, .int 0, .int 0, .int 0, .int 0, .int 0, .null, .null, .null, .null, .null, .null, .null, .null, .int 0, .null, .null, .null, .null, .int 0, .null, .null, .null, .int 0, .int 0, .int 0, .int 0, .int 0, .null, .null, .null, .null, .int 0, .int 0, .null, .int 0]))] := hD.sub [0] (by decide) rfl
  refine lv_aload_n hx hb dX10_init_153 rfl (lv_at hl 0 rfl) ?_
  refine lv_sipush (v := 1000) hx hb dX10_init_154 (by decide) ?_
  refine vz_newa (t0 := 1) (atype := .byte) (ty := .byte) (a0 := (1000, .inl (fun _ => 0))) hx hb (hts _ q193) rfl rfl (fun _ _ h => h) hK hP hD hS hA (fun _ => rfl) (by decide) (by decide) (by decide) (Nat.le_of_ble_eq_true rfl) (Nat.le_of_ble_eq_true rfl) dX10_init_157 (fun qq2 H hP hD hS => ?_)
  refine W.cs (cells' := 2) (slots' := 1021) rfl rfl ?_
  refine va_putF (D := D) (ci := 10) (v := .ref qq2) (ty := .array .byte) (C := RX10) (T := TX10) (N := 96) hx hb hts inlX10 tyX10 tyX10_ok nmX10 hown hK hP hD hS 0 rfl rfl 1 (by decide) (hts _ q194) (fun _ h => h) rfl hin rfl (by decide +kernel) rfl rfl (Nat.le_of_ble_eq_true rfl) dX10_init_159 (fun H locs hP hD hS => ?_)
  have hP : va_P D vwCl [(h, .inr (10, [.ref qq1, .ref qq2, .int 0, .int 0, .int 0, .int 0, .int 0, .int 0, .int 0, .int 0, .int 0, .null, .null, .null, .null, .null, .null, .null, .null, .null, .null, .null, .null, .null, .int 0, .int 0, .int 0, .int 0, .int 0, .int 0, .null, .null, .null, .int 0, .null, .null, .int 0, .int 0, .int 0, .null, .null, .null, .null, .int 0, .null, .null, .null, .null, .null, .int 0, .null, .null, .null, .null, .null, .null, .null, .null, .null, .null, .null, .int 0, .int 0, .int 0, .int 0, .int 0, .null, .null, .null, .null, .null, .null, .null, .null, .int 0, .null, .null, .null, .null, .int 0, .null, .null, .null, .int 0, .int 0, .int 0, .int 0, .int 0, .null, .null, .null, .null, .int 0, .int 0, .null, .int 0])), (qq2, .inl (g 1, 1000, .inl (fun _ => 0)))] H := vz_pickP hP [0, 1] rfl
  have hD : va_D A [(h, .inr (10, [.ref qq1, .ref qq2, .int 0, .int 0, .int 0, .int 0, .int 0, .int 0, .int 0, .int 0, .int 0, .null, .null, .null, .null, .null, .null, .null, .null, .null, .null, .null, .null, .null, .int 0, .int 0, .int 0, .int 0, .int 0, .int 0, .null, .null, .null, .int 0, .null, .null, .int 0, .int 0, .int 0, .null, .null, .null, .null, .int 0, .null, .null, .null, .null, .null, .int 0, .null, .null, .null, .null, .null, .null, .null, .null, .null, .null, .null, .int 0, .int 0, .int 0, .int 0, .int 0, .null, .null, .null, .null, .null, .null, .null, .null, .int 0, .null, .null, .null, .null, .int 0, .null, .null, .null, .int 0, .int 0, .int 0, .int 0, .int 0, .null, .null, .null, .null, .int 0, .int 0, .null, .int 0])), (qq2, .inl (g 1, 1000, .inl (fun _ => 0)))] := hD.sub [0, 1] (by decide) rfl
  refine lv_aload_n hx hb dX10_init_162 rfl (lv_at hl 0 rfl) ?_
  refine lv_sipush (v := 2560) hx hb dX10_init_163 (by decide) ?_
  refine vz_newa (t0 := 0) (atype := .int) (ty := .int) (a0 := (2560, .inl (fun _ => 0))) hx hb (hts _ q70) rfl rfl (fun _ _ h => h) hK hP hD hS hA (fun _ => rfl) (by decide) (by decide) (by decide) (Nat.le_of_ble_eq_true rfl) (Nat.le_of_ble_eq_true rfl) dX10_init_166 (fun qq3 H hP hD hS => ?_)
  refine W.cs (cells' := 3) (slots' := 3581) rfl rfl ?_
  refine va_putF (D := D) (ci := 10) (v := .ref qq3) (ty := .array .int) (C := RX10) (T := TX10) (N := 96) hx hb hts inlX10 tyX10 tyX10_ok nmX10 hown hK hP hD hS 0 rfl rfl 11 (by decide) (hts _ q195) (fun _ h => h) rfl hin rfl (by decide +kernel) rfl rfl (Nat.le_of_ble_eq_true rfl) dX10_init_168 (fun H locs hP hD hS => ?_)
  have hP : va_P D vwCl [(h, .inr (10, [.ref qq1, .ref qq2, .int 0, .int 0, .int 0, .int 0, .int 0, .int 0, .int 0, .int 0, .int 0, .ref qq3, .null, .null, .null, .null, .null, .null, .null, .null, .null, .null, .null, .null, .int 0, .int 0, .int 0, .int 0, .int 0, .int 0, .null, .null, .null, .int 0, .null, .null, .int 0, .int 0, .int 0, .null, .null, .null, .null, .int 0, .null, .null, .null, .null, .null, .int 0, .null, .null, .null, .null, .null, .null, .null, .null, .null, .null, .null, .int 0, .int 0, .int 0, .int 0, .int 0, .null, .null, .null, .null, .null, .null, .null, .null, .int 0, .null, .null, .null, .null, .int 0, .null, .null, .null, .int 0, .int 0, .int 0, .int 0, .int 0, .null, .null, .null, .null, .int 0, .int 0, .null, .int 0])), (qq2, .inl (g 1, 1000, .inl (fun _ => 0)))] H := vz_pickP hP [0, 1] rfl
  have hD : va_D A [(h, .inr (10, [.ref qq1, .ref qq2, .int 0, .int 0, .int 0, .int 0, .int 0, .int 0, .int 0, .int 0, .int 0, .ref qq3, .null, .null, .null, .null, .null, .null, .null, .null, .null, .null, .null, .null, .int 0, .int 0, .int 0, .int 0, .int 0, .int 0, .null, .null, .null, .int 0, .null, .null, .int 0, .int 0, .int 0, .null, .null, .null, .null, .int 0, .null, .null, .null, .null, .null, .int 0, .null, .null, .null, .null, .null, .null, .null, .null, .null, .null, .null, .int 0, .int 0, .int 0, .int 0, .int 0, .null, .null, .null, .null, .null, .null, .null, .null, .int 0, .null, .null, .null, .null, .int 0, .null, .null, .null, .int 0, .int 0, .int 0, .int 0, .int 0, .null, .null, .null, .null, .int 0, .int 0, .null, .int 0])), (qq2, .inl (g 1, 1000, .inl (fun _ => 0)))] := hD.sub [0, 1] (by decide) rfl
  refine lv_aload_n hx hb dX10_init_171 rfl (lv_at hl 0 rfl) ?_
  refine lv_iconst (v := 2) hx hb dX10_init_172 (by decide) ?_
  refine vz_newa (t0 := 0) (atype := .int) (ty := .int) (a0 := (2, .inl (fun _ => 0))) hx hb (hts _ q70) rfl rfl (fun _ _ h => h) hK hP hD hS hA (fun _ => rfl) (by decide) (by decide) (by decide) (Nat.le_of_ble_eq_true rfl) (Nat.le_of_ble_eq_true rfl) dX10_init_173 (fun qq4 H hP hD hS => ?_)
  refine W.cs (cells' := 4) (slots' := 3583) rfl rfl ?_
  refine va_putF (D := D) (ci := 10) (v := .ref qq4) (ty := .array .int) (C := RX10) (T := TX10) (N := 96) hx hb hts inlX10 tyX10 tyX10_ok nmX10 hown hK hP hD hS 0 rfl rfl 12 (by decide) (hts _ q196) (fun _ h => h) rfl hin rfl (by decide +kernel) rfl rfl (Nat.le_of_ble_eq_true rfl) dX10_init_175 (fun H locs hP hD hS => ?_)
  have hP : va_P D vwCl [(h, .inr (10, [.ref qq1, .ref qq2, .int 0, .int 0, .int 0, .int 0, .int 0, .int 0, .int 0, .int 0, .int 0, .ref qq3, .ref qq4, .null, .null, .null, .null, .null, .null, .null, .null, .null, .null, .null, .int 0, .int 0, .int 0, .int 0, .int 0, .int 0, .null, .null, .null, .int 0, .null, .null, .int 0, .int 0, .int 0, .null, .null, .null, .null, .int 0, .null, .null, .null, .null, .null, .int 0, .null, .null, .null, .null, .null, .null, .null, .null, .null, .null, .null, .int 0, .int 0, .int 0, .int 0, .int 0, .null, .null, .null, .null, .null, .null, .null, .null, .int 0, .null, .null, .null, .null, .int 0, .null, .null, .null, .int 0, .int 0, .int 0, .int 0, .int 0, .null, .null, .null, .null, .int 0, .int 0, .null, .int 0])), (qq2, .inl (g 1, 1000, .inl (fun _ => 0))), tA g qq4 2 (fun _ => 0)] H := vz_pickP hP [0, 1, 2] rfl
  have hD : va_D A [(h, .inr (10, [.ref qq1, .ref qq2, .int 0, .int 0, .int 0, .int 0, .int 0, .int 0, .int 0, .int 0, .int 0, .ref qq3, .ref qq4, .null, .null, .null, .null, .null, .null, .null, .null, .null, .null, .null, .int 0, .int 0, .int 0, .int 0, .int 0, .int 0, .null, .null, .null, .int 0, .null, .null, .int 0, .int 0, .int 0, .null, .null, .null, .null, .int 0, .null, .null, .null, .null, .null, .int 0, .null, .null, .null, .null, .null, .null, .null, .null, .null, .null, .null, .int 0, .int 0, .int 0, .int 0, .int 0, .null, .null, .null, .null, .null, .null, .null, .null, .int 0, .null, .null, .null, .null, .int 0, .null, .null, .null, .int 0, .int 0, .int 0, .int 0, .int 0, .null, .null, .null, .null, .int 0, .int 0, .null, .int 0])), (qq2, .inl (g 1, 1000, .inl (fun _ => 0))), tA g qq4 2 (fun _ => 0)] := hD.sub [0, 1, 2] (by decide) rfl
  refine lv_aload_n hx hb dX10_init_178 rfl (lv_at hl 0 rfl) ?_
  refine lv_sipush (v := 2200) hx hb dX10_init_179 (by decide) ?_
  refine vz_newa (t0 := 0) (atype := .int) (ty := .int) (a0 := (2200, .inl (fun _ => 0))) hx hb (hts _ q70) rfl rfl (fun _ _ h => h) hK hP hD hS hA (fun _ => rfl) (by decide) (by decide) (by decide) (Nat.le_of_ble_eq_true rfl) (Nat.le_of_ble_eq_true rfl) dX10_init_182 (fun qq5 H hP hD hS => ?_)
  refine W.cs (cells' := 5) (slots' := 5783) rfl rfl ?_
  refine va_putF (D := D) (ci := 10) (v := .ref qq5) (ty := .array .int) (C := RX10) (T := TX10) (N := 96) hx hb hts inlX10 tyX10 tyX10_ok nmX10 hown hK hP hD hS 0 rfl rfl 13 (by decide) (hts _ q197) (fun _ h => h) rfl hin rfl (by decide +kernel) rfl rfl (Nat.le_of_ble_eq_true rfl) dX10_init_184 (fun H locs hP hD hS => ?_)
  have hP : va_P D vwCl [(h, .inr (10, [.ref qq1, .ref qq2, .int 0, .int 0, .int 0, .int 0, .int 0, .int 0, .int 0, .int 0, .int 0, .ref qq3, .ref qq4, .ref qq5, .null, .null, .null, .null, .null, .null, .null, .null, .null, .null, .int 0, .int 0, .int 0, .int 0, .int 0, .int 0, .null, .null, .null, .int 0, .null, .null, .int 0, .int 0, .int 0, .null, .null, .null, .null, .int 0, .null, .null, .null, .null, .null, .int 0, .null, .null, .null, .null, .null, .null, .null, .null, .null, .null, .null, .int 0, .int 0, .int 0, .int 0, .int 0, .null, .null, .null, .null, .null, .null, .null, .null, .int 0, .null, .null, .null, .null, .int 0, .null, .null, .null, .int 0, .int 0, .int 0, .int 0, .int 0, .null, .null, .null, .null, .int 0, .int 0, .null, .int 0])), (qq2, .inl (g 1, 1000, .inl (fun _ => 0))), tA g qq4 2 (fun _ => 0)] H := vz_pickP hP [0, 1, 2] rfl
  have hD : va_D A [(h, .inr (10, [.ref qq1, .ref qq2, .int 0, .int 0, .int 0, .int 0, .int 0, .int 0, .int 0, .int 0, .int 0, .ref qq3, .ref qq4, .ref qq5, .null, .null, .null, .null, .null, .null, .null, .null, .null, .null, .int 0, .int 0, .int 0, .int 0, .int 0, .int 0, .null, .null, .null, .int 0, .null, .null, .int 0, .int 0, .int 0, .null, .null, .null, .null, .int 0, .null, .null, .null, .null, .null, .int 0, .null, .null, .null, .null, .null, .null, .null, .null, .null, .null, .null, .int 0, .int 0, .int 0, .int 0, .int 0, .null, .null, .null, .null, .null, .null, .null, .null, .int 0, .null, .null, .null, .null, .int 0, .null, .null, .null, .int 0, .int 0, .int 0, .int 0, .int 0, .null, .null, .null, .null, .int 0, .int 0, .null, .int 0])), (qq2, .inl (g 1, 1000, .inl (fun _ => 0))), tA g qq4 2 (fun _ => 0)] := hD.sub [0, 1, 2] (by decide) rfl
  refine lv_aload_n hx hb dX10_init_187 rfl (lv_at hl 0 rfl) ?_
  refine lv_sipush (v := 2200) hx hb dX10_init_188 (by decide) ?_
  refine vz_newa (t0 := 0) (atype := .int) (ty := .int) (a0 := (2200, .inl (fun _ => 0))) hx hb (hts _ q70) rfl rfl (fun _ _ h => h) hK hP hD hS hA (fun _ => rfl) (by decide) (by decide) (by decide) (Nat.le_of_ble_eq_true rfl) (Nat.le_of_ble_eq_true rfl) dX10_init_191 (fun qq6 H hP hD hS => ?_)
  refine W.cs (cells' := 6) (slots' := 7983) rfl rfl ?_
  refine va_putF (D := D) (ci := 10) (v := .ref qq6) (ty := .array .int) (C := RX10) (T := TX10) (N := 96) hx hb hts inlX10 tyX10 tyX10_ok nmX10 hown hK hP hD hS 0 rfl rfl 14 (by decide) (hts _ q198) (fun _ h => h) rfl hin rfl (by decide +kernel) rfl rfl (Nat.le_of_ble_eq_true rfl) dX10_init_193 (fun H locs hP hD hS => ?_)
  have hP : va_P D vwCl [(h, .inr (10, [.ref qq1, .ref qq2, .int 0, .int 0, .int 0, .int 0, .int 0, .int 0, .int 0, .int 0, .int 0, .ref qq3, .ref qq4, .ref qq5, .ref qq6, .null, .null, .null, .null, .null, .null, .null, .null, .null, .int 0, .int 0, .int 0, .int 0, .int 0, .int 0, .null, .null, .null, .int 0, .null, .null, .int 0, .int 0, .int 0, .null, .null, .null, .null, .int 0, .null, .null, .null, .null, .null, .int 0, .null, .null, .null, .null, .null, .null, .null, .null, .null, .null, .null, .int 0, .int 0, .int 0, .int 0, .int 0, .null, .null, .null, .null, .null, .null, .null, .null, .int 0, .null, .null, .null, .null, .int 0, .null, .null, .null, .int 0, .int 0, .int 0, .int 0, .int 0, .null, .null, .null, .null, .int 0, .int 0, .null, .int 0])), (qq2, .inl (g 1, 1000, .inl (fun _ => 0))), tA g qq4 2 (fun _ => 0)] H := vz_pickP hP [0, 1, 2] rfl
  have hD : va_D A [(h, .inr (10, [.ref qq1, .ref qq2, .int 0, .int 0, .int 0, .int 0, .int 0, .int 0, .int 0, .int 0, .int 0, .ref qq3, .ref qq4, .ref qq5, .ref qq6, .null, .null, .null, .null, .null, .null, .null, .null, .null, .int 0, .int 0, .int 0, .int 0, .int 0, .int 0, .null, .null, .null, .int 0, .null, .null, .int 0, .int 0, .int 0, .null, .null, .null, .null, .int 0, .null, .null, .null, .null, .null, .int 0, .null, .null, .null, .null, .null, .null, .null, .null, .null, .null, .null, .int 0, .int 0, .int 0, .int 0, .int 0, .null, .null, .null, .null, .null, .null, .null, .null, .int 0, .null, .null, .null, .null, .int 0, .null, .null, .null, .int 0, .int 0, .int 0, .int 0, .int 0, .null, .null, .null, .null, .int 0, .int 0, .null, .int 0])), (qq2, .inl (g 1, 1000, .inl (fun _ => 0))), tA g qq4 2 (fun _ => 0)] := hD.sub [0, 1, 2] (by decide) rfl
  refine lv_aload_n hx hb dX10_init_196 rfl (lv_at hl 0 rfl) ?_
  refine lv_sipush (v := 800) hx hb dX10_init_197 (by decide) ?_
  refine vz_newa (t0 := 0) (atype := .int) (ty := .int) (a0 := (800, .inl (fun _ => 0))) hx hb (hts _ q70) rfl rfl (fun _ _ h => h) hK hP hD hS hA (fun _ => rfl) (by decide) (by decide) (by decide) (Nat.le_of_ble_eq_true rfl) (Nat.le_of_ble_eq_true rfl) dX10_init_200 (fun qq7 H hP hD hS => ?_)
  refine W.cs (cells' := 7) (slots' := 8783) rfl rfl ?_
  refine va_putF (D := D) (ci := 10) (v := .ref qq7) (ty := .array .int) (C := RX10) (T := TX10) (N := 96) hx hb hts inlX10 tyX10 tyX10_ok nmX10 hown hK hP hD hS 0 rfl rfl 15 (by decide) (hts _ q199) (fun _ h => h) rfl hin rfl (by decide +kernel) rfl rfl (Nat.le_of_ble_eq_true rfl) dX10_init_202 (fun H locs hP hD hS => ?_)
  have hP : va_P D vwCl [(h, .inr (10, [.ref qq1, .ref qq2, .int 0, .int 0, .int 0, .int 0, .int 0, .int 0, .int 0, .int 0, .int 0, .ref qq3, .ref qq4, .ref qq5, .ref qq6, .ref qq7, .null, .null, .null, .null, .null, .null, .null, .null, .int 0, .int 0, .int 0, .int 0, .int 0, .int 0, .null, .null, .null, .int 0, .null, .null, .int 0, .int 0, .int 0, .null, .null, .null, .null, .int 0, .null, .null, .null, .null, .null, .int 0, .null, .null, .null, .null, .null, .null, .null, .null, .null, .null, .null, .int 0, .int 0, .int 0, .int 0, .int 0, .null, .null, .null, .null, .null, .null, .null, .null, .int 0, .null, .null, .null, .null, .int 0, .null, .null, .null, .int 0, .int 0, .int 0, .int 0, .int 0, .null, .null, .null, .null, .int 0, .int 0, .null, .int 0])), (qq2, .inl (g 1, 1000, .inl (fun _ => 0))), tA g qq4 2 (fun _ => 0)] H := vz_pickP hP [0, 1, 2] rfl
  have hD : va_D A [(h, .inr (10, [.ref qq1, .ref qq2, .int 0, .int 0, .int 0, .int 0, .int 0, .int 0, .int 0, .int 0, .int 0, .ref qq3, .ref qq4, .ref qq5, .ref qq6, .ref qq7, .null, .null, .null, .null, .null, .null, .null, .null, .int 0, .int 0, .int 0, .int 0, .int 0, .int 0, .null, .null, .null, .int 0, .null, .null, .int 0, .int 0, .int 0, .null, .null, .null, .null, .int 0, .null, .null, .null, .null, .null, .int 0, .null, .null, .null, .null, .null, .null, .null, .null, .null, .null, .null, .int 0, .int 0, .int 0, .int 0, .int 0, .null, .null, .null, .null, .null, .null, .null, .null, .int 0, .null, .null, .null, .null, .int 0, .null, .null, .null, .int 0, .int 0, .int 0, .int 0, .int 0, .null, .null, .null, .null, .int 0, .int 0, .null, .int 0])), (qq2, .inl (g 1, 1000, .inl (fun _ => 0))), tA g qq4 2 (fun _ => 0)] := hD.sub [0, 1, 2] (by decide) rfl
  refine lv_aload_n hx hb dX10_init_205 rfl (lv_at hl 0 rfl) ?_
  refine lv_sipush (v := 320) hx hb dX10_init_206 (by decide) ?_
  refine vz_newa (t0 := 0) (atype := .int) (ty := .int) (a0 := (320, .inl (fun _ => 0))) hx hb (hts _ q70) rfl rfl (fun _ _ h => h) hK hP hD hS hA (fun _ => rfl) (by decide) (by decide) (by decide) (Nat.le_of_ble_eq_true rfl) (Nat.le_of_ble_eq_true rfl) dX10_init_209 (fun qq8 H hP hD hS => ?_)
  refine W.cs (cells' := 8) (slots' := 9103) rfl rfl ?_
  refine va_putF (D := D) (ci := 10) (v := .ref qq8) (ty := .array .int) (C := RX10) (T := TX10) (N := 96) hx hb hts inlX10 tyX10 tyX10_ok nmX10 hown hK hP hD hS 0 rfl rfl 16 (by decide) (hts _ q200) (fun _ h => h) rfl hin rfl (by decide +kernel) rfl rfl (Nat.le_of_ble_eq_true rfl) dX10_init_211 (fun H locs hP hD hS => ?_)
  have hP : va_P D vwCl [(h, .inr (10, [.ref qq1, .ref qq2, .int 0, .int 0, .int 0, .int 0, .int 0, .int 0, .int 0, .int 0, .int 0, .ref qq3, .ref qq4, .ref qq5, .ref qq6, .ref qq7, .ref qq8, .null, .null, .null, .null, .null, .null, .null, .int 0, .int 0, .int 0, .int 0, .int 0, .int 0, .null, .null, .null, .int 0, .null, .null, .int 0, .int 0, .int 0, .null, .null, .null, .null, .int 0, .null, .null, .null, .null, .null, .int 0, .null, .null, .null, .null, .null, .null, .null, .null, .null, .null, .null, .int 0, .int 0, .int 0, .int 0, .int 0, .null, .null, .null, .null, .null, .null, .null, .null, .int 0, .null, .null, .null, .null, .int 0, .null, .null, .null, .int 0, .int 0, .int 0, .int 0, .int 0, .null, .null, .null, .null, .int 0, .int 0, .null, .int 0])), (qq2, .inl (g 1, 1000, .inl (fun _ => 0))), tA g qq4 2 (fun _ => 0)] H := vz_pickP hP [0, 1, 2] rfl
  have hD : va_D A [(h, .inr (10, [.ref qq1, .ref qq2, .int 0, .int 0, .int 0, .int 0, .int 0, .int 0, .int 0, .int 0, .int 0, .ref qq3, .ref qq4, .ref qq5, .ref qq6, .ref qq7, .ref qq8, .null, .null, .null, .null, .null, .null, .null, .int 0, .int 0, .int 0, .int 0, .int 0, .int 0, .null, .null, .null, .int 0, .null, .null, .int 0, .int 0, .int 0, .null, .null, .null, .null, .int 0, .null, .null, .null, .null, .null, .int 0, .null, .null, .null, .null, .null, .null, .null, .null, .null, .null, .null, .int 0, .int 0, .int 0, .int 0, .int 0, .null, .null, .null, .null, .null, .null, .null, .null, .int 0, .null, .null, .null, .null, .int 0, .null, .null, .null, .int 0, .int 0, .int 0, .int 0, .int 0, .null, .null, .null, .null, .int 0, .int 0, .null, .int 0])), (qq2, .inl (g 1, 1000, .inl (fun _ => 0))), tA g qq4 2 (fun _ => 0)] := hD.sub [0, 1, 2] (by decide) rfl
  refine lv_aload_n hx hb dX10_init_214 rfl (lv_at hl 0 rfl) ?_
  refine lv_sipush (v := 320) hx hb dX10_init_215 (by decide) ?_
  refine vz_newa (t0 := 0) (atype := .int) (ty := .int) (a0 := (320, .inl (fun _ => 0))) hx hb (hts _ q70) rfl rfl (fun _ _ h => h) hK hP hD hS hA (fun _ => rfl) (by decide) (by decide) (by decide) (Nat.le_of_ble_eq_true rfl) (Nat.le_of_ble_eq_true rfl) dX10_init_218 (fun qq9 H hP hD hS => ?_)
  refine W.cs (cells' := 9) (slots' := 9423) rfl rfl ?_
  refine va_putF (D := D) (ci := 10) (v := .ref qq9) (ty := .array .int) (C := RX10) (T := TX10) (N := 96) hx hb hts inlX10 tyX10 tyX10_ok nmX10 hown hK hP hD hS 0 rfl rfl 17 (by decide) (hts _ q201) (fun _ h => h) rfl hin rfl (by decide +kernel) rfl rfl (Nat.le_of_ble_eq_true rfl) dX10_init_220 (fun H locs hP hD hS => ?_)
  have hP : va_P D vwCl [(h, .inr (10, [.ref qq1, .ref qq2, .int 0, .int 0, .int 0, .int 0, .int 0, .int 0, .int 0, .int 0, .int 0, .ref qq3, .ref qq4, .ref qq5, .ref qq6, .ref qq7, .ref qq8, .ref qq9, .null, .null, .null, .null, .null, .null, .int 0, .int 0, .int 0, .int 0, .int 0, .int 0, .null, .null, .null, .int 0, .null, .null, .int 0, .int 0, .int 0, .null, .null, .null, .null, .int 0, .null, .null, .null, .null, .null, .int 0, .null, .null, .null, .null, .null, .null, .null, .null, .null, .null, .null, .int 0, .int 0, .int 0, .int 0, .int 0, .null, .null, .null, .null, .null, .null, .null, .null, .int 0, .null, .null, .null, .null, .int 0, .null, .null, .null, .int 0, .int 0, .int 0, .int 0, .int 0, .null, .null, .null, .null, .int 0, .int 0, .null, .int 0])), (qq2, .inl (g 1, 1000, .inl (fun _ => 0))), tA g qq4 2 (fun _ => 0)] H := vz_pickP hP [0, 1, 2] rfl
  have hD : va_D A [(h, .inr (10, [.ref qq1, .ref qq2, .int 0, .int 0, .int 0, .int 0, .int 0, .int 0, .int 0, .int 0, .int 0, .ref qq3, .ref qq4, .ref qq5, .ref qq6, .ref qq7, .ref qq8, .ref qq9, .null, .null, .null, .null, .null, .null, .int 0, .int 0, .int 0, .int 0, .int 0, .int 0, .null, .null, .null, .int 0, .null, .null, .int 0, .int 0, .int 0, .null, .null, .null, .null, .int 0, .null, .null, .null, .null, .null, .int 0, .null, .null, .null, .null, .null, .null, .null, .null, .null, .null, .null, .int 0, .int 0, .int 0, .int 0, .int 0, .null, .null, .null, .null, .null, .null, .null, .null, .int 0, .null, .null, .null, .null, .int 0, .null, .null, .null, .int 0, .int 0, .int 0, .int 0, .int 0, .null, .null, .null, .null, .int 0, .int 0, .null, .int 0])), (qq2, .inl (g 1, 1000, .inl (fun _ => 0))), tA g qq4 2 (fun _ => 0)] := hD.sub [0, 1, 2] (by decide) rfl
  refine lv_aload_n hx hb dX10_init_223 rfl (lv_at hl 0 rfl) ?_
  refine lv_sipush (v := 320) hx hb dX10_init_224 (by decide) ?_
  refine vz_newa (t0 := 0) (atype := .int) (ty := .int) (a0 := (320, .inl (fun _ => 0))) hx hb (hts _ q70) rfl rfl (fun _ _ h => h) hK hP hD hS hA (fun _ => rfl) (by decide) (by decide) (by decide) (Nat.le_of_ble_eq_true rfl) (Nat.le_of_ble_eq_true rfl) dX10_init_227 (fun qq10 H hP hD hS => ?_)
  refine W.cs (cells' := 10) (slots' := 9743) rfl rfl ?_
  refine va_putF (D := D) (ci := 10) (v := .ref qq10) (ty := .array .int) (C := RX10) (T := TX10) (N := 96) hx hb hts inlX10 tyX10 tyX10_ok nmX10 hown hK hP hD hS 0 rfl rfl 18 (by decide) (hts _ q202) (fun _ h => h) rfl hin rfl (by decide +kernel) rfl rfl (Nat.le_of_ble_eq_true rfl) dX10_init_229 (fun H locs hP hD hS => ?_)
  have hP : va_P D vwCl [(h, .inr (10, [.ref qq1, .ref qq2, .int 0, .int 0, .int 0, .int 0, .int 0, .int 0, .int 0, .int 0, .int 0, .ref qq3, .ref qq4, .ref qq5, .ref qq6, .ref qq7, .ref qq8, .ref qq9, .ref qq10, .null, .null, .null, .null, .null, .int 0, .int 0, .int 0, .int 0, .int 0, .int 0, .null, .null, .null, .int 0, .null, .null, .int 0, .int 0, .int 0, .null, .null, .null, .null, .int 0, .null, .null, .null, .null, .null, .int 0, .null, .null, .null, .null, .null, .null, .null, .null, .null, .null, .null, .int 0, .int 0, .int 0, .int 0, .int 0, .null, .null, .null, .null, .null, .null, .null, .null, .int 0, .null, .null, .null, .null, .int 0, .null, .null, .null, .int 0, .int 0, .int 0, .int 0, .int 0, .null, .null, .null, .null, .int 0, .int 0, .null, .int 0])), (qq2, .inl (g 1, 1000, .inl (fun _ => 0))), tA g qq4 2 (fun _ => 0)] H := vz_pickP hP [0, 1, 2] rfl
  have hD : va_D A [(h, .inr (10, [.ref qq1, .ref qq2, .int 0, .int 0, .int 0, .int 0, .int 0, .int 0, .int 0, .int 0, .int 0, .ref qq3, .ref qq4, .ref qq5, .ref qq6, .ref qq7, .ref qq8, .ref qq9, .ref qq10, .null, .null, .null, .null, .null, .int 0, .int 0, .int 0, .int 0, .int 0, .int 0, .null, .null, .null, .int 0, .null, .null, .int 0, .int 0, .int 0, .null, .null, .null, .null, .int 0, .null, .null, .null, .null, .null, .int 0, .null, .null, .null, .null, .null, .null, .null, .null, .null, .null, .null, .int 0, .int 0, .int 0, .int 0, .int 0, .null, .null, .null, .null, .null, .null, .null, .null, .int 0, .null, .null, .null, .null, .int 0, .null, .null, .null, .int 0, .int 0, .int 0, .int 0, .int 0, .null, .null, .null, .null, .int 0, .int 0, .null, .int 0])), (qq2, .inl (g 1, 1000, .inl (fun _ => 0))), tA g qq4 2 (fun _ => 0)] := hD.sub [0, 1, 2] (by decide) rfl
  refine lv_aload_n hx hb dX10_init_232 rfl (lv_at hl 0 rfl) ?_
  refine lv_iconst (v := 2) hx hb dX10_init_233 (by decide) ?_
  refine vz_newa (t0 := 0) (atype := .int) (ty := .int) (a0 := (2, .inl (fun _ => 0))) hx hb (hts _ q70) rfl rfl (fun _ _ h => h) hK hP hD hS hA (fun _ => rfl) (by decide) (by decide) (by decide) (Nat.le_of_ble_eq_true rfl) (Nat.le_of_ble_eq_true rfl) dX10_init_234 (fun qq11 H hP hD hS => ?_)
  refine W.cs (cells' := 11) (slots' := 9745) rfl rfl ?_
  refine va_putF (D := D) (ci := 10) (v := .ref qq11) (ty := .array .int) (C := RX10) (T := TX10) (N := 96) hx hb hts inlX10 tyX10 tyX10_ok nmX10 hown hK hP hD hS 0 rfl rfl 19 (by decide) (hts _ q203) (fun _ h => h) rfl hin rfl (by decide +kernel) rfl rfl (Nat.le_of_ble_eq_true rfl) dX10_init_236 (fun H locs hP hD hS => ?_)
  have hP : va_P D vwCl [(h, .inr (10, [.ref qq1, .ref qq2, .int 0, .int 0, .int 0, .int 0, .int 0, .int 0, .int 0, .int 0, .int 0, .ref qq3, .ref qq4, .ref qq5, .ref qq6, .ref qq7, .ref qq8, .ref qq9, .ref qq10, .ref qq11, .null, .null, .null, .null, .int 0, .int 0, .int 0, .int 0, .int 0, .int 0, .null, .null, .null, .int 0, .null, .null, .int 0, .int 0, .int 0, .null, .null, .null, .null, .int 0, .null, .null, .null, .null, .null, .int 0, .null, .null, .null, .null, .null, .null, .null, .null, .null, .null, .null, .int 0, .int 0, .int 0, .int 0, .int 0, .null, .null, .null, .null, .null, .null, .null, .null, .int 0, .null, .null, .null, .null, .int 0, .null, .null, .null, .int 0, .int 0, .int 0, .int 0, .int 0, .null, .null, .null, .null, .int 0, .int 0, .null, .int 0])), (qq2, .inl (g 1, 1000, .inl (fun _ => 0))), tA g qq4 2 (fun _ => 0), tA g qq11 2 (fun _ => 0)] H := vz_pickP hP [0, 1, 2, 3] rfl
  have hD : va_D A [(h, .inr (10, [.ref qq1, .ref qq2, .int 0, .int 0, .int 0, .int 0, .int 0, .int 0, .int 0, .int 0, .int 0, .ref qq3, .ref qq4, .ref qq5, .ref qq6, .ref qq7, .ref qq8, .ref qq9, .ref qq10, .ref qq11, .null, .null, .null, .null, .int 0, .int 0, .int 0, .int 0, .int 0, .int 0, .null, .null, .null, .int 0, .null, .null, .int 0, .int 0, .int 0, .null, .null, .null, .null, .int 0, .null, .null, .null, .null, .null, .int 0, .null, .null, .null, .null, .null, .null, .null, .null, .null, .null, .null, .int 0, .int 0, .int 0, .int 0, .int 0, .null, .null, .null, .null, .null, .null, .null, .null, .int 0, .null, .null, .null, .null, .int 0, .null, .null, .null, .int 0, .int 0, .int 0, .int 0, .int 0, .null, .null, .null, .null, .int 0, .int 0, .null, .int 0])), (qq2, .inl (g 1, 1000, .inl (fun _ => 0))), tA g qq4 2 (fun _ => 0), tA g qq11 2 (fun _ => 0)] := hD.sub [0, 1, 2, 3] (by decide) rfl
  refine lv_aload_n hx hb dX10_init_239 rfl (lv_at hl 0 rfl) ?_
  refine lv_bipush (v := 16) hx hb dX10_init_240 (by decide) ?_
  refine vz_newa (t0 := 0) (atype := .int) (ty := .int) (a0 := (16, .inl (fun _ => 0))) hx hb (hts _ q70) rfl rfl (fun _ _ h => h) hK hP hD hS hA (fun _ => rfl) (by decide) (by decide) (by decide) (Nat.le_of_ble_eq_true rfl) (Nat.le_of_ble_eq_true rfl) dX10_init_242 (fun qq12 H hP hD hS => ?_)
  refine W.cs (cells' := 12) (slots' := 9761) rfl rfl ?_
  refine va_putF (D := D) (ci := 10) (v := .ref qq12) (ty := .array .int) (C := RX10) (T := TX10) (N := 96) hx hb hts inlX10 tyX10 tyX10_ok nmX10 hown hK hP hD hS 0 rfl rfl 20 (by decide) (hts _ q204) (fun _ h => h) rfl hin rfl (by decide +kernel) rfl rfl (Nat.le_of_ble_eq_true rfl) dX10_init_244 (fun H locs hP hD hS => ?_)
  have hP : va_P D vwCl [(h, .inr (10, [.ref qq1, .ref qq2, .int 0, .int 0, .int 0, .int 0, .int 0, .int 0, .int 0, .int 0, .int 0, .ref qq3, .ref qq4, .ref qq5, .ref qq6, .ref qq7, .ref qq8, .ref qq9, .ref qq10, .ref qq11, .ref qq12, .null, .null, .null, .int 0, .int 0, .int 0, .int 0, .int 0, .int 0, .null, .null, .null, .int 0, .null, .null, .int 0, .int 0, .int 0, .null, .null, .null, .null, .int 0, .null, .null, .null, .null, .null, .int 0, .null, .null, .null, .null, .null, .null, .null, .null, .null, .null, .null, .int 0, .int 0, .int 0, .int 0, .int 0, .null, .null, .null, .null, .null, .null, .null, .null, .int 0, .null, .null, .null, .null, .int 0, .null, .null, .null, .int 0, .int 0, .int 0, .int 0, .int 0, .null, .null, .null, .null, .int 0, .int 0, .null, .int 0])), (qq2, .inl (g 1, 1000, .inl (fun _ => 0))), tA g qq4 2 (fun _ => 0), tA g qq11 2 (fun _ => 0)] H := vz_pickP hP [0, 1, 2, 3] rfl
  have hD : va_D A [(h, .inr (10, [.ref qq1, .ref qq2, .int 0, .int 0, .int 0, .int 0, .int 0, .int 0, .int 0, .int 0, .int 0, .ref qq3, .ref qq4, .ref qq5, .ref qq6, .ref qq7, .ref qq8, .ref qq9, .ref qq10, .ref qq11, .ref qq12, .null, .null, .null, .int 0, .int 0, .int 0, .int 0, .int 0, .int 0, .null, .null, .null, .int 0, .null, .null, .int 0, .int 0, .int 0, .null, .null, .null, .null, .int 0, .null, .null, .null, .null, .null, .int 0, .null, .null, .null, .null, .null, .null, .null, .null, .null, .null, .null, .int 0, .int 0, .int 0, .int 0, .int 0, .null, .null, .null, .null, .null, .null, .null, .null, .int 0, .null, .null, .null, .null, .int 0, .null, .null, .null, .int 0, .int 0, .int 0, .int 0, .int 0, .null, .null, .null, .null, .int 0, .int 0, .null, .int 0])), (qq2, .inl (g 1, 1000, .inl (fun _ => 0))), tA g qq4 2 (fun _ => 0), tA g qq11 2 (fun _ => 0)] := hD.sub [0, 1, 2, 3] (by decide) rfl
  refine lv_aload_n hx hb dX10_init_247 rfl (lv_at hl 0 rfl) ?_
  refine lv_iconst (v := 2) hx hb dX10_init_248 (by decide) ?_
  refine vz_newa (t0 := 0) (atype := .int) (ty := .int) (a0 := (2, .inl (fun _ => 0))) hx hb (hts _ q70) rfl rfl (fun _ _ h => h) hK hP hD hS hA (fun _ => rfl) (by decide) (by decide) (by decide) (Nat.le_of_ble_eq_true rfl) (Nat.le_of_ble_eq_true rfl) dX10_init_249 (fun qq13 H hP hD hS => ?_)
  refine W.cs (cells' := 13) (slots' := 9763) rfl rfl ?_
  refine va_putF (D := D) (ci := 10) (v := .ref qq13) (ty := .array .int) (C := RX10) (T := TX10) (N := 96) hx hb hts inlX10 tyX10 tyX10_ok nmX10 hown hK hP hD hS 0 rfl rfl 21 (by decide) (hts _ q205) (fun _ h => h) rfl hin rfl (by decide +kernel) rfl rfl (Nat.le_of_ble_eq_true rfl) dX10_init_251 (fun H locs hP hD hS => ?_)
  have hP : va_P D vwCl [(h, .inr (10, [.ref qq1, .ref qq2, .int 0, .int 0, .int 0, .int 0, .int 0, .int 0, .int 0, .int 0, .int 0, .ref qq3, .ref qq4, .ref qq5, .ref qq6, .ref qq7, .ref qq8, .ref qq9, .ref qq10, .ref qq11, .ref qq12, .ref qq13, .null, .null, .int 0, .int 0, .int 0, .int 0, .int 0, .int 0, .null, .null, .null, .int 0, .null, .null, .int 0, .int 0, .int 0, .null, .null, .null, .null, .int 0, .null, .null, .null, .null, .null, .int 0, .null, .null, .null, .null, .null, .null, .null, .null, .null, .null, .null, .int 0, .int 0, .int 0, .int 0, .int 0, .null, .null, .null, .null, .null, .null, .null, .null, .int 0, .null, .null, .null, .null, .int 0, .null, .null, .null, .int 0, .int 0, .int 0, .int 0, .int 0, .null, .null, .null, .null, .int 0, .int 0, .null, .int 0])), (qq2, .inl (g 1, 1000, .inl (fun _ => 0))), tA g qq4 2 (fun _ => 0), tA g qq11 2 (fun _ => 0), tA g qq13 2 (fun _ => 0)] H := vz_pickP hP [0, 1, 2, 3, 4] rfl
  have hD : va_D A [(h, .inr (10, [.ref qq1, .ref qq2, .int 0, .int 0, .int 0, .int 0, .int 0, .int 0, .int 0, .int 0, .int 0, .ref qq3, .ref qq4, .ref qq5, .ref qq6, .ref qq7, .ref qq8, .ref qq9, .ref qq10, .ref qq11, .ref qq12, .ref qq13, .null, .null, .int 0, .int 0, .int 0, .int 0, .int 0, .int 0, .null, .null, .null, .int 0, .null, .null, .int 0, .int 0, .int 0, .null, .null, .null, .null, .int 0, .null, .null, .null, .null, .null, .int 0, .null, .null, .null, .null, .null, .null, .null, .null, .null, .null, .null, .int 0, .int 0, .int 0, .int 0, .int 0, .null, .null, .null, .null, .null, .null, .null, .null, .int 0, .null, .null, .null, .null, .int 0, .null, .null, .null, .int 0, .int 0, .int 0, .int 0, .int 0, .null, .null, .null, .null, .int 0, .int 0, .null, .int 0])), (qq2, .inl (g 1, 1000, .inl (fun _ => 0))), tA g qq4 2 (fun _ => 0), tA g qq11 2 (fun _ => 0), tA g qq13 2 (fun _ => 0)] := hD.sub [0, 1, 2, 3, 4] (by decide) rfl
  refine lv_aload_n hx hb dX10_init_254 rfl (lv_at hl 0 rfl) ?_
  refine lv_bipush (v := 32) hx hb dX10_init_255 (by decide) ?_
  refine vz_newa (t0 := 0) (atype := .int) (ty := .int) (a0 := (32, .inl (fun _ => 0))) hx hb (hts _ q70) rfl rfl (fun _ _ h => h) hK hP hD hS hA (fun _ => rfl) (by decide) (by decide) (by decide) (Nat.le_of_ble_eq_true rfl) (Nat.le_of_ble_eq_true rfl) dX10_init_257 (fun qq14 H hP hD hS => ?_)
  refine W.cs (cells' := 14) (slots' := 9795) rfl rfl ?_
  refine va_putF (D := D) (ci := 10) (v := .ref qq14) (ty := .array .int) (C := RX10) (T := TX10) (N := 96) hx hb hts inlX10 tyX10 tyX10_ok nmX10 hown hK hP hD hS 0 rfl rfl 22 (by decide) (hts _ q206) (fun _ h => h) rfl hin rfl (by decide +kernel) rfl rfl (Nat.le_of_ble_eq_true rfl) dX10_init_259 (fun H locs hP hD hS => ?_)
  have hP : va_P D vwCl [(h, .inr (10, [.ref qq1, .ref qq2, .int 0, .int 0, .int 0, .int 0, .int 0, .int 0, .int 0, .int 0, .int 0, .ref qq3, .ref qq4, .ref qq5, .ref qq6, .ref qq7, .ref qq8, .ref qq9, .ref qq10, .ref qq11, .ref qq12, .ref qq13, .ref qq14, .null, .int 0, .int 0, .int 0, .int 0, .int 0, .int 0, .null, .null, .null, .int 0, .null, .null, .int 0, .int 0, .int 0, .null, .null, .null, .null, .int 0, .null, .null, .null, .null, .null, .int 0, .null, .null, .null, .null, .null, .null, .null, .null, .null, .null, .null, .int 0, .int 0, .int 0, .int 0, .int 0, .null, .null, .null, .null, .null, .null, .null, .null, .int 0, .null, .null, .null, .null, .int 0, .null, .null, .null, .int 0, .int 0, .int 0, .int 0, .int 0, .null, .null, .null, .null, .int 0, .int 0, .null, .int 0])), (qq2, .inl (g 1, 1000, .inl (fun _ => 0))), tA g qq4 2 (fun _ => 0), tA g qq11 2 (fun _ => 0), tA g qq13 2 (fun _ => 0), tA g qq14 32 (fun _ => 0)] H := vz_pickP hP [0, 1, 2, 3, 4, 5] rfl
  have hD : va_D A [(h, .inr (10, [.ref qq1, .ref qq2, .int 0, .int 0, .int 0, .int 0, .int 0, .int 0, .int 0, .int 0, .int 0, .ref qq3, .ref qq4, .ref qq5, .ref qq6, .ref qq7, .ref qq8, .ref qq9, .ref qq10, .ref qq11, .ref qq12, .ref qq13, .ref qq14, .null, .int 0, .int 0, .int 0, .int 0, .int 0, .int 0, .null, .null, .null, .int 0, .null, .null, .int 0, .int 0, .int 0, .null, .null, .null, .null, .int 0, .null, .null, .null, .null, .null, .int 0, .null, .null, .null, .null, .null, .null, .null, .null, .null, .null, .null, .int 0, .int 0, .int 0, .int 0, .int 0, .null, .null, .null, .null, .null, .null, .null, .null, .int 0, .null, .null, .null, .null, .int 0, .null, .null, .null, .int 0, .int 0, .int 0, .int 0, .int 0, .null, .null, .null, .null, .int 0, .int 0, .null, .int 0])), (qq2, .inl (g 1, 1000, .inl (fun _ => 0))), tA g qq4 2 (fun _ => 0), tA g qq11 2 (fun _ => 0), tA g qq13 2 (fun _ => 0), tA g qq14 32 (fun _ => 0)] := hD.sub [0, 1, 2, 3, 4, 5] (by decide) rfl
  refine lv_aload_n hx hb dX10_init_262 rfl (lv_at hl 0 rfl) ?_
  refine lv_iconst (v := 2) hx hb dX10_init_263 (by decide) ?_
  refine vz_newa (t0 := 0) (atype := .int) (ty := .int) (a0 := (2, .inl (fun _ => 0))) hx hb (hts _ q70) rfl rfl (fun _ _ h => h) hK hP hD hS hA (fun _ => rfl) (by decide) (by decide) (by decide) (Nat.le_of_ble_eq_true rfl) (Nat.le_of_ble_eq_true rfl) dX10_init_264 (fun qq15 H hP hD hS => ?_)
  refine W.cs (cells' := 15) (slots' := 9797) rfl rfl ?_
  refine va_putF (D := D) (ci := 10) (v := .ref qq15) (ty := .array .int) (C := RX10) (T := TX10) (N := 96) hx hb hts inlX10 tyX10 tyX10_ok nmX10 hown hK hP hD hS 0 rfl rfl 23 (by decide) (hts _ q207) (fun _ h => h) rfl hin rfl (by decide +kernel) rfl rfl (Nat.le_of_ble_eq_true rfl) dX10_init_266 (fun H locs hP hD hS => ?_)
  have hP : va_P D vwCl [(h, .inr (10, [.ref qq1, .ref qq2, .int 0, .int 0, .int 0, .int 0, .int 0, .int 0, .int 0, .int 0, .int 0, .ref qq3, .ref qq4, .ref qq5, .ref qq6, .ref qq7, .ref qq8, .ref qq9, .ref qq10, .ref qq11, .ref qq12, .ref qq13, .ref qq14, .ref qq15, .int 0, .int 0, .int 0, .int 0, .int 0, .int 0, .null, .null, .null, .int 0, .null, .null, .int 0, .int 0, .int 0, .null, .null, .null, .null, .int 0, .null, .null, .null, .null, .null, .int 0, .null, .null, .null, .null, .null, .null, .null, .null, .null, .null, .null, .int 0, .int 0, .int 0, .int 0, .int 0, .null, .null, .null, .null, .null, .null, .null, .null, .int 0, .null, .null, .null, .null, .int 0, .null, .null, .null, .int 0, .int 0, .int 0, .int 0, .int 0, .null, .null, .null, .null, .int 0, .int 0, .null, .int 0])), (qq2, .inl (g 1, 1000, .inl (fun _ => 0))), tA g qq4 2 (fun _ => 0), tA g qq11 2 (fun _ => 0), tA g qq13 2 (fun _ => 0), tA g qq14 32 (fun _ => 0), tA g qq15 2 (fun _ => 0)] H := vz_pickP hP [0, 1, 2, 3, 4, 5, 6] rfl
  have hD : va_D A [(h, .inr (10, [.ref qq1, .ref qq2, .int 0, .int 0, .int 0, .int 0, .int 0, .int 0, .int 0, .int 0, .int 0, .ref qq3, .ref qq4, .ref qq5, .ref qq6, .ref qq7, .ref qq8, .ref qq9, .ref qq10, .ref qq11, .ref qq12, .ref qq13, .ref qq14, .ref qq15, .int 0, .int 0, .int 0, .int 0, .int 0, .int 0, .null, .null, .null, .int 0, .null, .null, .int 0, .int 0, .int 0, .null, .null, .null, .null, .int 0, .null, .null, .null, .null, .null, .int 0, .null, .null, .null, .null, .null, .null, .null, .null, .null, .null, .null, .int 0, .int 0, .int 0, .int 0, .int 0, .null, .null, .null, .null, .null, .null, .null, .null, .int 0, .null, .null, .null, .null, .int 0, .null, .null, .null, .int 0, .int 0, .int 0, .int 0, .int 0, .null, .null, .null, .null, .int 0, .int 0, .null, .int 0])), (qq2, .inl (g 1, 1000, .inl (fun _ => 0))), tA g qq4 2 (fun _ => 0), tA g qq11 2 (fun _ => 0), tA g qq13 2 (fun _ => 0), tA g qq14 32 (fun _ => 0), tA g qq15 2 (fun _ => 0)] := hD.sub [0, 1, 2, 3, 4, 5, 6] (by decide) rfl
  refine lv_aload_n hx hb dX10_init_269 rfl (lv_at hl 0 rfl) ?_
  refine lv_sipush (v := 500) hx hb dX10_init_270 (by decide) ?_
  refine vz_newa (t0 := 0) (atype := .int) (ty := .int) (a0 := (500, .inl (fun _ => 0))) hx hb (hts _ q70) rfl rfl (fun _ _ h => h) hK hP hD hS hA (fun _ => rfl) (by decide) (by decide) (by decide) (Nat.le_of_ble_eq_true rfl) (Nat.le_of_ble_eq_true rfl) dX10_init_273 (fun qq16 H hP hD hS => ?_)
  refine W.cs (cells' := 16) (slots' := 10297) rfl rfl ?_
  refine va_putF (D := D) (ci := 10) (v := .ref qq16) (ty := .array .int) (C := RX10) (T := TX10) (N := 96) hx hb hts inlX10 tyX10 tyX10_ok nmX10 hown hK hP hD hS 0 rfl rfl 30 (by decide) (hts _ q208) (fun _ h => h) rfl hin rfl (by decide +kernel) rfl rfl (Nat.le_of_ble_eq_true rfl) dX10_init_275 (fun H locs hP hD hS => ?_)
  have hP : va_P D vwCl [(h, .inr (10, [.ref qq1, .ref qq2, .int 0, .int 0, .int 0, .int 0, .int 0, .int 0, .int 0, .int 0, .int 0, .ref qq3, .ref qq4, .ref qq5, .ref qq6, .ref qq7, .ref qq8, .ref qq9, .ref qq10, .ref qq11, .ref qq12, .ref qq13, .ref qq14, .ref qq15, .int 0, .int 0, .int 0, .int 0, .int 0, .int 0, .ref qq16, .null, .null, .int 0, .null, .null, .int 0, .int 0, .int 0, .null, .null, .null, .null, .int 0, .null, .null, .null, .null, .null, .int 0, .null, .null, .null, .null, .null, .null, .null, .null, .null, .null, .null, .int 0, .int 0, .int 0, .int 0, .int 0, .null, .null, .null, .null, .null, .null, .null, .null, .int 0, .null, .null, .null, .null, .int 0, .null, .null, .null, .int 0, .int 0, .int 0, .int 0, .int 0, .null, .null, .null, .null, .int 0, .int 0, .null, .int 0])), (qq2, .inl (g 1, 1000, .inl (fun _ => 0))), tA g qq4 2 (fun _ => 0), tA g qq11 2 (fun _ => 0), tA g qq13 2 (fun _ => 0), tA g qq14 32 (fun _ => 0), tA g qq15 2 (fun _ => 0)] H := vz_pickP hP [0, 1, 2, 3, 4, 5, 6] rfl
  have hD : va_D A [(h, .inr (10, [.ref qq1, .ref qq2, .int 0, .int 0, .int 0, .int 0, .int 0, .int 0, .int 0, .int 0, .int 0, .ref qq3, .ref qq4, .ref qq5, .ref qq6, .ref qq7, .ref qq8, .ref qq9, .ref qq10, .ref qq11, .ref qq12, .ref qq13, .ref qq14, .ref qq15, .int 0, .int 0, .int 0, .int 0, .int 0, .int 0, .ref qq16, .null, .null, .int 0, .null, .null, .int 0, .int 0, .int 0, .null, .null, .null, .null, .int 0, .null, .null, .null, .null, .null, .int 0, .null, .null, .null, .null, .null, .null, .null, .null, .null, .null, .null, .int 0, .int 0, .int 0, .int 0, .int 0, .null, .null, .null, .null, .null, .null, .null, .null, .int 0, .null, .null, .null, .null, .int 0, .null, .null, .null, .int 0, .int 0, .int 0, .int 0, .int 0, .null, .null, .null, .null, .int 0, .int 0, .null, .int 0])), (qq2, .inl (g 1, 1000, .inl (fun _ => 0))), tA g qq4 2 (fun _ => 0), tA g qq11 2 (fun _ => 0), tA g qq13 2 (fun _ => 0), tA g qq14 32 (fun _ => 0), tA g qq15 2 (fun _ => 0)] := hD.sub [0, 1, 2, 3, 4, 5, 6] (by decide) rfl
  refine lv_aload_n hx hb dX10_init_278 rfl (lv_at hl 0 rfl) ?_
  refine lv_sipush (v := 500) hx hb dX10_init_279 (by decide) ?_
  refine vz_newa (t0 := 0) (atype := .int) (ty := .int) (a0 := (500, .inl (fun _ => 0))) hx hb (hts _ q70) rfl rfl (fun _ _ h => h) hK hP hD hS hA (fun _ => rfl) (by decide) (by decide) (by decide) (Nat.le_of_ble_eq_true rfl) (Nat.le_of_ble_eq_true rfl) dX10_init_282 (fun qq17 H hP hD hS => ?_)
  refine W.cs (cells' := 17) (slots' := 10797) rfl rfl ?_
  refine va_putF (D := D) (ci := 10) (v := .ref qq17) (ty := .array .int) (C := RX10) (T := TX10) (N := 96) hx hb hts inlX10 tyX10 tyX10_ok nmX10 hown hK hP hD hS 0 rfl rfl 31 (by decide) (hts _ q209) (fun _ h => h) rfl hin rfl (by decide +kernel) rfl rfl (Nat.le_of_ble_eq_true rfl) dX10_init_284 (fun H locs hP hD hS => ?_)
  have hP : va_P D vwCl [(h, .inr (10, [.ref qq1, .ref qq2, .int 0, .int 0, .int 0, .int 0, .int 0, .int 0, .int 0, .int 0, .int 0, .ref qq3, .ref qq4, .ref qq5, .ref qq6, .ref qq7, .ref qq8, .ref qq9, .ref qq10, .ref qq11, .ref qq12, .ref qq13, .ref qq14, .ref qq15, .int 0, .int 0, .int 0, .int 0, .int 0, .int 0, .ref qq16, .ref qq17, .null, .int 0, .null, .null, .int 0, .int 0, .int 0, .null, .null, .null, .null, .int 0, .null, .null, .null, .null, .null, .int 0, .null, .null, .null, .null, .null, .null, .null, .null, .null, .null, .null, .int 0, .int 0, .int 0, .int 0, .int 0, .null, .null, .null, .null, .null, .null, .null, .null, .int 0, .null, .null, .null, .null, .int 0, .null, .null, .null, .int 0, .int 0, .int 0, .int 0, .int 0, .null, .null, .null, .null, .int 0, .int 0, .null, .int 0])), (qq2, .inl (g 1, 1000, .inl (fun _ => 0))), tA g qq4 2 (fun _ => 0), tA g qq11 2 (fun _ => 0), tA g qq13 2 (fun _ => 0), tA g qq14 32 (fun _ => 0), tA g qq15 2 (fun _ => 0)] H := vz_pickP hP [0, 1, 2, 3, 4, 5, 6] rfl
  have hD : va_D A [(h, .inr (10, [.ref qq1, .ref qq2, .int 0, .int 0, .int 0, .int 0, .int 0, .int 0, .int 0, .int 0, .int 0, .ref qq3, .ref qq4, .ref qq5, .ref qq6, .ref qq7, .ref qq8, .ref qq9, .ref qq10, .ref qq11, .ref qq12, .ref qq13, .ref qq14, .ref qq15, .int 0, .int 0, .int 0, .int 0, .int 0, .int 0, .ref qq16, .ref qq17, .null, .int 0, .null, .null, .int 0, .int 0, .int 0, .null, .null, .null, .null, .int 0, .null, .null, .null, .null, .null, .int 0, .null, .null, .null, .null, .null, .null, .null, .null, .null, .null, .null, .int 0, .int 0, .int 0, .int 0, .int 0, .null, .null, .null, .null, .null, .null, .null, .null, .int 0, .null, .null, .null, .null, .int 0, .null, .null, .null, .int 0, .int 0, .int 0, .int 0, .int 0, .null, .null, .null, .null, .int 0, .int 0, .null, .int 0])), (qq2, .inl (g 1, 1000, .inl (fun _ => 0))), tA g qq4 2 (fun _ => 0), tA g qq11 2 (fun _ => 0), tA g qq13 2 (fun _ => 0), tA g qq14 32 (fun _ => 0), tA g qq15 2 (fun _ => 0)] := hD.sub [0, 1, 2, 3, 4, 5, 6] (by decide) rfl
  refine lv_aload_n hx hb dX10_init_287 rfl (lv_at hl 0 rfl) ?_
  refine lv_sipush (v := 500) hx hb dX10_init_288 (by decide) ?_
  refine vz_newa (t0 := 0) (atype := .int) (ty := .int) (a0 := (500, .inl (fun _ => 0))) hx hb (hts _ q70) rfl rfl (fun _ _ h => h) hK hP hD hS hA (fun _ => rfl) (by decide) (by decide) (by decide) (Nat.le_of_ble_eq_true rfl) (Nat.le_of_ble_eq_true rfl) dX10_init_291 (fun qq18 H hP hD hS => ?_)
  refine W.cs (cells' := 18) (slots' := 11297) rfl rfl ?_
  refine va_putF (D := D) (ci := 10) (v := .ref qq18) (ty := .array .int) (C := RX10) (T := TX10) (N := 96) hx hb hts inlX10 tyX10 tyX10_ok nmX10 hown hK hP hD hS 0 rfl rfl 32 (by decide) (hts _ q210) (fun _ h => h) rfl hin rfl (by decide +kernel) rfl rfl (Nat.le_of_ble_eq_true rfl) dX10_init_293 (fun H locs hP hD hS => ?_)
  have hP : va_P D vwCl [(h, .inr (10, [.ref qq1, .ref qq2, .int 0, .int 0, .int 0, .int 0, .int 0, .int 0, .int 0, .int 0, .int 0, .ref qq3, .ref qq4, .ref qq5, .ref qq6, .ref qq7, .ref qq8, .ref qq9, .ref qq10, .ref qq11, .ref qq12, .ref qq13, .ref qq14, .ref qq15, .int 0, .int 0, .int 0, .int 0, .int 0, .int 0, .ref qq16, .ref qq17, .ref qq18, .int 0, .null, .null, .int 0, .int 0, .int 0, .null, .null, .null, .null, .int 0, .null, .null, .null, .null, .null, .int 0, .null, .null, .null, .null, .null, .null, .null, .null, .null, .null, .null, .int 0, .int 0, .int 0, .int 0, .int 0, .null, .null, .null, .null, .null, .null, .null, .null, .int 0, .null, .null, .null, .null, .int 0, .null, .null, .null, .int 0, .int 0, .int 0, .int 0, .int 0, .null, .null, .null, .null, .int 0, .int 0, .null, .int 0])), (qq2, .inl (g 1, 1000, .inl (fun _ => 0))), tA g qq4 2 (fun _ => 0), tA g qq11 2 (fun _ => 0), tA g qq13 2 (fun _ => 0), tA g qq14 32 (fun _ => 0), tA g qq15 2 (fun _ => 0)] H := vz_pickP hP [0, 1, 2, 3, 4, 5, 6] rfl
  have hD : va_D A [(h, .inr (10, [.ref qq1, .ref qq2, .int 0, .int 0, .int 0, .int 0, .int 0, .int 0, .int 0, .int 0, .int 0, .ref qq3, .ref qq4, .ref qq5, .ref qq6, .ref qq7, .ref qq8, .ref qq9, .ref qq10, .ref qq11, .ref qq12, .ref qq13, .ref qq14, .ref qq15, .int 0, .int 0, .int 0, .int 0, .int 0, .int 0, .ref qq16, .ref qq17, .ref qq18, .int 0, .null, .null, .int 0, .int 0, .int 0, .null, .null, .null, .null, .int 0, .null, .null, .null, .null, .null, .int 0, .null, .null, .null, .null, .null, .null, .null, .null, .null, .null, .null, .int 0, .int 0, .int 0, .int 0, .int 0, .null, .null, .null, .null, .null, .null, .null, .null, .int 0, .null, .null, .null, .null, .int 0, .null, .null, .null, .int 0, .int 0, .int 0, .int 0, .int 0, .null, .null, .null, .null, .int 0, .int 0, .null, .int 0])), (qq2, .inl (g 1, 1000, .inl (fun _ => 0))), tA g qq4 2 (fun _ => 0), tA g qq11 2 (fun _ => 0), tA g qq13 2 (fun _ => 0), tA g qq14 32 (fun _ => 0), tA g qq15 2 (fun _ => 0)] := hD.sub [0, 1, 2, 3, 4, 5, 6] (by decide) rfl
  refine lv_aload_n hx hb dX10_init_296 rfl (lv_at hl 0 rfl) ?_
  refine lv_sipush (v := 1000) hx hb dX10_init_297 (by decide) ?_
  refine vz_newa (t0 := 0) (atype := .int) (ty := .int) (a0 := (1000, .inl (fun _ => 0))) hx hb (hts _ q70) rfl rfl (fun _ _ h => h) hK hP hD hS hA (fun _ => rfl) (by decide) (by decide) (by decide) (Nat.le_of_ble_eq_true rfl) (Nat.le_of_ble_eq_true rfl) dX10_init_300 (fun qq19 H hP hD hS => ?_)
  refine W.cs (cells' := 19) (slots' := 12297) rfl rfl ?_
  refine va_putF (D := D) (ci := 10) (v := .ref qq19) (ty := .array .int) (C := RX10) (T := TX10) (N := 96) hx hb hts inlX10 tyX10 tyX10_ok nmX10 hown hK hP hD hS 0 rfl rfl 34 (by decide) (hts _ q211) (fun _ h => h) rfl hin rfl (by decide +kernel) rfl rfl (Nat.le_of_ble_eq_true rfl) dX10_init_302 (fun H locs hP hD hS => ?_)
  have hP : va_P D vwCl [(h, .inr (10, [.ref qq1, .ref qq2, .int 0, .int 0, .int 0, .int 0, .int 0, .int 0, .int 0, .int 0, .int 0, .ref qq3, .ref qq4, .ref qq5, .ref qq6, .ref qq7, .ref qq8, .ref qq9, .ref qq10, .ref qq11, .ref qq12, .ref qq13, .ref qq14, .ref qq15, .int 0, .int 0, .int 0, .int 0, .int 0, .int 0, .ref qq16, .ref qq17, .ref qq18, .int 0, .ref qq19, .null, .int 0, .int 0, .int 0, .null, .null, .null, .null, .int 0, .null, .null, .null, .null, .null, .int 0, .null, .null, .null, .null, .null, .null, .null, .null, .null, .null, .null, .int 0, .int 0, .int 0, .int 0, .int 0, .null, .null, .null, .null, .null, .null, .null, .null, .int 0, .null, .null, .null, .null, .int 0, .null, .null, .null, .int 0, .int 0, .int 0, .int 0, .int 0, .null, .null, .null, .null, .int 0, .int 0, .null, .int 0])), (qq2, .inl (g 1, 1000, .inl (fun _ => 0))), tA g qq4 2 (fun _ => 0), tA g qq11 2 (fun _ => 0), tA g qq13 2 (fun _ => 0), tA g qq14 32 (fun _ => 0), tA g qq15 2 (fun _ => 0)] H := vz_pickP hP [0, 1, 2, 3, 4, 5, 6] rfl
  have hD : va_D A [(h, .inr (10, [.ref qq1, .ref qq2, .int 0, .int 0, .int 0, .int 0, .int 0, .int 0, .int 0, .int 0, .int 0, .ref qq3, .ref qq4, .ref qq5, .ref qq6, .ref qq7, .ref qq8, .ref qq9, .ref qq10, .ref qq11, .ref qq12, .ref qq13, .ref qq14, .ref qq15, .int 0, .int 0, .int 0, .int 0, .int 0, .int 0, .ref qq16, .ref qq17, .ref qq18, .int 0, .ref qq19, .null, .int 0, .int 0, .int 0, .null, .null, .null, .null, .int 0, .null, .null, .null, .null, .null, .int 0, .null, .null, .null, .null, .null, .null, .null, .null, .null, .null, .null, .int 0, .int 0, .int 0, .int 0, .int 0, .null, .null, .null, .null, .null, .null, .null, .null, .int 0, .null, .null, .null, .null, .int 0, .null, .null, .null, .int 0, .int 0, .int 0, .int 0, .int 0, .null, .null, .null, .null, .int 0, .int 0, .null, .int 0])), (qq2, .inl (g 1, 1000, .inl (fun _ => 0))), tA g qq4 2 (fun _ => 0), tA g qq11 2 (fun _ => 0), tA g qq13 2 (fun _ => 0), tA g qq14 32 (fun _ => 0), tA g qq15 2 (fun _ => 0)] := hD.sub [0, 1, 2, 3, 4, 5, 6] (by decide) rfl
  refine lv_aload_n hx hb dX10_init_305 rfl (lv_at hl 0 rfl) ?_
  refine lv_sipush (v := 1000) hx hb dX10_init_306 (by decide) ?_
  refine vz_newa (t0 := 0) (atype := .int) (ty := .int) (a0 := (1000, .inl (fun _ => 0))) hx hb (hts _ q70) rfl rfl (fun _ _ h => h) hK hP hD hS hA (fun _ => rfl) (by decide) (by decide) (by decide) (Nat.le_of_ble_eq_true rfl) (Nat.le_of_ble_eq_true rfl) dX10_init_309 (fun qq20 H hP hD hS => ?_)
  refine W.cs (cells' := 20) (slots' := 13297) rfl rfl ?_
  refine va_putF (D := D) (ci := 10) (v := .ref qq20) (ty := .array .int) (C := RX10) (T := TX10) (N := 96) hx hb hts inlX10 tyX10 tyX10_ok nmX10 hown hK hP hD hS 0 rfl rfl 35 (by decide) (hts _ q212) (fun _ h => h) rfl hin rfl (by decide +kernel) rfl rfl (Nat.le_of_ble_eq_true rfl) dX10_init_311 (fun H locs hP hD hS => ?_)
  have hP : va_P D vwCl [(h, .inr (10, [.ref qq1, .ref qq2, .int 0, .int 0, .int 0, .int 0, .int 0, .int 0, .int 0, .int 0, .int 0, .ref qq3, .ref qq4, .ref qq5, .ref qq6, .ref qq7, .ref qq8, .ref qq9, .ref qq10, .ref qq11, .ref qq12, .ref qq13, .ref qq14, .ref qq15, .int 0, .int 0, .int 0, .int 0, .int 0, .int 0, .ref qq16, .ref qq17, .ref qq18, .int 0, .ref qq19, .ref qq20, .int 0, .int 0, .int 0, .null, .null, .null, .null, .int 0, .null, .null, .null, .null, .null, .int 0, .null, .null, .null, .null, .null, .null, .null, .null, .null, .null, .null, .int 0, .int 0, .int 0, .int 0, .int 0, .null, .null, .null, .null, .null, .null, .null, .null, .int 0, .null, .null, .null, .null, .int 0, .null, .null, .null, .int 0, .int 0, .int 0, .int 0, .int 0, .null, .null, .null, .null, .int 0, .int 0, .null, .int 0])), (qq2, .inl (g 1, 1000, .inl (fun _ => 0))), tA g qq4 2 (fun _ => 0), tA g qq11 2 (fun _ => 0), tA g qq13 2 (fun _ => 0), tA g qq14 32 (fun _ => 0), tA g qq15 2 (fun _ => 0)] H := vz_pickP hP [0, 1, 2, 3, 4, 5, 6] rfl
  have hD : va_D A [(h, .inr (10, [.ref qq1, .ref qq2, .int 0, .int 0, .int 0, .int 0, .int 0, .int 0, .int 0, .int 0, .int 0, .ref qq3, .ref qq4, .ref qq5, .ref qq6, .ref qq7, .ref qq8, .ref qq9, .ref qq10, .ref qq11, .ref qq12, .ref qq13, .ref qq14, .ref qq15, .int 0, .int 0, .int 0, .int 0, .int 0, .int 0, .ref qq16, .ref qq17, .ref qq18, .int 0, .ref qq19, .ref qq20, .int 0, .int 0, .int 0, .null, .null, .null, .null, .int 0, .null, .null, .null, .null, .null, .int 0, .null, .null, .null, .null, .null, .null, .null, .null, .null, .null, .null, .int 0, .int 0, .int 0, .int 0, .int 0, .null, .null, .null, .null, .null, .null, .null, .null, .int 0, .null, .null, .null, .null, .int 0, .null, .null, .null, .int 0, .int 0, .int 0, .int 0, .int 0, .null, .null, .null, .null, .int 0, .int 0, .null, .int 0])), (qq2, .inl (g 1, 1000, .inl (fun _ => 0))), tA g qq4 2 (fun _ => 0), tA g qq11 2 (fun _ => 0), tA g qq13 2 (fun _ => 0), tA g qq14 32 (fun _ => 0), tA g qq15 2 (fun _ => 0)] := hD.sub [0, 1, 2, 3, 4, 5, 6] (by decide) rfl
  refine lv_aload_n hx hb dX10_init_314 rfl (lv_at hl 0 rfl) ?_
  refine lv_bipush (v := 12) hx hb dX10_init_315 (by decide) ?_
  refine vz_newa (t0 := 0) (atype := .int) (ty := .int) (a0 := (12, .inl (fun _ => 0))) hx hb (hts _ q70) rfl rfl (fun _ _ h => h) hK hP hD hS hA (fun _ => rfl) (by decide) (by decide) (by decide) (Nat.le_of_ble_eq_true rfl) (Nat.le_of_ble_eq_true rfl) dX10_init_317 (fun qq21 H hP hD hS => ?_)
  refine W.cs (cells' := 21) (slots' := 13309) rfl rfl ?_
  refine va_putF (D := D) (ci := 10) (v := .ref qq21) (ty := .array .int) (C := RX10) (T := TX10) (N := 96) hx hb hts inlX10 tyX10 tyX10_ok nmX10 hown hK hP hD hS 0 rfl rfl 39 (by decide) (hts _ q213) (fun _ h => h) rfl hin rfl (by decide +kernel) rfl rfl (Nat.le_of_ble_eq_true rfl) dX10_init_319 (fun H locs hP hD hS => ?_)
  have hP : va_P D vwCl [(h, .inr (10, [.ref qq1, .ref qq2, .int 0, .int 0, .int 0, .int 0, .int 0, .int 0, .int 0, .int 0, .int 0, .ref qq3, .ref qq4, .ref qq5, .ref qq6, .ref qq7, .ref qq8, .ref qq9, .ref qq10, .ref qq11, .ref qq12, .ref qq13, .ref qq14, .ref qq15, .int 0, .int 0, .int 0, .int 0, .int 0, .int 0, .ref qq16, .ref qq17, .ref qq18, .int 0, .ref qq19, .ref qq20, .int 0, .int 0, .int 0, .ref qq21, .null, .null, .null, .int 0, .null, .null, .null, .null, .null, .int 0, .null, .null, .null, .null, .null, .null, .null, .null, .null, .null, .null, .int 0, .int 0, .int 0, .int 0, .int 0, .null, .null, .null, .null, .null, .null, .null, .null, .int 0, .null, .null, .null, .null, .int 0, .null, .null, .null, .int 0, .int 0, .int 0, .int 0, .int 0, .null, .null, .null, .null, .int 0, .int 0, .null, .int 0])), (qq2, .inl (g 1, 1000, .inl (fun _ => 0))), tA g qq4 2 (fun _ => 0), tA g qq11 2 (fun _ => 0), tA g qq13 2 (fun _ => 0), tA g qq14 32 (fun _ => 0), tA g qq15 2 (fun _ => 0)] H := vz_pickP hP [0, 1, 2, 3, 4, 5, 6] rfl
  have hD : va_D A [(h, .inr (10, [.ref qq1, .ref qq2, .int 0, .int 0, .int 0, .int 0, .int 0, .int 0, .int 0, .int 0, .int 0, .ref qq3, .ref qq4, .ref qq5, .ref qq6, .ref qq7, .ref qq8, .ref qq9, .ref qq10, .ref qq11, .ref qq12, .ref qq13, .ref qq14, .ref qq15, .int 0, .int 0, .int 0, .int 0, .int 0, .int 0, .ref qq16, .ref qq17, .ref qq18, .int 0, .ref qq19, .ref qq20, .int 0, .int 0, .int 0, .ref qq21, .null, .null, .null, .int 0, .null, .null, .null, .null, .null, .int 0, .null, .null, .null, .null, .null, .null, .null, .null, .null, .null, .null, .int 0, .int 0, .int 0, .int 0, .int 0, .null, .null, .null, .null, .null, .null, .null, .null, .int 0, .null, .null, .null, .null, .int 0, .null, .null, .null, .int 0, .int 0, .int 0, .int 0, .int 0, .null, .null, .null, .null, .int 0, .int 0, .null, .int 0])), (qq2, .inl (g 1, 1000, .inl (fun _ => 0))), tA g qq4 2 (fun _ => 0), tA g qq11 2 (fun _ => 0), tA g qq13 2 (fun _ => 0), tA g qq14 32 (fun _ => 0), tA g qq15 2 (fun _ => 0)] := hD.sub [0, 1, 2, 3, 4, 5, 6] (by decide) rfl
  refine lv_aload_n hx hb dX10_init_322 rfl (lv_at hl 0 rfl) ?_
  refine lv_bipush (v := 12) hx hb dX10_init_323 (by decide) ?_
  refine vz_newa (t0 := 0) (atype := .int) (ty := .int) (a0 := (12, .inl (fun _ => 0))) hx hb (hts _ q70) rfl rfl (fun _ _ h => h) hK hP hD hS hA (fun _ => rfl) (by decide) (by decide) (by decide) (Nat.le_of_ble_eq_true rfl) (Nat.le_of_ble_eq_true rfl) dX10_init_325 (fun qq22 H hP hD hS => ?_)
  refine W.cs (cells' := 22) (slots' := 13321) rfl rfl ?_
  refine va_putF (D := D) (ci := 10) (v := .ref qq22) (ty := .array .int) (C := RX10) (T := TX10) (N := 96) hx hb hts inlX10 tyX10 tyX10_ok nmX10 hown hK hP hD hS 0 rfl rfl 40 (by decide) (hts _ q214) (fun _ h => h) rfl hin rfl (by decide +kernel) rfl rfl (Nat.le_of_ble_eq_true rfl) dX10_init_327 (fun H locs hP hD hS => ?_)
  have hP : va_P D vwCl [(h, .inr (10, [.ref qq1, .ref qq2, .int 0, .int 0, .int 0, .int 0, .int 0, .int 0, .int 0, .int 0, .int 0, .ref qq3, .ref qq4, .ref qq5, .ref qq6, .ref qq7, .ref qq8, .ref qq9, .ref qq10, .ref qq11, .ref qq12, .ref qq13, .ref qq14, .ref qq15, .int 0, .int 0, .int 0, .int 0, .int 0, .int 0, .ref qq16, .ref qq17, .ref qq18, .int 0, .ref qq19, .ref qq20, .int 0, .int 0, .int 0, .ref qq21, .ref qq22, .null, .null, .int 0, .null, .null, .null, .null, .null, .int 0, .null, .null, .null, .null, .null, .null, .null, .null, .null, .null, .null, .int 0, .int 0, .int 0, .int 0, .int 0, .null, .null, .null, .null, .null, .null, .null, .null, .int 0, .null, .null, .null, .null, .int 0, .null, .null, .null, .int 0, .int 0, .int 0, .int 0, .int 0, .null, .null, .null, .null, .int 0, .int 0, .null, .int 0])), (qq2, .inl (g 1, 1000, .inl (fun _ => 0))), tA g qq4 2 (fun _ => 0), tA g qq11 2 (fun _ => 0), tA g qq13 2 (fun _ => 0), tA g qq14 32 (fun _ => 0), tA g qq15 2 (fun _ => 0)] H := vz_pickP hP [0, 1, 2, 3, 4, 5, 6] rfl
  have hD : va_D A [(h, .inr (10, [.ref qq1, .ref qq2, .int 0, .int 0, .int 0, .int 0, .int 0, .int 0, .int 0, .int 0, .int 0, .ref qq3, .ref qq4, .ref qq5, .ref qq6, .ref qq7, .ref qq8, .ref qq9, .ref qq10, .ref qq11, .ref qq12, .ref qq13, .ref qq14, .ref qq15, .int 0, .int 0, .int 0, .int 0, .int 0, .int 0, .ref qq16, .ref qq17, .ref qq18, .int 0, .ref qq19, .ref qq20, .int 0, .int 0, .int 0, .ref qq21, .ref qq22, .null, .null, .int 0, .null, .null, .null, .null, .null, .int 0, .null, .null, .null, .null, .null, .null, .null, .null, .null, .null, .null, .int 0, .int 0, .int 0, .int 0, .int 0, .null, .null, .null, .null, .null, .null, .null, .null, .int 0, .null, .null, .null, .null, .int 0, .null, .null, .null, .int 0, .int 0, .int 0, .int 0, .int 0, .null, .null, .null, .null, .int 0, .int 0, .null, .int 0])), (qq2, .inl (g 1, 1000, .inl (fun _ => 0))), tA g qq4 2 (fun _ => 0), tA g qq11 2 (fun _ => 0), tA g qq13 2 (fun _ => 0), tA g qq14 32 (fun _ => 0), tA g qq15 2 (fun _ => 0)] := hD.sub [0, 1, 2, 3, 4, 5, 6] (by decide) rfl
  refine lv_aload_n hx hb dX10_init_330 rfl (lv_at hl 0 rfl) ?_
  refine lv_bipush (v := 12) hx hb dX10_init_331 (by decide) ?_
  refine vz_newa (t0 := 0) (atype := .int) (ty := .int) (a0 := (12, .inl (fun _ => 0))) hx hb (hts _ q70) rfl rfl (fun _ _ h => h) hK hP hD hS hA (fun _ => rfl) (by decide) (by decide) (by decide) (Nat.le_of_ble_eq_true rfl) (Nat.le_of_ble_eq_true rfl) dX10_init_333 (fun qq23 H hP hD hS => ?_)
  refine W.cs (cells' := 23) (slots' := 13333) rfl rfl ?_
  refine va_putF (D := D) (ci := 10) (v := .ref qq23) (ty := .array .int) (C := RX10) (T := TX10) (N := 96) hx hb hts inlX10 tyX10 tyX10_ok nmX10 hown hK hP hD hS 0 rfl rfl 41 (by decide) (hts _ q215) (fun _ h => h) rfl hin rfl (by decide +kernel) rfl rfl (Nat.le_of_ble_eq_true rfl) dX10_init_335 (fun H locs hP hD hS => ?_)
  have hP : va_P D vwCl [(h, .inr (10, [.ref qq1, .ref qq2, .int 0, .int 0, .int 0, .int 0, .int 0, .int 0, .int 0, .int 0, .int 0, .ref qq3, .ref qq4, .ref qq5, .ref qq6, .ref qq7, .ref qq8, .ref qq9, .ref qq10, .ref qq11, .ref qq12, .ref qq13, .ref qq14, .ref qq15, .int 0, .int 0, .int 0, .int 0, .int 0, .int 0, .ref qq16, .ref qq17, .ref qq18, .int 0, .ref qq19, .ref qq20, .int 0, .int 0, .int 0, .ref qq21, .ref qq22, .ref qq23, .null, .int 0, .null, .null, .null, .null, .null, .int 0, .null, .null, .null, .null, .null, .null, .null, .null, .null, .null, .null, .int 0, .int 0, .int 0, .int 0, .int 0, .null, .null, .null, .null, .null, .null, .null, .null, .int 0, .null, .null, .null, .null, .int 0, .null, .null, .null, .int 0, .int 0, .int 0, .int 0, .int 0, .null, .null, .null, .null, .int 0, .int 0, .null, .int 0])), (qq2, .inl (g 1, 1000, .inl (fun _ => 0))), tA g qq4 2 (fun _ => 0), tA g qq11 2 (fun _ => 0), tA g qq13 2 (fun _ => 0), tA g qq14 32 (fun _ => 0), tA g qq15 2 (fun _ => 0)] H := vz_pickP hP [0, 1, 2, 3, 4, 5, 6] rfl
  have hD : va_D A [(h, .inr (10, [.ref qq1, .ref qq2, .int 0, .int 0, .int 0, .int 0, .int 0, .int 0, .int 0, .int 0, .int 0, .ref qq3, .ref qq4, .ref qq5, .ref qq6, .ref qq7, .ref qq8, .ref qq9, .ref qq10, .ref qq11, .ref qq12, .ref qq13, .ref qq14, .ref qq15, .int 0, .int 0, .int 0, .int 0, .int 0, .int 0, .ref qq16, .ref qq17, .ref qq18, .int 0, .ref qq19, .ref qq20, .int 0, .int 0, .int 0, .ref qq21, .ref qq22, .ref qq23, .null, .int 0, .null, .null, .null, .null, .null, .int 0, .null, .null, .null, .null, .null, .null, .null, .null, .null, .null, .null, .int 0, .int 0, .int 0, .int 0, .int 0, .null, .null, .null, .null, .null, .null, .null, .null, .int 0, .null, .null, .null, .null, .int 0, .null, .null, .null, .int 0, .int 0, .int 0, .int 0, .int 0, .null, .null, .null, .null, .int 0, .int 0, .null, .int 0])), (qq2, .inl (g 1, 1000, .inl (fun _ => 0))), tA g qq4 2 (fun _ => 0), tA g qq11 2 (fun _ => 0), tA g qq13 2 (fun _ => 0), tA g qq14 32 (fun _ => 0), tA g qq15 2 (fun _ => 0)] := hD.sub [0, 1, 2, 3, 4, 5, 6] (by decide) rfl
  refine lv_aload_n hx hb dX10_init_338 rfl (lv_at hl 0 rfl) ?_
  refine lv_bipush (v := 12) hx hb dX10_init_339 (by decide) ?_
  refine vz_newa (t0 := 0) (atype := .int) (ty := .int) (a0 := (12, .inl (fun _ => 0))) hx hb (hts _ q70) rfl rfl (fun _ _ h => h) hK hP hD hS hA (fun _ => rfl) (by decide) (by decide) (by decide) (Nat.le_of_ble_eq_true rfl) (Nat.le_of_ble_eq_true rfl) dX10_init_341 (fun qq24 H hP hD hS => ?_)
  refine W.cs (cells' := 24) (slots' := 13345) rfl rfl ?_
  refine va_putF (D := D) (ci := 10) (v := .ref qq24) (ty := .array .int) (C := RX10) (T := TX10) (N := 96) hx hb hts inlX10 tyX10 tyX10_ok nmX10 hown hK hP hD hS 0 rfl rfl 42 (by decide) (hts _ q216) (fun _ h => h) rfl hin rfl (by decide +kernel) rfl rfl (Nat.le_of_ble_eq_true rfl) dX10_init_343 (fun H locs hP hD hS => ?_)
  have hP : va_P D vwCl [(h, .inr (10, [.ref qq1, .ref qq2, .int 0, .int 0, .int 0, .int 0, .int 0, .int 0, .int 0, .int 0, .int 0, .ref qq3, .ref qq4, .ref qq5, .ref qq6, .ref qq7, .ref qq8, .ref qq9, .ref qq10, .ref qq11, .ref qq12, .ref qq13, .ref qq14, .ref qq15, .int 0, .int 0, .int 0, .int 0, .int 0, .int 0, .ref qq16, .ref qq17, .ref qq18, .int 0, .ref qq19, .ref qq20, .int 0, .int 0, .int 0, .ref qq21, .ref qq22, .ref qq23, .ref qq24, .int 0, .null, .null, .null, .null, .null, .int 0, .null, .null, .null, .null, .null, .null, .null, .null, .null, .null, .null, .int 0, .int 0, .int 0, .int 0, .int 0, .null, .null, .null, .null, .null, .null, .null, .null, .int 0, .null, .null, .null, .null, .int 0, .null, .null, .null, .int 0, .int 0, .int 0, .int 0, .int 0, .null, .null, .null, .null, .int 0, .int 0, .null, .int 0])), (qq2, .inl (g 1, 1000, .inl (fun _ => 0))), tA g qq4 2 (fun _ => 0), tA g qq11 2 (fun _ => 0), tA g qq13 2 (fun _ => 0), tA g qq14 32 (fun _ => 0), tA g qq15 2 (fun _ => 0)] H := vz_pickP hP [0, 1, 2, 3, 4, 5, 6] rfl
  have hD : va_D A [(h, .inr (10, [.ref qq1, .ref qq2, .int 0, .int 0, .int 0, .int 0, .int 0, .int 0, .int 0, .int 0, .int 0, .ref qq3, .ref qq4, .ref qq5, .ref qq6, .ref qq7, .ref qq8, .ref qq9, .ref qq10, .ref qq11, .ref qq12, .ref qq13, .ref qq14, .ref qq15, .int 0, .int 0, .int 0, .int 0, .int 0, .int 0, .ref qq16, .ref qq17, .ref qq18, .int 0, .ref qq19, .ref qq20, .int 0, .int 0, .int 0, .ref qq21, .ref qq22, .ref qq23, .ref qq24, .int 0, .null, .null, .null, .null, .null, .int 0, .null, .null, .null, .null, .null, .null, .null, .null, .null, .null, .null, .int 0, .int 0, .int 0, .int 0, .int 0, .null, .null, .null, .null, .null, .null, .null, .null, .int 0, .null, .null, .null, .null, .int 0, .null, .null, .null, .int 0, .int 0, .int 0, .int 0, .int 0, .null, .null, .null, .null, .int 0, .int 0, .null, .int 0])), (qq2, .inl (g 1, 1000, .inl (fun _ => 0))), tA g qq4 2 (fun _ => 0), tA g qq11 2 (fun _ => 0), tA g qq13 2 (fun _ => 0), tA g qq14 32 (fun _ => 0), tA g qq15 2 (fun _ => 0)] := hD.sub [0, 1, 2, 3, 4, 5, 6] (by decide) rfl
  refine lv_aload_n hx hb dX10_init_346 rfl (lv_at hl 0 rfl) ?_
  refine lv_bipush (v := 30) hx hb dX10_init_347 (by decide) ?_
  refine vz_newa (t0 := 0) (atype := .int) (ty := .int) (a0 := (30, .inl (fun _ => 0))) hx hb (hts _ q70) rfl rfl (fun _ _ h => h) hK hP hD hS hA (fun _ => rfl) (by decide) (by decide) (by decide) (Nat.le_of_ble_eq_true rfl) (Nat.le_of_ble_eq_true rfl) dX10_init_349 (fun qq25 H hP hD hS => ?_)
  refine W.cs (cells' := 25) (slots' := 13375) rfl rfl ?_
  refine va_putF (D := D) (ci := 10) (v := .ref qq25) (ty := .array .int) (C := RX10) (T := TX10) (N := 96) hx hb hts inlX10 tyX10 tyX10_ok nmX10 hown hK hP hD hS 0 rfl rfl 44 (by decide) (hts _ q217) (fun _ h => h) rfl hin rfl (by decide +kernel) rfl rfl (Nat.le_of_ble_eq_true rfl) dX10_init_351 (fun H locs hP hD hS => ?_)
  have hP : va_P D vwCl [(h, .inr (10, [.ref qq1, .ref qq2, .int 0, .int 0, .int 0, .int 0, .int 0, .int 0, .int 0, .int 0, .int 0, .ref qq3, .ref qq4, .ref qq5, .ref qq6, .ref qq7, .ref qq8, .ref qq9, .ref qq10, .ref qq11, .ref qq12, .ref qq13, .ref qq14, .ref qq15, .int 0, .int 0, .int 0, .int 0, .int 0, .int 0, .ref qq16, .ref qq17, .ref qq18, .int 0, .ref qq19, .ref qq20, .int 0, .int 0, .int 0, .ref qq21, .ref qq22, .ref qq23, .ref qq24, .int 0, .ref qq25, .null, .null, .null, .null, .int 0, .null, .null, .null, .null, .null, .null, .null, .null, .null, .null, .null, .int 0, .int 0, .int 0, .int 0, .int 0, .null, .null, .null, .null, .null, .null, .null, .null, .int 0, .null, .null, .null, .null, .int 0, .null, .null, .null, .int 0, .int 0, .int 0, .int 0, .int 0, .null, .null, .null, .null, .int 0, .int 0, .null, .int 0])), (qq2, .inl (g 1, 1000, .inl (fun _ => 0))), tA g qq4 2 (fun _ => 0), tA g qq11 2 (fun _ => 0), tA g qq13 2 (fun _ => 0), tA g qq14 32 (fun _ => 0), tA g qq15 2 (fun _ => 0)] H := vz_pickP hP [0, 1, 2, 3, 4, 5, 6] rfl
  have hD : va_D A [(h, .inr (10, [.ref qq1, .ref qq2, .int 0, .int 0, .int 0, .int 0, .int 0, .int 0, .int 0, .int 0, .int 0, .ref qq3, .ref qq4, .ref qq5, .ref qq6, .ref qq7, .ref qq8, .ref qq9, .ref qq10, .ref qq11, .ref qq12, .ref qq13, .ref qq14, .ref qq15, .int 0, .int 0, .int 0, .int 0, .int 0, .int 0, .ref qq16, .ref qq17, .ref qq18, .int 0, .ref qq19, .ref qq20, .int 0, .int 0, .int 0, .ref qq21, .ref qq22, .ref qq23, .ref qq24, .int 0, .ref qq25, .null, .null, .null, .null, .int 0, .null, .null, .null, .null, .null, .null, .null, .null, .null, .null, .null, .int 0, .int 0, .int 0, .int 0, .int 0, .null, .null, .null, .null, .null, .null, .null, .null, .int 0, .null, .null, .null, .null, .int 0, .null, .null, .null, .int 0, .int 0, .int 0, .int 0, .int 0, .null, .null, .null, .null, .int 0, .int 0, .null, .int 0])), (qq2, .inl (g 1, 1000, .inl (fun _ => 0))), tA g qq4 2 (fun _ => 0), tA g qq11 2 (fun _ => 0), tA g qq13 2 (fun _ => 0), tA g qq14 32 (fun _ => 0), tA g qq15 2 (fun _ => 0)] := hD.sub [0, 1, 2, 3, 4, 5, 6] (by decide) rfl
  refine lv_aload_n hx hb dX10_init_354 rfl (lv_at hl 0 rfl) ?_
  refine lv_bipush (v := 30) hx hb dX10_init_355 (by decide) ?_
  refine vz_newa (t0 := 0) (atype := .int) (ty := .int) (a0 := (30, .inl (fun _ => 0))) hx hb (hts _ q70) rfl rfl (fun _ _ h => h) hK hP hD hS hA (fun _ => rfl) (by decide) (by decide) (by decide) (Nat.le_of_ble_eq_true rfl) (Nat.le_of_ble_eq_true rfl) dX10_init_357 (fun qq26 H hP hD hS => ?_)
  refine W.cs (cells' := 26) (slots' := 13405) rfl rfl ?_
  refine va_putF (D := D) (ci := 10) (v := .ref qq26) (ty := .array .int) (C := RX10) (T := TX10) (N := 96) hx hb hts inlX10 tyX10 tyX10_ok nmX10 hown hK hP hD hS 0 rfl rfl 45 (by decide) (hts _ q218) (fun _ h => h) rfl hin rfl (by decide +kernel) rfl rfl (Nat.le_of_ble_eq_true rfl) dX10_init_359 (fun H locs hP hD hS => ?_)
  have hP : va_P D vwCl [(h, .inr (10, [.ref qq1, .ref qq2, .int 0, .int 0, .int 0, .int 0, .int 0, .int 0, .int 0, .int 0, .int 0, .ref qq3, .ref qq4, .ref qq5, .ref qq6, .ref qq7, .ref qq8, .ref qq9, .ref qq10, .ref qq11, .ref qq12, .ref qq13, .ref qq14, .ref qq15, .int 0, .int 0, .int 0, .int 0, .int 0, .int 0, .ref qq16, .ref qq17, .ref qq18, .int 0, .ref qq19, .ref qq20, .int 0, .int 0, .int 0, .ref qq21, .ref qq22, .ref qq23, .ref qq24, .int 0, .ref qq25, .ref qq26, .null, .null, .null, .int 0, .null, .null, .null, .null, .null, .null, .null, .null, .null, .null, .null, .int 0, .int 0, .int 0, .int 0, .int 0, .null, .null, .null, .null, .null, .null, .null, .null, .int 0, .null, .null, .null, .null, .int 0, .null, .null, .null, .int 0, .int 0, .int 0, .int 0, .int 0, .null, .null, .null, .null, .int 0, .int 0, .null, .int 0])), (qq2, .inl (g 1, 1000, .inl (fun _ => 0))), tA g qq4 2 (fun _ => 0), tA g qq11 2 (fun _ => 0), tA g qq13 2 (fun _ => 0), tA g qq14 32 (fun _ => 0), tA g qq15 2 (fun _ => 0)] H := vz_pickP hP [0, 1, 2, 3, 4, 5, 6] rfl
  have hD : va_D A [(h, .inr (10, [.ref qq1, .ref qq2, .int 0, .int 0, .int 0, .int 0, .int 0, .int 0, .int 0, .int 0, .int 0, .ref qq3, .ref qq4, .ref qq5, .ref qq6, .ref qq7, .ref qq8, .ref qq9, .ref qq10, .ref qq11, .ref qq12, .ref qq13, .ref qq14, .ref qq15, .int 0, .int 0, .int 0, .int 0, .int 0, .int 0, .ref qq16, .ref qq17, .ref qq18, .int 0, .ref qq19, .ref qq20, .int 0, .int 0, .int 0, .ref qq21, .ref qq22, .ref qq23, .ref qq24, .int 0, .ref qq25, .ref qq26, .null, .null, .null, .int 0, .null, .null, .null, .null, .null, .null, .null, .null, .null, .null, .null, .int 0, .int 0, .int 0, .int 0, .int 0, .null, .null, .null, .null, .null, .null, .null, .null, .int 0, .null, .null, .null, .null, .int 0, .null, .null, .null, .int 0, .int 0, .int 0, .int 0, .int 0, .null, .null, .null, .null, .int 0, .int 0, .null, .int 0])), (qq2, .inl (g 1, 1000, .inl (fun _ => 0))), tA g qq4 2 (fun _ => 0), tA g qq11 2 (fun _ => 0), tA g qq13 2 (fun _ => 0), tA g qq14 32 (fun _ => 0), tA g qq15 2 (fun _ => 0)] := hD.sub [0, 1, 2, 3, 4, 5, 6] (by decide) rfl
  refine lv_aload_n hx hb dX10_init_362 rfl (lv_at hl 0 rfl) ?_
  refine lv_bipush (v := 30) hx hb dX10_init_363 (by decide) ?_
  refine vz_newa (t0 := 0) (atype := .int) (ty := .int) (a0 := (30, .inl (fun _ => 0))) hx hb (hts _ q70) rfl rfl (fun _ _ h => h) hK hP hD hS hA (fun _ => rfl) (by decide) (by decide) (by decide) (Nat.le_of_ble_eq_true rfl) (Nat.le_of_ble_eq_true rfl) dX10_init_365 (fun qq27 H hP hD hS => ?_)
  refine W.cs (cells' := 27) (slots' := 13435) rfl rfl ?_
  refine va_putF (D := D) (ci := 10) (v := .ref qq27) (ty := .array .int) (C := RX10) (T := TX10) (N := 96) hx hb hts inlX10 tyX10 tyX10_ok nmX10 hown hK hP hD hS 0 rfl rfl 46 (by decide) (hts _ q219) (fun _ h => h) rfl hin rfl (by decide +kernel) rfl rfl (Nat.le_of_ble_eq_true rfl) dX10_init_367 (fun H locs hP hD hS => ?_)
  have hP : va_P D vwCl [(h, .inr (10, [.ref qq1, .ref qq2, .int 0, .int 0, .int 0, .int 0, .int 0, .int 0, .int 0, .int 0, .int 0, .ref qq3, .ref qq4, .ref qq5, .ref qq6, .ref qq7, .ref qq8, .ref qq9, .ref qq10, .ref qq11, .ref qq12, .ref qq13, .ref qq14, .ref qq15, .int 0, .int 0, .int 0, .int 0, .int 0, .int 0, .ref qq16, .ref qq17, .ref qq18, .int 0, .ref qq19, .ref qq20, .int 0, .int 0, .int 0, .ref qq21, .ref qq22, .ref qq23, .ref qq24, .int 0, .ref qq25, .ref qq26, .ref qq27, .null, .null, .int 0, .null, .null, .null, .null, .null, .null, .null, .null, .null, .null, .null, .int 0, .int 0, .int 0, .int 0, .int 0, .null, .null, .null, .null, .null, .null, .null, .null, .int 0, .null, .null, .null, .null, .int 0, .null, .null, .null, .int 0, .int 0, .int 0, .int 0, .int 0, .null, .null, .null, .null, .int 0, .int 0, .null, .int 0])), (qq2, .inl (g 1, 1000, .inl (fun _ => 0))), tA g qq4 2 (fun _ => 0), tA g qq11 2 (fun _ => 0), tA g qq13 2 (fun _ => 0), tA g qq14 32 (fun _ => 0), tA g qq15 2 (fun _ => 0)] H := vz_pickP hP [0, 1, 2, 3, 4, 5, 6] rfl
  have hD : va_D A [(h, .inr (10, [.ref qq1, .ref qq2, .int 0, .int 0, .int 0, .int 0, .int 0, .int 0, .int 0, .int 0, .int 0, .ref qq3, .ref qq4, .ref qq5, .ref qq6, .ref qq7, .ref qq8, .ref qq9, .ref qq10, .ref qq11, .ref qq12, .ref qq13, .ref qq14, .ref qq15, .int 0, .int 0, .int 0, .int 0, .int 0, .int 0, .ref qq16, .ref qq17, .ref qq18, .int 0, .ref qq19, .ref qq20, .int 0, .int 0, .int 0, .ref qq21, .ref qq22, .ref qq23, .ref qq24, .int 0, .ref qq25, .ref qq26, .ref qq27, .null, .null, .int 0, .null, .null, .null, .null, .null, .null, .null, .null, .null, .null, .null, .int 0, .int 0, .int 0, .int 0, .int 0, .null, .null, .null, .null, .null, .null, .null, .null, .int 0, .null, .null, .null, .null, .int 0, .null, .null, .null, .int 0, .int 0, .int 0, .int 0, .int 0, .null, .null, .null, .null, .int 0, .int 0, .null, .int 0])), (qq2, .inl (g 1, 1000, .inl (fun _ => 0))), tA g qq4 2 (fun _ => 0), tA g qq11 2 (fun _ => 0), tA g qq13 2 (fun _ => 0), tA g qq14 32 (fun _ => 0), tA g qq15 2 (fun _ => 0)] := hD.sub [0, 1, 2, 3, 4, 5, 6] (by decide) rfl
  refine lv_aload_n hx hb dX10_init_370 rfl (lv_at hl 0 rfl) ?_
  refine lv_bipush (v := 30) hx hb dX10_init_371 (by decide) ?_
  refine vz_newa (t0 := 0) (atype := .int) (ty := .int) (a0 := (30, .inl (fun _ => 0))) hx hb (hts _ q70) rfl rfl (fun _ _ h => h) hK hP hD hS hA (fun _ => rfl) (by decide) (by decide) (by decide) (Nat.le_of_ble_eq_true rfl) (Nat.le_of_ble_eq_true rfl) dX10_init_373 (fun qq28 H hP hD hS => ?_)
  refine W.cs (cells' := 28) (slots' := 13465) rfl rfl ?_
  refine va_putF (D := D) (ci := 10) (v := .ref qq28) (ty := .array .int) (C := RX10) (T := TX10) (N := 96) hx hb hts inlX10 tyX10 tyX10_ok nmX10 hown hK hP hD hS 0 rfl rfl 47 (by decide) (hts _ q220) (fun _ h => h) rfl hin rfl (by decide +kernel) rfl rfl (Nat.le_of_ble_eq_true rfl) dX10_init_375 (fun H locs hP hD hS => ?_)
  have hP : va_P D vwCl [(h, .inr (10, [.ref qq1, .ref qq2, .int 0, .int 0, .int 0, .int 0, .int 0, .int 0, .int 0, .int 0, .int 0, .ref qq3, .ref qq4, .ref qq5, .ref qq6, .ref qq7, .ref qq8, .ref qq9, .ref qq10, .ref qq11, .ref qq12, .ref qq13, .ref qq14, .ref qq15, .int 0, .int 0, .int 0, .int 0, .int 0, .int 0, .ref qq16, .ref qq17, .ref qq18, .int 0, .ref qq19, .ref qq20, .int 0, .int 0, .int 0, .ref qq21, .ref qq22, .ref qq23, .ref qq24, .int 0, .ref qq25, .ref qq26, .ref qq27, .ref qq28, .null, .int 0, .null, .null, .null, .null, .null, .null, .null, .null, .null, .null, .null, .int 0, .int 0, .int 0, .int 0, .int 0, .null, .null, .null, .null, .null, .null, .null, .null, .int 0, .null, .null, .null, .null, .int 0, .null, .null, .null, .int 0, .int 0, .int 0, .int 0, .int 0, .null, .null, .null, .null, .int 0, .int 0, .null, .int 0])), (qq2, .inl (g 1, 1000, .inl (fun _ => 0))), tA g qq4 2 (fun _ => 0), tA g qq11 2 (fun _ => 0), tA g qq13 2 (fun _ => 0), tA g qq14 32 (fun _ => 0), tA g qq15 2 (fun _ => 0)] H := vz_pickP hP [0, 1, 2, 3, 4, 5, 6] rfl
  have hD : va_D A [(h, .inr (10, [.ref qq1, .ref qq2, .int 0, .int 0, .int 0, .int 0, .int 0, .int 0, .int 0, .int 0, .int 0, .ref qq3, .ref qq4, .ref qq5, .ref qq6, .ref qq7, .ref qq8, .ref qq9, .ref qq10, .ref qq11, .ref qq12, .ref qq13, .ref qq14, .ref qq15, .int 0, .int 0, .int 0, .int 0, .int 0, .int 0, .ref qq16, .ref qq17, .ref qq18, .int 0, .ref qq19, .ref qq20, .int 0, .int 0, .int 0, .ref qq21, .ref qq22, .ref qq23, .ref qq24, .int 0, .ref qq25, .ref qq26, .ref qq27, .ref qq28, .null, .int 0, .null, .null, .null, .null, .null, .null, .null, .null, .null, .null, .null, .int 0, .int 0, .int 0, .int 0, .int 0, .null, .null, .null, .null, .null, .null, .null, .null, .int 0, .null, .null, .null, .null, .int 0, .null, .null, .null, .int 0, .int 0, .int 0, .int 0, .int 0, .null, .null, .null, .null, .int 0, .int 0, .null, .int 0])), (qq2, .inl (g 1, 1000, .inl (fun _ => 0))), tA g qq4 2 (fun _ => 0), tA g qq11 2 (fun _ => 0), tA g qq13 2 (fun _ => 0), tA g qq14 32 (fun _ => 0), tA g qq15 2 (fun _ => 0)] := hD.sub [0, 1, 2, 3, 4, 5, 6] (by decide) rfl
  refine lv_aload_n hx hb dX10_init_378 rfl (lv_at hl 0 rfl) ?_
  refine lv_iconst (v := 2) hx hb dX10_init_379 (by decide) ?_
  refine vz_newa (t0 := 3) (atype := .boolean) (ty := .boolean) (a0 := (2, .inl (fun _ => 0))) hx hb (hts _ q221) rfl rfl (fun _ _ h => h) hK hP hD hS hA (fun _ => rfl) (by decide) (by decide) (by decide) (Nat.le_of_ble_eq_true rfl) (Nat.le_of_ble_eq_true rfl) dX10_init_380 (fun qq29 H hP hD hS => ?_)
  refine W.cs (cells' := 29) (slots' := 13467) rfl rfl ?_
  refine va_putF (D := D) (ci := 10) (v := .ref qq29) (ty := .array .boolean) (C := RX10) (T := TX10) (N := 96) hx hb hts inlX10 tyX10 tyX10_ok nmX10 hown hK hP hD hS 0 rfl rfl 48 (by decide) (hts _ q222) (fun _ h => h) rfl hin rfl (by decide +kernel) rfl rfl (Nat.le_of_ble_eq_true rfl) dX10_init_382 (fun H locs hP hD hS => ?_)
  have hP : va_P D vwCl [(h, .inr (10, [.ref qq1, .ref qq2, .int 0, .int 0, .int 0, .int 0, .int 0, .int 0, .int 0, .int 0, .int 0, .ref qq3, .ref qq4, .ref qq5, .ref qq6, .ref qq7, .ref qq8, .ref qq9, .ref qq10, .ref qq11, .ref qq12, .ref qq13, .ref qq14, .ref qq15, .int 0, .int 0, .int 0, .int 0, .int 0, .int 0, .ref qq16, .ref qq17, .ref qq18, .int 0, .ref qq19, .ref qq20, .int 0, .int 0, .int 0, .ref qq21, .ref qq22, .ref qq23, .ref qq24, .int 0, .ref qq25, .ref qq26, .ref qq27, .ref qq28, .ref qq29, .int 0, .null, .null, .null, .null, .null, .null, .null, .null, .null, .null, .null, .int 0, .int 0, .int 0, .int 0, .int 0, .null, .null, .null, .null, .null, .null, .null, .null, .int 0, .null, .null, .null, .null, .int 0, .null, .null, .null, .int 0, .int 0, .int 0, .int 0, .int 0, .null, .null, .null, .null, .int 0, .int 0, .null, .int 0])), (qq2, .inl (g 1, 1000, .inl (fun _ => 0))), tA g qq4 2 (fun _ => 0), tA g qq11 2 (fun _ => 0), tA g qq13 2 (fun _ => 0), tA g qq14 32 (fun _ => 0), tA g qq15 2 (fun _ => 0), (qq29, .inl (g 3, 2, .inl (fun _ => 0)))] H := vz_pickP hP [0, 1, 2, 3, 4, 5, 6, 7] rfl
  have hD : va_D A [(h, .inr (10, [.ref qq1, .ref qq2, .int 0, .int 0, .int 0, .int 0, .int 0, .int 0, .int 0, .int 0, .int 0, .ref qq3, .ref qq4, .ref qq5, .ref qq6, .ref qq7, .ref qq8, .ref qq9, .ref qq10, .ref qq11, .ref qq12, .ref qq13, .ref qq14, .ref qq15, .int 0, .int 0, .int 0, .int 0, .int 0, .int 0, .ref qq16, .ref qq17, .ref qq18, .int 0, .ref qq19, .ref qq20, .int 0, .int 0, .int 0, .ref qq21, .ref qq22, .ref qq23, .ref qq24, .int 0, .ref qq25, .ref qq26, .ref qq27, .ref qq28, .ref qq29, .int 0, .null, .null, .null, .null, .null, .null, .null, .null, .null, .null, .null, .int 0, .int 0, .int 0, .int 0, .int 0, .null, .null, .null, .null, .null, .null, .null, .null, .int 0, .null, .null, .null, .null, .int 0, .null, .null, .null, .int 0, .int 0, .int 0, .int 0, .int 0, .null, .null, .null, .null, .int 0, .int 0, .null, .int 0])), (qq2, .inl (g 1, 1000, .inl (fun _ => 0))), tA g qq4 2 (fun _ => 0), tA g qq11 2 (fun _ => 0), tA g qq13 2 (fun _ => 0), tA g qq14 32 (fun _ => 0), tA g qq15 2 (fun _ => 0), (qq29, .inl (g 3, 2, .inl (fun _ => 0)))] := hD.sub [0, 1, 2, 3, 4, 5, 6, 7] (by decide) rfl
  refine lv_aload_n hx hb dX10_init_385 rfl (lv_at hl 0 rfl) ?_
  refine lv_bipush (v := 30) hx hb dX10_init_386 (by decide) ?_
  refine vz_newa (t0 := 0) (atype := .int) (ty := .int) (a0 := (30, .inl (fun _ => 0))) hx hb (hts _ q70) rfl rfl (fun _ _ h => h) hK hP hD hS hA (fun _ => rfl) (by decide) (by decide) (by decide) (Nat.le_of_ble_eq_true rfl) (Nat.le_of_ble_eq_true rfl) dX10_init_388 (fun qq30 H hP hD hS => ?_)
  refine W.cs (cells' := 30) (slots' := 13497) rfl rfl ?_
  refine va_putF (D := D) (ci := 10) (v := .ref qq30) (ty := .array .int) (C := RX10) (T := TX10) (N := 96) hx hb hts inlX10 tyX10 tyX10_ok nmX10 hown hK hP hD hS 0 rfl rfl 50 (by decide) (hts _ q223) (fun _ h => h) rfl hin rfl (by decide +kernel) rfl rfl (Nat.le_of_ble_eq_true rfl) dX10_init_390 (fun H locs hP hD hS => ?_)
  have hP : va_P D vwCl [(h, .inr (10, [.ref qq1, .ref qq2, .int 0, .int 0, .int 0, .int 0, .int 0, .int 0, .int 0, .int 0, .int 0, .ref qq3, .ref qq4, .ref qq5, .ref qq6, .ref qq7, .ref qq8, .ref qq9, .ref qq10, .ref qq11, .ref qq12, .ref qq13, .ref qq14, .ref qq15, .int 0, .int 0, .int 0, .int 0, .int 0, .int 0, .ref qq16, .ref qq17, .ref qq18, .int 0, .ref qq19, .ref qq20, .int 0, .int 0, .int 0, .ref qq21, .ref qq22, .ref qq23, .ref qq24, .int 0, .ref qq25, .ref qq26, .ref qq27, .ref qq28, .ref qq29, .int 0, .ref qq30, .null, .null, .null, .null, .null, .null, .null, .null, .null, .null, .int 0, .int 0, .int 0, .int 0, .int 0, .null, .null, .null, .null, .null, .null, .null, .null, .int 0, .null, .null, .null, .null, .int 0, .null, .null, .null, .int 0, .int 0, .int 0, .int 0, .int 0, .null, .null, .null, .null, .int 0, .int 0, .null, .int 0])), (qq2, .inl (g 1, 1000, .inl (fun _ => 0))), tA g qq4 2 (fun _ => 0), tA g qq11 2 (fun _ => 0), tA g qq13 2 (fun _ => 0), tA g qq14 32 (fun _ => 0), tA g qq15 2 (fun _ => 0), (qq29, .inl (g 3, 2, .inl (fun _ => 0)))] H := vz_pickP hP [0, 1, 2, 3, 4, 5, 6, 7] rfl
  have hD : va_D A [(h, .inr (10, [.ref qq1, .ref qq2, .int 0, .int 0, .int 0, .int 0, .int 0, .int 0, .int 0, .int 0, .int 0, .ref qq3, .ref qq4, .ref qq5, .ref qq6, .ref qq7, .ref qq8, .ref qq9, .ref qq10, .ref qq11, .ref qq12, .ref qq13, .ref qq14, .ref qq15, .int 0, .int 0, .int 0, .int 0, .int 0, .int 0, .ref qq16, .ref qq17, .ref qq18, .int 0, .ref qq19, .ref qq20, .int 0, .int 0, .int 0, .ref qq21, .ref qq22, .ref qq23, .ref qq24, .int 0, .ref qq25, .ref qq26, .ref qq27, .ref qq28, .ref qq29, .int 0, .ref qq30, .null, .null, .null, .null, .null, .null, .null, .null, .null, .null, .int 0, .int 0, .int 0, .int 0, .int 0, .null, .null, .null, .null, .null, .null, .null, .null, .int 0, .null, .null, .null, .null, .int 0, .null, .null, .null, .int 0, .int 0, .int 0, .int 0, .int 0, .null, .null, .null, .null, .int 0, .int 0, .null, .int 0])), (qq2, .inl (g 1, 1000, .inl (fun _ => 0))), tA g qq4 2 (fun _ => 0), tA g qq11 2 (fun _ => 0), tA g qq13 2 (fun _ => 0), tA g qq14 32 (fun _ => 0), tA g qq15 2 (fun _ => 0), (qq29, .inl (g 3, 2, .inl (fun _ => 0)))] := hD.sub [0, 1, 2, 3, 4, 5, 6, 7] (by decide) rfl
  refine lv_aload_n hx hb dX10_init_393 rfl (lv_at hl 0 rfl) ?_
  refine lv_sipush (v := 1230) hx hb dX10_init_394 (by decide) ?_
  refine vz_newa (t0 := 0) (atype := .int) (ty := .int) (a0 := (1230, .inl (fun _ => 0))) hx hb (hts _ q70) rfl rfl (fun _ _ h => h) hK hP hD hS hA (fun _ => rfl) (by decide) (by decide) (by decide) (Nat.le_of_ble_eq_true rfl) (Nat.le_of_ble_eq_true rfl) dX10_init_397 (fun qq31 H hP hD hS => ?_)
  refine W.cs (cells' := 31) (slots' := 14727) rfl rfl ?_
  refine va_putF (D := D) (ci := 10) (v := .ref qq31) (ty := .array .int) (C := RX10) (T := TX10) (N := 96) hx hb hts inlX10 tyX10 tyX10_ok nmX10 hown hK hP hD hS 0 rfl rfl 51 (by decide) (hts _ q224) (fun _ h => h) rfl hin rfl (by decide +kernel) rfl rfl (Nat.le_of_ble_eq_true rfl) dX10_init_399 (fun H locs hP hD hS => ?_)
  have hP : va_P D vwCl [(h, .inr (10, [.ref qq1, .ref qq2, .int 0, .int 0, .int 0, .int 0, .int 0, .int 0, .int 0, .int 0, .int 0, .ref qq3, .ref qq4, .ref qq5, .ref qq6, .ref qq7, .ref qq8, .ref qq9, .ref qq10, .ref qq11, .ref qq12, .ref qq13, .ref qq14, .ref qq15, .int 0, .int 0, .int 0, .int 0, .int 0, .int 0, .ref qq16, .ref qq17, .ref qq18, .int 0, .ref qq19, .ref qq20, .int 0, .int 0, .int 0, .ref qq21, .ref qq22, .ref qq23, .ref qq24, .int 0, .ref qq25, .ref qq26, .ref qq27, .ref qq28, .ref qq29, .int 0, .ref qq30, .ref qq31, .null, .null, .null, .null, .null, .null, .null, .null, .null, .int 0, .int 0, .int 0, .int 0, .int 0, .null, .null, .null, .null, .null, .null, .null, .null, .int 0, .null, .null, .null, .null, .int 0, .null, .null, .null, .int 0, .int 0, .int 0, .int 0, .int 0, .null, .null, .null, .null, .int 0, .int 0, .null, .int 0])), (qq2, .inl (g 1, 1000, .inl (fun _ => 0))), tA g qq4 2 (fun _ => 0), tA g qq11 2 (fun _ => 0), tA g qq13 2 (fun _ => 0), tA g qq14 32 (fun _ => 0), tA g qq15 2 (fun _ => 0), (qq29, .inl (g 3, 2, .inl (fun _ => 0)))] H := vz_pickP hP [0, 1, 2, 3, 4, 5, 6, 7] rfl
  have hD : va_D A [(h, .inr (10, [.ref qq1, .ref qq2, .int 0, .int 0, .int 0, .int 0, .int 0, .int 0, .int 0, .int 0, .int 0, .ref qq3, .ref qq4, .ref qq5, .ref qq6, .ref qq7, .ref qq8, .ref qq9, .ref qq10, .ref qq11, .ref qq12, .ref qq13, .ref qq14, .ref qq15, .int 0, .int 0, .int 0, .int 0, .int 0, .int 0, .ref qq16, .ref qq17, .ref qq18, .int 0, .ref qq19, .ref qq20, .int 0, .int 0, .int 0, .ref qq21, .ref qq22, .ref qq23, .ref qq24, .int 0, .ref qq25, .ref qq26, .ref qq27, .ref qq28, .ref qq29, .int 0, .ref qq30, .ref qq31, .null, .null, .null, .null, .null, .null, .null, .null, .null, .int 0, .int 0, .int 0, .int 0, .int 0, .null, .null, .null, .null, .null, .null, .null, .null, .int 0, .null, .null, .null, .null, .int 0, .null, .null, .null, .int 0, .int 0, .int 0, .int 0, .int 0, .null, .null, .null, .null, .int 0, .int 0, .null, .int 0])), (qq2, .inl (g 1, 1000, .inl (fun _ => 0))), tA g qq4 2 (fun _ => 0), tA g qq11 2 (fun _ => 0), tA g qq13 2 (fun _ => 0), tA g qq14 32 (fun _ => 0), tA g qq15 2 (fun _ => 0), (qq29, .inl (g 3, 2, .inl (fun _ => 0)))] := hD.sub [0, 1, 2, 3, 4, 5, 6, 7] (by decide) rfl
  refine lv_aload_n hx hb dX10_init_402 rfl (lv_at hl 0 rfl) ?_
  refine lv_sipush (v := 1260) hx hb dX10_init_403 (by decide) ?_
  refine vz_newa (t0 := 0) (atype := .int) (ty := .int) (a0 := (1260, .inl (fun _ => 0))) hx hb (hts _ q70) rfl rfl (fun _ _ h => h) hK hP hD hS hA (fun _ => rfl) (by decide) (by decide) (by decide) (Nat.le_of_ble_eq_true rfl) (Nat.le_of_ble_eq_true rfl) dX10_init_406 (fun qq32 H hP hD hS => ?_)
  refine W.cs (cells' := 32) (slots' := 15987) rfl rfl ?_
  refine va_putF (D := D) (ci := 10) (v := .ref qq32) (ty := .array .int) (C := RX10) (T := TX10) (N := 96) hx hb hts inlX10 tyX10 tyX10_ok nmX10 hown hK hP hD hS 0 rfl rfl 52 (by decide) (hts _ q225) (fun _ h => h) rfl hin rfl (by decide +kernel) rfl rfl (Nat.le_of_ble_eq_true rfl) dX10_init_408 (fun H locs hP hD hS => ?_)
  have hP : va_P D vwCl [(h, .inr (10, [.ref qq1, .ref qq2, .int 0, .int 0, .int 0, .int 0, .int 0, .int 0, .int 0, .int 0, .int 0, .ref qq3, .ref qq4, .ref qq5, .ref qq6, .ref qq7, .ref qq8, .ref qq9, .ref qq10, .ref qq11, .ref qq12, .ref qq13, .ref qq14, .ref qq15, .int 0, .int 0, .int 0, .int 0, .int 0, .int 0, .ref qq16, .ref qq17, .ref qq18, .int 0, .ref qq19, .ref qq20, .int 0, .int 0, .int 0, .ref qq21, .ref qq22, .ref qq23, .ref qq24, .int 0, .ref qq25, .ref qq26, .ref qq27, .ref qq28, .ref qq29, .int 0, .ref qq30, .ref qq31, .ref qq32, .null, .null, .null, .null, .null, .null, .null, .null, .int 0, .int 0, .int 0, .int 0, .int 0, .null, .null, .null, .null, .null, .null, .null, .null, .int 0, .null, .null, .null, .null, .int 0, .null, .null, .null, .int 0, .int 0, .int 0, .int 0, .int 0, .null, .null, .null, .null, .int 0, .int 0, .null, .int 0])), (qq2, .inl (g 1, 1000, .inl (fun _ => 0))), tA g qq4 2 (fun _ => 0), tA g qq11 2 (fun _ => 0), tA g qq13 2 (fun _ => 0), tA g qq14 32 (fun _ => 0), tA g qq15 2 (fun _ => 0), (qq29, .inl (g 3, 2, .inl (fun _ => 0)))] H := vz_pickP hP [0, 1, 2, 3, 4, 5, 6, 7] rfl
  have hD : va_D A [(h, .inr (10, [.ref qq1, .ref qq2, .int 0, .int 0, .int 0, .int 0, .int 0, .int 0, .int 0, .int 0, .int 0, .ref qq3, .ref qq4, .ref qq5, .ref qq6, .ref qq7, .ref qq8, .ref qq9, .ref qq10, .ref qq11, .ref qq12, .ref qq13, .ref qq14, .ref qq15, .int 0, .int 0, .int 0, .int 0, .int 0, .int 0, .ref qq16, .ref qq17, .ref qq18, .int 0, .ref qq19, .ref qq20, .int 0, .int 0, .int 0, .ref qq21, .ref qq22, .ref qq23, .ref qq24, .int 0, .ref qq25, .ref qq26, .ref qq27, .ref qq28, .ref qq29, .int 0, .ref qq30, .ref qq31, .ref qq32, .null, .null, .null, .null, .null, .null, .null, .null, .int 0, .int 0, .int 0, .int 0, .int 0, .null, .null, .null, .null, .null, .null, .null, .null, .int 0, .null, .null, .null, .null, .int 0, .null, .null, .null, .int 0, .int 0, .int 0, .int 0, .int 0, .null, .null, .null, .null, .int 0, .int 0, .null, .int 0])), (qq2, .inl (g 1, 1000, .inl (fun _ => 0))), tA g qq4 2 (fun _ => 0), tA g qq11 2 (fun _ => 0), tA g qq13 2 (fun _ => 0), tA g qq14 32 (fun _ => 0), tA g qq15 2 (fun _ => 0), (qq29, .inl (g 3, 2, .inl (fun _ => 0)))] := hD.sub [0, 1, 2, 3, 4, 5, 6, 7] (by decide) rfl
  refine lv_aload_n hx hb dX10_init_411 rfl (lv_at hl 0 rfl) ?_
  refine lv_sipush (v := 1260) hx hb dX10_init_412 (by decide) ?_
  refine vz_newa (t0 := 0) (atype := .int) (ty := .int) (a0 := (1260, .inl (fun _ => 0))) hx hb (hts _ q70) rfl rfl (fun _ _ h => h) hK hP hD hS hA (fun _ => rfl) (by decide) (by decide) (by decide) (Nat.le_of_ble_eq_true rfl) (Nat.le_of_ble_eq_true rfl) dX10_init_415 (fun qq33 H hP hD hS => ?_)
  refine W.cs (cells' := 33) (slots' := 17247) rfl rfl ?_
  refine va_putF (D := D) (ci := 10) (v := .ref qq33) (ty := .array .int) (C := RX10) (T := TX10) (N := 96) hx hb hts inlX10 tyX10 tyX10_ok nmX10 hown hK hP hD hS 0 rfl rfl 53 (by decide) (hts _ q226) (fun _ h => h) rfl hin rfl (by decide +kernel) rfl rfl (Nat.le_of_ble_eq_true rfl) dX10_init_417 (fun H locs hP hD hS => ?_)
  have hP : va_P D vwCl [(h, .inr (10, [.ref qq1, .ref qq2, .int 0, .int 0, .int 0, .int 0, .int 0, .int 0, .int 0, .int 0, .int 0, .ref qq3, .ref qq4, .ref qq5, .ref qq6, .ref qq7, .ref qq8, .ref qq9, .ref qq10, .ref qq11, .ref qq12, .ref qq13, .ref qq14, .ref qq15, .int 0, .int 0, .int 0, .int 0, .int 0, .int 0, .ref qq16, .ref qq17, .ref qq18, .int 0, .ref qq19, .ref qq20, .int 0, .int 0, .int 0, .ref qq21, .ref qq22, .ref qq23, .ref qq24, .int 0, .ref qq25, .ref qq26, .ref qq27, .ref qq28, .ref qq29, .int 0, .ref qq30, .ref qq31, .ref qq32, .ref qq33, .null, .null, .null, .null, .null, .null, .null, .int 0, .int 0, .int 0, .int 0, .int 0, .null, .null, .null, .null, .null, .null, .null, .null, .int 0, .null, .null, .null, .null, .int 0, .null, .null, .null, .int 0, .int 0, .int 0, .int 0, .int 0, .null, .null, .null, .null, .int 0, .int 0, .null, .int 0])), (qq2, .inl (g 1, 1000, .inl (fun _ => 0))), tA g qq4 2 (fun _ => 0), tA g qq11 2 (fun _ => 0), tA g qq13 2 (fun _ => 0), tA g qq14 32 (fun _ => 0), tA g qq15 2 (fun _ => 0), (qq29, .inl (g 3, 2, .inl (fun _ => 0)))] H := vz_pickP hP [0, 1, 2, 3, 4, 5, 6, 7] rfl
  have hD : va_D A [(h, .inr (10, [.ref qq1, .ref qq2, .int 0, .int 0, .int 0, .int 0, .int 0, .int 0, .int 0, .int 0, .int 0, .ref qq3, .ref qq4, .ref qq5, .ref qq6, .ref qq7, .ref qq8, .ref qq9, .ref qq10, .ref qq11, .ref qq12, .ref qq13, .ref qq14, .ref qq15, .int 0, .int 0, .int 0, .int 0, .int 0, .int 0, .ref qq16, .ref qq17, .ref qq18, .int 0, .ref qq19, .ref qq20, .int 0, .int 0, .int 0, .ref qq21, .ref qq22, .ref qq23, .ref qq24, .int 0, .ref qq25, .ref qq26, .ref qq27, .ref qq28, .ref qq29, .int 0, .ref qq30, .ref qq31, .ref qq32, .ref qq33, .null, .null, .null, .null, .null, .null, .null, .int 0, .int 0, .int 0, .int 0, .int 0, .null, .null, .null, .null, .null, .null, .null, .null, .int 0, .null, .null, .null, .null, .int 0, .null, .null, .null, .int 0, .int 0, .int 0, .int 0, .int 0, .null, .null, .null, .null, .int 0, .int 0, .null, .int 0])), (qq2, .inl (g 1, 1000, .inl (fun _ => 0))), tA g qq4 2 (fun _ => 0), tA g qq11 2 (fun _ => 0), tA g qq13 2 (fun _ => 0), tA g qq14 32 (fun _ => 0), tA g qq15 2 (fun _ => 0), (qq29, .inl (g 3, 2, .inl (fun _ => 0)))] := hD.sub [0, 1, 2, 3, 4, 5, 6, 7] (by decide) rfl
  refine lv_aload_n hx hb dX10_init_420 rfl (lv_at hl 0 rfl) ?_
  refine lv_sipush (v := 1260) hx hb dX10_init_421 (by decide) ?_
  refine vz_newa (t0 := 0) (atype := .int) (ty := .int) (a0 := (1260, .inl (fun _ => 0))) hx hb (hts _ q70) rfl rfl (fun _ _ h => h) hK hP hD hS hA (fun _ => rfl) (by decide) (by decide) (by decide) (Nat.le_of_ble_eq_true rfl) (Nat.le_of_ble_eq_true rfl) dX10_init_424 (fun qq34 H hP hD hS => ?_)
  refine W.cs (cells' := 34) (slots' := 18507) rfl rfl ?_
  refine va_putF (D := D) (ci := 10) (v := .ref qq34) (ty := .array .int) (C := RX10) (T := TX10) (N := 96) hx hb hts inlX10 tyX10 tyX10_ok nmX10 hown hK hP hD hS 0 rfl rfl 54 (by decide) (hts _ q227) (fun _ h => h) rfl hin rfl (by decide +kernel) rfl rfl (Nat.le_of_ble_eq_true rfl) dX10_init_426 (fun H locs hP hD hS => ?_)
  have hP : va_P D vwCl [(h, .inr (10, [.ref qq1, .ref qq2, .int 0, .int 0, .int 0, .int 0, .int 0, .int 0, .int 0, .int 0, .int 0, .ref qq3, .ref qq4, .ref qq5, .ref qq6, .ref qq7, .ref qq8, .ref qq9, .ref qq10, .ref qq11, .ref qq12, .ref qq13, .ref qq14, .ref qq15, .int 0, .int 0, .int 0, .int 0, .int 0, .int 0, .ref qq16, .ref qq17, .ref qq18, .int 0, .ref qq19, .ref qq20, .int 0, .int 0, .int 0, .ref qq21, .ref qq22, .ref qq23, .ref qq24, .int 0, .ref qq25, .ref qq26, .ref qq27, .ref qq28, .ref qq29, .int 0, .ref qq30, .ref qq31, .ref qq32, .ref qq33, .ref qq34, .null, .null, .null, .null, .null, .null, .int 0, .int 0, .int 0, .int 0, .int 0, .null, .null, .null, .null, .null, .null, .null, .null, .int 0, .null, .null, .null, .null, .int 0, .null, .null, .null, .int 0, .int 0, .int 0, .int 0, .int 0, .null, .null, .null, .null, .int 0, .int 0, .null, .int 0])), (qq2, .inl (g 1, 1000, .inl (fun _ => 0))), tA g qq4 2 (fun _ => 0), tA g qq11 2 (fun _ => 0), tA g qq13 2 (fun _ => 0), tA g qq14 32 (fun _ => 0), tA g qq15 2 (fun _ => 0), (qq29, .inl (g 3, 2, .inl (fun _ => 0)))] H := vz_pickP hP [0, 1, 2, 3, 4, 5, 6, 7] rfl
  have hD : va_D A [(h, .inr (10, [.ref qq1, .ref qq2, .int 0, .int 0, .int 0, .int 0, .int 0, .int 0, .int 0, .int 0, .int 0, .ref qq3, .ref qq4, .ref qq5, .ref qq6, .ref qq7, .ref qq8, .ref qq9, .ref qq10, .ref qq11, .ref qq12, .ref qq13, .ref qq14, .ref qq15, .int 0, .int 0, .int 0, .int 0, .int 0, .int 0, .ref qq16, .ref qq17, .ref qq18, .int 0, .ref qq19, .ref qq20, .int 0, .int 0, .int 0, .ref qq21, .ref qq22, .ref qq23, .ref qq24, .int 0, .ref qq25, .ref qq26, .ref qq27, .ref qq28, .ref qq29, .int 0, .ref qq30, .ref qq31, .ref qq32, .ref qq33, .ref qq34, .null, .null, .null, .null, .null, .null, .int 0, .int 0, .int 0, .int 0, .int 0, .null, .null, .null, .null, .null, .null, .null, .null, .int 0, .null, .null, .null, .null, .int 0, .null, .null, .null, .int 0, .int 0, .int 0, .int 0, .int 0, .null, .null, .null, .null, .int 0, .int 0, .null, .int 0])), (qq2, .inl (g 1, 1000, .inl (fun _ => 0))), tA g qq4 2 (fun _ => 0), tA g qq11 2 (fun _ => 0), tA g qq13 2 (fun _ => 0), tA g qq14 32 (fun _ => 0), tA g qq15 2 (fun _ => 0), (qq29, .inl (g 3, 2, .inl (fun _ => 0)))] := hD.sub [0, 1, 2, 3, 4, 5, 6, 7] (by decide) rfl
  refine lv_aload_n hx hb dX10_init_429 rfl (lv_at hl 0 rfl) ?_
  refine lv_sipush (v := 1260) hx hb dX10_init_430 (by decide) ?_
  refine vz_newa (t0 := 0) (atype := .int) (ty := .int) (a0 := (1260, .inl (fun _ => 0))) hx hb (hts _ q70) rfl rfl (fun _ _ h => h) hK hP hD hS hA (fun _ => rfl) (by decide) (by decide) (by decide) (Nat.le_of_ble_eq_true rfl) (Nat.le_of_ble_eq_true rfl) dX10_init_433 (fun qq35 H hP hD hS => ?_)
  refine W.cs (cells' := 35) (slots' := 19767) rfl rfl ?_
  refine va_putF (D := D) (ci := 10) (v := .ref qq35) (ty := .array .int) (C := RX10) (T := TX10) (N := 96) hx hb hts inlX10 tyX10 tyX10_ok nmX10 hown hK hP hD hS 0 rfl rfl 55 (by decide) (hts _ q228) (fun _ h => h) rfl hin rfl (by decide +kernel) rfl rfl (Nat.le_of_ble_eq_true rfl) dX10_init_435 (fun H locs hP hD hS => ?_)
  have hP : va_P D vwCl [(h, .inr (10, [.ref qq1, .ref qq2, .int 0, .int 0, .int 0, .int 0, .int 0, .int 0, .int 0, .int 0, .int 0, .ref qq3, .ref qq4, .ref qq5, .ref qq6, .ref qq7, .ref qq8, .ref qq9, .ref qq10, .ref qq11, .ref qq12, .ref qq13, .ref qq14, .ref qq15, .int 0, .int 0, .int 0, .int 0, .int 0, .int 0, .ref qq16, .ref qq17, .ref qq18, .int 0, .ref qq19, .ref qq20, .int 0, .int 0, .int 0, .ref qq21, .ref qq22, .ref qq23, .ref qq24, .int 0, .ref qq25, .ref qq26, .ref qq27, .ref qq28, .ref qq29, .int 0, .ref qq30, .ref qq31, .ref qq32, .ref qq33, .ref qq34, .ref qq35, .null, .null, .null, .null, .null, .int 0, .int 0, .int 0, .int 0, .int 0, .null, .null, .null, .null, .null, .null, .null, .null, .int 0, .null, .null, .null, .null, .int 0, .null, .null, .null, .int 0, .int 0, .int 0, .int 0, .int 0, .null, .null, .null, .null, .int 0, .int 0, .null, .int 0])), (qq2, .inl (g 1, 1000, .inl (fun _ => 0))), tA g qq4 2 (fun _ => 0), tA g qq11 2 (fun _ => 0), tA g qq13 2 (fun _ => 0), tA g qq14 32 (fun _ => 0), tA g qq15 2 (fun _ => 0), (qq29, .inl (g 3, 2, .inl (fun _ => 0)))] H := vz_pickP hP [0, 1, 2, 3, 4, 5, 6, 7] rfl
  have hD : va_D A [(h, .inr (10, [.ref qq1, .ref qq2, .int 0, .int 0, .int 0, .int 0, .int 0, .int 0, .int 0, .int 0, .int 0, .ref qq3, .ref qq4, .ref qq5, .ref qq6, .ref qq7, .ref qq8, .ref qq9, .ref qq10, .ref qq11, .ref qq12, .ref qq13, .ref qq14, .ref qq15, .int 0, .int 0, .int 0, .int 0, .int 0, .int 0, .ref qq16, .ref qq17, .ref qq18, .int 0, .ref qq19, .ref qq20, .int 0, .int 0, .int 0, .ref qq21, .ref qq22, .ref qq23, .ref qq24, .int 0, .ref qq25, .ref qq26, .ref qq27, .ref qq28, .ref qq29, .int 0, .ref qq30, .ref qq31, .ref qq32, .ref qq33, .ref qq34, .ref qq35, .null, .null, .null, .null, .null, .int 0, .int 0, .int 0, .int 0, .int 0, .null, .null, .null, .null, .null, .null, .null, .null, .int 0, .null, .null, .null, .null, .int 0, .null, .null, .null, .int 0, .int 0, .int 0, .int 0, .int 0, .null, .null, .null, .null, .int 0, .int 0, .null, .int 0])), (qq2, .inl (g 1, 1000, .inl (fun _ => 0))), tA g qq4 2 (fun _ => 0), tA g qq11 2 (fun _ => 0), tA g qq13 2 (fun _ => 0), tA g qq14 32 (fun _ => 0), tA g qq15 2 (fun _ => 0), (qq29, .inl (g 3, 2, .inl (fun _ => 0)))] := hD.sub [0, 1, 2, 3, 4, 5, 6, 7] (by decide) rfl
  refine lv_aload_n hx hb dX10_init_438 rfl (lv_at hl 0 rfl) ?_
  refine lv_sipush (v := 1260) hx hb dX10_init_439 (by decide) ?_
  refine vz_newa (t0 := 0) (atype := .int) (ty := .int) (a0 := (1260, .inl (fun _ => 0))) hx hb (hts _ q70) rfl rfl (fun _ _ h => h) hK hP hD hS hA (fun _ => rfl) (by decide) (by decide) (by decide) (Nat.le_of_ble_eq_true rfl) (Nat.le_of_ble_eq_true rfl) dX10_init_442 (fun qq36 H hP hD hS => ?_)
  refine W.cs (cells' := 36) (slots' := 21027) rfl rfl ?_
  refine va_putF (D := D) (ci := 10) (v := .ref qq36) (ty := .array .int) (C := RX10) (T := TX10) (N := 96) hx hb hts inlX10 tyX10 tyX10_ok nmX10 hown hK hP hD hS 0 rfl rfl 56 (by decide) (hts _ q229) (fun _ h => h) rfl hin rfl (by decide +kernel) rfl rfl (Nat.le_of_ble_eq_true rfl) dX10_init_444 (fun H locs hP hD hS => ?_)
  have hP : va_P D vwCl [(h, .inr (10, [.ref qq1, .ref qq2, .int 0, .int 0, .int 0, .int 0, .int 0, .int 0, .int 0, .int 0, .int 0, .ref qq3, .ref qq4, .ref qq5, .ref qq6, .ref qq7, .ref qq8, .ref qq9, .ref qq10, .ref qq11, .ref qq12, .ref qq13, .ref qq14, .ref qq15, .int 0, .int 0, .int 0, .int 0, .int 0, .int 0, .ref qq16, .ref qq17, .ref qq18, .int 0, .ref qq19, .ref qq20, .int 0, .int 0, .int 0, .ref qq21, .ref qq22, .ref qq23, .ref qq24, .int 0, .ref qq25, .ref qq26, .ref qq27, .ref qq28, .ref qq29, .int 0, .ref qq30, .ref qq31, .ref qq32, .ref qq33, .ref qq34, .ref qq35, .ref qq36, .null, .null, .null, .null, .int 0, .int 0, .int 0, .int 0, .int 0, .null, .null, .null, .null, .null, .null, .null, .null, .int 0, .null, .null, .null, .null, .int 0, .null, .null, .null, .int 0, .int 0, .int 0, .int 0, .int 0, .null, .null, .null, .null, .int 0, .int 0, .null, .int 0])), (qq2, .inl (g 1, 1000, .inl (fun _ => 0))), tA g qq4 2 (fun _ => 0), tA g qq11 2 (fun _ => 0), tA g qq13 2 (fun _ => 0), tA g qq14 32 (fun _ => 0), tA g qq15 2 (fun _ => 0), (qq29, .inl (g 3, 2, .inl (fun _ => 0)))] H := vz_pickP hP [0, 1, 2, 3, 4, 5, 6, 7] rfl
  have hD : va_D A [(h, .inr (10, [.ref qq1, .ref qq2, .int 0, .int 0, .int 0, .int 0, .int 0, .int 0, .int 0, .int 0, .int 0, .ref qq3, .ref qq4, .ref qq5, .ref qq6, .ref qq7, .ref qq8, .ref qq9, .ref qq10, .ref qq11, .ref qq12, .ref qq13, .ref qq14, .ref qq15, .int 0, .int 0, .int 0, .int 0, .int 0, .int 0, .ref qq16, .ref qq17, .ref qq18, .int 0, .ref qq19, .ref qq20, .int 0, .int 0, .int 0, .ref qq21, .ref qq22, .ref qq23, .ref qq24, .int 0, .ref qq25, .ref qq26, .ref qq27, .ref qq28, .ref qq29, .int 0, .ref qq30, .ref qq31, .ref qq32, .ref qq33, .ref qq34, .ref qq35, .ref qq36, .null, .null, .null, .null, .int 0, .int 0, .int 0, .int 0, .int 0, .null, .null, .null, .null, .null, .null, .null, .null, .int 0, .null, .null, .null, .null, .int 0, .null, .null, .null, .int 0, .int 0, .int 0, .int 0, .int 0, .null, .null, .null, .null, .int 0, .int 0, .null, .int 0])), (qq2, .inl (g 1, 1000, .inl (fun _ => 0))), tA g qq4 2 (fun _ => 0), tA g qq11 2 (fun _ => 0), tA g qq13 2 (fun _ => 0), tA g qq14 32 (fun _ => 0), tA g qq15 2 (fun _ => 0), (qq29, .inl (g 3, 2, .inl (fun _ => 0)))] := hD.sub [0, 1, 2, 3, 4, 5, 6, 7] (by decide) rfl
  refine lv_aload_n hx hb dX10_init_447 rfl (lv_at hl 0 rfl) ?_
  refine lv_sipush (v := 1260) hx hb dX10_init_448 (by decide) ?_
  refine vz_newa (t0 := 0) (atype := .int) (ty := .int) (a0 := (1260, .inl (fun _ => 0))) hx hb (hts _ q70) rfl rfl (fun _ _ h => h) hK hP hD hS hA (fun _ => rfl) (by decide) (by decide) (by decide) (Nat.le_of_ble_eq_true rfl) (Nat.le_of_ble_eq_true rfl) dX10_init_451 (fun qq37 H hP hD hS => ?_)
  refine W.cs (cells' := 37) (slots' := 22287) rfl rfl ?_
  refine va_putF (D := D) (ci := 10) (v := .ref qq37) (ty := .array .int) (C := RX10) (T := TX10) (N := 96) hx hb hts inlX10 tyX10 tyX10_ok nmX10 hown hK hP hD hS 0 rfl rfl 57 (by decide) (hts _ q230) (fun _ h => h) rfl hin rfl (by decide +kernel) rfl rfl (Nat.le_of_ble_eq_true rfl) dX10_init_453 (fun H locs hP hD hS => ?_)
  have hP : va_P D vwCl [(h, .inr (10, [.ref qq1, .ref qq2, .int 0, .int 0, .int 0, .int 0, .int 0, .int 0, .int 0, .int 0, .int 0, .ref qq3, .ref qq4, .ref qq5, .ref qq6, .ref qq7, .ref qq8, .ref qq9, .ref qq10, .ref qq11, .ref qq12, .ref qq13, .ref qq14, .ref qq15, .int 0, .int 0, .int 0, .int 0, .int 0, .int 0, .ref qq16, .ref qq17, .ref qq18, .int 0, .ref qq19, .ref qq20, .int 0, .int 0, .int 0, .ref qq21, .ref qq22, .ref qq23, .ref qq24, .int 0, .ref qq25, .ref qq26, .ref qq27, .ref qq28, .ref qq29, .int 0, .ref qq30, .ref qq31, .ref qq32, .ref qq33, .ref qq34, .ref qq35, .ref qq36, .ref qq37, .null, .null, .null, .int 0, .int 0, .int 0, .int 0, .int 0, .null, .null, .null, .null, .null, .null, .null, .null, .int 0, .null, .null, .null, .null, .int 0, .null, .null, .null, .int 0, .int 0, .int 0, .int 0, .int 0, .null, .null, .null, .null, .int 0, .int 0, .null, .int 0])), (qq2, .inl (g 1, 1000, .inl (fun _ => 0))), tA g qq4 2 (fun _ => 0), tA g qq11 2 (fun _ => 0), tA g qq13 2 (fun _ => 0), tA g qq14 32 (fun _ => 0), tA g qq15 2 (fun _ => 0), (qq29, .inl (g 3, 2, .inl (fun _ => 0)))] H := vz_pickP hP [0, 1, 2, 3, 4, 5, 6, 7] rfl
  have hD : va_D A [(h, .inr (10, [.ref qq1, .ref qq2, .int 0, .int 0, .int 0, .int 0, .int 0, .int 0, .int 0, .int 0, .int 0, .ref qq3, .ref qq4, .ref qq5, .ref qq6, .ref qq7, .ref qq8, .ref qq9, .ref qq10, .ref qq11, .ref qq12, .ref qq13, .ref qq14, .ref qq15, .int 0, .int 0, .int 0, .int 0, .int 0, .int 0, .ref qq16, .ref qq17, .ref qq18, .int 0, .ref qq19, .ref qq20, .int 0, .int 0, .int 0, .ref qq21, .ref qq22, .ref qq23, .ref qq24, .int 0, .ref qq25, .ref qq26, .ref qq27, .ref qq28, .ref qq29, .int 0, .ref qq30, .ref qq31, .ref qq32, .ref qq33, .ref qq34, .ref qq35, .ref qq36, .ref qq37, .null, .null, .null, .int 0, .int 0, .int 0, .int 0, .int 0, .null, .null, .null, .null, .null, .null, .null, .null, .int 0, .null, .null, .null, .null, .int 0, .null, .null, .null, .int 0, .int 0, .int 0, .int 0, .int 0, .null, .null, .null, .null, .int 0, .int 0, .null, .int 0])), (qq2, .inl (g 1, 1000, .inl (fun _ => 0))), tA g qq4 2 (fun _ => 0), tA g qq11 2 (fun _ => 0), tA g qq13 2 (fun _ => 0), tA g qq14 32 (fun _ => 0), tA g qq15 2 (fun _ => 0), (qq29, .inl (g 3, 2, .inl (fun _ => 0)))] := hD.sub [0, 1, 2, 3, 4, 5, 6, 7] (by decide) rfl
  refine lv_aload_n hx hb dX10_init_456 rfl (lv_at hl 0 rfl) ?_
  refine lv_sipush (v := 15120) hx hb dX10_init_457 (by decide) ?_
  refine vz_newa (t0 := 0) (atype := .int) (ty := .int) (a0 := (15120, .inl (fun _ => 0))) hx hb (hts _ q70) rfl rfl (fun _ _ h => h) hK hP hD hS hA (fun _ => rfl) (by decide) (by decide) (by decide) (Nat.le_of_ble_eq_true rfl) (Nat.le_of_ble_eq_true rfl) dX10_init_460 (fun qq38 H hP hD hS => ?_)
  refine W.cs (cells' := 38) (slots' := 37407) rfl rfl ?_
  refine va_putF (D := D) (ci := 10) (v := .ref qq38) (ty := .array .int) (C := RX10) (T := TX10) (N := 96) hx hb hts inlX10 tyX10 tyX10_ok nmX10 hown hK hP hD hS 0 rfl rfl 58 (by decide) (hts _ q231) (fun _ h => h) rfl hin rfl (by decide +kernel) rfl rfl (Nat.le_of_ble_eq_true rfl) dX10_init_462 (fun H locs hP hD hS => ?_)
  have hP : va_P D vwCl [(h, .inr (10, [.ref qq1, .ref qq2, .int 0, .int 0, .int 0, .int 0, .int 0, .int 0, .int 0, .int 0, .int 0, .ref qq3, .ref qq4, .ref qq5, .ref qq6, .ref qq7, .ref qq8, .ref qq9, .ref qq10, .ref qq11, .ref qq12, .ref qq13, .ref qq14, .ref qq15, .int 0, .int 0, .int 0, .int 0, .int 0, .int 0, .ref qq16, .ref qq17, .ref qq18, .int 0, .ref qq19, .ref qq20, .int 0, .int 0, .int 0, .ref qq21, .ref qq22, .ref qq23, .ref qq24, .int 0, .ref qq25, .ref qq26, .ref qq27, .ref qq28, .ref qq29, .int 0, .ref qq30, .ref qq31, .ref qq32, .ref qq33, .ref qq34, .ref qq35, .ref qq36, .ref qq37, .ref qq38, .null, .null, .int 0, .int 0, .int 0, .int 0, .int 0, .null, .null, .null, .null, .null, .null, .null, .null, .int 0, .null, .null, .null, .null, .int 0, .null, .null, .null, .int 0, .int 0, .int 0, .int 0, .int 0, .null, .null, .null, .null, .int 0, .int 0, .null, .int 0])), (qq2, .inl (g 1, 1000, .inl (fun _ => 0))), tA g qq4 2 (fun _ => 0), tA g qq11 2 (fun _ => 0), tA g qq13 2 (fun _ => 0), tA g qq14 32 (fun _ => 0), tA g qq15 2 (fun _ => 0), (qq29, .inl (g 3, 2, .inl (fun _ => 0)))] H := vz_pickP hP [0, 1, 2, 3, 4, 5, 6, 7] rfl
  have hD : va_D A [(h, .inr (10, [.ref qq1, .ref qq2, .int 0, .int 0, .int 0, .int 0, .int 0, .int 0, .int 0, .int 0, .int 0, .ref qq3, .ref qq4, .ref qq5, .ref qq6, .ref qq7, .ref qq8, .ref qq9, .ref qq10, .ref qq11, .ref qq12, .ref qq13, .ref qq14, .ref qq15, .int 0, .int 0, .int 0, .int 0, .int 0, .int 0, .ref qq16, .ref qq17, .ref qq18, .int 0, .ref qq19, .ref qq20, .int 0, .int 0, .int 0, .ref qq21, .ref qq22, .ref qq23, .ref qq24, .int 0, .ref qq25, .ref qq26, .ref qq27, .ref qq28, .ref qq29, .int 0, .ref qq30, .ref qq31, .ref qq32, .ref qq33, .ref qq34, .ref qq35, .ref qq36, .ref qq37, .ref qq38, .null, .null, .int 0, .int 0, .int 0, .int 0, .int 0, .null, .null, .null, .null, .null, .null, .null, .null, .int 0, .null, .null, .null, .null, .int 0, .null, .null, .null, .int 0, .int 0, .int 0, .int 0, .int 0, .null, .null, .null, .null, .int 0, .int 0, .null, .int 0])), (qq2, .inl (g 1, 1000, .inl (fun _ => 0))), tA g qq4 2 (fun _ => 0), tA g qq11 2 (fun _ => 0), tA g qq13 2 (fun _ => 0), tA g qq14 32 (fun _ => 0), tA g qq15 2 (fun _ => 0), (qq29, .inl (g 3, 2, .inl (fun _ => 0)))] := hD.sub [0, 1, 2, 3, 4, 5, 6, 7] (by decide) rfl
  refine lv_aload_n hx hb dX10_init_465 rfl (lv_at hl 0 rfl) ?_
  refine lv_sipush (v := 1230) hx hb dX10_init_466 (by decide) ?_
  refine vz_newa (t0 := 0) (atype := .int) (ty := .int) (a0 := (1230, .inl (fun _ => 0))) hx hb (hts _ q70) rfl rfl (fun _ _ h => h) hK hP hD hS hA (fun _ => rfl) (by decide) (by decide) (by decide) (Nat.le_of_ble_eq_true rfl) (Nat.le_of_ble_eq_true rfl) dX10_init_469 (fun qq39 H hP hD hS => ?_)
  refine W.cs (cells' := 39) (slots' := 38637) rfl rfl ?_
  refine va_putF (D := D) (ci := 10) (v := .ref qq39) (ty := .array .int) (C := RX10) (T := TX10) (N := 96) hx hb hts inlX10 tyX10 tyX10_ok nmX10 hown hK hP hD hS 0 rfl rfl 59 (by decide) (hts _ q232) (fun _ h => h) rfl hin rfl (by decide +kernel) rfl rfl (Nat.le_of_ble_eq_true rfl) dX10_init_471 (fun H locs hP hD hS => ?_)
  have hP : va_P D vwCl [(h, .inr (10, [.ref qq1, .ref qq2, .int 0, .int 0, .int 0, .int 0, .int 0, .int 0, .int 0, .int 0, .int 0, .ref qq3, .ref qq4, .ref qq5, .ref qq6, .ref qq7, .ref qq8, .ref qq9, .ref qq10, .ref qq11, .ref qq12, .ref qq13, .ref qq14, .ref qq15, .int 0, .int 0, .int 0, .int 0, .int 0, .int 0, .ref qq16, .ref qq17, .ref qq18, .int 0, .ref qq19, .ref qq20, .int 0, .int 0, .int 0, .ref qq21, .ref qq22, .ref qq23, .ref qq24, .int 0, .ref qq25, .ref qq26, .ref qq27, .ref qq28, .ref qq29, .int 0, .ref qq30, .ref qq31, .ref qq32, .ref qq33, .ref qq34, .ref qq35, .ref qq36, .ref qq37, .ref qq38, .ref qq39, .null, .int 0, .int 0, .int 0, .int 0, .int 0, .null, .null, .null, .null, .null, .null, .null, .null, .int 0, .null, .null, .null, .null, .int 0, .null, .null, .null, .int 0, .int 0, .int 0, .int 0, .int 0, .null, .null, .null, .null, .int 0, .int 0, .null, .int 0])), (qq2, .inl (g 1, 1000, .inl (fun _ => 0))), tA g qq4 2 (fun _ => 0), tA g qq11 2 (fun _ => 0), tA g qq13 2 (fun _ => 0), tA g qq14 32 (fun _ => 0), tA g qq15 2 (fun _ => 0), (qq29, .inl (g 3, 2, .inl (fun _ => 0)))] H := vz_pickP hP [0, 1, 2, 3, 4, 5, 6, 7] rfl
  have hD : va_D A [(h, .inr (10, [.ref qq1, .ref qq2, .int 0, .int 0, .int 0, .int 0, .int 0, .int 0, .int 0, .int 0, .int 0, .ref qq3, .ref qq4, .ref qq5, .ref qq6, .ref qq7, .ref qq8, .ref qq9, .ref qq10, .ref qq11, .ref qq12, .ref qq13, .ref qq14, .ref qq15, .int 0, .int 0, .int 0, .int 0, .int 0, .int 0, .ref qq16, .ref qq17, .ref qq18, .int 0, .ref qq19, .ref qq20, .int 0, .int 0, .int 0, .ref qq21, .ref qq22, .ref qq23, .ref qq24, .int 0, .ref qq25, .ref qq26, .ref qq27, .ref qq28, .ref qq29, .int 0, .ref qq30, .ref qq31, .ref qq32, .ref qq33, .ref qq34, .ref qq35, .ref qq36, .ref qq37, .ref qq38, .ref qq39, .null, .int 0, .int 0, .int 0, .int 0, .int 0, .null, .null, .null, .null, .null, .null, .null, .null, .int 0, .null, .null, .null, .null, .int 0, .null, .null, .null, .int 0, .int 0, .int 0, .int 0, .int 0, .null, .null, .null, .null, .int 0, .int 0, .null, .int 0])), (qq2, .inl (g 1, 1000, .inl (fun _ => 0))), tA g qq4 2 (fun _ => 0), tA g qq11 2 (fun _ => 0), tA g qq13 2 (fun _ => 0), tA g qq14 32 (fun _ => 0), tA g qq15 2 (fun _ => 0), (qq29, .inl (g 3, 2, .inl (fun _ => 0)))] := hD.sub [0, 1, 2, 3, 4, 5, 6, 7] (by decide) rfl
  refine lv_aload_n hx hb dX10_init_474 rfl (lv_at hl 0 rfl) ?_
  refine lv_sipush (v := 240) hx hb dX10_init_475 (by decide) ?_
  refine vz_newa (t0 := 0) (atype := .int) (ty := .int) (a0 := (240, .inl (fun _ => 0))) hx hb (hts _ q70) rfl rfl (fun _ _ h => h) hK hP hD hS hA (fun _ => rfl) (by decide) (by decide) (by decide) (Nat.le_of_ble_eq_true rfl) (Nat.le_of_ble_eq_true rfl) dX10_init_478 (fun qq40 H hP hD hS => ?_)
  refine W.cs (cells' := 40) (slots' := 38877) rfl rfl ?_
  refine va_putF (D := D) (ci := 10) (v := .ref qq40) (ty := .array .int) (C := RX10) (T := TX10) (N := 96) hx hb hts inlX10 tyX10 tyX10_ok nmX10 hown hK hP hD hS 0 rfl rfl 60 (by decide) (hts _ q233) (fun _ h => h) rfl hin rfl (by decide +kernel) rfl rfl (Nat.le_of_ble_eq_true rfl) dX10_init_480 (fun H locs hP hD hS => ?_)
  have hP : va_P D vwCl [(h, .inr (10, [.ref qq1, .ref qq2, .int 0, .int 0, .int 0, .int 0, .int 0, .int 0, .int 0, .int 0, .int 0, .ref qq3, .ref qq4, .ref qq5, .ref qq6, .ref qq7, .ref qq8, .ref qq9, .ref qq10, .ref qq11, .ref qq12, .ref qq13, .ref qq14, .ref qq15, .int 0, .int 0, .int 0, .int 0, .int 0, .int 0, .ref qq16, .ref qq17, .ref qq18, .int 0, .ref qq19, .ref qq20, .int 0, .int 0, .int 0, .ref qq21, .ref qq22, .ref qq23, .ref qq24, .int 0, .ref qq25, .ref qq26, .ref qq27, .ref qq28, .ref qq29, .int 0, .ref qq30, .ref qq31, .ref qq32, .ref qq33, .ref qq34, .ref qq35, .ref qq36, .ref qq37, .ref qq38, .ref qq39, .ref qq40, .int 0, .int 0, .int 0, .int 0, .int 0, .null, .null, .null, .null, .null, .null, .null, .null, .int 0, .null, .null, .null, .null, .int 0, .null, .null, .null, .int 0, .int 0, .int 0, .int 0, .int 0, .null, .null, .null, .null, .int 0, .int 0, .null, .int 0])), (qq2, .inl (g 1, 1000, .inl (fun _ => 0))), tA g qq4 2 (fun _ => 0), tA g qq11 2 (fun _ => 0), tA g qq13 2 (fun _ => 0), tA g qq14 32 (fun _ => 0), tA g qq15 2 (fun _ => 0), (qq29, .inl (g 3, 2, .inl (fun _ => 0)))] H := vz_pickP hP [0, 1, 2, 3, 4, 5, 6, 7] rfl
  have hD : va_D A [(h, .inr (10, [.ref qq1, .ref qq2, .int 0, .int 0, .int 0, .int 0, .int 0, .int 0, .int 0, .int 0, .int 0, .ref qq3, .ref qq4, .ref qq5, .ref qq6, .ref qq7, .ref qq8, .ref qq9, .ref qq10, .ref qq11, .ref qq12, .ref qq13, .ref qq14, .ref qq15, .int 0, .int 0, .int 0, .int 0, .int 0, .int 0, .ref qq16, .ref qq17, .ref qq18, .int 0, .ref qq19, .ref qq20, .int 0, .int 0, .int 0, .ref qq21, .ref qq22, .ref qq23, .ref qq24, .int 0, .ref qq25, .ref qq26, .ref qq27, .ref qq28, .ref qq29, .int 0, .ref qq30, .ref qq31, .ref qq32, .ref qq33, .ref qq34, .ref qq35, .ref qq36, .ref qq37, .ref qq38, .ref qq39, .ref qq40, .int 0, .int 0, .int 0, .int 0, .int 0, .null, .null, .null, .null, .null, .null, .null, .null, .int 0, .null, .null, .null, .null, .int 0, .null, .null, .null, .int 0, .int 0, .int 0, .int 0, .int 0, .null, .null, .null, .null, .int 0, .int 0, .null, .int 0])), (qq2, .inl (g 1, 1000, .inl (fun _ => 0))), tA g qq4 2 (fun _ => 0), tA g qq11 2 (fun _ => 0), tA g qq13 2 (fun _ => 0), tA g qq14 32 (fun _ => 0), tA g qq15 2 (fun _ => 0), (qq29, .inl (g 3, 2, .inl (fun _ => 0)))] := hD.sub [0, 1, 2, 3, 4, 5, 6, 7] (by decide) rfl
  refine lv_aload_n hx hb dX10_init_483 rfl (lv_at hl 0 rfl) ?_
  refine lv_sipush (v := 400) hx hb dX10_init_484 (by decide) ?_
  refine vz_newa (t0 := 0) (atype := .int) (ty := .int) (a0 := (400, .inl (fun _ => 0))) hx hb (hts _ q70) rfl rfl (fun _ _ h => h) hK hP hD hS hA (fun _ => rfl) (by decide) (by decide) (by decide) (Nat.le_of_ble_eq_true rfl) (Nat.le_of_ble_eq_true rfl) dX10_init_487 (fun qq41 H hP hD hS => ?_)
  refine W.cs (cells' := 41) (slots' := 39277) rfl rfl ?_
  refine va_putF (D := D) (ci := 10) (v := .ref qq41) (ty := .array .int) (C := RX10) (T := TX10) (N := 96) hx hb hts inlX10 tyX10 tyX10_ok nmX10 hown hK hP hD hS 0 rfl rfl 66 (by decide) (hts _ q234) (fun _ h => h) rfl hin rfl (by decide +kernel) rfl rfl (Nat.le_of_ble_eq_true rfl) dX10_init_489 (fun H locs hP hD hS => ?_)
  have hP : va_P D vwCl [(h, .inr (10, [.ref qq1, .ref qq2, .int 0, .int 0, .int 0, .int 0, .int 0, .int 0, .int 0, .int 0, .int 0, .ref qq3, .ref qq4, .ref qq5, .ref qq6, .ref qq7, .ref qq8, .ref qq9, .ref qq10, .ref qq11, .ref qq12, .ref qq13, .ref qq14, .ref qq15, .int 0, .int 0, .int 0, .int 0, .int 0, .int 0, .ref qq16, .ref qq17, .ref qq18, .int 0, .ref qq19, .ref qq20, .int 0, .int 0, .int 0, .ref qq21, .ref qq22, .ref qq23, .ref qq24, .int 0, .ref qq25, .ref qq26, .ref qq27, .ref qq28, .ref qq29, .int 0, .ref qq30, .ref qq31, .ref qq32, .ref qq33, .ref qq34, .ref qq35, .ref qq36, .ref qq37, .ref qq38, .ref qq39, .ref qq40, .int 0, .int 0, .int 0, .int 0, .int 0, .ref qq41, .null, .null, .null, .null, .null, .null, .null, .int 0, .null, .null, .null, .null, .int 0, .null, .null, .null, .int 0, .int 0, .int 0, .int 0, .int 0, .null, .null, .null, .null, .int 0, .int 0, .null, .int 0])), (qq2, .inl (g 1, 1000, .inl (fun _ => 0))), tA g qq4 2 (fun _ => 0), tA g qq11 2 (fun _ => 0), tA g qq13 2 (fun _ => 0), tA g qq14 32 (fun _ => 0), tA g qq15 2 (fun _ => 0), (qq29, .inl (g 3, 2, .inl (fun _ => 0)))] H := vz_pickP hP [0, 1, 2, 3, 4, 5, 6, 7] rfl
  have hD : va_D A [(h, .inr (10, [.ref qq1, .ref qq2, .int 0, .int 0, .int 0, .int 0, .int 0, .int 0, .int 0, .int 0, .int 0, .ref qq3, .ref qq4, .ref qq5, .ref qq6, .ref qq7, .ref qq8, .ref qq9, .ref qq10, .ref qq11, .ref qq12, .ref qq13, .ref qq14, .ref qq15, .int 0, .int 0, .int 0, .int 0, .int 0, .int 0, .ref qq16, .ref qq17, .ref qq18, .int 0, .ref qq19, .ref qq20, .int 0, .int 0, .int 0, .ref qq21, .ref qq22, .ref qq23, .ref qq24, .int 0, .ref qq25, .ref qq26, .ref qq27, .ref qq28, .ref qq29, .int 0, .ref qq30, .ref qq31, .ref qq32, .ref qq33, .ref qq34, .ref qq35, .ref qq36, .ref qq37, .ref qq38, .ref qq39, .ref qq40, .int 0, .int 0, .int 0, .int 0, .int 0, .ref qq41, .null, .null, .null, .null, .null, .null, .null, .int 0, .null, .null, .null, .null, .int 0, .null, .null, .null, .int 0, .int 0, .int 0, .int 0, .int 0, .null, .null, .null, .null, .int 0, .int 0, .null, .int 0])), (qq2, .inl (g 1, 1000, .inl (fun _ => 0))), tA g qq4 2 (fun _ => 0), tA g qq11 2 (fun _ => 0), tA g qq13 2 (fun _ => 0), tA g qq14 32 (fun _ => 0), tA g qq15 2 (fun _ => 0), (qq29, .inl (g 3, 2, .inl (fun _ => 0)))] := hD.sub [0, 1, 2, 3, 4, 5, 6, 7] (by decide) rfl
  refine lv_aload_n hx hb dX10_init_492 rfl (lv_at hl 0 rfl) ?_
  refine lv_sipush (v := 400) hx hb dX10_init_493 (by decide) ?_
  refine vz_newa (t0 := 0) (atype := .int) (ty := .int) (a0 := (400, .inl (fun _ => 0))) hx hb (hts _ q70) rfl rfl (fun _ _ h => h) hK hP hD hS hA (fun _ => rfl) (by decide) (by decide) (by decide) (Nat.le_of_ble_eq_true rfl) (Nat.le_of_ble_eq_true rfl) dX10_init_496 (fun qq42 H hP hD hS => ?_)
  refine W.cs (cells' := 42) (slots' := 39677) rfl rfl ?_
  refine va_putF (D := D) (ci := 10) (v := .ref qq42) (ty := .array .int) (C := RX10) (T := TX10) (N := 96) hx hb hts inlX10 tyX10 tyX10_ok nmX10 hown hK hP hD hS 0 rfl rfl 67 (by decide) (hts _ q235) (fun _ h => h) rfl hin rfl (by decide +kernel) rfl rfl (Nat.le_of_ble_eq_true rfl) dX10_init_498 (fun H locs hP hD hS => ?_)
  have hP : va_P D vwCl [(h, .inr (10, [.ref qq1, .ref qq2, .int 0, .int 0, .int 0, .int 0, .int 0, .int 0, .int 0, .int 0, .int 0, .ref qq3, .ref qq4, .ref qq5, .ref qq6, .ref qq7, .ref qq8, .ref qq9, .ref qq10, .ref qq11, .ref qq12, .ref qq13, .ref qq14, .ref qq15, .int 0, .int 0, .int 0, .int 0, .int 0, .int 0, .ref qq16, .ref qq17, .ref qq18, .int 0, .ref qq19, .ref qq20, .int 0, .int 0, .int 0, .ref qq21, .ref qq22, .ref qq23, .ref qq24, .int 0, .ref qq25, .ref qq26, .ref qq27, .ref qq28, .ref qq29, .int 0, .ref qq30, .ref qq31, .ref qq32, .ref qq33, .ref qq34, .ref qq35, .ref qq36, .ref qq37, .ref qq38, .ref qq39, .ref qq40, .int 0, .int 0, .int 0, .int 0, .int 0, .ref qq41, .ref qq42, .null, .null, .null, .null, .null, .null, .int 0, .null, .null, .null, .null, .int 0, .null, .null, .null, .int 0, .int 0, .int 0, .int 0, .int 0, .null, .null, .null, .null, .int 0, .int 0, .null, .int 0])), (qq2, .inl (g 1, 1000, .inl (fun _ => 0))), tA g qq4 2 (fun _ => 0), tA g qq11 2 (fun _ => 0), tA g qq13 2 (fun _ => 0), tA g qq14 32 (fun _ => 0), tA g qq15 2 (fun _ => 0), (qq29, .inl (g 3, 2, .inl (fun _ => 0)))] H := vz_pickP hP [0, 1, 2, 3, 4, 5, 6, 7] rfl
  have hD : va_D A [(h, .inr (10, [.ref qq1, .ref qq2, .int 0, .int 0, .int 0, .int 0, .int 0, .int 0, .int 0, .int 0, .int 0, .ref qq3, .ref qq4, .ref qq5, .ref qq6, .ref qq7, .ref qq8, .ref qq9, .ref qq10, .ref qq11, .ref qq12, .ref qq13, .ref qq14, .ref qq15, .int 0, .int 0, .int 0, .int 0, .int 0, .int 0, .ref qq16, .ref qq17, .ref qq18, .int 0, .ref qq19, .ref qq20, .int 0, .int 0, .int 0, .ref qq21, .ref qq22, .ref qq23, .ref qq24, .int 0, .ref qq25, .ref qq26, .ref qq27, .ref qq28, .ref qq29, .int 0, .ref qq30, .ref qq31, .ref qq32, .ref qq33, .ref qq34, .ref qq35, .ref qq36, .ref qq37, .ref qq38, .ref qq39, .ref qq40, .int 0, .int 0, .int 0, .int 0, .int 0, .ref qq41, .ref qq42, .null, .null, .null, .null, .null, .null, .int 0, .null, .null, .null, .null, .int 0, .null, .null, .null, .int 0, .int 0, .int 0, .int 0, .int 0, .null, .null, .null, .null, .int 0, .int 0, .null, .int 0])), (qq2, .inl (g 1, 1000, .inl (fun _ => 0))), tA g qq4 2 (fun _ => 0), tA g qq11 2 (fun _ => 0), tA g qq13 2 (fun _ => 0), tA g qq14 32 (fun _ => 0), tA g qq15 2 (fun _ => 0), (qq29, .inl (g 3, 2, .inl (fun _ => 0)))] := hD.sub [0, 1, 2, 3, 4, 5, 6, 7] (by decide) rfl
  refine lv_aload_n hx hb dX10_init_501 rfl (lv_at hl 0 rfl) ?_
  refine lv_sipush (v := 400) hx hb dX10_init_502 (by decide) ?_
  refine vz_newa (t0 := 0) (atype := .int) (ty := .int) (a0 := (400, .inl (fun _ => 0))) hx hb (hts _ q70) rfl rfl (fun _ _ h => h) hK hP hD hS hA (fun _ => rfl) (by decide) (by decide) (by decide) (Nat.le_of_ble_eq_true rfl) (Nat.le_of_ble_eq_true rfl) dX10_init_505 (fun qq43 H hP hD hS => ?_)
  refine W.cs (cells' := 43) (slots' := 40077) rfl rfl ?_
  refine va_putF (D := D) (ci := 10) (v := .ref qq43) (ty := .array .int) (C := RX10) (T := TX10) (N := 96) hx hb hts inlX10 tyX10 tyX10_ok nmX10 hown hK hP hD hS 0 rfl rfl 68 (by decide) (hts _ q236) (fun _ h => h) rfl hin rfl (by decide +kernel) rfl rfl (Nat.le_of_ble_eq_true rfl) dX10_init_507 (fun H locs hP hD hS => ?_)
  have hP : va_P D vwCl [(h, .inr (10, [.ref qq1, .ref qq2, .int 0, .int 0, .int 0, .int 0, .int 0, .int 0, .int 0, .int 0, .int 0, .ref qq3, .ref qq4, .ref qq5, .ref qq6, .ref qq7, .ref qq8, .ref qq9, .ref qq10, .ref qq11, .ref qq12, .ref qq13, .ref qq14, .ref qq15, .int 0, .int 0, .int 0, .int 0, .int 0, .int 0, .ref qq16, .ref qq17, .ref qq18, .int 0, .ref qq19, .ref qq20, .int 0, .int 0, .int 0, .ref qq21, .ref qq22, .ref qq23, .ref qq24, .int 0, .ref qq25, .ref qq26, .ref qq27, .ref qq28, .ref qq29, .int 0, .ref qq30, .ref qq31, .ref qq32, .ref qq33, .ref qq34, .ref qq35, .ref qq36, .ref qq37, .ref qq38, .ref qq39, .ref qq40, .int 0, .int 0, .int 0, .int 0, .int 0, .ref qq41, .ref qq42, .ref qq43, .null, .null, .null, .null, .null, .int 0, .null, .null, .null, .null, .int 0, .null, .null, .null, .int 0, .int 0, .int 0, .int 0, .int 0, .null, .null, .null, .null, .int 0, .int 0, .null, .int 0])), (qq2, .inl (g 1, 1000, .inl (fun _ => 0))), tA g qq4 2 (fun _ => 0), tA g qq11 2 (fun _ => 0), tA g qq13 2 (fun _ => 0), tA g qq14 32 (fun _ => 0), tA g qq15 2 (fun _ => 0), (qq29, .inl (g 3, 2, .inl (fun _ => 0)))] H := vz_pickP hP [0, 1, 2, 3, 4, 5, 6, 7] rfl
  have hD : va_D A [(h, .inr (10, [.ref qq1, .ref qq2, .int 0, .int 0, .int 0, .int 0, .int 0, .int 0, .int 0, .int 0, .int 0, .ref qq3, .ref qq4, .ref qq5, .ref qq6, .ref qq7, .ref qq8, .ref qq9, .ref qq10, .ref qq11, .ref qq12, .ref qq13, .ref qq14, .ref qq15, .int 0, .int 0, .int 0, .int 0, .int 0, .int 0, .ref qq16, .ref qq17, .ref qq18, .int 0, .ref qq19, .ref qq20, .int 0, .int 0, .int 0, .ref qq21, .ref qq22, .ref qq23, .ref qq24, .int 0, .ref qq25, .ref qq26, .ref qq27, .ref qq28, .ref qq29, .int 0, .ref qq30, .ref qq31, .ref qq32, .ref qq33, .ref qq34, .ref qq35, .ref qq36, .ref qq37, .ref qq38, .ref qq39, .ref qq40, .int 0, .int 0, .int 0, .int 0, .int 0, .ref qq41, .ref qq42, .ref qq43, .null, .null, .null, .null, .null, .int 0, .null, .null, .null, .null, .int 0, .null, .null, .null, .int 0, .int 0, .int 0, .int 0, .int 0, .null, .null, .null, .null, .int 0, .int 0, .null, .int 0])), (qq2, .inl (g 1, 1000, .inl (fun _ => 0))), tA g qq4 2 (fun _ => 0), tA g qq11 2 (fun _ => 0), tA g qq13 2 (fun _ => 0), tA g qq14 32 (fun _ => 0), tA g qq15 2 (fun _ => 0), (qq29, .inl (g 3, 2, .inl (fun _ => 0)))] := hD.sub [0, 1, 2, 3, 4, 5, 6, 7] (by decide) rfl
  refine lv_aload_n hx hb dX10_init_510 rfl (lv_at hl 0 rfl) ?_
  refine lv_sipush (v := 400) hx hb dX10_init_511 (by decide) ?_
  refine vz_newa (t0 := 0) (atype := .int) (ty := .int) (a0 := (400, .inl (fun _ => 0))) hx hb (hts _ q70) rfl rfl (fun _ _ h => h) hK hP hD hS hA (fun _ => rfl) (by decide) (by decide) (by decide) (Nat.le_of_ble_eq_true rfl) (Nat.le_of_ble_eq_true rfl) dX10_init_514 (fun qq44 H hP hD hS => ?_)
  refine W.cs (cells' := 44) (slots' := 40477) rfl rfl ?_
  refine va_putF (D := D) (ci := 10) (v := .ref qq44) (ty := .array .int) (C := RX10) (T := TX10) (N := 96) hx hb hts inlX10 tyX10 tyX10_ok nmX10 hown hK hP hD hS 0 rfl rfl 69 (by decide) (hts _ q237) (fun _ h => h) rfl hin rfl (by decide +kernel) rfl rfl (Nat.le_of_ble_eq_true rfl) dX10_init_516 (fun H locs hP hD hS => ?_)
  have hP : va_P D vwCl [(h, .inr (10, [.ref qq1, .ref qq2, .int 0, .int 0, .int 0, .int 0, .int 0, .int 0, .int 0, .int 0, .int 0, .ref qq3, .ref qq4, .ref qq5, .ref qq6, .ref qq7, .ref qq8, .ref qq9, .ref qq10, .ref qq11, .ref qq12, .ref qq13, .ref qq14, .ref qq15, .int 0, .int 0, .int 0, .int 0, .int 0, .int 0, .ref qq16, .ref qq17, .ref qq18, .int 0, .ref qq19, .ref qq20, .int 0, .int 0, .int 0, .ref qq21, .ref qq22, .ref qq23, .ref qq24, .int 0, .ref qq25, .ref qq26, .ref qq27, .ref qq28, .ref qq29, .int 0, .ref qq30, .ref qq31, .ref qq32, .ref qq33, .ref qq34, .ref qq35, .ref qq36, .ref qq37, .ref qq38, .ref qq39, .ref qq40, .int 0, .int 0, .int 0, .int 0, .int 0, .ref qq41, .ref qq42, .ref qq43, .ref qq44, .null, .null, .null, .null, .int 0, .null, .null, .null, .null, .int 0, .null, .null, .null, .int 0, .int 0, .int 0, .int 0, .int 0, .null, .null, .null, .null, .int 0, .int 0, .null, .int 0])), (qq2, .inl (g 1, 1000, .inl (fun _ => 0))), tA g qq4 2 (fun _ => 0), tA g qq11 2 (fun _ => 0), tA g qq13 2 (fun _ => 0), tA g qq14 32 (fun _ => 0), tA g qq15 2 (fun _ => 0), (qq29, .inl (g 3, 2, .inl (fun _ => 0)))] H := vz_pickP hP [0, 1, 2, 3, 4, 5, 6, 7] rfl
  have hD : va_D A [(h, .inr (10, [.ref qq1, .ref qq2, .int 0, .int 0, .int 0, .int 0, .int 0, .int 0, .int 0, .int 0, .int 0, .ref qq3, .ref qq4, .ref qq5, .ref qq6, .ref qq7, .ref qq8, .ref qq9, .ref qq10, .ref qq11, .ref qq12, .ref qq13, .ref qq14, .ref qq15, .int 0, .int 0, .int 0, .int 0, .int 0, .int 0, .ref qq16, .ref qq17, .ref qq18, .int 0, .ref qq19, .ref qq20, .int 0, .int 0, .int 0, .ref qq21, .ref qq22, .ref qq23, .ref qq24, .int 0, .ref qq25, .ref qq26, .ref qq27, .ref qq28, .ref qq29, .int 0, .ref qq30, .ref qq31, .ref qq32, .ref qq33, .ref qq34, .ref qq35, .ref qq36, .ref qq37, .ref qq38, .ref qq39, .ref qq40, .int 0, .int 0, .int 0, .int 0, .int 0, .ref qq41, .ref qq42, .ref qq43, .ref qq44, .null, .null, .null, .null, .int 0, .null, .null, .null, .null, .int 0, .null, .null, .null, .int 0, .int 0, .int 0, .int 0, .int 0, .null, .null, .null, .null, .int 0, .int 0, .null, .int 0])), (qq2, .inl (g 1, 1000, .inl (fun _ => 0))), tA g qq4 2 (fun _ => 0), tA g qq11 2 (fun _ => 0), tA g qq13 2 (fun _ => 0), tA g qq14 32 (fun _ => 0), tA g qq15 2 (fun _ => 0), (qq29, .inl (g 3, 2, .inl (fun _ => 0)))] := hD.sub [0, 1, 2, 3, 4, 5, 6, 7] (by decide) rfl
  refine lv_aload_n hx hb dX10_init_519 rfl (lv_at hl 0 rfl) ?_
  refine lv_sipush (v := 400) hx hb dX10_init_520 (by decide) ?_
  refine vz_newa (t0 := 0) (atype := .int) (ty := .int) (a0 := (400, .inl (fun _ => 0))) hx hb (hts _ q70) rfl rfl (fun _ _ h => h) hK hP hD hS hA (fun _ => rfl) (by decide) (by decide) (by decide) (Nat.le_of_ble_eq_true rfl) (Nat.le_of_ble_eq_true rfl) dX10_init_523 (fun qq45 H hP hD hS => ?_)
  refine W.cs (cells' := 45) (slots' := 40877) rfl rfl ?_
  refine va_putF (D := D) (ci := 10) (v := .ref qq45) (ty := .array .int) (C := RX10) (T := TX10) (N := 96) hx hb hts inlX10 tyX10 tyX10_ok nmX10 hown hK hP hD hS 0 rfl rfl 70 (by decide) (hts _ q238) (fun _ h => h) rfl hin rfl (by decide +kernel) rfl rfl (Nat.le_of_ble_eq_true rfl) dX10_init_525 (fun H locs hP hD hS => ?_)
  have hP : va_P D vwCl [(h, .inr (10, [.ref qq1, .ref qq2, .int 0, .int 0, .int 0, .int 0, .int 0, .int 0, .int 0, .int 0, .int 0, .ref qq3, .ref qq4, .ref qq5, .ref qq6, .ref qq7, .ref qq8, .ref qq9, .ref qq10, .ref qq11, .ref qq12, .ref qq13, .ref qq14, .ref qq15, .int 0, .int 0, .int 0, .int 0, .int 0, .int 0, .ref qq16, .ref qq17, .ref qq18, .int 0, .ref qq19, .ref qq20, .int 0, .int 0, .int 0, .ref qq21, .ref qq22, .ref qq23, .ref qq24, .int 0, .ref qq25, .ref qq26, .ref qq27, .ref qq28, .ref qq29, .int 0, .ref qq30, .ref qq31, .ref qq32, .ref qq33, .ref qq34, .ref qq35, .ref qq36, .ref qq37, .ref qq38, .ref qq39, .ref qq40, .int 0, .int 0, .int 0, .int 0, .int 0, .ref qq41, .ref qq42, .ref qq43, .ref qq44, .ref qq45, .null, .null, .null, .int 0, .null, .null, .null, .null, .int 0, .null, .null, .null, .int 0, .int 0, .int 0, .int 0, .int 0, .null, .null, .null, .null, .int 0, .int 0, .null, .int 0])), (qq2, .inl (g 1, 1000, .inl (fun _ => 0))), tA g qq4 2 (fun _ => 0), tA g qq11 2 (fun _ => 0), tA g qq13 2 (fun _ => 0), tA g qq14 32 (fun _ => 0), tA g qq15 2 (fun _ => 0), (qq29, .inl (g 3, 2, .inl (fun _ => 0)))] H := vz_pickP hP [0, 1, 2, 3, 4, 5, 6, 7] rfl
  have hD : va_D A [(h, .inr (10, [.ref qq1, .ref qq2, .int 0, .int 0, .int 0, .int 0, .int 0, .int 0, .int 0, .int 0, .int 0, .ref qq3, .ref qq4, .ref qq5, .ref qq6, .ref qq7, .ref qq8, .ref qq9, .ref qq10, .ref qq11, .ref qq12, .ref qq13, .ref qq14, .ref qq15, .int 0, .int 0, .int 0, .int 0, .int 0, .int 0, .ref qq16, .ref qq17, .ref qq18, .int 0, .ref qq19, .ref qq20, .int 0, .int 0, .int 0, .ref qq21, .ref qq22, .ref qq23, .ref qq24, .int 0, .ref qq25, .ref qq26, .ref qq27, .ref qq28, .ref qq29, .int 0, .ref qq30, .ref qq31, .ref qq32, .ref qq33, .ref qq34, .ref qq35, .ref qq36, .ref qq37, .ref qq38, .ref qq39, .ref qq40, .int 0, .int 0, .int 0, .int 0, .int 0, .ref qq41, .ref qq42, .ref qq43, .ref qq44, .ref qq45, .null, .null, .null, .int 0, .null, .null, .null, .null, .int 0, .null, .null, .null, .int 0, .int 0, .int 0, .int 0, .int 0, .null, .null, .null, .null, .int 0, .int 0, .null, .int 0])), (qq2, .inl (g 1, 1000, .inl (fun _ => 0))), tA g qq4 2 (fun _ => 0), tA g qq11 2 (fun _ => 0), tA g qq13 2 (fun _ => 0), tA g qq14 32 (fun _ => 0), tA g qq15 2 (fun _ => 0), (qq29, .inl (g 3, 2, .inl (fun _ => 0)))] := hD.sub [0, 1, 2, 3, 4, 5, 6, 7] (by decide) rfl
  refine lv_aload_n hx hb dX10_init_528 rfl (lv_at hl 0 rfl) ?_
  refine lv_sipush (v := 400) hx hb dX10_init_529 (by decide) ?_
  refine vz_newa (t0 := 0) (atype := .int) (ty := .int) (a0 := (400, .inl (fun _ => 0))) hx hb (hts _ q70) rfl rfl (fun _ _ h => h) hK hP hD hS hA (fun _ => rfl) (by decide) (by decide) (by decide) (Nat.le_of_ble_eq_true rfl) (Nat.le_of_ble_eq_true rfl) dX10_init_532 (fun qq46 H hP hD hS => ?_)
  refine W.cs (cells' := 46) (slots' := 41277) rfl rfl ?_
  refine va_putF (D := D) (ci := 10) (v := .ref qq46) (ty := .array .int) (C := RX10) (T := TX10) (N := 96) hx hb hts inlX10 tyX10 tyX10_ok nmX10 hown hK hP hD hS 0 rfl rfl 71 (by decide) (hts _ q239) (fun _ h => h) rfl hin rfl (by decide +kernel) rfl rfl (Nat.le_of_ble_eq_true rfl) dX10_init_534 (fun H locs hP hD hS => ?_)
  have hP : va_P D vwCl [(h, .inr (10, [.ref qq1, .ref qq2, .int 0, .int 0, .int 0, .int 0, .int 0, .int 0, .int 0, .int 0, .int 0, .ref qq3, .ref qq4, .ref qq5, .ref qq6, .ref qq7, .ref qq8, .ref qq9, .ref qq10, .ref qq11, .ref qq12, .ref qq13, .ref qq14, .ref qq15, .int 0, .int 0, .int 0, .int 0, .int 0, .int 0, .ref qq16, .ref qq17, .ref qq18, .int 0, .ref qq19, .ref qq20, .int 0, .int 0, .int 0, .ref qq21, .ref qq22, .ref qq23, .ref qq24, .int 0, .ref qq25, .ref qq26, .ref qq27, .ref qq28, .ref qq29, .int 0, .ref qq30, .ref qq31, .ref qq32, .ref qq33, .ref qq34, .ref qq35, .ref qq36, .ref qq37, .ref qq38, .ref qq39, .ref qq40, .int 0, .int 0, .int 0, .int 0, .int 0, .ref qq41, .ref qq42, .ref qq43, .ref qq44, .ref qq45, .ref qq46, .null, .null, .int 0, .null, .null, .null, .null, .int 0, .null, .null, .null, .int 0, .int 0, .int 0, .int 0, .int 0, .null, .null, .null, .null, .int 0, .int 0, .null, .int 0])), (qq2, .inl (g 1, 1000, .inl (fun _ => 0))), tA g qq4 2 (fun _ => 0), tA g qq11 2 (fun _ => 0), tA g qq13 2 (fun _ => 0), tA g qq14 32 (fun _ => 0), tA g qq15 2 (fun _ => 0), (qq29, .inl (g 3, 2, .inl (fun _ => 0)))] H := vz_pickP hP [0, 1, 2, 3, 4, 5, 6, 7] rfl
  have hD : va_D A [(h, .inr (10, [.ref qq1, .ref qq2, .int 0, .int 0, .int 0, .int 0, .int 0, .int 0, .int 0, .int 0, .int 0, .ref qq3, .ref qq4, .ref qq5, .ref qq6, .ref qq7, .ref qq8, .ref qq9, .ref qq10, .ref qq11, .ref qq12, .ref qq13, .ref qq14, .ref qq15, .int 0, .int 0, .int 0, .int 0, .int 0, .int 0, .ref qq16, .ref qq17, .ref qq18, .int 0, .ref qq19, .ref qq20, .int 0, .int 0, .int 0, .ref qq21, .ref qq22, .ref qq23, .ref qq24, .int 0, .ref qq25, .ref qq26, .ref qq27, .ref qq28, .ref qq29, .int 0, .ref qq30, .ref qq31, .ref qq32, .ref qq33, .ref qq34, .ref qq35, .ref qq36, .ref qq37, .ref qq38, .ref qq39, .ref qq40, .int 0, .int 0, .int 0, .int 0, .int 0, .ref qq41, .ref qq42, .ref qq43, .ref qq44, .ref qq45, .ref qq46, .null, .null, .int 0, .null, .null, .null, .null, .int 0, .null, .null, .null, .int 0, .int 0, .int 0, .int 0, .int 0, .null, .null, .null, .null, .int 0, .int 0, .null, .int 0])), (qq2, .inl (g 1, 1000, .inl (fun _ => 0))), tA g qq4 2 (fun _ => 0), tA g qq11 2 (fun _ => 0), tA g qq13 2 (fun _ => 0), tA g qq14 32 (fun _ => 0), tA g qq15 2 (fun _ => 0), (qq29, .inl (g 3, 2, .inl (fun _ => 0)))] := hD.sub [0, 1, 2, 3, 4, 5, 6, 7] (by decide) rfl
  refine lv_aload_n hx hb dX10_init_537 rfl (lv_at hl 0 rfl) ?_
  refine lv_sipush (v := 400) hx hb dX10_init_538 (by decide) ?_
  refine vz_newa (t0 := 0) (atype := .int) (ty := .int) (a0 := (400, .inl (fun _ => 0))) hx hb (hts _ q70) rfl rfl (fun _ _ h => h) hK hP hD hS hA (fun _ => rfl) (by decide) (by decide) (by decide) (Nat.le_of_ble_eq_true rfl) (Nat.le_of_ble_eq_true rfl) dX10_init_541 (fun qq47 H hP hD hS => ?_)
  refine W.cs (cells' := 47) (slots' := 41677) rfl rfl ?_
  refine va_putF (D := D) (ci := 10) (v := .ref qq47) (ty := .array .int) (C := RX10) (T := TX10) (N := 96) hx hb hts inlX10 tyX10 tyX10_ok nmX10 hown hK hP hD hS 0 rfl rfl 72 (by decide) (hts _ q240) (fun _ h => h) rfl hin rfl (by decide +kernel) rfl rfl (Nat.le_of_ble_eq_true rfl) dX10_init_543 (fun H locs hP hD hS => ?_)
  have hP : va_P D vwCl [(h, .inr (10, [.ref qq1, .ref qq2, .int 0, .int 0, .int 0, .int 0, .int 0, .int 0, .int 0, .int 0, .int 0, .ref qq3, .ref qq4, .ref qq5, .ref qq6, .ref qq7, .ref qq8, .ref qq9, .ref qq10, .ref qq11, .ref qq12, .ref qq13, .ref qq14, .ref qq15, .int 0, .int 0, .int 0, .int 0, .int 0, .int 0, .ref qq16, .ref qq17, .ref qq18, .int 0, .ref qq19, .ref qq20, .int 0, .int 0, .int 0, .ref qq21, .ref qq22, .ref qq23, .ref qq24, .int 0, .ref qq25, .ref qq26, .ref qq27, .ref qq28, .ref qq29, .int 0, .ref qq30, .ref qq31, .ref qq32, .ref qq33, .ref qq34, .ref qq35, .ref qq36, .ref qq37, .ref qq38, .ref qq39, .ref qq40, .int 0, .int 0, .int 0, .int 0, .int 0, .ref qq41, .ref qq42, .ref qq43, .ref qq44, .ref qq45, .ref qq46, .ref qq47, .null, .int 0, .null, .null, .null, .null, .int 0, .null, .null, .null, .int 0, .int 0, .int 0, .int 0, .int 0, .null, .null, .null, .null, .int 0, .int 0, .null, .int 0])), (qq2, .inl (g 1, 1000, .inl (fun _ => 0))), tA g qq4 2 (fun _ => 0), tA g qq11 2 (fun _ => 0), tA g qq13 2 (fun _ => 0), tA g qq14 32 (fun _ => 0), tA g qq15 2 (fun _ => 0), (qq29, .inl (g 3, 2, .inl (fun _ => 0)))] H := vz_pickP hP [0, 1, 2, 3, 4, 5, 6, 7] rfl
  have hD : va_D A [(h, .inr (10, [.ref qq1, .ref qq2, .int 0, .int 0, .int 0, .int 0, .int 0, .int 0, .int 0, .int 0, .int 0, .ref qq3, .ref qq4, .ref qq5, .ref qq6, .ref qq7, .ref qq8, .ref qq9, .ref qq10, .ref qq11, .ref qq12, .ref qq13, .ref qq14, .ref qq15, .int 0, .int 0, .int 0, .int 0, .int 0, .int 0, .ref qq16, .ref qq17, .ref qq18, .int 0, .ref qq19, .ref qq20, .int 0, .int 0, .int 0, .ref qq21, .ref qq22, .ref qq23, .ref qq24, .int 0, .ref qq25, .ref qq26, .ref qq27, .ref qq28, .ref qq29, .int 0, .ref qq30, .ref qq31, .ref qq32, .ref qq33, .ref qq34, .ref qq35, .ref qq36, .ref qq37, .ref qq38, .ref qq39, .ref qq40, .int 0, .int 0, .int 0, .int 0, .int 0, .ref qq41, .ref qq42, .ref qq43, .ref qq44, .ref qq45, .ref qq46, .ref qq47, .null, .int 0, .null, .null, .null, .null, .int 0, .null, .null, .null, .int 0, .int 0, .int 0, .int 0, .int 0, .null, .null, .null, .null, .int 0, .int 0, .null, .int 0])), (qq2, .inl (g 1, 1000, .inl (fun _ => 0))), tA g qq4 2 (fun _ => 0), tA g qq11 2 (fun _ => 0), tA g qq13 2 (fun _ => 0), tA g qq14 32 (fun _ => 0), tA g qq15 2 (fun _ => 0), (qq29, .inl (g 3, 2, .inl (fun _ => 0)))] := hD.sub [0, 1, 2, 3, 4, 5, 6, 7] (by decide) rfl
  refine lv_aload_n hx hb dX10_init_546 rfl (lv_at hl 0 rfl) ?_
  refine lv_sipush (v := 400) hx hb dX10_init_547 (by decide) ?_
  refine vz_newa (t0 := 0) (atype := .int) (ty := .int) (a0 := (400, .inl (fun _ => 0))) hx hb (hts _ q70) rfl rfl (fun _ _ h => h) hK hP hD hS hA (fun _ => rfl) (by decide) (by decide) (by decide) (Nat.le_of_ble_eq_true rfl) (Nat.le_of_ble_eq_true rfl) dX10_init_550 (fun qq48 H hP hD hS => ?_)
  refine W.cs (cells' := 48) (slots' := 42077) rfl rfl ?_
  refine va_putF (D := D) (ci := 10) (v := .ref qq48) (ty := .array .int) (C := RX10) (T := TX10) (N := 96) hx hb hts inlX10 tyX10 tyX10_ok nmX10 hown hK hP hD hS 0 rfl rfl 73 (by decide) (hts _ q241) (fun _ h => h) rfl hin rfl (by decide +kernel) rfl rfl (Nat.le_of_ble_eq_true rfl) dX10_init_552 (fun H locs hP hD hS => ?_)
  have hP : va_P D vwCl [(h, .inr (10, [.ref qq1, .ref qq2, .int 0, .int 0, .int 0, .int 0, .int 0, .int 0, .int 0, .int 0, .int 0, .ref qq3, .ref qq4, .ref qq5, .ref qq6, .ref qq7, .ref qq8, .ref qq9, .ref qq10, .ref qq11, .ref qq12, .ref qq13, .ref qq14, .ref qq15, .int 0, .int 0, .int 0, .int 0, .int 0, .int 0, .ref qq16, .ref qq17, .ref qq18, .int 0, .ref qq19, .ref qq20, .int 0, .int 0, .int 0, .ref qq21, .ref qq22, .ref qq23, .ref qq24, .int 0, .ref qq25, .ref qq26, .ref qq27, .ref qq28, .ref qq29, .int 0, .ref qq30, .ref qq31, .ref qq32, .ref qq33, .ref qq34, .ref qq35, .ref qq36, .ref qq37, .ref qq38, .ref qq39, .ref qq40, .int 0, .int 0, .int 0, .int 0, .int 0, .ref qq41, .ref qq42, .ref qq43, .ref qq44, .ref qq45, .ref qq46, .ref qq47, .ref qq48, .int 0, .null, .null, .null, .null, .int 0, .null, .null, .null, .int 0, .int 0, .int 0, .int 0, .int 0, .null, .null, .null, .null, .int 0, .int 0, .null, .int 0])), (qq2, .inl (g 1, 1000, .inl (fun _ => 0))), tA g qq4 2 (fun _ => 0), tA g qq11 2 (fun _ => 0), tA g qq13 2 (fun _ => 0), tA g qq14 32 (fun _ => 0), tA g qq15 2 (fun _ => 0), (qq29, .inl (g 3, 2, .inl (fun _ => 0)))] H := vz_pickP hP [0, 1, 2, 3, 4, 5, 6, 7] rfl
  have hD : va_D A [(h, .inr (10, [.ref qq1, .ref qq2, .int 0, .int 0, .int 0, .int 0, .int 0, .int 0, .int 0, .int 0, .int 0, .ref qq3, .ref qq4, .ref qq5, .ref qq6, .ref qq7, .ref qq8, .ref qq9, .ref qq10, .ref qq11, .ref qq12, .ref qq13, .ref qq14, .ref qq15, .int 0, .int 0, .int 0, .int 0, .int 0, .int 0, .ref qq16, .ref qq17, .ref qq18, .int 0, .ref qq19, .ref qq20, .int 0, .int 0, .int 0, .ref qq21, .ref qq22, .ref qq23, .ref qq24, .int 0, .ref qq25, .ref qq26, .ref qq27, .ref qq28, .ref qq29, .int 0, .ref qq30, .ref qq31, .ref qq32, .ref qq33, .ref qq34, .ref qq35, .ref qq36, .ref qq37, .ref qq38, .ref qq39, .ref qq40, .int 0, .int 0, .int 0, .int 0, .int 0, .ref qq41, .ref qq42, .ref qq43, .ref qq44, .ref qq45, .ref qq46, .ref qq47, .ref qq48, .int 0, .null, .null, .null, .null, .int 0, .null, .null, .null, .int 0, .int 0, .int 0, .int 0, .int 0, .null, .null, .null, .null, .int 0, .int 0, .null, .int 0])), (qq2, .inl (g 1, 1000, .inl (fun _ => 0))), tA g qq4 2 (fun _ => 0), tA g qq11 2 (fun _ => 0), tA g qq13 2 (fun _ => 0), tA g qq14 32 (fun _ => 0), tA g qq15 2 (fun _ => 0), (qq29, .inl (g 3, 2, .inl (fun _ => 0)))] := hD.sub [0, 1, 2, 3, 4, 5, 6, 7] (by decide) rfl
  refine lv_aload_n hx hb dX10_init_555 rfl (lv_at hl 0 rfl) ?_
  refine lv_bipush (v := 72) hx hb dX10_init_556 (by decide) ?_
  refine vz_newa (t0 := 0) (atype := .int) (ty := .int) (a0 := (72, .inl (fun _ => 0))) hx hb (hts _ q70) rfl rfl (fun _ _ h => h) hK hP hD hS hA (fun _ => rfl) (by decide) (by decide) (by decide) (Nat.le_of_ble_eq_true rfl) (Nat.le_of_ble_eq_true rfl) dX10_init_558 (fun qq49 H hP hD hS => ?_)
  refine W.cs (cells' := 49) (slots' := 42149) rfl rfl ?_
  refine va_putF (D := D) (ci := 10) (v := .ref qq49) (ty := .array .int) (C := RX10) (T := TX10) (N := 96) hx hb hts inlX10 tyX10 tyX10_ok nmX10 hown hK hP hD hS 0 rfl rfl 75 (by decide) (hts _ q242) (fun _ h => h) rfl hin rfl (by decide +kernel) rfl rfl (Nat.le_of_ble_eq_true rfl) dX10_init_560 (fun H locs hP hD hS => ?_)
  have hP : va_P D vwCl [(h, .inr (10, [.ref qq1, .ref qq2, .int 0, .int 0, .int 0, .int 0, .int 0, .int 0, .int 0, .int 0, .int 0, .ref qq3, .ref qq4, .ref qq5, .ref qq6, .ref qq7, .ref qq8, .ref qq9, .ref qq10, .ref qq11, .ref qq12, .ref qq13, .ref qq14, .ref qq15, .int 0, .int 0, .int 0, .int 0, .int 0, .int 0, .ref qq16, .ref qq17, .ref qq18, .int 0, .ref qq19, .ref qq20, .int 0, .int 0, .int 0, .ref qq21, .ref qq22, .ref qq23, .ref qq24, .int 0, .ref qq25, .ref qq26, .ref qq27, .ref qq28, .ref qq29, .int 0, .ref qq30, .ref qq31, .ref qq32, .ref qq33, .ref qq34, .ref qq35, .ref qq36, .ref qq37, .ref qq38, .ref qq39, .ref qq40, .int 0, .int 0, .int 0, .int 0, .int 0, .ref qq41, .ref qq42, .ref qq43, .ref qq44, .ref qq45, .ref qq46, .ref qq47, .ref qq48, .int 0, .ref qq49, .null, .null, .null, .int 0, .null, .null, .null, .int 0, .int 0, .int 0, .int 0, .int 0, .null, .null, .null, .null, .int 0, .int 0, .null, .int 0])), (qq2, .inl (g 1, 1000, .inl (fun _ => 0))), tA g qq4 2 (fun _ => 0), tA g qq11 2 (fun _ => 0), tA g qq13 2 (fun _ => 0), tA g qq14 32 (fun _ => 0), tA g qq15 2 (fun _ => 0), (qq29, .inl (g 3, 2, .inl (fun _ => 0)))] H := vz_pickP hP [0, 1, 2, 3, 4, 5, 6, 7] rfl
  have hD : va_D A [(h, .inr (10, [.ref qq1, .ref qq2, .int 0, .int 0, .int 0, .int 0, .int 0, .int 0, .int 0, .int 0, .int 0, .ref qq3, .ref qq4, .ref qq5, .ref qq6, .ref qq7, .ref qq8, .ref qq9, .ref qq10, .ref qq11, .ref qq12, .ref qq13, .ref qq14, .ref qq15, .int 0, .int 0, .int 0, .int 0, .int 0, .int 0, .ref qq16, .ref qq17, .ref qq18, .int 0, .ref qq19, .ref qq20, .int 0, .int 0, .int 0, .ref qq21, .ref qq22, .ref qq23, .ref qq24, .int 0, .ref qq25, .ref qq26, .ref qq27, .ref qq28, .ref qq29, .int 0, .ref qq30, .ref qq31, .ref qq32, .ref qq33, .ref qq34, .ref qq35, .ref qq36, .ref qq37, .ref qq38, .ref qq39, .ref qq40, .int 0, .int 0, .int 0, .int 0, .int 0, .ref qq41, .ref qq42, .ref qq43, .ref qq44, .ref qq45, .ref qq46, .ref qq47, .ref qq48, .int 0, .ref qq49, .null, .null, .null, .int 0, .null, .null, .null, .int 0, .int 0, .int 0, .int 0, .int 0, .null, .null, .null, .null, .int 0, .int 0, .null, .int 0])), (qq2, .inl (g 1, 1000, .inl (fun _ => 0))), tA g qq4 2 (fun _ => 0), tA g qq11 2 (fun _ => 0), tA g qq13 2 (fun _ => 0), tA g qq14 32 (fun _ => 0), tA g qq15 2 (fun _ => 0), (qq29, .inl (g 3, 2, .inl (fun _ => 0)))] := hD.sub [0, 1, 2, 3, 4, 5, 6, 7] (by decide) rfl
  refine lv_aload_n hx hb dX10_init_563 rfl (lv_at hl 0 rfl) ?_
  refine lv_bipush (v := 36) hx hb dX10_init_564 (by decide) ?_
  refine vz_newa (t0 := 0) (atype := .int) (ty := .int) (a0 := (36, .inl (fun _ => 0))) hx hb (hts _ q70) rfl rfl (fun _ _ h => h) hK hP hD hS hA (fun _ => rfl) (by decide) (by decide) (by decide) (Nat.le_of_ble_eq_true rfl) (Nat.le_of_ble_eq_true rfl) dX10_init_566 (fun qq50 H hP hD hS => ?_)
  refine W.cs (cells' := 50) (slots' := 42185) rfl rfl ?_
  refine va_putF (D := D) (ci := 10) (v := .ref qq50) (ty := .array .int) (C := RX10) (T := TX10) (N := 96) hx hb hts inlX10 tyX10 tyX10_ok nmX10 hown hK hP hD hS 0 rfl rfl 76 (by decide) (hts _ q243) (fun _ h => h) rfl hin rfl (by decide +kernel) rfl rfl (Nat.le_of_ble_eq_true rfl) dX10_init_568 (fun H locs hP hD hS => ?_)
  have hP : va_P D vwCl [(h, .inr (10, [.ref qq1, .ref qq2, .int 0, .int 0, .int 0, .int 0, .int 0, .int 0, .int 0, .int 0, .int 0, .ref qq3, .ref qq4, .ref qq5, .ref qq6, .ref qq7, .ref qq8, .ref qq9, .ref qq10, .ref qq11, .ref qq12, .ref qq13, .ref qq14, .ref qq15, .int 0, .int 0, .int 0, .int 0, .int 0, .int 0, .ref qq16, .ref qq17, .ref qq18, .int 0, .ref qq19, .ref qq20, .int 0, .int 0, .int 0, .ref qq21, .ref qq22, .ref qq23, .ref qq24, .int 0, .ref qq25, .ref qq26, .ref qq27, .ref qq28, .ref qq29, .int 0, .ref qq30, .ref qq31, .ref qq32, .ref qq33, .ref qq34, .ref qq35, .ref qq36, .ref qq37, .ref qq38, .ref qq39, .ref qq40, .int 0, .int 0, .int 0, .int 0, .int 0, .ref qq41, .ref qq42, .ref qq43, .ref qq44, .ref qq45, .ref qq46, .ref qq47, .ref qq48, .int 0, .ref qq49, .ref qq50, .null, .null, .int 0, .null, .null, .null, .int 0, .int 0, .int 0, .int 0, .int 0, .null, .null, .null, .null, .int 0, .int 0, .null, .int 0])), (qq2, .inl (g 1, 1000, .inl (fun _ => 0))), tA g qq4 2 (fun _ => 0), tA g qq11 2 (fun _ => 0), tA g qq13 2 (fun _ => 0), tA g qq14 32 (fun _ => 0), tA g qq15 2 (fun _ => 0), (qq29, .inl (g 3, 2, .inl (fun _ => 0)))] H := vz_pickP hP [0, 1, 2, 3, 4, 5, 6, 7] rfl
  have hD : va_D A [(h, .inr (10, [.ref qq1, .ref qq2, .int 0, .int 0, .int 0, .int 0, .int 0, .int 0, .int 0, .int 0, .int 0, .ref qq3, .ref qq4, .ref qq5, .ref qq6, .ref qq7, .ref qq8, .ref qq9, .ref qq10, .ref qq11, .ref qq12, .ref qq13, .ref qq14, .ref qq15, .int 0, .int 0, .int 0, .int 0, .int 0, .int 0, .ref qq16, .ref qq17, .ref qq18, .int 0, .ref qq19, .ref qq20, .int 0, .int 0, .int 0, .ref qq21, .ref qq22, .ref qq23, .ref qq24, .int 0, .ref qq25, .ref qq26, .ref qq27, .ref qq28, .ref qq29, .int 0, .ref qq30, .ref qq31, .ref qq32, .ref qq33, .ref qq34, .ref qq35, .ref qq36, .ref qq37, .ref qq38, .ref qq39, .ref qq40, .int 0, .int 0, .int 0, .int 0, .int 0, .ref qq41, .ref qq42, .ref qq43, .ref qq44, .ref qq45, .ref qq46, .ref qq47, .ref qq48, .int 0, .ref qq49, .ref qq50, .null, .null, .int 0, .null, .null, .null, .int 0, .int 0, .int 0, .int 0, .int 0, .null, .null, .null, .null, .int 0, .int 0, .null, .int 0])), (qq2, .inl (g 1, 1000, .inl (fun _ => 0))), tA g qq4 2 (fun _ => 0), tA g qq11 2 (fun _ => 0), tA g qq13 2 (fun _ => 0), tA g qq14 32 (fun _ => 0), tA g qq15 2 (fun _ => 0), (qq29, .inl (g 3, 2, .inl (fun _ => 0)))] := hD.sub [0, 1, 2, 3, 4, 5, 6, 7] (by decide) rfl
  refine lv_aload_n hx hb dX10_init_571 rfl (lv_at hl 0 rfl) ?_
  refine lv_bipush (v := 12) hx hb dX10_init_572 (by decide) ?_
  refine vz_newa (t0 := 0) (atype := .int) (ty := .int) (a0 := (12, .inl (fun _ => 0))) hx hb (hts _ q70) rfl rfl (fun _ _ h => h) hK hP hD hS hA (fun _ => rfl) (by decide) (by decide) (by decide) (Nat.le_of_ble_eq_true rfl) (Nat.le_of_ble_eq_true rfl) dX10_init_574 (fun qq51 H hP hD hS => ?_)
  refine W.cs (cells' := 51) (slots' := 42197) rfl rfl ?_
  refine va_putF (D := D) (ci := 10) (v := .ref qq51) (ty := .array .int) (C := RX10) (T := TX10) (N := 96) hx hb hts inlX10 tyX10 tyX10_ok nmX10 hown hK hP hD hS 0 rfl rfl 77 (by decide) (hts _ q244) (fun _ h => h) rfl hin rfl (by decide +kernel) rfl rfl (Nat.le_of_ble_eq_true rfl) dX10_init_576 (fun H locs hP hD hS => ?_)
  have hP : va_P D vwCl [(h, .inr (10, [.ref qq1, .ref qq2, .int 0, .int 0, .int 0, .int 0, .int 0, .int 0, .int 0, .int 0, .int 0, .ref qq3, .ref qq4, .ref qq5, .ref qq6, .ref qq7, .ref qq8, .ref qq9, .ref qq10, .ref qq11, .ref qq12, .ref qq13, .ref qq14, .ref qq15, .int 0, .int 0, .int 0, .int 0, .int 0, .int 0, .ref qq16, .ref qq17, .ref qq18, .int 0, .ref qq19, .ref qq20, .int 0, .int 0, .int 0, .ref qq21, .ref qq22, .ref qq23, .ref qq24, .int 0, .ref qq25, .ref qq26, .ref qq27, .ref qq28, .ref qq29, .int 0, .ref qq30, .ref qq31, .ref qq32, .ref qq33, .ref qq34, .ref qq35, .ref qq36, .ref qq37, .ref qq38, .ref qq39, .ref qq40, .int 0, .int 0, .int 0, .int 0, .int 0, .ref qq41, .ref qq42, .ref qq43, .ref qq44, .ref qq45, .ref qq46, .ref qq47, .ref qq48, .int 0, .ref qq49, .ref qq50, .ref qq51, .null, .int 0, .null, .null, .null, .int 0, .int 0, .int 0, .int 0, .int 0, .null, .null, .null, .null, .int 0, .int 0, .null, .int 0])), (qq2, .inl (g 1, 1000, .inl (fun _ => 0))), tA g qq4 2 (fun _ => 0), tA g qq11 2 (fun _ => 0), tA g qq13 2 (fun _ => 0), tA g qq14 32 (fun _ => 0), tA g qq15 2 (fun _ => 0), (qq29, .inl (g 3, 2, .inl (fun _ => 0)))] H := vz_pickP hP [0, 1, 2, 3, 4, 5, 6, 7] rfl
  have hD : va_D A [(h, .inr (10, [.ref qq1, .ref qq2, .int 0, .int 0, .int 0, .int 0, .int 0, .int 0, .int 0, .int 0, .int 0, .ref qq3, .ref qq4, .ref qq5, .ref qq6, .ref qq7, .ref qq8, .ref qq9, .ref qq10, .ref qq11, .ref qq12, .ref qq13, .ref qq14, .ref qq15, .int 0, .int 0, .int 0, .int 0, .int 0, .int 0, .ref qq16, .ref qq17, .ref qq18, .int 0, .ref qq19, .ref qq20, .int 0, .int 0, .int 0, .ref qq21, .ref qq22, .ref qq23, .ref qq24, .int 0, .ref qq25, .ref qq26, .ref qq27, .ref qq28, .ref qq29, .int 0, .ref qq30, .ref qq31, .ref qq32, .ref qq33, .ref qq34, .ref qq35, .ref qq36, .ref qq37, .ref qq38, .ref qq39, .ref qq40, .int 0, .int 0, .int 0, .int 0, .int 0, .ref qq41, .ref qq42, .ref qq43, .ref qq44, .ref qq45, .ref qq46, .ref qq47, .ref qq48, .int 0, .ref qq49, .ref qq50, .ref qq51, .null, .int 0, .null, .null, .null, .int 0, .int 0, .int 0, .int 0, .int 0, .null, .null, .null, .null, .int 0, .int 0, .null, .int 0])), (qq2, .inl (g 1, 1000, .inl (fun _ => 0))), tA g qq4 2 (fun _ => 0), tA g qq11 2 (fun _ => 0), tA g qq13 2 (fun _ => 0), tA g qq14 32 (fun _ => 0), tA g qq15 2 (fun _ => 0), (qq29, .inl (g 3, 2, .inl (fun _ => 0)))] := hD.sub [0, 1, 2, 3, 4, 5, 6, 7] (by decide) rfl
  refine lv_aload_n hx hb dX10_init_579 rfl (lv_at hl 0 rfl) ?_
  refine lv_bipush (v := 12) hx hb dX10_init_580 (by decide) ?_
  refine vz_newa (t0 := 0) (atype := .int) (ty := .int) (a0 := (12, .inl (fun _ => 0))) hx hb (hts _ q70) rfl rfl (fun _ _ h => h) hK hP hD hS hA (fun _ => rfl) (by decide) (by decide) (by decide) (Nat.le_of_ble_eq_true rfl) (Nat.le_of_ble_eq_true rfl) dX10_init_582 (fun qq52 H hP hD hS => ?_)
  refine W.cs (cells' := 52) (slots' := 42209) rfl rfl ?_
  refine va_putF (D := D) (ci := 10) (v := .ref qq52) (ty := .array .int) (C := RX10) (T := TX10) (N := 96) hx hb hts inlX10 tyX10 tyX10_ok nmX10 hown hK hP hD hS 0 rfl rfl 78 (by decide) (hts _ q245) (fun _ h => h) rfl hin rfl (by decide +kernel) rfl rfl (Nat.le_of_ble_eq_true rfl) dX10_init_584 (fun H locs hP hD hS => ?_)
  have hP : va_P D vwCl [(h, .inr (10, [.ref qq1, .ref qq2, .int 0, .int 0, .int 0, .int 0, .int 0, .int 0, .int 0, .int 0, .int 0, .ref qq3, .ref qq4, .ref qq5, .ref qq6, .ref qq7, .ref qq8, .ref qq9, .ref qq10, .ref qq11, .ref qq12, .ref qq13, .ref qq14, .ref qq15, .int 0, .int 0, .int 0, .int 0, .int 0, .int 0, .ref qq16, .ref qq17, .ref qq18, .int 0, .ref qq19, .ref qq20, .int 0, .int 0, .int 0, .ref qq21, .ref qq22, .ref qq23, .ref qq24, .int 0, .ref qq25, .ref qq26, .ref qq27, .ref qq28, .ref qq29, .int 0, .ref qq30, .ref qq31, .ref qq32, .ref qq33, .ref qq34, .ref qq35, .ref qq36, .ref qq37, .ref qq38, .ref qq39, .ref qq40, .int 0, .int 0, .int 0, .int 0, .int 0, .ref qq41, .ref qq42, .ref qq43, .ref qq44, .ref qq45, .ref qq46, .ref qq47, .ref qq48, .int 0, .ref qq49, .ref qq50, .ref qq51, .ref qq52, .int 0, .null, .null, .null, .int 0, .int 0, .int 0, .int 0, .int 0, .null, .null, .null, .null, .int 0, .int 0, .null, .int 0])), (qq2, .inl (g 1, 1000, .inl (fun _ => 0))), tA g qq4 2 (fun _ => 0), tA g qq11 2 (fun _ => 0), tA g qq13 2 (fun _ => 0), tA g qq14 32 (fun _ => 0), tA g qq15 2 (fun _ => 0), (qq29, .inl (g 3, 2, .inl (fun _ => 0)))] H := vz_pickP hP [0, 1, 2, 3, 4, 5, 6, 7] rfl
  have hD : va_D A [(h, .inr (10, [.ref qq1, .ref qq2, .int 0, .int 0, .int 0, .int 0, .int 0, .int 0, .int 0, .int 0, .int 0, .ref qq3, .ref qq4, .ref qq5, .ref qq6, .ref qq7, .ref qq8, .ref qq9, .ref qq10, .ref qq11, .ref qq12, .ref qq13, .ref qq14, .ref qq15, .int 0, .int 0, .int 0, .int 0, .int 0, .int 0, .ref qq16, .ref qq17, .ref qq18, .int 0, .ref qq19, .ref qq20, .int 0, .int 0, .int 0, .ref qq21, .ref qq22, .ref qq23, .ref qq24, .int 0, .ref qq25, .ref qq26, .ref qq27, .ref qq28, .ref qq29, .int 0, .ref qq30, .ref qq31, .ref qq32, .ref qq33, .ref qq34, .ref qq35, .ref qq36, .ref qq37, .ref qq38, .ref qq39, .ref qq40, .int 0, .int 0, .int 0, .int 0, .int 0, .ref qq41, .ref qq42, .ref qq43, .ref qq44, .ref qq45, .ref qq46, .ref qq47, .ref qq48, .int 0, .ref qq49, .ref qq50, .ref qq51, .ref qq52, .int 0, .null, .null, .null, .int 0, .int 0, .int 0, .int 0, .int 0, .null, .null, .null, .null, .int 0, .int 0, .null, .int 0])), (qq2, .inl (g 1, 1000, .inl (fun _ => 0))), tA g qq4 2 (fun _ => 0), tA g qq11 2 (fun _ => 0), tA g qq13 2 (fun _ => 0), tA g qq14 32 (fun _ => 0), tA g qq15 2 (fun _ => 0), (qq29, .inl (g 3, 2, .inl (fun _ => 0)))] := hD.sub [0, 1, 2, 3, 4, 5, 6, 7] (by decide) rfl
  refine lv_aload_n hx hb dX10_init_587 rfl (lv_at hl 0 rfl) ?_
  refine lv_sipush (v := 420) hx hb dX10_init_588 (by decide) ?_
  refine vz_newa (t0 := 0) (atype := .int) (ty := .int) (a0 := (420, .inl (fun _ => 0))) hx hb (hts _ q70) rfl rfl (fun _ _ h => h) hK hP hD hS hA (fun _ => rfl) (by decide) (by decide) (by decide) (Nat.le_of_ble_eq_true rfl) (Nat.le_of_ble_eq_true rfl) dX10_init_591 (fun qq53 H hP hD hS => ?_)
  refine W.cs (cells' := 53) (slots' := 42629) rfl rfl ?_
  refine va_putF (D := D) (ci := 10) (v := .ref qq53) (ty := .array .int) (C := RX10) (T := TX10) (N := 96) hx hb hts inlX10 tyX10 tyX10_ok nmX10 hown hK hP hD hS 0 rfl rfl 80 (by decide) (hts _ q246) (fun _ h => h) rfl hin rfl (by decide +kernel) rfl rfl (Nat.le_of_ble_eq_true rfl) dX10_init_593 (fun H locs hP hD hS => ?_)
  have hP : va_P D vwCl [(h, .inr (10, [.ref qq1, .ref qq2, .int 0, .int 0, .int 0, .int 0, .int 0, .int 0, .int 0, .int 0, .int 0, .ref qq3, .ref qq4, .ref qq5, .ref qq6, .ref qq7, .ref qq8, .ref qq9, .ref qq10, .ref qq11, .ref qq12, .ref qq13, .ref qq14, .ref qq15, .int 0, .int 0, .int 0, .int 0, .int 0, .int 0, .ref qq16, .ref qq17, .ref qq18, .int 0, .ref qq19, .ref qq20, .int 0, .int 0, .int 0, .ref qq21, .ref qq22, .ref qq23, .ref qq24, .int 0, .ref qq25, .ref qq26, .ref qq27, .ref qq28, .ref qq29, .int 0, .ref qq30, .ref qq31, .ref qq32, .ref qq33, .ref qq34, .ref qq35, .ref qq36, .ref qq37, .ref qq38, .ref qq39, .ref qq40, .int 0, .int 0, .int 0, .int 0, .int 0, .ref qq41, .ref qq42, .ref qq43, .ref qq44, .ref qq45, .ref qq46, .ref qq47, .ref qq48, .int 0, .ref qq49, .ref qq50, .ref qq51, .ref qq52, .int 0, .ref qq53, .null, .null, .int 0, .int 0, .int 0, .int 0, .int 0, .null, .null, .null, .null, .int 0, .int 0, .null, .int 0])), (qq2, .inl (g 1, 1000, .inl (fun _ => 0))), tA g qq4 2 (fun _ => 0), tA g qq11 2 (fun _ => 0), tA g qq13 2 (fun _ => 0), tA g qq14 32 (fun _ => 0), tA g qq15 2 (fun _ => 0), (qq29, .inl (g 3, 2, .inl (fun _ => 0)))] H := vz_pickP hP [0, 1, 2, 3, 4, 5, 6, 7] rfl
  have hD : va_D A [(h, .inr (10, [.ref qq1, .ref qq2, .int 0, .int 0, .int 0, .int 0, .int 0, .int 0, .int 0, .int 0, .int 0, .ref qq3, .ref qq4, .ref qq5, .ref qq6, .ref qq7, .ref qq8, .ref qq9, .ref qq10, .ref qq11, .ref qq12, .ref qq13, .ref qq14, .ref qq15, .int 0, .int 0, .int 0, .int 0, .int 0, .int 0, .ref qq16, .ref qq17, .ref qq18, .int 0, .ref qq19, .ref qq20, .int 0, .int 0, .int 0, .ref qq21, .ref qq22, .ref qq23, .ref qq24, .int 0, .ref qq25, .ref qq26, .ref qq27, .ref qq28, .ref qq29, .int 0, .ref qq30, .ref qq31, .ref qq32, .ref qq33, .ref qq34, .ref qq35, .ref qq36, .ref qq37, .ref qq38, .ref qq39, .ref qq40, .int 0, .int 0, .int 0, .int 0, .int 0, .ref qq41, .ref qq42, .ref qq43, .ref qq44, .ref qq45, .ref qq46, .ref qq47, .ref qq48, .int 0, .ref qq49, .ref qq50, .ref qq51, .ref qq52, .int 0, .ref qq53, .null, .null, .int 0, .int 0, .int 0, .int 0, .int 0, .null, .null, .null, .null, .int 0, .int 0, .null, .int 0])), (qq2, .inl (g 1, 1000, .inl (fun _ => 0))), tA g qq4 2 (fun _ => 0), tA g qq11 2 (fun _ => 0), tA g qq13 2 (fun _ => 0), tA g qq14 32 (fun _ => 0), tA g qq15 2 (fun _ => 0), (qq29, .inl (g 3, 2, .inl (fun _ => 0)))] := hD.sub [0, 1, 2, 3, 4, 5, 6, 7] (by decide) rfl
  refine lv_aload_n hx hb dX10_init_596 rfl (lv_at hl 0 rfl) ?_
  refine lv_sipush (v := 3360) hx hb dX10_init_597 (by decide) ?_
  refine vz_newa (t0 := 0) (atype := .int) (ty := .int) (a0 := (3360, .inl (fun _ => 0))) hx hb (hts _ q70) rfl rfl (fun _ _ h => h) hK hP hD hS hA (fun _ => rfl) (by decide) (by decide) (by decide) (Nat.le_of_ble_eq_true rfl) (Nat.le_of_ble_eq_true rfl) dX10_init_600 (fun qq54 H hP hD hS => ?_)
  refine W.cs (cells' := 54) (slots' := 45989) rfl rfl ?_
  refine va_putF (D := D) (ci := 10) (v := .ref qq54) (ty := .array .int) (C := RX10) (T := TX10) (N := 96) hx hb hts inlX10 tyX10 tyX10_ok nmX10 hown hK hP hD hS 0 rfl rfl 81 (by decide) (hts _ q247) (fun _ h => h) rfl hin rfl (by decide +kernel) rfl rfl (Nat.le_of_ble_eq_true rfl) dX10_init_602 (fun H locs hP hD hS => ?_)
  have hP : va_P D vwCl [(h, .inr (10, [.ref qq1, .ref qq2, .int 0, .int 0, .int 0, .int 0, .int 0, .int 0, .int 0, .int 0, .int 0, .ref qq3, .ref qq4, .ref qq5, .ref qq6, .ref qq7, .ref qq8, .ref qq9, .ref qq10, .ref qq11, .ref qq12, .ref qq13, .ref qq14, .ref qq15, .int 0, .int 0, .int 0, .int 0, .int 0, .int 0, .ref qq16, .ref qq17, .ref qq18, .int 0, .ref qq19, .ref qq20, .int 0, .int 0, .int 0, .ref qq21, .ref qq22, .ref qq23, .ref qq24, .int 0, .ref qq25, .ref qq26, .ref qq27, .ref qq28, .ref qq29, .int 0, .ref qq30, .ref qq31, .ref qq32, .ref qq33, .ref qq34, .ref qq35, .ref qq36, .ref qq37, .ref qq38, .ref qq39, .ref qq40, .int 0, .int 0, .int 0, .int 0, .int 0, .ref qq41, .ref qq42, .ref qq43, .ref qq44, .ref qq45, .ref qq46, .ref qq47, .ref qq48, .int 0, .ref qq49, .ref qq50, .ref qq51, .ref qq52, .int 0, .ref qq53, .ref qq54, .null, .int 0, .int 0, .int 0, .int 0, .int 0, .null, .null, .null, .null, .int 0, .int 0, .null, .int 0])), (qq2, .inl (g 1, 1000, .inl (fun _ => 0))), tA g qq4 2 (fun _ => 0), tA g qq11 2 (fun _ => 0), tA g qq13 2 (fun _ => 0), tA g qq14 32 (fun _ => 0), tA g qq15 2 (fun _ => 0), (qq29, .inl (g 3, 2, .inl (fun _ => 0)))] H := vz_pickP hP [0, 1, 2, 3, 4, 5, 6, 7] rfl
  have hD : va_D A [(h, .inr (10, [.ref qq1, .ref qq2, .int 0, .int 0, .int 0, .int 0, .int 0, .int 0, .int 0, .int 0, .int 0, .ref qq3, .ref qq4, .ref qq5, .ref qq6, .ref qq7, .ref qq8, .ref qq9, .ref qq10, .ref qq11, .ref qq12, .ref qq13, .ref qq14, .ref qq15, .int 0, .int 0, .int 0, .int 0, .int 0, .int 0, .ref qq16, .ref qq17, .ref qq18, .int 0, .ref qq19, .ref qq20, .int 0, .int 0, .int 0, .ref qq21, .ref qq22, .ref qq23, .ref qq24, .int 0, .ref qq25, .ref qq26, .ref qq27, .ref qq28, .ref qq29, .int 0, .ref qq30, .ref qq31, .ref qq32, .ref qq33, .ref qq34, .ref qq35, .ref qq36, .ref qq37, .ref qq38, .ref qq39, .ref qq40, .int 0, .int 0, .int 0, .int 0, .int 0, .ref qq41, .ref qq42, .ref qq43, .ref qq44, .ref qq45, .ref qq46, .ref qq47, .ref qq48, .int 0, .ref qq49, .ref qq50, .ref qq51, .ref qq52, .int 0, .ref qq53, .ref qq54, .null, .int 0, .int 0, .int 0, .int 0, .int 0, .null, .null, .null, .null, .int 0, .int 0, .null, .int 0])), (qq2, .inl (g 1, 1000, .inl (fun _ => 0))), tA g qq4 2 (fun _ => 0), tA g qq11 2 (fun _ => 0), tA g qq13 2 (fun _ => 0), tA g qq14 32 (fun _ => 0), tA g qq15 2 (fun _ => 0), (qq29, .inl (g 3, 2, .inl (fun _ => 0)))] := hD.sub [0, 1, 2, 3, 4, 5, 6, 7] (by decide) rfl
  refine lv_aload_n hx hb dX10_init_605 rfl (lv_at hl 0 rfl) ?_
  refine lv_sipush (v := 560) hx hb dX10_init_606 (by decide) ?_
  refine vz_newa (t0 := 0) (atype := .int) (ty := .int) (a0 := (560, .inl (fun _ => 0))) hx hb (hts _ q70) rfl rfl (fun _ _ h => h) hK hP hD hS hA (fun _ => rfl) (by decide) (by decide) (by decide) (Nat.le_of_ble_eq_true rfl) (Nat.le_of_ble_eq_true rfl) dX10_init_609 (fun qq55 H hP hD hS => ?_)
  refine W.cs (cells' := 55) (slots' := 46549) rfl rfl ?_
  refine va_putF (D := D) (ci := 10) (v := .ref qq55) (ty := .array .int) (C := RX10) (T := TX10) (N := 96) hx hb hts inlX10 tyX10 tyX10_ok nmX10 hown hK hP hD hS 0 rfl rfl 82 (by decide) (hts _ q248) (fun _ h => h) rfl hin rfl (by decide +kernel) rfl rfl (Nat.le_of_ble_eq_true rfl) dX10_init_611 (fun H locs hP hD hS => ?_)
  have hP : va_P D vwCl [(h, .inr (10, [.ref qq1, .ref qq2, .int 0, .int 0, .int 0, .int 0, .int 0, .int 0, .int 0, .int 0, .int 0, .ref qq3, .ref qq4, .ref qq5, .ref qq6, .ref qq7, .ref qq8, .ref qq9, .ref qq10, .ref qq11, .ref qq12, .ref qq13, .ref qq14, .ref qq15, .int 0, .int 0, .int 0, .int 0, .int 0, .int 0, .ref qq16, .ref qq17, .ref qq18, .int 0, .ref qq19, .ref qq20, .int 0, .int 0, .int 0, .ref qq21, .ref qq22, .ref qq23, .ref qq24, .int 0, .ref qq25, .ref qq26, .ref qq27, .ref qq28, .ref qq29, .int 0, .ref qq30, .ref qq31, .ref qq32, .ref qq33, .ref qq34, .ref qq35, .ref qq36, .ref qq37, .ref qq38, .ref qq39, .ref qq40, .int 0, .int 0, .int 0, .int 0, .int 0, .ref qq41, .ref qq42, .ref qq43, .ref qq44, .ref qq45, .ref qq46, .ref qq47, .ref qq48, .int 0, .ref qq49, .ref qq50, .ref qq51, .ref qq52, .int 0, .ref qq53, .ref qq54, .ref qq55, .int 0, .int 0, .int 0, .int 0, .int 0, .null, .null, .null, .null, .int 0, .int 0, .null, .int 0])), (qq2, .inl (g 1, 1000, .inl (fun _ => 0))), tA g qq4 2 (fun _ => 0), tA g qq11 2 (fun _ => 0), tA g qq13 2 (fun _ => 0), tA g qq14 32 (fun _ => 0), tA g qq15 2 (fun _ => 0), (qq29, .inl (g 3, 2, .inl (fun _ => 0)))] H := vz_pickP hP [0, 1, 2, 3, 4, 5, 6, 7] rfl
  have hD : va_D A [(h, .inr (10, [.ref qq1, .ref qq2, .int 0, .int 0, .int 0, .int 0, .int 0, .int 0, .int 0, .int 0, .int 0, .ref qq3, .ref qq4, .ref qq5, .ref qq6, .ref qq7, .ref qq8, .ref qq9, .ref qq10, .ref qq11, .ref qq12, .ref qq13, .ref qq14, .ref qq15, .int 0, .int 0, .int 0, .int 0, .int 0, .int 0, .ref qq16, .ref qq17, .ref qq18, .int 0, .ref qq19, .ref qq20, .int 0, .int 0, .int 0, .ref qq21, .ref qq22, .ref qq23, .ref qq24, .int 0, .ref qq25, .ref qq26, .ref qq27, .ref qq28, .ref qq29, .int 0, .ref qq30, .ref qq31, .ref qq32, .ref qq33, .ref qq34, .ref qq35, .ref qq36, .ref qq37, .ref qq38, .ref qq39, .ref qq40, .int 0, .int 0, .int 0, .int 0, .int 0, .ref qq41, .ref qq42, .ref qq43, .ref qq44, .ref qq45, .ref qq46, .ref qq47, .ref qq48, .int 0, .ref qq49, .ref qq50, .ref qq51, .ref qq52, .int 0, .ref qq53, .ref qq54, .ref qq55, .int 0, .int 0, .int 0, .int 0, .int 0, .null, .null, .null, .null, .int 0, .int 0, .null, .int 0])), (qq2, .inl (g 1, 1000, .inl (fun _ => 0))), tA g qq4 2 (fun _ => 0), tA g qq11 2 (fun _ => 0), tA g qq13 2 (fun _ => 0), tA g qq14 32 (fun _ => 0), tA g qq15 2 (fun _ => 0), (qq29, .inl (g 3, 2, .inl (fun _ => 0)))] := hD.sub [0, 1, 2, 3, 4, 5, 6, 7] (by decide) rfl
  refine lv_aload_n hx hb dX10_init_614 rfl (lv_at hl 0 rfl) ?_
  refine lv_bipush (v := 60) hx hb dX10_init_615 (by decide) ?_
  refine vz_newa (t0 := 0) (atype := .int) (ty := .int) (a0 := (60, .inl (fun _ => 0))) hx hb (hts _ q70) rfl rfl (fun _ _ h => h) hK hP hD hS hA (fun _ => rfl) (by decide) (by decide) (by decide) (Nat.le_of_ble_eq_true rfl) (Nat.le_of_ble_eq_true rfl) dX10_init_617 (fun qq56 H hP hD hS => ?_)
  refine W.cs (cells' := 56) (slots' := 46609) rfl rfl ?_
  refine va_putF (D := D) (ci := 10) (v := .ref qq56) (ty := .array .int) (C := RX10) (T := TX10) (N := 96) hx hb hts inlX10 tyX10 tyX10_ok nmX10 hown hK hP hD hS 0 rfl rfl 88 (by decide) (hts _ q249) (fun _ h => h) rfl hin rfl (by decide +kernel) rfl rfl (Nat.le_of_ble_eq_true rfl) dX10_init_619 (fun H locs hP hD hS => ?_)
  have hP : va_P D vwCl [(h, .inr (10, [.ref qq1, .ref qq2, .int 0, .int 0, .int 0, .int 0, .int 0, .int 0, .int 0, .int 0, .int 0, .ref qq3, .ref qq4, .ref qq5, .ref qq6, .ref qq7, .ref qq8, .ref qq9, .ref qq10, .ref qq11, .ref qq12, .ref qq13, .ref qq14, .ref qq15, .int 0, .int 0, .int 0, .int 0, .int 0, .int 0, .ref qq16, .ref qq17, .ref qq18, .int 0, .ref qq19, .ref qq20, .int 0, .int 0, .int 0, .ref qq21, .ref qq22, .ref qq23, .ref qq24, .int 0, .ref qq25, .ref qq26, .ref qq27, .ref qq28, .ref qq29, .int 0, .ref qq30, .ref qq31, .ref qq32, .ref qq33, .ref qq34, .ref qq35, .ref qq36, .ref qq37, .ref qq38, .ref qq39, .ref qq40, .int 0, .int 0, .int 0, .int 0, .int 0, .ref qq41, .ref qq42, .ref qq43, .ref qq44, .ref qq45, .ref qq46, .ref qq47, .ref qq48, .int 0, .ref qq49, .ref qq50, .ref qq51, .ref qq52, .int 0, .ref qq53, .ref qq54, .ref qq55, .int 0, .int 0, .int 0, .int 0, .int 0, .ref qq56, .null, .null, .null, .int 0, .int 0, .null, .int 0])), (qq2, .inl (g 1, 1000, .inl (fun _ => 0))), tA g qq4 2 (fun _ => 0), tA g qq11 2 (fun _ => 0), tA g qq13 2 (fun _ => 0), tA g qq14 32 (fun _ => 0), tA g qq15 2 (fun _ => 0), (qq29, .inl (g 3, 2, .inl (fun _ => 0)))] H := vz_pickP hP [0, 1, 2, 3, 4, 5, 6, 7] rfl
  have hD : va_D A [(h, .inr (10, [.ref qq1, .ref qq2, .int 0, .int 0, .int 0, .int 0, .int 0, .int 0, .int 0, .int 0, .int 0, .ref qq3, .ref qq4, .ref qq5, .ref qq6, .ref qq7, .ref qq8, .ref qq9, .ref qq10, .ref qq11, .ref qq12, .ref qq13, .ref qq14, .ref qq15, .int 0, .int 0, .int 0, .int 0, .int 0, .int 0, .ref qq16, .ref qq17, .ref qq18, .int 0, .ref qq19, .ref qq20, .int 0, .int 0, .int 0, .ref qq21, .ref qq22, .ref qq23, .ref qq24, .int 0, .ref qq25, .ref qq26, .ref qq27, .ref qq28, .ref qq29, .int 0, .ref qq30, .ref qq31, .ref qq32, .ref qq33, .ref qq34, .ref qq35, .ref qq36, .ref qq37, .ref qq38, .ref qq39, .ref qq40, .int 0, .int 0, .int 0, .int 0, .int 0, .ref qq41, .ref qq42, .ref qq43, .ref qq44, .ref qq45, .ref qq46, .ref qq47, .ref qq48, .int 0, .ref qq49, .ref qq50, .ref qq51, .ref qq52, .int 0, .ref qq53, .ref qq54, .ref qq55, .int 0, .int 0, .int 0, .int 0, .int 0, .ref qq56, .null, .null, .null, .int 0, .int 0, .null, .int 0])), (qq2, .inl (g 1, 1000, .inl (fun _ => 0))), tA g qq4 2 (fun _ => 0), tA g qq11 2 (fun _ => 0), tA g qq13 2 (fun _ => 0), tA g qq14 32 (fun _ => 0), tA g qq15 2 (fun _ => 0), (qq29, .inl (g 3, 2, .inl (fun _ => 0)))] := hD.sub [0, 1, 2, 3, 4, 5, 6, 7] (by decide) rfl
  refine lv_aload_n hx hb dX10_init_622 rfl (lv_at hl 0 rfl) ?_
  refine lv_bipush (v := 60) hx hb dX10_init_623 (by decide) ?_
  refine vz_newa (t0 := 0) (atype := .int) (ty := .int) (a0 := (60, .inl (fun _ => 0))) hx hb (hts _ q70) rfl rfl (fun _ _ h => h) hK hP hD hS hA (fun _ => rfl) (by decide) (by decide) (by decide) (Nat.le_of_ble_eq_true rfl) (Nat.le_of_ble_eq_true rfl) dX10_init_625 (fun qq57 H hP hD hS => ?_)
  refine W.cs (cells' := 57) (slots' := 46669) rfl rfl ?_
  refine va_putF (D := D) (ci := 10) (v := .ref qq57) (ty := .array .int) (C := RX10) (T := TX10) (N := 96) hx hb hts inlX10 tyX10 tyX10_ok nmX10 hown hK hP hD hS 0 rfl rfl 89 (by decide) (hts _ q250) (fun _ h => h) rfl hin rfl (by decide +kernel) rfl rfl (Nat.le_of_ble_eq_true rfl) dX10_init_627 (fun H locs hP hD hS => ?_)
  have hP : va_P D vwCl [(h, .inr (10, [.ref qq1, .ref qq2, .int 0, .int 0, .int 0, .int 0, .int 0, .int 0, .int 0, .int 0, .int 0, .ref qq3, .ref qq4, .ref qq5, .ref qq6, .ref qq7, .ref qq8, .ref qq9, .ref qq10, .ref qq11, .ref qq12, .ref qq13, .ref qq14, .ref qq15, .int 0, .int 0, .int 0, .int 0, .int 0, .int 0, .ref qq16, .ref qq17, .ref qq18, .int 0, .ref qq19, .ref qq20, .int 0, .int 0, .int 0, .ref qq21, .ref qq22, .ref qq23, .ref qq24, .int 0, .ref qq25, .ref qq26, .ref qq27, .ref qq28, .ref qq29, .int 0, .ref qq30, .ref qq31, .ref qq32, .ref qq33, .ref qq34, .ref qq35, .ref qq36, .ref qq37, .ref qq38, .ref qq39, .ref qq40, .int 0, .int 0, .int 0, .int 0, .int 0, .ref qq41, .ref qq42, .ref qq43, .ref qq44, .ref qq45, .ref qq46, .ref qq47, .ref qq48, .int 0, .ref qq49, .ref qq50, .ref qq51, .ref qq52, .int 0, .ref qq53, .ref qq54, .ref qq55, .int 0, .int 0, .int 0, .int 0, .int 0, .ref qq56, .ref qq57, .null, .null, .int 0, .int 0, .null, .int 0])), (qq2, .inl (g 1, 1000, .inl (fun _ => 0))), tA g qq4 2 (fun _ => 0), tA g qq11 2 (fun _ => 0), tA g qq13 2 (fun _ => 0), tA g qq14 32 (fun _ => 0), tA g qq15 2 (fun _ => 0), (qq29, .inl (g 3, 2, .inl (fun _ => 0)))] H := vz_pickP hP [0, 1, 2, 3, 4, 5, 6, 7] rfl
  have hD : va_D A [(h, .inr (10, [.ref qq1, .ref qq2, .int 0, .int 0, .int 0, .int 0, .int 0, .int 0, .int 0, .int 0, .int 0, .ref qq3, .ref qq4, .ref qq5, .ref qq6, .ref qq7, .ref qq8, .ref qq9, .ref qq10, .ref qq11, .ref qq12, .ref qq13, .ref qq14, .ref qq15, .int 0, .int 0, .int 0, .int 0, .int 0, .int 0, .ref qq16, .ref qq17, .ref qq18, .int 0, .ref qq19, .ref qq20, .int 0, .int 0, .int 0, .ref qq21, .ref qq22, .ref qq23, .ref qq24, .int 0, .ref qq25, .ref qq26, .ref qq27, .ref qq28, .ref qq29, .int 0, .ref qq30, .ref qq31, .ref qq32, .ref qq33, .ref qq34, .ref qq35, .ref qq36, .ref qq37, .ref qq38, .ref qq39, .ref qq40, .int 0, .int 0, .int 0, .int 0, .int 0, .ref qq41, .ref qq42, .ref qq43, .ref qq44, .ref qq45, .ref qq46, .ref qq47, .ref qq48, .int 0, .ref qq49, .ref qq50, .ref qq51, .ref qq52, .int 0, .ref qq53, .ref qq54, .ref qq55, .int 0, .int 0, .int 0, .int 0, .int 0, .ref qq56, .ref qq57, .null, .null, .int 0, .int 0, .null, .int 0])), (qq2, .inl (g 1, 1000, .inl (fun _ => 0))), tA g qq4 2 (fun _ => 0), tA g qq11 2 (fun _ => 0), tA g qq13 2 (fun _ => 0), tA g qq14 32 (fun _ => 0), tA g qq15 2 (fun _ => 0), (qq29, .inl (g 3, 2, .inl (fun _ => 0)))] := hD.sub [0, 1, 2, 3, 4, 5, 6, 7] (by decide) rfl
  refine lv_aload_n hx hb dX10_init_630 rfl (lv_at hl 0 rfl) ?_
  refine lv_bipush (v := 60) hx hb dX10_init_631 (by decide) ?_
  refine vz_newa (t0 := 0) (atype := .int) (ty := .int) (a0 := (60, .inl (fun _ => 0))) hx hb (hts _ q70) rfl rfl (fun _ _ h => h) hK hP hD hS hA (fun _ => rfl) (by decide) (by decide) (by decide) (Nat.le_of_ble_eq_true rfl) (Nat.le_of_ble_eq_true rfl) dX10_init_633 (fun qq58 H hP hD hS => ?_)
  refine W.cs (cells' := 58) (slots' := 46729) rfl rfl ?_
  refine va_putF (D := D) (ci := 10) (v := .ref qq58) (ty := .array .int) (C := RX10) (T := TX10) (N := 96) hx hb hts inlX10 tyX10 tyX10_ok nmX10 hown hK hP hD hS 0 rfl rfl 90 (by decide) (hts _ q251) (fun _ h => h) rfl hin rfl (by decide +kernel) rfl rfl (Nat.le_of_ble_eq_true rfl) dX10_init_635 (fun H locs hP hD hS => ?_)
  have hP : va_P D vwCl [(h, .inr (10, [.ref qq1, .ref qq2, .int 0, .int 0, .int 0, .int 0, .int 0, .int 0, .int 0, .int 0, .int 0, .ref qq3, .ref qq4, .ref qq5, .ref qq6, .ref qq7, .ref qq8, .ref qq9, .ref qq10, .ref qq11, .ref qq12, .ref qq13, .ref qq14, .ref qq15, .int 0, .int 0, .int 0, .int 0, .int 0, .int 0, .ref qq16, .ref qq17, .ref qq18, .int 0, .ref qq19, .ref qq20, .int 0, .int 0, .int 0, .ref qq21, .ref qq22, .ref qq23, .ref qq24, .int 0, .ref qq25, .ref qq26, .ref qq27, .ref qq28, .ref qq29, .int 0, .ref qq30, .ref qq31, .ref qq32, .ref qq33, .ref qq34, .ref qq35, .ref qq36, .ref qq37, .ref qq38, .ref qq39, .ref qq40, .int 0, .int 0, .int 0, .int 0, .int 0, .ref qq41, .ref qq42, .ref qq43, .ref qq44, .ref qq45, .ref qq46, .ref qq47, .ref qq48, .int 0, .ref qq49, .ref qq50, .ref qq51, .ref qq52, .int 0, .ref qq53, .ref qq54, .ref qq55, .int 0, .int 0, .int 0, .int 0, .int 0, .ref qq56, .ref qq57, .ref qq58, .null, .int 0, .int 0, .null, .int 0])), (qq2, .inl (g 1, 1000, .inl (fun _ => 0))), tA g qq4 2 (fun _ => 0), tA g qq11 2 (fun _ => 0), tA g qq13 2 (fun _ => 0), tA g qq14 32 (fun _ => 0), tA g qq15 2 (fun _ => 0), (qq29, .inl (g 3, 2, .inl (fun _ => 0)))] H := vz_pickP hP [0, 1, 2, 3, 4, 5, 6, 7] rfl
  have hD : va_D A [(h, .inr (10, [.ref qq1, .ref qq2, .int 0, .int 0, .int 0, .int 0, .int 0, .int 0, .int 0, .int 0, .int 0, .ref qq3, .ref qq4, .ref qq5, .ref qq6, .ref qq7, .ref qq8, .ref qq9, .ref qq10, .ref qq11, .ref qq12, .ref qq13, .ref qq14, .ref qq15, .int 0, .int 0, .int 0, .int 0, .int 0, .int 0, .ref qq16, .ref qq17, .ref qq18, .int 0, .ref qq19, .ref qq20, .int 0, .int 0, .int 0, .ref qq21, .ref qq22, .ref qq23, .ref qq24, .int 0, .ref qq25, .ref qq26, .ref qq27, .ref qq28, .ref qq29, .int 0, .ref qq30, .ref qq31, .ref qq32, .ref qq33, .ref qq34, .ref qq35, .ref qq36, .ref qq37, .ref qq38, .ref qq39, .ref qq40, .int 0, .int 0, .int 0, .int 0, .int 0, .ref qq41, .ref qq42, .ref qq43, .ref qq44, .ref qq45, .ref qq46, .ref qq47, .ref qq48, .int 0, .ref qq49, .ref qq50, .ref qq51, .ref qq52, .int 0, .ref qq53, .ref qq54, .ref qq55, .int 0, .int 0, .int 0, .int 0, .int 0, .ref qq56, .ref qq57, .ref qq58, .null, .int 0, .int 0, .null, .int 0])), (qq2, .inl (g 1, 1000, .inl (fun _ => 0))), tA g qq4 2 (fun _ => 0), tA g qq11 2 (fun _ => 0), tA g qq13 2 (fun _ => 0), tA g qq14 32 (fun _ => 0), tA g qq15 2 (fun _ => 0), (qq29, .inl (g 3, 2, .inl (fun _ => 0)))] := hD.sub [0, 1, 2, 3, 4, 5, 6, 7] (by decide) rfl
  refine lv_aload_n hx hb dX10_init_638 rfl (lv_at hl 0 rfl) ?_
  refine lv_sipush (v := 1100) hx hb dX10_init_639 (by decide) ?_
  refine vz_newa (t0 := 0) (atype := .int) (ty := .int) (a0 := (1100, .inl (fun _ => 0))) hx hb (hts _ q70) rfl rfl (fun _ _ h => h) hK hP hD hS hA (fun _ => rfl) (by decide) (by decide) (by decide) (Nat.le_of_ble_eq_true rfl) (Nat.le_of_ble_eq_true rfl) dX10_init_642 (fun qq59 H hP hD hS => ?_)
  refine W.cs (cells' := 59) (slots' := 47829) rfl rfl ?_
  refine va_putF (D := D) (ci := 10) (v := .ref qq59) (ty := .array .int) (C := RX10) (T := TX10) (N := 96) hx hb hts inlX10 tyX10 tyX10_ok nmX10 hown hK hP hD hS 0 rfl rfl 91 (by decide) (hts _ q252) (fun _ h => h) rfl hin rfl (by decide +kernel) rfl rfl (Nat.le_of_ble_eq_true rfl) dX10_init_644 (fun H locs hP hD hS => ?_)
  have hP : va_P D vwCl [(h, .inr (10, [.ref qq1, .ref qq2, .int 0, .int 0, .int 0, .int 0, .int 0, .int 0, .int 0, .int 0, .int 0, .ref qq3, .ref qq4, .ref qq5, .ref qq6, .ref qq7, .ref qq8, .ref qq9, .ref qq10, .ref qq11, .ref qq12, .ref qq13, .ref qq14, .ref qq15, .int 0, .int 0, .int 0, .int 0, .int 0, .int 0, .ref qq16, .ref qq17, .ref qq18, .int 0, .ref qq19, .ref qq20, .int 0, .int 0, .int 0, .ref qq21, .ref qq22, .ref qq23, .ref qq24, .int 0, .ref qq25, .ref qq26, .ref qq27, .ref qq28, .ref qq29, .int 0, .ref qq30, .ref qq31, .ref qq32, .ref qq33, .ref qq34, .ref qq35, .ref qq36, .ref qq37, .ref qq38, .ref qq39, .ref qq40, .int 0, .int 0, .int 0, .int 0, .int 0, .ref qq41, .ref qq42, .ref qq43, .ref qq44, .ref qq45, .ref qq46, .ref qq47, .ref qq48, .int 0, .ref qq49, .ref qq50, .ref qq51, .ref qq52, .int 0, .ref qq53, .ref qq54, .ref qq55, .int 0, .int 0, .int 0, .int 0, .int 0, .ref qq56, .ref qq57, .ref qq58, .ref qq59, .int 0, .int 0, .null, .int 0])), (qq2, .inl (g 1, 1000, .inl (fun _ => 0))), tA g qq4 2 (fun _ => 0), tA g qq11 2 (fun _ => 0), tA g qq13 2 (fun _ => 0), tA g qq14 32 (fun _ => 0), tA g qq15 2 (fun _ => 0), (qq29, .inl (g 3, 2, .inl (fun _ => 0)))] H := vz_pickP hP [0, 1, 2, 3, 4, 5, 6, 7] rfl
  have hD : va_D A [(h, .inr (10, [.ref qq1, .ref qq2, .int 0, .int 0, .int 0, .int 0, .int 0, .int 0, .int 0, .int 0, .int 0, .ref qq3, .ref qq4, .ref qq5, .ref qq6, .ref qq7, .ref qq8, .ref qq9, .ref qq10, .ref qq11, .ref qq12, .ref qq13, .ref qq14, .ref qq15, .int 0, .int 0, .int 0, .int 0, .int 0, .int 0, .ref qq16, .ref qq17, .ref qq18, .int 0, .ref qq19, .ref qq20, .int 0, .int 0, .int 0, .ref qq21, .ref qq22, .ref qq23, .ref qq24, .int 0, .ref qq25, .ref qq26, .ref qq27, .ref qq28, .ref qq29, .int 0, .ref qq30, .ref qq31, .ref qq32, .ref qq33, .ref qq34, .ref qq35, .ref qq36, .ref qq37, .ref qq38, .ref qq39, .ref qq40, .int 0, .int 0, .int 0, .int 0, .int 0, .ref qq41, .ref qq42, .ref qq43, .ref qq44, .ref qq45, .ref qq46, .ref qq47, .ref qq48, .int 0, .ref qq49, .ref qq50, .ref qq51, .ref qq52, .int 0, .ref qq53, .ref qq54, .ref qq55, .int 0, .int 0, .int 0, .int 0, .int 0, .ref qq56, .ref qq57, .ref qq58, .ref qq59, .int 0, .int 0, .null, .int 0])), (qq2, .inl (g 1, 1000, .inl (fun _ => 0))), tA g qq4 2 (fun _ => 0), tA g qq11 2 (fun _ => 0), tA g qq13 2 (fun _ => 0), tA g qq14 32 (fun _ => 0), tA g qq15 2 (fun _ => 0), (qq29, .inl (g 3, 2, .inl (fun _ => 0)))] := hD.sub [0, 1, 2, 3, 4, 5, 6, 7] (by decide) rfl
  refine lv_aload_n hx hb dX10_init_647 rfl (lv_at hl 0 rfl) ?_
  refine lv_sipush (v := 244) hx hb dX10_init_648 (by decide) ?_
  refine vz_newa (t0 := 0) (atype := .int) (ty := .int) (a0 := (244, .inl (fun _ => 0))) hx hb (hts _ q70) rfl rfl (fun _ _ h => h) hK hP hD hS hA (fun _ => rfl) (by decide) (by decide) (by decide) (Nat.le_of_ble_eq_true rfl) (Nat.le_of_ble_eq_true rfl) dX10_init_651 (fun qq60 H hP hD hS => ?_)
  refine W.cs (cells' := 60) (slots' := 48073) rfl rfl ?_
  refine va_putF (D := D) (ci := 10) (v := .ref qq60) (ty := .array .int) (C := RX10) (T := TX10) (N := 96) hx hb hts inlX10 tyX10 tyX10_ok nmX10 hown hK hP hD hS 0 rfl rfl 94 (by decide) (hts _ q253) (fun _ h => h) rfl hin rfl (by decide +kernel) rfl rfl (Nat.le_of_ble_eq_true rfl) dX10_init_653 (fun H locs hP hD hS => ?_)
  have hP : va_P D vwCl [(h, .inr (10, [.ref qq1, .ref qq2, .int 0, .int 0, .int 0, .int 0, .int 0, .int 0, .int 0, .int 0, .int 0, .ref qq3, .ref qq4, .ref qq5, .ref qq6, .ref qq7, .ref qq8, .ref qq9, .ref qq10, .ref qq11, .ref qq12, .ref qq13, .ref qq14, .ref qq15, .int 0, .int 0, .int 0, .int 0, .int 0, .int 0, .ref qq16, .ref qq17, .ref qq18, .int 0, .ref qq19, .ref qq20, .int 0, .int 0, .int 0, .ref qq21, .ref qq22, .ref qq23, .ref qq24, .int 0, .ref qq25, .ref qq26, .ref qq27, .ref qq28, .ref qq29, .int 0, .ref qq30, .ref qq31, .ref qq32, .ref qq33, .ref qq34, .ref qq35, .ref qq36, .ref qq37, .ref qq38, .ref qq39, .ref qq40, .int 0, .int 0, .int 0, .int 0, .int 0, .ref qq41, .ref qq42, .ref qq43, .ref qq44, .ref qq45, .ref qq46, .ref qq47, .ref qq48, .int 0, .ref qq49, .ref qq50, .ref qq51, .ref qq52, .int 0, .ref qq53, .ref qq54, .ref qq55, .int 0, .int 0, .int 0, .int 0, .int 0, .ref qq56, .ref qq57, .ref qq58, .ref qq59, .int 0, .int 0, .ref qq60, .int 0])), (qq2, .inl (g 1, 1000, .inl (fun _ => 0))), tA g qq4 2 (fun _ => 0), tA g qq11 2 (fun _ => 0), tA g qq13 2 (fun _ => 0), tA g qq14 32 (fun _ => 0), tA g qq15 2 (fun _ => 0), (qq29, .inl (g 3, 2, .inl (fun _ => 0)))] H := vz_pickP hP [0, 1, 2, 3, 4, 5, 6, 7] rfl
  have hD : va_D A [(h, .inr (10, [.ref qq1, .ref qq2, .int 0, .int 0, .int 0, .int 0, .int 0, .int 0, .int 0, .int 0, .int 0, .ref qq3, .ref qq4, .ref qq5, .ref qq6, .ref qq7, .ref qq8, .ref qq9, .ref qq10, .ref qq11, .ref qq12, .ref qq13, .ref qq14, .ref qq15, .int 0, .int 0, .int 0, .int 0, .int 0, .int 0, .ref qq16, .ref qq17, .ref qq18, .int 0, .ref qq19, .ref qq20, .int 0, .int 0, .int 0, .ref qq21, .ref qq22, .ref qq23, .ref qq24, .int 0, .ref qq25, .ref qq26, .ref qq27, .ref qq28, .ref qq29, .int 0, .ref qq30, .ref qq31, .ref qq32, .ref qq33, .ref qq34, .ref qq35, .ref qq36, .ref qq37, .ref qq38, .ref qq39, .ref qq40, .int 0, .int 0, .int 0, .int 0, .int 0, .ref qq41, .ref qq42, .ref qq43, .ref qq44, .ref qq45, .ref qq46, .ref qq47, .ref qq48, .int 0, .ref qq49, .ref qq50, .ref qq51, .ref qq52, .int 0, .ref qq53, .ref qq54, .ref qq55, .int 0, .int 0, .int 0, .int 0, .int 0, .ref qq56, .ref qq57, .ref qq58, .ref qq59, .int 0, .int 0, .ref qq60, .int 0])), (qq2, .inl (g 1, 1000, .inl (fun _ => 0))), tA g qq4 2 (fun _ => 0), tA g qq11 2 (fun _ => 0), tA g qq13 2 (fun _ => 0), tA g qq14 32 (fun _ => 0), tA g qq15 2 (fun _ => 0), (qq29, .inl (g 3, 2, .inl (fun _ => 0)))] := hD.sub [0, 1, 2, 3, 4, 5, 6, 7] (by decide) rfl
  refine lv_aload_n hx hb dX10_init_656 rfl (lv_at hl 0 rfl) ?_
  refine lv_iconst (v := 0) hx hb dX10_init_657 (by decide) ?_
  refine va_put (D := D) (ci := 10) (v := .int 0) (ty := .int) (C := RX10) (T := TX10) (N := 96) hx hb hts inlX10 tyX10 tyX10_ok nmX10 hown hK hP hD hS 0 rfl rfl 8 (by decide) (hts _ q254) (fun _ h => h) rfl (by decide +kernel) rfl rfl (Nat.le_of_ble_eq_true rfl) dX10_init_658 (fun H locs hP hD hS => ?_)
  have hP : va_P D vwCl [(h, .inr (10, [.ref qq1, .ref qq2, .int 0, .int 0, .int 0, .int 0, .int 0, .int 0, .int 0, .int 0, .int 0, .ref qq3, .ref qq4, .ref qq5, .ref qq6, .ref qq7, .ref qq8, .ref qq9, .ref qq10, .ref qq11, .ref qq12, .ref qq13, .ref qq14, .ref qq15, .int 0, .int 0, .int 0, .int 0, .int 0, .int 0, .ref qq16, .ref qq17, .ref qq18, .int 0, .ref qq19, .ref qq20, .int 0, .int 0, .int 0, .ref qq21, .ref qq22, .ref qq23, .ref qq24, .int 0, .ref qq25, .ref qq26, .ref qq27, .ref qq28, .ref qq29, .int 0, .ref qq30, .ref qq31, .ref qq32, .ref qq33, .ref qq34, .ref qq35, .ref qq36, .ref qq37, .ref qq38, .ref qq39, .ref qq40, .int 0, .int 0, .int 0, .int 0, .int 0, .ref qq41, .ref qq42, .ref qq43, .ref qq44, .ref qq45, .ref qq46, .ref qq47, .ref qq48, .int 0, .ref qq49, .ref qq50, .ref qq51, .ref qq52, .int 0, .ref qq53, .ref qq54, .ref qq55, .int 0, .int 0, .int 0, .int 0, .int 0, .ref qq56, .ref qq57, .ref qq58, .ref qq59, .int 0, .int 0, .ref qq60, .int 0])), (qq2, .inl (g 1, 1000, .inl (fun _ => 0))), tA g qq4 2 (fun _ => 0), tA g qq11 2 (fun _ => 0), tA g qq13 2 (fun _ => 0), tA g qq14 32 (fun _ => 0), tA g qq15 2 (fun _ => 0), (qq29, .inl (g 3, 2, .inl (fun _ => 0)))] H := vz_pickP hP [0, 1, 2, 3, 4, 5, 6, 7] rfl
  have hD : va_D A [(h, .inr (10, [.ref qq1, .ref qq2, .int 0, .int 0, .int 0, .int 0, .int 0, .int 0, .int 0, .int 0, .int 0, .ref qq3, .ref qq4, .ref qq5, .ref qq6, .ref qq7, .ref qq8, .ref qq9, .ref qq10, .ref qq11, .ref qq12, .ref qq13, .ref qq14, .ref qq15, .int 0, .int 0, .int 0, .int 0, .int 0, .int 0, .ref qq16, .ref qq17, .ref qq18, .int 0, .ref qq19, .ref qq20, .int 0, .int 0, .int 0, .ref qq21, .ref qq22, .ref qq23, .ref qq24, .int 0, .ref qq25, .ref qq26, .ref qq27, .ref qq28, .ref qq29, .int 0, .ref qq30, .ref qq31, .ref qq32, .ref qq33, .ref qq34, .ref qq35, .ref qq36, .ref qq37, .ref qq38, .ref qq39, .ref qq40, .int 0, .int 0, .int 0, .int 0, .int 0, .ref qq41, .ref qq42, .ref qq43, .ref qq44, .ref qq45, .ref qq46, .ref qq47, .ref qq48, .int 0, .ref qq49, .ref qq50, .ref qq51, .ref qq52, .int 0, .ref qq53, .ref qq54, .ref qq55, .int 0, .int 0, .int 0, .int 0, .int 0, .ref qq56, .ref qq57, .ref qq58, .ref qq59, .int 0, .int 0, .ref qq60, .int 0])), (qq2, .inl (g 1, 1000, .inl (fun _ => 0))), tA g qq4 2 (fun _ => 0), tA g qq11 2 (fun _ => 0), tA g qq13 2 (fun _ => 0), tA g qq14 32 (fun _ => 0), tA g qq15 2 (fun _ => 0), (qq29, .inl (g 3, 2, .inl (fun _ => 0)))] := hD.sub [0, 1, 2, 3, 4, 5, 6, 7] (by decide) rfl
  exact vz_vret hx hb hr hlk hK hP hD hS (fun k => [qq1, qq2, qq3, qq4, qq5, qq6, qq7, qq8, qq9, qq10, qq11, qq12, qq13, qq14, qq15, qq16, qq17, qq18, qq19, qq20, qq21, qq22, qq23, qq24, qq25, qq26, qq27, qq28, qq29, qq30, qq31, qq32, qq33, qq34, qq35, qq36, qq37, qq38, qq39, qq40, qq41, qq42, qq43, qq44, qq45, qq46, qq47, qq48, qq49, qq50, qq51, qq52, qq53, qq54, qq55, qq56, qq57, qq58, qq59, qq60].getD k 0) trivial [0, 1, 2, 3, 4, 6, 5, 7] rfl (by decide) (Nat.le_of_ble_eq_true rfl) (Nat.le_of_ble_eq_true rfl) dX10_init_661
theorem dX10_in_0 : decode cX10_in 0 = .ok (.iload_n 0, 1) := by decide +kernel
theorem dX10_in_1 : decode cX10_in 1 = .ok (.iload_n 1, 1) := by decide +kernel
theorem dX10_in_2 : decode cX10_in 2 = .ok (.if_icmp .lt 12, 3) := by decide +kernel
theorem dX10_in_5 : decode cX10_in 5 = .ok (.iload_n 0, 1) := by decide +kernel
theorem dX10_in_6 : decode cX10_in 6 = .ok (.iload_n 2, 1) := by decide +kernel
theorem dX10_in_7 : decode cX10_in 7 = .ok (.if_icmp .gt 7, 3) := by decide +kernel
theorem dX10_in_10 : decode cX10_in 10 = .ok (.iconst 1, 1) := by decide +kernel
theorem dX10_in_11 : decode cX10_in 11 = .ok (.goto 4, 3) := by decide +kernel
theorem dX10_in_14 : decode cX10_in 14 = .ok (.iconst 0, 1) := by decide +kernel
theorem dX10_in_15 : decode cX10_in 15 = .ok (.ireturn, 1) := by decide +kernel
set_option maxHeartbeats 4000000 in
set_option maxRecDepth 100000 in
theorem c_m_in (l : Launch) (D : va_G) (g : Nat → ClassId) (sz : Nat) (v lo hi : Int32)  : vz_Mi l D (tyG g) yX10_in cX10_in 3 0 0 0 0 .boolean [.int v, .int lo, .int hi] sz [] (fun r (u : Unit) => r = if v < lo ∨ hi < v then 0 else 1) (fun u => []) := by
  refine vz_si (by decide) (Nat.le_of_ble_eq_true rfl) (fun p e s m args below meth c hx hb hr hml hts hown hlk hin hK hsz A hA H locs hP hD hS ls hl => ?_)
  have hl : lv_has ls 3 [(0, .int v), (1, .int lo), (2, .int hi)] := hl
  refine lv_iload_n hx hb dX10_in_0 rfl (lv_at hl 0 rfl) ?_
  refine lv_iload_n hx hb dX10_in_1 rfl (lv_at hl 1 rfl) ?_
  refine lv_icmp_lt (tgt := 14) hx hb dX10_in_2 (by decide) (fun kc => ?_) (fun kc => ?_)
  · refine lv_iconst (v := 0) hx hb dX10_in_14 (by decide) ?_
    exact vz_zret hx hb hr hlk hK hP hD hS (()) (by rw [if_pos (Or.inl kc)]) [] rfl (by decide) (Nat.le_refl 0) (Nat.le_refl 0) (by decide) dX10_in_15
  · refine lv_iload_n hx hb dX10_in_5 rfl (lv_at hl 0 rfl) ?_
    refine lv_iload_n hx hb dX10_in_6 rfl (lv_at hl 2 rfl) ?_
    refine lv_icmp_gt (tgt := 14) hx hb dX10_in_7 (by decide) (fun kd => ?_) (fun kd => ?_)
    · refine lv_iconst (v := 0) hx hb dX10_in_14 (by decide) ?_
      exact vz_zret hx hb hr hlk hK hP hD hS (()) (by rw [if_pos (Or.inr kd)]) [] rfl (by decide) (Nat.le_refl 0) (Nat.le_refl 0) (by decide) dX10_in_15
    · refine lv_iconst (v := 1) hx hb dX10_in_10 (by decide) ?_
      refine lv_goto (tgt := 15) hx hb dX10_in_11 (by decide) ?_
      exact vz_zret hx hb hr hlk hK hP hD hS (()) (by rw [if_neg (fun z => z.elim kc kd)]) [] rfl (by decide) (Nat.le_refl 0) (Nat.le_refl 0) (by decide) dX10_in_15
theorem q746 : Cond.fieldLink RX10 447 "WaysAtlasModel" "faultTold" "I" ∈ wsL_law := mT_6 (List.mem_of_getElem? (i := 139) rfl) rfl
theorem dX10_fault_0 : decode cX10_fault 0 = .ok (.aload_n 0, 1) := by decide +kernel
theorem dX10_fault_1 : decode cX10_fault 1 = .ok (.getfield 447, 3) := by decide +kernel
theorem dX10_fault_4 : decode cX10_fault 4 = .ok (.ireturn, 1) := by decide +kernel
set_option maxHeartbeats 4000000 in
set_option maxRecDepth 100000 in
theorem c_m_fault0 (l : Launch) (D : va_G) (g : Nat → ClassId) (h sz : Nat) (a : Nat → Nat)  : vz_Mi l D (tyG g) yX10_fault cX10_fault 1 0 0 0 0 .int [.ref h] sz [(h, .inr (10, mF a (fun _ => 0)))] (fun r (u : Unit) => r = 0) (fun u => [(h, .inr (10, mF a (fun _ => 0)))]) := by
  refine vz_si (by decide) (Nat.le_of_ble_eq_true rfl) (fun p e s m args below meth c hx hb hr hml hts hown hlk hin hK hsz A hA H locs hP hD hS ls hl => ?_)
  have hl : lv_has ls 1 [(0, .ref h)] := hl
  refine lv_aload_n hx hb dX10_fault_0 rfl (lv_at hl 0 rfl) ?_
  refine va_get (D := D) (ci := 10) (v := .int 0) (C := RX10) (T := TX10) (N := 96) hx hb hts inlX10 hown hK hP 0 rfl rfl 28 (by decide) (hts _ q746) (fun _ h => h) rfl dX10_fault_1 ?_
  exact vz_iret hx hb hr hlk hK hP hD hS (()) (rfl) [0] rfl (by decide) (Nat.le_refl 0) (Nat.le_refl 0) dX10_fault_4
theorem q749 : Cond.fieldLink RX10 453 "WaysAtlasModel" "planned" "I" ∈ wsL_law := mT_6 (List.mem_of_getElem? (i := 154) rfl) rfl
theorem dX10_clear_0 : decode cX10_clear 0 = .ok (.aload_n 0, 1) := by decide +kernel
theorem dX10_clear_1 : decode cX10_clear 1 = .ok (.getfield 453, 3) := by decide +kernel
theorem dX10_clear_4 : decode cX10_clear 4 = .ok (.istore_n 1, 1) := by decide +kernel
theorem dX10_clear_5 : decode cX10_clear 5 = .ok (.aload_n 0, 1) := by decide +kernel
theorem dX10_clear_6 : decode cX10_clear 6 = .ok (.iconst 0, 1) := by decide +kernel
theorem dX10_clear_7 : decode cX10_clear 7 = .ok (.putfield 453, 3) := by decide +kernel
theorem dX10_clear_10 : decode cX10_clear 10 = .ok (.iload_n 1, 1) := by decide +kernel
theorem dX10_clear_11 : decode cX10_clear 11 = .ok (.ireturn, 1) := by decide +kernel
set_option maxHeartbeats 4000000 in
set_option maxRecDepth 100000 in
theorem c_m_clear0 (l : Launch) (D : va_G) (g : Nat → ClassId) (h sz : Nat) (a : Nat → Nat)  : vz_Mi l D (tyG g) yX10_clear cX10_clear 2 0 0 0 0 .int [.ref h] sz [(h, .inr (10, mF a (fun _ => 0)))] (fun r (u : Unit) => r = 0) (fun u => [(h, .inr (10, mF a (fun _ => 0)))]) := by
  refine vz_si (by decide) (Nat.le_of_ble_eq_true rfl) (fun p e s m args below meth c hx hb hr hml hts hown hlk hin hK hsz A hA H locs hP hD hS ls hl => ?_)
  have hl : lv_has ls 2 [(0, .ref h)] := hl
  refine lv_aload_n hx hb dX10_clear_0 rfl (lv_at hl 0 rfl) ?_
  refine va_get (D := D) (ci := 10) (v := .int 0) (C := RX10) (T := TX10) (N := 96) hx hb hts inlX10 hown hK hP 0 rfl rfl 43 (by decide) (hts _ q749) (fun _ h => h) rfl dX10_clear_1 ?_
  refine lv_istore_n (lv' := [(1, .int 0), (0, .ref h)]) hx hb dX10_clear_4 rfl hl (by decide) rfl (fun ls hl => ?_)
  refine lv_aload_n hx hb dX10_clear_5 rfl (lv_at hl 1 rfl) ?_
  refine lv_iconst (v := 0) hx hb dX10_clear_6 (by decide) ?_
  refine va_put (D := D) (ci := 10) (v := .int 0) (ty := .int) (C := RX10) (T := TX10) (N := 96) hx hb hts inlX10 tyX10 tyX10_ok nmX10 hown hK hP hD hS 0 rfl rfl 43 (by decide) (hts _ q749) (fun _ h => h) rfl (by decide +kernel) rfl rfl (Nat.le_of_ble_eq_true rfl) dX10_clear_7 (fun H locs hP hD hS => ?_)
  have hP : va_P D vwCl [(h, .inr (10, mF a (fun _ => 0)))] H := hP
  have hD : va_D A [(h, .inr (10, mF a (fun _ => 0)))] := hD
  refine lv_iload_n hx hb dX10_clear_10 rfl (lv_at hl 0 rfl) ?_
  exact vz_iret hx hb hr hlk hK hP hD hS (()) (rfl) [0] rfl (by decide) (Nat.le_refl 0) (Nat.le_refl 0) dX10_clear_11
theorem q748 : Cond.fieldLink RX10 450 "WaysAtlasModel" "hasProgram" "Z" ∈ wsL_law := mT_6 (List.mem_of_getElem? (i := 121) rfl) rfl
theorem dX10_isStatement_0 : decode cX10_isStatement 0 = .ok (.aload_n 0, 1) := by decide +kernel
theorem dX10_isStatement_1 : decode cX10_isStatement 1 = .ok (.getfield 450, 3) := by decide +kernel
theorem dX10_isStatement_4 : decode cX10_isStatement 4 = .ok (.ifCond .eq 26, 3) := by decide +kernel
theorem dX10_isStatement_30 : decode cX10_isStatement 30 = .ok (.iconst 0, 1) := by decide +kernel
theorem dX10_isStatement_31 : decode cX10_isStatement 31 = .ok (.ireturn, 1) := by decide +kernel
set_option maxHeartbeats 4000000 in
set_option maxRecDepth 100000 in
theorem c_m_isStatement0 (l : Launch) (D : va_G) (g : Nat → ClassId) (h sz : Nat) (a : Nat → Nat) (i : Int32)  : vz_Mi l D (tyG g) yX10_isStatement cX10_isStatement 2 0 0 0 0 .boolean [.ref h, .int i] sz [(h, .inr (10, mF a (fun _ => 0)))] (fun r (u : Unit) => r = 0) (fun u => [(h, .inr (10, mF a (fun _ => 0)))]) := by
  refine vz_si (by decide) (Nat.le_of_ble_eq_true rfl) (fun p e s m args below meth c hx hb hr hml hts hown hlk hin hK hsz A hA H locs hP hD hS ls hl => ?_)
  have hl : lv_has ls 2 [(0, .ref h), (1, .int i)] := hl
  refine lv_aload_n hx hb dX10_isStatement_0 rfl (lv_at hl 0 rfl) ?_
  refine va_get (D := D) (ci := 10) (v := .int 0) (C := RX10) (T := TX10) (N := 96) hx hb hts inlX10 hown hK hP 0 rfl rfl 10 (by decide) (hts _ q748) (fun _ h => h) rfl dX10_isStatement_1 ?_
  refine lv_if_eq (tgt := 30) hx hb dX10_isStatement_4 (by decide) (fun _ => ?_) (fun h9 => absurd (by decide) h9)
  refine lv_iconst (v := 0) hx hb dX10_isStatement_30 (by decide) ?_
  exact vz_zret hx hb hr hlk hK hP hD hS (()) (rfl) [0] rfl (by decide) (Nat.le_refl 0) (Nat.le_refl 0) (by decide) dX10_isStatement_31
theorem dX10_isMethod_0 : decode cX10_isMethod 0 = .ok (.aload_n 0, 1) := by decide +kernel
theorem dX10_isMethod_1 : decode cX10_isMethod 1 = .ok (.getfield 450, 3) := by decide +kernel
theorem dX10_isMethod_4 : decode cX10_isMethod 4 = .ok (.ifCond .eq 26, 3) := by decide +kernel
theorem dX10_isMethod_30 : decode cX10_isMethod 30 = .ok (.iconst 0, 1) := by decide +kernel
theorem dX10_isMethod_31 : decode cX10_isMethod 31 = .ok (.ireturn, 1) := by decide +kernel
set_option maxHeartbeats 4000000 in
set_option maxRecDepth 100000 in
theorem c_m_isMethod0 (l : Launch) (D : va_G) (g : Nat → ClassId) (h sz : Nat) (a : Nat → Nat) (i : Int32)  : vz_Mi l D (tyG g) yX10_isMethod cX10_isMethod 2 0 0 0 0 .boolean [.ref h, .int i] sz [(h, .inr (10, mF a (fun _ => 0)))] (fun r (u : Unit) => r = 0) (fun u => [(h, .inr (10, mF a (fun _ => 0)))]) := by
  refine vz_si (by decide) (Nat.le_of_ble_eq_true rfl) (fun p e s m args below meth c hx hb hr hml hts hown hlk hin hK hsz A hA H locs hP hD hS ls hl => ?_)
  have hl : lv_has ls 2 [(0, .ref h), (1, .int i)] := hl
  refine lv_aload_n hx hb dX10_isMethod_0 rfl (lv_at hl 0 rfl) ?_
  refine va_get (D := D) (ci := 10) (v := .int 0) (C := RX10) (T := TX10) (N := 96) hx hb hts inlX10 hown hK hP 0 rfl rfl 10 (by decide) (hts _ q748) (fun _ h => h) rfl dX10_isMethod_1 ?_
  refine lv_if_eq (tgt := 30) hx hb dX10_isMethod_4 (by decide) (fun _ => ?_) (fun h9 => absurd (by decide) h9)
  refine lv_iconst (v := 0) hx hb dX10_isMethod_30 (by decide) ?_
  exact vz_zret hx hb hr hlk hK hP hD hS (()) (rfl) [0] rfl (by decide) (Nat.le_refl 0) (Nat.le_refl 0) (by decide) dX10_isMethod_31
theorem q983 : Cond.methodLink RX10 459 yX10_isStatement ∈ wsL_law := mT_8 (List.mem_of_getElem? (i := 135) rfl) rfl
theorem q984 : Cond.instanceMethod yX10_isStatement ∈ wsL_law := mT_8 (List.mem_of_getElem? (i := 137) rfl) rfl
theorem q985 : Cond.selects RX10 yX10_isStatement yX10_isStatement ∈ wsL_law := mS_10 (q := (yX10_isStatement, 96)) (List.mem_of_getElem? (i := 7) rfl) rfl
theorem q5 : Cond.initialized RX10 ∈ wsL_law := mT_1 (List.mem_of_getElem? (i := 12) rfl) rfl
theorem q986 : Cond.code yX10_isStatement cX10_isStatement 2 (some .boolean) ∈ wsL_law := mT_8 (List.mem_of_getElem? (i := 138) rfl) rfl
theorem kv_X10_459 : vz_cv RX10 459 yX10_isStatement cX10_isStatement 2 (some .boolean) 1 := ⟨q983, q984, q985, q5, q986, by decide +kernel⟩
theorem dX10_plan_0 : decode cX10_plan 0 = .ok (.aload_n 0, 1) := by decide +kernel
theorem dX10_plan_1 : decode cX10_plan 1 = .ok (.iload_n 1, 1) := by decide +kernel
theorem dX10_plan_2 : decode cX10_plan 2 = .ok (.invokevirtual 459, 3) := by decide +kernel
theorem dX10_plan_5 : decode cX10_plan 5 = .ok (.ifCond .eq 43, 3) := by decide +kernel
theorem dX10_plan_48 : decode cX10_plan 48 = .ok (.iconst (-1), 1) := by decide +kernel
theorem dX10_plan_49 : decode cX10_plan 49 = .ok (.ireturn, 1) := by decide +kernel
set_option maxHeartbeats 4000000 in
set_option maxRecDepth 100000 in
theorem c_m_plan0 (l : Launch) (D : va_G) (g : Nat → ClassId) (h sz : Nat) (a : Nat → Nat) (i j k n : Int32)  : vz_Mi l D (tyG g) yX10_plan cX10_plan 5 1 21 0 0 .int [.ref h, .int i, .int j, .int k, .int n] sz [(h, .inr (10, mF a (fun _ => 0)))] (fun r (u : Unit) => r = -1) (fun u => [(h, .inr (10, mF a (fun _ => 0)))]) := by
  refine vz_si (by decide) (Nat.le_of_ble_eq_true rfl) (fun p e s m args below meth c hx hb hr hml hts hown hlk hin hK hsz A hA H locs hP hD hS ls hl => ?_)
  have hl : lv_has ls 5 [(0, .ref h), (1, .int i), (2, .int j), (3, .int k), (4, .int n)] := hl
  refine lv_aload_n hx hb dX10_plan_0 rfl (lv_at hl 0 rfl) ?_
  refine lv_iload_n hx hb dX10_plan_1 rfl (lv_at hl 1 rfl) ?_
  refine vz_Vi (wr := []) (As := [.int i]) (rest := []) hx hb hml hown hts hK hA hP hD hS (c_m_isStatement0 l D g h H.size a i) kv_X10_459 (⟨Nat.le_of_ble_eq_true rfl, Nat.le_of_ble_eq_true rfl⟩) (q0 := 0) (ci := 10) rfl rfl rfl [0] [] rfl rfl (by decide) hl.1 (Nat.le_of_ble_eq_true rfl) dX10_plan_2 (⟨Nat.le_of_ble_eq_true rfl, Nat.le_of_ble_eq_true rfl⟩) rfl (fun r1 _ H locs e2 _ hP hD hS => ?_)
  subst e2
  have hP : va_P D vwCl [(h, .inr (10, mF a (fun _ => 0)))] H := hP
  have hD : va_D A [(h, .inr (10, mF a (fun _ => 0)))] := hD
  refine lv_if_eq (tgt := 48) hx hb dX10_plan_5 (by decide) (fun _ => ?_) (fun h9 => absurd (by decide) h9)
  refine lv_iconst (v := (-1)) hx hb dX10_plan_48 (by decide) ?_
  exact vz_iret hx hb hr hlk hK hP hD hS (()) (rfl) [0] rfl (by decide) (Nat.le_refl 0) (Nat.le_refl 0) dX10_plan_49
theorem q1361 : Cond.methodLink RX10 609 yX10_isMethod ∈ wsL_law := mT_8 (List.mem_of_getElem? (i := 163) rfl) rfl
theorem q1362 : Cond.instanceMethod yX10_isMethod ∈ wsL_law := mT_8 (List.mem_of_getElem? (i := 165) rfl) rfl
theorem q1363 : Cond.selects RX10 yX10_isMethod yX10_isMethod ∈ wsL_law := mS_10 (q := (yX10_isMethod, 96)) (List.mem_of_getElem? (i := 11) rfl) rfl
theorem q1364 : Cond.code yX10_isMethod cX10_isMethod 2 (some .boolean) ∈ wsL_law := mT_8 (List.mem_of_getElem? (i := 166) rfl) rfl
theorem kv_X10_609 : vz_cv RX10 609 yX10_isMethod cX10_isMethod 2 (some .boolean) 1 := ⟨q1361, q1362, q1363, q5, q1364, by decide +kernel⟩
theorem dX10_run_0 : decode cX10_run 0 = .ok (.aload_n 0, 1) := by decide +kernel
theorem dX10_run_1 : decode cX10_run 1 = .ok (.iload_n 2, 1) := by decide +kernel
theorem dX10_run_2 : decode cX10_run 2 = .ok (.invokevirtual 609, 3) := by decide +kernel
theorem dX10_run_5 : decode cX10_run 5 = .ok (.ifCond .eq 15, 3) := by decide +kernel
theorem dX10_run_20 : decode cX10_run 20 = .ok (.iconst (-1), 1) := by decide +kernel
theorem dX10_run_21 : decode cX10_run 21 = .ok (.ireturn, 1) := by decide +kernel
set_option maxHeartbeats 4000000 in
set_option maxRecDepth 100000 in
theorem c_m_run0 (l : Launch) (D : va_G) (g : Nat → ClassId) (h sz : Nat) (a : Nat → Nat) (b i j k n : Int32)  : vz_Mi l D (tyG g) yX10_run cX10_run 6 1 21 0 0 .int [.ref h, .int b, .int i, .int j, .int k, .int n] sz [(h, .inr (10, mF a (fun _ => 0)))] (fun r (u : Unit) => r = -1) (fun u => [(h, .inr (10, mF a (fun _ => 0)))]) := by
  refine vz_si (by decide) (Nat.le_of_ble_eq_true rfl) (fun p e s m args below meth c hx hb hr hml hts hown hlk hin hK hsz A hA H locs hP hD hS ls hl => ?_)
  have hl : lv_has ls 6 [(0, .ref h), (1, .int b), (2, .int i), (3, .int j), (4, .int k), (5, .int n)] := hl
  refine lv_aload_n hx hb dX10_run_0 rfl (lv_at hl 0 rfl) ?_
  refine lv_iload_n hx hb dX10_run_1 rfl (lv_at hl 2 rfl) ?_
  refine vz_Vi (wr := []) (As := [.int i]) (rest := []) hx hb hml hown hts hK hA hP hD hS (c_m_isMethod0 l D g h H.size a i) kv_X10_609 (⟨Nat.le_of_ble_eq_true rfl, Nat.le_of_ble_eq_true rfl⟩) (q0 := 0) (ci := 10) rfl rfl rfl [0] [] rfl rfl (by decide) hl.1 (Nat.le_of_ble_eq_true rfl) dX10_run_2 (⟨Nat.le_of_ble_eq_true rfl, Nat.le_of_ble_eq_true rfl⟩) rfl (fun r1 _ H locs e2 _ hP hD hS => ?_)
  subst e2
  have hP : va_P D vwCl [(h, .inr (10, mF a (fun _ => 0)))] H := hP
  have hD : va_D A [(h, .inr (10, mF a (fun _ => 0)))] := hD
  refine lv_if_eq (tgt := 20) hx hb dX10_run_5 (by decide) (fun _ => ?_) (fun h9 => absurd (by decide) h9)
  refine lv_iconst (v := (-1)) hx hb dX10_run_20 (by decide) ?_
  exact vz_iret hx hb hr hlk hK hP hD hS (()) (rfl) [0] rfl (by decide) (Nat.le_refl 0) (Nat.le_refl 0) dX10_run_21
theorem dX10_ways_0 : decode cX10_ways 0 = .ok (.aload_n 0, 1) := by decide +kernel
theorem dX10_ways_1 : decode cX10_ways 1 = .ok (.iload_n 1, 1) := by decide +kernel
theorem dX10_ways_2 : decode cX10_ways 2 = .ok (.invokevirtual 609, 3) := by decide +kernel
theorem dX10_ways_5 : decode cX10_ways 5 = .ok (.ifCond .ne 5, 3) := by decide +kernel
theorem dX10_ways_8 : decode cX10_ways 8 = .ok (.iconst (-1), 1) := by decide +kernel
theorem dX10_ways_9 : decode cX10_ways 9 = .ok (.ireturn, 1) := by decide +kernel
set_option maxHeartbeats 4000000 in
set_option maxRecDepth 100000 in
theorem c_m_ways0 (l : Launch) (D : va_G) (g : Nat → ClassId) (h sz : Nat) (a : Nat → Nat) (i j k : Int32)  : vz_Mi l D (tyG g) yX10_ways cX10_ways 6 1 21 0 0 .int [.ref h, .int i, .int j, .int k] sz [(h, .inr (10, mF a (fun _ => 0)))] (fun r (u : Unit) => r = -1) (fun u => [(h, .inr (10, mF a (fun _ => 0)))]) := by
  refine vz_si (by decide) (Nat.le_of_ble_eq_true rfl) (fun p e s m args below meth c hx hb hr hml hts hown hlk hin hK hsz A hA H locs hP hD hS ls hl => ?_)
  have hl : lv_has ls 6 [(0, .ref h), (1, .int i), (2, .int j), (3, .int k)] := hl
  refine lv_aload_n hx hb dX10_ways_0 rfl (lv_at hl 0 rfl) ?_
  refine lv_iload_n hx hb dX10_ways_1 rfl (lv_at hl 1 rfl) ?_
  refine vz_Vi (wr := []) (As := [.int i]) (rest := []) hx hb hml hown hts hK hA hP hD hS (c_m_isMethod0 l D g h H.size a i) kv_X10_609 (⟨Nat.le_of_ble_eq_true rfl, Nat.le_of_ble_eq_true rfl⟩) (q0 := 0) (ci := 10) rfl rfl rfl [0] [] rfl rfl (by decide) hl.1 (Nat.le_of_ble_eq_true rfl) dX10_ways_2 (⟨Nat.le_of_ble_eq_true rfl, Nat.le_of_ble_eq_true rfl⟩) rfl (fun r1 _ H locs e2 _ hP hD hS => ?_)
  subst e2
  have hP : va_P D vwCl [(h, .inr (10, mF a (fun _ => 0)))] H := hP
  have hD : va_D A [(h, .inr (10, mF a (fun _ => 0)))] := hD
  refine lv_if_ne (tgt := 10) hx hb dX10_ways_5 (by decide) (fun h9 => absurd (by decide) h9) (fun _ => ?_)
  refine lv_iconst (v := (-1)) hx hb dX10_ways_8 (by decide) ?_
  exact vz_iret hx hb hr hlk hK hP hD hS (()) (rfl) [0] rfl (by decide) (Nat.le_refl 0) (Nat.le_refl 0) dX10_ways_9
theorem dX10_same_0 : decode cX10_same 0 = .ok (.aload_n 0, 1) := by decide +kernel
theorem dX10_same_1 : decode cX10_same 1 = .ok (.iload_n 1, 1) := by decide +kernel
theorem dX10_same_2 : decode cX10_same 2 = .ok (.invokevirtual 609, 3) := by decide +kernel
theorem dX10_same_5 : decode cX10_same 5 = .ok (.ifCond .eq 7, 3) := by decide +kernel
theorem dX10_same_12 : decode cX10_same 12 = .ok (.iconst (-1), 1) := by decide +kernel
theorem dX10_same_13 : decode cX10_same 13 = .ok (.ireturn, 1) := by decide +kernel
set_option maxHeartbeats 4000000 in
set_option maxRecDepth 100000 in
theorem c_m_same0 (l : Launch) (D : va_G) (g : Nat → ClassId) (h sz : Nat) (a : Nat → Nat) (i j k : Int32)  : vz_Mi l D (tyG g) yX10_same cX10_same 4 1 21 0 0 .int [.ref h, .int i, .int j, .int k] sz [(h, .inr (10, mF a (fun _ => 0)))] (fun r (u : Unit) => r = -1) (fun u => [(h, .inr (10, mF a (fun _ => 0)))]) := by
  refine vz_si (by decide) (Nat.le_of_ble_eq_true rfl) (fun p e s m args below meth c hx hb hr hml hts hown hlk hin hK hsz A hA H locs hP hD hS ls hl => ?_)
  have hl : lv_has ls 4 [(0, .ref h), (1, .int i), (2, .int j), (3, .int k)] := hl
  refine lv_aload_n hx hb dX10_same_0 rfl (lv_at hl 0 rfl) ?_
  refine lv_iload_n hx hb dX10_same_1 rfl (lv_at hl 1 rfl) ?_
  refine vz_Vi (wr := []) (As := [.int i]) (rest := []) hx hb hml hown hts hK hA hP hD hS (c_m_isMethod0 l D g h H.size a i) kv_X10_609 (⟨Nat.le_of_ble_eq_true rfl, Nat.le_of_ble_eq_true rfl⟩) (q0 := 0) (ci := 10) rfl rfl rfl [0] [] rfl rfl (by decide) hl.1 (Nat.le_of_ble_eq_true rfl) dX10_same_2 (⟨Nat.le_of_ble_eq_true rfl, Nat.le_of_ble_eq_true rfl⟩) rfl (fun r1 _ H locs e2 _ hP hD hS => ?_)
  subst e2
  have hP : va_P D vwCl [(h, .inr (10, mF a (fun _ => 0)))] H := hP
  have hD : va_D A [(h, .inr (10, mF a (fun _ => 0)))] := hD
  refine lv_if_eq (tgt := 12) hx hb dX10_same_5 (by decide) (fun _ => ?_) (fun h9 => absurd (by decide) h9)
  refine lv_iconst (v := (-1)) hx hb dX10_same_12 (by decide) ?_
  exact vz_iret hx hb hr hlk hK hP hD hS (()) (rfl) [0] rfl (by decide) (Nat.le_refl 0) (Nat.le_refl 0) dX10_same_13
theorem dX10_handler_0 : decode cX10_handler 0 = .ok (.aload_n 0, 1) := by decide +kernel
theorem dX10_handler_1 : decode cX10_handler 1 = .ok (.getfield 450, 3) := by decide +kernel
theorem dX10_handler_4 : decode cX10_handler 4 = .ok (.ifCond .eq 31, 3) := by decide +kernel
theorem dX10_handler_35 : decode cX10_handler 35 = .ok (.iconst (-1), 1) := by decide +kernel
theorem dX10_handler_36 : decode cX10_handler 36 = .ok (.ireturn, 1) := by decide +kernel
set_option maxHeartbeats 4000000 in
set_option maxRecDepth 100000 in
theorem c_m_handler0 (l : Launch) (D : va_G) (g : Nat → ClassId) (h sz : Nat) (a : Nat → Nat) (i j : Int32)  : vz_Mi l D (tyG g) yX10_handler cX10_handler 6 0 0 0 0 .int [.ref h, .int i, .int j] sz [(h, .inr (10, mF a (fun _ => 0)))] (fun r (u : Unit) => r = -1) (fun u => [(h, .inr (10, mF a (fun _ => 0)))]) := by
  refine vz_si (by decide) (Nat.le_of_ble_eq_true rfl) (fun p e s m args below meth c hx hb hr hml hts hown hlk hin hK hsz A hA H locs hP hD hS ls hl => ?_)
  have hl : lv_has ls 6 [(0, .ref h), (1, .int i), (2, .int j)] := hl
  refine lv_aload_n hx hb dX10_handler_0 rfl (lv_at hl 0 rfl) ?_
  refine va_get (D := D) (ci := 10) (v := .int 0) (C := RX10) (T := TX10) (N := 96) hx hb hts inlX10 hown hK hP 0 rfl rfl 10 (by decide) (hts _ q748) (fun _ h => h) rfl dX10_handler_1 ?_
  refine lv_if_eq (tgt := 35) hx hb dX10_handler_4 (by decide) (fun _ => ?_) (fun h9 => absurd (by decide) h9)
  refine lv_iconst (v := (-1)) hx hb dX10_handler_35 (by decide) ?_
  exact vz_iret hx hb hr hlk hK hP hD hS (()) (rfl) [0] rfl (by decide) (Nat.le_refl 0) (Nat.le_refl 0) dX10_handler_36
theorem vz_01 {w : Int32} (h : ¬ (w < 0 ∨ 1 < w)) : 0 ≤ w.toInt ∧ w.toInt < ((2 : Nat) : Int) := by
  have h1 : ¬ w < 0 := fun z => h (Or.inl z)
  have h2 : ¬ (1 : Int32) < w := fun z => h (Or.inr z)
  obtain ⟨k, hk, rfl⟩ := nI_of h1
  have h3 : ¬ nI 1 < nI k := h2
  have h4 : k ≤ 1 := by
    rcases Nat.lt_or_ge 1 k with z | z
    · exact absurd (nI_lt z hk) h3
    · exact z
  rw [nI_toInt hk]
  omega
theorem q273 : Cond.methodLink RX10 239 yX10_in ∈ wsL_law := mT_7 (List.mem_of_getElem? (i := 166) rfl) rfl
theorem q274 : Cond.static yX10_in ∈ wsL_law := mT_7 (List.mem_of_getElem? (i := 167) rfl) rfl
theorem q275 : Cond.code yX10_in cX10_in 3 (some .boolean) ∈ wsL_law := mT_7 (List.mem_of_getElem? (i := 168) rfl) rfl
theorem ks_X10_239 : vz_cs RX10 239 yX10_in cX10_in 3 (some .boolean) 3 := ⟨q273, q274, q5, q275, by decide +kernel⟩
theorem dX10_isRun_0 : decode cX10_isRun 0 = .ok (.iload_n 1, 1) := by decide +kernel
theorem dX10_isRun_1 : decode cX10_isRun 1 = .ok (.iconst 0, 1) := by decide +kernel
theorem dX10_isRun_2 : decode cX10_isRun 2 = .ok (.iconst 1, 1) := by decide +kernel
theorem dX10_isRun_3 : decode cX10_isRun 3 = .ok (.invokestatic 239, 3) := by decide +kernel
theorem dX10_isRun_6 : decode cX10_isRun 6 = .ok (.ifCond .eq 16, 3) := by decide +kernel
theorem dX10_isRun_9 : decode cX10_isRun 9 = .ok (.aload_n 0, 1) := by decide +kernel
theorem dX10_isRun_10 : decode cX10_isRun 10 = .ok (.getfield 138, 3) := by decide +kernel
theorem dX10_isRun_13 : decode cX10_isRun 13 = .ok (.iload_n 1, 1) := by decide +kernel
theorem dX10_isRun_14 : decode cX10_isRun 14 = .ok (.baload, 1) := by decide +kernel
theorem dX10_isRun_15 : decode cX10_isRun 15 = .ok (.ifCond .eq 7, 3) := by decide +kernel
theorem dX10_isRun_22 : decode cX10_isRun 22 = .ok (.iconst 0, 1) := by decide +kernel
theorem dX10_isRun_23 : decode cX10_isRun 23 = .ok (.ireturn, 1) := by decide +kernel
set_option maxHeartbeats 4000000 in
set_option maxRecDepth 100000 in
theorem c_m_isRun0 (l : Launch) (D : va_G) (g : Nat → ClassId) (h sz : Nat) (a : Nat → Nat) (w : Int32)  : vz_Mi l D (tyG g) yX10_isRun cX10_isRun 2 1 22 0 0 .boolean [.ref h, .int w] sz [(h, .inr (10, mF a (fun _ => 0))), ((a 28), .inl (g 3, 2, .inl (fun _ => 0)))] (fun r (u : Unit) => r = 0) (fun u => [(h, .inr (10, mF a (fun _ => 0))), ((a 28), .inl (g 3, 2, .inl (fun _ => 0)))]) := by
  refine vz_si (by decide) (Nat.le_of_ble_eq_true rfl) (fun p e s m args below meth c hx hb hr hml hts hown hlk hin hK hsz A hA H locs hP hD hS ls hl => ?_)
  have hl : lv_has ls 2 [(0, .ref h), (1, .int w)] := hl
  by_cases ka : w < 0 ∨ 1 < w
  · refine lv_iload_n hx hb dX10_isRun_0 rfl (lv_at hl 1 rfl) ?_
    refine lv_iconst (v := 0) hx hb dX10_isRun_1 (by decide) ?_
    refine lv_iconst (v := 1) hx hb dX10_isRun_2 (by decide) ?_
    refine vz_Si (wr := [(h, .inr (10, mF a (fun _ => 0))), ((a 28), .inl (g 3, 2, .inl (fun _ => 0)))]) (As := [.int w, .int 0, .int 1]) (rest := []) hx hb hml hown hts hK hA hP hD hS (c_m_in l D g H.size w 0 1) ks_X10_239 (⟨Nat.le_of_ble_eq_true rfl, Nat.le_of_ble_eq_true rfl⟩) [] [0, 1] rfl rfl (by decide) hl.1 (Nat.le_of_ble_eq_true rfl) dX10_isRun_3 (⟨Nat.le_of_ble_eq_true rfl, Nat.le_of_ble_eq_true rfl⟩) rfl (fun r1 _ H locs e2 _ hP hD hS => ?_)
    replace e2 := e2.trans (if_pos ka)
    subst e2
    have hP : va_P D vwCl [(h, .inr (10, mF a (fun _ => 0))), ((a 28), .inl (g 3, 2, .inl (fun _ => 0)))] H := hP
    have hD : va_D A [(h, .inr (10, mF a (fun _ => 0))), ((a 28), .inl (g 3, 2, .inl (fun _ => 0)))] := hD
    refine lv_if_eq (tgt := 22) hx hb dX10_isRun_6 (by decide) (fun _ => ?_) (fun h9 => absurd (rfl) h9)
    refine lv_iconst (v := 0) hx hb dX10_isRun_22 (by decide) ?_
    exact vz_zret hx hb hr hlk hK hP hD hS (()) (rfl) [0, 1] rfl (by decide) (Nat.le_refl 0) (Nat.le_refl 0) (by decide) dX10_isRun_23
  · refine lv_iload_n hx hb dX10_isRun_0 rfl (lv_at hl 1 rfl) ?_
    refine lv_iconst (v := 0) hx hb dX10_isRun_1 (by decide) ?_
    refine lv_iconst (v := 1) hx hb dX10_isRun_2 (by decide) ?_
    refine vz_Si (wr := [(h, .inr (10, mF a (fun _ => 0))), ((a 28), .inl (g 3, 2, .inl (fun _ => 0)))]) (As := [.int w, .int 0, .int 1]) (rest := []) hx hb hml hown hts hK hA hP hD hS (c_m_in l D g H.size w 0 1) ks_X10_239 (⟨Nat.le_of_ble_eq_true rfl, Nat.le_of_ble_eq_true rfl⟩) [] [0, 1] rfl rfl (by decide) hl.1 (Nat.le_of_ble_eq_true rfl) dX10_isRun_3 (⟨Nat.le_of_ble_eq_true rfl, Nat.le_of_ble_eq_true rfl⟩) rfl (fun r3 _ H locs e4 _ hP hD hS => ?_)
    replace e4 := e4.trans (if_neg ka)
    subst e4
    have hP : va_P D vwCl [(h, .inr (10, mF a (fun _ => 0))), ((a 28), .inl (g 3, 2, .inl (fun _ => 0)))] H := hP
    have hD : va_D A [(h, .inr (10, mF a (fun _ => 0))), ((a 28), .inl (g 3, 2, .inl (fun _ => 0)))] := hD
    refine lv_if_eq (tgt := 22) hx hb dX10_isRun_6 (by decide) (fun h9 => absurd h9 (by decide)) (fun _ => ?_)
    refine lv_aload_n hx hb dX10_isRun_9 rfl (lv_at hl 0 rfl) ?_
    refine va_get (D := D) (ci := 10) (v := .ref (a 28)) (C := RX10) (T := TX10) (N := 96) hx hb hts inlX10 hown hK hP 0 rfl rfl 48 (by decide) (hts _ q222) (fun _ h => h) rfl dX10_isRun_10 ?_
    refine lv_iload_n hx hb dX10_isRun_13 rfl (lv_at hl 1 rfl) ?_
    refine va_zald hx hb hK hP 1 3 rfl rfl (vp_in_iff.mpr (vz_01 ka)) dX10_isRun_14 ?_
    refine lv_topi (nm_r (e' := 0) (rfl) ?_)
    refine lv_if_eq (tgt := 22) hx hb dX10_isRun_15 (by decide) (fun _ => ?_) (fun h9 => absurd (rfl) h9)
    refine lv_iconst (v := 0) hx hb dX10_isRun_22 (by decide) ?_
    exact vz_zret hx hb hr hlk hK hP hD hS (()) (rfl) [0, 1] rfl (by decide) (Nat.le_refl 0) (Nat.le_refl 0) (by decide) dX10_isRun_23
theorem q1531 : Cond.methodLink RX10 616 yX10_isRun ∈ wsL_law := mT_9 (List.mem_of_getElem? (i := 59) rfl) rfl
theorem q1532 : Cond.instanceMethod yX10_isRun ∈ wsL_law := mT_9 (List.mem_of_getElem? (i := 61) rfl) rfl
theorem q1533 : Cond.selects RX10 yX10_isRun yX10_isRun ∈ wsL_law := mS_12 (q := (yX10_isRun, 96)) (List.mem_of_getElem? (i := 12) rfl) rfl
theorem q1534 : Cond.code yX10_isRun cX10_isRun 2 (some .boolean) ∈ wsL_law := mT_9 (List.mem_of_getElem? (i := 62) rfl) rfl
theorem kv_X10_616 : vz_cv RX10 616 yX10_isRun cX10_isRun 2 (some .boolean) 1 := ⟨q1531, q1532, q1533, q5, q1534, by decide +kernel⟩
theorem dX10_ran_0 : decode cX10_ran 0 = .ok (.aload_n 0, 1) := by decide +kernel
theorem dX10_ran_1 : decode cX10_ran 1 = .ok (.iload_n 1, 1) := by decide +kernel
theorem dX10_ran_2 : decode cX10_ran 2 = .ok (.invokevirtual 616, 3) := by decide +kernel
theorem dX10_ran_5 : decode cX10_ran 5 = .ok (.ifCond .eq 27, 3) := by decide +kernel
theorem dX10_ran_32 : decode cX10_ran 32 = .ok (.iconst (-1), 1) := by decide +kernel
theorem dX10_ran_33 : decode cX10_ran 33 = .ok (.ireturn, 1) := by decide +kernel
set_option maxHeartbeats 4000000 in
set_option maxRecDepth 100000 in
theorem c_m_ran0 (l : Launch) (D : va_G) (g : Nat → ClassId) (h sz : Nat) (a : Nat → Nat) (w i : Int32)  : vz_Mi l D (tyG g) yX10_ran cX10_ran 3 2 43 0 0 .int [.ref h, .int w, .int i] sz [(h, .inr (10, mF a (fun _ => 0))), ((a 28), .inl (g 3, 2, .inl (fun _ => 0)))] (fun r (u : Unit) => r = -1) (fun u => [(h, .inr (10, mF a (fun _ => 0))), ((a 28), .inl (g 3, 2, .inl (fun _ => 0)))]) := by
  refine vz_si (by decide) (Nat.le_of_ble_eq_true rfl) (fun p e s m args below meth c hx hb hr hml hts hown hlk hin hK hsz A hA H locs hP hD hS ls hl => ?_)
  have hl : lv_has ls 3 [(0, .ref h), (1, .int w), (2, .int i)] := hl
  refine lv_aload_n hx hb dX10_ran_0 rfl (lv_at hl 0 rfl) ?_
  refine lv_iload_n hx hb dX10_ran_1 rfl (lv_at hl 1 rfl) ?_
  refine vz_Vi (wr := []) (As := [.int w]) (rest := []) hx hb hml hown hts hK hA hP hD hS (c_m_isRun0 l D g h H.size a w) kv_X10_616 (⟨Nat.le_of_ble_eq_true rfl, Nat.le_of_ble_eq_true rfl⟩) (q0 := 0) (ci := 10) rfl rfl rfl [0, 1] [] rfl rfl (by decide) hl.1 (Nat.le_of_ble_eq_true rfl) dX10_ran_2 (⟨Nat.le_of_ble_eq_true rfl, Nat.le_of_ble_eq_true rfl⟩) rfl (fun r1 _ H locs e2 _ hP hD hS => ?_)
  subst e2
  have hP : va_P D vwCl [(h, .inr (10, mF a (fun _ => 0))), ((a 28), .inl (g 3, 2, .inl (fun _ => 0)))] H := hP
  have hD : va_D A [(h, .inr (10, mF a (fun _ => 0))), ((a 28), .inl (g 3, 2, .inl (fun _ => 0)))] := hD
  refine lv_if_eq (tgt := 32) hx hb dX10_ran_5 (by decide) (fun _ => ?_) (fun h9 => absurd (by decide) h9)
  refine lv_iconst (v := (-1)) hx hb dX10_ran_32 (by decide) ?_
  exact vz_iret hx hb hr hlk hK hP hD hS (()) (rfl) [0, 1] rfl (by decide) (Nat.le_refl 0) (Nat.le_refl 0) dX10_ran_33
theorem dX10_mark_0 : decode cX10_mark 0 = .ok (.aload_n 0, 1) := by decide +kernel
theorem dX10_mark_1 : decode cX10_mark 1 = .ok (.iload_n 1, 1) := by decide +kernel
theorem dX10_mark_2 : decode cX10_mark 2 = .ok (.invokevirtual 616, 3) := by decide +kernel
theorem dX10_mark_5 : decode cX10_mark 5 = .ok (.ifCond .ne 7, 3) := by decide +kernel
theorem dX10_mark_8 : decode cX10_mark 8 = .ok (.iconst (-1), 1) := by decide +kernel
theorem dX10_mark_9 : decode cX10_mark 9 = .ok (.goto 41, 3) := by decide +kernel
theorem dX10_mark_50 : decode cX10_mark 50 = .ok (.ireturn, 1) := by decide +kernel
set_option maxHeartbeats 4000000 in
set_option maxRecDepth 100000 in
theorem c_m_mark0 (l : Launch) (D : va_G) (g : Nat → ClassId) (h sz : Nat) (a : Nat → Nat) (w i : Int32)  : vz_Mi l D (tyG g) yX10_mark cX10_mark 3 2 43 0 0 .int [.ref h, .int w, .int i] sz [(h, .inr (10, mF a (fun _ => 0))), ((a 28), .inl (g 3, 2, .inl (fun _ => 0)))] (fun r (u : Unit) => r = -1) (fun u => [(h, .inr (10, mF a (fun _ => 0))), ((a 28), .inl (g 3, 2, .inl (fun _ => 0)))]) := by
  refine vz_si (by decide) (Nat.le_of_ble_eq_true rfl) (fun p e s m args below meth c hx hb hr hml hts hown hlk hin hK hsz A hA H locs hP hD hS ls hl => ?_)
  have hl : lv_has ls 3 [(0, .ref h), (1, .int w), (2, .int i)] := hl
  refine lv_aload_n hx hb dX10_mark_0 rfl (lv_at hl 0 rfl) ?_
  refine lv_iload_n hx hb dX10_mark_1 rfl (lv_at hl 1 rfl) ?_
  refine vz_Vi (wr := []) (As := [.int w]) (rest := []) hx hb hml hown hts hK hA hP hD hS (c_m_isRun0 l D g h H.size a w) kv_X10_616 (⟨Nat.le_of_ble_eq_true rfl, Nat.le_of_ble_eq_true rfl⟩) (q0 := 0) (ci := 10) rfl rfl rfl [0, 1] [] rfl rfl (by decide) hl.1 (Nat.le_of_ble_eq_true rfl) dX10_mark_2 (⟨Nat.le_of_ble_eq_true rfl, Nat.le_of_ble_eq_true rfl⟩) rfl (fun r1 _ H locs e2 _ hP hD hS => ?_)
  subst e2
  have hP : va_P D vwCl [(h, .inr (10, mF a (fun _ => 0))), ((a 28), .inl (g 3, 2, .inl (fun _ => 0)))] H := hP
  have hD : va_D A [(h, .inr (10, mF a (fun _ => 0))), ((a 28), .inl (g 3, 2, .inl (fun _ => 0)))] := hD
  refine lv_if_ne (tgt := 12) hx hb dX10_mark_5 (by decide) (fun h9 => absurd (by decide) h9) (fun _ => ?_)
  refine lv_iconst (v := (-1)) hx hb dX10_mark_8 (by decide) ?_
  refine lv_goto (tgt := 50) hx hb dX10_mark_9 (by decide) ?_
  exact vz_iret hx hb hr hlk hK hP hD hS (()) (rfl) [0, 1] rfl (by decide) (Nat.le_refl 0) (Nat.le_refl 0) dX10_mark_50
theorem dX10_failure_0 : decode cX10_failure 0 = .ok (.aload_n 0, 1) := by decide +kernel
theorem dX10_failure_1 : decode cX10_failure 1 = .ok (.iload_n 1, 1) := by decide +kernel
theorem dX10_failure_2 : decode cX10_failure 2 = .ok (.invokevirtual 616, 3) := by decide +kernel
theorem dX10_failure_5 : decode cX10_failure 5 = .ok (.ifCond .eq 12, 3) := by decide +kernel
theorem dX10_failure_17 : decode cX10_failure 17 = .ok (.iconst (-1), 1) := by decide +kernel
theorem dX10_failure_18 : decode cX10_failure 18 = .ok (.ireturn, 1) := by decide +kernel
set_option maxHeartbeats 4000000 in
set_option maxRecDepth 100000 in
theorem c_m_failure0 (l : Launch) (D : va_G) (g : Nat → ClassId) (h sz : Nat) (a : Nat → Nat) (w i j : Int32)  : vz_Mi l D (tyG g) yX10_failure cX10_failure 5 2 43 0 0 .int [.ref h, .int w, .int i, .int j] sz [(h, .inr (10, mF a (fun _ => 0))), ((a 28), .inl (g 3, 2, .inl (fun _ => 0)))] (fun r (u : Unit) => r = -1) (fun u => [(h, .inr (10, mF a (fun _ => 0))), ((a 28), .inl (g 3, 2, .inl (fun _ => 0)))]) := by
  refine vz_si (by decide) (Nat.le_of_ble_eq_true rfl) (fun p e s m args below meth c hx hb hr hml hts hown hlk hin hK hsz A hA H locs hP hD hS ls hl => ?_)
  have hl : lv_has ls 5 [(0, .ref h), (1, .int w), (2, .int i), (3, .int j)] := hl
  refine lv_aload_n hx hb dX10_failure_0 rfl (lv_at hl 0 rfl) ?_
  refine lv_iload_n hx hb dX10_failure_1 rfl (lv_at hl 1 rfl) ?_
  refine vz_Vi (wr := []) (As := [.int w]) (rest := []) hx hb hml hown hts hK hA hP hD hS (c_m_isRun0 l D g h H.size a w) kv_X10_616 (⟨Nat.le_of_ble_eq_true rfl, Nat.le_of_ble_eq_true rfl⟩) (q0 := 0) (ci := 10) rfl rfl rfl [0, 1] [] rfl rfl (by decide) hl.1 (Nat.le_of_ble_eq_true rfl) dX10_failure_2 (⟨Nat.le_of_ble_eq_true rfl, Nat.le_of_ble_eq_true rfl⟩) rfl (fun r1 _ H locs e2 _ hP hD hS => ?_)
  subst e2
  have hP : va_P D vwCl [(h, .inr (10, mF a (fun _ => 0))), ((a 28), .inl (g 3, 2, .inl (fun _ => 0)))] H := hP
  have hD : va_D A [(h, .inr (10, mF a (fun _ => 0))), ((a 28), .inl (g 3, 2, .inl (fun _ => 0)))] := hD
  refine lv_if_eq (tgt := 17) hx hb dX10_failure_5 (by decide) (fun _ => ?_) (fun h9 => absurd (by decide) h9)
  refine lv_iconst (v := (-1)) hx hb dX10_failure_17 (by decide) ?_
  exact vz_iret hx hb hr hlk hK hP hD hS (()) (rfl) [0, 1] rfl (by decide) (Nat.le_refl 0) (Nat.le_refl 0) dX10_failure_18
theorem dX10_trace_0 : decode cX10_trace 0 = .ok (.aload_n 0, 1) := by decide +kernel
theorem dX10_trace_1 : decode cX10_trace 1 = .ok (.iload_n 1, 1) := by decide +kernel
theorem dX10_trace_2 : decode cX10_trace 2 = .ok (.invokevirtual 616, 3) := by decide +kernel
theorem dX10_trace_5 : decode cX10_trace 5 = .ok (.ifCond .ne 5, 3) := by decide +kernel
theorem dX10_trace_8 : decode cX10_trace 8 = .ok (.iconst (-1), 1) := by decide +kernel
theorem dX10_trace_9 : decode cX10_trace 9 = .ok (.ireturn, 1) := by decide +kernel
set_option maxHeartbeats 4000000 in
set_option maxRecDepth 100000 in
theorem c_m_trace0 (l : Launch) (D : va_G) (g : Nat → ClassId) (h sz : Nat) (a : Nat → Nat) (w i j : Int32)  : vz_Mi l D (tyG g) yX10_trace cX10_trace 4 2 43 0 0 .int [.ref h, .int w, .int i, .int j] sz [(h, .inr (10, mF a (fun _ => 0))), ((a 28), .inl (g 3, 2, .inl (fun _ => 0)))] (fun r (u : Unit) => r = -1) (fun u => [(h, .inr (10, mF a (fun _ => 0))), ((a 28), .inl (g 3, 2, .inl (fun _ => 0)))]) := by
  refine vz_si (by decide) (Nat.le_of_ble_eq_true rfl) (fun p e s m args below meth c hx hb hr hml hts hown hlk hin hK hsz A hA H locs hP hD hS ls hl => ?_)
  have hl : lv_has ls 4 [(0, .ref h), (1, .int w), (2, .int i), (3, .int j)] := hl
  refine lv_aload_n hx hb dX10_trace_0 rfl (lv_at hl 0 rfl) ?_
  refine lv_iload_n hx hb dX10_trace_1 rfl (lv_at hl 1 rfl) ?_
  refine vz_Vi (wr := []) (As := [.int w]) (rest := []) hx hb hml hown hts hK hA hP hD hS (c_m_isRun0 l D g h H.size a w) kv_X10_616 (⟨Nat.le_of_ble_eq_true rfl, Nat.le_of_ble_eq_true rfl⟩) (q0 := 0) (ci := 10) rfl rfl rfl [0, 1] [] rfl rfl (by decide) hl.1 (Nat.le_of_ble_eq_true rfl) dX10_trace_2 (⟨Nat.le_of_ble_eq_true rfl, Nat.le_of_ble_eq_true rfl⟩) rfl (fun r1 _ H locs e2 _ hP hD hS => ?_)
  subst e2
  have hP : va_P D vwCl [(h, .inr (10, mF a (fun _ => 0))), ((a 28), .inl (g 3, 2, .inl (fun _ => 0)))] H := hP
  have hD : va_D A [(h, .inr (10, mF a (fun _ => 0))), ((a 28), .inl (g 3, 2, .inl (fun _ => 0)))] := hD
  refine lv_if_ne (tgt := 10) hx hb dX10_trace_5 (by decide) (fun h9 => absurd (by decide) h9) (fun _ => ?_)
  refine lv_iconst (v := (-1)) hx hb dX10_trace_8 (by decide) ?_
  exact vz_iret hx hb hr hlk hK hP hD hS (()) (rfl) [0, 1] rfl (by decide) (Nat.le_refl 0) (Nat.le_refl 0) dX10_trace_9
theorem dX10_closed_0 : decode cX10_closed 0 = .ok (.aload_n 0, 1) := by decide +kernel
theorem dX10_closed_1 : decode cX10_closed 1 = .ok (.iload_n 1, 1) := by decide +kernel
theorem dX10_closed_2 : decode cX10_closed 2 = .ok (.invokevirtual 616, 3) := by decide +kernel
theorem dX10_closed_5 : decode cX10_closed 5 = .ok (.ifCond .ne 7, 3) := by decide +kernel
theorem dX10_closed_8 : decode cX10_closed 8 = .ok (.iconst (-1), 1) := by decide +kernel
theorem dX10_closed_9 : decode cX10_closed 9 = .ok (.goto 42, 3) := by decide +kernel
theorem dX10_closed_51 : decode cX10_closed 51 = .ok (.ireturn, 1) := by decide +kernel
set_option maxHeartbeats 4000000 in
set_option maxRecDepth 100000 in
theorem c_m_closed0 (l : Launch) (D : va_G) (g : Nat → ClassId) (h sz : Nat) (a : Nat → Nat) (w i : Int32)  : vz_Mi l D (tyG g) yX10_closed cX10_closed 3 2 43 0 0 .int [.ref h, .int w, .int i] sz [(h, .inr (10, mF a (fun _ => 0))), ((a 28), .inl (g 3, 2, .inl (fun _ => 0)))] (fun r (u : Unit) => r = -1) (fun u => [(h, .inr (10, mF a (fun _ => 0))), ((a 28), .inl (g 3, 2, .inl (fun _ => 0)))]) := by
  refine vz_si (by decide) (Nat.le_of_ble_eq_true rfl) (fun p e s m args below meth c hx hb hr hml hts hown hlk hin hK hsz A hA H locs hP hD hS ls hl => ?_)
  have hl : lv_has ls 3 [(0, .ref h), (1, .int w), (2, .int i)] := hl
  refine lv_aload_n hx hb dX10_closed_0 rfl (lv_at hl 0 rfl) ?_
  refine lv_iload_n hx hb dX10_closed_1 rfl (lv_at hl 1 rfl) ?_
  refine vz_Vi (wr := []) (As := [.int w]) (rest := []) hx hb hml hown hts hK hA hP hD hS (c_m_isRun0 l D g h H.size a w) kv_X10_616 (⟨Nat.le_of_ble_eq_true rfl, Nat.le_of_ble_eq_true rfl⟩) (q0 := 0) (ci := 10) rfl rfl rfl [0, 1] [] rfl rfl (by decide) hl.1 (Nat.le_of_ble_eq_true rfl) dX10_closed_2 (⟨Nat.le_of_ble_eq_true rfl, Nat.le_of_ble_eq_true rfl⟩) rfl (fun r1 _ H locs e2 _ hP hD hS => ?_)
  subst e2
  have hP : va_P D vwCl [(h, .inr (10, mF a (fun _ => 0))), ((a 28), .inl (g 3, 2, .inl (fun _ => 0)))] H := hP
  have hD : va_D A [(h, .inr (10, mF a (fun _ => 0))), ((a 28), .inl (g 3, 2, .inl (fun _ => 0)))] := hD
  refine lv_if_ne (tgt := 12) hx hb dX10_closed_5 (by decide) (fun h9 => absurd (by decide) h9) (fun _ => ?_)
  refine lv_iconst (v := (-1)) hx hb dX10_closed_8 (by decide) ?_
  refine lv_goto (tgt := 51) hx hb dX10_closed_9 (by decide) ?_
  exact vz_iret hx hb hr hlk hK hP hD hS (()) (rfl) [0, 1] rfl (by decide) (Nat.le_refl 0) (Nat.le_refl 0) dX10_closed_51
theorem dX10_entered_0 : decode cX10_entered 0 = .ok (.aload_n 0, 1) := by decide +kernel
theorem dX10_entered_1 : decode cX10_entered 1 = .ok (.iload_n 1, 1) := by decide +kernel
theorem dX10_entered_2 : decode cX10_entered 2 = .ok (.invokevirtual 616, 3) := by decide +kernel
theorem dX10_entered_5 : decode cX10_entered 5 = .ok (.ifCond .eq 35, 3) := by decide +kernel
theorem dX10_entered_40 : decode cX10_entered 40 = .ok (.iconst (-1), 1) := by decide +kernel
theorem dX10_entered_41 : decode cX10_entered 41 = .ok (.ireturn, 1) := by decide +kernel
set_option maxHeartbeats 4000000 in
set_option maxRecDepth 100000 in
theorem c_m_entered0 (l : Launch) (D : va_G) (g : Nat → ClassId) (h sz : Nat) (a : Nat → Nat) (w i : Int32)  : vz_Mi l D (tyG g) yX10_entered cX10_entered 3 2 43 0 0 .int [.ref h, .int w, .int i] sz [(h, .inr (10, mF a (fun _ => 0))), ((a 28), .inl (g 3, 2, .inl (fun _ => 0)))] (fun r (u : Unit) => r = -1) (fun u => [(h, .inr (10, mF a (fun _ => 0))), ((a 28), .inl (g 3, 2, .inl (fun _ => 0)))]) := by
  refine vz_si (by decide) (Nat.le_of_ble_eq_true rfl) (fun p e s m args below meth c hx hb hr hml hts hown hlk hin hK hsz A hA H locs hP hD hS ls hl => ?_)
  have hl : lv_has ls 3 [(0, .ref h), (1, .int w), (2, .int i)] := hl
  refine lv_aload_n hx hb dX10_entered_0 rfl (lv_at hl 0 rfl) ?_
  refine lv_iload_n hx hb dX10_entered_1 rfl (lv_at hl 1 rfl) ?_
  refine vz_Vi (wr := []) (As := [.int w]) (rest := []) hx hb hml hown hts hK hA hP hD hS (c_m_isRun0 l D g h H.size a w) kv_X10_616 (⟨Nat.le_of_ble_eq_true rfl, Nat.le_of_ble_eq_true rfl⟩) (q0 := 0) (ci := 10) rfl rfl rfl [0, 1] [] rfl rfl (by decide) hl.1 (Nat.le_of_ble_eq_true rfl) dX10_entered_2 (⟨Nat.le_of_ble_eq_true rfl, Nat.le_of_ble_eq_true rfl⟩) rfl (fun r1 _ H locs e2 _ hP hD hS => ?_)
  subst e2
  have hP : va_P D vwCl [(h, .inr (10, mF a (fun _ => 0))), ((a 28), .inl (g 3, 2, .inl (fun _ => 0)))] H := hP
  have hD : va_D A [(h, .inr (10, mF a (fun _ => 0))), ((a 28), .inl (g 3, 2, .inl (fun _ => 0)))] := hD
  refine lv_if_eq (tgt := 40) hx hb dX10_entered_5 (by decide) (fun _ => ?_) (fun h9 => absurd (by decide) h9)
  refine lv_iconst (v := (-1)) hx hb dX10_entered_40 (by decide) ?_
  exact vz_iret hx hb hr hlk hK hP hD hS (()) (rfl) [0, 1] rfl (by decide) (Nat.le_refl 0) (Nat.le_refl 0) dX10_entered_41
theorem dX10_count_0 : decode cX10_count 0 = .ok (.iload_n 1, 1) := by decide +kernel
theorem dX10_count_1 : decode cX10_count 1 = .ok (.iconst 0, 1) := by decide +kernel
theorem dX10_count_2 : decode cX10_count 2 = .ok (.iconst 4, 1) := by decide +kernel
theorem dX10_count_3 : decode cX10_count 3 = .ok (.invokestatic 239, 3) := by decide +kernel
theorem dX10_count_6 : decode cX10_count 6 = .ok (.ifCond .eq 15, 3) := by decide +kernel
theorem dX10_count_9 : decode cX10_count 9 = .ok (.aload_n 0, 1) := by decide +kernel
theorem dX10_count_10 : decode cX10_count 10 = .ok (.getfield 450, 3) := by decide +kernel
theorem dX10_count_13 : decode cX10_count 13 = .ok (.ifCond .ne 10, 3) := by decide +kernel
theorem dX10_count_16 : decode cX10_count 16 = .ok (.iload_n 1, 1) := by decide +kernel
theorem dX10_count_17 : decode cX10_count 17 = .ok (.iconst 4, 1) := by decide +kernel
theorem dX10_count_18 : decode cX10_count 18 = .ok (.if_icmp .ge 5, 3) := by decide +kernel
theorem dX10_count_21 : decode cX10_count 21 = .ok (.iconst (-1), 1) := by decide +kernel
theorem dX10_count_22 : decode cX10_count 22 = .ok (.ireturn, 1) := by decide +kernel
theorem dX10_count_23 : decode cX10_count 23 = .ok (.iload_n 1, 1) := by decide +kernel
theorem dX10_count_24 : decode cX10_count 24 = .ok (.tableswitch 72 0 3 #[32, 42, 52, 62], 32) := by decide +kernel
theorem dX10_count_96 : decode cX10_count 96 = .ok (.aload_n 0, 1) := by decide +kernel
theorem dX10_count_97 : decode cX10_count 97 = .ok (.getfield 453, 3) := by decide +kernel
theorem dX10_count_100 : decode cX10_count 100 = .ok (.ireturn, 1) := by decide +kernel
set_option maxHeartbeats 4000000 in
set_option maxRecDepth 100000 in
theorem c_m_count0 (l : Launch) (D : va_G) (g : Nat → ClassId) (h sz : Nat) (a : Nat → Nat) (w : Int32)  : vz_Mi l D (tyG g) yX10_count cX10_count 2 1 22 0 0 .int [.ref h, .int w] sz [(h, .inr (10, mF a (fun _ => 0)))] (fun r (u : Unit) => r = if w = 4 then 0 else -1) (fun u => [(h, .inr (10, mF a (fun _ => 0)))]) := by
  refine vz_si (by decide) (Nat.le_of_ble_eq_true rfl) (fun p e s m args below meth c hx hb hr hml hts hown hlk hin hK hsz A hA H locs hP hD hS ls hl => ?_)
  have hl : lv_has ls 2 [(0, .ref h), (1, .int w)] := hl
  by_cases ka : w < 0 ∨ 4 < w
  · refine lv_iload_n hx hb dX10_count_0 rfl (lv_at hl 1 rfl) ?_
    refine lv_iconst (v := 0) hx hb dX10_count_1 (by decide) ?_
    refine lv_iconst (v := 4) hx hb dX10_count_2 (by decide) ?_
    refine vz_Si (wr := [(h, .inr (10, mF a (fun _ => 0)))]) (As := [.int w, .int 0, .int 4]) (rest := []) hx hb hml hown hts hK hA hP hD hS (c_m_in l D g H.size w 0 4) ks_X10_239 (⟨Nat.le_of_ble_eq_true rfl, Nat.le_of_ble_eq_true rfl⟩) [] [0] rfl rfl (by decide) hl.1 (Nat.le_of_ble_eq_true rfl) dX10_count_3 (⟨Nat.le_of_ble_eq_true rfl, Nat.le_of_ble_eq_true rfl⟩) rfl (fun r1 _ H locs e2 _ hP hD hS => ?_)
    replace e2 := e2.trans (if_pos ka)
    subst e2
    have hP : va_P D vwCl [(h, .inr (10, mF a (fun _ => 0)))] H := hP
    have hD : va_D A [(h, .inr (10, mF a (fun _ => 0)))] := hD
    refine lv_if_eq (tgt := 21) hx hb dX10_count_6 (by decide) (fun _ => ?_) (fun h9 => absurd (by decide) h9)
    refine lv_iconst (v := (-1)) hx hb dX10_count_21 (by decide) ?_
    exact vz_iret hx hb hr hlk hK hP hD hS (()) (by rw [if_neg (by rintro rfl; revert ka; decide)]) [0] rfl (by decide) (Nat.le_refl 0) (Nat.le_refl 0) dX10_count_22
  · refine lv_iload_n hx hb dX10_count_0 rfl (lv_at hl 1 rfl) ?_
    refine lv_iconst (v := 0) hx hb dX10_count_1 (by decide) ?_
    refine lv_iconst (v := 4) hx hb dX10_count_2 (by decide) ?_
    refine vz_Si (wr := [(h, .inr (10, mF a (fun _ => 0)))]) (As := [.int w, .int 0, .int 4]) (rest := []) hx hb hml hown hts hK hA hP hD hS (c_m_in l D g H.size w 0 4) ks_X10_239 (⟨Nat.le_of_ble_eq_true rfl, Nat.le_of_ble_eq_true rfl⟩) [] [0] rfl rfl (by decide) hl.1 (Nat.le_of_ble_eq_true rfl) dX10_count_3 (⟨Nat.le_of_ble_eq_true rfl, Nat.le_of_ble_eq_true rfl⟩) rfl (fun r3 _ H locs e4 _ hP hD hS => ?_)
    replace e4 := e4.trans (if_neg ka)
    subst e4
    have hP : va_P D vwCl [(h, .inr (10, mF a (fun _ => 0)))] H := hP
    have hD : va_D A [(h, .inr (10, mF a (fun _ => 0)))] := hD
    refine lv_if_eq (tgt := 21) hx hb dX10_count_6 (by decide) (fun h9 => absurd h9 (by decide)) (fun _ => ?_)
    refine lv_aload_n hx hb dX10_count_9 rfl (lv_at hl 0 rfl) ?_
    refine va_get (D := D) (ci := 10) (v := .int 0) (C := RX10) (T := TX10) (N := 96) hx hb hts inlX10 hown hK hP 0 rfl rfl 10 (by decide) (hts _ q748) (fun _ h => h) rfl dX10_count_10 ?_
    refine lv_if_ne (tgt := 23) hx hb dX10_count_13 (by decide) (fun h9 => absurd (by decide) h9) (fun _ => ?_)
    refine lv_iload_n hx hb dX10_count_16 rfl (lv_at hl 1 rfl) ?_
    refine lv_iconst (v := 4) hx hb dX10_count_17 (by decide) ?_
    refine lv_icmp_ge (tgt := 23) hx hb dX10_count_18 (by decide) (fun kd => ?_) (fun kd => ?_)
    · have hw : w = 4 := Int32.le_antisymm (Int32.not_lt.mp (fun z => ka (Or.inr z))) kd
      subst hw
      refine lv_iload_n hx hb dX10_count_23 rfl (lv_at hl 1 rfl) ?_
      refine lv_tableOut (tgt := 96) hx hb dX10_count_24 (by decide) (by decide) ?_
      refine lv_aload_n hx hb dX10_count_96 rfl (lv_at hl 0 rfl) ?_
      refine va_get (D := D) (ci := 10) (v := .int 0) (C := RX10) (T := TX10) (N := 96) hx hb hts inlX10 hown hK hP 0 rfl rfl 43 (by decide) (hts _ q749) (fun _ h => h) rfl dX10_count_97 ?_
      exact vz_iret hx hb hr hlk hK hP hD hS (()) (rfl) [0] rfl (by decide) (Nat.le_refl 0) (Nat.le_refl 0) dX10_count_100
    · refine lv_iconst (v := (-1)) hx hb dX10_count_21 (by decide) ?_
      exact vz_iret hx hb hr hlk hK hP hD hS (()) (by rw [if_neg (by rintro rfl; revert kd; decide)]) [0] rfl (by decide) (Nat.le_refl 0) (Nat.le_refl 0) dX10_count_22
theorem q759 : Cond.fieldLink RX10 269 "WaysAtlasModel" "token" "I" ∈ wsL_law := mT_6 (List.mem_of_getElem? (i := 115) rfl) rfl
theorem dX10_isWord_0 : decode cX10_isWord 0 = .ok (.aload_n 0, 1) := by decide +kernel
theorem dX10_isWord_1 : decode cX10_isWord 1 = .ok (.getfield 269, 3) := by decide +kernel
theorem dX10_isWord_4 : decode cX10_isWord 4 = .ok (.iconst 2, 1) := by decide +kernel
theorem dX10_isWord_5 : decode cX10_isWord 5 = .ok (.if_icmp .ne 15, 3) := by decide +kernel
theorem dX10_isWord_20 : decode cX10_isWord 20 = .ok (.iconst 0, 1) := by decide +kernel
theorem dX10_isWord_21 : decode cX10_isWord 21 = .ok (.ireturn, 1) := by decide +kernel
set_option maxHeartbeats 4000000 in
set_option maxRecDepth 100000 in
theorem c_m_isWord0 (l : Launch) (D : va_G) (g : Nat → ClassId) (h sz : Nat) (a : Nat → Nat) (w : Int32)  : vz_Mi l D (tyG g) yX10_isWord cX10_isWord 2 0 0 0 0 .boolean [.ref h, .int w] sz [(h, .inr (10, mF a (upd (fun _ => 0) 7 1)))] (fun r (u : Unit) => r = 0) (fun u => [(h, .inr (10, mF a (upd (fun _ => 0) 7 1)))]) := by
  refine vz_si (by decide) (Nat.le_of_ble_eq_true rfl) (fun p e s m args below meth c hx hb hr hml hts hown hlk hin hK hsz A hA H locs hP hD hS ls hl => ?_)
  have hl : lv_has ls 2 [(0, .ref h), (1, .int w)] := hl
  refine lv_aload_n hx hb dX10_isWord_0 rfl (lv_at hl 0 rfl) ?_
  refine va_get (D := D) (ci := 10) (v := .int 0) (C := RX10) (T := TX10) (N := 96) hx hb hts inlX10 hown hK hP 0 rfl rfl 4 (by decide) (hts _ q759) (fun _ h => h) rfl dX10_isWord_1 ?_
  refine lv_iconst (v := 2) hx hb dX10_isWord_4 (by decide) ?_
  refine lv_icmp_ne (tgt := 20) hx hb dX10_isWord_5 (by decide) (fun _ => ?_) (fun h9 => absurd h9 (by decide))
  refine lv_iconst (v := 0) hx hb dX10_isWord_20 (by decide) ?_
  exact vz_zret hx hb hr hlk hK hP hD hS (()) (rfl) [0] rfl (by decide) (Nat.le_refl 0) (Nat.le_refl 0) (by decide) dX10_isWord_21
theorem q745 : Cond.fieldLink RX10 291 "WaysAtlasModel" "fault" "I" ∈ wsL_law := mT_6 (List.mem_of_getElem? (i := 137) rfl) rfl
theorem q747 : Cond.fieldLink RX10 294 "WaysAtlasModel" "faultAt" "I" ∈ wsL_law := mT_6 (List.mem_of_getElem? (i := 138) rfl) rfl
theorem dX10_fails_0 : decode cX10_fails 0 = .ok (.aload_n 0, 1) := by decide +kernel
theorem dX10_fails_1 : decode cX10_fails 1 = .ok (.getfield 291, 3) := by decide +kernel
theorem dX10_fails_4 : decode cX10_fails 4 = .ok (.ifCond .ne 13, 3) := by decide +kernel
theorem dX10_fails_7 : decode cX10_fails 7 = .ok (.aload_n 0, 1) := by decide +kernel
theorem dX10_fails_8 : decode cX10_fails 8 = .ok (.iload_n 1, 1) := by decide +kernel
theorem dX10_fails_9 : decode cX10_fails 9 = .ok (.putfield 291, 3) := by decide +kernel
theorem dX10_fails_12 : decode cX10_fails 12 = .ok (.aload_n 0, 1) := by decide +kernel
theorem dX10_fails_13 : decode cX10_fails 13 = .ok (.iload_n 2, 1) := by decide +kernel
theorem dX10_fails_14 : decode cX10_fails 14 = .ok (.putfield 294, 3) := by decide +kernel
theorem dX10_fails_17 : decode cX10_fails 17 = .ok (.return_, 1) := by decide +kernel
set_option maxHeartbeats 4000000 in
set_option maxRecDepth 100000 in
theorem c_m_fails0 (l : Launch) (D : va_G) (g : Nat → ClassId) (h sz : Nat) (a : Nat → Nat)  : vz_Mv l D (tyG g) yX10_fails cX10_fails 3 0 0 0 0 [.ref h, .int 1, .int 0] sz [(h, .inr (10, mF a (upd (fun _ => 0) 7 1)))] (fun u : Unit => True) (fun u => [(h, .inr (10, mF a (upd (upd (fun _ => 0) 7 1) 11 1)))]) := by
  refine vz_sv (by decide) (Nat.le_of_ble_eq_true rfl) (fun p e s m args below meth c hx hb hr hml hts hown hlk hin hK hsz A hA H locs hP hD hS ls hl => ?_)
  have hl : lv_has ls 3 [(0, .ref h), (1, .int 1), (2, .int 0)] := hl
  refine lv_aload_n hx hb dX10_fails_0 rfl (lv_at hl 0 rfl) ?_
  refine va_get (D := D) (ci := 10) (v := .int 0) (C := RX10) (T := TX10) (N := 96) hx hb hts inlX10 hown hK hP 0 rfl rfl 26 (by decide) (hts _ q745) (fun _ h => h) rfl dX10_fails_1 ?_
  refine lv_if_ne (tgt := 17) hx hb dX10_fails_4 (by decide) (fun h9 => absurd (by decide) h9) (fun _ => ?_)
  refine lv_aload_n hx hb dX10_fails_7 rfl (lv_at hl 0 rfl) ?_
  refine lv_iload_n hx hb dX10_fails_8 rfl (lv_at hl 1 rfl) ?_
  refine va_put (D := D) (ci := 10) (v := .int 1) (ty := .int) (C := RX10) (T := TX10) (N := 96) hx hb hts inlX10 tyX10 tyX10_ok nmX10 hown hK hP hD hS 0 rfl rfl 26 (by decide) (hts _ q745) (fun _ h => h) rfl (by decide +kernel) rfl rfl (Nat.le_of_ble_eq_true rfl) dX10_fails_9 (fun H locs hP hD hS => ?_)
  have hP : va_P D vwCl [(h, .inr (10, mF a (upd (upd (fun _ => 0) 7 1) 11 1)))] H := hP
  have hD : va_D A [(h, .inr (10, mF a (upd (upd (fun _ => 0) 7 1) 11 1)))] := hD
  refine lv_aload_n hx hb dX10_fails_12 rfl (lv_at hl 0 rfl) ?_
  refine lv_iload_n hx hb dX10_fails_13 rfl (lv_at hl 2 rfl) ?_
  refine va_put (D := D) (ci := 10) (v := .int 0) (ty := .int) (C := RX10) (T := TX10) (N := 96) hx hb hts inlX10 tyX10 tyX10_ok nmX10 hown hK hP hD hS 0 rfl rfl 27 (by decide) (hts _ q747) (fun _ h => h) rfl (by decide +kernel) rfl rfl (Nat.le_of_ble_eq_true rfl) dX10_fails_14 (fun H locs hP hD hS => ?_)
  have hP : va_P D vwCl [(h, .inr (10, mF a (upd (upd (fun _ => 0) 7 1) 11 1)))] H := hP
  have hD : va_D A [(h, .inr (10, mF a (upd (upd (fun _ => 0) 7 1) 11 1)))] := hD
  exact vz_vret hx hb hr hlk hK hP hD hS (()) (trivial) [0] rfl (by decide) (Nat.le_refl 0) (Nat.le_refl 0) dX10_fails_17
theorem q754 : Cond.fieldLink RX10 253 "WaysAtlasModel" "at" "I" ∈ wsL_law := mT_6 (List.mem_of_getElem? (i := 114) rfl) rfl
theorem q272 : Cond.fieldLink RX10 243 "WaysAtlasModel" "size" "I" ∈ wsL_law := mT_6 (List.mem_of_getElem? (i := 113) rfl) rfl
theorem q764 : Cond.fieldLink RX10 279 "WaysAtlasModel" "tokenAt" "I" ∈ wsL_law := mT_6 (List.mem_of_getElem? (i := 116) rfl) rfl
theorem dX10_advance_0 : decode cX10_advance 0 = .ok (.aload_n 0, 1) := by decide +kernel
theorem dX10_advance_1 : decode cX10_advance 1 = .ok (.getfield 253, 3) := by decide +kernel
theorem dX10_advance_4 : decode cX10_advance 4 = .ok (.aload_n 0, 1) := by decide +kernel
theorem dX10_advance_5 : decode cX10_advance 5 = .ok (.getfield 243, 3) := by decide +kernel
theorem dX10_advance_8 : decode cX10_advance 8 = .ok (.if_icmp .ge 44, 3) := by decide +kernel
theorem dX10_advance_52 : decode cX10_advance 52 = .ok (.aload_n 0, 1) := by decide +kernel
theorem dX10_advance_53 : decode cX10_advance 53 = .ok (.aload_n 0, 1) := by decide +kernel
theorem dX10_advance_54 : decode cX10_advance 54 = .ok (.getfield 253, 3) := by decide +kernel
theorem dX10_advance_57 : decode cX10_advance 57 = .ok (.putfield 279, 3) := by decide +kernel
theorem dX10_advance_60 : decode cX10_advance 60 = .ok (.aload_n 0, 1) := by decide +kernel
theorem dX10_advance_61 : decode cX10_advance 61 = .ok (.getfield 253, 3) := by decide +kernel
theorem dX10_advance_64 : decode cX10_advance 64 = .ok (.aload_n 0, 1) := by decide +kernel
theorem dX10_advance_65 : decode cX10_advance 65 = .ok (.getfield 243, 3) := by decide +kernel
theorem dX10_advance_68 : decode cX10_advance 68 = .ok (.if_icmp .lt 11, 3) := by decide +kernel
theorem dX10_advance_71 : decode cX10_advance 71 = .ok (.aload_n 0, 1) := by decide +kernel
theorem dX10_advance_72 : decode cX10_advance 72 = .ok (.iconst 0, 1) := by decide +kernel
theorem dX10_advance_73 : decode cX10_advance 73 = .ok (.putfield 269, 3) := by decide +kernel
theorem dX10_advance_76 : decode cX10_advance 76 = .ok (.goto 97, 3) := by decide +kernel
theorem dX10_advance_173 : decode cX10_advance 173 = .ok (.return_, 1) := by decide +kernel
set_option maxHeartbeats 4000000 in
set_option maxRecDepth 100000 in
theorem c_m_advance0 (l : Launch) (D : va_G) (g : Nat → ClassId) (h sz : Nat) (a : Nat → Nat)  : vz_Mv l D (tyG g) yX10_advance cX10_advance 1 0 0 0 0 [.ref h] sz [(h, .inr (10, mF a (upd (fun _ => 0) 7 1)))] (fun u : Unit => True) (fun u => [(h, .inr (10, mF a (upd (fun _ => 0) 7 1)))]) := by
  refine vz_sv (by decide) (Nat.le_of_ble_eq_true rfl) (fun p e s m args below meth c hx hb hr hml hts hown hlk hin hK hsz A hA H locs hP hD hS ls hl => ?_)
  have hl : lv_has ls 1 [(0, .ref h)] := hl
  refine lv_aload_n hx hb dX10_advance_0 rfl (lv_at hl 0 rfl) ?_
  refine va_get (D := D) (ci := 10) (v := .int 0) (C := RX10) (T := TX10) (N := 96) hx hb hts inlX10 hown hK hP 0 rfl rfl 3 (by decide) (hts _ q754) (fun _ h => h) rfl dX10_advance_1 ?_
  refine lv_aload_n hx hb dX10_advance_4 rfl (lv_at hl 0 rfl) ?_
  refine va_get (D := D) (ci := 10) (v := .int 0) (C := RX10) (T := TX10) (N := 96) hx hb hts inlX10 hown hK hP 0 rfl rfl 2 (by decide) (hts _ q272) (fun _ h => h) rfl dX10_advance_5 ?_
  refine lv_icmp_ge (tgt := 52) hx hb dX10_advance_8 (by decide) (fun _ => ?_) (fun h9 => absurd (by decide) h9)
  refine lv_aload_n hx hb dX10_advance_52 rfl (lv_at hl 0 rfl) ?_
  refine lv_aload_n hx hb dX10_advance_53 rfl (lv_at hl 0 rfl) ?_
  refine va_get (D := D) (ci := 10) (v := .int 0) (C := RX10) (T := TX10) (N := 96) hx hb hts inlX10 hown hK hP 0 rfl rfl 3 (by decide) (hts _ q754) (fun _ h => h) rfl dX10_advance_54 ?_
  refine va_put (D := D) (ci := 10) (v := .int 0) (ty := .int) (C := RX10) (T := TX10) (N := 96) hx hb hts inlX10 tyX10 tyX10_ok nmX10 hown hK hP hD hS 0 rfl rfl 5 (by decide) (hts _ q764) (fun _ h => h) rfl (by decide +kernel) rfl rfl (Nat.le_of_ble_eq_true rfl) dX10_advance_57 (fun H locs hP hD hS => ?_)
  have hP : va_P D vwCl [(h, .inr (10, mF a (upd (fun _ => 0) 7 1)))] H := hP
  have hD : va_D A [(h, .inr (10, mF a (upd (fun _ => 0) 7 1)))] := hD
  refine lv_aload_n hx hb dX10_advance_60 rfl (lv_at hl 0 rfl) ?_
  refine va_get (D := D) (ci := 10) (v := .int 0) (C := RX10) (T := TX10) (N := 96) hx hb hts inlX10 hown hK hP 0 rfl rfl 3 (by decide) (hts _ q754) (fun _ h => h) rfl dX10_advance_61 ?_
  refine lv_aload_n hx hb dX10_advance_64 rfl (lv_at hl 0 rfl) ?_
  refine va_get (D := D) (ci := 10) (v := .int 0) (C := RX10) (T := TX10) (N := 96) hx hb hts inlX10 hown hK hP 0 rfl rfl 2 (by decide) (hts _ q272) (fun _ h => h) rfl dX10_advance_65 ?_
  refine lv_icmp_lt (tgt := 79) hx hb dX10_advance_68 (by decide) (fun h9 => absurd h9 (by decide)) (fun _ => ?_)
  refine lv_aload_n hx hb dX10_advance_71 rfl (lv_at hl 0 rfl) ?_
  refine lv_iconst (v := 0) hx hb dX10_advance_72 (by decide) ?_
  refine va_put (D := D) (ci := 10) (v := .int 0) (ty := .int) (C := RX10) (T := TX10) (N := 96) hx hb hts inlX10 tyX10 tyX10_ok nmX10 hown hK hP hD hS 0 rfl rfl 4 (by decide) (hts _ q759) (fun _ h => h) rfl (by decide +kernel) rfl rfl (Nat.le_of_ble_eq_true rfl) dX10_advance_73 (fun H locs hP hD hS => ?_)
  have hP : va_P D vwCl [(h, .inr (10, mF a (upd (fun _ => 0) 7 1)))] H := hP
  have hD : va_D A [(h, .inr (10, mF a (upd (fun _ => 0) 7 1)))] := hD
  refine lv_goto (tgt := 173) hx hb dX10_advance_76 (by decide) ?_
  exact vz_vret hx hb hr hlk hK hP hD hS (()) (trivial) [0] rfl (by decide) (Nat.le_refl 0) (Nat.le_refl 0) dX10_advance_173
theorem q801 : Cond.methodLink RX10 297 yX10_fails ∈ wsL_law := mT_7 (List.mem_of_getElem? (i := 215) rfl) rfl
theorem q802 : Cond.instanceMethod yX10_fails ∈ wsL_law := mT_7 (List.mem_of_getElem? (i := 217) rfl) rfl
theorem q803 : Cond.selects RX10 yX10_fails yX10_fails ∈ wsL_law := mS_8 (q := (yX10_fails, 96)) (List.mem_of_getElem? (i := 2) rfl) rfl
theorem q804 : Cond.code yX10_fails cX10_fails 3 none ∈ wsL_law := mT_7 (List.mem_of_getElem? (i := 218) rfl) rfl
theorem kv_X10_297 : vz_cv RX10 297 yX10_fails cX10_fails 3 none 2 := ⟨q801, q802, q803, q5, q804, by decide +kernel⟩
theorem dX10_cannot_0 : decode cX10_cannot 0 = .ok (.aload_n 0, 1) := by decide +kernel
theorem dX10_cannot_1 : decode cX10_cannot 1 = .ok (.iconst 1, 1) := by decide +kernel
theorem dX10_cannot_2 : decode cX10_cannot 2 = .ok (.aload_n 0, 1) := by decide +kernel
theorem dX10_cannot_3 : decode cX10_cannot 3 = .ok (.getfield 279, 3) := by decide +kernel
theorem dX10_cannot_6 : decode cX10_cannot 6 = .ok (.invokevirtual 297, 3) := by decide +kernel
theorem dX10_cannot_9 : decode cX10_cannot 9 = .ok (.return_, 1) := by decide +kernel
set_option maxHeartbeats 4000000 in
set_option maxRecDepth 100000 in
theorem c_m_cannot0 (l : Launch) (D : va_G) (g : Nat → ClassId) (h sz : Nat) (a : Nat → Nat)  : vz_Mv l D (tyG g) yX10_cannot cX10_cannot 1 1 22 0 0 [.ref h] sz [(h, .inr (10, mF a (upd (fun _ => 0) 7 1)))] (fun u : Unit => True) (fun u => [(h, .inr (10, mF a (upd (upd (fun _ => 0) 7 1) 11 1)))]) := by
  refine vz_sv (by decide) (Nat.le_of_ble_eq_true rfl) (fun p e s m args below meth c hx hb hr hml hts hown hlk hin hK hsz A hA H locs hP hD hS ls hl => ?_)
  have hl : lv_has ls 1 [(0, .ref h)] := hl
  refine lv_aload_n hx hb dX10_cannot_0 rfl (lv_at hl 0 rfl) ?_
  refine lv_iconst (v := 1) hx hb dX10_cannot_1 (by decide) ?_
  refine lv_aload_n hx hb dX10_cannot_2 rfl (lv_at hl 0 rfl) ?_
  refine va_get (D := D) (ci := 10) (v := .int 0) (C := RX10) (T := TX10) (N := 96) hx hb hts inlX10 hown hK hP 0 rfl rfl 5 (by decide) (hts _ q764) (fun _ h => h) rfl dX10_cannot_3 ?_
  refine vz_Vv (wr := []) (As := [.int 1, .int 0]) (rest := []) hx hb hml hown hts hK hA hP hD hS (c_m_fails0 l D g h H.size a) kv_X10_297 (⟨Nat.le_of_ble_eq_true rfl, Nat.le_of_ble_eq_true rfl⟩) (q0 := 0) (ci := 10) rfl rfl rfl [0] [] rfl rfl (by decide) hl.1 (Nat.le_of_ble_eq_true rfl) dX10_cannot_6 (⟨Nat.le_of_ble_eq_true rfl, Nat.le_of_ble_eq_true rfl⟩) rfl (fun _ H locs _ _ hP hD hS => ?_)
  have hP : va_P D vwCl [(h, .inr (10, mF a (upd (upd (fun _ => 0) 7 1) 11 1)))] H := hP
  have hD : va_D A [(h, .inr (10, mF a (upd (upd (fun _ => 0) 7 1) 11 1)))] := hD
  exact vz_vret hx hb hr hlk hK hP hD hS (()) (trivial) [0] rfl (by decide) (Nat.le_refl 0) (Nat.le_refl 0) dX10_cannot_9
theorem q797 : Cond.methodLink RX10 345 yX10_isWord ∈ wsL_law := mT_7 (List.mem_of_getElem? (i := 211) rfl) rfl
theorem q798 : Cond.instanceMethod yX10_isWord ∈ wsL_law := mT_7 (List.mem_of_getElem? (i := 213) rfl) rfl
theorem q799 : Cond.selects RX10 yX10_isWord yX10_isWord ∈ wsL_law := mS_8 (q := (yX10_isWord, 96)) (List.mem_of_getElem? (i := 1) rfl) rfl
theorem q800 : Cond.code yX10_isWord cX10_isWord 2 (some .boolean) ∈ wsL_law := mT_7 (List.mem_of_getElem? (i := 214) rfl) rfl
theorem kv_X10_345 : vz_cv RX10 345 yX10_isWord cX10_isWord 2 (some .boolean) 1 := ⟨q797, q798, q799, q5, q800, by decide +kernel⟩
theorem q805 : Cond.methodLink RX10 307 yX10_cannot ∈ wsL_law := mT_7 (List.mem_of_getElem? (i := 219) rfl) rfl
theorem q806 : Cond.instanceMethod yX10_cannot ∈ wsL_law := mT_7 (List.mem_of_getElem? (i := 221) rfl) rfl
theorem q807 : Cond.selects RX10 yX10_cannot yX10_cannot ∈ wsL_law := mS_8 (q := (yX10_cannot, 96)) (List.mem_of_getElem? (i := 3) rfl) rfl
theorem q808 : Cond.code yX10_cannot cX10_cannot 1 none ∈ wsL_law := mT_7 (List.mem_of_getElem? (i := 222) rfl) rfl
theorem kv_X10_307 : vz_cv RX10 307 yX10_cannot cX10_cannot 1 none 0 := ⟨q805, q806, q807, q5, q808, by decide +kernel⟩
theorem dX10_outside_0 : decode cX10_outside 0 = .ok (.aload_n 0, 1) := by decide +kernel
theorem dX10_outside_1 : decode cX10_outside 1 = .ok (.bipush 18, 2) := by decide +kernel
theorem dX10_outside_3 : decode cX10_outside 3 = .ok (.invokevirtual 345, 3) := by decide +kernel
theorem dX10_outside_6 : decode cX10_outside 6 = .ok (.ifCond .eq 153, 3) := by decide +kernel
theorem dX10_outside_159 : decode cX10_outside 159 = .ok (.aload_n 0, 1) := by decide +kernel
theorem dX10_outside_160 : decode cX10_outside 160 = .ok (.bipush 20, 2) := by decide +kernel
theorem dX10_outside_162 : decode cX10_outside 162 = .ok (.invokevirtual 345, 3) := by decide +kernel
theorem dX10_outside_165 : decode cX10_outside 165 = .ok (.ifCond .eq 77, 3) := by decide +kernel
theorem dX10_outside_242 : decode cX10_outside 242 = .ok (.aload_n 0, 1) := by decide +kernel
theorem dX10_outside_243 : decode cX10_outside 243 = .ok (.invokevirtual 307, 3) := by decide +kernel
theorem dX10_outside_246 : decode cX10_outside 246 = .ok (.return_, 1) := by decide +kernel
set_option maxHeartbeats 4000000 in
set_option maxRecDepth 100000 in
theorem c_m_outside0 (l : Launch) (D : va_G) (g : Nat → ClassId) (h sz : Nat) (a : Nat → Nat)  : vz_Mv l D (tyG g) yX10_outside cX10_outside 4 2 42 0 0 [.ref h] sz [(h, .inr (10, mF a (upd (fun _ => 0) 7 1)))] (fun u : Unit => True) (fun u => [(h, .inr (10, mF a (upd (upd (fun _ => 0) 7 1) 11 1)))]) := by
  refine vz_sv (by decide) (Nat.le_of_ble_eq_true rfl) (fun p e s m args below meth c hx hb hr hml hts hown hlk hin hK hsz A hA H locs hP hD hS ls hl => ?_)
  have hl : lv_has ls 4 [(0, .ref h)] := hl
  refine lv_aload_n hx hb dX10_outside_0 rfl (lv_at hl 0 rfl) ?_
  refine lv_bipush (v := 18) hx hb dX10_outside_1 (by decide) ?_
  refine vz_Vi (wr := []) (As := [.int 18]) (rest := []) hx hb hml hown hts hK hA hP hD hS (c_m_isWord0 l D g h H.size a 18) kv_X10_345 (⟨Nat.le_of_ble_eq_true rfl, Nat.le_of_ble_eq_true rfl⟩) (q0 := 0) (ci := 10) rfl rfl rfl [0] [] rfl rfl (by decide) hl.1 (Nat.le_of_ble_eq_true rfl) dX10_outside_3 (⟨Nat.le_of_ble_eq_true rfl, Nat.le_of_ble_eq_true rfl⟩) rfl (fun r1 _ H locs e2 _ hP hD hS => ?_)
  subst e2
  have hP : va_P D vwCl [(h, .inr (10, mF a (upd (fun _ => 0) 7 1)))] H := hP
  have hD : va_D A [(h, .inr (10, mF a (upd (fun _ => 0) 7 1)))] := hD
  refine lv_if_eq (tgt := 159) hx hb dX10_outside_6 (by decide) (fun _ => ?_) (fun h9 => absurd (by decide) h9)
  refine lv_aload_n hx hb dX10_outside_159 rfl (lv_at hl 0 rfl) ?_
  refine lv_bipush (v := 20) hx hb dX10_outside_160 (by decide) ?_
  refine vz_Vi (wr := []) (As := [.int 20]) (rest := []) hx hb hml hown hts hK hA hP hD hS (c_m_isWord0 l D g h H.size a 20) kv_X10_345 (⟨Nat.le_of_ble_eq_true rfl, Nat.le_of_ble_eq_true rfl⟩) (q0 := 0) (ci := 10) rfl rfl rfl [0] [] rfl rfl (by decide) hl.1 (Nat.le_of_ble_eq_true rfl) dX10_outside_162 (⟨Nat.le_of_ble_eq_true rfl, Nat.le_of_ble_eq_true rfl⟩) rfl (fun r3 _ H locs e4 _ hP hD hS => ?_)
  subst e4
  have hP : va_P D vwCl [(h, .inr (10, mF a (upd (fun _ => 0) 7 1)))] H := hP
  have hD : va_D A [(h, .inr (10, mF a (upd (fun _ => 0) 7 1)))] := hD
  refine lv_if_eq (tgt := 242) hx hb dX10_outside_165 (by decide) (fun _ => ?_) (fun h9 => absurd (by decide) h9)
  refine lv_aload_n hx hb dX10_outside_242 rfl (lv_at hl 0 rfl) ?_
  refine vz_Vv (wr := []) (As := []) (rest := []) hx hb hml hown hts hK hA hP hD hS (c_m_cannot0 l D g h H.size a) kv_X10_307 (⟨Nat.le_of_ble_eq_true rfl, Nat.le_of_ble_eq_true rfl⟩) (q0 := 0) (ci := 10) rfl rfl rfl [0] [] rfl rfl (by decide) hl.1 (Nat.le_of_ble_eq_true rfl) dX10_outside_243 (⟨Nat.le_of_ble_eq_true rfl, Nat.le_of_ble_eq_true rfl⟩) rfl (fun _ H locs _ _ hP hD hS => ?_)
  have hP : va_P D vwCl [(h, .inr (10, mF a (upd (upd (fun _ => 0) 7 1) 11 1)))] H := hP
  have hD : va_D A [(h, .inr (10, mF a (upd (upd (fun _ => 0) 7 1) 11 1)))] := hD
  exact vz_vret hx hb hr hlk hK hP hD hS (()) (trivial) [0] rfl (by decide) (Nat.le_refl 0) (Nat.le_refl 0) dX10_outside_246
theorem q755 : Cond.fieldLink RX10 301 "WaysAtlasModel" "checks" "I" ∈ wsL_law := mT_6 (List.mem_of_getElem? (i := 140) rfl) rfl
theorem dX10_looks_0 : decode cX10_looks 0 = .ok (.iconst 0, 1) := by decide +kernel
theorem dX10_looks_1 : decode cX10_looks 1 = .ok (.istore_n 1, 1) := by decide +kernel
theorem dX10_looks_2 : decode cX10_looks 2 = .ok (.iload_n 1, 1) := by decide +kernel
theorem dX10_looks_3 : decode cX10_looks 3 = .ok (.aload_n 0, 1) := by decide +kernel
theorem dX10_looks_4 : decode cX10_looks 4 = .ok (.getfield 301, 3) := by decide +kernel
theorem dX10_looks_7 : decode cX10_looks 7 = .ok (.if_icmp .ge 103, 3) := by decide +kernel
theorem dX10_looks_110 : decode cX10_looks 110 = .ok (.return_, 1) := by decide +kernel
set_option maxHeartbeats 4000000 in
set_option maxRecDepth 100000 in
theorem c_m_looks0 (l : Launch) (D : va_G) (g : Nat → ClassId) (h sz : Nat) (a : Nat → Nat)  : vz_Mv l D (tyG g) yX10_looks cX10_looks 3 0 0 0 0 [.ref h] sz [(h, .inr (10, mF a (upd (upd (fun _ => 0) 7 1) 11 1)))] (fun u : Unit => True) (fun u => [(h, .inr (10, mF a (upd (upd (fun _ => 0) 7 1) 11 1)))]) := by
  refine vz_sv (by decide) (Nat.le_of_ble_eq_true rfl) (fun p e s m args below meth c hx hb hr hml hts hown hlk hin hK hsz A hA H locs hP hD hS ls hl => ?_)
  have hl : lv_has ls 3 [(0, .ref h)] := hl
  refine lv_iconst (v := 0) hx hb dX10_looks_0 (by decide) ?_
  refine lv_istore_n (lv' := [(1, .int 0), (0, .ref h)]) hx hb dX10_looks_1 rfl hl (by decide) rfl (fun ls hl => ?_)
  refine lv_iload_n hx hb dX10_looks_2 rfl (lv_at hl 0 rfl) ?_
  refine lv_aload_n hx hb dX10_looks_3 rfl (lv_at hl 1 rfl) ?_
  refine va_get (D := D) (ci := 10) (v := .int 0) (C := RX10) (T := TX10) (N := 96) hx hb hts inlX10 hown hK hP 0 rfl rfl 29 (by decide) (hts _ q755) (fun _ h => h) rfl dX10_looks_4 ?_
  refine lv_icmp_ge (tgt := 110) hx hb dX10_looks_7 (by decide) (fun _ => ?_) (fun h9 => absurd (by decide) h9)
  exact vz_vret hx hb hr hlk hK hP hD hS (()) (trivial) [0] rfl (by decide) (Nat.le_refl 0) (Nat.le_refl 0) dX10_looks_110
theorem q744 : Cond.fieldLink RX10 288 "WaysAtlasModel" "draft" "I" ∈ wsL_law := mT_6 (List.mem_of_getElem? (i := 120) rfl) rfl
theorem dX10_reads_73 : decode cX10_reads 73 = .ok (.iload_n 1, 1) := by decide +kernel
theorem dX10_reads_74 : decode cX10_reads 74 = .ok (.bipush 7, 2) := by decide +kernel
theorem dX10_reads_76 : decode cX10_reads 76 = .ok (.if_icmp .ge 41, 3) := by decide +kernel
theorem dX10_reads_79 : decode cX10_reads 79 = .ok (.aload_n 0, 1) := by decide +kernel
theorem dX10_reads_80 : decode cX10_reads 80 = .ok (.getfield 93, 3) := by decide +kernel
theorem dX10_reads_83 : decode cX10_reads 83 = .ok (.bipush 16, 2) := by decide +kernel
theorem dX10_reads_85 : decode cX10_reads 85 = .ok (.aload_n 0, 1) := by decide +kernel
theorem dX10_reads_86 : decode cX10_reads 86 = .ok (.getfield 288, 3) := by decide +kernel
theorem dX10_reads_89 : decode cX10_reads 89 = .ok (.imul, 1) := by decide +kernel
theorem dX10_reads_90 : decode cX10_reads 90 = .ok (.iload_n 1, 1) := by decide +kernel
theorem dX10_reads_91 : decode cX10_reads 91 = .ok (.iadd, 1) := by decide +kernel
theorem dX10_reads_92 : decode cX10_reads 92 = .ok (.iload_n 1, 1) := by decide +kernel
theorem dX10_reads_93 : decode cX10_reads 93 = .ok (.ifCond .ne 7, 3) := by decide +kernel
theorem dX10_reads_96 : decode cX10_reads 96 = .ok (.iconst (-1), 1) := by decide +kernel
theorem dX10_reads_97 : decode cX10_reads 97 = .ok (.goto 13, 3) := by decide +kernel
theorem dX10_reads_100 : decode cX10_reads 100 = .ok (.iload_n 1, 1) := by decide +kernel
theorem dX10_reads_101 : decode cX10_reads 101 = .ok (.iconst 1, 1) := by decide +kernel
theorem dX10_reads_102 : decode cX10_reads 102 = .ok (.if_icmp .ne 7, 3) := by decide +kernel
theorem dX10_reads_105 : decode cX10_reads 105 = .ok (.iconst 0, 1) := by decide +kernel
theorem dX10_reads_106 : decode cX10_reads 106 = .ok (.goto 4, 3) := by decide +kernel
theorem dX10_reads_109 : decode cX10_reads 109 = .ok (.iconst 1, 1) := by decide +kernel
theorem dX10_reads_110 : decode cX10_reads 110 = .ok (.iastore, 1) := by decide +kernel
theorem dX10_reads_111 : decode cX10_reads 111 = .ok (.iinc 1 1, 3) := by decide +kernel
theorem dX10_reads_114 : decode cX10_reads 114 = .ok (.goto (-41), 3) := by decide +kernel
set_option maxHeartbeats 4000000 in
set_option maxRecDepth 100000 in
theorem lp_m_reads {p : Program} {l : Launch} {e : Env} {Rm : Room} {s : State} {m : MethodId} {args : Array Value} {below : List Frame} {meth : Method} {c : Code} {Q : State → Prop} {A : Nat → Prop} {D : va_G} {g : Nat → ClassId} {H0 : Heap} {cells slots : Nat} (hx : p.tables.exec = Jvm.exec) (hb : c.code = cX10_reads) (hml : c.maxLocals = 2) (hown : s.vm.findClass RX10 = some m.cls) (hts : ∀ w ∈ wsL_law, w.before args s = true) (hK : va_K D vwCl (tyG g) s) (hA : ∀ q : Nat, H0.size ≤ q → A q) {h : Nat} {a : Nat → Nat} {f1 f2 f3 f4 : Nat → Int32}
    (kk : ∀ (f : Nat → Int32) (H : Heap) (locs : List Loc) (ls : Array Slot), va_P D vwCl [(h, .inr (10, mF a (upd (fun _ => 0) 7 1))), tA g (a 3) 2 f1, tA g (a 10) 2 f2, tA g (a 12) 2 f3, tA g (a 14) 2 f4, tA g (a 13) 32 f] H → va_D A [(h, .inr (10, mF a (upd (fun _ => 0) 7 1))), tA g (a 3) 2 f1, tA g (a 10) 2 f2, tA g (a 12) 2 f3, tA g (a 14) 2 f4, tA g (a 13) 32 f] → va_S A H0 H locs → lv_has ls 2 [(0, .ref h), (1, .int (nI 7))] → W p l e Rm s m args below meth c H locs cells slots Q (F0 m 117 ls [])) :
    ∀ (n i : Nat), i ≤ 7 → 7 - i < n → ∀ (f : Nat → Int32) (H : Heap) (locs : List Loc) (ls : Array Slot), va_P D vwCl [(h, .inr (10, mF a (upd (fun _ => 0) 7 1))), tA g (a 3) 2 f1, tA g (a 10) 2 f2, tA g (a 12) 2 f3, tA g (a 14) 2 f4, tA g (a 13) 32 f] H → va_D A [(h, .inr (10, mF a (upd (fun _ => 0) 7 1))), tA g (a 3) 2 f1, tA g (a 10) 2 f2, tA g (a 12) 2 f3, tA g (a 14) 2 f4, tA g (a 13) 32 f] → va_S A H0 H locs → lv_has ls 2 [(0, .ref h), (1, .int (nI i))] → W p l e Rm s m args below meth c H locs cells slots Q (F0 m 73 ls []) := by
  intro n
  induction n with
  | zero => intro i _ z; omega
  | succ n ih =>
    intro i hi hm f H locs ls hP hD hS hl
    refine lv_iload_n hx hb dX10_reads_73 rfl (lv_at hl 1 rfl) ?_
    refine lv_bipush (v := 7) hx hb dX10_reads_74 (by decide) ?_
    refine lv_icmp_ge (tgt := 117) hx hb dX10_reads_76 (by decide) (fun kc => ?_) (fun kc => ?_)
    · have hii : i = 7 := by
        rcases Nat.lt_or_ge i 7 with z | z
        · exact absurd kc (nI_ge (b := 7) z (by decide))
        · omega
      subst hii
      exact kk f H locs ls hP hD hS hl
    · have hlt : i < 7 := by
        rcases Nat.lt_or_ge i 7 with z | z
        · exact z
        · exact absurd (nI_le (a := 7) z (by omega)) kc
      refine lv_aload_n hx hb dX10_reads_79 rfl (lv_at hl 0 rfl) ?_
      refine va_get (D := D) (ci := 10) (v := .ref (a 13)) (C := RX10) (T := TX10) (N := 96) hx hb hts inlX10 hown hK hP 0 rfl rfl 22 (by decide) (hts _ q206) (fun _ h => h) rfl dX10_reads_80 ?_
      refine lv_bipush (v := 16) hx hb dX10_reads_83 (by decide) ?_
      refine lv_aload_n hx hb dX10_reads_85 rfl (lv_at hl 0 rfl) ?_
      refine va_get (D := D) (ci := 10) (v := .int 1) (C := RX10) (T := TX10) (N := 96) hx hb hts inlX10 hown hK hP 0 rfl rfl 9 (by decide) (hts _ q744) (fun _ h => h) rfl dX10_reads_86 ?_
      refine lv_imul hx hb dX10_reads_89 ?_
      refine lv_topi (nm_r (e' := 16) (by decide) ?_)
      refine lv_iload_n hx hb dX10_reads_90 rfl (lv_at hl 1 rfl) ?_
      refine lv_iadd hx hb dX10_reads_91 ?_
      refine lv_topi (nm_r (e' := nI (16 + i)) ((congrArg (· + nI i) (show (16 : Int32) = nI 16 from rfl)).trans (nI_add 16 i)) ?_)
      refine lv_iload_n hx hb dX10_reads_92 rfl (lv_at hl 1 rfl) ?_
      refine lv_if_ne (tgt := 100) hx hb dX10_reads_93 (by decide) (fun kd => ?_) (fun kd => ?_)
      · refine lv_iload_n hx hb dX10_reads_100 rfl (lv_at hl 1 rfl) ?_
        refine lv_iconst (v := 1) hx hb dX10_reads_101 (by decide) ?_
        refine lv_icmp_ne (tgt := 109) hx hb dX10_reads_102 (by decide) (fun ke => ?_) (fun ke => ?_)
        · refine lv_iconst (v := 1) hx hb dX10_reads_109 (by decide) ?_
          refine va_iast hx hb hK hP hD hS 5 0 rfl rfl (vp_in_nI (by omega) (by omega)) dX10_reads_110 (fun H locs hP hD hS => ?_)
          have hP : va_P D vwCl [(h, .inr (10, mF a (upd (fun _ => 0) 7 1))), tA g (a 3) 2 f1, tA g (a 10) 2 f2, tA g (a 12) 2 f3, tA g (a 14) 2 f4, tA g (a 13) 32 (upd f (nI (16 + i)).toNatClampNeg 1)] H := hP
          have hD : va_D A [(h, .inr (10, mF a (upd (fun _ => 0) 7 1))), tA g (a 3) 2 f1, tA g (a 10) 2 f2, tA g (a 12) 2 f3, tA g (a 14) 2 f4, tA g (a 13) 32 (upd f (nI (16 + i)).toNatClampNeg 1)] := hD
          refine lv_iinc (v := (nI (i + 1))) (lv' := [(1, .int (nI (i + 1))), (0, .ref h)]) hx hb dX10_reads_111 hl (k := 1) rfl (nI_1 i) (by decide) rfl (fun ls hl => ?_)
          refine lv_goto (tgt := 73) hx hb dX10_reads_114 (by decide) ?_
          exact ih (i + 1) (by omega) (by omega) _ H locs ls hP hD hS (lv_sub hl [1, 0] rfl)
        · refine lv_iconst (v := 0) hx hb dX10_reads_105 (by decide) ?_
          refine lv_goto (tgt := 110) hx hb dX10_reads_106 (by decide) ?_
          refine va_iast hx hb hK hP hD hS 5 0 rfl rfl (vp_in_nI (by omega) (by omega)) dX10_reads_110 (fun H locs hP hD hS => ?_)
          have hP : va_P D vwCl [(h, .inr (10, mF a (upd (fun _ => 0) 7 1))), tA g (a 3) 2 f1, tA g (a 10) 2 f2, tA g (a 12) 2 f3, tA g (a 14) 2 f4, tA g (a 13) 32 (upd f (nI (16 + i)).toNatClampNeg 0)] H := hP
          have hD : va_D A [(h, .inr (10, mF a (upd (fun _ => 0) 7 1))), tA g (a 3) 2 f1, tA g (a 10) 2 f2, tA g (a 12) 2 f3, tA g (a 14) 2 f4, tA g (a 13) 32 (upd f (nI (16 + i)).toNatClampNeg 0)] := hD
          refine lv_iinc (v := (nI (i + 1))) (lv' := [(1, .int (nI (i + 1))), (0, .ref h)]) hx hb dX10_reads_111 hl (k := 1) rfl (nI_1 i) (by decide) rfl (fun ls hl => ?_)
          refine lv_goto (tgt := 73) hx hb dX10_reads_114 (by decide) ?_
          exact ih (i + 1) (by omega) (by omega) _ H locs ls hP hD hS (lv_sub hl [1, 0] rfl)
      · refine lv_iconst (v := (-1)) hx hb dX10_reads_96 (by decide) ?_
        refine lv_goto (tgt := 110) hx hb dX10_reads_97 (by decide) ?_
        refine va_iast hx hb hK hP hD hS 5 0 rfl rfl (vp_in_nI (by omega) (by omega)) dX10_reads_110 (fun H locs hP hD hS => ?_)
        have hP : va_P D vwCl [(h, .inr (10, mF a (upd (fun _ => 0) 7 1))), tA g (a 3) 2 f1, tA g (a 10) 2 f2, tA g (a 12) 2 f3, tA g (a 14) 2 f4, tA g (a 13) 32 (upd f (nI (16 + i)).toNatClampNeg (-1))] H := hP
        have hD : va_D A [(h, .inr (10, mF a (upd (fun _ => 0) 7 1))), tA g (a 3) 2 f1, tA g (a 10) 2 f2, tA g (a 12) 2 f3, tA g (a 14) 2 f4, tA g (a 13) 32 (upd f (nI (16 + i)).toNatClampNeg (-1))] := hD
        refine lv_iinc (v := (nI (i + 1))) (lv' := [(1, .int (nI (i + 1))), (0, .ref h)]) hx hb dX10_reads_111 hl (k := 1) rfl (nI_1 i) (by decide) rfl (fun ls hl => ?_)
        refine lv_goto (tgt := 73) hx hb dX10_reads_114 (by decide) ?_
        exact ih (i + 1) (by omega) (by omega) _ H locs ls hP hD hS (lv_sub hl [1, 0] rfl)
theorem q756 : Cond.fieldLink RX10 320 "WaysAtlasModel" "entries" "I" ∈ wsL_law := mT_6 (List.mem_of_getElem? (i := 135) rfl) rfl
theorem q757 : Cond.fieldLink RX10 373 "WaysAtlasModel" "blocks" "I" ∈ wsL_law := mT_6 (List.mem_of_getElem? (i := 136) rfl) rfl
theorem q758 : Cond.fieldLink RX10 370 "WaysAtlasModel" "piled" "I" ∈ wsL_law := mT_6 (List.mem_of_getElem? (i := 149) rfl) rfl
theorem q760 : Cond.methodLink RX10 310 yX10_advance ∈ wsL_law := mT_7 (List.mem_of_getElem? (i := 177) rfl) rfl
theorem q761 : Cond.instanceMethod yX10_advance ∈ wsL_law := mT_7 (List.mem_of_getElem? (i := 179) rfl) rfl
theorem q762 : Cond.selects RX10 yX10_advance yX10_advance ∈ wsL_law := mS_7 (q := (yX10_advance, 96)) (List.mem_of_getElem? (i := 10) rfl) rfl
theorem q763 : Cond.code yX10_advance cX10_advance 1 none ∈ wsL_law := mT_7 (List.mem_of_getElem? (i := 180) rfl) rfl
theorem kv_X10_310 : vz_cv RX10 310 yX10_advance cX10_advance 1 none 0 := ⟨q760, q761, q762, q5, q763, by decide +kernel⟩
theorem q793 : Cond.methodLink RX10 432 yX10_outside ∈ wsL_law := mT_7 (List.mem_of_getElem? (i := 207) rfl) rfl
theorem q794 : Cond.instanceMethod yX10_outside ∈ wsL_law := mT_7 (List.mem_of_getElem? (i := 209) rfl) rfl
theorem q795 : Cond.selects RX10 yX10_outside yX10_outside ∈ wsL_law := mS_8 (q := (yX10_outside, 96)) (List.mem_of_getElem? (i := 0) rfl) rfl
theorem q796 : Cond.code yX10_outside cX10_outside 4 none ∈ wsL_law := mT_7 (List.mem_of_getElem? (i := 210) rfl) rfl
theorem kv_X10_432 : vz_cv RX10 432 yX10_outside cX10_outside 4 none 0 := ⟨q793, q794, q795, q5, q796, by decide +kernel⟩
theorem dX10_reads_0 : decode cX10_reads 0 = .ok (.aload_n 0, 1) := by decide +kernel
theorem dX10_reads_1 : decode cX10_reads 1 = .ok (.iconst 0, 1) := by decide +kernel
theorem dX10_reads_2 : decode cX10_reads 2 = .ok (.putfield 253, 3) := by decide +kernel
theorem dX10_reads_5 : decode cX10_reads 5 = .ok (.aload_n 0, 1) := by decide +kernel
theorem dX10_reads_6 : decode cX10_reads 6 = .ok (.iconst 0, 1) := by decide +kernel
theorem dX10_reads_7 : decode cX10_reads 7 = .ok (.putfield 291, 3) := by decide +kernel
theorem dX10_reads_10 : decode cX10_reads 10 = .ok (.aload_n 0, 1) := by decide +kernel
theorem dX10_reads_11 : decode cX10_reads 11 = .ok (.iconst 0, 1) := by decide +kernel
theorem dX10_reads_12 : decode cX10_reads 12 = .ok (.putfield 301, 3) := by decide +kernel
theorem dX10_reads_15 : decode cX10_reads 15 = .ok (.aload_n 0, 1) := by decide +kernel
theorem dX10_reads_16 : decode cX10_reads 16 = .ok (.iconst 0, 1) := by decide +kernel
theorem dX10_reads_17 : decode cX10_reads 17 = .ok (.putfield 320, 3) := by decide +kernel
theorem dX10_reads_20 : decode cX10_reads 20 = .ok (.aload_n 0, 1) := by decide +kernel
theorem dX10_reads_21 : decode cX10_reads 21 = .ok (.iconst 0, 1) := by decide +kernel
theorem dX10_reads_22 : decode cX10_reads 22 = .ok (.putfield 373, 3) := by decide +kernel
theorem dX10_reads_25 : decode cX10_reads 25 = .ok (.aload_n 0, 1) := by decide +kernel
theorem dX10_reads_26 : decode cX10_reads 26 = .ok (.iconst 0, 1) := by decide +kernel
theorem dX10_reads_27 : decode cX10_reads 27 = .ok (.putfield 370, 3) := by decide +kernel
theorem dX10_reads_30 : decode cX10_reads 30 = .ok (.aload_n 0, 1) := by decide +kernel
theorem dX10_reads_31 : decode cX10_reads 31 = .ok (.getfield 63, 3) := by decide +kernel
theorem dX10_reads_34 : decode cX10_reads 34 = .ok (.aload_n 0, 1) := by decide +kernel
theorem dX10_reads_35 : decode cX10_reads 35 = .ok (.getfield 288, 3) := by decide +kernel
theorem dX10_reads_38 : decode cX10_reads 38 = .ok (.iconst 0, 1) := by decide +kernel
theorem dX10_reads_39 : decode cX10_reads 39 = .ok (.iastore, 1) := by decide +kernel
theorem dX10_reads_40 : decode cX10_reads 40 = .ok (.aload_n 0, 1) := by decide +kernel
theorem dX10_reads_41 : decode cX10_reads 41 = .ok (.getfield 84, 3) := by decide +kernel
theorem dX10_reads_44 : decode cX10_reads 44 = .ok (.aload_n 0, 1) := by decide +kernel
theorem dX10_reads_45 : decode cX10_reads 45 = .ok (.getfield 288, 3) := by decide +kernel
theorem dX10_reads_48 : decode cX10_reads 48 = .ok (.iconst 0, 1) := by decide +kernel
theorem dX10_reads_49 : decode cX10_reads 49 = .ok (.iastore, 1) := by decide +kernel
theorem dX10_reads_50 : decode cX10_reads 50 = .ok (.aload_n 0, 1) := by decide +kernel
theorem dX10_reads_51 : decode cX10_reads 51 = .ok (.getfield 90, 3) := by decide +kernel
theorem dX10_reads_54 : decode cX10_reads 54 = .ok (.aload_n 0, 1) := by decide +kernel
theorem dX10_reads_55 : decode cX10_reads 55 = .ok (.getfield 288, 3) := by decide +kernel
theorem dX10_reads_58 : decode cX10_reads 58 = .ok (.iconst 0, 1) := by decide +kernel
theorem dX10_reads_59 : decode cX10_reads 59 = .ok (.iastore, 1) := by decide +kernel
theorem dX10_reads_60 : decode cX10_reads 60 = .ok (.aload_n 0, 1) := by decide +kernel
theorem dX10_reads_61 : decode cX10_reads 61 = .ok (.getfield 96, 3) := by decide +kernel
theorem dX10_reads_64 : decode cX10_reads 64 = .ok (.aload_n 0, 1) := by decide +kernel
theorem dX10_reads_65 : decode cX10_reads 65 = .ok (.getfield 288, 3) := by decide +kernel
theorem dX10_reads_68 : decode cX10_reads 68 = .ok (.bipush 7, 2) := by decide +kernel
theorem dX10_reads_70 : decode cX10_reads 70 = .ok (.iastore, 1) := by decide +kernel
theorem dX10_reads_71 : decode cX10_reads 71 = .ok (.iconst 0, 1) := by decide +kernel
theorem dX10_reads_72 : decode cX10_reads 72 = .ok (.istore_n 1, 1) := by decide +kernel
theorem dX10_reads_117 : decode cX10_reads 117 = .ok (.aload_n 0, 1) := by decide +kernel
theorem dX10_reads_118 : decode cX10_reads 118 = .ok (.invokevirtual 310, 3) := by decide +kernel
theorem dX10_reads_121 : decode cX10_reads 121 = .ok (.aload_n 0, 1) := by decide +kernel
theorem dX10_reads_122 : decode cX10_reads 122 = .ok (.getfield 291, 3) := by decide +kernel
theorem dX10_reads_125 : decode cX10_reads 125 = .ok (.ifCond .ne 66, 3) := by decide +kernel
theorem dX10_reads_128 : decode cX10_reads 128 = .ok (.aload_n 0, 1) := by decide +kernel
theorem dX10_reads_129 : decode cX10_reads 129 = .ok (.getfield 269, 3) := by decide +kernel
theorem dX10_reads_132 : decode cX10_reads 132 = .ok (.ifCond .ne 22, 3) := by decide +kernel
theorem dX10_reads_135 : decode cX10_reads 135 = .ok (.aload_n 0, 1) := by decide +kernel
theorem dX10_reads_136 : decode cX10_reads 136 = .ok (.getfield 370, 3) := by decide +kernel
theorem dX10_reads_139 : decode cX10_reads 139 = .ok (.ifCond .gt 15, 3) := by decide +kernel
theorem dX10_reads_142 : decode cX10_reads 142 = .ok (.aload_n 0, 1) := by decide +kernel
theorem dX10_reads_143 : decode cX10_reads 143 = .ok (.getfield 90, 3) := by decide +kernel
theorem dX10_reads_146 : decode cX10_reads 146 = .ok (.aload_n 0, 1) := by decide +kernel
theorem dX10_reads_147 : decode cX10_reads 147 = .ok (.getfield 288, 3) := by decide +kernel
theorem dX10_reads_150 : decode cX10_reads 150 = .ok (.iaload, 1) := by decide +kernel
theorem dX10_reads_151 : decode cX10_reads 151 = .ok (.ifCond .ne 40, 3) := by decide +kernel
theorem dX10_reads_154 : decode cX10_reads 154 = .ok (.aload_n 0, 1) := by decide +kernel
theorem dX10_reads_155 : decode cX10_reads 155 = .ok (.getfield 370, 3) := by decide +kernel
theorem dX10_reads_158 : decode cX10_reads 158 = .ok (.ifCond .ne 10, 3) := by decide +kernel
theorem dX10_reads_161 : decode cX10_reads 161 = .ok (.aload_n 0, 1) := by decide +kernel
theorem dX10_reads_162 : decode cX10_reads 162 = .ok (.invokevirtual 432, 3) := by decide +kernel
theorem dX10_reads_165 : decode cX10_reads 165 = .ok (.goto (-44), 3) := by decide +kernel
theorem dX10_reads_191 : decode cX10_reads 191 = .ok (.return_, 1) := by decide +kernel
set_option maxHeartbeats 4000000 in
set_option maxRecDepth 100000 in
theorem c_m_reads0 (l : Launch) (D : va_G) (g : Nat → ClassId) (h sz : Nat) (a : Nat → Nat)  : vz_Mv l D (tyG g) yX10_reads cX10_reads 2 3 66 0 0 [.ref h] sz [(h, .inr (10, mF a (upd (fun _ => 0) 7 1))), tA g (a 3) 2 (fun _ => 0), tA g (a 10) 2 (fun _ => 0), tA g (a 12) 2 (fun _ => 0), tA g (a 14) 2 (fun _ => 0), tA g (a 13) 32 (fun _ => 0)] (fun u : Unit => True) (fun u => [(h, .inr (10, mF a (upd (upd (fun _ => 0) 7 1) 11 1)))]) := by
  refine vz_sv (by decide) (Nat.le_of_ble_eq_true rfl) (fun p e s m args below meth c hx hb hr hml hts hown hlk hin hK hsz A hA H locs hP hD hS ls hl => ?_)
  have hl : lv_has ls 2 [(0, .ref h)] := hl
  refine lv_aload_n hx hb dX10_reads_0 rfl (lv_at hl 0 rfl) ?_
  refine lv_iconst (v := 0) hx hb dX10_reads_1 (by decide) ?_
  refine va_put (D := D) (ci := 10) (v := .int 0) (ty := .int) (C := RX10) (T := TX10) (N := 96) hx hb hts inlX10 tyX10 tyX10_ok nmX10 hown hK hP hD hS 0 rfl rfl 3 (by decide) (hts _ q754) (fun _ h => h) rfl (by decide +kernel) rfl rfl (Nat.le_of_ble_eq_true rfl) dX10_reads_2 (fun H locs hP hD hS => ?_)
  have hP : va_P D vwCl [(h, .inr (10, mF a (upd (fun _ => 0) 7 1))), tA g (a 3) 2 (fun _ => 0), tA g (a 10) 2 (fun _ => 0), tA g (a 12) 2 (fun _ => 0), tA g (a 14) 2 (fun _ => 0), tA g (a 13) 32 (fun _ => 0)] H := hP
  have hD : va_D A [(h, .inr (10, mF a (upd (fun _ => 0) 7 1))), tA g (a 3) 2 (fun _ => 0), tA g (a 10) 2 (fun _ => 0), tA g (a 12) 2 (fun _ => 0), tA g (a 14) 2 (fun _ => 0), tA g (a 13) 32 (fun _ => 0)] := hD
  refine lv_aload_n hx hb dX10_reads_5 rfl (lv_at hl 0 rfl) ?_
  refine lv_iconst (v := 0) hx hb dX10_reads_6 (by decide) ?_
  refine va_put (D := D) (ci := 10) (v := .int 0) (ty := .int) (C := RX10) (T := TX10) (N := 96) hx hb hts inlX10 tyX10 tyX10_ok nmX10 hown hK hP hD hS 0 rfl rfl 26 (by decide) (hts _ q745) (fun _ h => h) rfl (by decide +kernel) rfl rfl (Nat.le_of_ble_eq_true rfl) dX10_reads_7 (fun H locs hP hD hS => ?_)
  have hP : va_P D vwCl [(h, .inr (10, mF a (upd (fun _ => 0) 7 1))), tA g (a 3) 2 (fun _ => 0), tA g (a 10) 2 (fun _ => 0), tA g (a 12) 2 (fun _ => 0), tA g (a 14) 2 (fun _ => 0), tA g (a 13) 32 (fun _ => 0)] H := hP
  have hD : va_D A [(h, .inr (10, mF a (upd (fun _ => 0) 7 1))), tA g (a 3) 2 (fun _ => 0), tA g (a 10) 2 (fun _ => 0), tA g (a 12) 2 (fun _ => 0), tA g (a 14) 2 (fun _ => 0), tA g (a 13) 32 (fun _ => 0)] := hD
  refine lv_aload_n hx hb dX10_reads_10 rfl (lv_at hl 0 rfl) ?_
  refine lv_iconst (v := 0) hx hb dX10_reads_11 (by decide) ?_
  refine va_put (D := D) (ci := 10) (v := .int 0) (ty := .int) (C := RX10) (T := TX10) (N := 96) hx hb hts inlX10 tyX10 tyX10_ok nmX10 hown hK hP hD hS 0 rfl rfl 29 (by decide) (hts _ q755) (fun _ h => h) rfl (by decide +kernel) rfl rfl (Nat.le_of_ble_eq_true rfl) dX10_reads_12 (fun H locs hP hD hS => ?_)
  have hP : va_P D vwCl [(h, .inr (10, mF a (upd (fun _ => 0) 7 1))), tA g (a 3) 2 (fun _ => 0), tA g (a 10) 2 (fun _ => 0), tA g (a 12) 2 (fun _ => 0), tA g (a 14) 2 (fun _ => 0), tA g (a 13) 32 (fun _ => 0)] H := hP
  have hD : va_D A [(h, .inr (10, mF a (upd (fun _ => 0) 7 1))), tA g (a 3) 2 (fun _ => 0), tA g (a 10) 2 (fun _ => 0), tA g (a 12) 2 (fun _ => 0), tA g (a 14) 2 (fun _ => 0), tA g (a 13) 32 (fun _ => 0)] := hD
  refine lv_aload_n hx hb dX10_reads_15 rfl (lv_at hl 0 rfl) ?_
  refine lv_iconst (v := 0) hx hb dX10_reads_16 (by decide) ?_
  refine va_put (D := D) (ci := 10) (v := .int 0) (ty := .int) (C := RX10) (T := TX10) (N := 96) hx hb hts inlX10 tyX10 tyX10_ok nmX10 hown hK hP hD hS 0 rfl rfl 24 (by decide) (hts _ q756) (fun _ h => h) rfl (by decide +kernel) rfl rfl (Nat.le_of_ble_eq_true rfl) dX10_reads_17 (fun H locs hP hD hS => ?_)
  have hP : va_P D vwCl [(h, .inr (10, mF a (upd (fun _ => 0) 7 1))), tA g (a 3) 2 (fun _ => 0), tA g (a 10) 2 (fun _ => 0), tA g (a 12) 2 (fun _ => 0), tA g (a 14) 2 (fun _ => 0), tA g (a 13) 32 (fun _ => 0)] H := hP
  have hD : va_D A [(h, .inr (10, mF a (upd (fun _ => 0) 7 1))), tA g (a 3) 2 (fun _ => 0), tA g (a 10) 2 (fun _ => 0), tA g (a 12) 2 (fun _ => 0), tA g (a 14) 2 (fun _ => 0), tA g (a 13) 32 (fun _ => 0)] := hD
  refine lv_aload_n hx hb dX10_reads_20 rfl (lv_at hl 0 rfl) ?_
  refine lv_iconst (v := 0) hx hb dX10_reads_21 (by decide) ?_
  refine va_put (D := D) (ci := 10) (v := .int 0) (ty := .int) (C := RX10) (T := TX10) (N := 96) hx hb hts inlX10 tyX10 tyX10_ok nmX10 hown hK hP hD hS 0 rfl rfl 25 (by decide) (hts _ q757) (fun _ h => h) rfl (by decide +kernel) rfl rfl (Nat.le_of_ble_eq_true rfl) dX10_reads_22 (fun H locs hP hD hS => ?_)
  have hP : va_P D vwCl [(h, .inr (10, mF a (upd (fun _ => 0) 7 1))), tA g (a 3) 2 (fun _ => 0), tA g (a 10) 2 (fun _ => 0), tA g (a 12) 2 (fun _ => 0), tA g (a 14) 2 (fun _ => 0), tA g (a 13) 32 (fun _ => 0)] H := hP
  have hD : va_D A [(h, .inr (10, mF a (upd (fun _ => 0) 7 1))), tA g (a 3) 2 (fun _ => 0), tA g (a 10) 2 (fun _ => 0), tA g (a 12) 2 (fun _ => 0), tA g (a 14) 2 (fun _ => 0), tA g (a 13) 32 (fun _ => 0)] := hD
  refine lv_aload_n hx hb dX10_reads_25 rfl (lv_at hl 0 rfl) ?_
  refine lv_iconst (v := 0) hx hb dX10_reads_26 (by decide) ?_
  refine va_put (D := D) (ci := 10) (v := .int 0) (ty := .int) (C := RX10) (T := TX10) (N := 96) hx hb hts inlX10 tyX10 tyX10_ok nmX10 hown hK hP hD hS 0 rfl rfl 38 (by decide) (hts _ q758) (fun _ h => h) rfl (by decide +kernel) rfl rfl (Nat.le_of_ble_eq_true rfl) dX10_reads_27 (fun H locs hP hD hS => ?_)
  have hP : va_P D vwCl [(h, .inr (10, mF a (upd (fun _ => 0) 7 1))), tA g (a 3) 2 (fun _ => 0), tA g (a 10) 2 (fun _ => 0), tA g (a 12) 2 (fun _ => 0), tA g (a 14) 2 (fun _ => 0), tA g (a 13) 32 (fun _ => 0)] H := hP
  have hD : va_D A [(h, .inr (10, mF a (upd (fun _ => 0) 7 1))), tA g (a 3) 2 (fun _ => 0), tA g (a 10) 2 (fun _ => 0), tA g (a 12) 2 (fun _ => 0), tA g (a 14) 2 (fun _ => 0), tA g (a 13) 32 (fun _ => 0)] := hD
  refine lv_aload_n hx hb dX10_reads_30 rfl (lv_at hl 0 rfl) ?_
  refine va_get (D := D) (ci := 10) (v := .ref (a 3)) (C := RX10) (T := TX10) (N := 96) hx hb hts inlX10 hown hK hP 0 rfl rfl 12 (by decide) (hts _ q196) (fun _ h => h) rfl dX10_reads_31 ?_
  refine lv_aload_n hx hb dX10_reads_34 rfl (lv_at hl 0 rfl) ?_
  refine va_get (D := D) (ci := 10) (v := .int 1) (C := RX10) (T := TX10) (N := 96) hx hb hts inlX10 hown hK hP 0 rfl rfl 9 (by decide) (hts _ q744) (fun _ h => h) rfl dX10_reads_35 ?_
  refine lv_iconst (v := 0) hx hb dX10_reads_38 (by decide) ?_
  refine va_iast hx hb hK hP hD hS 1 0 rfl rfl (vp_in_c (by decide)) dX10_reads_39 (fun H locs hP hD hS => ?_)
  have hP : va_P D vwCl [(h, .inr (10, mF a (upd (fun _ => 0) 7 1))), tA g (a 3) 2 (upd (fun _ => 0) 1 0), tA g (a 10) 2 (fun _ => 0), tA g (a 12) 2 (fun _ => 0), tA g (a 14) 2 (fun _ => 0), tA g (a 13) 32 (fun _ => 0)] H := hP
  have hD : va_D A [(h, .inr (10, mF a (upd (fun _ => 0) 7 1))), tA g (a 3) 2 (upd (fun _ => 0) 1 0), tA g (a 10) 2 (fun _ => 0), tA g (a 12) 2 (fun _ => 0), tA g (a 14) 2 (fun _ => 0), tA g (a 13) 32 (fun _ => 0)] := hD
  refine lv_aload_n hx hb dX10_reads_40 rfl (lv_at hl 0 rfl) ?_
  refine va_get (D := D) (ci := 10) (v := .ref (a 10)) (C := RX10) (T := TX10) (N := 96) hx hb hts inlX10 hown hK hP 0 rfl rfl 19 (by decide) (hts _ q203) (fun _ h => h) rfl dX10_reads_41 ?_
  refine lv_aload_n hx hb dX10_reads_44 rfl (lv_at hl 0 rfl) ?_
  refine va_get (D := D) (ci := 10) (v := .int 1) (C := RX10) (T := TX10) (N := 96) hx hb hts inlX10 hown hK hP 0 rfl rfl 9 (by decide) (hts _ q744) (fun _ h => h) rfl dX10_reads_45 ?_
  refine lv_iconst (v := 0) hx hb dX10_reads_48 (by decide) ?_
  refine va_iast hx hb hK hP hD hS 2 0 rfl rfl (vp_in_c (by decide)) dX10_reads_49 (fun H locs hP hD hS => ?_)
  have hP : va_P D vwCl [(h, .inr (10, mF a (upd (fun _ => 0) 7 1))), tA g (a 3) 2 (upd (fun _ => 0) 1 0), tA g (a 10) 2 (upd (fun _ => 0) 1 0), tA g (a 12) 2 (fun _ => 0), tA g (a 14) 2 (fun _ => 0), tA g (a 13) 32 (fun _ => 0)] H := hP
  have hD : va_D A [(h, .inr (10, mF a (upd (fun _ => 0) 7 1))), tA g (a 3) 2 (upd (fun _ => 0) 1 0), tA g (a 10) 2 (upd (fun _ => 0) 1 0), tA g (a 12) 2 (fun _ => 0), tA g (a 14) 2 (fun _ => 0), tA g (a 13) 32 (fun _ => 0)] := hD
  refine lv_aload_n hx hb dX10_reads_50 rfl (lv_at hl 0 rfl) ?_
  refine va_get (D := D) (ci := 10) (v := .ref (a 12)) (C := RX10) (T := TX10) (N := 96) hx hb hts inlX10 hown hK hP 0 rfl rfl 21 (by decide) (hts _ q205) (fun _ h => h) rfl dX10_reads_51 ?_
  refine lv_aload_n hx hb dX10_reads_54 rfl (lv_at hl 0 rfl) ?_
  refine va_get (D := D) (ci := 10) (v := .int 1) (C := RX10) (T := TX10) (N := 96) hx hb hts inlX10 hown hK hP 0 rfl rfl 9 (by decide) (hts _ q744) (fun _ h => h) rfl dX10_reads_55 ?_
  refine lv_iconst (v := 0) hx hb dX10_reads_58 (by decide) ?_
  refine va_iast hx hb hK hP hD hS 3 0 rfl rfl (vp_in_c (by decide)) dX10_reads_59 (fun H locs hP hD hS => ?_)
  have hP : va_P D vwCl [(h, .inr (10, mF a (upd (fun _ => 0) 7 1))), tA g (a 3) 2 (upd (fun _ => 0) 1 0), tA g (a 10) 2 (upd (fun _ => 0) 1 0), tA g (a 12) 2 (upd (fun _ => 0) 1 0), tA g (a 14) 2 (fun _ => 0), tA g (a 13) 32 (fun _ => 0)] H := hP
  have hD : va_D A [(h, .inr (10, mF a (upd (fun _ => 0) 7 1))), tA g (a 3) 2 (upd (fun _ => 0) 1 0), tA g (a 10) 2 (upd (fun _ => 0) 1 0), tA g (a 12) 2 (upd (fun _ => 0) 1 0), tA g (a 14) 2 (fun _ => 0), tA g (a 13) 32 (fun _ => 0)] := hD
  refine lv_aload_n hx hb dX10_reads_60 rfl (lv_at hl 0 rfl) ?_
  refine va_get (D := D) (ci := 10) (v := .ref (a 14)) (C := RX10) (T := TX10) (N := 96) hx hb hts inlX10 hown hK hP 0 rfl rfl 23 (by decide) (hts _ q207) (fun _ h => h) rfl dX10_reads_61 ?_
  refine lv_aload_n hx hb dX10_reads_64 rfl (lv_at hl 0 rfl) ?_
  refine va_get (D := D) (ci := 10) (v := .int 1) (C := RX10) (T := TX10) (N := 96) hx hb hts inlX10 hown hK hP 0 rfl rfl 9 (by decide) (hts _ q744) (fun _ h => h) rfl dX10_reads_65 ?_
  refine lv_bipush (v := 7) hx hb dX10_reads_68 (by decide) ?_
  refine va_iast hx hb hK hP hD hS 4 0 rfl rfl (vp_in_c (by decide)) dX10_reads_70 (fun H locs hP hD hS => ?_)
  have hP : va_P D vwCl [(h, .inr (10, mF a (upd (fun _ => 0) 7 1))), tA g (a 3) 2 (upd (fun _ => 0) 1 0), tA g (a 10) 2 (upd (fun _ => 0) 1 0), tA g (a 12) 2 (upd (fun _ => 0) 1 0), tA g (a 14) 2 (upd (fun _ => 0) 1 7), tA g (a 13) 32 (fun _ => 0)] H := hP
  have hD : va_D A [(h, .inr (10, mF a (upd (fun _ => 0) 7 1))), tA g (a 3) 2 (upd (fun _ => 0) 1 0), tA g (a 10) 2 (upd (fun _ => 0) 1 0), tA g (a 12) 2 (upd (fun _ => 0) 1 0), tA g (a 14) 2 (upd (fun _ => 0) 1 7), tA g (a 13) 32 (fun _ => 0)] := hD
  refine lv_iconst (v := 0) hx hb dX10_reads_71 (by decide) ?_
  refine lv_istore_n (lv' := [(1, .int 0), (0, .ref h)]) hx hb dX10_reads_72 rfl hl (by decide) rfl (fun ls hl => ?_)
  have hP : va_P D vwCl [(h, .inr (10, mF a (upd (fun _ => 0) 7 1))), tA g (a 3) 2 (upd (fun _ => 0) 1 0), tA g (a 10) 2 (upd (fun _ => 0) 1 0), tA g (a 12) 2 (upd (fun _ => 0) 1 0), tA g (a 14) 2 (upd (fun _ => 0) 1 7), tA g (a 13) 32 (fun _ => 0)] H := vz_pickP hP [0, 1, 2, 3, 4, 5] rfl
  have hD : va_D A [(h, .inr (10, mF a (upd (fun _ => 0) 7 1))), tA g (a 3) 2 (upd (fun _ => 0) 1 0), tA g (a 10) 2 (upd (fun _ => 0) 1 0), tA g (a 12) 2 (upd (fun _ => 0) 1 0), tA g (a 14) 2 (upd (fun _ => 0) 1 7), tA g (a 13) 32 (fun _ => 0)] := hD.sub [0, 1, 2, 3, 4, 5] (by decide) rfl
  refine lp_m_reads hx hb hml hown hts hK hA ?_ 8 0 (by omega) (by omega) _ H locs ls hP hD hS (lv_sub hl [1, 0] rfl)
  intro fa H locs ls hP hD hS hl
  refine lv_aload_n hx hb dX10_reads_117 rfl (lv_at hl 0 rfl) ?_
  refine vz_Vv (wr := [tA g (a 3) 2 (upd (fun _ => 0) 1 0), tA g (a 10) 2 (upd (fun _ => 0) 1 0), tA g (a 12) 2 (upd (fun _ => 0) 1 0), tA g (a 14) 2 (upd (fun _ => 0) 1 7), tA g (a 13) 32 fa]) (As := []) (rest := []) hx hb hml hown hts hK hA hP hD hS (c_m_advance0 l D g h H.size a) kv_X10_310 (⟨Nat.le_of_ble_eq_true rfl, Nat.le_of_ble_eq_true rfl⟩) (q0 := 0) (ci := 10) rfl rfl rfl [0] [1, 2, 3, 4, 5] rfl rfl (by decide) hl.1 (Nat.le_of_ble_eq_true rfl) dX10_reads_118 (⟨Nat.le_of_ble_eq_true rfl, Nat.le_of_ble_eq_true rfl⟩) rfl (fun _ H locs _ _ hP hD hS => ?_)
  have hP : va_P D vwCl [tA g (a 3) 2 (upd (fun _ => 0) 1 0), tA g (a 10) 2 (upd (fun _ => 0) 1 0), tA g (a 12) 2 (upd (fun _ => 0) 1 0), tA g (a 14) 2 (upd (fun _ => 0) 1 7), tA g (a 13) 32 fa, (h, .inr (10, mF a (upd (fun _ => 0) 7 1)))] H := hP
  have hD : va_D A [tA g (a 3) 2 (upd (fun _ => 0) 1 0), tA g (a 10) 2 (upd (fun _ => 0) 1 0), tA g (a 12) 2 (upd (fun _ => 0) 1 0), tA g (a 14) 2 (upd (fun _ => 0) 1 7), tA g (a 13) 32 fa, (h, .inr (10, mF a (upd (fun _ => 0) 7 1)))] := hD
  refine lv_aload_n hx hb dX10_reads_121 rfl (lv_at hl 0 rfl) ?_
  refine va_get (D := D) (ci := 10) (v := .int 0) (C := RX10) (T := TX10) (N := 96) hx hb hts inlX10 hown hK hP 5 rfl rfl 26 (by decide) (hts _ q745) (fun _ h => h) rfl dX10_reads_122 ?_
  refine lv_if_ne (tgt := 191) hx hb dX10_reads_125 (by decide) (fun h9 => absurd (by decide) h9) (fun _ => ?_)
  refine lv_aload_n hx hb dX10_reads_128 rfl (lv_at hl 0 rfl) ?_
  refine va_get (D := D) (ci := 10) (v := .int 0) (C := RX10) (T := TX10) (N := 96) hx hb hts inlX10 hown hK hP 5 rfl rfl 4 (by decide) (hts _ q759) (fun _ h => h) rfl dX10_reads_129 ?_
  refine lv_if_ne (tgt := 154) hx hb dX10_reads_132 (by decide) (fun h9 => absurd (by decide) h9) (fun _ => ?_)
  refine lv_aload_n hx hb dX10_reads_135 rfl (lv_at hl 0 rfl) ?_
  refine va_get (D := D) (ci := 10) (v := .int 0) (C := RX10) (T := TX10) (N := 96) hx hb hts inlX10 hown hK hP 5 rfl rfl 38 (by decide) (hts _ q758) (fun _ h => h) rfl dX10_reads_136 ?_
  refine lv_if_gt (tgt := 154) hx hb dX10_reads_139 (by decide) (fun h9 => absurd h9 (by decide)) (fun _ => ?_)
  refine lv_aload_n hx hb dX10_reads_142 rfl (lv_at hl 0 rfl) ?_
  refine va_get (D := D) (ci := 10) (v := .ref (a 12)) (C := RX10) (T := TX10) (N := 96) hx hb hts inlX10 hown hK hP 5 rfl rfl 21 (by decide) (hts _ q205) (fun _ h => h) rfl dX10_reads_143 ?_
  refine lv_aload_n hx hb dX10_reads_146 rfl (lv_at hl 0 rfl) ?_
  refine va_get (D := D) (ci := 10) (v := .int 1) (C := RX10) (T := TX10) (N := 96) hx hb hts inlX10 hown hK hP 5 rfl rfl 9 (by decide) (hts _ q744) (fun _ h => h) rfl dX10_reads_147 ?_
  refine va_iald hx hb hK hP 2 0 rfl rfl (vp_in_c (by decide)) dX10_reads_150 ?_
  refine lv_topi (nm_r (e' := 0) (rfl) ?_)
  refine lv_if_ne (tgt := 191) hx hb dX10_reads_151 (by decide) (fun h9 => absurd (by decide) h9) (fun _ => ?_)
  refine lv_aload_n hx hb dX10_reads_154 rfl (lv_at hl 0 rfl) ?_
  refine va_get (D := D) (ci := 10) (v := .int 0) (C := RX10) (T := TX10) (N := 96) hx hb hts inlX10 hown hK hP 5 rfl rfl 38 (by decide) (hts _ q758) (fun _ h => h) rfl dX10_reads_155 ?_
  refine lv_if_ne (tgt := 168) hx hb dX10_reads_158 (by decide) (fun h9 => absurd (by decide) h9) (fun _ => ?_)
  refine lv_aload_n hx hb dX10_reads_161 rfl (lv_at hl 0 rfl) ?_
  refine vz_Vv (wr := [tA g (a 3) 2 (upd (fun _ => 0) 1 0), tA g (a 10) 2 (upd (fun _ => 0) 1 0), tA g (a 12) 2 (upd (fun _ => 0) 1 0), tA g (a 14) 2 (upd (fun _ => 0) 1 7), tA g (a 13) 32 fa]) (As := []) (rest := []) hx hb hml hown hts hK hA hP hD hS (c_m_outside0 l D g h H.size a) kv_X10_432 (⟨Nat.le_of_ble_eq_true rfl, Nat.le_of_ble_eq_true rfl⟩) (q0 := 5) (ci := 10) rfl rfl rfl [5] [0, 1, 2, 3, 4] rfl rfl (by decide) hl.1 (Nat.le_of_ble_eq_true rfl) dX10_reads_162 (⟨Nat.le_of_ble_eq_true rfl, Nat.le_of_ble_eq_true rfl⟩) rfl (fun _ H locs _ _ hP hD hS => ?_)
  have hP : va_P D vwCl [tA g (a 3) 2 (upd (fun _ => 0) 1 0), tA g (a 10) 2 (upd (fun _ => 0) 1 0), tA g (a 12) 2 (upd (fun _ => 0) 1 0), tA g (a 14) 2 (upd (fun _ => 0) 1 7), tA g (a 13) 32 fa, (h, .inr (10, mF a (upd (upd (fun _ => 0) 7 1) 11 1)))] H := hP
  have hD : va_D A [tA g (a 3) 2 (upd (fun _ => 0) 1 0), tA g (a 10) 2 (upd (fun _ => 0) 1 0), tA g (a 12) 2 (upd (fun _ => 0) 1 0), tA g (a 14) 2 (upd (fun _ => 0) 1 7), tA g (a 13) 32 fa, (h, .inr (10, mF a (upd (upd (fun _ => 0) 7 1) 11 1)))] := hD
  refine lv_goto (tgt := 121) hx hb dX10_reads_165 (by decide) ?_
  refine lv_aload_n hx hb dX10_reads_121 rfl (lv_at hl 0 rfl) ?_
  refine va_get (D := D) (ci := 10) (v := .int 1) (C := RX10) (T := TX10) (N := 96) hx hb hts inlX10 hown hK hP 5 rfl rfl 26 (by decide) (hts _ q745) (fun _ h => h) rfl dX10_reads_122 ?_
  refine lv_if_ne (tgt := 191) hx hb dX10_reads_125 (by decide) (fun _ => ?_) (fun h9 => absurd h9 (by decide))
  exact vz_vret hx hb hr hlk hK hP hD hS (()) (trivial) [5] rfl (by decide) (Nat.le_refl 0) (Nat.le_refl 0) dX10_reads_191
theorem q750 : Cond.methodLink RX10 441 yX10_reads ∈ wsL_law := mT_7 (List.mem_of_getElem? (i := 173) rfl) rfl
theorem q751 : Cond.instanceMethod yX10_reads ∈ wsL_law := mT_7 (List.mem_of_getElem? (i := 175) rfl) rfl
theorem q752 : Cond.selects RX10 yX10_reads yX10_reads ∈ wsL_law := mS_7 (q := (yX10_reads, 96)) (List.mem_of_getElem? (i := 9) rfl) rfl
theorem q753 : Cond.code yX10_reads cX10_reads 2 none ∈ wsL_law := mT_7 (List.mem_of_getElem? (i := 176) rfl) rfl
theorem kv_X10_441 : vz_cv RX10 441 yX10_reads cX10_reads 2 none 0 := ⟨q750, q751, q752, q5, q753, by decide +kernel⟩
theorem q948 : Cond.methodLink RX10 444 yX10_looks ∈ wsL_law := mT_8 (List.mem_of_getElem? (i := 119) rfl) rfl
theorem q949 : Cond.instanceMethod yX10_looks ∈ wsL_law := mT_8 (List.mem_of_getElem? (i := 121) rfl) rfl
theorem q950 : Cond.selects RX10 yX10_looks yX10_looks ∈ wsL_law := mS_10 (q := (yX10_looks, 96)) (List.mem_of_getElem? (i := 6) rfl) rfl
theorem q951 : Cond.code yX10_looks cX10_looks 3 none ∈ wsL_law := mT_8 (List.mem_of_getElem? (i := 122) rfl) rfl
theorem kv_X10_444 : vz_cv RX10 444 yX10_looks cX10_looks 3 none 0 := ⟨q948, q949, q950, q5, q951, by decide +kernel⟩
theorem dX10_compile_0 : decode cX10_compile 0 = .ok (.aload_n 0, 1) := by decide +kernel
theorem dX10_compile_1 : decode cX10_compile 1 = .ok (.iconst 1, 1) := by decide +kernel
theorem dX10_compile_2 : decode cX10_compile 2 = .ok (.aload_n 0, 1) := by decide +kernel
theorem dX10_compile_3 : decode cX10_compile 3 = .ok (.getfield 235, 3) := by decide +kernel
theorem dX10_compile_6 : decode cX10_compile 6 = .ok (.isub, 1) := by decide +kernel
theorem dX10_compile_7 : decode cX10_compile 7 = .ok (.putfield 288, 3) := by decide +kernel
theorem dX10_compile_10 : decode cX10_compile 10 = .ok (.aload_n 0, 1) := by decide +kernel
theorem dX10_compile_11 : decode cX10_compile 11 = .ok (.invokevirtual 441, 3) := by decide +kernel
theorem dX10_compile_14 : decode cX10_compile 14 = .ok (.aload_n 0, 1) := by decide +kernel
theorem dX10_compile_15 : decode cX10_compile 15 = .ok (.invokevirtual 444, 3) := by decide +kernel
theorem dX10_compile_18 : decode cX10_compile 18 = .ok (.aload_n 0, 1) := by decide +kernel
theorem dX10_compile_19 : decode cX10_compile 19 = .ok (.iconst 0, 1) := by decide +kernel
theorem dX10_compile_20 : decode cX10_compile 20 = .ok (.putfield 243, 3) := by decide +kernel
theorem dX10_compile_23 : decode cX10_compile 23 = .ok (.aload_n 0, 1) := by decide +kernel
theorem dX10_compile_24 : decode cX10_compile 24 = .ok (.aload_n 0, 1) := by decide +kernel
theorem dX10_compile_25 : decode cX10_compile 25 = .ok (.getfield 291, 3) := by decide +kernel
theorem dX10_compile_28 : decode cX10_compile 28 = .ok (.putfield 447, 3) := by decide +kernel
theorem dX10_compile_31 : decode cX10_compile 31 = .ok (.aload_n 0, 1) := by decide +kernel
theorem dX10_compile_32 : decode cX10_compile 32 = .ok (.getfield 291, 3) := by decide +kernel
theorem dX10_compile_35 : decode cX10_compile 35 = .ok (.ifCond .eq 11, 3) := by decide +kernel
theorem dX10_compile_38 : decode cX10_compile 38 = .ok (.bipush (-100), 2) := by decide +kernel
theorem dX10_compile_40 : decode cX10_compile 40 = .ok (.aload_n 0, 1) := by decide +kernel
theorem dX10_compile_41 : decode cX10_compile 41 = .ok (.getfield 294, 3) := by decide +kernel
theorem dX10_compile_44 : decode cX10_compile 44 = .ok (.isub, 1) := by decide +kernel
theorem dX10_compile_45 : decode cX10_compile 45 = .ok (.ireturn, 1) := by decide +kernel
set_option maxHeartbeats 4000000 in
set_option maxRecDepth 100000 in
theorem c_m_compile0 (l : Launch) (D : va_G) (g : Nat → ClassId) (h sz : Nat) (a : Nat → Nat) (b : Int32)  : vz_Mi l D (tyG g) yX10_compile cX10_compile 2 4 90 0 0 .int [.ref h, .int b] sz [(h, .inr (10, mF a (fun _ => 0))), tA g (a 3) 2 (fun _ => 0), tA g (a 10) 2 (fun _ => 0), tA g (a 12) 2 (fun _ => 0), tA g (a 14) 2 (fun _ => 0), tA g (a 13) 32 (fun _ => 0)] (fun r (u : Unit) => r = -100) (fun u => [(h, .inr (10, mF a (upd (upd (upd (fun _ => 0) 7 1) 11 1) 13 1)))]) := by
  refine vz_si (by decide) (Nat.le_of_ble_eq_true rfl) (fun p e s m args below meth c hx hb hr hml hts hown hlk hin hK hsz A hA H locs hP hD hS ls hl => ?_)
  have hl : lv_has ls 2 [(0, .ref h), (1, .int b)] := hl
  refine lv_aload_n hx hb dX10_compile_0 rfl (lv_at hl 0 rfl) ?_
  refine lv_iconst (v := 1) hx hb dX10_compile_1 (by decide) ?_
  refine lv_aload_n hx hb dX10_compile_2 rfl (lv_at hl 0 rfl) ?_
  refine va_get (D := D) (ci := 10) (v := .int 0) (C := RX10) (T := TX10) (N := 96) hx hb hts inlX10 hown hK hP 0 rfl rfl 8 (by decide) (hts _ q254) (fun _ h => h) rfl dX10_compile_3 ?_
  refine lv_isub hx hb dX10_compile_6 ?_
  refine lv_topi (nm_r (e' := 1) (by decide) ?_)
  refine va_put (D := D) (ci := 10) (v := .int 1) (ty := .int) (C := RX10) (T := TX10) (N := 96) hx hb hts inlX10 tyX10 tyX10_ok nmX10 hown hK hP hD hS 0 rfl rfl 9 (by decide) (hts _ q744) (fun _ h => h) rfl (by decide +kernel) rfl rfl (Nat.le_of_ble_eq_true rfl) dX10_compile_7 (fun H locs hP hD hS => ?_)
  have hP : va_P D vwCl [(h, .inr (10, mF a (upd (fun _ => 0) 7 1))), tA g (a 3) 2 (fun _ => 0), tA g (a 10) 2 (fun _ => 0), tA g (a 12) 2 (fun _ => 0), tA g (a 14) 2 (fun _ => 0), tA g (a 13) 32 (fun _ => 0)] H := hP
  have hD : va_D A [(h, .inr (10, mF a (upd (fun _ => 0) 7 1))), tA g (a 3) 2 (fun _ => 0), tA g (a 10) 2 (fun _ => 0), tA g (a 12) 2 (fun _ => 0), tA g (a 14) 2 (fun _ => 0), tA g (a 13) 32 (fun _ => 0)] := hD
  refine lv_aload_n hx hb dX10_compile_10 rfl (lv_at hl 0 rfl) ?_
  refine vz_Vv (wr := []) (As := []) (rest := []) hx hb hml hown hts hK hA hP hD hS (c_m_reads0 l D g h H.size a) kv_X10_441 (⟨Nat.le_of_ble_eq_true rfl, Nat.le_of_ble_eq_true rfl⟩) (q0 := 0) (ci := 10) rfl rfl rfl [0, 1, 2, 3, 4, 5] [] rfl rfl (by decide) hl.1 (Nat.le_of_ble_eq_true rfl) dX10_compile_11 (⟨Nat.le_of_ble_eq_true rfl, Nat.le_of_ble_eq_true rfl⟩) rfl (fun _ H locs _ _ hP hD hS => ?_)
  have hP : va_P D vwCl [(h, .inr (10, mF a (upd (upd (fun _ => 0) 7 1) 11 1)))] H := hP
  have hD : va_D A [(h, .inr (10, mF a (upd (upd (fun _ => 0) 7 1) 11 1)))] := hD
  refine lv_aload_n hx hb dX10_compile_14 rfl (lv_at hl 0 rfl) ?_
  refine vz_Vv (wr := []) (As := []) (rest := []) hx hb hml hown hts hK hA hP hD hS (c_m_looks0 l D g h H.size a) kv_X10_444 (⟨Nat.le_of_ble_eq_true rfl, Nat.le_of_ble_eq_true rfl⟩) (q0 := 0) (ci := 10) rfl rfl rfl [0] [] rfl rfl (by decide) hl.1 (Nat.le_of_ble_eq_true rfl) dX10_compile_15 (⟨Nat.le_of_ble_eq_true rfl, Nat.le_of_ble_eq_true rfl⟩) rfl (fun _ H locs _ _ hP hD hS => ?_)
  have hP : va_P D vwCl [(h, .inr (10, mF a (upd (upd (fun _ => 0) 7 1) 11 1)))] H := hP
  have hD : va_D A [(h, .inr (10, mF a (upd (upd (fun _ => 0) 7 1) 11 1)))] := hD
  refine lv_aload_n hx hb dX10_compile_18 rfl (lv_at hl 0 rfl) ?_
  refine lv_iconst (v := 0) hx hb dX10_compile_19 (by decide) ?_
  refine va_put (D := D) (ci := 10) (v := .int 0) (ty := .int) (C := RX10) (T := TX10) (N := 96) hx hb hts inlX10 tyX10 tyX10_ok nmX10 hown hK hP hD hS 0 rfl rfl 2 (by decide) (hts _ q272) (fun _ h => h) rfl (by decide +kernel) rfl rfl (Nat.le_of_ble_eq_true rfl) dX10_compile_20 (fun H locs hP hD hS => ?_)
  have hP : va_P D vwCl [(h, .inr (10, mF a (upd (upd (fun _ => 0) 7 1) 11 1)))] H := hP
  have hD : va_D A [(h, .inr (10, mF a (upd (upd (fun _ => 0) 7 1) 11 1)))] := hD
  refine lv_aload_n hx hb dX10_compile_23 rfl (lv_at hl 0 rfl) ?_
  refine lv_aload_n hx hb dX10_compile_24 rfl (lv_at hl 0 rfl) ?_
  refine va_get (D := D) (ci := 10) (v := .int 1) (C := RX10) (T := TX10) (N := 96) hx hb hts inlX10 hown hK hP 0 rfl rfl 26 (by decide) (hts _ q745) (fun _ h => h) rfl dX10_compile_25 ?_
  refine va_put (D := D) (ci := 10) (v := .int 1) (ty := .int) (C := RX10) (T := TX10) (N := 96) hx hb hts inlX10 tyX10 tyX10_ok nmX10 hown hK hP hD hS 0 rfl rfl 28 (by decide) (hts _ q746) (fun _ h => h) rfl (by decide +kernel) rfl rfl (Nat.le_of_ble_eq_true rfl) dX10_compile_28 (fun H locs hP hD hS => ?_)
  have hP : va_P D vwCl [(h, .inr (10, mF a (upd (upd (upd (fun _ => 0) 7 1) 11 1) 13 1)))] H := hP
  have hD : va_D A [(h, .inr (10, mF a (upd (upd (upd (fun _ => 0) 7 1) 11 1) 13 1)))] := hD
  refine lv_aload_n hx hb dX10_compile_31 rfl (lv_at hl 0 rfl) ?_
  refine va_get (D := D) (ci := 10) (v := .int 1) (C := RX10) (T := TX10) (N := 96) hx hb hts inlX10 hown hK hP 0 rfl rfl 26 (by decide) (hts _ q745) (fun _ h => h) rfl dX10_compile_32 ?_
  refine lv_if_eq (tgt := 46) hx hb dX10_compile_35 (by decide) (fun h9 => absurd h9 (by decide)) (fun _ => ?_)
  refine lv_bipush (v := (-100)) hx hb dX10_compile_38 (by decide) ?_
  refine lv_aload_n hx hb dX10_compile_40 rfl (lv_at hl 0 rfl) ?_
  refine va_get (D := D) (ci := 10) (v := .int 0) (C := RX10) (T := TX10) (N := 96) hx hb hts inlX10 hown hK hP 0 rfl rfl 27 (by decide) (hts _ q747) (fun _ h => h) rfl dX10_compile_41 ?_
  refine lv_isub hx hb dX10_compile_44 ?_
  refine lv_topi (nm_r (e' := (-100)) (by decide) ?_)
  exact vz_iret hx hb hr hlk hK hP hD hS (()) (rfl) [0] rfl (by decide) (Nat.le_refl 0) (Nat.le_refl 0) dX10_compile_45
