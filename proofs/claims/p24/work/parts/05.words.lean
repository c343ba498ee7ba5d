/-! each word that a method needs, in the tables -/
theorem zt_1 {w : Cond} (h : w ∈ tables_1_1) : w ∈ lw_tbl := List.mem_append.mpr (Or.inr (show w ∈ tables_1_1 ++ (tables_1_2 ++ (tables_1_3 ++ (tables_1_4 ++ (tables_1_5 ++ (tables_1_6 ++ (tables_1_7 ++ (tables_1_8 ++ tables_1_9))))))) from List.mem_append.mpr (Or.inl h)))
theorem zt_2 {w : Cond} (h : w ∈ tables_1_2) : w ∈ lw_tbl := List.mem_append.mpr (Or.inr (show w ∈ tables_1_1 ++ (tables_1_2 ++ (tables_1_3 ++ (tables_1_4 ++ (tables_1_5 ++ (tables_1_6 ++ (tables_1_7 ++ (tables_1_8 ++ tables_1_9))))))) from List.mem_append.mpr (Or.inr (List.mem_append.mpr (Or.inl h)))))
theorem zt_3 {w : Cond} (h : w ∈ tables_1_3) : w ∈ lw_tbl := List.mem_append.mpr (Or.inr (show w ∈ tables_1_1 ++ (tables_1_2 ++ (tables_1_3 ++ (tables_1_4 ++ (tables_1_5 ++ (tables_1_6 ++ (tables_1_7 ++ (tables_1_8 ++ tables_1_9))))))) from List.mem_append.mpr (Or.inr (List.mem_append.mpr (Or.inr (List.mem_append.mpr (Or.inl h)))))))
theorem zt_4 {w : Cond} (h : w ∈ tables_1_4) : w ∈ lw_tbl := List.mem_append.mpr (Or.inr (show w ∈ tables_1_1 ++ (tables_1_2 ++ (tables_1_3 ++ (tables_1_4 ++ (tables_1_5 ++ (tables_1_6 ++ (tables_1_7 ++ (tables_1_8 ++ tables_1_9))))))) from List.mem_append.mpr (Or.inr (List.mem_append.mpr (Or.inr (List.mem_append.mpr (Or.inr (List.mem_append.mpr (Or.inl h)))))))))
theorem zt_5 {w : Cond} (h : w ∈ tables_1_5) : w ∈ lw_tbl := List.mem_append.mpr (Or.inr (show w ∈ tables_1_1 ++ (tables_1_2 ++ (tables_1_3 ++ (tables_1_4 ++ (tables_1_5 ++ (tables_1_6 ++ (tables_1_7 ++ (tables_1_8 ++ tables_1_9))))))) from List.mem_append.mpr (Or.inr (List.mem_append.mpr (Or.inr (List.mem_append.mpr (Or.inr (List.mem_append.mpr (Or.inr (List.mem_append.mpr (Or.inl h)))))))))))
theorem zt_6 {w : Cond} (h : w ∈ tables_1_6) : w ∈ lw_tbl := List.mem_append.mpr (Or.inr (show w ∈ tables_1_1 ++ (tables_1_2 ++ (tables_1_3 ++ (tables_1_4 ++ (tables_1_5 ++ (tables_1_6 ++ (tables_1_7 ++ (tables_1_8 ++ tables_1_9))))))) from List.mem_append.mpr (Or.inr (List.mem_append.mpr (Or.inr (List.mem_append.mpr (Or.inr (List.mem_append.mpr (Or.inr (List.mem_append.mpr (Or.inr (List.mem_append.mpr (Or.inl h)))))))))))))
theorem zt_7 {w : Cond} (h : w ∈ tables_1_7) : w ∈ lw_tbl := List.mem_append.mpr (Or.inr (show w ∈ tables_1_1 ++ (tables_1_2 ++ (tables_1_3 ++ (tables_1_4 ++ (tables_1_5 ++ (tables_1_6 ++ (tables_1_7 ++ (tables_1_8 ++ tables_1_9))))))) from List.mem_append.mpr (Or.inr (List.mem_append.mpr (Or.inr (List.mem_append.mpr (Or.inr (List.mem_append.mpr (Or.inr (List.mem_append.mpr (Or.inr (List.mem_append.mpr (Or.inr (List.mem_append.mpr (Or.inl h)))))))))))))))
theorem zt_8 {w : Cond} (h : w ∈ tables_1_8) : w ∈ lw_tbl := List.mem_append.mpr (Or.inr (show w ∈ tables_1_1 ++ (tables_1_2 ++ (tables_1_3 ++ (tables_1_4 ++ (tables_1_5 ++ (tables_1_6 ++ (tables_1_7 ++ (tables_1_8 ++ tables_1_9))))))) from List.mem_append.mpr (Or.inr (List.mem_append.mpr (Or.inr (List.mem_append.mpr (Or.inr (List.mem_append.mpr (Or.inr (List.mem_append.mpr (Or.inr (List.mem_append.mpr (Or.inr (List.mem_append.mpr (Or.inr (List.mem_append.mpr (Or.inl h)))))))))))))))))
theorem zt_9 {w : Cond} (h : w ∈ tables_1_9) : w ∈ lw_tbl := List.mem_append.mpr (Or.inr (show w ∈ tables_1_1 ++ (tables_1_2 ++ (tables_1_3 ++ (tables_1_4 ++ (tables_1_5 ++ (tables_1_6 ++ (tables_1_7 ++ (tables_1_8 ++ tables_1_9))))))) from List.mem_append.mpr (Or.inr (List.mem_append.mpr (Or.inr (List.mem_append.mpr (Or.inr (List.mem_append.mpr (Or.inr (List.mem_append.mpr (Or.inr (List.mem_append.mpr (Or.inr (List.mem_append.mpr (Or.inr (List.mem_append.mpr (Or.inr (h))))))))))))))))))
theorem k0 : (.code yX9_init cX9_init 1 none : Cond) ∈ zB := zmem (zt_1 (List.mem_of_getElem? (i := 78) rfl)) rfl
theorem k1 : (.methodLink RX9 3 objectInit : Cond) ∈ zB := zmem (zt_1 (List.mem_of_getElem? (i := 79) rfl)) rfl
theorem k2 : (.instanceMethod objectInit : Cond) ∈ zB := zmem (zt_1 (List.mem_of_getElem? (i := 35) rfl)) rfl
theorem k3 : (.code objectInit ⟨#[0xb1]⟩ 1 none : Cond) ∈ zB := zmem (zt_1 (List.mem_of_getElem? (i := 36) rfl)) rfl
theorem k4 : (.fieldLink RX9 9 "DryRiver$Town" "chest" "I" : Cond) ∈ zB := zmem (zt_1 (List.mem_of_getElem? (i := 90) rfl)) rfl
theorem k5 : (.fieldLink RX9 15 "DryRiver$Town" "journey" "I" : Cond) ∈ zB := zmem (zt_1 (List.mem_of_getElem? (i := 93) rfl)) rfl
theorem k6 : (.fieldLink RX9 18 "DryRiver$Town" "truth" "I" : Cond) ∈ zB := zmem (zt_1 (List.mem_of_getElem? (i := 96) rfl)) rfl
theorem k7 : (.fieldLink RX9 21 "DryRiver$Town" "seed" "I" : Cond) ∈ zB := zmem (zt_1 (List.mem_of_getElem? (i := 101) rfl)) rfl
theorem k8 : (.arrayClass .int : Cond) ∈ zB := zmem (zt_1 (List.mem_of_getElem? (i := 73) rfl)) rfl
theorem k9 : (.fieldLink RX9 24 "DryRiver$Town" "belief" "[I" : Cond) ∈ zB := zmem (zt_1 (List.mem_of_getElem? (i := 104) rfl)) rfl
theorem k10 : (.fieldLink RX9 28 "DryRiver$Town" "purse" "[I" : Cond) ∈ zB := zmem (zt_1 (List.mem_of_getElem? (i := 107) rfl)) rfl
theorem k11 : (.fieldLink RX9 31 "DryRiver$Town" "shares" "[I" : Cond) ∈ zB := zmem (zt_1 (List.mem_of_getElem? (i := 109) rfl)) rfl
theorem k12 : (.fieldLink RX9 34 "DryRiver$Town" "till" "[I" : Cond) ∈ zB := zmem (zt_1 (List.mem_of_getElem? (i := 113) rfl)) rfl
theorem k13 : (.arrayClass .boolean : Cond) ∈ zB := zmem (zt_1 (List.mem_of_getElem? (i := 168) rfl)) rfl
theorem k14 : (.fieldLink RX9 37 "DryRiver$Town" "dry" "[Z" : Cond) ∈ zB := zmem (zt_1 (List.mem_of_getElem? (i := 115) rfl)) rfl
theorem k15 : (.fieldLink RX9 41 "DryRiver$Town" "trust" "[I" : Cond) ∈ zB := zmem (zt_1 (List.mem_of_getElem? (i := 118) rfl)) rfl
theorem k16 : (.fieldLink RX9 44 "DryRiver$Town" "cost" "[I" : Cond) ∈ zB := zmem (zt_1 (List.mem_of_getElem? (i := 119) rfl)) rfl
theorem k17 : (.fieldLink RX9 47 "DryRiver$Town" "need" "[I" : Cond) ∈ zB := zmem (zt_1 (List.mem_of_getElem? (i := 121) rfl)) rfl
theorem k18 : (.fieldLink RX9 50 "DryRiver$Town" "gain" "[I" : Cond) ∈ zB := zmem (zt_1 (List.mem_of_getElem? (i := 123) rfl)) rfl
theorem k19 : (.fieldLink RX9 53 "DryRiver$Town" "state" "[I" : Cond) ∈ zB := zmem (zt_1 (List.mem_of_getElem? (i := 125) rfl)) rfl
theorem k20 : (.fieldLink RX9 56 "DryRiver$Town" "morrow" "[I" : Cond) ∈ zB := zmem (zt_1 (List.mem_of_getElem? (i := 128) rfl)) rfl
theorem k21 : (.methodLink RX0 3 objectInit : Cond) ∈ zB := zmem (zt_2 (List.mem_of_getElem? (i := 54) rfl)) rfl
theorem k22 : (.classLink RX0 9 RX9 : Cond) ∈ zB := zmem (zt_2 (List.mem_of_getElem? (i := 55) rfl)) rfl
theorem k23 : (.instantiable RX9 19 : Cond) ∈ zB := zmem (zt_1 (List.mem_of_getElem? (i := 75) rfl)) rfl
theorem k24 : (.initialized RX9 : Cond) ∈ zB := zmem (zt_1 (List.mem_of_getElem? (i := 3) rfl)) rfl
theorem k25 : (.fieldLink RX0 12 "DryRiver$Foresight" "dream" "LDryRiver$Town;" : Cond) ∈ zB := zmem (zt_2 (List.mem_of_getElem? (i := 59) rfl)) rfl
theorem k26 : (.fieldLink RX0 18 "DryRiver$Foresight" "now" "LDryRiver$Town;" : Cond) ∈ zB := zmem (zt_2 (List.mem_of_getElem? (i := 57) rfl)) rfl
theorem k27 : (.fieldLink RX0 21 "DryRiver$Foresight" "law" "LDryRiver$Law;" : Cond) ∈ zB := zmem (zt_2 (List.mem_of_getElem? (i := 58) rfl)) rfl
theorem k28 : (.instanceMethod yX9_init : Cond) ∈ zB := zmem (zt_1 (List.mem_of_getElem? (i := 77) rfl)) rfl
theorem k29 : (.code yX0_init cX0_init 3 none : Cond) ∈ zB := zmem (zt_2 (List.mem_of_getElem? (i := 53) rfl)) rfl
theorem k30 : (.code yX9_copyFrom cX9_copyFrom 2 none : Cond) ∈ zB := zmem (zt_2 (List.mem_of_getElem? (i := 181) rfl)) rfl
theorem k31 : (.fieldLink RX9 59 "DryRiver$Town" "people" "I" : Cond) ∈ zB := zmem (zt_1 (List.mem_of_getElem? (i := 80) rfl)) rfl
theorem k32 : (.fieldLink RX9 62 "DryRiver$Town" "works" "I" : Cond) ∈ zB := zmem (zt_1 (List.mem_of_getElem? (i := 85) rfl)) rfl
theorem k33 : (.fieldLink RX9 65 "DryRiver$Town" "texts" "I" : Cond) ∈ zB := zmem (zt_1 (List.mem_of_getElem? (i := 88) rfl)) rfl
theorem k34 : (.fieldLink RX9 68 "DryRiver$Town" "day" "I" : Cond) ∈ zB := zmem (zt_1 (List.mem_of_getElem? (i := 98) rfl)) rfl
theorem k35 : (.methodLink RX9 71 arraycopyName : Cond) ∈ zB := zmem (zt_2 (List.mem_of_getElem? (i := 182) rfl)) rfl
theorem k36 : (.native arraycopyName : Cond) ∈ zB := zmem (zt_2 (List.mem_of_getElem? (i := 184) rfl)) rfl
theorem k37 : (.static arraycopyName : Cond) ∈ zB := zmem (zt_2 (List.mem_of_getElem? (i := 183) rfl)) rfl
theorem k38 : (.initialized "java/lang/System" : Cond) ∈ zB := zmem (zt_1 (List.mem_of_getElem? (i := 14) rfl)) rfl
theorem k39 : (.code yX9_within cX9_within 2 (some .int) : Cond) ∈ zB := zmem (zt_2 (List.mem_of_getElem? (i := 236) rfl)) rfl
theorem k40 : (.methodLink RX9 125 Lib.Math.min.name : Cond) ∈ zB := zmem (zt_2 (List.mem_of_getElem? (i := 237) rfl)) rfl
theorem k41 : (.static Lib.Math.min.name : Cond) ∈ zB := zmem (zt_2 (List.mem_of_getElem? (i := 238) rfl)) rfl
theorem k42 : (.initialized "java/lang/Math" : Cond) ∈ zB := zmem (zt_1 (List.mem_of_getElem? (i := 13) rfl)) rfl
theorem k43 : (.code Lib.Math.min.name Lib.Math.min.code 2 (some .int) : Cond) ∈ zB := zmem (zt_2 (List.mem_of_getElem? (i := 239) rfl)) rfl
theorem k44 : (.methodLink RX9 111 Lib.Math.max.name : Cond) ∈ zB := zmem (zt_3 (List.mem_of_getElem? (i := 0) rfl)) rfl
theorem k45 : (.static Lib.Math.max.name : Cond) ∈ zB := zmem (zt_2 (List.mem_of_getElem? (i := 223) rfl)) rfl
theorem k46 : (.code Lib.Math.max.name Lib.Math.max.code 2 (some .int) : Cond) ∈ zB := zmem (zt_2 (List.mem_of_getElem? (i := 224) rfl)) rfl
theorem k47 : (.code yX9_raise cX9_raise 3 none : Cond) ∈ zB := zmem (zt_3 (List.mem_of_getElem? (i := 30) rfl)) rfl
theorem k48 : (.methodLink RX9 122 yX9_within : Cond) ∈ zB := zmem (zt_2 (List.mem_of_getElem? (i := 233) rfl)) rfl
theorem k49 : (.instanceMethod yX9_within : Cond) ∈ zB := zmem (zt_2 (List.mem_of_getElem? (i := 235) rfl)) rfl
theorem k50 : (.selects RX9 yX9_within yX9_within : Cond) ∈ zB := zmem (List.mem_of_getElem? (i := 3) (by decide +kernel)) rfl
theorem k51 : (.code yX9_isHere cX9_isHere 2 (some .boolean) : Cond) ∈ zB := zmem (zt_2 (List.mem_of_getElem? (i := 151) rfl)) rfl
theorem k52 : (.code yX9_peopleHere cX9_peopleHere 3 (some .int) : Cond) ∈ zB := zmem (zt_2 (List.mem_of_getElem? (i := 147) rfl)) rfl
theorem k53 : (.methodLink RX9 81 yX9_isHere : Cond) ∈ zB := zmem (zt_2 (List.mem_of_getElem? (i := 148) rfl)) rfl
theorem k54 : (.instanceMethod yX9_isHere : Cond) ∈ zB := zmem (zt_2 (List.mem_of_getElem? (i := 149) rfl)) rfl
theorem k55 : (.selects RX9 yX9_isHere yX9_isHere : Cond) ∈ zB := zmem (zt_2 (List.mem_of_getElem? (i := 150) rfl)) rfl
theorem k56 : (.code yJ6_bitCount_0f7a4 cJ6_bitCount_0f7a4 1 (some .int) : Cond) ∈ zB := zmem (zt_2 (List.mem_of_getElem? (i := 154) rfl)) rfl
theorem k57 : (.constant RJ6 265 (1431655765) : Cond) ∈ zB := zmem (zt_2 (List.mem_of_getElem? (i := 155) rfl)) rfl
theorem k58 : (.constant RJ6 266 (858993459) : Cond) ∈ zB := zmem (zt_2 (List.mem_of_getElem? (i := 156) rfl)) rfl
theorem k59 : (.constant RJ6 267 (252645135) : Cond) ∈ zB := zmem (zt_2 (List.mem_of_getElem? (i := 157) rfl)) rfl
theorem k60 : (.code yX9_believed cX9_believed 3 (some .int) : Cond) ∈ zB := zmem (zt_2 (List.mem_of_getElem? (i := 161) rfl)) rfl
theorem k61 : (.code yX9_meanBelief cX9_meanBelief 2 (some .int) : Cond) ∈ zB := zmem (zt_2 (List.mem_of_getElem? (i := 143) rfl)) rfl
theorem k62 : (.methodLink RX9 85 yX9_peopleHere : Cond) ∈ zB := zmem (zt_2 (List.mem_of_getElem? (i := 144) rfl)) rfl
theorem k63 : (.instanceMethod yX9_peopleHere : Cond) ∈ zB := zmem (zt_2 (List.mem_of_getElem? (i := 145) rfl)) rfl
theorem k64 : (.selects RX9 yX9_peopleHere yX9_peopleHere : Cond) ∈ zB := zmem (zt_2 (List.mem_of_getElem? (i := 146) rfl)) rfl
theorem k65 : (.methodLink RX9 89 yJ6_bitCount_0f7a4 : Cond) ∈ zB := zmem (zt_2 (List.mem_of_getElem? (i := 152) rfl)) rfl
theorem k66 : (.static yJ6_bitCount_0f7a4 : Cond) ∈ zB := zmem (zt_2 (List.mem_of_getElem? (i := 153) rfl)) rfl
theorem k67 : (.initialized RJ6 : Cond) ∈ zB := zmem (zt_1 (List.mem_of_getElem? (i := 25) rfl)) rfl
theorem k68 : (.methodLink RX9 95 yX9_believed : Cond) ∈ zB := zmem (zt_2 (List.mem_of_getElem? (i := 158) rfl)) rfl
theorem k69 : (.instanceMethod yX9_believed : Cond) ∈ zB := zmem (zt_2 (List.mem_of_getElem? (i := 159) rfl)) rfl
theorem k70 : (.selects RX9 yX9_believed yX9_believed : Cond) ∈ zB := zmem (zt_2 (List.mem_of_getElem? (i := 160) rfl)) rfl
theorem k71 : (.code yX9_worksIn cX9_worksIn 4 (some .int) : Cond) ∈ zB := zmem (zt_2 (List.mem_of_getElem? (i := 201) rfl)) rfl
theorem k72 : (.code yX1_look cX1_look 4 none : Cond) ∈ zB := zmem (zt_2 (List.mem_of_getElem? (i := 205) rfl)) rfl
theorem k73 : (.fieldLink RX1 28 "DryRiver$Law" "mean" "I" : Cond) ∈ zB := zmem (zt_1 (List.mem_of_getElem? (i := 179) rfl)) rfl
theorem k74 : (.fieldLink RX1 31 "DryRiver$Law" "standing" "I" : Cond) ∈ zB := zmem (zt_1 (List.mem_of_getElem? (i := 180) rfl)) rfl
theorem k75 : (.fieldLink RX1 34 "DryRiver$Law" "day" "I" : Cond) ∈ zB := zmem (zt_1 (List.mem_of_getElem? (i := 181) rfl)) rfl
theorem k76 : (.methodLink RX9 98 yX9_meanBelief : Cond) ∈ zB := zmem (zt_2 (List.mem_of_getElem? (i := 140) rfl)) rfl
theorem k77 : (.instanceMethod yX9_meanBelief : Cond) ∈ zB := zmem (zt_2 (List.mem_of_getElem? (i := 141) rfl)) rfl
theorem k78 : (.selects RX9 yX9_meanBelief yX9_meanBelief : Cond) ∈ zB := zmem (zt_2 (List.mem_of_getElem? (i := 142) rfl)) rfl
theorem k79 : (.methodLink RX9 143 yX9_worksIn : Cond) ∈ zB := zmem (zt_2 (List.mem_of_getElem? (i := 198) rfl)) rfl
theorem k80 : (.instanceMethod yX9_worksIn : Cond) ∈ zB := zmem (zt_2 (List.mem_of_getElem? (i := 199) rfl)) rfl
theorem k81 : (.selects RX9 yX9_worksIn yX9_worksIn : Cond) ∈ zB := zmem (zt_2 (List.mem_of_getElem? (i := 200) rfl)) rfl
theorem k82 : (.methodLink RX9 146 yX1_look : Cond) ∈ zB := zmem (zt_2 (List.mem_of_getElem? (i := 202) rfl)) rfl
theorem k83 : (.instanceMethod yX1_look : Cond) ∈ zB := zmem (zt_2 (List.mem_of_getElem? (i := 203) rfl)) rfl
theorem k84 : (.selects RX1 yX1_look yX1_look : Cond) ∈ zB := zmem (zt_2 (List.mem_of_getElem? (i := 204) rfl)) rfl
theorem k85 : (.initialized RX1 : Cond) ∈ zB := zmem (zt_1 (List.mem_of_getElem? (i := 4) rfl)) rfl
theorem k86 : (.code yX9_showTo cX9_showTo 2 none : Cond) ∈ zB := zmem (zt_2 (List.mem_of_getElem? (i := 197) rfl)) rfl
theorem k87 : (.code yX9_trustOf cX9_trustOf 3 (some .int) : Cond) ∈ zB := zmem (zt_2 (List.mem_of_getElem? (i := 217) rfl)) rfl
theorem k88 : (.code yX9_pullOf cX9_pullOf 4 (some .int) : Cond) ∈ zB := zmem (zt_2 (List.mem_of_getElem? (i := 213) rfl)) rfl
theorem k89 : (.methodLink RX9 101 yX9_trustOf : Cond) ∈ zB := zmem (zt_2 (List.mem_of_getElem? (i := 214) rfl)) rfl
theorem k90 : (.instanceMethod yX9_trustOf : Cond) ∈ zB := zmem (zt_2 (List.mem_of_getElem? (i := 215) rfl)) rfl
theorem k91 : (.selects RX9 yX9_trustOf yX9_trustOf : Cond) ∈ zB := zmem (zt_2 (List.mem_of_getElem? (i := 216) rfl)) rfl
theorem k92 : (.code yX9_tiesOf cX9_tiesOf 4 (some .int) : Cond) ∈ zB := zmem (zt_2 (List.mem_of_getElem? (i := 232) rfl)) rfl
theorem k93 : (.code yX1_partOf cX1_partOf 4 (some .int) : Cond) ∈ zB := zmem (zt_2 (List.mem_of_getElem? (i := 228) rfl)) rfl
theorem k94 : (.fieldLink RX1 56 "DryRiver$Town" "belief" "[I" : Cond) ∈ zB := zmem (zt_1 (List.mem_of_getElem? (i := 106) rfl)) rfl
theorem k95 : (.methodLink RX1 59 yX9_tiesOf : Cond) ∈ zB := zmem (zt_2 (List.mem_of_getElem? (i := 229) rfl)) rfl
theorem k96 : (.instanceMethod yX9_tiesOf : Cond) ∈ zB := zmem (zt_2 (List.mem_of_getElem? (i := 230) rfl)) rfl
theorem k97 : (.selects RX9 yX9_tiesOf yX9_tiesOf : Cond) ∈ zB := zmem (zt_2 (List.mem_of_getElem? (i := 231) rfl)) rfl
theorem k98 : (.fieldLink RX1 15 "DryRiver$Law" "lines" "I" : Cond) ∈ zB := zmem (zt_1 (List.mem_of_getElem? (i := 177) rfl)) rfl
theorem k99 : (.fieldLink RX1 37 "DryRiver$Town" "dry" "[Z" : Cond) ∈ zB := zmem (zt_1 (List.mem_of_getElem? (i := 116) rfl)) rfl
theorem k100 : (.fieldLink RX1 19 "DryRiver$Law" "size" "I" : Cond) ∈ zB := zmem (zt_1 (List.mem_of_getElem? (i := 176) rfl)) rfl
theorem k101 : (.fieldLink RX1 9 "DryRiver$Law" "cells" "[I" : Cond) ∈ zB := zmem (zt_1 (List.mem_of_getElem? (i := 175) rfl)) rfl
theorem k102 : (.fieldLink RX1 43 "DryRiver$Town" "shares" "[I" : Cond) ∈ zB := zmem (zt_1 (List.mem_of_getElem? (i := 112) rfl)) rfl
theorem k103 : (.methodLink RX1 46 Lib.Math.max.name : Cond) ∈ zB := zmem (zt_2 (List.mem_of_getElem? (i := 222) rfl)) rfl
theorem k104 : (.methodLink RX1 52 yX1_partOf : Cond) ∈ zB := zmem (zt_2 (List.mem_of_getElem? (i := 225) rfl)) rfl
theorem k105 : (.instanceMethod yX1_partOf : Cond) ∈ zB := zmem (zt_2 (List.mem_of_getElem? (i := 227) rfl)) rfl
theorem k106 : (.selects RX1 yX1_partOf yX1_partOf : Cond) ∈ zB := zmem (List.mem_of_getElem? (i := 2) (by decide +kernel)) rfl
theorem k107 : (.code yX1_turnsOf cX1_turnsOf 10 (some .int) : Cond) ∈ zB := zmem (zt_2 (List.mem_of_getElem? (i := 221) rfl)) rfl
theorem k108 : (.methodLink RX9 155 yX9_pullOf : Cond) ∈ zB := zmem (zt_2 (List.mem_of_getElem? (i := 210) rfl)) rfl
theorem k109 : (.instanceMethod yX9_pullOf : Cond) ∈ zB := zmem (zt_2 (List.mem_of_getElem? (i := 211) rfl)) rfl
theorem k110 : (.selects RX9 yX9_pullOf yX9_pullOf : Cond) ∈ zB := zmem (zt_2 (List.mem_of_getElem? (i := 212) rfl)) rfl
theorem k111 : (.methodLink RX9 151 yX1_turnsOf : Cond) ∈ zB := zmem (zt_2 (List.mem_of_getElem? (i := 218) rfl)) rfl
theorem k112 : (.instanceMethod yX1_turnsOf : Cond) ∈ zB := zmem (zt_2 (List.mem_of_getElem? (i := 219) rfl)) rfl
theorem k113 : (.selects RX1 yX1_turnsOf yX1_turnsOf : Cond) ∈ zB := zmem (zt_2 (List.mem_of_getElem? (i := 220) rfl)) rfl
theorem k114 : (.code yX9_turnBeliefs cX9_turnBeliefs 3 none : Cond) ∈ zB := zmem (zt_2 (List.mem_of_getElem? (i := 209) rfl)) rfl
theorem k115 : (.code yX3_add cX3_add 6 none : Cond) ∈ zB := zmem (zt_3 (List.mem_of_getElem? (i := 12) rfl)) rfl
theorem k116 : (.fieldLink RX3 25 "DryRiver$Log" "next" "I" : Cond) ∈ zB := zmem (zt_1 (List.mem_of_getElem? (i := 204) rfl)) rfl
theorem k117 : (.fieldLink RX3 9 "DryRiver$Log" "rows" "[I" : Cond) ∈ zB := zmem (zt_1 (List.mem_of_getElem? (i := 201) rfl)) rfl
theorem k118 : (.fieldLink RX3 21 "DryRiver$Log" "size" "I" : Cond) ∈ zB := zmem (zt_1 (List.mem_of_getElem? (i := 202) rfl)) rfl
theorem k119 : (.methodLink RX3 28 Lib.Math.min.name : Cond) ∈ zB := zmem (zt_3 (List.mem_of_getElem? (i := 13) rfl)) rfl
theorem k120 : (.methodLink RX9 174 yX3_add : Cond) ∈ zB := zmem (zt_3 (List.mem_of_getElem? (i := 9) rfl)) rfl
theorem k121 : (.instanceMethod yX3_add : Cond) ∈ zB := zmem (zt_3 (List.mem_of_getElem? (i := 10) rfl)) rfl
theorem k122 : (.selects RX3 yX3_add yX3_add : Cond) ∈ zB := zmem (zt_3 (List.mem_of_getElem? (i := 11) rfl)) rfl
theorem k123 : (.initialized RX3 : Cond) ∈ zB := zmem (zt_1 (List.mem_of_getElem? (i := 5) rfl)) rfl
theorem k124 : (.code yX9_write cX9_write 4 none : Cond) ∈ zB := zmem (zt_3 (List.mem_of_getElem? (i := 8) rfl)) rfl
theorem k125 : (.methodLink RX9 158 yX9_write : Cond) ∈ zB := zmem (zt_3 (List.mem_of_getElem? (i := 5) rfl)) rfl
theorem k126 : (.instanceMethod yX9_write : Cond) ∈ zB := zmem (zt_3 (List.mem_of_getElem? (i := 7) rfl)) rfl
theorem k127 : (.selects RX9 yX9_write yX9_write : Cond) ∈ zB := zmem (List.mem_of_getElem? (i := 5) (by decide +kernel)) rfl
theorem k128 : (.code yX9_keepWorks cX9_keepWorks 5 (some .int) : Cond) ∈ zB := zmem (zt_3 (List.mem_of_getElem? (i := 4) rfl)) rfl
theorem k129 : (.code yX9_draw cX9_draw 1 (some .int) : Cond) ∈ zB := zmem (zt_3 (List.mem_of_getElem? (i := 21) rfl)) rfl
theorem k130 : (.constant RX9 169 (1103515245) : Cond) ∈ zB := zmem (zt_3 (List.mem_of_getElem? (i := 22) rfl)) rfl
theorem k131 : (.methodLink RX9 170 yX9_raise : Cond) ∈ zB := zmem (zt_3 (List.mem_of_getElem? (i := 27) rfl)) rfl
theorem k132 : (.instanceMethod yX9_raise : Cond) ∈ zB := zmem (zt_3 (List.mem_of_getElem? (i := 28) rfl)) rfl
theorem k133 : (.selects RX9 yX9_raise yX9_raise : Cond) ∈ zB := zmem (zt_3 (List.mem_of_getElem? (i := 29) rfl)) rfl
theorem k134 : (.code yX9_spread cX9_spread 4 none : Cond) ∈ zB := zmem (zt_3 (List.mem_of_getElem? (i := 26) rfl)) rfl
theorem k135 : (.methodLink RX9 162 yX9_draw : Cond) ∈ zB := zmem (zt_3 (List.mem_of_getElem? (i := 18) rfl)) rfl
theorem k136 : (.instanceMethod yX9_draw : Cond) ∈ zB := zmem (zt_3 (List.mem_of_getElem? (i := 20) rfl)) rfl
theorem k137 : (.selects RX9 yX9_draw yX9_draw : Cond) ∈ zB := zmem (List.mem_of_getElem? (i := 7) (by decide +kernel)) rfl
theorem k138 : (.methodLink RX9 165 yX9_spread : Cond) ∈ zB := zmem (zt_3 (List.mem_of_getElem? (i := 23) rfl)) rfl
theorem k139 : (.instanceMethod yX9_spread : Cond) ∈ zB := zmem (zt_3 (List.mem_of_getElem? (i := 25) rfl)) rfl
theorem k140 : (.selects RX9 yX9_spread yX9_spread : Cond) ∈ zB := zmem (List.mem_of_getElem? (i := 8) (by decide +kernel)) rfl
theorem k141 : (.code yX9_comeBack cX9_comeBack 5 none : Cond) ∈ zB := zmem (zt_3 (List.mem_of_getElem? (i := 17) rfl)) rfl
theorem k142 : (.methodLink RX9 128 yX9_showTo : Cond) ∈ zB := zmem (zt_2 (List.mem_of_getElem? (i := 194) rfl)) rfl
theorem k143 : (.instanceMethod yX9_showTo : Cond) ∈ zB := zmem (zt_2 (List.mem_of_getElem? (i := 196) rfl)) rfl
theorem k144 : (.selects RX9 yX9_showTo yX9_showTo : Cond) ∈ zB := zmem (List.mem_of_getElem? (i := 0) (by decide +kernel)) rfl
theorem k145 : (.methodLink RX9 132 yX9_turnBeliefs : Cond) ∈ zB := zmem (zt_2 (List.mem_of_getElem? (i := 206) rfl)) rfl
theorem k146 : (.instanceMethod yX9_turnBeliefs : Cond) ∈ zB := zmem (zt_2 (List.mem_of_getElem? (i := 208) rfl)) rfl
theorem k147 : (.selects RX9 yX9_turnBeliefs yX9_turnBeliefs : Cond) ∈ zB := zmem (List.mem_of_getElem? (i := 1) (by decide +kernel)) rfl
theorem k148 : (.methodLink RX9 135 yX9_keepWorks : Cond) ∈ zB := zmem (zt_3 (List.mem_of_getElem? (i := 1) rfl)) rfl
theorem k149 : (.instanceMethod yX9_keepWorks : Cond) ∈ zB := zmem (zt_3 (List.mem_of_getElem? (i := 3) rfl)) rfl
theorem k150 : (.selects RX9 yX9_keepWorks yX9_keepWorks : Cond) ∈ zB := zmem (List.mem_of_getElem? (i := 4) (by decide +kernel)) rfl
theorem k151 : (.methodLink RX9 139 yX9_comeBack : Cond) ∈ zB := zmem (zt_3 (List.mem_of_getElem? (i := 14) rfl)) rfl
theorem k152 : (.instanceMethod yX9_comeBack : Cond) ∈ zB := zmem (zt_3 (List.mem_of_getElem? (i := 16) rfl)) rfl
theorem k153 : (.selects RX9 yX9_comeBack yX9_comeBack : Cond) ∈ zB := zmem (List.mem_of_getElem? (i := 6) (by decide +kernel)) rfl
theorem k154 : (.code yX9_passDay cX9_passDay 5 (some .int) : Cond) ∈ zB := zmem (zt_2 (List.mem_of_getElem? (i := 193) rfl)) rfl
theorem k155 : (.fieldLink RX0 29 "DryRiver$Town" "people" "I" : Cond) ∈ zB := zmem (zt_1 (List.mem_of_getElem? (i := 82) rfl)) rfl
theorem k156 : (.methodLink RX0 25 yX9_copyFrom : Cond) ∈ zB := zmem (zt_2 (List.mem_of_getElem? (i := 178) rfl)) rfl
theorem k157 : (.instanceMethod yX9_copyFrom : Cond) ∈ zB := zmem (zt_2 (List.mem_of_getElem? (i := 179) rfl)) rfl
theorem k158 : (.selects RX9 yX9_copyFrom yX9_copyFrom : Cond) ∈ zB := zmem (zt_2 (List.mem_of_getElem? (i := 180) rfl)) rfl
theorem k159 : (.methodLink RX0 33 yX9_raise : Cond) ∈ zB := zmem (zt_5 (List.mem_of_getElem? (i := 170) rfl)) rfl
theorem k160 : (.methodLink RX0 37 yX9_passDay : Cond) ∈ zB := zmem (zt_2 (List.mem_of_getElem? (i := 190) rfl)) rfl
theorem k161 : (.instanceMethod yX9_passDay : Cond) ∈ zB := zmem (zt_2 (List.mem_of_getElem? (i := 191) rfl)) rfl
theorem k162 : (.selects RX9 yX9_passDay yX9_passDay : Cond) ∈ zB := zmem (zt_2 (List.mem_of_getElem? (i := 192) rfl)) rfl
theorem k163 : (.methodLink RX0 41 yX9_believed : Cond) ∈ zB := zmem (zt_5 (List.mem_of_getElem? (i := 171) rfl)) rfl
theorem k164 : (.code yX0_lookAhead cX0_lookAhead 5 (some .int) : Cond) ∈ zB := zmem (zt_5 (List.mem_of_getElem? (i := 169) rfl)) rfl
theorem k165 : (.methodLink RX0 45 yX9_isHere : Cond) ∈ zB := zmem (zt_5 (List.mem_of_getElem? (i := 197) rfl)) rfl
theorem k166 : (.methodLink RX0 49 yX0_lookAhead : Cond) ∈ zB := zmem (zt_5 (List.mem_of_getElem? (i := 198) rfl)) rfl
theorem k167 : (.instanceMethod yX0_lookAhead : Cond) ∈ zB := zmem (zt_5 (List.mem_of_getElem? (i := 167) rfl)) rfl
theorem k168 : (.selects RX0 yX0_lookAhead yX0_lookAhead : Cond) ∈ zB := zmem (zt_5 (List.mem_of_getElem? (i := 168) rfl)) rfl
theorem k169 : (.initialized RX0 : Cond) ∈ zB := zmem (zt_1 (List.mem_of_getElem? (i := 10) rfl)) rfl
theorem k170 : (.code yX0_strongest cX0_strongest 6 (some .int) : Cond) ∈ zB := zmem (zt_5 (List.mem_of_getElem? (i := 196) rfl)) rfl
theorem k171 : (.methodLink RX0 53 yX9_peopleHere : Cond) ∈ zB := zmem (zt_5 (List.mem_of_getElem? (i := 210) rfl)) rfl
theorem k172 : (.methodLink RX0 56 yJ6_bitCount_0f7a4 : Cond) ∈ zB := zmem (zt_5 (List.mem_of_getElem? (i := 211) rfl)) rfl
theorem k173 : (.code yX0_fewestTold cX0_fewestTold 6 (some .int) : Cond) ∈ zB := zmem (zt_5 (List.mem_of_getElem? (i := 209) rfl)) rfl
theorem k174 : (.code yX0_firstBelieved cX0_firstBelieved 3 (some .int) : Cond) ∈ zB := zmem (zt_5 (List.mem_of_getElem? (i := 222) rfl)) rfl
theorem k175 : (.code yX9_doubters cX9_doubters 3 (some .int) : Cond) ∈ zB := zmem (zt_2 (List.mem_of_getElem? (i := 169) rfl)) rfl
theorem k176 : (.code yX9_isRuined cX9_isRuined 2 (some .boolean) : Cond) ∈ zB := zmem (zt_2 (List.mem_of_getElem? (i := 188) rfl)) rfl
theorem k177 : (.methodLink RX9 108 yX9_doubters : Cond) ∈ zB := zmem (zt_2 (List.mem_of_getElem? (i := 189) rfl)) rfl
theorem k178 : (.instanceMethod yX9_doubters : Cond) ∈ zB := zmem (zt_2 (List.mem_of_getElem? (i := 167) rfl)) rfl
theorem k179 : (.selects RX9 yX9_doubters yX9_doubters : Cond) ∈ zB := zmem (zt_2 (List.mem_of_getElem? (i := 168) rfl)) rfl
theorem k180 : (.methodLink RX0 62 yX9_isRuined : Cond) ∈ zB := zmem (zt_2 (List.mem_of_getElem? (i := 185) rfl)) rfl
theorem k181 : (.instanceMethod yX9_isRuined : Cond) ∈ zB := zmem (zt_2 (List.mem_of_getElem? (i := 186) rfl)) rfl
theorem k182 : (.selects RX9 yX9_isRuined yX9_isRuined : Cond) ∈ zB := zmem (zt_2 (List.mem_of_getElem? (i := 187) rfl)) rfl
theorem k183 : (.code yX0_firstRuin cX0_firstRuin 2 (some .int) : Cond) ∈ zB := zmem (zt_2 (List.mem_of_getElem? (i := 177) rfl)) rfl
theorem k184 : (.fieldLink RX0 66 "DryRiver$Town" "state" "[I" : Cond) ∈ zB := zmem (zt_1 (List.mem_of_getElem? (i := 126) rfl)) rfl
theorem k185 : (.code yX0_firstFallen cX0_firstFallen 3 (some .int) : Cond) ∈ zB := zmem (zt_6 (List.mem_of_getElem? (i := 134) rfl)) rfl
theorem k186 : (.code yX9_sharePrice cX9_sharePrice 2 (some .int) : Cond) ∈ zB := zmem (zt_2 (List.mem_of_getElem? (i := 139) rfl)) rfl
theorem k187 : (.methodLink RX0 70 yX9_sharePrice : Cond) ∈ zB := zmem (zt_5 (List.mem_of_getElem? (i := 234) rfl)) rfl
theorem k188 : (.instanceMethod yX9_sharePrice : Cond) ∈ zB := zmem (zt_2 (List.mem_of_getElem? (i := 137) rfl)) rfl
theorem k189 : (.selects RX9 yX9_sharePrice yX9_sharePrice : Cond) ∈ zB := zmem (zt_2 (List.mem_of_getElem? (i := 138) rfl)) rfl
theorem k190 : (.code yX0_greatestPrice cX0_greatestPrice 6 (some .int) : Cond) ∈ zB := zmem (zt_5 (List.mem_of_getElem? (i := 233) rfl)) rfl
theorem k191 : (.fieldLink RX0 73 "DryRiver$Town" "seed" "I" : Cond) ∈ zB := zmem (zt_1 (List.mem_of_getElem? (i := 102) rfl)) rfl
theorem k192 : (.code yX0_tryOut cX0_tryOut 4 (some .int) : Cond) ∈ zB := zmem (zt_6 (List.mem_of_getElem? (i := 145) rfl)) rfl
theorem k193 : (.methodLink RX0 76 yX0_tryOut : Cond) ∈ zB := zmem (zt_6 (List.mem_of_getElem? (i := 157) rfl)) rfl
theorem k194 : (.instanceMethod yX0_tryOut : Cond) ∈ zB := zmem (zt_6 (List.mem_of_getElem? (i := 143) rfl)) rfl
theorem k195 : (.selects RX0 yX0_tryOut yX0_tryOut : Cond) ∈ zB := zmem (zt_6 (List.mem_of_getElem? (i := 144) rfl)) rfl
theorem k196 : (.code yX0_utmostOfSeeds cX0_utmostOfSeeds 6 (some .int) : Cond) ∈ zB := zmem (zt_6 (List.mem_of_getElem? (i := 156) rfl)) rfl
theorem k197 : (.code yX1_init cX1_init 1 none : Cond) ∈ zB := zmem (zt_1 (List.mem_of_getElem? (i := 173) rfl)) rfl
theorem k198 : (.methodLink RX1 3 objectInit : Cond) ∈ zB := zmem (zt_1 (List.mem_of_getElem? (i := 174) rfl)) rfl
theorem k199 : (.code yX1_clear cX1_clear 1 none : Cond) ∈ zB := zmem (zt_4 (List.mem_of_getElem? (i := 218) rfl)) rfl
theorem k200 : (.code yX1_copyFrom cX1_copyFrom 2 none : Cond) ∈ zB := zmem (zt_3 (List.mem_of_getElem? (i := 127) rfl)) rfl
theorem k201 : (.methodLink RX1 22 arraycopyName : Cond) ∈ zB := zmem (zt_3 (List.mem_of_getElem? (i := 128) rfl)) rfl
theorem k202 : (.code yX1_put cX1_put 3 (some .int) : Cond) ∈ zB := zmem (zt_4 (List.mem_of_getElem? (i := 42) rfl)) rfl
theorem k203 : (.code yX1_aim cX1_aim 2 none : Cond) ∈ zB := zmem (zt_4 (List.mem_of_getElem? (i := 58) rfl)) rfl
theorem k204 : (.code yX7_init cX7_init 2 none : Cond) ∈ zB := zmem (zt_1 (List.mem_of_getElem? (i := 219) rfl)) rfl
theorem k205 : (.methodLink RX7 3 objectInit : Cond) ∈ zB := zmem (zt_1 (List.mem_of_getElem? (i := 220) rfl)) rfl
theorem k206 : (.fieldLink RX7 9 "DryRiver$Text" "in" "LDryRiver$Tape;" : Cond) ∈ zB := zmem (zt_1 (List.mem_of_getElem? (i := 225) rfl)) rfl
theorem k207 : (.code yX2_init cX2_init 2 none : Cond) ∈ zB := zmem (zt_1 (List.mem_of_getElem? (i := 239) rfl)) rfl
theorem k208 : (.classLink RX2 9 RX1 : Cond) ∈ zB := zmem (zt_2 (List.mem_of_getElem? (i := 1) rfl)) rfl
theorem k209 : (.instantiable RX1 6 : Cond) ∈ zB := zmem (zt_1 (List.mem_of_getElem? (i := 170) rfl)) rfl
theorem k210 : (.fieldLink RX2 14 "DryRiver$LawText" "draft" "LDryRiver$Law;" : Cond) ∈ zB := zmem (zt_2 (List.mem_of_getElem? (i := 3) rfl)) rfl
theorem k211 : (.methodLink RX2 3 yX7_init : Cond) ∈ zB := zmem (zt_2 (List.mem_of_getElem? (i := 0) rfl)) rfl
theorem k212 : (.instanceMethod yX7_init : Cond) ∈ zB := zmem (zt_1 (List.mem_of_getElem? (i := 218) rfl)) rfl
theorem k213 : (.initialized RX7 : Cond) ∈ zB := zmem (zt_1 (List.mem_of_getElem? (i := 6) rfl)) rfl
theorem k214 : (.instanceMethod yX1_init : Cond) ∈ zB := zmem (zt_1 (List.mem_of_getElem? (i := 172) rfl)) rfl
theorem k215 : (.code yJ0_coder_7d493 cJ0_coder_7d493 1 (some .byte) : Cond) ∈ zB := zmem (zt_3 (List.mem_of_getElem? (i := 199) rfl)) rfl
theorem k216 : (.fieldLink RJ0 38 "java/lang/String" "COMPACT_STRINGS" "Z" : Cond) ∈ zB := zmem (zt_3 (List.mem_of_getElem? (i := 200) rfl)) rfl
theorem k217 : (.fieldLink RJ0 15 "java/lang/String" "coder" "B" : Cond) ∈ zB := zmem (zt_9 (List.mem_of_getElem? (i := 53) rfl)) rfl
theorem k218 : (.code yJ0_length_8abf5 cJ0_length_8abf5 1 (some .int) : Cond) ∈ zB := zmem (zt_3 (List.mem_of_getElem? (i := 195) rfl)) rfl
theorem k219 : (.fieldLink RJ0 9 "java/lang/String" "value" "[B" : Cond) ∈ zB := zmem (zt_9 (List.mem_of_getElem? (i := 52) rfl)) rfl
theorem k220 : (.methodLink RJ0 335 yJ0_coder_7d493 : Cond) ∈ zB := zmem (zt_3 (List.mem_of_getElem? (i := 196) rfl)) rfl
theorem k221 : (.instanceMethod yJ0_coder_7d493 : Cond) ∈ zB := zmem (zt_3 (List.mem_of_getElem? (i := 197) rfl)) rfl
theorem k222 : (.selects RJ0 yJ0_coder_7d493 yJ0_coder_7d493 : Cond) ∈ zB := zmem (zt_3 (List.mem_of_getElem? (i := 198) rfl)) rfl
theorem k223 : (.initialized RJ0 : Cond) ∈ zB := zmem (zt_1 (List.mem_of_getElem? (i := 15) rfl)) rfl
theorem k224 : (.code yJ0_isLatin1_aae02 cJ0_isLatin1_aae02 1 (some .boolean) : Cond) ∈ zB := zmem (zt_3 (List.mem_of_getElem? (i := 209) rfl)) rfl
theorem k225 : (.code yJ3_checkIndex_8e157 cJ3_checkIndex_8e157 3 (some .int) : Cond) ∈ zB := zmem (zt_3 (List.mem_of_getElem? (i := 220) rfl)) rfl
theorem k226 : (.code yJ0_checkIndex_df160 cJ0_checkIndex_df160 2 none : Cond) ∈ zB := zmem (zt_3 (List.mem_of_getElem? (i := 215) rfl)) rfl
theorem k227 : (.fieldLink RJ0 1053 "jdk/internal/util/Preconditions" "SIOOBE_FORMATTER" "Ljava/util/function/BiFunction;" : Cond) ∈ zB := zmem (zt_3 (List.mem_of_getElem? (i := 216) rfl)) rfl
theorem k228 : (.methodLink RJ0 1059 yJ3_checkIndex_8e157 : Cond) ∈ zB := zmem (zt_3 (List.mem_of_getElem? (i := 218) rfl)) rfl
theorem k229 : (.static yJ3_checkIndex_8e157 : Cond) ∈ zB := zmem (zt_3 (List.mem_of_getElem? (i := 219) rfl)) rfl
theorem k230 : (.initialized RJ3 : Cond) ∈ zB := zmem (zt_1 (List.mem_of_getElem? (i := 17) rfl)) rfl
theorem k231 : (.code yJ1_charAt_3b067 cJ1_charAt_3b067 2 (some .char) : Cond) ∈ zB := zmem (zt_3 (List.mem_of_getElem? (i := 212) rfl)) rfl
theorem k232 : (.methodLink RJ1 9 yJ0_checkIndex_df160 : Cond) ∈ zB := zmem (zt_3 (List.mem_of_getElem? (i := 213) rfl)) rfl
theorem k233 : (.static yJ0_checkIndex_df160 : Cond) ∈ zB := zmem (zt_3 (List.mem_of_getElem? (i := 214) rfl)) rfl
theorem k234 : (.code yJ2_length_9d52b cJ2_length_9d52b 1 (some .int) : Cond) ∈ zB := zmem (zt_3 (List.mem_of_getElem? (i := 229) rfl)) rfl
theorem k235 : (.code yJ2_checkIndex_2214a cJ2_checkIndex_2214a 2 none : Cond) ∈ zB := zmem (zt_3 (List.mem_of_getElem? (i := 226) rfl)) rfl
theorem k236 : (.methodLink RJ2 48 yJ2_length_9d52b : Cond) ∈ zB := zmem (zt_3 (List.mem_of_getElem? (i := 227) rfl)) rfl
theorem k237 : (.static yJ2_length_9d52b : Cond) ∈ zB := zmem (zt_3 (List.mem_of_getElem? (i := 228) rfl)) rfl
theorem k238 : (.initialized RJ2 : Cond) ∈ zB := zmem (zt_1 (List.mem_of_getElem? (i := 18) rfl)) rfl
theorem k239 : (.methodLink RJ2 414 yJ0_checkIndex_df160 : Cond) ∈ zB := zmem (zt_3 (List.mem_of_getElem? (i := 230) rfl)) rfl
theorem k240 : (.code yJ2_getChar_3b067 cJ2_getChar_3b067 2 (some .char) : Cond) ∈ zB := zmem (zt_3 (List.mem_of_getElem? (i := 233) rfl)) rfl
theorem k241 : (.fieldLink RJ2 44 "java/lang/StringUTF16" "$assertionsDisabled" "Z" : Cond) ∈ zB := zmem (zt_3 (List.mem_of_getElem? (i := 234) rfl)) rfl
theorem k242 : (.fieldLink RJ2 59 "java/lang/StringUTF16" "HI_BYTE_SHIFT" "I" : Cond) ∈ zB := zmem (zt_3 (List.mem_of_getElem? (i := 236) rfl)) rfl
theorem k243 : (.fieldLink RJ2 63 "java/lang/StringUTF16" "LO_BYTE_SHIFT" "I" : Cond) ∈ zB := zmem (zt_3 (List.mem_of_getElem? (i := 238) rfl)) rfl
theorem k244 : (.code yJ2_charAt_3b067 cJ2_charAt_3b067 2 (some .char) : Cond) ∈ zB := zmem (zt_3 (List.mem_of_getElem? (i := 223) rfl)) rfl
theorem k245 : (.methodLink RJ2 67 yJ2_checkIndex_2214a : Cond) ∈ zB := zmem (zt_3 (List.mem_of_getElem? (i := 224) rfl)) rfl
theorem k246 : (.static yJ2_checkIndex_2214a : Cond) ∈ zB := zmem (zt_3 (List.mem_of_getElem? (i := 225) rfl)) rfl
theorem k247 : (.methodLink RJ2 71 yJ2_getChar_3b067 : Cond) ∈ zB := zmem (zt_3 (List.mem_of_getElem? (i := 231) rfl)) rfl
theorem k248 : (.static yJ2_getChar_3b067 : Cond) ∈ zB := zmem (zt_3 (List.mem_of_getElem? (i := 232) rfl)) rfl
theorem k249 : (.methodLink RJ0 492 yJ0_isLatin1_aae02 : Cond) ∈ zB := zmem (zt_3 (List.mem_of_getElem? (i := 206) rfl)) rfl
theorem k250 : (.instanceMethod yJ0_isLatin1_aae02 : Cond) ∈ zB := zmem (zt_3 (List.mem_of_getElem? (i := 207) rfl)) rfl
theorem k251 : (.selects RJ0 yJ0_isLatin1_aae02 yJ0_isLatin1_aae02 : Cond) ∈ zB := zmem (zt_3 (List.mem_of_getElem? (i := 208) rfl)) rfl
theorem k252 : (.methodLink RJ0 495 yJ1_charAt_3b067 : Cond) ∈ zB := zmem (zt_3 (List.mem_of_getElem? (i := 210) rfl)) rfl
theorem k253 : (.static yJ1_charAt_3b067 : Cond) ∈ zB := zmem (zt_3 (List.mem_of_getElem? (i := 211) rfl)) rfl
theorem k254 : (.initialized RJ1 : Cond) ∈ zB := zmem (zt_1 (List.mem_of_getElem? (i := 16) rfl)) rfl
theorem k255 : (.methodLink RJ0 498 yJ2_charAt_3b067 : Cond) ∈ zB := zmem (zt_3 (List.mem_of_getElem? (i := 221) rfl)) rfl
theorem k256 : (.static yJ2_charAt_3b067 : Cond) ∈ zB := zmem (zt_3 (List.mem_of_getElem? (i := 222) rfl)) rfl
theorem k257 : (.code yJ0_charAt_5068e cJ0_charAt_5068e 2 (some .char) : Cond) ∈ zB := zmem (zt_3 (List.mem_of_getElem? (i := 205) rfl)) rfl
theorem k258 : (.fieldLink RX6 40 "DryRiver$Tape" "kind" "I" : Cond) ∈ zB := zmem (zt_1 (List.mem_of_getElem? (i := 51) rfl)) rfl
theorem k259 : (.fieldLink RX6 31 "DryRiver$Tape" "next" "I" : Cond) ∈ zB := zmem (zt_1 (List.mem_of_getElem? (i := 55) rfl)) rfl
theorem k260 : (.fieldLink RX6 37 "DryRiver$Tape" "begin" "I" : Cond) ∈ zB := zmem (zt_1 (List.mem_of_getElem? (i := 53) rfl)) rfl
theorem k261 : (.fieldLink RX6 9 "DryRiver$Tape" "bytes" "[I" : Cond) ∈ zB := zmem (zt_1 (List.mem_of_getElem? (i := 43) rfl)) rfl
theorem k262 : (.methodLink RX6 43 yJ0_length_8abf5 : Cond) ∈ zB := zmem (zt_3 (List.mem_of_getElem? (i := 192) rfl)) rfl
theorem k263 : (.instanceMethod yJ0_length_8abf5 : Cond) ∈ zB := zmem (zt_3 (List.mem_of_getElem? (i := 193) rfl)) rfl
theorem k264 : (.selects RJ0 yJ0_length_8abf5 yJ0_length_8abf5 : Cond) ∈ zB := zmem (zt_3 (List.mem_of_getElem? (i := 194) rfl)) rfl
theorem k265 : (.methodLink RX6 48 yJ0_charAt_5068e : Cond) ∈ zB := zmem (zt_3 (List.mem_of_getElem? (i := 202) rfl)) rfl
theorem k266 : (.instanceMethod yJ0_charAt_5068e : Cond) ∈ zB := zmem (zt_3 (List.mem_of_getElem? (i := 203) rfl)) rfl
theorem k267 : (.selects RJ0 yJ0_charAt_5068e yJ0_charAt_5068e : Cond) ∈ zB := zmem (zt_3 (List.mem_of_getElem? (i := 204) rfl)) rfl
theorem k268 : (.code yX6_isWord cX6_isWord 3 (some .boolean) : Cond) ∈ zB := zmem (zt_3 (List.mem_of_getElem? (i := 191) rfl)) rfl
theorem k269 : (.code yX6_refuse cX6_refuse 1 (some .boolean) : Cond) ∈ zB := zmem (zt_4 (List.mem_of_getElem? (i := 4) rfl)) rfl
theorem k270 : (.fieldLink RX6 15 "DryRiver$Tape" "fault" "I" : Cond) ∈ zB := zmem (zt_1 (List.mem_of_getElem? (i := 56) rfl)) rfl
theorem k271 : (.code yX6_step cX6_step 2 none : Cond) ∈ zB := zmem (zt_3 (List.mem_of_getElem? (i := 173) rfl)) rfl
theorem k272 : (.fieldLink RX6 28 "DryRiver$Tape" "length" "I" : Cond) ∈ zB := zmem (zt_1 (List.mem_of_getElem? (i := 48) rfl)) rfl
theorem k273 : (.code yX6_number cX6_number 5 (some .int) : Cond) ∈ zB := zmem (zt_4 (List.mem_of_getElem? (i := 9) rfl)) rfl
theorem k274 : (.methodLink RX6 34 yX6_step : Cond) ∈ zB := zmem (zt_3 (List.mem_of_getElem? (i := 170) rfl)) rfl
theorem k275 : (.instanceMethod yX6_step : Cond) ∈ zB := zmem (zt_3 (List.mem_of_getElem? (i := 171) rfl)) rfl
theorem k276 : (.selects RX6 yX6_step yX6_step : Cond) ∈ zB := zmem (zt_3 (List.mem_of_getElem? (i := 172) rfl)) rfl
theorem k277 : (.initialized RX6 : Cond) ∈ zB := zmem (zt_1 (List.mem_of_getElem? (i := 2) rfl)) rfl
theorem k278 : (.methodLink RX6 59 yX6_refuse : Cond) ∈ zB := zmem (zt_4 (List.mem_of_getElem? (i := 10) rfl)) rfl
theorem k279 : (.instanceMethod yX6_refuse : Cond) ∈ zB := zmem (zt_4 (List.mem_of_getElem? (i := 2) rfl)) rfl
theorem k280 : (.selects RX6 yX6_refuse yX6_refuse : Cond) ∈ zB := zmem (zt_4 (List.mem_of_getElem? (i := 3) rfl)) rfl
theorem k281 : (.methodLink RX6 52 yX6_isWord : Cond) ∈ zB := zmem (zt_4 (List.mem_of_getElem? (i := 16) rfl)) rfl
theorem k282 : (.instanceMethod yX6_isWord : Cond) ∈ zB := zmem (zt_3 (List.mem_of_getElem? (i := 189) rfl)) rfl
theorem k283 : (.selects RX6 yX6_isWord yX6_isWord : Cond) ∈ zB := zmem (zt_3 (List.mem_of_getElem? (i := 190) rfl)) rfl
theorem k284 : (.code yX6_takeWord cX6_takeWord 2 (some .boolean) : Cond) ∈ zB := zmem (zt_4 (List.mem_of_getElem? (i := 15) rfl)) rfl
theorem k285 : (.code yX6_isSign cX6_isSign 2 (some .boolean) : Cond) ∈ zB := zmem (zt_4 (List.mem_of_getElem? (i := 29) rfl)) rfl
theorem k286 : (.code yX6_takeSign cX6_takeSign 2 (some .boolean) : Cond) ∈ zB := zmem (zt_4 (List.mem_of_getElem? (i := 37) rfl)) rfl
theorem k287 : (.methodLink RX6 63 yX6_isSign : Cond) ∈ zB := zmem (zt_4 (List.mem_of_getElem? (i := 38) rfl)) rfl
theorem k288 : (.instanceMethod yX6_isSign : Cond) ∈ zB := zmem (zt_4 (List.mem_of_getElem? (i := 27) rfl)) rfl
theorem k289 : (.selects RX6 yX6_isSign yX6_isSign : Cond) ∈ zB := zmem (zt_4 (List.mem_of_getElem? (i := 28) rfl)) rfl
theorem k290 : (.fieldLink RX2 20 "DryRiver$LawText" "in" "LDryRiver$Tape;" : Cond) ∈ zB := zmem (zt_1 (List.mem_of_getElem? (i := 226) rfl)) rfl
theorem k291 : (.sameField "DryRiver$LawText" "DryRiver$Text" "in" "LDryRiver$Tape;" : Cond) ∈ zB := zmem (zt_1 (List.mem_of_getElem? (i := 227) rfl)) rfl
theorem k292 : (.methodLink RX2 26 yX6_isWord : Cond) ∈ zB := zmem (zt_3 (List.mem_of_getElem? (i := 188) rfl)) rfl
theorem k293 : (.methodLink RX2 41 yX6_number : Cond) ∈ zB := zmem (zt_4 (List.mem_of_getElem? (i := 6) rfl)) rfl
theorem k294 : (.instanceMethod yX6_number : Cond) ∈ zB := zmem (zt_4 (List.mem_of_getElem? (i := 7) rfl)) rfl
theorem k295 : (.selects RX6 yX6_number yX6_number : Cond) ∈ zB := zmem (zt_4 (List.mem_of_getElem? (i := 8) rfl)) rfl
theorem k296 : (.methodLink RX2 38 yX6_step : Cond) ∈ zB := zmem (zt_4 (List.mem_of_getElem? (i := 5) rfl)) rfl
theorem k297 : (.methodLink RX2 54 yX1_put : Cond) ∈ zB := zmem (zt_4 (List.mem_of_getElem? (i := 39) rfl)) rfl
theorem k298 : (.instanceMethod yX1_put : Cond) ∈ zB := zmem (zt_4 (List.mem_of_getElem? (i := 40) rfl)) rfl
theorem k299 : (.selects RX1 yX1_put yX1_put : Cond) ∈ zB := zmem (zt_4 (List.mem_of_getElem? (i := 41) rfl)) rfl
theorem k300 : (.methodLink RX2 84 yX6_takeSign : Cond) ∈ zB := zmem (zt_4 (List.mem_of_getElem? (i := 34) rfl)) rfl
theorem k301 : (.instanceMethod yX6_takeSign : Cond) ∈ zB := zmem (zt_4 (List.mem_of_getElem? (i := 35) rfl)) rfl
theorem k302 : (.selects RX6 yX6_takeSign yX6_takeSign : Cond) ∈ zB := zmem (zt_4 (List.mem_of_getElem? (i := 36) rfl)) rfl
theorem k303 : (.methodLink RX2 34 yX6_refuse : Cond) ∈ zB := zmem (zt_4 (List.mem_of_getElem? (i := 1) rfl)) rfl
theorem k304 : (.code yX2_readSum cX2_readSum 4 (some .boolean) : Cond) ∈ zB := zmem (zt_4 (List.mem_of_getElem? (i := 48) rfl)) rfl
theorem k305 : (.methodLink RX2 70 yX6_isSign : Cond) ∈ zB := zmem (zt_4 (List.mem_of_getElem? (i := 26) rfl)) rfl
theorem k306 : (.methodLink RX2 74 yX2_readDeeper : Cond) ∈ zB := zmem (zt_4 (List.mem_of_getElem? (i := 30) rfl)) rfl
theorem k307 : (.instanceMethod yX2_readDeeper : Cond) ∈ zB := zmem (zt_4 (List.mem_of_getElem? (i := 32) rfl)) rfl
theorem k308 : (.selects RX2 yX2_readDeeper yX2_readDeeper : Cond) ∈ zB := zmem (List.mem_of_getElem? (i := 12) (by decide +kernel)) rfl
theorem k309 : (.initialized RX2 : Cond) ∈ zB := zmem (zt_1 (List.mem_of_getElem? (i := 8) rfl)) rfl
theorem k310 : (.methodLink RX2 47 yX6_takeWord : Cond) ∈ zB := zmem (zt_4 (List.mem_of_getElem? (i := 12) rfl)) rfl
theorem k311 : (.instanceMethod yX6_takeWord : Cond) ∈ zB := zmem (zt_4 (List.mem_of_getElem? (i := 13) rfl)) rfl
theorem k312 : (.selects RX6 yX6_takeWord yX6_takeWord : Cond) ∈ zB := zmem (zt_4 (List.mem_of_getElem? (i := 14) rfl)) rfl
theorem k313 : (.methodLink RX2 81 yX2_readSum : Cond) ∈ zB := zmem (zt_4 (List.mem_of_getElem? (i := 45) rfl)) rfl
theorem k314 : (.instanceMethod yX2_readSum : Cond) ∈ zB := zmem (zt_4 (List.mem_of_getElem? (i := 47) rfl)) rfl
theorem k315 : (.selects RX2 yX2_readSum yX2_readSum : Cond) ∈ zB := zmem (List.mem_of_getElem? (i := 13) (by decide +kernel)) rfl
theorem k316 : (.code yX2_readCondition cX2_readCondition 5 (some .boolean) : Cond) ∈ zB := zmem (zt_4 (List.mem_of_getElem? (i := 20) rfl)) rfl
theorem k317 : (.methodLink RX2 57 yX2_readAtom : Cond) ∈ zB := zmem (zt_4 (List.mem_of_getElem? (i := 21) rfl)) rfl
theorem k318 : (.instanceMethod yX2_readAtom : Cond) ∈ zB := zmem (zt_4 (List.mem_of_getElem? (i := 23) rfl)) rfl
theorem k319 : (.selects RX2 yX2_readAtom yX2_readAtom : Cond) ∈ zB := zmem (List.mem_of_getElem? (i := 11) (by decide +kernel)) rfl
theorem k320 : (.methodLink RX2 60 yX1_aim : Cond) ∈ zB := zmem (zt_4 (List.mem_of_getElem? (i := 55) rfl)) rfl
theorem k321 : (.instanceMethod yX1_aim : Cond) ∈ zB := zmem (zt_4 (List.mem_of_getElem? (i := 56) rfl)) rfl
theorem k322 : (.selects RX1 yX1_aim yX1_aim : Cond) ∈ zB := zmem (zt_4 (List.mem_of_getElem? (i := 57) rfl)) rfl
theorem k323 : (.code yX2_readDeeper cX2_readDeeper 2 (some .boolean) : Cond) ∈ zB := zmem (zt_4 (List.mem_of_getElem? (i := 33) rfl)) rfl
theorem k324 : (.methodLink RX2 50 yX2_readCondition : Cond) ∈ zB := zmem (zt_4 (List.mem_of_getElem? (i := 17) rfl)) rfl
theorem k325 : (.instanceMethod yX2_readCondition : Cond) ∈ zB := zmem (zt_4 (List.mem_of_getElem? (i := 19) rfl)) rfl
theorem k326 : (.selects RX2 yX2_readCondition yX2_readCondition : Cond) ∈ zB := zmem (List.mem_of_getElem? (i := 10) (by decide +kernel)) rfl
theorem k327 : (.code yX2_readAtom cX2_readAtom 3 (some .boolean) : Cond) ∈ zB := zmem (zt_4 (List.mem_of_getElem? (i := 24) rfl)) rfl
theorem k328 : (.code yX2_readLine cX2_readLine 3 (some .boolean) : Cond) ∈ zB := zmem (zt_3 (List.mem_of_getElem? (i := 186) rfl)) rfl
theorem k329 : (.code yX3_init cX3_init 1 none : Cond) ∈ zB := zmem (zt_1 (List.mem_of_getElem? (i := 199) rfl)) rfl
theorem k330 : (.methodLink RX3 3 objectInit : Cond) ∈ zB := zmem (zt_1 (List.mem_of_getElem? (i := 200) rfl)) rfl
theorem k331 : (.code yX3_copyFrom cX3_copyFrom 2 none : Cond) ∈ zB := zmem (zt_3 (List.mem_of_getElem? (i := 114) rfl)) rfl
theorem k332 : (.methodLink RX3 15 arraycopyName : Cond) ∈ zB := zmem (zt_3 (List.mem_of_getElem? (i := 115) rfl)) rfl
theorem k333 : (.code yJ9_floorMod_7cf53 cJ9_floorMod_7cf53 3 (some .int) : Cond) ∈ zB := zmem (zt_3 (List.mem_of_getElem? (i := 109) rfl)) rfl
theorem k334 : (.code yX3_at cX3_at 3 (some .int) : Cond) ∈ zB := zmem (zt_6 (List.mem_of_getElem? (i := 176) rfl)) rfl
theorem k335 : (.methodLink RX3 34 yJ9_floorMod_7cf53 : Cond) ∈ zB := zmem (zt_6 (List.mem_of_getElem? (i := 177) rfl)) rfl
theorem k336 : (.static yJ9_floorMod_7cf53 : Cond) ∈ zB := zmem (zt_3 (List.mem_of_getElem? (i := 108) rfl)) rfl
theorem k337 : (.initialized RJ9 : Cond) ∈ zB := zmem (zt_1 (List.mem_of_getElem? (i := 13) rfl)) rfl
theorem k338 : (.code yX3_isOf cX3_isOf 3 (some .boolean) : Cond) ∈ zB := zmem (zt_6 (List.mem_of_getElem? (i := 172) rfl)) rfl
theorem k339 : (.methodLink RX3 37 yX3_at : Cond) ∈ zB := zmem (zt_6 (List.mem_of_getElem? (i := 173) rfl)) rfl
theorem k340 : (.instanceMethod yX3_at : Cond) ∈ zB := zmem (zt_6 (List.mem_of_getElem? (i := 174) rfl)) rfl
theorem k341 : (.selects RX3 yX3_at yX3_at : Cond) ∈ zB := zmem (zt_6 (List.mem_of_getElem? (i := 175) rfl)) rfl
theorem k342 : (.code yX3_rowsOf cX3_rowsOf 4 (some .int) : Cond) ∈ zB := zmem (zt_6 (List.mem_of_getElem? (i := 181) rfl)) rfl
theorem k343 : (.methodLink RX3 40 yX3_isOf : Cond) ∈ zB := zmem (zt_6 (List.mem_of_getElem? (i := 169) rfl)) rfl
theorem k344 : (.instanceMethod yX3_isOf : Cond) ∈ zB := zmem (zt_6 (List.mem_of_getElem? (i := 171) rfl)) rfl
theorem k345 : (.selects RX3 yX3_isOf yX3_isOf : Cond) ∈ zB := zmem (List.mem_of_getElem? (i := 30) (by decide +kernel)) rfl
theorem k346 : (.code yX3_latestDayOf cX3_latestDayOf 3 (some .int) : Cond) ∈ zB := zmem (zt_6 (List.mem_of_getElem? (i := 168) rfl)) rfl
theorem k347 : (.methodLink RX4 3 objectInit : Cond) ∈ zB := zmem (zt_2 (List.mem_of_getElem? (i := 14) rfl)) rfl
theorem k348 : (.classLink RX4 9 RX9 : Cond) ∈ zB := zmem (zt_2 (List.mem_of_getElem? (i := 15) rfl)) rfl
theorem k349 : (.fieldLink RX4 11 "DryRiver$Memory" "towns" "[LDryRiver$Town;" : Cond) ∈ zB := zmem (zt_2 (List.mem_of_getElem? (i := 23) rfl)) rfl
theorem k350 : (.classLink RX4 17 RX3 : Cond) ∈ zB := zmem (zt_2 (List.mem_of_getElem? (i := 17) rfl)) rfl
theorem k351 : (.fieldLink RX4 19 "DryRiver$Memory" "logs" "[LDryRiver$Log;" : Cond) ∈ zB := zmem (zt_2 (List.mem_of_getElem? (i := 24) rfl)) rfl
theorem k352 : (.fieldLink RX4 24 "DryRiver$Memory" "imageTown" "LDryRiver$Town;" : Cond) ∈ zB := zmem (zt_2 (List.mem_of_getElem? (i := 25) rfl)) rfl
theorem k353 : (.classLink RX4 28 RX1 : Cond) ∈ zB := zmem (zt_2 (List.mem_of_getElem? (i := 20) rfl)) rfl
theorem k354 : (.fieldLink RX4 31 "DryRiver$Memory" "imageLaw" "LDryRiver$Law;" : Cond) ∈ zB := zmem (zt_2 (List.mem_of_getElem? (i := 26) rfl)) rfl
theorem k355 : (.instantiable RX3 3 : Cond) ∈ zB := zmem (zt_1 (List.mem_of_getElem? (i := 196) rfl)) rfl
theorem k356 : (.fieldLink RX4 36 "DryRiver$Memory" "imageLog" "LDryRiver$Log;" : Cond) ∈ zB := zmem (zt_2 (List.mem_of_getElem? (i := 27) rfl)) rfl
theorem k357 : (.instanceMethod yX3_init : Cond) ∈ zB := zmem (zt_1 (List.mem_of_getElem? (i := 198) rfl)) rfl
theorem k358 : (.code yX4_init cX4_init 2 none : Cond) ∈ zB := zmem (zt_2 (List.mem_of_getElem? (i := 13) rfl)) rfl
theorem k359 : (.code yX4_forget cX4_forget 1 none : Cond) ∈ zB := zmem (zt_3 (List.mem_of_getElem? (i := 140) rfl)) rfl
theorem k360 : (.fieldLink RX4 40 "DryRiver$Memory" "held" "I" : Cond) ∈ zB := zmem (zt_2 (List.mem_of_getElem? (i := 29) rfl)) rfl
theorem k361 : (.fieldLink RX4 44 "DryRiver$Memory" "next" "I" : Cond) ∈ zB := zmem (zt_2 (List.mem_of_getElem? (i := 31) rfl)) rfl
theorem k362 : (.methodLink RX4 54 Lib.Math.min.name : Cond) ∈ zB := zmem (zt_5 (List.mem_of_getElem? (i := 100) rfl)) rfl
theorem k363 : (.methodLink RX4 47 yX9_copyFrom : Cond) ∈ zB := zmem (zt_3 (List.mem_of_getElem? (i := 110) rfl)) rfl
theorem k364 : (.methodLink RX4 51 yX3_copyFrom : Cond) ∈ zB := zmem (zt_3 (List.mem_of_getElem? (i := 111) rfl)) rfl
theorem k365 : (.instanceMethod yX3_copyFrom : Cond) ∈ zB := zmem (zt_3 (List.mem_of_getElem? (i := 112) rfl)) rfl
theorem k366 : (.selects RX3 yX3_copyFrom yX3_copyFrom : Cond) ∈ zB := zmem (zt_3 (List.mem_of_getElem? (i := 113) rfl)) rfl
theorem k367 : (.code yX4_remember cX4_remember 3 none : Cond) ∈ zB := zmem (zt_5 (List.mem_of_getElem? (i := 99) rfl)) rfl
theorem k368 : (.methodLink RX4 60 yJ9_floorMod_7cf53 : Cond) ∈ zB := zmem (zt_3 (List.mem_of_getElem? (i := 107) rfl)) rfl
theorem k369 : (.code yX4_recall cX4_recall 3 (some .boolean) : Cond) ∈ zB := zmem (zt_3 (List.mem_of_getElem? (i := 106) rfl)) rfl
theorem k370 : (.fieldLink RX4 66 "DryRiver$Memory" "hasImage" "Z" : Cond) ∈ zB := zmem (zt_2 (List.mem_of_getElem? (i := 28) rfl)) rfl
theorem k371 : (.methodLink RX4 63 yX1_copyFrom : Cond) ∈ zB := zmem (zt_3 (List.mem_of_getElem? (i := 124) rfl)) rfl
theorem k372 : (.instanceMethod yX1_copyFrom : Cond) ∈ zB := zmem (zt_3 (List.mem_of_getElem? (i := 125) rfl)) rfl
theorem k373 : (.selects RX1 yX1_copyFrom yX1_copyFrom : Cond) ∈ zB := zmem (zt_3 (List.mem_of_getElem? (i := 126) rfl)) rfl
theorem k374 : (.code yX4_keepImage cX4_keepImage 4 none : Cond) ∈ zB := zmem (zt_3 (List.mem_of_getElem? (i := 123) rfl)) rfl
theorem k375 : (.methodLink RX4 70 yX4_forget : Cond) ∈ zB := zmem (zt_3 (List.mem_of_getElem? (i := 137) rfl)) rfl
theorem k376 : (.instanceMethod yX4_forget : Cond) ∈ zB := zmem (zt_3 (List.mem_of_getElem? (i := 138) rfl)) rfl
theorem k377 : (.selects RX4 yX4_forget yX4_forget : Cond) ∈ zB := zmem (zt_3 (List.mem_of_getElem? (i := 139) rfl)) rfl
theorem k378 : (.initialized RX4 : Cond) ∈ zB := zmem (zt_1 (List.mem_of_getElem? (i := 9) rfl)) rfl
theorem k379 : (.code yX4_giveBackImage cX4_giveBackImage 4 (some .boolean) : Cond) ∈ zB := zmem (zt_3 (List.mem_of_getElem? (i := 136) rfl)) rfl
theorem k380 : (.code yX5_init cX5_init 1 none : Cond) ∈ zB := zmem (zt_2 (List.mem_of_getElem? (i := 72) rfl)) rfl
theorem k381 : (.methodLink RX5 3 objectInit : Cond) ∈ zB := zmem (zt_2 (List.mem_of_getElem? (i := 73) rfl)) rfl
theorem k382 : (.fieldLink RX5 9 "DryRiver$Riddles" "fits" "[Z" : Cond) ∈ zB := zmem (zt_2 (List.mem_of_getElem? (i := 74) rfl)) rfl
theorem k383 : (.code yX5_answers cX5_answers 4 (some .boolean) : Cond) ∈ zB := zmem (zt_6 (List.mem_of_getElem? (i := 66) rfl)) rfl
theorem k384 : (.code yX5_fitsAll cX5_fitsAll 5 (some .boolean) : Cond) ∈ zB := zmem (zt_6 (List.mem_of_getElem? (i := 62) rfl)) rfl
theorem k385 : (.fieldLink RX5 32 "DryRiver$Tape" "bytes" "[I" : Cond) ∈ zB := zmem (zt_1 (List.mem_of_getElem? (i := 44) rfl)) rfl
theorem k386 : (.methodLink RX5 38 yX5_answers : Cond) ∈ zB := zmem (zt_6 (List.mem_of_getElem? (i := 63) rfl)) rfl
theorem k387 : (.instanceMethod yX5_answers : Cond) ∈ zB := zmem (zt_6 (List.mem_of_getElem? (i := 65) rfl)) rfl
theorem k388 : (.selects RX5 yX5_answers yX5_answers : Cond) ∈ zB := zmem (List.mem_of_getElem? (i := 28) (by decide +kernel)) rfl
theorem k389 : (.initialized RX5 : Cond) ∈ zB := zmem (zt_1 (List.mem_of_getElem? (i := 11) rfl)) rfl
theorem k390 : (.code yX5_hear cX5_hear 5 none : Cond) ∈ zB := zmem (zt_6 (List.mem_of_getElem? (i := 57) rfl)) rfl
theorem k391 : (.methodLink RX5 15 Lib.Math.min.name : Cond) ∈ zB := zmem (zt_6 (List.mem_of_getElem? (i := 58) rfl)) rfl
theorem k392 : (.fieldLink RX5 21 "DryRiver$Riddles" "people" "I" : Cond) ∈ zB := zmem (zt_2 (List.mem_of_getElem? (i := 75) rfl)) rfl
theorem k393 : (.fieldLink RX5 25 "DryRiver$Riddles" "fitting" "I" : Cond) ∈ zB := zmem (zt_2 (List.mem_of_getElem? (i := 76) rfl)) rfl
theorem k394 : (.methodLink RX5 28 yX5_fitsAll : Cond) ∈ zB := zmem (zt_6 (List.mem_of_getElem? (i := 59) rfl)) rfl
theorem k395 : (.instanceMethod yX5_fitsAll : Cond) ∈ zB := zmem (zt_6 (List.mem_of_getElem? (i := 61) rfl)) rfl
theorem k396 : (.selects RX5 yX5_fitsAll yX5_fitsAll : Cond) ∈ zB := zmem (List.mem_of_getElem? (i := 27) (by decide +kernel)) rfl
theorem k397 : (.code yX5_honestInAll cX5_honestInAll 3 (some .int) : Cond) ∈ zB := zmem (zt_6 (List.mem_of_getElem? (i := 70) rfl)) rfl
theorem k398 : (.code yX5_greaterPart cX5_greaterPart 5 (some .int) : Cond) ∈ zB := zmem (zt_6 (List.mem_of_getElem? (i := 85) rfl)) rfl
theorem k399 : (.methodLink RX5 45 Lib.Math.max.name : Cond) ∈ zB := zmem (zt_6 (List.mem_of_getElem? (i := 86) rfl)) rfl
theorem k400 : (.code yX5_bestQuestion cX5_bestQuestion 6 (some .int) : Cond) ∈ zB := zmem (zt_6 (List.mem_of_getElem? (i := 81) rfl)) rfl
theorem k401 : (.methodLink RX5 42 yX5_greaterPart : Cond) ∈ zB := zmem (zt_6 (List.mem_of_getElem? (i := 82) rfl)) rfl
theorem k402 : (.instanceMethod yX5_greaterPart : Cond) ∈ zB := zmem (zt_6 (List.mem_of_getElem? (i := 84) rfl)) rfl
theorem k403 : (.selects RX5 yX5_greaterPart yX5_greaterPart : Cond) ∈ zB := zmem (List.mem_of_getElem? (i := 29) (by decide +kernel)) rfl
theorem k404 : (.code yX5_odds cX5_odds 7 (some .int) : Cond) ∈ zB := zmem (zt_6 (List.mem_of_getElem? (i := 24) rfl)) rfl
theorem k405 : (.constantLong RX5 48 (9) : Cond) ∈ zB := zmem (zt_6 (List.mem_of_getElem? (i := 25) rfl)) rfl
theorem k406 : (.constantLong RX5 50 (10000) : Cond) ∈ zB := zmem (zt_6 (List.mem_of_getElem? (i := 26) rfl)) rfl
theorem k407 : (.code yX5_fewestNeeded cX5_fewestNeeded 3 (some .int) : Cond) ∈ zB := zmem (zt_6 (List.mem_of_getElem? (i := 36) rfl)) rfl
theorem k408 : (.methodLink RX5 52 yX5_odds : Cond) ∈ zB := zmem (zt_6 (List.mem_of_getElem? (i := 37) rfl)) rfl
theorem k409 : (.static yX5_odds : Cond) ∈ zB := zmem (zt_6 (List.mem_of_getElem? (i := 23) rfl)) rfl
theorem k410 : (.code yX5_risesBy cX5_risesBy 2 (some .int) : Cond) ∈ zB := zmem (zt_6 (List.mem_of_getElem? (i := 120) rfl)) rfl
theorem k411 : (.code yX5_tellerHas cX5_tellerHas 2 (some .int) : Cond) ∈ zB := zmem (zt_6 (List.mem_of_getElem? (i := 117) rfl)) rfl
theorem k412 : (.methodLink RX5 62 yX5_risesBy : Cond) ∈ zB := zmem (zt_6 (List.mem_of_getElem? (i := 118) rfl)) rfl
theorem k413 : (.static yX5_risesBy : Cond) ∈ zB := zmem (zt_6 (List.mem_of_getElem? (i := 119) rfl)) rfl
theorem k414 : (.code yX5_dryManHas cX5_dryManHas 3 (some .int) : Cond) ∈ zB := zmem (zt_6 (List.mem_of_getElem? (i := 123) rfl)) rfl
theorem k415 : (.code yX5_choicesAtRest cX5_choicesAtRest 5 (some .int) : Cond) ∈ zB := zmem (zt_6 (List.mem_of_getElem? (i := 114) rfl)) rfl
theorem k416 : (.methodLink RX5 55 yX5_tellerHas : Cond) ∈ zB := zmem (zt_6 (List.mem_of_getElem? (i := 115) rfl)) rfl
theorem k417 : (.static yX5_tellerHas : Cond) ∈ zB := zmem (zt_6 (List.mem_of_getElem? (i := 116) rfl)) rfl
theorem k418 : (.methodLink RX5 58 yX5_dryManHas : Cond) ∈ zB := zmem (zt_6 (List.mem_of_getElem? (i := 121) rfl)) rfl
theorem k419 : (.static yX5_dryManHas : Cond) ∈ zB := zmem (zt_6 (List.mem_of_getElem? (i := 122) rfl)) rfl
theorem k420 : (.code yX6_init cX6_init 1 none : Cond) ∈ zB := zmem (zt_1 (List.mem_of_getElem? (i := 41) rfl)) rfl
theorem k421 : (.methodLink RX6 3 objectInit : Cond) ∈ zB := zmem (zt_1 (List.mem_of_getElem? (i := 42) rfl)) rfl
theorem k422 : (.code yX6_add cX6_add 3 none : Cond) ∈ zB := zmem (zt_2 (List.mem_of_getElem? (i := 123) rfl)) rfl
theorem k423 : (.fieldLink RX6 19 "DryRiver$Tape" "size" "I" : Cond) ∈ zB := zmem (zt_1 (List.mem_of_getElem? (i := 47) rfl)) rfl
theorem k424 : (.code yX6_useUp cX6_useUp 2 (some .int) : Cond) ∈ zB := zmem (zt_3 (List.mem_of_getElem? (i := 164) rfl)) rfl
theorem k425 : (.code yX6_holdsTales cX6_holdsTales 3 (some .boolean) : Cond) ∈ zB := zmem (zt_6 (List.mem_of_getElem? (i := 16) rfl)) rfl
theorem k426 : (.code yX6_lead cX6_lead 4 (some .int) : Cond) ∈ zB := zmem (zt_6 (List.mem_of_getElem? (i := 21) rfl)) rfl
theorem k427 : (.code yX6_holdsSaid cX6_holdsSaid 6 (some .boolean) : Cond) ∈ zB := zmem (zt_6 (List.mem_of_getElem? (i := 52) rfl)) rfl
theorem k428 : (.code yX6_open cX6_open 2 none : Cond) ∈ zB := zmem (zt_3 (List.mem_of_getElem? (i := 168) rfl)) rfl
theorem k429 : (.methodLink RX6 22 Lib.Math.min.name : Cond) ∈ zB := zmem (zt_3 (List.mem_of_getElem? (i := 169) rfl)) rfl
theorem k430 : (.methodLink RX6 56 yX6_takeWord : Cond) ∈ zB := zmem (zt_4 (List.mem_of_getElem? (i := 78) rfl)) rfl
theorem k431 : (.code yX6_needWord cX6_needWord 2 (some .boolean) : Cond) ∈ zB := zmem (zt_4 (List.mem_of_getElem? (i := 77) rfl)) rfl
theorem k432 : (.code yX6_needSign cX6_needSign 2 (some .boolean) : Cond) ∈ zB := zmem (zt_4 (List.mem_of_getElem? (i := 118) rfl)) rfl
theorem k433 : (.methodLink RX6 67 yX6_takeSign : Cond) ∈ zB := zmem (zt_4 (List.mem_of_getElem? (i := 119) rfl)) rfl
theorem k434 : (.code yX9_setTrust cX9_setTrust 4 none : Cond) ∈ zB := zmem (zt_4 (List.mem_of_getElem? (i := 88) rfl)) rfl
theorem k435 : (.code yX9_addPerson cX9_addPerson 6 none : Cond) ∈ zB := zmem (zt_4 (List.mem_of_getElem? (i := 84) rfl)) rfl
theorem k436 : (.methodLink RX9 77 yX9_setTrust : Cond) ∈ zB := zmem (zt_4 (List.mem_of_getElem? (i := 85) rfl)) rfl
theorem k437 : (.instanceMethod yX9_setTrust : Cond) ∈ zB := zmem (zt_4 (List.mem_of_getElem? (i := 86) rfl)) rfl
theorem k438 : (.selects RX9 yX9_setTrust yX9_setTrust : Cond) ∈ zB := zmem (zt_4 (List.mem_of_getElem? (i := 87) rfl)) rfl
theorem k439 : (.fieldLink RX10 14 "DryRiver$TownText" "draft" "LDryRiver$Town;" : Cond) ∈ zB := zmem (zt_1 (List.mem_of_getElem? (i := 223) rfl)) rfl
theorem k440 : (.fieldLink RX10 78 "DryRiver$Town" "people" "I" : Cond) ∈ zB := zmem (zt_1 (List.mem_of_getElem? (i := 83) rfl)) rfl
theorem k441 : (.fieldLink RX10 20 "DryRiver$TownText" "in" "LDryRiver$Tape;" : Cond) ∈ zB := zmem (zt_1 (List.mem_of_getElem? (i := 228) rfl)) rfl
theorem k442 : (.sameField "DryRiver$TownText" "DryRiver$Text" "in" "LDryRiver$Tape;" : Cond) ∈ zB := zmem (zt_1 (List.mem_of_getElem? (i := 229) rfl)) rfl
theorem k443 : (.methodLink RX10 75 yX6_refuse : Cond) ∈ zB := zmem (zt_4 (List.mem_of_getElem? (i := 70) rfl)) rfl
theorem k444 : (.methodLink RX10 81 yX6_step : Cond) ∈ zB := zmem (zt_4 (List.mem_of_getElem? (i := 71) rfl)) rfl
theorem k445 : (.methodLink RX10 56 yX6_number : Cond) ∈ zB := zmem (zt_4 (List.mem_of_getElem? (i := 72) rfl)) rfl
theorem k446 : (.methodLink RX10 86 yX6_needWord : Cond) ∈ zB := zmem (zt_4 (List.mem_of_getElem? (i := 74) rfl)) rfl
theorem k447 : (.instanceMethod yX6_needWord : Cond) ∈ zB := zmem (zt_4 (List.mem_of_getElem? (i := 75) rfl)) rfl
theorem k448 : (.selects RX6 yX6_needWord yX6_needWord : Cond) ∈ zB := zmem (zt_4 (List.mem_of_getElem? (i := 76) rfl)) rfl
theorem k449 : (.methodLink RX10 43 yX6_takeWord : Cond) ∈ zB := zmem (zt_4 (List.mem_of_getElem? (i := 80) rfl)) rfl
theorem k450 : (.methodLink RX10 91 yX9_addPerson : Cond) ∈ zB := zmem (zt_4 (List.mem_of_getElem? (i := 81) rfl)) rfl
theorem k451 : (.instanceMethod yX9_addPerson : Cond) ∈ zB := zmem (zt_4 (List.mem_of_getElem? (i := 82) rfl)) rfl
theorem k452 : (.selects RX9 yX9_addPerson yX9_addPerson : Cond) ∈ zB := zmem (zt_4 (List.mem_of_getElem? (i := 83) rfl)) rfl
theorem k453 : (.code yX10_readPerson cX10_readPerson 3 (some .boolean) : Cond) ∈ zB := zmem (zt_4 (List.mem_of_getElem? (i := 69) rfl)) rfl
theorem k454 : (.code yX9_addWork cX9_addWork 5 none : Cond) ∈ zB := zmem (zt_4 (List.mem_of_getElem? (i := 99) rfl)) rfl
theorem k455 : (.fieldLink RX10 95 "DryRiver$Town" "works" "I" : Cond) ∈ zB := zmem (zt_1 (List.mem_of_getElem? (i := 86) rfl)) rfl
theorem k456 : (.methodLink RX10 102 yX9_addWork : Cond) ∈ zB := zmem (zt_4 (List.mem_of_getElem? (i := 96) rfl)) rfl
theorem k457 : (.instanceMethod yX9_addWork : Cond) ∈ zB := zmem (zt_4 (List.mem_of_getElem? (i := 97) rfl)) rfl
theorem k458 : (.selects RX9 yX9_addWork yX9_addWork : Cond) ∈ zB := zmem (zt_4 (List.mem_of_getElem? (i := 98) rfl)) rfl
theorem k459 : (.code yX10_readWork cX10_readWork 4 (some .boolean) : Cond) ∈ zB := zmem (zt_4 (List.mem_of_getElem? (i := 93) rfl)) rfl
theorem k460 : (.fieldLink RX10 106 "DryRiver$Tape" "kind" "I" : Cond) ∈ zB := zmem (zt_1 (List.mem_of_getElem? (i := 50) rfl)) rfl
theorem k461 : (.fieldLink RX10 109 "DryRiver$Tape" "next" "I" : Cond) ∈ zB := zmem (zt_1 (List.mem_of_getElem? (i := 54) rfl)) rfl
theorem k462 : (.fieldLink RX10 112 "DryRiver$Tape" "begin" "I" : Cond) ∈ zB := zmem (zt_1 (List.mem_of_getElem? (i := 52) rfl)) rfl
theorem k463 : (.fieldLink RX10 115 "DryRiver$Tape" "bytes" "[I" : Cond) ∈ zB := zmem (zt_1 (List.mem_of_getElem? (i := 45) rfl)) rfl
theorem k464 : (.methodLink RX10 119 yX9_setTrust : Cond) ∈ zB := zmem (zt_4 (List.mem_of_getElem? (i := 105) rfl)) rfl
theorem k465 : (.code yX10_readTrusts cX10_readTrusts 3 (some .boolean) : Cond) ∈ zB := zmem (zt_4 (List.mem_of_getElem? (i := 104) rfl)) rfl
theorem k466 : (.code yX10_readShares cX10_readShares 3 (some .boolean) : Cond) ∈ zB := zmem (zt_4 (List.mem_of_getElem? (i := 110) rfl)) rfl
theorem k467 : (.fieldLink RX10 122 "DryRiver$Town" "shares" "[I" : Cond) ∈ zB := zmem (zt_1 (List.mem_of_getElem? (i := 110) rfl)) rfl
theorem k468 : (.fieldLink RX10 60 "DryRiver$Town" "chest" "I" : Cond) ∈ zB := zmem (zt_1 (List.mem_of_getElem? (i := 91) rfl)) rfl
theorem k469 : (.fieldLink RX10 65 "DryRiver$Town" "journey" "I" : Cond) ∈ zB := zmem (zt_1 (List.mem_of_getElem? (i := 94) rfl)) rfl
theorem k470 : (.fieldLink RX10 69 "DryRiver$Town" "truth" "I" : Cond) ∈ zB := zmem (zt_1 (List.mem_of_getElem? (i := 97) rfl)) rfl
theorem k471 : (.fieldLink RX10 73 "DryRiver$Town" "day" "I" : Cond) ∈ zB := zmem (zt_1 (List.mem_of_getElem? (i := 99) rfl)) rfl
theorem k472 : (.methodLink RX10 26 yX6_isWord : Cond) ∈ zB := zmem (zt_4 (List.mem_of_getElem? (i := 65) rfl)) rfl
theorem k473 : (.methodLink RX10 32 yX10_readPerson : Cond) ∈ zB := zmem (zt_4 (List.mem_of_getElem? (i := 66) rfl)) rfl
theorem k474 : (.instanceMethod yX10_readPerson : Cond) ∈ zB := zmem (zt_4 (List.mem_of_getElem? (i := 68) rfl)) rfl
theorem k475 : (.selects RX10 yX10_readPerson yX10_readPerson : Cond) ∈ zB := zmem (List.mem_of_getElem? (i := 14) (by decide +kernel)) rfl
theorem k476 : (.initialized RX10 : Cond) ∈ zB := zmem (zt_1 (List.mem_of_getElem? (i := 7) rfl)) rfl
theorem k477 : (.methodLink RX10 38 yX10_readWork : Cond) ∈ zB := zmem (zt_4 (List.mem_of_getElem? (i := 90) rfl)) rfl
theorem k478 : (.instanceMethod yX10_readWork : Cond) ∈ zB := zmem (zt_4 (List.mem_of_getElem? (i := 92) rfl)) rfl
theorem k479 : (.selects RX10 yX10_readWork yX10_readWork : Cond) ∈ zB := zmem (List.mem_of_getElem? (i := 15) (by decide +kernel)) rfl
theorem k480 : (.methodLink RX10 46 yX10_readTrusts : Cond) ∈ zB := zmem (zt_4 (List.mem_of_getElem? (i := 101) rfl)) rfl
theorem k481 : (.instanceMethod yX10_readTrusts : Cond) ∈ zB := zmem (zt_4 (List.mem_of_getElem? (i := 103) rfl)) rfl
theorem k482 : (.selects RX10 yX10_readTrusts yX10_readTrusts : Cond) ∈ zB := zmem (List.mem_of_getElem? (i := 16) (by decide +kernel)) rfl
theorem k483 : (.methodLink RX10 51 yX10_readShares : Cond) ∈ zB := zmem (zt_4 (List.mem_of_getElem? (i := 107) rfl)) rfl
theorem k484 : (.instanceMethod yX10_readShares : Cond) ∈ zB := zmem (zt_4 (List.mem_of_getElem? (i := 109) rfl)) rfl
theorem k485 : (.selects RX10 yX10_readShares yX10_readShares : Cond) ∈ zB := zmem (List.mem_of_getElem? (i := 17) (by decide +kernel)) rfl
theorem k486 : (.code yX10_readLine cX10_readLine 2 (some .boolean) : Cond) ∈ zB := zmem (zt_4 (List.mem_of_getElem? (i := 63) rfl)) rfl
theorem k487 : (.fieldLink RX7 15 "DryRiver$Tape" "kind" "I" : Cond) ∈ zB := zmem (zt_1 (List.mem_of_getElem? (i := 49) rfl)) rfl
theorem k488 : (.methodLink RX7 21 ⟨"DryRiver$Text", "readLine", "()Z"⟩ : Cond) ∈ zB := zmem (zt_3 (List.mem_of_getElem? (i := 181) rfl)) rfl
theorem k489 : (.sameMethod "DryRiver$Text" "DryRiver$Text" "readLine" "()Z" : Cond) ∈ zB := zmem (zt_3 (List.mem_of_getElem? (i := 183) rfl)) rfl
theorem k490 : (.selects RX2 ⟨"DryRiver$Text", "readLine", "()Z"⟩ yX2_readLine : Cond) ∈ zB := zmem (zt_3 (List.mem_of_getElem? (i := 184) rfl)) rfl
theorem k491 : (.instanceMethod yX2_readLine : Cond) ∈ zB := zmem (zt_3 (List.mem_of_getElem? (i := 185) rfl)) rfl
theorem k492 : (.selects RX10 ⟨"DryRiver$Text", "readLine", "()Z"⟩ yX10_readLine : Cond) ∈ zB := zmem (zt_4 (List.mem_of_getElem? (i := 61) rfl)) rfl
theorem k493 : (.instanceMethod yX10_readLine : Cond) ∈ zB := zmem (zt_4 (List.mem_of_getElem? (i := 62) rfl)) rfl
theorem k494 : (.methodLink RX7 25 yX6_needSign : Cond) ∈ zB := zmem (zt_4 (List.mem_of_getElem? (i := 115) rfl)) rfl
theorem k495 : (.instanceMethod yX6_needSign : Cond) ∈ zB := zmem (zt_4 (List.mem_of_getElem? (i := 116) rfl)) rfl
theorem k496 : (.selects RX6 yX6_needSign yX6_needSign : Cond) ∈ zB := zmem (zt_4 (List.mem_of_getElem? (i := 117) rfl)) rfl
theorem k497 : (.methodLink RX7 29 yX6_refuse : Cond) ∈ zB := zmem (zt_4 (List.mem_of_getElem? (i := 120) rfl)) rfl
theorem k498 : (.code yX7_readLines cX7_readLines 3 (some .int) : Cond) ∈ zB := zmem (zt_3 (List.mem_of_getElem? (i := 180) rfl)) rfl
theorem k499 : (.code yX8_trusting cX8_trusting 5 (some .int) : Cond) ∈ zB := zmem (zt_3 (List.mem_of_getElem? (i := 63) rfl)) rfl
theorem k500 : (.fieldLink RX8 9 "DryRiver$Town" "people" "I" : Cond) ∈ zB := zmem (zt_1 (List.mem_of_getElem? (i := 81) rfl)) rfl
theorem k501 : (.methodLink RX8 15 yX9_trustOf : Cond) ∈ zB := zmem (zt_3 (List.mem_of_getElem? (i := 64) rfl)) rfl
theorem k502 : (.code yX8_wordOf cX8_wordOf 4 (some .int) : Cond) ∈ zB := zmem (zt_3 (List.mem_of_getElem? (i := 60) rfl)) rfl
theorem k503 : (.methodLink RX8 19 yX8_trusting : Cond) ∈ zB := zmem (zt_3 (List.mem_of_getElem? (i := 61) rfl)) rfl
theorem k504 : (.static yX8_trusting : Cond) ∈ zB := zmem (zt_3 (List.mem_of_getElem? (i := 62) rfl)) rfl
theorem k505 : (.initialized RX8 : Cond) ∈ zB := zmem (zt_1 (List.mem_of_getElem? (i := 28) rfl)) rfl
theorem k506 : (.code yX8_fewestSteps cX8_fewestSteps 5 (some .int) : Cond) ∈ zB := zmem (zt_6 (List.mem_of_getElem? (i := 104) rfl)) rfl
theorem k507 : (.code yX8_circleOf cX8_circleOf 5 (some .int) : Cond) ∈ zB := zmem (zt_3 (List.mem_of_getElem? (i := 57) rfl)) rfl
theorem k508 : (.methodLink RX8 28 yX8_wordOf : Cond) ∈ zB := zmem (zt_3 (List.mem_of_getElem? (i := 58) rfl)) rfl
theorem k509 : (.static yX8_wordOf : Cond) ∈ zB := zmem (zt_3 (List.mem_of_getElem? (i := 59) rfl)) rfl
theorem k510 : (.code yX8_countCircles cX8_countCircles 5 (some .int) : Cond) ∈ zB := zmem (zt_3 (List.mem_of_getElem? (i := 54) rfl)) rfl
theorem k511 : (.methodLink RX8 25 yX8_circleOf : Cond) ∈ zB := zmem (zt_3 (List.mem_of_getElem? (i := 55) rfl)) rfl
theorem k512 : (.static yX8_circleOf : Cond) ∈ zB := zmem (zt_3 (List.mem_of_getElem? (i := 56) rfl)) rfl
theorem k513 : (.code yX8_untied cX8_untied 3 (some .int) : Cond) ∈ zB := zmem (zt_3 (List.mem_of_getElem? (i := 71) rfl)) rfl
theorem k514 : (.methodLink RX8 31 yX9_tiesOf : Cond) ∈ zB := zmem (zt_3 (List.mem_of_getElem? (i := 72) rfl)) rfl
theorem k515 : (.methodLink RX9 105 yX9_sharePrice : Cond) ∈ zB := zmem (zt_3 (List.mem_of_getElem? (i := 81) rfl)) rfl
theorem k516 : (.code yX9_worthOf cX9_worthOf 2 (some .int) : Cond) ∈ zB := zmem (zt_3 (List.mem_of_getElem? (i := 80) rfl)) rfl
theorem k517 : (.code yX9_shareOf cX9_shareOf 3 (some .int) : Cond) ∈ zB := zmem (zt_5 (List.mem_of_getElem? (i := 21) rfl)) rfl
theorem k518 : (.code yX9_sharesOfAll cX9_sharesOfAll 3 (some .int) : Cond) ∈ zB := zmem (zt_3 (List.mem_of_getElem? (i := 151) rfl)) rfl
theorem k519 : (.code yX9_firstComing cX9_firstComing 3 (some .int) : Cond) ∈ zB := zmem (zt_3 (List.mem_of_getElem? (i := 94) rfl)) rfl
theorem k520 : (.code yX9_canBuild cX9_canBuild 5 (some .boolean) : Cond) ∈ zB := zmem (zt_3 (List.mem_of_getElem? (i := 42) rfl)) rfl
theorem k521 : (.code yX9_gainOf cX9_gainOf 4 (some .int) : Cond) ∈ zB := zmem (zt_3 (List.mem_of_getElem? (i := 46) rfl)) rfl
theorem k522 : (.methodLink RX9 116 yX9_canBuild : Cond) ∈ zB := zmem (zt_3 (List.mem_of_getElem? (i := 39) rfl)) rfl
theorem k523 : (.instanceMethod yX9_canBuild : Cond) ∈ zB := zmem (zt_3 (List.mem_of_getElem? (i := 41) rfl)) rfl
theorem k524 : (.selects RX9 yX9_canBuild yX9_canBuild : Cond) ∈ zB := zmem (List.mem_of_getElem? (i := 9) (by decide +kernel)) rfl
theorem k525 : (.methodLink RX9 119 yX9_gainOf : Cond) ∈ zB := zmem (zt_3 (List.mem_of_getElem? (i := 43) rfl)) rfl
theorem k526 : (.instanceMethod yX9_gainOf : Cond) ∈ zB := zmem (zt_3 (List.mem_of_getElem? (i := 44) rfl)) rfl
theorem k527 : (.selects RX9 yX9_gainOf yX9_gainOf : Cond) ∈ zB := zmem (zt_3 (List.mem_of_getElem? (i := 45) rfl)) rfl
theorem k528 : (.code yX9_bestWorks cX9_bestWorks 3 (some .int) : Cond) ∈ zB := zmem (zt_3 (List.mem_of_getElem? (i := 38) rfl)) rfl
theorem k529 : (.code yX9_turnsOf cX9_turnsOf 3 (some .int) : Cond) ∈ zB := zmem (zt_5 (List.mem_of_getElem? (i := 17) rfl)) rfl
theorem k530 : (.classLink RX10 9 RX9 : Cond) ∈ zB := zmem (zt_1 (List.mem_of_getElem? (i := 221) rfl)) rfl
theorem k531 : (.methodLink RX10 3 yX7_init : Cond) ∈ zB := zmem (zt_1 (List.mem_of_getElem? (i := 217) rfl)) rfl
theorem k532 : (.code yX10_init cX10_init 2 none : Cond) ∈ zB := zmem (zt_1 (List.mem_of_getElem? (i := 216) rfl)) rfl
theorem k533 : (.methodLink RX11 1 objectInit : Cond) ∈ zB := zmem (zt_1 (List.mem_of_getElem? (i := 34) rfl)) rfl
theorem k534 : (.classLink RX11 7 RX6 : Cond) ∈ zB := zmem (zt_1 (List.mem_of_getElem? (i := 37) rfl)) rfl
theorem k535 : (.instantiable RX6 7 : Cond) ∈ zB := zmem (zt_1 (List.mem_of_getElem? (i := 38) rfl)) rfl
theorem k536 : (.fieldLink RX11 10 "DryRiver" "tape" "LDryRiver$Tape;" : Cond) ∈ zB := zmem (zt_2 (List.mem_of_getElem? (i := 85) rfl)) rfl
theorem k537 : (.classLink RX11 16 RX9 : Cond) ∈ zB := zmem (zt_1 (List.mem_of_getElem? (i := 74) rfl)) rfl
theorem k538 : (.fieldLink RX11 19 "DryRiver" "town" "LDryRiver$Town;" : Cond) ∈ zB := zmem (zt_2 (List.mem_of_getElem? (i := 86) rfl)) rfl
theorem k539 : (.classLink RX11 23 RX1 : Cond) ∈ zB := zmem (zt_1 (List.mem_of_getElem? (i := 169) rfl)) rfl
theorem k540 : (.fieldLink RX11 26 "DryRiver" "law" "LDryRiver$Law;" : Cond) ∈ zB := zmem (zt_2 (List.mem_of_getElem? (i := 87) rfl)) rfl
theorem k541 : (.classLink RX11 30 RX3 : Cond) ∈ zB := zmem (zt_1 (List.mem_of_getElem? (i := 195) rfl)) rfl
theorem k542 : (.fieldLink RX11 33 "DryRiver" "log" "LDryRiver$Log;" : Cond) ∈ zB := zmem (zt_2 (List.mem_of_getElem? (i := 88) rfl)) rfl
theorem k543 : (.classLink RX11 37 RX10 : Cond) ∈ zB := zmem (zt_1 (List.mem_of_getElem? (i := 212) rfl)) rfl
theorem k544 : (.instantiable RX10 2 : Cond) ∈ zB := zmem (zt_1 (List.mem_of_getElem? (i := 213) rfl)) rfl
theorem k545 : (.fieldLink RX11 42 "DryRiver" "townText" "LDryRiver$TownText;" : Cond) ∈ zB := zmem (zt_2 (List.mem_of_getElem? (i := 89) rfl)) rfl
theorem k546 : (.classLink RX11 46 RX2 : Cond) ∈ zB := zmem (zt_1 (List.mem_of_getElem? (i := 235) rfl)) rfl
theorem k547 : (.instantiable RX2 2 : Cond) ∈ zB := zmem (zt_1 (List.mem_of_getElem? (i := 236) rfl)) rfl
theorem k548 : (.fieldLink RX11 49 "DryRiver" "lawText" "LDryRiver$LawText;" : Cond) ∈ zB := zmem (zt_2 (List.mem_of_getElem? (i := 90) rfl)) rfl
theorem k549 : (.classLink RX11 53 RX4 : Cond) ∈ zB := zmem (zt_2 (List.mem_of_getElem? (i := 9) rfl)) rfl
theorem k550 : (.instantiable RX4 8 : Cond) ∈ zB := zmem (zt_2 (List.mem_of_getElem? (i := 10) rfl)) rfl
theorem k551 : (.fieldLink RX11 56 "DryRiver" "memory" "LDryRiver$Memory;" : Cond) ∈ zB := zmem (zt_2 (List.mem_of_getElem? (i := 91) rfl)) rfl
theorem k552 : (.classLink RX11 60 RX0 : Cond) ∈ zB := zmem (zt_2 (List.mem_of_getElem? (i := 49) rfl)) rfl
theorem k553 : (.instantiable RX0 3 : Cond) ∈ zB := zmem (zt_2 (List.mem_of_getElem? (i := 50) rfl)) rfl
theorem k554 : (.fieldLink RX11 65 "DryRiver" "foresight" "LDryRiver$Foresight;" : Cond) ∈ zB := zmem (zt_2 (List.mem_of_getElem? (i := 92) rfl)) rfl
theorem k555 : (.classLink RX11 69 RX5 : Cond) ∈ zB := zmem (zt_2 (List.mem_of_getElem? (i := 68) rfl)) rfl
theorem k556 : (.instantiable RX5 3 : Cond) ∈ zB := zmem (zt_2 (List.mem_of_getElem? (i := 69) rfl)) rfl
theorem k557 : (.fieldLink RX11 72 "DryRiver" "riddles" "LDryRiver$Riddles;" : Cond) ∈ zB := zmem (zt_2 (List.mem_of_getElem? (i := 93) rfl)) rfl
theorem k558 : (.fieldLink RX11 76 "DryRiver" "fault" "I" : Cond) ∈ zB := zmem (zt_2 (List.mem_of_getElem? (i := 94) rfl)) rfl
theorem k559 : (.instanceMethod yX6_init : Cond) ∈ zB := zmem (zt_1 (List.mem_of_getElem? (i := 40) rfl)) rfl
theorem k560 : (.methodLink RX11 39 yX10_init : Cond) ∈ zB := zmem (zt_1 (List.mem_of_getElem? (i := 214) rfl)) rfl
theorem k561 : (.instanceMethod yX10_init : Cond) ∈ zB := zmem (zt_1 (List.mem_of_getElem? (i := 215) rfl)) rfl
theorem k562 : (.methodLink RX11 48 yX2_init : Cond) ∈ zB := zmem (zt_1 (List.mem_of_getElem? (i := 237) rfl)) rfl
theorem k563 : (.instanceMethod yX2_init : Cond) ∈ zB := zmem (zt_1 (List.mem_of_getElem? (i := 238) rfl)) rfl
theorem k564 : (.methodLink RX11 55 yX4_init : Cond) ∈ zB := zmem (zt_2 (List.mem_of_getElem? (i := 11) rfl)) rfl
theorem k565 : (.instanceMethod yX4_init : Cond) ∈ zB := zmem (zt_2 (List.mem_of_getElem? (i := 12) rfl)) rfl
theorem k566 : (.methodLink RX11 62 yX0_init : Cond) ∈ zB := zmem (zt_2 (List.mem_of_getElem? (i := 51) rfl)) rfl
theorem k567 : (.instanceMethod yX0_init : Cond) ∈ zB := zmem (zt_2 (List.mem_of_getElem? (i := 52) rfl)) rfl
theorem k568 : (.instanceMethod yX5_init : Cond) ∈ zB := zmem (zt_2 (List.mem_of_getElem? (i := 71) rfl)) rfl
theorem k569 : (.code yX11_init cX11_init 1 none : Cond) ∈ zB := zmem (zt_1 (List.mem_of_getElem? (i := 33) rfl)) rfl
theorem k570 : (.code yX11_feed cX11_feed 6 (some .int) : Cond) ∈ zB := zmem (zt_2 (List.mem_of_getElem? (i := 119) rfl)) rfl
theorem k571 : (.fieldLink RX11 80 "DryRiver$Tape" "size" "I" : Cond) ∈ zB := zmem (zt_1 (List.mem_of_getElem? (i := 46) rfl)) rfl
theorem k572 : (.methodLink RX11 83 yX6_add : Cond) ∈ zB := zmem (zt_2 (List.mem_of_getElem? (i := 120) rfl)) rfl
theorem k573 : (.instanceMethod yX6_add : Cond) ∈ zB := zmem (zt_2 (List.mem_of_getElem? (i := 121) rfl)) rfl
theorem k574 : (.selects RX6 yX6_add yX6_add : Cond) ∈ zB := zmem (zt_2 (List.mem_of_getElem? (i := 122) rfl)) rfl
theorem k575 : (.code yX11_end cX11_end 2 (some .boolean) : Cond) ∈ zB := zmem (zt_2 (List.mem_of_getElem? (i := 127) rfl)) rfl
theorem k576 : (.classLink RX11 106 "java/lang/IllegalArgumentException" : Cond) ∈ zB := zmem (zt_4 (List.mem_of_getElem? (i := 121) rfl)) rfl
theorem k577 : (.initialized "java/lang/IllegalArgumentException" : Cond) ∈ zB := zmem (zt_1 (List.mem_of_getElem? (i := 22) rfl)) rfl
theorem k578 : (.classLink RX11 116 "java/lang/UnsupportedOperationException" : Cond) ∈ zB := zmem (zt_4 (List.mem_of_getElem? (i := 191) rfl)) rfl
theorem k579 : (.initialized "java/lang/UnsupportedOperationException" : Cond) ∈ zB := zmem (zt_1 (List.mem_of_getElem? (i := 23) rfl)) rfl
theorem k580 : (.fieldLink RX11 94 "DryRiver$TownText" "draft" "LDryRiver$Town;" : Cond) ∈ zB := zmem (zt_1 (List.mem_of_getElem? (i := 224) rfl)) rfl
theorem k581 : (.fieldLink RX11 105 "DryRiver$Tape" "fault" "I" : Cond) ∈ zB := zmem (zt_1 (List.mem_of_getElem? (i := 57) rfl)) rfl
theorem k582 : (.fieldLink RX11 113 "DryRiver$Town" "texts" "I" : Cond) ∈ zB := zmem (zt_1 (List.mem_of_getElem? (i := 89) rfl)) rfl
theorem k583 : (.methodLink RX11 87 yX6_useUp : Cond) ∈ zB := zmem (zt_3 (List.mem_of_getElem? (i := 161) rfl)) rfl
theorem k584 : (.instanceMethod yX6_useUp : Cond) ∈ zB := zmem (zt_3 (List.mem_of_getElem? (i := 162) rfl)) rfl
theorem k585 : (.selects RX6 yX6_useUp yX6_useUp : Cond) ∈ zB := zmem (zt_3 (List.mem_of_getElem? (i := 163) rfl)) rfl
theorem k586 : (.methodLink RX11 91 yX6_open : Cond) ∈ zB := zmem (zt_3 (List.mem_of_getElem? (i := 165) rfl)) rfl
theorem k587 : (.instanceMethod yX6_open : Cond) ∈ zB := zmem (zt_3 (List.mem_of_getElem? (i := 166) rfl)) rfl
theorem k588 : (.selects RX6 yX6_open yX6_open : Cond) ∈ zB := zmem (zt_3 (List.mem_of_getElem? (i := 167) rfl)) rfl
theorem k589 : (.methodLink RX11 97 yX9_copyFrom : Cond) ∈ zB := zmem (zt_3 (List.mem_of_getElem? (i := 174) rfl)) rfl
theorem k590 : (.methodLink RX11 101 ⟨"DryRiver$TownText", "readLines", "(I)I"⟩ : Cond) ∈ zB := zmem (zt_3 (List.mem_of_getElem? (i := 175) rfl)) rfl
theorem k591 : (.sameMethod "DryRiver$TownText" "DryRiver$Text" "readLines" "(I)I" : Cond) ∈ zB := zmem (zt_3 (List.mem_of_getElem? (i := 176) rfl)) rfl
theorem k592 : (.selects RX10 ⟨"DryRiver$TownText", "readLines", "(I)I"⟩ yX7_readLines : Cond) ∈ zB := zmem (zt_3 (List.mem_of_getElem? (i := 178) rfl)) rfl
theorem k593 : (.instanceMethod yX7_readLines : Cond) ∈ zB := zmem (zt_3 (List.mem_of_getElem? (i := 179) rfl)) rfl
theorem k594 : (.methodLink RX11 121 yX4_forget : Cond) ∈ zB := zmem (zt_4 (List.mem_of_getElem? (i := 207) rfl)) rfl
theorem k595 : (.code yX11_town cX11_town 2 (some .int) : Cond) ∈ zB := zmem (zt_3 (List.mem_of_getElem? (i := 160) rfl)) rfl
theorem k596 : (.fieldLink RX11 124 "DryRiver$LawText" "draft" "LDryRiver$Law;" : Cond) ∈ zB := zmem (zt_2 (List.mem_of_getElem? (i := 4) rfl)) rfl
theorem k597 : (.fieldLink RX11 132 "DryRiver$Law" "lines" "I" : Cond) ∈ zB := zmem (zt_1 (List.mem_of_getElem? (i := 178) rfl)) rfl
theorem k598 : (.methodLink RX11 126 yX1_clear : Cond) ∈ zB := zmem (zt_4 (List.mem_of_getElem? (i := 215) rfl)) rfl
theorem k599 : (.instanceMethod yX1_clear : Cond) ∈ zB := zmem (zt_4 (List.mem_of_getElem? (i := 216) rfl)) rfl
theorem k600 : (.selects RX1 yX1_clear yX1_clear : Cond) ∈ zB := zmem (zt_4 (List.mem_of_getElem? (i := 217) rfl)) rfl
theorem k601 : (.methodLink RX11 129 ⟨"DryRiver$LawText", "readLines", "(I)I"⟩ : Cond) ∈ zB := zmem (zt_4 (List.mem_of_getElem? (i := 219) rfl)) rfl
theorem k602 : (.sameMethod "DryRiver$LawText" "DryRiver$Text" "readLines" "(I)I" : Cond) ∈ zB := zmem (zt_4 (List.mem_of_getElem? (i := 220) rfl)) rfl
theorem k603 : (.selects RX2 ⟨"DryRiver$LawText", "readLines", "(I)I"⟩ yX7_readLines : Cond) ∈ zB := zmem (zt_4 (List.mem_of_getElem? (i := 221) rfl)) rfl
theorem k604 : (.methodLink RX11 135 yX1_copyFrom : Cond) ∈ zB := zmem (zt_4 (List.mem_of_getElem? (i := 223) rfl)) rfl
theorem k605 : (.code yX11_law cX11_law 2 (some .int) : Cond) ∈ zB := zmem (zt_4 (List.mem_of_getElem? (i := 214) rfl)) rfl
theorem k606 : (.code yX11_fault cX11_fault 1 (some .int) : Cond) ∈ zB := zmem (zt_2 (List.mem_of_getElem? (i := 131) rfl)) rfl
theorem k607 : (.code yX11_needPerson cX11_needPerson 2 none : Cond) ∈ zB := zmem (zt_4 (List.mem_of_getElem? (i := 236) rfl)) rfl
theorem k608 : (.classLink RX11 387 "java/lang/IndexOutOfBoundsException" : Cond) ∈ zB := zmem (zt_4 (List.mem_of_getElem? (i := 237) rfl)) rfl
theorem k609 : (.initialized "java/lang/IndexOutOfBoundsException" : Cond) ∈ zB := zmem (zt_1 (List.mem_of_getElem? (i := 24) rfl)) rfl
theorem k610 : (.fieldLink RX11 293 "DryRiver$Town" "people" "I" : Cond) ∈ zB := zmem (zt_1 (List.mem_of_getElem? (i := 84) rfl)) rfl
theorem k611 : (.classLink RX11 171 "java/util/NoSuchElementException" : Cond) ∈ zB := zmem (zt_5 (List.mem_of_getElem? (i := 22) rfl)) rfl
theorem k612 : (.initialized "java/util/NoSuchElementException" : Cond) ∈ zB := zmem (zt_1 (List.mem_of_getElem? (i := 26) rfl)) rfl
theorem k613 : (.fieldLink RX11 141 "DryRiver$Town" "belief" "[I" : Cond) ∈ zB := zmem (zt_1 (List.mem_of_getElem? (i := 105) rfl)) rfl
theorem k614 : (.fieldLink RX11 145 "DryRiver$Town" "purse" "[I" : Cond) ∈ zB := zmem (zt_1 (List.mem_of_getElem? (i := 108) rfl)) rfl
theorem k615 : (.fieldLink RX11 148 "DryRiver$Town" "shares" "[I" : Cond) ∈ zB := zmem (zt_1 (List.mem_of_getElem? (i := 111) rfl)) rfl
theorem k616 : (.fieldLink RX11 151 "DryRiver$Town" "dry" "[Z" : Cond) ∈ zB := zmem (zt_1 (List.mem_of_getElem? (i := 117) rfl)) rfl
theorem k617 : (.fieldLink RX11 155 "DryRiver$Town" "till" "[I" : Cond) ∈ zB := zmem (zt_1 (List.mem_of_getElem? (i := 114) rfl)) rfl
theorem k618 : (.methodLink RX11 138 yX11_needPerson : Cond) ∈ zB := zmem (zt_4 (List.mem_of_getElem? (i := 233) rfl)) rfl
theorem k619 : (.instanceMethod yX11_needPerson : Cond) ∈ zB := zmem (zt_4 (List.mem_of_getElem? (i := 235) rfl)) rfl
theorem k620 : (.selects RX11 yX11_needPerson yX11_needPerson : Cond) ∈ zB := zmem (List.mem_of_getElem? (i := 19) (by decide +kernel)) rfl
theorem k621 : (.initialized RX11 : Cond) ∈ zB := zmem (zt_1 (List.mem_of_getElem? (i := 1) rfl)) rfl
theorem k622 : (.methodLink RX11 158 yX9_pullOf : Cond) ∈ zB := zmem (zt_5 (List.mem_of_getElem? (i := 13) rfl)) rfl
theorem k623 : (.methodLink RX11 161 yX9_turnsOf : Cond) ∈ zB := zmem (zt_5 (List.mem_of_getElem? (i := 14) rfl)) rfl
theorem k624 : (.instanceMethod yX9_turnsOf : Cond) ∈ zB := zmem (zt_5 (List.mem_of_getElem? (i := 15) rfl)) rfl
theorem k625 : (.selects RX9 yX9_turnsOf yX9_turnsOf : Cond) ∈ zB := zmem (zt_5 (List.mem_of_getElem? (i := 16) rfl)) rfl
theorem k626 : (.methodLink RX11 165 yX9_worthOf : Cond) ∈ zB := zmem (zt_3 (List.mem_of_getElem? (i := 77) rfl)) rfl
theorem k627 : (.instanceMethod yX9_worthOf : Cond) ∈ zB := zmem (zt_3 (List.mem_of_getElem? (i := 78) rfl)) rfl
theorem k628 : (.selects RX9 yX9_worthOf yX9_worthOf : Cond) ∈ zB := zmem (zt_3 (List.mem_of_getElem? (i := 79) rfl)) rfl
theorem k629 : (.methodLink RX11 168 yX9_shareOf : Cond) ∈ zB := zmem (zt_5 (List.mem_of_getElem? (i := 18) rfl)) rfl
theorem k630 : (.instanceMethod yX9_shareOf : Cond) ∈ zB := zmem (zt_5 (List.mem_of_getElem? (i := 19) rfl)) rfl
theorem k631 : (.selects RX9 yX9_shareOf yX9_shareOf : Cond) ∈ zB := zmem (zt_5 (List.mem_of_getElem? (i := 20) rfl)) rfl
theorem k632 : (.code yX11_person cX11_person 3 (some .int) : Cond) ∈ zB := zmem (zt_4 (List.mem_of_getElem? (i := 232) rfl)) rfl
theorem k633 : (.code yX11_needTwo cX11_needTwo 3 none : Cond) ∈ zB := zmem (zt_5 (List.mem_of_getElem? (i := 48) rfl)) rfl
theorem k634 : (.code yX11_trust cX11_trust 3 (some .int) : Cond) ∈ zB := zmem (zt_5 (List.mem_of_getElem? (i := 44) rfl)) rfl
theorem k635 : (.methodLink RX11 176 yX11_needTwo : Cond) ∈ zB := zmem (zt_5 (List.mem_of_getElem? (i := 45) rfl)) rfl
theorem k636 : (.instanceMethod yX11_needTwo : Cond) ∈ zB := zmem (zt_5 (List.mem_of_getElem? (i := 47) rfl)) rfl
theorem k637 : (.selects RX11 yX11_needTwo yX11_needTwo : Cond) ∈ zB := zmem (List.mem_of_getElem? (i := 20) (by decide +kernel)) rfl
theorem k638 : (.methodLink RX11 180 yX9_trustOf : Cond) ∈ zB := zmem (zt_5 (List.mem_of_getElem? (i := 50) rfl)) rfl
theorem k639 : (.code yX11_needWork cX11_needWork 2 none : Cond) ∈ zB := zmem (zt_5 (List.mem_of_getElem? (i := 61) rfl)) rfl
theorem k640 : (.fieldLink RX11 371 "DryRiver$Town" "works" "I" : Cond) ∈ zB := zmem (zt_1 (List.mem_of_getElem? (i := 87) rfl)) rfl
theorem k641 : (.code yX11_work cX11_work 3 (some .int) : Cond) ∈ zB := zmem (zt_5 (List.mem_of_getElem? (i := 57) rfl)) rfl
theorem k642 : (.fieldLink RX11 187 "DryRiver$Town" "cost" "[I" : Cond) ∈ zB := zmem (zt_1 (List.mem_of_getElem? (i := 120) rfl)) rfl
theorem k643 : (.fieldLink RX11 190 "DryRiver$Town" "need" "[I" : Cond) ∈ zB := zmem (zt_1 (List.mem_of_getElem? (i := 122) rfl)) rfl
theorem k644 : (.fieldLink RX11 193 "DryRiver$Town" "gain" "[I" : Cond) ∈ zB := zmem (zt_1 (List.mem_of_getElem? (i := 124) rfl)) rfl
theorem k645 : (.fieldLink RX11 196 "DryRiver$Town" "state" "[I" : Cond) ∈ zB := zmem (zt_1 (List.mem_of_getElem? (i := 127) rfl)) rfl
theorem k646 : (.methodLink RX11 184 yX11_needWork : Cond) ∈ zB := zmem (zt_5 (List.mem_of_getElem? (i := 58) rfl)) rfl
theorem k647 : (.instanceMethod yX11_needWork : Cond) ∈ zB := zmem (zt_5 (List.mem_of_getElem? (i := 60) rfl)) rfl
theorem k648 : (.selects RX11 yX11_needWork yX11_needWork : Cond) ∈ zB := zmem (List.mem_of_getElem? (i := 21) (by decide +kernel)) rfl
theorem k649 : (.methodLink RX11 201 yX9_sharePrice : Cond) ∈ zB := zmem (zt_2 (List.mem_of_getElem? (i := 136) rfl)) rfl
theorem k650 : (.code yX11_price cX11_price 1 (some .int) : Cond) ∈ zB := zmem (zt_2 (List.mem_of_getElem? (i := 135) rfl)) rfl
theorem k651 : (.code yX11_needState cX11_needState 2 none : Cond) ∈ zB := zmem (zt_5 (List.mem_of_getElem? (i := 79) rfl)) rfl
theorem k652 : (.classLink RX11 396 "java/lang/IllegalStateException" : Cond) ∈ zB := zmem (zt_5 (List.mem_of_getElem? (i := 80) rfl)) rfl
theorem k653 : (.initialized "java/lang/IllegalStateException" : Cond) ∈ zB := zmem (zt_1 (List.mem_of_getElem? (i := 27) rfl)) rfl
theorem k654 : (.code yX11_needHere cX11_needHere 2 none : Cond) ∈ zB := zmem (zt_5 (List.mem_of_getElem? (i := 75) rfl)) rfl
theorem k655 : (.methodLink RX11 329 yX9_isHere : Cond) ∈ zB := zmem (zt_3 (List.mem_of_getElem? (i := 86) rfl)) rfl
theorem k656 : (.methodLink RX11 221 yX11_needState : Cond) ∈ zB := zmem (zt_5 (List.mem_of_getElem? (i := 76) rfl)) rfl
theorem k657 : (.instanceMethod yX11_needState : Cond) ∈ zB := zmem (zt_5 (List.mem_of_getElem? (i := 78) rfl)) rfl
theorem k658 : (.selects RX11 yX11_needState yX11_needState : Cond) ∈ zB := zmem (List.mem_of_getElem? (i := 23) (by decide +kernel)) rfl
theorem k659 : (.methodLink RX11 204 yX11_needHere : Cond) ∈ zB := zmem (zt_5 (List.mem_of_getElem? (i := 72) rfl)) rfl
theorem k660 : (.instanceMethod yX11_needHere : Cond) ∈ zB := zmem (zt_5 (List.mem_of_getElem? (i := 74) rfl)) rfl
theorem k661 : (.selects RX11 yX11_needHere yX11_needHere : Cond) ∈ zB := zmem (List.mem_of_getElem? (i := 22) (by decide +kernel)) rfl
theorem k662 : (.methodLink RX11 207 yX4_remember : Cond) ∈ zB := zmem (zt_5 (List.mem_of_getElem? (i := 96) rfl)) rfl
theorem k663 : (.instanceMethod yX4_remember : Cond) ∈ zB := zmem (zt_5 (List.mem_of_getElem? (i := 97) rfl)) rfl
theorem k664 : (.selects RX4 yX4_remember yX4_remember : Cond) ∈ zB := zmem (zt_5 (List.mem_of_getElem? (i := 98) rfl)) rfl
theorem k665 : (.methodLink RX11 211 yX9_raise : Cond) ∈ zB := zmem (zt_5 (List.mem_of_getElem? (i := 101) rfl)) rfl
theorem k666 : (.code yX11_tell cX11_tell 2 (some .int) : Cond) ∈ zB := zmem (zt_5 (List.mem_of_getElem? (i := 71) rfl)) rfl
theorem k667 : (.code yX11_needWithin cX11_needWithin 4 none : Cond) ∈ zB := zmem (zt_5 (List.mem_of_getElem? (i := 112) rfl)) rfl
theorem k668 : (.methodLink RX11 214 yX11_needWithin : Cond) ∈ zB := zmem (zt_5 (List.mem_of_getElem? (i := 109) rfl)) rfl
theorem k669 : (.instanceMethod yX11_needWithin : Cond) ∈ zB := zmem (zt_5 (List.mem_of_getElem? (i := 111) rfl)) rfl
theorem k670 : (.selects RX11 yX11_needWithin yX11_needWithin : Cond) ∈ zB := zmem (List.mem_of_getElem? (i := 24) (by decide +kernel)) rfl
theorem k671 : (.methodLink RX11 218 yX9_setTrust : Cond) ∈ zB := zmem (zt_5 (List.mem_of_getElem? (i := 114) rfl)) rfl
theorem k672 : (.code yX11_tie cX11_tie 5 (some .int) : Cond) ∈ zB := zmem (zt_5 (List.mem_of_getElem? (i := 108) rfl)) rfl
theorem k673 : (.code yX11_plan cX11_plan 2 none : Cond) ∈ zB := zmem (zt_5 (List.mem_of_getElem? (i := 121) rfl)) rfl
theorem k674 : (.fieldLink RX11 225 "DryRiver$Town" "day" "I" : Cond) ∈ zB := zmem (zt_1 (List.mem_of_getElem? (i := 100) rfl)) rfl
theorem k675 : (.fieldLink RX11 228 "DryRiver$Town" "journey" "I" : Cond) ∈ zB := zmem (zt_1 (List.mem_of_getElem? (i := 95) rfl)) rfl
theorem k676 : (.code yX11_send cX11_send 2 (some .int) : Cond) ∈ zB := zmem (zt_5 (List.mem_of_getElem? (i := 128) rfl)) rfl
theorem k677 : (.fieldLink RX11 231 "DryRiver$Town" "chest" "I" : Cond) ∈ zB := zmem (zt_1 (List.mem_of_getElem? (i := 92) rfl)) rfl
theorem k678 : (.methodLink RX11 234 Lib.Math.min.name : Cond) ∈ zB := zmem (zt_5 (List.mem_of_getElem? (i := 136) rfl)) rfl
theorem k679 : (.code yX11_buy cX11_buy 4 (some .int) : Cond) ∈ zB := zmem (zt_5 (List.mem_of_getElem? (i := 135) rfl)) rfl
theorem k680 : (.code yX11_sell cX11_sell 4 (some .int) : Cond) ∈ zB := zmem (zt_5 (List.mem_of_getElem? (i := 143) rfl)) rfl
theorem k681 : (.code yX11_dry cX11_dry 4 (some .boolean) : Cond) ∈ zB := zmem (zt_5 (List.mem_of_getElem? (i := 150) rfl)) rfl
theorem k682 : (.methodLink RX11 239 yX9_passDay : Cond) ∈ zB := zmem (zt_5 (List.mem_of_getElem? (i := 158) rfl)) rfl
theorem k683 : (.code yX11_days cX11_days 4 (some .int) : Cond) ∈ zB := zmem (zt_5 (List.mem_of_getElem? (i := 157) rfl)) rfl
theorem k684 : (.fieldLink RX11 247 "DryRiver$Foresight" "dream" "LDryRiver$Town;" : Cond) ∈ zB := zmem (zt_2 (List.mem_of_getElem? (i := 60) rfl)) rfl
theorem k685 : (.methodLink RX11 243 yX0_lookAhead : Cond) ∈ zB := zmem (zt_5 (List.mem_of_getElem? (i := 166) rfl)) rfl
theorem k686 : (.code yX11_ahead cX11_ahead 3 (some .int) : Cond) ∈ zB := zmem (zt_5 (List.mem_of_getElem? (i := 165) rfl)) rfl
theorem k687 : (.code yX11_then cX11_then 4 (some .int) : Cond) ∈ zB := zmem (zt_5 (List.mem_of_getElem? (i := 178) rfl)) rfl
theorem k688 : (.code yX11_sways cX11_sways 3 (some .int) : Cond) ∈ zB := zmem (zt_5 (List.mem_of_getElem? (i := 185) rfl)) rfl
theorem k689 : (.methodLink RX11 250 yX0_strongest : Cond) ∈ zB := zmem (zt_5 (List.mem_of_getElem? (i := 193) rfl)) rfl
theorem k690 : (.instanceMethod yX0_strongest : Cond) ∈ zB := zmem (zt_5 (List.mem_of_getElem? (i := 194) rfl)) rfl
theorem k691 : (.selects RX0 yX0_strongest yX0_strongest : Cond) ∈ zB := zmem (zt_5 (List.mem_of_getElem? (i := 195) rfl)) rfl
theorem k692 : (.code yX11_guru cX11_guru 2 (some .int) : Cond) ∈ zB := zmem (zt_5 (List.mem_of_getElem? (i := 192) rfl)) rfl
theorem k693 : (.methodLink RX11 253 yX0_fewestTold : Cond) ∈ zB := zmem (zt_5 (List.mem_of_getElem? (i := 206) rfl)) rfl
theorem k694 : (.instanceMethod yX0_fewestTold : Cond) ∈ zB := zmem (zt_5 (List.mem_of_getElem? (i := 207) rfl)) rfl
theorem k695 : (.selects RX0 yX0_fewestTold yX0_fewestTold : Cond) ∈ zB := zmem (zt_5 (List.mem_of_getElem? (i := 208) rfl)) rfl
theorem k696 : (.code yX11_must cX11_must 3 (some .int) : Cond) ∈ zB := zmem (zt_5 (List.mem_of_getElem? (i := 205) rfl)) rfl
theorem k697 : (.methodLink RX11 256 yX0_firstBelieved : Cond) ∈ zB := zmem (zt_5 (List.mem_of_getElem? (i := 219) rfl)) rfl
theorem k698 : (.instanceMethod yX0_firstBelieved : Cond) ∈ zB := zmem (zt_5 (List.mem_of_getElem? (i := 220) rfl)) rfl
theorem k699 : (.selects RX0 yX0_firstBelieved yX0_firstBelieved : Cond) ∈ zB := zmem (zt_5 (List.mem_of_getElem? (i := 221) rfl)) rfl
theorem k700 : (.code yX11_reaches cX11_reaches 2 (some .int) : Cond) ∈ zB := zmem (zt_5 (List.mem_of_getElem? (i := 218) rfl)) rfl
theorem k701 : (.code yX11_doubts cX11_doubts 1 (some .int) : Cond) ∈ zB := zmem (zt_2 (List.mem_of_getElem? (i := 165) rfl)) rfl
theorem k702 : (.methodLink RX11 259 yX9_doubters : Cond) ∈ zB := zmem (zt_2 (List.mem_of_getElem? (i := 166) rfl)) rfl
theorem k703 : (.methodLink RX11 262 yX0_firstRuin : Cond) ∈ zB := zmem (zt_2 (List.mem_of_getElem? (i := 174) rfl)) rfl
theorem k704 : (.instanceMethod yX0_firstRuin : Cond) ∈ zB := zmem (zt_2 (List.mem_of_getElem? (i := 175) rfl)) rfl
theorem k705 : (.selects RX0 yX0_firstRuin yX0_firstRuin : Cond) ∈ zB := zmem (zt_2 (List.mem_of_getElem? (i := 176) rfl)) rfl
theorem k706 : (.code yX11_ruin cX11_ruin 1 (some .int) : Cond) ∈ zB := zmem (zt_2 (List.mem_of_getElem? (i := 173) rfl)) rfl
theorem k707 : (.methodLink RX11 265 yX0_greatestPrice : Cond) ∈ zB := zmem (zt_5 (List.mem_of_getElem? (i := 230) rfl)) rfl
theorem k708 : (.instanceMethod yX0_greatestPrice : Cond) ∈ zB := zmem (zt_5 (List.mem_of_getElem? (i := 231) rfl)) rfl
theorem k709 : (.selects RX0 yX0_greatestPrice yX0_greatestPrice : Cond) ∈ zB := zmem (zt_5 (List.mem_of_getElem? (i := 232) rfl)) rfl
theorem k710 : (.code yX11_dearest cX11_dearest 3 (some .int) : Cond) ∈ zB := zmem (zt_5 (List.mem_of_getElem? (i := 229) rfl)) rfl
theorem k711 : (.methodLink RX11 269 yX9_worksIn : Cond) ∈ zB := zmem (zt_3 (List.mem_of_getElem? (i := 147) rfl)) rfl
theorem k712 : (.code yX11_falls cX11_falls 2 (some .int) : Cond) ∈ zB := zmem (zt_6 (List.mem_of_getElem? (i := 1) rfl)) rfl
theorem k713 : (.methodLink RX11 272 yX9_bestWorks : Cond) ∈ zB := zmem (zt_3 (List.mem_of_getElem? (i := 35) rfl)) rfl
theorem k714 : (.instanceMethod yX9_bestWorks : Cond) ∈ zB := zmem (zt_3 (List.mem_of_getElem? (i := 36) rfl)) rfl
theorem k715 : (.selects RX9 yX9_bestWorks yX9_bestWorks : Cond) ∈ zB := zmem (zt_3 (List.mem_of_getElem? (i := 37) rfl)) rfl
theorem k716 : (.methodLink RX11 275 yX9_gainOf : Cond) ∈ zB := zmem (zt_3 (List.mem_of_getElem? (i := 47) rfl)) rfl
theorem k717 : (.code yX11_chosen cX11_chosen 3 (some .int) : Cond) ∈ zB := zmem (zt_3 (List.mem_of_getElem? (i := 34) rfl)) rfl
theorem k718 : (.code yX11_needTales cX11_needTales 3 none : Cond) ∈ zB := zmem (zt_6 (List.mem_of_getElem? (i := 12) rfl)) rfl
theorem k719 : (.methodLink RX11 403 yX6_holdsTales : Cond) ∈ zB := zmem (zt_6 (List.mem_of_getElem? (i := 13) rfl)) rfl
theorem k720 : (.instanceMethod yX6_holdsTales : Cond) ∈ zB := zmem (zt_6 (List.mem_of_getElem? (i := 14) rfl)) rfl
theorem k721 : (.selects RX6 yX6_holdsTales yX6_holdsTales : Cond) ∈ zB := zmem (zt_6 (List.mem_of_getElem? (i := 15) rfl)) rfl
theorem k722 : (.methodLink RX11 278 yX11_needTales : Cond) ∈ zB := zmem (zt_6 (List.mem_of_getElem? (i := 9) rfl)) rfl
theorem k723 : (.instanceMethod yX11_needTales : Cond) ∈ zB := zmem (zt_6 (List.mem_of_getElem? (i := 11) rfl)) rfl
theorem k724 : (.selects RX11 yX11_needTales yX11_needTales : Cond) ∈ zB := zmem (List.mem_of_getElem? (i := 25) (by decide +kernel)) rfl
theorem k725 : (.methodLink RX11 281 yX6_lead : Cond) ∈ zB := zmem (zt_6 (List.mem_of_getElem? (i := 18) rfl)) rfl
theorem k726 : (.instanceMethod yX6_lead : Cond) ∈ zB := zmem (zt_6 (List.mem_of_getElem? (i := 19) rfl)) rfl
theorem k727 : (.selects RX6 yX6_lead yX6_lead : Cond) ∈ zB := zmem (zt_6 (List.mem_of_getElem? (i := 20) rfl)) rfl
theorem k728 : (.methodLink RX11 284 yX5_odds : Cond) ∈ zB := zmem (zt_6 (List.mem_of_getElem? (i := 22) rfl)) rfl
theorem k729 : (.code yX11_river cX11_river 3 (some .int) : Cond) ∈ zB := zmem (zt_6 (List.mem_of_getElem? (i := 8) rfl)) rfl
theorem k730 : (.methodLink RX11 287 yX5_fewestNeeded : Cond) ∈ zB := zmem (zt_6 (List.mem_of_getElem? (i := 34) rfl)) rfl
theorem k731 : (.static yX5_fewestNeeded : Cond) ∈ zB := zmem (zt_6 (List.mem_of_getElem? (i := 35) rfl)) rfl
theorem k732 : (.code yX11_more cX11_more 3 (some .int) : Cond) ∈ zB := zmem (zt_6 (List.mem_of_getElem? (i := 33) rfl)) rfl
theorem k733 : (.code yX11_needSaid cX11_needSaid 2 none : Cond) ∈ zB := zmem (zt_6 (List.mem_of_getElem? (i := 48) rfl)) rfl
theorem k734 : (.methodLink RX11 408 yX6_holdsSaid : Cond) ∈ zB := zmem (zt_6 (List.mem_of_getElem? (i := 49) rfl)) rfl
theorem k735 : (.instanceMethod yX6_holdsSaid : Cond) ∈ zB := zmem (zt_6 (List.mem_of_getElem? (i := 50) rfl)) rfl
theorem k736 : (.selects RX6 yX6_holdsSaid yX6_holdsSaid : Cond) ∈ zB := zmem (zt_6 (List.mem_of_getElem? (i := 51) rfl)) rfl
theorem k737 : (.fieldLink RX11 303 "DryRiver$Riddles" "fitting" "I" : Cond) ∈ zB := zmem (zt_2 (List.mem_of_getElem? (i := 77) rfl)) rfl
theorem k738 : (.methodLink RX11 290 yX11_needSaid : Cond) ∈ zB := zmem (zt_6 (List.mem_of_getElem? (i := 45) rfl)) rfl
theorem k739 : (.instanceMethod yX11_needSaid : Cond) ∈ zB := zmem (zt_6 (List.mem_of_getElem? (i := 47) rfl)) rfl
theorem k740 : (.selects RX11 yX11_needSaid yX11_needSaid : Cond) ∈ zB := zmem (List.mem_of_getElem? (i := 26) (by decide +kernel)) rfl
theorem k741 : (.methodLink RX11 296 yX5_hear : Cond) ∈ zB := zmem (zt_6 (List.mem_of_getElem? (i := 54) rfl)) rfl
theorem k742 : (.instanceMethod yX5_hear : Cond) ∈ zB := zmem (zt_6 (List.mem_of_getElem? (i := 55) rfl)) rfl
theorem k743 : (.selects RX5 yX5_hear yX5_hear : Cond) ∈ zB := zmem (zt_6 (List.mem_of_getElem? (i := 56) rfl)) rfl
theorem k744 : (.methodLink RX11 300 yX5_honestInAll : Cond) ∈ zB := zmem (zt_6 (List.mem_of_getElem? (i := 67) rfl)) rfl
theorem k745 : (.instanceMethod yX5_honestInAll : Cond) ∈ zB := zmem (zt_6 (List.mem_of_getElem? (i := 68) rfl)) rfl
theorem k746 : (.selects RX5 yX5_honestInAll yX5_honestInAll : Cond) ∈ zB := zmem (zt_6 (List.mem_of_getElem? (i := 69) rfl)) rfl
theorem k747 : (.code yX11_liars cX11_liars 3 (some .int) : Cond) ∈ zB := zmem (zt_6 (List.mem_of_getElem? (i := 44) rfl)) rfl
theorem k748 : (.methodLink RX11 306 yX5_bestQuestion : Cond) ∈ zB := zmem (zt_6 (List.mem_of_getElem? (i := 78) rfl)) rfl
theorem k749 : (.instanceMethod yX5_bestQuestion : Cond) ∈ zB := zmem (zt_6 (List.mem_of_getElem? (i := 79) rfl)) rfl
theorem k750 : (.selects RX5 yX5_bestQuestion yX5_bestQuestion : Cond) ∈ zB := zmem (zt_6 (List.mem_of_getElem? (i := 80) rfl)) rfl
theorem k751 : (.code yX11_ask cX11_ask 2 (some .int) : Cond) ∈ zB := zmem (zt_6 (List.mem_of_getElem? (i := 77) rfl)) rfl
theorem k752 : (.code yX11_word cX11_word 2 (some .int) : Cond) ∈ zB := zmem (zt_6 (List.mem_of_getElem? (i := 93) rfl)) rfl
theorem k753 : (.methodLink RX11 309 yX8_wordOf : Cond) ∈ zB := zmem (zt_6 (List.mem_of_getElem? (i := 94) rfl)) rfl
theorem k754 : (.methodLink RX11 315 yX8_fewestSteps : Cond) ∈ zB := zmem (zt_6 (List.mem_of_getElem? (i := 102) rfl)) rfl
theorem k755 : (.static yX8_fewestSteps : Cond) ∈ zB := zmem (zt_6 (List.mem_of_getElem? (i := 103) rfl)) rfl
theorem k756 : (.code yX11_steps cX11_steps 3 (some .int) : Cond) ∈ zB := zmem (zt_6 (List.mem_of_getElem? (i := 101) rfl)) rfl
theorem k757 : (.code yX11_circles cX11_circles 1 (some .int) : Cond) ∈ zB := zmem (zt_3 (List.mem_of_getElem? (i := 51) rfl)) rfl
theorem k758 : (.methodLink RX11 319 yX8_countCircles : Cond) ∈ zB := zmem (zt_3 (List.mem_of_getElem? (i := 52) rfl)) rfl
theorem k759 : (.static yX8_countCircles : Cond) ∈ zB := zmem (zt_3 (List.mem_of_getElem? (i := 53) rfl)) rfl
theorem k760 : (.code yX11_hermits cX11_hermits 1 (some .int) : Cond) ∈ zB := zmem (zt_3 (List.mem_of_getElem? (i := 68) rfl)) rfl
theorem k761 : (.methodLink RX11 323 yX8_untied : Cond) ∈ zB := zmem (zt_3 (List.mem_of_getElem? (i := 69) rfl)) rfl
theorem k762 : (.static yX8_untied : Cond) ∈ zB := zmem (zt_3 (List.mem_of_getElem? (i := 70) rfl)) rfl
theorem k763 : (.methodLink RX11 326 yX5_choicesAtRest : Cond) ∈ zB := zmem (zt_6 (List.mem_of_getElem? (i := 112) rfl)) rfl
theorem k764 : (.static yX5_choicesAtRest : Cond) ∈ zB := zmem (zt_6 (List.mem_of_getElem? (i := 113) rfl)) rfl
theorem k765 : (.code yX11_rests cX11_rests 3 (some .int) : Cond) ∈ zB := zmem (zt_6 (List.mem_of_getElem? (i := 111) rfl)) rfl
theorem k766 : (.code yX11_richest cX11_richest 3 (some .int) : Cond) ∈ zB := zmem (zt_3 (List.mem_of_getElem? (i := 76) rfl)) rfl
theorem k767 : (.code yX11_firmest cX11_firmest 3 (some .int) : Cond) ∈ zB := zmem (zt_3 (List.mem_of_getElem? (i := 85) rfl)) rfl
theorem k768 : (.methodLink RX11 333 yX0_firstFallen : Cond) ∈ zB := zmem (zt_6 (List.mem_of_getElem? (i := 131) rfl)) rfl
theorem k769 : (.instanceMethod yX0_firstFallen : Cond) ∈ zB := zmem (zt_6 (List.mem_of_getElem? (i := 132) rfl)) rfl
theorem k770 : (.selects RX0 yX0_firstFallen yX0_firstFallen : Cond) ∈ zB := zmem (zt_6 (List.mem_of_getElem? (i := 133) rfl)) rfl
theorem k771 : (.code yX11_last cX11_last 2 (some .int) : Cond) ∈ zB := zmem (zt_6 (List.mem_of_getElem? (i := 130) rfl)) rfl
theorem k772 : (.code yX11_home cX11_home 1 (some .int) : Cond) ∈ zB := zmem (zt_3 (List.mem_of_getElem? (i := 90) rfl)) rfl
theorem k773 : (.methodLink RX11 336 yX9_firstComing : Cond) ∈ zB := zmem (zt_3 (List.mem_of_getElem? (i := 91) rfl)) rfl
theorem k774 : (.instanceMethod yX9_firstComing : Cond) ∈ zB := zmem (zt_3 (List.mem_of_getElem? (i := 92) rfl)) rfl
theorem k775 : (.selects RX9 yX9_firstComing yX9_firstComing : Cond) ∈ zB := zmem (zt_3 (List.mem_of_getElem? (i := 93) rfl)) rfl
theorem k776 : (.fieldLink RX11 339 "DryRiver$Town" "seed" "I" : Cond) ∈ zB := zmem (zt_1 (List.mem_of_getElem? (i := 103) rfl)) rfl
theorem k777 : (.methodLink RX11 342 yX0_tryOut : Cond) ∈ zB := zmem (zt_6 (List.mem_of_getElem? (i := 142) rfl)) rfl
theorem k778 : (.code yX11_trial cX11_trial 4 (some .int) : Cond) ∈ zB := zmem (zt_6 (List.mem_of_getElem? (i := 141) rfl)) rfl
theorem k779 : (.methodLink RX11 345 yX0_utmostOfSeeds : Cond) ∈ zB := zmem (zt_6 (List.mem_of_getElem? (i := 153) rfl)) rfl
theorem k780 : (.instanceMethod yX0_utmostOfSeeds : Cond) ∈ zB := zmem (zt_6 (List.mem_of_getElem? (i := 154) rfl)) rfl
theorem k781 : (.selects RX0 yX0_utmostOfSeeds yX0_utmostOfSeeds : Cond) ∈ zB := zmem (zt_6 (List.mem_of_getElem? (i := 155) rfl)) rfl
theorem k782 : (.code yX11_span cX11_span 3 (some .int) : Cond) ∈ zB := zmem (zt_6 (List.mem_of_getElem? (i := 152) rfl)) rfl
theorem k783 : (.methodLink RX11 348 yX3_latestDayOf : Cond) ∈ zB := zmem (zt_6 (List.mem_of_getElem? (i := 165) rfl)) rfl
theorem k784 : (.instanceMethod yX3_latestDayOf : Cond) ∈ zB := zmem (zt_6 (List.mem_of_getElem? (i := 166) rfl)) rfl
theorem k785 : (.selects RX3 yX3_latestDayOf yX3_latestDayOf : Cond) ∈ zB := zmem (zt_6 (List.mem_of_getElem? (i := 167) rfl)) rfl
theorem k786 : (.methodLink RX11 351 yX3_rowsOf : Cond) ∈ zB := zmem (zt_6 (List.mem_of_getElem? (i := 178) rfl)) rfl
theorem k787 : (.instanceMethod yX3_rowsOf : Cond) ∈ zB := zmem (zt_6 (List.mem_of_getElem? (i := 179) rfl)) rfl
theorem k788 : (.selects RX3 yX3_rowsOf yX3_rowsOf : Cond) ∈ zB := zmem (zt_6 (List.mem_of_getElem? (i := 180) rfl)) rfl
theorem k789 : (.code yX11_led cX11_led 3 (some .int) : Cond) ∈ zB := zmem (zt_6 (List.mem_of_getElem? (i := 164) rfl)) rfl
theorem k790 : (.code yX11_log cX11_log 3 (some .int) : Cond) ∈ zB := zmem (zt_6 (List.mem_of_getElem? (i := 188) rfl)) rfl
theorem k791 : (.methodLink RX11 356 yX3_at : Cond) ∈ zB := zmem (zt_6 (List.mem_of_getElem? (i := 190) rfl)) rfl
theorem k792 : (.code yX11_seed cX11_seed 3 (some .int) : Cond) ∈ zB := zmem (zt_3 (List.mem_of_getElem? (i := 98) rfl)) rfl
theorem k793 : (.methodLink RX11 359 yX4_recall : Cond) ∈ zB := zmem (zt_3 (List.mem_of_getElem? (i := 103) rfl)) rfl
theorem k794 : (.instanceMethod yX4_recall : Cond) ∈ zB := zmem (zt_3 (List.mem_of_getElem? (i := 104) rfl)) rfl
theorem k795 : (.selects RX4 yX4_recall yX4_recall : Cond) ∈ zB := zmem (zt_3 (List.mem_of_getElem? (i := 105) rfl)) rfl
theorem k796 : (.code yX11_undo cX11_undo 1 (some .boolean) : Cond) ∈ zB := zmem (zt_3 (List.mem_of_getElem? (i := 102) rfl)) rfl
theorem k797 : (.methodLink RX11 363 yX4_keepImage : Cond) ∈ zB := zmem (zt_3 (List.mem_of_getElem? (i := 120) rfl)) rfl
theorem k798 : (.instanceMethod yX4_keepImage : Cond) ∈ zB := zmem (zt_3 (List.mem_of_getElem? (i := 121) rfl)) rfl
theorem k799 : (.selects RX4 yX4_keepImage yX4_keepImage : Cond) ∈ zB := zmem (zt_3 (List.mem_of_getElem? (i := 122) rfl)) rfl
theorem k800 : (.code yX11_image cX11_image 1 none : Cond) ∈ zB := zmem (zt_3 (List.mem_of_getElem? (i := 119) rfl)) rfl
theorem k801 : (.methodLink RX11 367 yX4_giveBackImage : Cond) ∈ zB := zmem (zt_3 (List.mem_of_getElem? (i := 133) rfl)) rfl
theorem k802 : (.instanceMethod yX4_giveBackImage : Cond) ∈ zB := zmem (zt_3 (List.mem_of_getElem? (i := 134) rfl)) rfl
theorem k803 : (.selects RX4 yX4_giveBackImage yX4_giveBackImage : Cond) ∈ zB := zmem (zt_3 (List.mem_of_getElem? (i := 135) rfl)) rfl
theorem k804 : (.code yX11_back cX11_back 1 (some .boolean) : Cond) ∈ zB := zmem (zt_3 (List.mem_of_getElem? (i := 132) rfl)) rfl
theorem k805 : (.fieldLink RX11 383 "DryRiver$Log" "size" "I" : Cond) ∈ zB := zmem (zt_1 (List.mem_of_getElem? (i := 203) rfl)) rfl
theorem k806 : (.fieldLink RX11 384 "DryRiver$Memory" "held" "I" : Cond) ∈ zB := zmem (zt_2 (List.mem_of_getElem? (i := 30) rfl)) rfl
theorem k807 : (.methodLink RX11 374 yX9_believed : Cond) ∈ zB := zmem (zt_3 (List.mem_of_getElem? (i := 145) rfl)) rfl
theorem k808 : (.methodLink RX11 377 yX9_peopleHere : Cond) ∈ zB := zmem (zt_3 (List.mem_of_getElem? (i := 146) rfl)) rfl
theorem k809 : (.methodLink RX11 380 yX9_sharesOfAll : Cond) ∈ zB := zmem (zt_3 (List.mem_of_getElem? (i := 148) rfl)) rfl
theorem k810 : (.instanceMethod yX9_sharesOfAll : Cond) ∈ zB := zmem (zt_3 (List.mem_of_getElem? (i := 149) rfl)) rfl
theorem k811 : (.selects RX9 yX9_sharesOfAll yX9_sharesOfAll : Cond) ∈ zB := zmem (zt_3 (List.mem_of_getElem? (i := 150) rfl)) rfl
theorem k812 : (.code yX11_count cX11_count 2 (some .int) : Cond) ∈ zB := zmem (zt_3 (List.mem_of_getElem? (i := 144) rfl)) rfl
theorem k813 : (.code yX12_init cX12_init 1 none : Cond) ∈ zB := zmem (zt_6 (List.mem_of_getElem? (i := 195) rfl)) rfl
theorem k814 : (.methodLink RX12 1 objectInit : Cond) ∈ zB := zmem (zt_6 (List.mem_of_getElem? (i := 196) rfl)) rfl
theorem k815 : (.fieldLink RX12 7 "DryRiverModel" "m" "[I" : Cond) ∈ zB := zmem (zt_6 (List.mem_of_getElem? (i := 198) rfl)) rfl
theorem k816 : (.fieldLink RX12 13 "DryRiverModel" "kept" "[I" : Cond) ∈ zB := zmem (zt_6 (List.mem_of_getElem? (i := 199) rfl)) rfl
theorem k817 : (.fieldLink RX12 16 "DryRiverModel" "aside" "[I" : Cond) ∈ zB := zmem (zt_6 (List.mem_of_getElem? (i := 201) rfl)) rfl
theorem k818 : (.fieldLink RX12 19 "DryRiverModel" "acts" "[I" : Cond) ∈ zB := zmem (zt_6 (List.mem_of_getElem? (i := 202) rfl)) rfl
theorem k819 : (.fieldLink RX12 22 "DryRiverModel" "tape" "[I" : Cond) ∈ zB := zmem (zt_6 (List.mem_of_getElem? (i := 204) rfl)) rfl
theorem k820 : (.fieldLink RX12 25 "DryRiverModel" "fault" "I" : Cond) ∈ zB := zmem (zt_6 (List.mem_of_getElem? (i := 209) rfl)) rfl
theorem k821 : (.fieldLink RX12 29 "DryRiverModel" "fact" "[I" : Cond) ∈ zB := zmem (zt_6 (List.mem_of_getElem? (i := 211) rfl)) rfl
theorem k822 : (.fieldLink RX12 32 "DryRiverModel" "by" "[I" : Cond) ∈ zB := zmem (zt_6 (List.mem_of_getElem? (i := 215) rfl)) rfl
theorem k823 : (.fieldLink RX12 35 "DryRiverModel" "fits" "[Z" : Cond) ∈ zB := zmem (zt_6 (List.mem_of_getElem? (i := 216) rfl)) rfl
theorem k824 : (.code yX12_thrown cX12_thrown 1 (some .int) : Cond) ∈ zB := zmem (zt_7 (List.mem_of_getElem? (i := 21) rfl)) rfl
theorem k825 : (.fieldLink RX12 39 "DryRiverModel" "thrown" "I" : Cond) ∈ zB := zmem (zt_6 (List.mem_of_getElem? (i := 197) rfl)) rfl
theorem k826 : (.code yX12_isIn cX12_isIn 3 (some .boolean) : Cond) ∈ zB := zmem (zt_7 (List.mem_of_getElem? (i := 32) rfl)) rfl
theorem k827 : (.code yX12_lesser cX12_lesser 2 (some .int) : Cond) ∈ zB := zmem (zt_8 (List.mem_of_getElem? (i := 28) rfl)) rfl
theorem k828 : (.code yX12_greater cX12_greater 2 (some .int) : Cond) ∈ zB := zmem (zt_8 (List.mem_of_getElem? (i := 31) rfl)) rfl
theorem k829 : (.code yX12_isOf cX12_isOf 2 (some .boolean) : Cond) ∈ zB := zmem (zt_8 (List.mem_of_getElem? (i := 99) rfl)) rfl
theorem k830 : (.code yX12_bits cX12_bits 3 (some .int) : Cond) ∈ zB := zmem (zt_7 (List.mem_of_getElem? (i := 213) rfl)) rfl
theorem k831 : (.code yX12_of cX12_of 3 (some .int) : Cond) ∈ zB := zmem (zt_7 (List.mem_of_getElem? (i := 186) rfl)) rfl
theorem k832 : (.code yX12_put cX12_put 4 none : Cond) ∈ zB := zmem (zt_7 (List.mem_of_getElem? (i := 138) rfl)) rfl
theorem k833 : (.code yX12_ofWork cX12_ofWork 3 (some .int) : Cond) ∈ zB := zmem (zt_7 (List.mem_of_getElem? (i := 225) rfl)) rfl
theorem k834 : (.code yX12_putWork cX12_putWork 4 none : Cond) ∈ zB := zmem (zt_7 (List.mem_of_getElem? (i := 154) rfl)) rfl
theorem k835 : (.code yX12_trustOf cX12_trustOf 3 (some .int) : Cond) ∈ zB := zmem (zt_7 (List.mem_of_getElem? (i := 198) rfl)) rfl
theorem k836 : (.code yX12_isPerson cX12_isPerson 2 (some .boolean) : Cond) ∈ zB := zmem (zt_7 (List.mem_of_getElem? (i := 182) rfl)) rfl
theorem k837 : (.methodLink RX12 42 yX12_isIn : Cond) ∈ zB := zmem (zt_7 (List.mem_of_getElem? (i := 30) rfl)) rfl
theorem k838 : (.static yX12_isIn : Cond) ∈ zB := zmem (zt_7 (List.mem_of_getElem? (i := 31) rfl)) rfl
theorem k839 : (.initialized RX12 : Cond) ∈ zB := zmem (zt_1 (List.mem_of_getElem? (i := 12) rfl)) rfl
theorem k840 : (.code yX12_isWork cX12_isWork 2 (some .boolean) : Cond) ∈ zB := zmem (zt_8 (List.mem_of_getElem? (i := 9) rfl)) rfl
theorem k841 : (.code yX12_isHere cX12_isHere 2 (some .boolean) : Cond) ∈ zB := zmem (zt_7 (List.mem_of_getElem? (i := 194) rfl)) rfl
theorem k842 : (.methodLink RX12 46 yX12_of : Cond) ∈ zB := zmem (zt_7 (List.mem_of_getElem? (i := 183) rfl)) rfl
theorem k843 : (.instanceMethod yX12_of : Cond) ∈ zB := zmem (zt_7 (List.mem_of_getElem? (i := 185) rfl)) rfl
theorem k844 : (.selects RX12 yX12_of yX12_of : Cond) ∈ zB := zmem (List.mem_of_getElem? (i := 58) (by decide +kernel)) rfl
theorem k845 : (.code yX12_hereOnes cX12_hereOnes 3 (some .int) : Cond) ∈ zB := zmem (zt_7 (List.mem_of_getElem? (i := 210) rfl)) rfl
theorem k846 : (.methodLink RX12 50 yX12_isHere : Cond) ∈ zB := zmem (zt_7 (List.mem_of_getElem? (i := 191) rfl)) rfl
theorem k847 : (.instanceMethod yX12_isHere : Cond) ∈ zB := zmem (zt_7 (List.mem_of_getElem? (i := 193) rfl)) rfl
theorem k848 : (.selects RX12 yX12_isHere yX12_isHere : Cond) ∈ zB := zmem (List.mem_of_getElem? (i := 60) (by decide +kernel)) rfl
theorem k849 : (.code yX12_believed cX12_believed 3 (some .int) : Cond) ∈ zB := zmem (zt_7 (List.mem_of_getElem? (i := 217) rfl)) rfl
theorem k850 : (.code yX12_mean cX12_mean 2 (some .int) : Cond) ∈ zB := zmem (zt_7 (List.mem_of_getElem? (i := 206) rfl)) rfl
theorem k851 : (.methodLink RX12 54 yX12_hereOnes : Cond) ∈ zB := zmem (zt_7 (List.mem_of_getElem? (i := 207) rfl)) rfl
theorem k852 : (.instanceMethod yX12_hereOnes : Cond) ∈ zB := zmem (zt_7 (List.mem_of_getElem? (i := 209) rfl)) rfl
theorem k853 : (.selects RX12 yX12_hereOnes yX12_hereOnes : Cond) ∈ zB := zmem (List.mem_of_getElem? (i := 64) (by decide +kernel)) rfl
theorem k854 : (.methodLink RX12 58 yX12_bits : Cond) ∈ zB := zmem (zt_7 (List.mem_of_getElem? (i := 211) rfl)) rfl
theorem k855 : (.static yX12_bits : Cond) ∈ zB := zmem (zt_7 (List.mem_of_getElem? (i := 212) rfl)) rfl
theorem k856 : (.methodLink RX12 62 yX12_believed : Cond) ∈ zB := zmem (zt_7 (List.mem_of_getElem? (i := 214) rfl)) rfl
theorem k857 : (.instanceMethod yX12_believed : Cond) ∈ zB := zmem (zt_7 (List.mem_of_getElem? (i := 216) rfl)) rfl
theorem k858 : (.selects RX12 yX12_believed yX12_believed : Cond) ∈ zB := zmem (List.mem_of_getElem? (i := 65) (by decide +kernel)) rfl
theorem k859 : (.methodLink RX12 65 yX12_mean : Cond) ∈ zB := zmem (zt_7 (List.mem_of_getElem? (i := 203) rfl)) rfl
theorem k860 : (.instanceMethod yX12_mean : Cond) ∈ zB := zmem (zt_7 (List.mem_of_getElem? (i := 205) rfl)) rfl
theorem k861 : (.selects RX12 yX12_mean yX12_mean : Cond) ∈ zB := zmem (List.mem_of_getElem? (i := 63) (by decide +kernel)) rfl
theorem k862 : (.code yX12_priceNow cX12_priceNow 1 (some .int) : Cond) ∈ zB := zmem (zt_7 (List.mem_of_getElem? (i := 237) rfl)) rfl
theorem k863 : (.code yX12_worksOf cX12_worksOf 4 (some .int) : Cond) ∈ zB := zmem (zt_7 (List.mem_of_getElem? (i := 221) rfl)) rfl
theorem k864 : (.methodLink RX12 68 yX12_ofWork : Cond) ∈ zB := zmem (zt_7 (List.mem_of_getElem? (i := 222) rfl)) rfl
theorem k865 : (.instanceMethod yX12_ofWork : Cond) ∈ zB := zmem (zt_7 (List.mem_of_getElem? (i := 224) rfl)) rfl
theorem k866 : (.selects RX12 yX12_ofWork yX12_ofWork : Cond) ∈ zB := zmem (List.mem_of_getElem? (i := 67) (by decide +kernel)) rfl
theorem k867 : (.code yX12_ties cX12_ties 4 (some .int) : Cond) ∈ zB := zmem (zt_7 (List.mem_of_getElem? (i := 229) rfl)) rfl
theorem k868 : (.methodLink RX12 71 yX12_trustOf : Cond) ∈ zB := zmem (zt_7 (List.mem_of_getElem? (i := 195) rfl)) rfl
theorem k869 : (.instanceMethod yX12_trustOf : Cond) ∈ zB := zmem (zt_7 (List.mem_of_getElem? (i := 197) rfl)) rfl
theorem k870 : (.selects RX12 yX12_trustOf yX12_trustOf : Cond) ∈ zB := zmem (List.mem_of_getElem? (i := 61) (by decide +kernel)) rfl
theorem k871 : (.code yX12_pull cX12_pull 4 (some .int) : Cond) ∈ zB := zmem (zt_7 (List.mem_of_getElem? (i := 190) rfl)) rfl
theorem k872 : (.code yX12_feed cX12_feed 8 (some .int) : Cond) ∈ zB := zmem (zt_7 (List.mem_of_getElem? (i := 25) rfl)) rfl
theorem k873 : (.fieldLink RX12 74 "DryRiverModel" "taped" "I" : Cond) ∈ zB := zmem (zt_6 (List.mem_of_getElem? (i := 205) rfl)) rfl
theorem k874 : (.code yX12_end cX12_end 2 (some .boolean) : Cond) ∈ zB := zmem (zt_7 (List.mem_of_getElem? (i := 29) rfl)) rfl
theorem k875 : (.code yX12_letter cX12_letter 2 (some .int) : Cond) ∈ zB := zmem (zt_7 (List.mem_of_getElem? (i := 56) rfl)) rfl
theorem k876 : (.fieldLink RX12 77 "DryRiverModel" "base" "I" : Cond) ∈ zB := zmem (zt_6 (List.mem_of_getElem? (i := 206) rfl)) rfl
theorem k877 : (.code yX12_skip cX12_skip 1 none : Cond) ∈ zB := zmem (zt_7 (List.mem_of_getElem? (i := 52) rfl)) rfl
theorem k878 : (.fieldLink RX12 80 "DryRiverModel" "at" "I" : Cond) ∈ zB := zmem (zt_6 (List.mem_of_getElem? (i := 208) rfl)) rfl
theorem k879 : (.fieldLink RX12 83 "DryRiverModel" "end" "I" : Cond) ∈ zB := zmem (zt_6 (List.mem_of_getElem? (i := 207) rfl)) rfl
theorem k880 : (.methodLink RX12 86 yX12_letter : Cond) ∈ zB := zmem (zt_7 (List.mem_of_getElem? (i := 53) rfl)) rfl
theorem k881 : (.instanceMethod yX12_letter : Cond) ∈ zB := zmem (zt_7 (List.mem_of_getElem? (i := 55) rfl)) rfl
theorem k882 : (.selects RX12 yX12_letter yX12_letter : Cond) ∈ zB := zmem (List.mem_of_getElem? (i := 35) (by decide +kernel)) rfl
theorem k883 : (.code yX12_isSign cX12_isSign 2 (some .boolean) : Cond) ∈ zB := zmem (zt_7 (List.mem_of_getElem? (i := 98) rfl)) rfl
theorem k884 : (.methodLink RX12 89 yX12_skip : Cond) ∈ zB := zmem (zt_7 (List.mem_of_getElem? (i := 49) rfl)) rfl
theorem k885 : (.instanceMethod yX12_skip : Cond) ∈ zB := zmem (zt_7 (List.mem_of_getElem? (i := 51) rfl)) rfl
theorem k886 : (.selects RX12 yX12_skip yX12_skip : Cond) ∈ zB := zmem (List.mem_of_getElem? (i := 34) (by decide +kernel)) rfl
theorem k887 : (.methodLink RX12 92 yJ0_length_8abf5 : Cond) ∈ zB := zmem (zt_7 (List.mem_of_getElem? (i := 70) rfl)) rfl
theorem k888 : (.methodLink RX12 97 yJ0_charAt_5068e : Cond) ∈ zB := zmem (zt_7 (List.mem_of_getElem? (i := 71) rfl)) rfl
theorem k889 : (.code yX12_has cX12_has 4 (some .boolean) : Cond) ∈ zB := zmem (zt_7 (List.mem_of_getElem? (i := 69) rfl)) rfl
theorem k890 : (.code yX12_wrong cX12_wrong 2 none : Cond) ∈ zB := zmem (zt_7 (List.mem_of_getElem? (i := 60) rfl)) rfl
theorem k891 : (.code yX12_here cX12_here 1 (some .int) : Cond) ∈ zB := zmem (zt_7 (List.mem_of_getElem? (i := 80) rfl)) rfl
theorem k892 : (.methodLink RX12 101 yX12_here : Cond) ∈ zB := zmem (zt_7 (List.mem_of_getElem? (i := 77) rfl)) rfl
theorem k893 : (.instanceMethod yX12_here : Cond) ∈ zB := zmem (zt_7 (List.mem_of_getElem? (i := 79) rfl)) rfl
theorem k894 : (.selects RX12 yX12_here yX12_here : Cond) ∈ zB := zmem (List.mem_of_getElem? (i := 40) (by decide +kernel)) rfl
theorem k895 : (.methodLink RX12 104 yX12_wrong : Cond) ∈ zB := zmem (zt_7 (List.mem_of_getElem? (i := 57) rfl)) rfl
theorem k896 : (.instanceMethod yX12_wrong : Cond) ∈ zB := zmem (zt_7 (List.mem_of_getElem? (i := 59) rfl)) rfl
theorem k897 : (.selects RX12 yX12_wrong yX12_wrong : Cond) ∈ zB := zmem (List.mem_of_getElem? (i := 36) (by decide +kernel)) rfl
theorem k898 : (.code yX12_figures cX12_figures 5 (some .int) : Cond) ∈ zB := zmem (zt_7 (List.mem_of_getElem? (i := 76) rfl)) rfl
theorem k899 : (.methodLink RX12 108 yX12_has : Cond) ∈ zB := zmem (zt_7 (List.mem_of_getElem? (i := 66) rfl)) rfl
theorem k900 : (.instanceMethod yX12_has : Cond) ∈ zB := zmem (zt_7 (List.mem_of_getElem? (i := 68) rfl)) rfl
theorem k901 : (.selects RX12 yX12_has yX12_has : Cond) ∈ zB := zmem (List.mem_of_getElem? (i := 38) (by decide +kernel)) rfl
theorem k902 : (.methodLink RX12 112 yX12_figures : Cond) ∈ zB := zmem (zt_7 (List.mem_of_getElem? (i := 73) rfl)) rfl
theorem k903 : (.instanceMethod yX12_figures : Cond) ∈ zB := zmem (zt_7 (List.mem_of_getElem? (i := 75) rfl)) rfl
theorem k904 : (.selects RX12 yX12_figures yX12_figures : Cond) ∈ zB := zmem (List.mem_of_getElem? (i := 39) (by decide +kernel)) rfl
theorem k905 : (.code yX12_after cX12_after 4 (some .int) : Cond) ∈ zB := zmem (zt_7 (List.mem_of_getElem? (i := 134) rfl)) rfl
theorem k906 : (.methodLink RX12 117 yX12_after : Cond) ∈ zB := zmem (zt_7 (List.mem_of_getElem? (i := 131) rfl)) rfl
theorem k907 : (.instanceMethod yX12_after : Cond) ∈ zB := zmem (zt_7 (List.mem_of_getElem? (i := 133) rfl)) rfl
theorem k908 : (.selects RX12 yX12_after yX12_after : Cond) ∈ zB := zmem (List.mem_of_getElem? (i := 50) (by decide +kernel)) rfl
theorem k909 : (.methodLink RX12 123 yX12_put : Cond) ∈ zB := zmem (zt_7 (List.mem_of_getElem? (i := 135) rfl)) rfl
theorem k910 : (.instanceMethod yX12_put : Cond) ∈ zB := zmem (zt_7 (List.mem_of_getElem? (i := 137) rfl)) rfl
theorem k911 : (.selects RX12 yX12_put yX12_put : Cond) ∈ zB := zmem (List.mem_of_getElem? (i := 51) (by decide +kernel)) rfl
theorem k912 : (.code yX12_personLine cX12_personLine 6 none : Cond) ∈ zB := zmem (zt_7 (List.mem_of_getElem? (i := 129) rfl)) rfl
theorem k913 : (.code yX12_trustsLine cX12_trustsLine 5 none : Cond) ∈ zB := zmem (zt_7 (List.mem_of_getElem? (i := 143) rfl)) rfl
theorem k914 : (.methodLink RX12 131 yX12_putWork : Cond) ∈ zB := zmem (zt_7 (List.mem_of_getElem? (i := 151) rfl)) rfl
theorem k915 : (.instanceMethod yX12_putWork : Cond) ∈ zB := zmem (zt_7 (List.mem_of_getElem? (i := 153) rfl)) rfl
theorem k916 : (.selects RX12 yX12_putWork yX12_putWork : Cond) ∈ zB := zmem (List.mem_of_getElem? (i := 54) (by decide +kernel)) rfl
theorem k917 : (.code yX12_workLine cX12_workLine 6 none : Cond) ∈ zB := zmem (zt_7 (List.mem_of_getElem? (i := 148) rfl)) rfl
theorem k918 : (.code yX12_tells cX12_tells 5 none : Cond) ∈ zB := zmem (zt_7 (List.mem_of_getElem? (i := 159) rfl)) rfl
theorem k919 : (.methodLink RX12 136 yX12_personLine : Cond) ∈ zB := zmem (zt_7 (List.mem_of_getElem? (i := 126) rfl)) rfl
theorem k920 : (.instanceMethod yX12_personLine : Cond) ∈ zB := zmem (zt_7 (List.mem_of_getElem? (i := 128) rfl)) rfl
theorem k921 : (.selects RX12 yX12_personLine yX12_personLine : Cond) ∈ zB := zmem (List.mem_of_getElem? (i := 49) (by decide +kernel)) rfl
theorem k922 : (.methodLink RX12 141 yX12_trustsLine : Cond) ∈ zB := zmem (zt_7 (List.mem_of_getElem? (i := 140) rfl)) rfl
theorem k923 : (.instanceMethod yX12_trustsLine : Cond) ∈ zB := zmem (zt_7 (List.mem_of_getElem? (i := 142) rfl)) rfl
theorem k924 : (.selects RX12 yX12_trustsLine yX12_trustsLine : Cond) ∈ zB := zmem (List.mem_of_getElem? (i := 52) (by decide +kernel)) rfl
theorem k925 : (.methodLink RX12 146 yX12_workLine : Cond) ∈ zB := zmem (zt_7 (List.mem_of_getElem? (i := 145) rfl)) rfl
theorem k926 : (.instanceMethod yX12_workLine : Cond) ∈ zB := zmem (zt_7 (List.mem_of_getElem? (i := 147) rfl)) rfl
theorem k927 : (.selects RX12 yX12_workLine yX12_workLine : Cond) ∈ zB := zmem (List.mem_of_getElem? (i := 53) (by decide +kernel)) rfl
theorem k928 : (.methodLink RX12 151 yX12_tells : Cond) ∈ zB := zmem (zt_7 (List.mem_of_getElem? (i := 156) rfl)) rfl
theorem k929 : (.instanceMethod yX12_tells : Cond) ∈ zB := zmem (zt_7 (List.mem_of_getElem? (i := 158) rfl)) rfl
theorem k930 : (.selects RX12 yX12_tells yX12_tells : Cond) ∈ zB := zmem (List.mem_of_getElem? (i := 55) (by decide +kernel)) rfl
theorem k931 : (.code yX12_townLine cX12_townLine 3 none : Cond) ∈ zB := zmem (zt_7 (List.mem_of_getElem? (i := 124) rfl)) rfl
theorem k932 : (.code yX12_begins cX12_begins 1 none : Cond) ∈ zB := zmem (zt_7 (List.mem_of_getElem? (i := 44) rfl)) rfl
theorem k933 : (.fieldLink RX12 162 "DryRiverModel" "deep" "I" : Cond) ∈ zB := zmem (zt_6 (List.mem_of_getElem? (i := 210) rfl)) rfl
theorem k934 : (.code yX12_part cX12_part 2 (some .int) : Cond) ∈ zB := zmem (zt_7 (List.mem_of_getElem? (i := 112) rfl)) rfl
theorem k935 : (.methodLink RX12 199 yX12_part : Cond) ∈ zB := zmem (zt_7 (List.mem_of_getElem? (i := 109) rfl)) rfl
theorem k936 : (.instanceMethod yX12_part : Cond) ∈ zB := zmem (zt_7 (List.mem_of_getElem? (i := 111) rfl)) rfl
theorem k937 : (.selects RX12 yX12_part yX12_part : Cond) ∈ zB := zmem (List.mem_of_getElem? (i := 47) (by decide +kernel)) rfl
theorem k938 : (.methodLink RX12 171 yX12_isSign : Cond) ∈ zB := zmem (zt_7 (List.mem_of_getElem? (i := 95) rfl)) rfl
theorem k939 : (.instanceMethod yX12_isSign : Cond) ∈ zB := zmem (zt_7 (List.mem_of_getElem? (i := 97) rfl)) rfl
theorem k940 : (.selects RX12 yX12_isSign yX12_isSign : Cond) ∈ zB := zmem (List.mem_of_getElem? (i := 44) (by decide +kernel)) rfl
theorem k941 : (.code yX12_sum cX12_sum 2 (some .int) : Cond) ∈ zB := zmem (zt_7 (List.mem_of_getElem? (i := 108) rfl)) rfl
theorem k942 : (.fieldLink RX12 202 "DryRiverModel" "isDry" "Z" : Cond) ∈ zB := zmem (zt_6 (List.mem_of_getElem? (i := 212) rfl)) rfl
theorem k943 : (.fieldLink RX12 208 "DryRiverModel" "isOwner" "Z" : Cond) ∈ zB := zmem (zt_6 (List.mem_of_getElem? (i := 213) rfl)) rfl
theorem k944 : (.methodLink RX12 211 yX12_sum : Cond) ∈ zB := zmem (zt_7 (List.mem_of_getElem? (i := 105) rfl)) rfl
theorem k945 : (.instanceMethod yX12_sum : Cond) ∈ zB := zmem (zt_7 (List.mem_of_getElem? (i := 107) rfl)) rfl
theorem k946 : (.selects RX12 yX12_sum yX12_sum : Cond) ∈ zB := zmem (List.mem_of_getElem? (i := 46) (by decide +kernel)) rfl
theorem k947 : (.code yX12_plain cX12_plain 4 (some .boolean) : Cond) ∈ zB := zmem (zt_7 (List.mem_of_getElem? (i := 102) rfl)) rfl
theorem k948 : (.methodLink RX12 216 yX12_plain : Cond) ∈ zB := zmem (zt_7 (List.mem_of_getElem? (i := 99) rfl)) rfl
theorem k949 : (.instanceMethod yX12_plain : Cond) ∈ zB := zmem (zt_7 (List.mem_of_getElem? (i := 101) rfl)) rfl
theorem k950 : (.selects RX12 yX12_plain yX12_plain : Cond) ∈ zB := zmem (List.mem_of_getElem? (i := 45) (by decide +kernel)) rfl
theorem k951 : (.methodLink RX12 220 yX12_atom : Cond) ∈ zB := zmem (zt_7 (List.mem_of_getElem? (i := 90) rfl)) rfl
theorem k952 : (.instanceMethod yX12_atom : Cond) ∈ zB := zmem (zt_7 (List.mem_of_getElem? (i := 92) rfl)) rfl
theorem k953 : (.selects RX12 yX12_atom yX12_atom : Cond) ∈ zB := zmem (List.mem_of_getElem? (i := 43) (by decide +kernel)) rfl
theorem k954 : (.methodLink RX12 223 yX12_some : Cond) ∈ zB := zmem (zt_7 (List.mem_of_getElem? (i := 82) rfl)) rfl
theorem k955 : (.instanceMethod yX12_some : Cond) ∈ zB := zmem (zt_7 (List.mem_of_getElem? (i := 84) rfl)) rfl
theorem k956 : (.selects RX12 yX12_some yX12_some : Cond) ∈ zB := zmem (List.mem_of_getElem? (i := 41) (by decide +kernel)) rfl
theorem k957 : (.code yX12_every cX12_every 3 (some .boolean) : Cond) ∈ zB := zmem (zt_7 (List.mem_of_getElem? (i := 89) rfl)) rfl
theorem k958 : (.code yX12_some cX12_some 3 (some .boolean) : Cond) ∈ zB := zmem (zt_7 (List.mem_of_getElem? (i := 85) rfl)) rfl
theorem k959 : (.methodLink RX12 228 yX12_every : Cond) ∈ zB := zmem (zt_7 (List.mem_of_getElem? (i := 86) rfl)) rfl
theorem k960 : (.instanceMethod yX12_every : Cond) ∈ zB := zmem (zt_7 (List.mem_of_getElem? (i := 88) rfl)) rfl
theorem k961 : (.selects RX12 yX12_every yX12_every : Cond) ∈ zB := zmem (List.mem_of_getElem? (i := 42) (by decide +kernel)) rfl
theorem k962 : (.code yX12_atom cX12_atom 4 (some .boolean) : Cond) ∈ zB := zmem (zt_7 (List.mem_of_getElem? (i := 93) rfl)) rfl
theorem k963 : (.fieldLink RX12 239 "DryRiverModel" "turns" "I" : Cond) ∈ zB := zmem (zt_6 (List.mem_of_getElem? (i := 214) rfl)) rfl
theorem k964 : (.code yX12_lawLine cX12_lawLine 4 none : Cond) ∈ zB := zmem (zt_7 (List.mem_of_getElem? (i := 64) rfl)) rfl
theorem k965 : (.methodLink RX12 165 yX12_lawLine : Cond) ∈ zB := zmem (zt_7 (List.mem_of_getElem? (i := 61) rfl)) rfl
theorem k966 : (.instanceMethod yX12_lawLine : Cond) ∈ zB := zmem (zt_7 (List.mem_of_getElem? (i := 63) rfl)) rfl
theorem k967 : (.selects RX12 yX12_lawLine yX12_lawLine : Cond) ∈ zB := zmem (List.mem_of_getElem? (i := 37) (by decide +kernel)) rfl
theorem k968 : (.methodLink RX12 168 yX12_townLine : Cond) ∈ zB := zmem (zt_7 (List.mem_of_getElem? (i := 121) rfl)) rfl
theorem k969 : (.instanceMethod yX12_townLine : Cond) ∈ zB := zmem (zt_7 (List.mem_of_getElem? (i := 123) rfl)) rfl
theorem k970 : (.selects RX12 yX12_townLine yX12_townLine : Cond) ∈ zB := zmem (List.mem_of_getElem? (i := 48) (by decide +kernel)) rfl
theorem k971 : (.code yX12_read cX12_read 4 (some .int) : Cond) ∈ zB := zmem (zt_7 (List.mem_of_getElem? (i := 48) rfl)) rfl
theorem k972 : (.code yX12_putsAside cX12_putsAside 2 none : Cond) ∈ zB := zmem (zt_7 (List.mem_of_getElem? (i := 40) rfl)) rfl
theorem k973 : (.code yX12_comesBack cX12_comesBack 2 none : Cond) ∈ zB := zmem (zt_7 (List.mem_of_getElem? (i := 166) rfl)) rfl
theorem k974 : (.fieldLink RX12 187 "DryRiverModel" "acted" "I" : Cond) ∈ zB := zmem (zt_6 (List.mem_of_getElem? (i := 203) rfl)) rfl
theorem k975 : (.methodLink RX12 174 yX12_putsAside : Cond) ∈ zB := zmem (zt_7 (List.mem_of_getElem? (i := 37) rfl)) rfl
theorem k976 : (.instanceMethod yX12_putsAside : Cond) ∈ zB := zmem (zt_7 (List.mem_of_getElem? (i := 39) rfl)) rfl
theorem k977 : (.selects RX12 yX12_putsAside yX12_putsAside : Cond) ∈ zB := zmem (List.mem_of_getElem? (i := 31) (by decide +kernel)) rfl
theorem k978 : (.methodLink RX12 177 yX12_begins : Cond) ∈ zB := zmem (zt_7 (List.mem_of_getElem? (i := 41) rfl)) rfl
theorem k979 : (.instanceMethod yX12_begins : Cond) ∈ zB := zmem (zt_7 (List.mem_of_getElem? (i := 43) rfl)) rfl
theorem k980 : (.selects RX12 yX12_begins yX12_begins : Cond) ∈ zB := zmem (List.mem_of_getElem? (i := 32) (by decide +kernel)) rfl
theorem k981 : (.methodLink RX12 180 yX12_read : Cond) ∈ zB := zmem (zt_7 (List.mem_of_getElem? (i := 45) rfl)) rfl
theorem k982 : (.instanceMethod yX12_read : Cond) ∈ zB := zmem (zt_7 (List.mem_of_getElem? (i := 47) rfl)) rfl
theorem k983 : (.selects RX12 yX12_read yX12_read : Cond) ∈ zB := zmem (List.mem_of_getElem? (i := 33) (by decide +kernel)) rfl
theorem k984 : (.methodLink RX12 184 yX12_comesBack : Cond) ∈ zB := zmem (zt_7 (List.mem_of_getElem? (i := 163) rfl)) rfl
theorem k985 : (.instanceMethod yX12_comesBack : Cond) ∈ zB := zmem (zt_7 (List.mem_of_getElem? (i := 165) rfl)) rfl
theorem k986 : (.selects RX12 yX12_comesBack yX12_comesBack : Cond) ∈ zB := zmem (List.mem_of_getElem? (i := 56) (by decide +kernel)) rfl
theorem k987 : (.code yX12_town cX12_town 2 (some .int) : Cond) ∈ zB := zmem (zt_7 (List.mem_of_getElem? (i := 36) rfl)) rfl
theorem k988 : (.code yX12_law cX12_law 3 (some .int) : Cond) ∈ zB := zmem (zt_7 (List.mem_of_getElem? (i := 170) rfl)) rfl
theorem k989 : (.code yX12_fault cX12_fault 1 (some .int) : Cond) ∈ zB := zmem (zt_7 (List.mem_of_getElem? (i := 174) rfl)) rfl
theorem k990 : (.methodLink RX12 242 yX12_worksOf : Cond) ∈ zB := zmem (zt_7 (List.mem_of_getElem? (i := 218) rfl)) rfl
theorem k991 : (.instanceMethod yX12_worksOf : Cond) ∈ zB := zmem (zt_7 (List.mem_of_getElem? (i := 220) rfl)) rfl
theorem k992 : (.selects RX12 yX12_worksOf yX12_worksOf : Cond) ∈ zB := zmem (List.mem_of_getElem? (i := 66) (by decide +kernel)) rfl
theorem k993 : (.methodLink RX12 245 yX12_ties : Cond) ∈ zB := zmem (zt_7 (List.mem_of_getElem? (i := 226) rfl)) rfl
theorem k994 : (.instanceMethod yX12_ties : Cond) ∈ zB := zmem (zt_7 (List.mem_of_getElem? (i := 228) rfl)) rfl
theorem k995 : (.selects RX12 yX12_ties yX12_ties : Cond) ∈ zB := zmem (List.mem_of_getElem? (i := 68) (by decide +kernel)) rfl
theorem k996 : (.code yX12_turnsBy cX12_turnsBy 4 (some .int) : Cond) ∈ zB := zmem (zt_7 (List.mem_of_getElem? (i := 202) rfl)) rfl
theorem k997 : (.code yX12_draw cX12_draw 2 (some .int) : Cond) ∈ zB := zmem (zt_8 (List.mem_of_getElem? (i := 79) rfl)) rfl
theorem k998 : (.constant RX12 247 (1103515245) : Cond) ∈ zB := zmem (zt_8 (List.mem_of_getElem? (i := 80) rfl)) rfl
theorem k999 : (.code yX12_logs cX12_logs 4 none : Cond) ∈ zB := zmem (zt_8 (List.mem_of_getElem? (i := 71) rfl)) rfl
theorem k1000 : (.methodLink RX12 248 yX12_lesser : Cond) ∈ zB := zmem (zt_8 (List.mem_of_getElem? (i := 26) rfl)) rfl
theorem k1001 : (.static yX12_lesser : Cond) ∈ zB := zmem (zt_8 (List.mem_of_getElem? (i := 27) rfl)) rfl
theorem k1002 : (.code yX12_believes cX12_believes 3 none : Cond) ∈ zB := zmem (zt_8 (List.mem_of_getElem? (i := 25) rfl)) rfl
theorem k1003 : (.methodLink RX12 251 yX12_greater : Cond) ∈ zB := zmem (zt_8 (List.mem_of_getElem? (i := 29) rfl)) rfl
theorem k1004 : (.static yX12_greater : Cond) ∈ zB := zmem (zt_8 (List.mem_of_getElem? (i := 30) rfl)) rfl
theorem k1005 : (.methodLink RX12 254 yX12_logs : Cond) ∈ zB := zmem (zt_8 (List.mem_of_getElem? (i := 68) rfl)) rfl
theorem k1006 : (.instanceMethod yX12_logs : Cond) ∈ zB := zmem (zt_8 (List.mem_of_getElem? (i := 70) rfl)) rfl
theorem k1007 : (.selects RX12 yX12_logs yX12_logs : Cond) ∈ zB := zmem (List.mem_of_getElem? (i := 76) (by decide +kernel)) rfl
theorem k1008 : (.code yX12_build cX12_build 4 (some .int) : Cond) ∈ zB := zmem (zt_8 (List.mem_of_getElem? (i := 67) rfl)) rfl
theorem k1009 : (.methodLink RX12 258 yX12_draw : Cond) ∈ zB := zmem (zt_8 (List.mem_of_getElem? (i := 76) rfl)) rfl
theorem k1010 : (.instanceMethod yX12_draw : Cond) ∈ zB := zmem (zt_8 (List.mem_of_getElem? (i := 78) rfl)) rfl
theorem k1011 : (.selects RX12 yX12_draw yX12_draw : Cond) ∈ zB := zmem (List.mem_of_getElem? (i := 78) (by decide +kernel)) rfl
theorem k1012 : (.methodLink RX12 261 yX12_believes : Cond) ∈ zB := zmem (zt_8 (List.mem_of_getElem? (i := 22) rfl)) rfl
theorem k1013 : (.instanceMethod yX12_believes : Cond) ∈ zB := zmem (zt_8 (List.mem_of_getElem? (i := 24) rfl)) rfl
theorem k1014 : (.selects RX12 yX12_believes yX12_believes : Cond) ∈ zB := zmem (List.mem_of_getElem? (i := 73) (by decide +kernel)) rfl
theorem k1015 : (.code yX12_returns cX12_returns 5 none : Cond) ∈ zB := zmem (zt_8 (List.mem_of_getElem? (i := 75) rfl)) rfl
theorem k1016 : (.methodLink RX12 264 yX12_pull : Cond) ∈ zB := zmem (zt_7 (List.mem_of_getElem? (i := 187) rfl)) rfl
theorem k1017 : (.instanceMethod yX12_pull : Cond) ∈ zB := zmem (zt_7 (List.mem_of_getElem? (i := 189) rfl)) rfl
theorem k1018 : (.selects RX12 yX12_pull yX12_pull : Cond) ∈ zB := zmem (List.mem_of_getElem? (i := 59) (by decide +kernel)) rfl
theorem k1019 : (.methodLink RX12 267 yX12_turnsBy : Cond) ∈ zB := zmem (zt_7 (List.mem_of_getElem? (i := 199) rfl)) rfl
theorem k1020 : (.instanceMethod yX12_turnsBy : Cond) ∈ zB := zmem (zt_7 (List.mem_of_getElem? (i := 201) rfl)) rfl
theorem k1021 : (.selects RX12 yX12_turnsBy yX12_turnsBy : Cond) ∈ zB := zmem (List.mem_of_getElem? (i := 62) (by decide +kernel)) rfl
theorem k1022 : (.methodLink RX12 270 yX12_build : Cond) ∈ zB := zmem (zt_8 (List.mem_of_getElem? (i := 64) rfl)) rfl
theorem k1023 : (.instanceMethod yX12_build : Cond) ∈ zB := zmem (zt_8 (List.mem_of_getElem? (i := 66) rfl)) rfl
theorem k1024 : (.selects RX12 yX12_build yX12_build : Cond) ∈ zB := zmem (List.mem_of_getElem? (i := 75) (by decide +kernel)) rfl
theorem k1025 : (.methodLink RX12 273 yX12_returns : Cond) ∈ zB := zmem (zt_8 (List.mem_of_getElem? (i := 72) rfl)) rfl
theorem k1026 : (.instanceMethod yX12_returns : Cond) ∈ zB := zmem (zt_8 (List.mem_of_getElem? (i := 74) rfl)) rfl
theorem k1027 : (.selects RX12 yX12_returns yX12_returns : Cond) ∈ zB := zmem (List.mem_of_getElem? (i := 77) (by decide +kernel)) rfl
theorem k1028 : (.code yX12_goes cX12_goes 6 (some .int) : Cond) ∈ zB := zmem (zt_8 (List.mem_of_getElem? (i := 63) rfl)) rfl
theorem k1029 : (.methodLink RX12 277 yX12_priceNow : Cond) ∈ zB := zmem (zt_7 (List.mem_of_getElem? (i := 234) rfl)) rfl
theorem k1030 : (.instanceMethod yX12_priceNow : Cond) ∈ zB := zmem (zt_7 (List.mem_of_getElem? (i := 236) rfl)) rfl
theorem k1031 : (.selects RX12 yX12_priceNow yX12_priceNow : Cond) ∈ zB := zmem (List.mem_of_getElem? (i := 70) (by decide +kernel)) rfl
theorem k1032 : (.code yX12_worth cX12_worth 2 (some .int) : Cond) ∈ zB := zmem (zt_7 (List.mem_of_getElem? (i := 233) rfl)) rfl
theorem k1033 : (.methodLink RX12 280 yX12_isPerson : Cond) ∈ zB := zmem (zt_7 (List.mem_of_getElem? (i := 179) rfl)) rfl
theorem k1034 : (.instanceMethod yX12_isPerson : Cond) ∈ zB := zmem (zt_7 (List.mem_of_getElem? (i := 181) rfl)) rfl
theorem k1035 : (.selects RX12 yX12_isPerson yX12_isPerson : Cond) ∈ zB := zmem (List.mem_of_getElem? (i := 57) (by decide +kernel)) rfl
theorem k1036 : (.methodLink RX12 283 yX12_worth : Cond) ∈ zB := zmem (zt_7 (List.mem_of_getElem? (i := 230) rfl)) rfl
theorem k1037 : (.instanceMethod yX12_worth : Cond) ∈ zB := zmem (zt_7 (List.mem_of_getElem? (i := 232) rfl)) rfl
theorem k1038 : (.selects RX12 yX12_worth yX12_worth : Cond) ∈ zB := zmem (List.mem_of_getElem? (i := 69) (by decide +kernel)) rfl
theorem k1039 : (.code yX12_person cX12_person 3 (some .int) : Cond) ∈ zB := zmem (zt_7 (List.mem_of_getElem? (i := 178) rfl)) rfl
theorem k1040 : (.code yX12_trust cX12_trust 3 (some .int) : Cond) ∈ zB := zmem (zt_8 (List.mem_of_getElem? (i := 1) rfl)) rfl
theorem k1041 : (.code yX12_work cX12_work 3 (some .int) : Cond) ∈ zB := zmem (zt_8 (List.mem_of_getElem? (i := 5) rfl)) rfl
theorem k1042 : (.methodLink RX12 286 yX12_isWork : Cond) ∈ zB := zmem (zt_8 (List.mem_of_getElem? (i := 6) rfl)) rfl
theorem k1043 : (.instanceMethod yX12_isWork : Cond) ∈ zB := zmem (zt_8 (List.mem_of_getElem? (i := 8) rfl)) rfl
theorem k1044 : (.selects RX12 yX12_isWork yX12_isWork : Cond) ∈ zB := zmem (List.mem_of_getElem? (i := 71) (by decide +kernel)) rfl
theorem k1045 : (.code yX12_price cX12_price 1 (some .int) : Cond) ∈ zB := zmem (zt_8 (List.mem_of_getElem? (i := 13) rfl)) rfl
theorem k1046 : (.code yX12_remembers cX12_remembers 2 none : Cond) ∈ zB := zmem (zt_8 (List.mem_of_getElem? (i := 21) rfl)) rfl
theorem k1047 : (.methodLink RX12 289 yX12_remembers : Cond) ∈ zB := zmem (zt_8 (List.mem_of_getElem? (i := 18) rfl)) rfl
theorem k1048 : (.instanceMethod yX12_remembers : Cond) ∈ zB := zmem (zt_8 (List.mem_of_getElem? (i := 20) rfl)) rfl
theorem k1049 : (.selects RX12 yX12_remembers yX12_remembers : Cond) ∈ zB := zmem (List.mem_of_getElem? (i := 72) (by decide +kernel)) rfl
theorem k1050 : (.code yX12_tell cX12_tell 2 (some .int) : Cond) ∈ zB := zmem (zt_8 (List.mem_of_getElem? (i := 17) rfl)) rfl
theorem k1051 : (.code yX12_tie cX12_tie 5 (some .int) : Cond) ∈ zB := zmem (zt_8 (List.mem_of_getElem? (i := 35) rfl)) rfl
theorem k1052 : (.code yX12_plan cX12_plan 2 none : Cond) ∈ zB := zmem (zt_8 (List.mem_of_getElem? (i := 39) rfl)) rfl
theorem k1053 : (.code yX12_send cX12_send 2 (some .int) : Cond) ∈ zB := zmem (zt_8 (List.mem_of_getElem? (i := 43) rfl)) rfl
theorem k1054 : (.code yX12_buy cX12_buy 4 (some .int) : Cond) ∈ zB := zmem (zt_8 (List.mem_of_getElem? (i := 47) rfl)) rfl
theorem k1055 : (.code yX12_sell cX12_sell 4 (some .int) : Cond) ∈ zB := zmem (zt_8 (List.mem_of_getElem? (i := 51) rfl)) rfl
theorem k1056 : (.code yX12_dry cX12_dry 4 (some .boolean) : Cond) ∈ zB := zmem (zt_8 (List.mem_of_getElem? (i := 55) rfl)) rfl
theorem k1057 : (.methodLink RX12 292 yX12_goes : Cond) ∈ zB := zmem (zt_8 (List.mem_of_getElem? (i := 60) rfl)) rfl
theorem k1058 : (.instanceMethod yX12_goes : Cond) ∈ zB := zmem (zt_8 (List.mem_of_getElem? (i := 62) rfl)) rfl
theorem k1059 : (.selects RX12 yX12_goes yX12_goes : Cond) ∈ zB := zmem (List.mem_of_getElem? (i := 74) (by decide +kernel)) rfl
theorem k1060 : (.code yX12_days cX12_days 2 (some .int) : Cond) ∈ zB := zmem (zt_8 (List.mem_of_getElem? (i := 59) rfl)) rfl
theorem k1061 : (.code yX12_ahead cX12_ahead 5 (some .int) : Cond) ∈ zB := zmem (zt_8 (List.mem_of_getElem? (i := 84) rfl)) rfl
theorem k1062 : (.methodLink RX12 296 yX12_isOf : Cond) ∈ zB := zmem (zt_8 (List.mem_of_getElem? (i := 97) rfl)) rfl
theorem k1063 : (.static yX12_isOf : Cond) ∈ zB := zmem (zt_8 (List.mem_of_getElem? (i := 98) rfl)) rfl
theorem k1064 : (.code yX12_believedBy cX12_believedBy 6 (some .int) : Cond) ∈ zB := zmem (zt_8 (List.mem_of_getElem? (i := 96) rfl)) rfl
theorem k1065 : (.code yX12_then cX12_then 5 (some .int) : Cond) ∈ zB := zmem (zt_8 (List.mem_of_getElem? (i := 88) rfl)) rfl
theorem k1066 : (.methodLink RX12 300 yX12_believedBy : Cond) ∈ zB := zmem (zt_8 (List.mem_of_getElem? (i := 93) rfl)) rfl
theorem k1067 : (.instanceMethod yX12_believedBy : Cond) ∈ zB := zmem (zt_8 (List.mem_of_getElem? (i := 95) rfl)) rfl
theorem k1068 : (.selects RX12 yX12_believedBy yX12_believedBy : Cond) ∈ zB := zmem (List.mem_of_getElem? (i := 79) (by decide +kernel)) rfl
theorem k1069 : (.code yX12_sways cX12_sways 3 (some .int) : Cond) ∈ zB := zmem (zt_8 (List.mem_of_getElem? (i := 92) rfl)) rfl
theorem k1070 : (.code yX12_guru cX12_guru 6 (some .int) : Cond) ∈ zB := zmem (zt_8 (List.mem_of_getElem? (i := 103) rfl)) rfl
theorem k1071 : (.code yX12_must cX12_must 6 (some .int) : Cond) ∈ zB := zmem (zt_8 (List.mem_of_getElem? (i := 107) rfl)) rfl
theorem k1072 : (.code yX12_reaches cX12_reaches 5 (some .int) : Cond) ∈ zB := zmem (zt_8 (List.mem_of_getElem? (i := 111) rfl)) rfl
theorem k1073 : (.code yX12_doubtsNow cX12_doubtsNow 3 (some .int) : Cond) ∈ zB := zmem (zt_8 (List.mem_of_getElem? (i := 119) rfl)) rfl
theorem k1074 : (.code yX12_doubts cX12_doubts 1 (some .int) : Cond) ∈ zB := zmem (zt_8 (List.mem_of_getElem? (i := 115) rfl)) rfl
theorem k1075 : (.methodLink RX12 304 yX12_doubtsNow : Cond) ∈ zB := zmem (zt_8 (List.mem_of_getElem? (i := 116) rfl)) rfl
theorem k1076 : (.instanceMethod yX12_doubtsNow : Cond) ∈ zB := zmem (zt_8 (List.mem_of_getElem? (i := 118) rfl)) rfl
theorem k1077 : (.selects RX12 yX12_doubtsNow yX12_doubtsNow : Cond) ∈ zB := zmem (List.mem_of_getElem? (i := 80) (by decide +kernel)) rfl
theorem k1078 : (.code yX12_ruin cX12_ruin 4 (some .int) : Cond) ∈ zB := zmem (zt_8 (List.mem_of_getElem? (i := 123) rfl)) rfl
theorem k1079 : (.code yX12_dearest cX12_dearest 8 (some .int) : Cond) ∈ zB := zmem (zt_8 (List.mem_of_getElem? (i := 127) rfl)) rfl
theorem k1080 : (.code yX12_falls cX12_falls 5 (some .int) : Cond) ∈ zB := zmem (zt_8 (List.mem_of_getElem? (i := 131) rfl)) rfl
theorem k1081 : (.code yX12_last cX12_last 5 (some .int) : Cond) ∈ zB := zmem (zt_8 (List.mem_of_getElem? (i := 135) rfl)) rfl
theorem k1082 : (.code yX12_sumOf cX12_sumOf 5 (some .int) : Cond) ∈ zB := zmem (zt_8 (List.mem_of_getElem? (i := 143) rfl)) rfl
theorem k1083 : (.methodLink RX12 307 yX12_sumOf : Cond) ∈ zB := zmem (zt_8 (List.mem_of_getElem? (i := 140) rfl)) rfl
theorem k1084 : (.instanceMethod yX12_sumOf : Cond) ∈ zB := zmem (zt_8 (List.mem_of_getElem? (i := 142) rfl)) rfl
theorem k1085 : (.selects RX12 yX12_sumOf yX12_sumOf : Cond) ∈ zB := zmem (List.mem_of_getElem? (i := 81) (by decide +kernel)) rfl
theorem k1086 : (.code yX12_chosen cX12_chosen 5 (some .int) : Cond) ∈ zB := zmem (zt_8 (List.mem_of_getElem? (i := 139) rfl)) rfl
theorem k1087 : (.code yX12_heard cX12_heard 5 (some .int) : Cond) ∈ zB := zmem (zt_8 (List.mem_of_getElem? (i := 151) rfl)) rfl
theorem k1088 : (.code yX12_nines cX12_nines 4 (some .long) : Cond) ∈ zB := zmem (zt_8 (List.mem_of_getElem? (i := 154) rfl)) rfl
theorem k1089 : (.constantLong RX12 310 (9) : Cond) ∈ zB := zmem (zt_8 (List.mem_of_getElem? (i := 155) rfl)) rfl
theorem k1090 : (.code yX12_river cX12_river 7 (some .int) : Cond) ∈ zB := zmem (zt_8 (List.mem_of_getElem? (i := 147) rfl)) rfl
theorem k1091 : (.constantLong RX12 319 (10000) : Cond) ∈ zB := zmem (zt_8 (List.mem_of_getElem? (i := 156) rfl)) rfl
theorem k1092 : (.methodLink RX12 312 yX12_heard : Cond) ∈ zB := zmem (zt_8 (List.mem_of_getElem? (i := 148) rfl)) rfl
theorem k1093 : (.instanceMethod yX12_heard : Cond) ∈ zB := zmem (zt_8 (List.mem_of_getElem? (i := 150) rfl)) rfl
theorem k1094 : (.selects RX12 yX12_heard yX12_heard : Cond) ∈ zB := zmem (List.mem_of_getElem? (i := 82) (by decide +kernel)) rfl
theorem k1095 : (.methodLink RX12 315 yX12_nines : Cond) ∈ zB := zmem (zt_8 (List.mem_of_getElem? (i := 152) rfl)) rfl
theorem k1096 : (.static yX12_nines : Cond) ∈ zB := zmem (zt_8 (List.mem_of_getElem? (i := 153) rfl)) rfl
theorem k1097 : (.code yX12_more cX12_more 8 (some .int) : Cond) ∈ zB := zmem (zt_8 (List.mem_of_getElem? (i := 160) rfl)) rfl
theorem k1098 : (.constantLong RX12 321 (99) : Cond) ∈ zB := zmem (zt_8 (List.mem_of_getElem? (i := 161) rfl)) rfl
theorem k1099 : (.code yX12_says cX12_says 3 (some .boolean) : Cond) ∈ zB := zmem (zt_8 (List.mem_of_getElem? (i := 172) rfl)) rfl
theorem k1100 : (.code yX12_told cX12_told 6 (some .int) : Cond) ∈ zB := zmem (zt_8 (List.mem_of_getElem? (i := 169) rfl)) rfl
theorem k1101 : (.methodLink RX12 323 yX12_says : Cond) ∈ zB := zmem (zt_8 (List.mem_of_getElem? (i := 170) rfl)) rfl
theorem k1102 : (.static yX12_says : Cond) ∈ zB := zmem (zt_8 (List.mem_of_getElem? (i := 171) rfl)) rfl
theorem k1103 : (.code yX12_liars cX12_liars 5 (some .int) : Cond) ∈ zB := zmem (zt_8 (List.mem_of_getElem? (i := 165) rfl)) rfl
theorem k1104 : (.methodLink RX12 326 yX12_told : Cond) ∈ zB := zmem (zt_8 (List.mem_of_getElem? (i := 166) rfl)) rfl
theorem k1105 : (.instanceMethod yX12_told : Cond) ∈ zB := zmem (zt_8 (List.mem_of_getElem? (i := 168) rfl)) rfl
theorem k1106 : (.selects RX12 yX12_told yX12_told : Cond) ∈ zB := zmem (List.mem_of_getElem? (i := 83) (by decide +kernel)) rfl
theorem k1107 : (.code yX12_ask cX12_ask 8 (some .int) : Cond) ∈ zB := zmem (zt_8 (List.mem_of_getElem? (i := 176) rfl)) rfl
theorem k1108 : (.constant RX12 329 (2000000000) : Cond) ∈ zB := zmem (zt_8 (List.mem_of_getElem? (i := 177) rfl)) rfl
theorem k1109 : (.code yX12_passes cX12_passes 8 (some .int) : Cond) ∈ zB := zmem (zt_8 (List.mem_of_getElem? (i := 185) rfl)) rfl
theorem k1110 : (.code yX12_word cX12_word 2 (some .int) : Cond) ∈ zB := zmem (zt_8 (List.mem_of_getElem? (i := 181) rfl)) rfl
theorem k1111 : (.methodLink RX12 330 yX12_passes : Cond) ∈ zB := zmem (zt_8 (List.mem_of_getElem? (i := 182) rfl)) rfl
theorem k1112 : (.instanceMethod yX12_passes : Cond) ∈ zB := zmem (zt_8 (List.mem_of_getElem? (i := 184) rfl)) rfl
theorem k1113 : (.selects RX12 yX12_passes yX12_passes : Cond) ∈ zB := zmem (List.mem_of_getElem? (i := 84) (by decide +kernel)) rfl
theorem k1114 : (.code yX12_steps cX12_steps 4 (some .int) : Cond) ∈ zB := zmem (zt_8 (List.mem_of_getElem? (i := 189) rfl)) rfl
theorem k1115 : (.code yX12_circleOf cX12_circleOf 5 (some .int) : Cond) ∈ zB := zmem (zt_8 (List.mem_of_getElem? (i := 197) rfl)) rfl
theorem k1116 : (.code yX12_circles cX12_circles 4 (some .int) : Cond) ∈ zB := zmem (zt_8 (List.mem_of_getElem? (i := 193) rfl)) rfl
theorem k1117 : (.methodLink RX12 333 yX12_circleOf : Cond) ∈ zB := zmem (zt_8 (List.mem_of_getElem? (i := 194) rfl)) rfl
theorem k1118 : (.instanceMethod yX12_circleOf : Cond) ∈ zB := zmem (zt_8 (List.mem_of_getElem? (i := 196) rfl)) rfl
theorem k1119 : (.selects RX12 yX12_circleOf yX12_circleOf : Cond) ∈ zB := zmem (List.mem_of_getElem? (i := 85) (by decide +kernel)) rfl
theorem k1120 : (.code yX12_hermits cX12_hermits 5 (some .int) : Cond) ∈ zB := zmem (zt_8 (List.mem_of_getElem? (i := 201) rfl)) rfl
theorem k1121 : (.code yX12_moreBy cX12_moreBy 2 (some .int) : Cond) ∈ zB := zmem (zt_8 (List.mem_of_getElem? (i := 211) rfl)) rfl
theorem k1122 : (.code yX12_tellerHas cX12_tellerHas 2 (some .int) : Cond) ∈ zB := zmem (zt_8 (List.mem_of_getElem? (i := 208) rfl)) rfl
theorem k1123 : (.methodLink RX12 336 yX12_moreBy : Cond) ∈ zB := zmem (zt_8 (List.mem_of_getElem? (i := 209) rfl)) rfl
theorem k1124 : (.static yX12_moreBy : Cond) ∈ zB := zmem (zt_8 (List.mem_of_getElem? (i := 210) rfl)) rfl
theorem k1125 : (.code yX12_dryHas cX12_dryHas 5 (some .int) : Cond) ∈ zB := zmem (zt_8 (List.mem_of_getElem? (i := 215) rfl)) rfl
theorem k1126 : (.code yX12_rests cX12_rests 7 (some .int) : Cond) ∈ zB := zmem (zt_8 (List.mem_of_getElem? (i := 205) rfl)) rfl
theorem k1127 : (.methodLink RX12 339 yX12_tellerHas : Cond) ∈ zB := zmem (zt_8 (List.mem_of_getElem? (i := 206) rfl)) rfl
theorem k1128 : (.static yX12_tellerHas : Cond) ∈ zB := zmem (zt_8 (List.mem_of_getElem? (i := 207) rfl)) rfl
theorem k1129 : (.methodLink RX12 342 yX12_dryHas : Cond) ∈ zB := zmem (zt_8 (List.mem_of_getElem? (i := 212) rfl)) rfl
theorem k1130 : (.instanceMethod yX12_dryHas : Cond) ∈ zB := zmem (zt_8 (List.mem_of_getElem? (i := 214) rfl)) rfl
theorem k1131 : (.selects RX12 yX12_dryHas yX12_dryHas : Cond) ∈ zB := zmem (List.mem_of_getElem? (i := 86) (by decide +kernel)) rfl
theorem k1132 : (.code yX12_richest cX12_richest 3 (some .int) : Cond) ∈ zB := zmem (zt_8 (List.mem_of_getElem? (i := 219) rfl)) rfl
theorem k1133 : (.code yX12_firmest cX12_firmest 3 (some .int) : Cond) ∈ zB := zmem (zt_8 (List.mem_of_getElem? (i := 223) rfl)) rfl
theorem k1134 : (.code yX12_home cX12_home 4 (some .int) : Cond) ∈ zB := zmem (zt_8 (List.mem_of_getElem? (i := 227) rfl)) rfl
theorem k1135 : (.code yX12_trial cX12_trial 5 (some .int) : Cond) ∈ zB := zmem (zt_8 (List.mem_of_getElem? (i := 231) rfl)) rfl
theorem k1136 : (.code yX12_span cX12_span 7 (some .int) : Cond) ∈ zB := zmem (zt_8 (List.mem_of_getElem? (i := 235) rfl)) rfl
theorem k1137 : (.code yX12_logged cX12_logged 3 (some .int) : Cond) ∈ zB := zmem (zt_9 (List.mem_of_getElem? (i := 3) rfl)) rfl
theorem k1138 : (.code yX12_led cX12_led 6 (some .int) : Cond) ∈ zB := zmem (zt_8 (List.mem_of_getElem? (i := 239) rfl)) rfl
theorem k1139 : (.methodLink RX12 346 yX12_logged : Cond) ∈ zB := zmem (zt_9 (List.mem_of_getElem? (i := 0) rfl)) rfl
theorem k1140 : (.instanceMethod yX12_logged : Cond) ∈ zB := zmem (zt_9 (List.mem_of_getElem? (i := 2) rfl)) rfl
theorem k1141 : (.selects RX12 yX12_logged yX12_logged : Cond) ∈ zB := zmem (List.mem_of_getElem? (i := 87) (by decide +kernel)) rfl
theorem k1142 : (.code yX12_log cX12_log 3 (some .int) : Cond) ∈ zB := zmem (zt_9 (List.mem_of_getElem? (i := 7) rfl)) rfl
theorem k1143 : (.code yX12_seed cX12_seed 3 (some .int) : Cond) ∈ zB := zmem (zt_9 (List.mem_of_getElem? (i := 11) rfl)) rfl
theorem k1144 : (.code yX12_undo cX12_undo 2 (some .boolean) : Cond) ∈ zB := zmem (zt_9 (List.mem_of_getElem? (i := 15) rfl)) rfl
theorem k1145 : (.code yX12_image cX12_image 2 none : Cond) ∈ zB := zmem (zt_9 (List.mem_of_getElem? (i := 19) rfl)) rfl
theorem k1146 : (.fieldLink RX12 349 "DryRiverModel" "hasImage" "Z" : Cond) ∈ zB := zmem (zt_6 (List.mem_of_getElem? (i := 200) rfl)) rfl
theorem k1147 : (.code yX12_back cX12_back 2 (some .boolean) : Cond) ∈ zB := zmem (zt_9 (List.mem_of_getElem? (i := 23) rfl)) rfl
theorem k1148 : (.code yX12_sharesOfAll cX12_sharesOfAll 3 (some .int) : Cond) ∈ zB := zmem (zt_9 (List.mem_of_getElem? (i := 31) rfl)) rfl
theorem k1149 : (.methodLink RX12 352 yX12_sharesOfAll : Cond) ∈ zB := zmem (zt_9 (List.mem_of_getElem? (i := 28) rfl)) rfl
theorem k1150 : (.instanceMethod yX12_sharesOfAll : Cond) ∈ zB := zmem (zt_9 (List.mem_of_getElem? (i := 30) rfl)) rfl
theorem k1151 : (.selects RX12 yX12_sharesOfAll yX12_sharesOfAll : Cond) ∈ zB := zmem (List.mem_of_getElem? (i := 88) (by decide +kernel)) rfl
theorem k1152 : (.code yX12_count cX12_count 2 (some .int) : Cond) ∈ zB := zmem (zt_9 (List.mem_of_getElem? (i := 27) rfl)) rfl
theorem k1153 : (.code yJ9_max_7cf53 cJ9_max_7cf53 2 (some .int) : Cond) ∈ zB := zmem (zt_2 (List.mem_of_getElem? (i := 224) rfl)) rfl
theorem k1154 : (.code yJ9_min_7cf53 cJ9_min_7cf53 2 (some .int) : Cond) ∈ zB := zmem (zt_2 (List.mem_of_getElem? (i := 239) rfl)) rfl
theorem k1155 : (.classLink RL 13 "java/lang/IllegalArgumentException" : Cond) ∈ zB := zmem (zt_3 (List.mem_of_getElem? (i := 155) rfl)) rfl
theorem k1156 : (.classLink RL 15 "java/lang/UnsupportedOperationException" : Cond) ∈ zB := zmem (zt_3 (List.mem_of_getElem? (i := 156) rfl)) rfl
theorem k1157 : (.methodLink RL 7 yX11_town : Cond) ∈ zB := zmem (zt_3 (List.mem_of_getElem? (i := 157) rfl)) rfl
theorem k1158 : (.instanceMethod yX11_town : Cond) ∈ zB := zmem (zt_3 (List.mem_of_getElem? (i := 158) rfl)) rfl
theorem k1159 : (.selects RX11 yX11_town yX11_town : Cond) ∈ zB := zmem (zt_3 (List.mem_of_getElem? (i := 159) rfl)) rfl
theorem k1160 : (.codeWith yL_town cL_town 3 (some .int) [(0, 8, 11, 13), (0, 8, 14, 15)] : Cond) ∈ zB := zmem (zt_3 (List.mem_of_getElem? (i := 154) rfl)) rfl
theorem k1161 : (.methodLink RL 17 yX11_law : Cond) ∈ zB := zmem (zt_4 (List.mem_of_getElem? (i := 211) rfl)) rfl
theorem k1162 : (.instanceMethod yX11_law : Cond) ∈ zB := zmem (zt_4 (List.mem_of_getElem? (i := 212) rfl)) rfl
theorem k1163 : (.selects RX11 yX11_law yX11_law : Cond) ∈ zB := zmem (zt_4 (List.mem_of_getElem? (i := 213) rfl)) rfl
theorem k1164 : (.codeWith yL_law cL_law 3 (some .int) [(0, 8, 11, 13)] : Cond) ∈ zB := zmem (zt_4 (List.mem_of_getElem? (i := 210) rfl)) rfl
theorem k1165 : (.classLink RL 24 "java/lang/IndexOutOfBoundsException" : Cond) ∈ zB := zmem (zt_4 (List.mem_of_getElem? (i := 227) rfl)) rfl
theorem k1166 : (.classLink RL 26 "java/util/NoSuchElementException" : Cond) ∈ zB := zmem (zt_4 (List.mem_of_getElem? (i := 228) rfl)) rfl
theorem k1167 : (.methodLink RL 20 yX11_person : Cond) ∈ zB := zmem (zt_4 (List.mem_of_getElem? (i := 229) rfl)) rfl
theorem k1168 : (.instanceMethod yX11_person : Cond) ∈ zB := zmem (zt_4 (List.mem_of_getElem? (i := 230) rfl)) rfl
theorem k1169 : (.selects RX11 yX11_person yX11_person : Cond) ∈ zB := zmem (zt_4 (List.mem_of_getElem? (i := 231) rfl)) rfl
theorem k1170 : (.codeWith yL_person cL_person 5 (some .int) [(0, 10, 13, 24), (0, 10, 17, 26)] : Cond) ∈ zB := zmem (zt_4 (List.mem_of_getElem? (i := 226) rfl)) rfl
theorem k1171 : (.methodLink RL 28 yX11_trust : Cond) ∈ zB := zmem (zt_5 (List.mem_of_getElem? (i := 41) rfl)) rfl
theorem k1172 : (.instanceMethod yX11_trust : Cond) ∈ zB := zmem (zt_5 (List.mem_of_getElem? (i := 42) rfl)) rfl
theorem k1173 : (.selects RX11 yX11_trust yX11_trust : Cond) ∈ zB := zmem (zt_5 (List.mem_of_getElem? (i := 43) rfl)) rfl
theorem k1174 : (.codeWith yL_trust cL_trust 5 (some .int) [(0, 10, 13, 24), (0, 10, 17, 13)] : Cond) ∈ zB := zmem (zt_5 (List.mem_of_getElem? (i := 40) rfl)) rfl
theorem k1175 : (.codeWith yL_work cL_work 5 (some .int) [(0, 10, 13, 24), (0, 10, 17, 26)] : Cond) ∈ zB := zmem (zt_5 (List.mem_of_getElem? (i := 53) rfl)) rfl
theorem k1176 : (.methodLink RL 31 yX11_work : Cond) ∈ zB := zmem (zt_5 (List.mem_of_getElem? (i := 54) rfl)) rfl
theorem k1177 : (.instanceMethod yX11_work : Cond) ∈ zB := zmem (zt_5 (List.mem_of_getElem? (i := 55) rfl)) rfl
theorem k1178 : (.selects RX11 yX11_work yX11_work : Cond) ∈ zB := zmem (zt_5 (List.mem_of_getElem? (i := 56) rfl)) rfl
theorem k1179 : (.classLink RL 38 "java/lang/IllegalStateException" : Cond) ∈ zB := zmem (zt_5 (List.mem_of_getElem? (i := 67) rfl)) rfl
theorem k1180 : (.methodLink RL 34 yX11_tell : Cond) ∈ zB := zmem (zt_5 (List.mem_of_getElem? (i := 68) rfl)) rfl
theorem k1181 : (.instanceMethod yX11_tell : Cond) ∈ zB := zmem (zt_5 (List.mem_of_getElem? (i := 69) rfl)) rfl
theorem k1182 : (.selects RX11 yX11_tell yX11_tell : Cond) ∈ zB := zmem (zt_5 (List.mem_of_getElem? (i := 70) rfl)) rfl
theorem k1183 : (.codeWith yL_tell cL_tell 4 (some .int) [(0, 9, 12, 24), (0, 9, 15, 38)] : Cond) ∈ zB := zmem (zt_5 (List.mem_of_getElem? (i := 66) rfl)) rfl
theorem k1184 : (.methodLink RL 40 yX11_tie : Cond) ∈ zB := zmem (zt_5 (List.mem_of_getElem? (i := 105) rfl)) rfl
theorem k1185 : (.instanceMethod yX11_tie : Cond) ∈ zB := zmem (zt_5 (List.mem_of_getElem? (i := 106) rfl)) rfl
theorem k1186 : (.selects RX11 yX11_tie yX11_tie : Cond) ∈ zB := zmem (zt_5 (List.mem_of_getElem? (i := 107) rfl)) rfl
theorem k1187 : (.codeWith yL_tie cL_tie 6 (some .int) [(0, 12, 15, 24), (0, 12, 19, 13)] : Cond) ∈ zB := zmem (zt_5 (List.mem_of_getElem? (i := 104) rfl)) rfl
theorem k1188 : (.methodLink RL 44 yX11_plan : Cond) ∈ zB := zmem (zt_5 (List.mem_of_getElem? (i := 118) rfl)) rfl
theorem k1189 : (.instanceMethod yX11_plan : Cond) ∈ zB := zmem (zt_5 (List.mem_of_getElem? (i := 119) rfl)) rfl
theorem k1190 : (.selects RX11 yX11_plan yX11_plan : Cond) ∈ zB := zmem (zt_5 (List.mem_of_getElem? (i := 120) rfl)) rfl
theorem k1191 : (.codeWith yL_plan cL_plan 3 (some .int) [(0, 5, 8, 24), (0, 5, 11, 38)] : Cond) ∈ zB := zmem (zt_5 (List.mem_of_getElem? (i := 117) rfl)) rfl
theorem k1192 : (.methodLink RL 48 yX11_send : Cond) ∈ zB := zmem (zt_5 (List.mem_of_getElem? (i := 125) rfl)) rfl
theorem k1193 : (.instanceMethod yX11_send : Cond) ∈ zB := zmem (zt_5 (List.mem_of_getElem? (i := 126) rfl)) rfl
theorem k1194 : (.selects RX11 yX11_send yX11_send : Cond) ∈ zB := zmem (zt_5 (List.mem_of_getElem? (i := 127) rfl)) rfl
theorem k1195 : (.codeWith yL_send cL_send 4 (some .int) [(0, 9, 12, 24), (0, 9, 15, 38)] : Cond) ∈ zB := zmem (zt_5 (List.mem_of_getElem? (i := 124) rfl)) rfl
theorem k1196 : (.methodLink RL 51 yX11_buy : Cond) ∈ zB := zmem (zt_5 (List.mem_of_getElem? (i := 132) rfl)) rfl
theorem k1197 : (.instanceMethod yX11_buy : Cond) ∈ zB := zmem (zt_5 (List.mem_of_getElem? (i := 133) rfl)) rfl
theorem k1198 : (.selects RX11 yX11_buy yX11_buy : Cond) ∈ zB := zmem (zt_5 (List.mem_of_getElem? (i := 134) rfl)) rfl
theorem k1199 : (.codeWith yL_buy cL_buy 5 (some .int) [(0, 10, 13, 24), (0, 10, 17, 13), (0, 10, 21, 38)] : Cond) ∈ zB := zmem (zt_5 (List.mem_of_getElem? (i := 131) rfl)) rfl
theorem k1200 : (.methodLink RL 54 yX11_sell : Cond) ∈ zB := zmem (zt_5 (List.mem_of_getElem? (i := 140) rfl)) rfl
theorem k1201 : (.instanceMethod yX11_sell : Cond) ∈ zB := zmem (zt_5 (List.mem_of_getElem? (i := 141) rfl)) rfl
theorem k1202 : (.selects RX11 yX11_sell yX11_sell : Cond) ∈ zB := zmem (zt_5 (List.mem_of_getElem? (i := 142) rfl)) rfl
theorem k1203 : (.codeWith yL_sell cL_sell 5 (some .int) [(0, 10, 13, 24), (0, 10, 17, 13), (0, 10, 21, 38)] : Cond) ∈ zB := zmem (zt_5 (List.mem_of_getElem? (i := 139) rfl)) rfl
theorem k1204 : (.methodLink RL 57 yX11_dry : Cond) ∈ zB := zmem (zt_5 (List.mem_of_getElem? (i := 147) rfl)) rfl
theorem k1205 : (.instanceMethod yX11_dry : Cond) ∈ zB := zmem (zt_5 (List.mem_of_getElem? (i := 148) rfl)) rfl
theorem k1206 : (.selects RX11 yX11_dry yX11_dry : Cond) ∈ zB := zmem (zt_5 (List.mem_of_getElem? (i := 149) rfl)) rfl
theorem k1207 : (.codeWith yL_dry cL_dry 5 (some .int) [(0, 17, 20, 24)] : Cond) ∈ zB := zmem (zt_5 (List.mem_of_getElem? (i := 146) rfl)) rfl
theorem k1208 : (.methodLink RL 61 yX11_days : Cond) ∈ zB := zmem (zt_5 (List.mem_of_getElem? (i := 154) rfl)) rfl
theorem k1209 : (.instanceMethod yX11_days : Cond) ∈ zB := zmem (zt_5 (List.mem_of_getElem? (i := 155) rfl)) rfl
theorem k1210 : (.selects RX11 yX11_days yX11_days : Cond) ∈ zB := zmem (zt_5 (List.mem_of_getElem? (i := 156) rfl)) rfl
theorem k1211 : (.codeWith yL_days cL_days 4 (some .int) [(0, 9, 12, 13)] : Cond) ∈ zB := zmem (zt_5 (List.mem_of_getElem? (i := 153) rfl)) rfl
theorem k1212 : (.methodLink RL 64 yX11_ahead : Cond) ∈ zB := zmem (zt_5 (List.mem_of_getElem? (i := 162) rfl)) rfl
theorem k1213 : (.instanceMethod yX11_ahead : Cond) ∈ zB := zmem (zt_5 (List.mem_of_getElem? (i := 163) rfl)) rfl
theorem k1214 : (.selects RX11 yX11_ahead yX11_ahead : Cond) ∈ zB := zmem (zt_5 (List.mem_of_getElem? (i := 164) rfl)) rfl
theorem k1215 : (.codeWith yL_ahead cL_ahead 5 (some .int) [(0, 10, 13, 24), (0, 10, 17, 13)] : Cond) ∈ zB := zmem (zt_5 (List.mem_of_getElem? (i := 161) rfl)) rfl
theorem k1216 : (.methodLink RL 67 yX11_then : Cond) ∈ zB := zmem (zt_5 (List.mem_of_getElem? (i := 175) rfl)) rfl
theorem k1217 : (.instanceMethod yX11_then : Cond) ∈ zB := zmem (zt_5 (List.mem_of_getElem? (i := 176) rfl)) rfl
theorem k1218 : (.selects RX11 yX11_then yX11_then : Cond) ∈ zB := zmem (zt_5 (List.mem_of_getElem? (i := 177) rfl)) rfl
theorem k1219 : (.codeWith yL_then cL_then 5 (some .int) [(0, 10, 13, 13)] : Cond) ∈ zB := zmem (zt_5 (List.mem_of_getElem? (i := 174) rfl)) rfl
theorem k1220 : (.methodLink RL 71 yX11_sways : Cond) ∈ zB := zmem (zt_5 (List.mem_of_getElem? (i := 182) rfl)) rfl
theorem k1221 : (.instanceMethod yX11_sways : Cond) ∈ zB := zmem (zt_5 (List.mem_of_getElem? (i := 183) rfl)) rfl
theorem k1222 : (.selects RX11 yX11_sways yX11_sways : Cond) ∈ zB := zmem (zt_5 (List.mem_of_getElem? (i := 184) rfl)) rfl
theorem k1223 : (.codeWith yL_sways cL_sways 5 (some .int) [(0, 10, 13, 24), (0, 10, 17, 13)] : Cond) ∈ zB := zmem (zt_5 (List.mem_of_getElem? (i := 181) rfl)) rfl
theorem k1224 : (.methodLink RL 74 yX11_guru : Cond) ∈ zB := zmem (zt_5 (List.mem_of_getElem? (i := 189) rfl)) rfl
theorem k1225 : (.instanceMethod yX11_guru : Cond) ∈ zB := zmem (zt_5 (List.mem_of_getElem? (i := 190) rfl)) rfl
theorem k1226 : (.selects RX11 yX11_guru yX11_guru : Cond) ∈ zB := zmem (zt_5 (List.mem_of_getElem? (i := 191) rfl)) rfl
theorem k1227 : (.codeWith yL_guru cL_guru 4 (some .int) [(0, 9, 12, 13)] : Cond) ∈ zB := zmem (zt_5 (List.mem_of_getElem? (i := 188) rfl)) rfl
theorem k1228 : (.methodLink RL 77 yX11_must : Cond) ∈ zB := zmem (zt_5 (List.mem_of_getElem? (i := 202) rfl)) rfl
theorem k1229 : (.instanceMethod yX11_must : Cond) ∈ zB := zmem (zt_5 (List.mem_of_getElem? (i := 203) rfl)) rfl
theorem k1230 : (.selects RX11 yX11_must yX11_must : Cond) ∈ zB := zmem (zt_5 (List.mem_of_getElem? (i := 204) rfl)) rfl
theorem k1231 : (.codeWith yL_must cL_must 5 (some .int) [(0, 10, 13, 13)] : Cond) ∈ zB := zmem (zt_5 (List.mem_of_getElem? (i := 201) rfl)) rfl
theorem k1232 : (.methodLink RL 80 yX11_reaches : Cond) ∈ zB := zmem (zt_5 (List.mem_of_getElem? (i := 215) rfl)) rfl
theorem k1233 : (.instanceMethod yX11_reaches : Cond) ∈ zB := zmem (zt_5 (List.mem_of_getElem? (i := 216) rfl)) rfl
theorem k1234 : (.selects RX11 yX11_reaches yX11_reaches : Cond) ∈ zB := zmem (zt_5 (List.mem_of_getElem? (i := 217) rfl)) rfl
theorem k1235 : (.codeWith yL_reaches cL_reaches 4 (some .int) [(0, 9, 12, 13)] : Cond) ∈ zB := zmem (zt_5 (List.mem_of_getElem? (i := 214) rfl)) rfl
theorem k1236 : (.methodLink RL 83 yX11_dearest : Cond) ∈ zB := zmem (zt_5 (List.mem_of_getElem? (i := 226) rfl)) rfl
theorem k1237 : (.instanceMethod yX11_dearest : Cond) ∈ zB := zmem (zt_5 (List.mem_of_getElem? (i := 227) rfl)) rfl
theorem k1238 : (.selects RX11 yX11_dearest yX11_dearest : Cond) ∈ zB := zmem (zt_5 (List.mem_of_getElem? (i := 228) rfl)) rfl
theorem k1239 : (.codeWith yL_dearest cL_dearest 5 (some .int) [(0, 10, 13, 13)] : Cond) ∈ zB := zmem (zt_5 (List.mem_of_getElem? (i := 225) rfl)) rfl
theorem k1240 : (.methodLink RL 86 yX11_falls : Cond) ∈ zB := zmem (zt_5 (List.mem_of_getElem? (i := 238) rfl)) rfl
theorem k1241 : (.instanceMethod yX11_falls : Cond) ∈ zB := zmem (zt_5 (List.mem_of_getElem? (i := 239) rfl)) rfl
theorem k1242 : (.selects RX11 yX11_falls yX11_falls : Cond) ∈ zB := zmem (zt_6 (List.mem_of_getElem? (i := 0) rfl)) rfl
theorem k1243 : (.codeWith yL_falls cL_falls 4 (some .int) [(0, 9, 12, 13)] : Cond) ∈ zB := zmem (zt_5 (List.mem_of_getElem? (i := 237) rfl)) rfl
theorem k1244 : (.methodLink RL 89 yX11_river : Cond) ∈ zB := zmem (zt_6 (List.mem_of_getElem? (i := 5) rfl)) rfl
theorem k1245 : (.instanceMethod yX11_river : Cond) ∈ zB := zmem (zt_6 (List.mem_of_getElem? (i := 6) rfl)) rfl
theorem k1246 : (.selects RX11 yX11_river yX11_river : Cond) ∈ zB := zmem (zt_6 (List.mem_of_getElem? (i := 7) rfl)) rfl
theorem k1247 : (.codeWith yL_river cL_river 4 (some .int) [(0, 9, 12, 13)] : Cond) ∈ zB := zmem (zt_6 (List.mem_of_getElem? (i := 4) rfl)) rfl
theorem k1248 : (.methodLink RL 92 yX11_more : Cond) ∈ zB := zmem (zt_6 (List.mem_of_getElem? (i := 30) rfl)) rfl
theorem k1249 : (.instanceMethod yX11_more : Cond) ∈ zB := zmem (zt_6 (List.mem_of_getElem? (i := 31) rfl)) rfl
theorem k1250 : (.selects RX11 yX11_more yX11_more : Cond) ∈ zB := zmem (zt_6 (List.mem_of_getElem? (i := 32) rfl)) rfl
theorem k1251 : (.codeWith yL_more cL_more 4 (some .int) [(0, 9, 12, 13)] : Cond) ∈ zB := zmem (zt_6 (List.mem_of_getElem? (i := 29) rfl)) rfl
theorem k1252 : (.methodLink RL 95 yX11_liars : Cond) ∈ zB := zmem (zt_6 (List.mem_of_getElem? (i := 41) rfl)) rfl
theorem k1253 : (.instanceMethod yX11_liars : Cond) ∈ zB := zmem (zt_6 (List.mem_of_getElem? (i := 42) rfl)) rfl
theorem k1254 : (.selects RX11 yX11_liars yX11_liars : Cond) ∈ zB := zmem (zt_6 (List.mem_of_getElem? (i := 43) rfl)) rfl
theorem k1255 : (.codeWith yL_liars cL_liars 4 (some .int) [(0, 9, 12, 13)] : Cond) ∈ zB := zmem (zt_6 (List.mem_of_getElem? (i := 40) rfl)) rfl
theorem k1256 : (.methodLink RL 99 yX11_ask : Cond) ∈ zB := zmem (zt_6 (List.mem_of_getElem? (i := 74) rfl)) rfl
theorem k1257 : (.instanceMethod yX11_ask : Cond) ∈ zB := zmem (zt_6 (List.mem_of_getElem? (i := 75) rfl)) rfl
theorem k1258 : (.selects RX11 yX11_ask yX11_ask : Cond) ∈ zB := zmem (zt_6 (List.mem_of_getElem? (i := 76) rfl)) rfl
theorem k1259 : (.codeWith yL_ask cL_ask 3 (some .int) [(0, 8, 11, 13)] : Cond) ∈ zB := zmem (zt_6 (List.mem_of_getElem? (i := 73) rfl)) rfl
theorem k1260 : (.methodLink RL 102 yX11_word : Cond) ∈ zB := zmem (zt_6 (List.mem_of_getElem? (i := 90) rfl)) rfl
theorem k1261 : (.instanceMethod yX11_word : Cond) ∈ zB := zmem (zt_6 (List.mem_of_getElem? (i := 91) rfl)) rfl
theorem k1262 : (.selects RX11 yX11_word yX11_word : Cond) ∈ zB := zmem (zt_6 (List.mem_of_getElem? (i := 92) rfl)) rfl
theorem k1263 : (.codeWith yL_word cL_word 4 (some .int) [(0, 9, 12, 24)] : Cond) ∈ zB := zmem (zt_6 (List.mem_of_getElem? (i := 89) rfl)) rfl
theorem k1264 : (.methodLink RL 105 yX11_steps : Cond) ∈ zB := zmem (zt_6 (List.mem_of_getElem? (i := 98) rfl)) rfl
theorem k1265 : (.instanceMethod yX11_steps : Cond) ∈ zB := zmem (zt_6 (List.mem_of_getElem? (i := 99) rfl)) rfl
theorem k1266 : (.selects RX11 yX11_steps yX11_steps : Cond) ∈ zB := zmem (zt_6 (List.mem_of_getElem? (i := 100) rfl)) rfl
theorem k1267 : (.codeWith yL_steps cL_steps 5 (some .int) [(0, 10, 13, 24), (0, 10, 17, 13)] : Cond) ∈ zB := zmem (zt_6 (List.mem_of_getElem? (i := 97) rfl)) rfl
theorem k1268 : (.methodLink RL 108 yX11_rests : Cond) ∈ zB := zmem (zt_6 (List.mem_of_getElem? (i := 108) rfl)) rfl
theorem k1269 : (.instanceMethod yX11_rests : Cond) ∈ zB := zmem (zt_6 (List.mem_of_getElem? (i := 109) rfl)) rfl
theorem k1270 : (.selects RX11 yX11_rests yX11_rests : Cond) ∈ zB := zmem (zt_6 (List.mem_of_getElem? (i := 110) rfl)) rfl
theorem k1271 : (.codeWith yL_rests cL_rests 5 (some .int) [(0, 10, 13, 24), (0, 10, 17, 13)] : Cond) ∈ zB := zmem (zt_6 (List.mem_of_getElem? (i := 107) rfl)) rfl
theorem k1272 : (.methodLink RL 111 yX11_last : Cond) ∈ zB := zmem (zt_6 (List.mem_of_getElem? (i := 127) rfl)) rfl
theorem k1273 : (.instanceMethod yX11_last : Cond) ∈ zB := zmem (zt_6 (List.mem_of_getElem? (i := 128) rfl)) rfl
theorem k1274 : (.selects RX11 yX11_last yX11_last : Cond) ∈ zB := zmem (zt_6 (List.mem_of_getElem? (i := 129) rfl)) rfl
theorem k1275 : (.codeWith yL_last cL_last 4 (some .int) [(0, 9, 12, 24)] : Cond) ∈ zB := zmem (zt_6 (List.mem_of_getElem? (i := 126) rfl)) rfl
theorem k1276 : (.methodLink RL 114 yX11_trial : Cond) ∈ zB := zmem (zt_6 (List.mem_of_getElem? (i := 138) rfl)) rfl
theorem k1277 : (.instanceMethod yX11_trial : Cond) ∈ zB := zmem (zt_6 (List.mem_of_getElem? (i := 139) rfl)) rfl
theorem k1278 : (.selects RX11 yX11_trial yX11_trial : Cond) ∈ zB := zmem (zt_6 (List.mem_of_getElem? (i := 140) rfl)) rfl
theorem k1279 : (.codeWith yL_trial cL_trial 5 (some .int) [(0, 10, 13, 13)] : Cond) ∈ zB := zmem (zt_6 (List.mem_of_getElem? (i := 137) rfl)) rfl
theorem k1280 : (.methodLink RL 117 yX11_span : Cond) ∈ zB := zmem (zt_6 (List.mem_of_getElem? (i := 149) rfl)) rfl
theorem k1281 : (.instanceMethod yX11_span : Cond) ∈ zB := zmem (zt_6 (List.mem_of_getElem? (i := 150) rfl)) rfl
theorem k1282 : (.selects RX11 yX11_span yX11_span : Cond) ∈ zB := zmem (zt_6 (List.mem_of_getElem? (i := 151) rfl)) rfl
theorem k1283 : (.codeWith yL_span cL_span 5 (some .int) [(0, 10, 13, 13)] : Cond) ∈ zB := zmem (zt_6 (List.mem_of_getElem? (i := 148) rfl)) rfl
theorem k1284 : (.methodLink RL 120 yX11_led : Cond) ∈ zB := zmem (zt_6 (List.mem_of_getElem? (i := 161) rfl)) rfl
theorem k1285 : (.instanceMethod yX11_led : Cond) ∈ zB := zmem (zt_6 (List.mem_of_getElem? (i := 162) rfl)) rfl
theorem k1286 : (.selects RX11 yX11_led yX11_led : Cond) ∈ zB := zmem (zt_6 (List.mem_of_getElem? (i := 163) rfl)) rfl
theorem k1287 : (.codeWith yL_led cL_led 5 (some .int) [(0, 10, 13, 24)] : Cond) ∈ zB := zmem (zt_6 (List.mem_of_getElem? (i := 160) rfl)) rfl
theorem k1288 : (.codeWith yL_log cL_log 5 (some .int) [(0, 10, 13, 26)] : Cond) ∈ zB := zmem (zt_6 (List.mem_of_getElem? (i := 184) rfl)) rfl
theorem k1289 : (.methodLink RL 123 yX11_log : Cond) ∈ zB := zmem (zt_6 (List.mem_of_getElem? (i := 185) rfl)) rfl
theorem k1290 : (.instanceMethod yX11_log : Cond) ∈ zB := zmem (zt_6 (List.mem_of_getElem? (i := 186) rfl)) rfl
theorem k1291 : (.selects RX11 yX11_log yX11_log : Cond) ∈ zB := zmem (zt_6 (List.mem_of_getElem? (i := 187) rfl)) rfl
theorem k1292 : (.classLink RL 8 RX11 : Cond) ∈ zB := zmem (zt_1 (List.mem_of_getElem? (i := 29) rfl)) rfl
theorem k1293 : (.instantiable RX11 10 : Cond) ∈ zB := zmem (zt_1 (List.mem_of_getElem? (i := 30) rfl)) rfl
theorem k1294 : (.classLink RL 127 RX12 : Cond) ∈ zB := zmem (zt_6 (List.mem_of_getElem? (i := 191) rfl)) rfl
theorem k1295 : (.instantiable RX12 20 : Cond) ∈ zB := zmem (zt_6 (List.mem_of_getElem? (i := 192) rfl)) rfl
theorem k1296 : (.arrayClass .long : Cond) ∈ zB := zmem (zt_9 (List.mem_of_getElem? (i := 32) rfl)) rfl
theorem k1297 : (.methodLink RL 126 yX11_init : Cond) ∈ zB := zmem (zt_1 (List.mem_of_getElem? (i := 31) rfl)) rfl
theorem k1298 : (.instanceMethod yX11_init : Cond) ∈ zB := zmem (zt_1 (List.mem_of_getElem? (i := 32) rfl)) rfl
theorem k1299 : (.methodLink RL 129 yX12_init : Cond) ∈ zB := zmem (zt_6 (List.mem_of_getElem? (i := 193) rfl)) rfl
theorem k1300 : (.instanceMethod yX12_init : Cond) ∈ zB := zmem (zt_6 (List.mem_of_getElem? (i := 194) rfl)) rfl
theorem k1301 : (.methodLink RL 130 yX11_feed : Cond) ∈ zB := zmem (zt_2 (List.mem_of_getElem? (i := 116) rfl)) rfl
theorem k1302 : (.instanceMethod yX11_feed : Cond) ∈ zB := zmem (zt_2 (List.mem_of_getElem? (i := 117) rfl)) rfl
theorem k1303 : (.selects RX11 yX11_feed yX11_feed : Cond) ∈ zB := zmem (zt_2 (List.mem_of_getElem? (i := 118) rfl)) rfl
theorem k1304 : (.methodLink RL 134 yX12_feed : Cond) ∈ zB := zmem (zt_7 (List.mem_of_getElem? (i := 22) rfl)) rfl
theorem k1305 : (.instanceMethod yX12_feed : Cond) ∈ zB := zmem (zt_7 (List.mem_of_getElem? (i := 23) rfl)) rfl
theorem k1306 : (.selects RX12 yX12_feed yX12_feed : Cond) ∈ zB := zmem (zt_7 (List.mem_of_getElem? (i := 24) rfl)) rfl
theorem k1307 : (.methodLink RL 135 yX11_end : Cond) ∈ zB := zmem (zt_2 (List.mem_of_getElem? (i := 124) rfl)) rfl
theorem k1308 : (.instanceMethod yX11_end : Cond) ∈ zB := zmem (zt_2 (List.mem_of_getElem? (i := 125) rfl)) rfl
theorem k1309 : (.selects RX11 yX11_end yX11_end : Cond) ∈ zB := zmem (zt_2 (List.mem_of_getElem? (i := 126) rfl)) rfl
theorem k1310 : (.methodLink RL 139 yX12_end : Cond) ∈ zB := zmem (zt_7 (List.mem_of_getElem? (i := 26) rfl)) rfl
theorem k1311 : (.instanceMethod yX12_end : Cond) ∈ zB := zmem (zt_7 (List.mem_of_getElem? (i := 27) rfl)) rfl
theorem k1312 : (.selects RX12 yX12_end yX12_end : Cond) ∈ zB := zmem (zt_7 (List.mem_of_getElem? (i := 28) rfl)) rfl
theorem k1313 : (.methodLink RL 140 yL_town : Cond) ∈ zB := zmem (zt_3 (List.mem_of_getElem? (i := 152) rfl)) rfl
theorem k1314 : (.static yL_town : Cond) ∈ zB := zmem (zt_3 (List.mem_of_getElem? (i := 153) rfl)) rfl
theorem k1315 : (.initialized RL : Cond) ∈ zB := zmem (zt_1 (List.mem_of_getElem? (i := 0) rfl)) rfl
theorem k1316 : (.methodLink RL 145 yX12_town : Cond) ∈ zB := zmem (zt_7 (List.mem_of_getElem? (i := 33) rfl)) rfl
theorem k1317 : (.instanceMethod yX12_town : Cond) ∈ zB := zmem (zt_7 (List.mem_of_getElem? (i := 34) rfl)) rfl
theorem k1318 : (.selects RX12 yX12_town yX12_town : Cond) ∈ zB := zmem (zt_7 (List.mem_of_getElem? (i := 35) rfl)) rfl
theorem k1319 : (.methodLink RL 146 yL_law : Cond) ∈ zB := zmem (zt_4 (List.mem_of_getElem? (i := 208) rfl)) rfl
theorem k1320 : (.static yL_law : Cond) ∈ zB := zmem (zt_4 (List.mem_of_getElem? (i := 209) rfl)) rfl
theorem k1321 : (.methodLink RL 148 yX12_law : Cond) ∈ zB := zmem (zt_7 (List.mem_of_getElem? (i := 167) rfl)) rfl
theorem k1322 : (.instanceMethod yX12_law : Cond) ∈ zB := zmem (zt_7 (List.mem_of_getElem? (i := 168) rfl)) rfl
theorem k1323 : (.selects RX12 yX12_law yX12_law : Cond) ∈ zB := zmem (zt_7 (List.mem_of_getElem? (i := 169) rfl)) rfl
theorem k1324 : (.methodLink RL 149 yX11_fault : Cond) ∈ zB := zmem (zt_2 (List.mem_of_getElem? (i := 128) rfl)) rfl
theorem k1325 : (.instanceMethod yX11_fault : Cond) ∈ zB := zmem (zt_2 (List.mem_of_getElem? (i := 129) rfl)) rfl
theorem k1326 : (.selects RX11 yX11_fault yX11_fault : Cond) ∈ zB := zmem (zt_2 (List.mem_of_getElem? (i := 130) rfl)) rfl
theorem k1327 : (.methodLink RL 152 yX12_fault : Cond) ∈ zB := zmem (zt_7 (List.mem_of_getElem? (i := 171) rfl)) rfl
theorem k1328 : (.instanceMethod yX12_fault : Cond) ∈ zB := zmem (zt_7 (List.mem_of_getElem? (i := 172) rfl)) rfl
theorem k1329 : (.selects RX12 yX12_fault yX12_fault : Cond) ∈ zB := zmem (zt_7 (List.mem_of_getElem? (i := 173) rfl)) rfl
theorem k1330 : (.methodLink RL 153 yL_person : Cond) ∈ zB := zmem (zt_4 (List.mem_of_getElem? (i := 224) rfl)) rfl
theorem k1331 : (.static yL_person : Cond) ∈ zB := zmem (zt_4 (List.mem_of_getElem? (i := 225) rfl)) rfl
theorem k1332 : (.methodLink RL 156 yX12_person : Cond) ∈ zB := zmem (zt_7 (List.mem_of_getElem? (i := 175) rfl)) rfl
theorem k1333 : (.instanceMethod yX12_person : Cond) ∈ zB := zmem (zt_7 (List.mem_of_getElem? (i := 176) rfl)) rfl
theorem k1334 : (.selects RX12 yX12_person yX12_person : Cond) ∈ zB := zmem (zt_7 (List.mem_of_getElem? (i := 177) rfl)) rfl
theorem k1335 : (.methodLink RL 157 yL_trust : Cond) ∈ zB := zmem (zt_5 (List.mem_of_getElem? (i := 38) rfl)) rfl
theorem k1336 : (.static yL_trust : Cond) ∈ zB := zmem (zt_5 (List.mem_of_getElem? (i := 39) rfl)) rfl
theorem k1337 : (.methodLink RL 159 yX12_trust : Cond) ∈ zB := zmem (zt_7 (List.mem_of_getElem? (i := 238) rfl)) rfl
theorem k1338 : (.instanceMethod yX12_trust : Cond) ∈ zB := zmem (zt_7 (List.mem_of_getElem? (i := 239) rfl)) rfl
theorem k1339 : (.selects RX12 yX12_trust yX12_trust : Cond) ∈ zB := zmem (zt_8 (List.mem_of_getElem? (i := 0) rfl)) rfl
theorem k1340 : (.methodLink RL 160 yL_work : Cond) ∈ zB := zmem (zt_5 (List.mem_of_getElem? (i := 51) rfl)) rfl
theorem k1341 : (.static yL_work : Cond) ∈ zB := zmem (zt_5 (List.mem_of_getElem? (i := 52) rfl)) rfl
theorem k1342 : (.methodLink RL 162 yX12_work : Cond) ∈ zB := zmem (zt_8 (List.mem_of_getElem? (i := 2) rfl)) rfl
theorem k1343 : (.instanceMethod yX12_work : Cond) ∈ zB := zmem (zt_8 (List.mem_of_getElem? (i := 3) rfl)) rfl
theorem k1344 : (.selects RX12 yX12_work yX12_work : Cond) ∈ zB := zmem (zt_8 (List.mem_of_getElem? (i := 4) rfl)) rfl
theorem k1345 : (.methodLink RL 163 yX11_price : Cond) ∈ zB := zmem (zt_2 (List.mem_of_getElem? (i := 132) rfl)) rfl
theorem k1346 : (.instanceMethod yX11_price : Cond) ∈ zB := zmem (zt_2 (List.mem_of_getElem? (i := 133) rfl)) rfl
theorem k1347 : (.selects RX11 yX11_price yX11_price : Cond) ∈ zB := zmem (zt_2 (List.mem_of_getElem? (i := 134) rfl)) rfl
theorem k1348 : (.methodLink RL 166 yX12_price : Cond) ∈ zB := zmem (zt_8 (List.mem_of_getElem? (i := 10) rfl)) rfl
theorem k1349 : (.instanceMethod yX12_price : Cond) ∈ zB := zmem (zt_8 (List.mem_of_getElem? (i := 11) rfl)) rfl
theorem k1350 : (.selects RX12 yX12_price yX12_price : Cond) ∈ zB := zmem (zt_8 (List.mem_of_getElem? (i := 12) rfl)) rfl
theorem k1351 : (.methodLink RL 167 yL_tell : Cond) ∈ zB := zmem (zt_5 (List.mem_of_getElem? (i := 64) rfl)) rfl
theorem k1352 : (.static yL_tell : Cond) ∈ zB := zmem (zt_5 (List.mem_of_getElem? (i := 65) rfl)) rfl
theorem k1353 : (.methodLink RL 170 yX12_tell : Cond) ∈ zB := zmem (zt_8 (List.mem_of_getElem? (i := 14) rfl)) rfl
theorem k1354 : (.instanceMethod yX12_tell : Cond) ∈ zB := zmem (zt_8 (List.mem_of_getElem? (i := 15) rfl)) rfl
theorem k1355 : (.selects RX12 yX12_tell yX12_tell : Cond) ∈ zB := zmem (zt_8 (List.mem_of_getElem? (i := 16) rfl)) rfl
theorem k1356 : (.methodLink RL 171 yL_tie : Cond) ∈ zB := zmem (zt_5 (List.mem_of_getElem? (i := 102) rfl)) rfl
theorem k1357 : (.static yL_tie : Cond) ∈ zB := zmem (zt_5 (List.mem_of_getElem? (i := 103) rfl)) rfl
theorem k1358 : (.methodLink RL 174 yX12_tie : Cond) ∈ zB := zmem (zt_8 (List.mem_of_getElem? (i := 32) rfl)) rfl
theorem k1359 : (.instanceMethod yX12_tie : Cond) ∈ zB := zmem (zt_8 (List.mem_of_getElem? (i := 33) rfl)) rfl
theorem k1360 : (.selects RX12 yX12_tie yX12_tie : Cond) ∈ zB := zmem (zt_8 (List.mem_of_getElem? (i := 34) rfl)) rfl
theorem k1361 : (.methodLink RL 175 yL_plan : Cond) ∈ zB := zmem (zt_5 (List.mem_of_getElem? (i := 115) rfl)) rfl
theorem k1362 : (.static yL_plan : Cond) ∈ zB := zmem (zt_5 (List.mem_of_getElem? (i := 116) rfl)) rfl
theorem k1363 : (.methodLink RL 178 yX12_plan : Cond) ∈ zB := zmem (zt_8 (List.mem_of_getElem? (i := 36) rfl)) rfl
theorem k1364 : (.instanceMethod yX12_plan : Cond) ∈ zB := zmem (zt_8 (List.mem_of_getElem? (i := 37) rfl)) rfl
theorem k1365 : (.selects RX12 yX12_plan yX12_plan : Cond) ∈ zB := zmem (zt_8 (List.mem_of_getElem? (i := 38) rfl)) rfl
theorem k1366 : (.methodLink RL 179 yL_send : Cond) ∈ zB := zmem (zt_5 (List.mem_of_getElem? (i := 122) rfl)) rfl
theorem k1367 : (.static yL_send : Cond) ∈ zB := zmem (zt_5 (List.mem_of_getElem? (i := 123) rfl)) rfl
theorem k1368 : (.methodLink RL 181 yX12_send : Cond) ∈ zB := zmem (zt_8 (List.mem_of_getElem? (i := 40) rfl)) rfl
theorem k1369 : (.instanceMethod yX12_send : Cond) ∈ zB := zmem (zt_8 (List.mem_of_getElem? (i := 41) rfl)) rfl
theorem k1370 : (.selects RX12 yX12_send yX12_send : Cond) ∈ zB := zmem (zt_8 (List.mem_of_getElem? (i := 42) rfl)) rfl
theorem k1371 : (.methodLink RL 182 yL_buy : Cond) ∈ zB := zmem (zt_5 (List.mem_of_getElem? (i := 129) rfl)) rfl
theorem k1372 : (.static yL_buy : Cond) ∈ zB := zmem (zt_5 (List.mem_of_getElem? (i := 130) rfl)) rfl
theorem k1373 : (.methodLink RL 184 yX12_buy : Cond) ∈ zB := zmem (zt_8 (List.mem_of_getElem? (i := 44) rfl)) rfl
theorem k1374 : (.instanceMethod yX12_buy : Cond) ∈ zB := zmem (zt_8 (List.mem_of_getElem? (i := 45) rfl)) rfl
theorem k1375 : (.selects RX12 yX12_buy yX12_buy : Cond) ∈ zB := zmem (zt_8 (List.mem_of_getElem? (i := 46) rfl)) rfl
theorem k1376 : (.methodLink RL 185 yL_sell : Cond) ∈ zB := zmem (zt_5 (List.mem_of_getElem? (i := 137) rfl)) rfl
theorem k1377 : (.static yL_sell : Cond) ∈ zB := zmem (zt_5 (List.mem_of_getElem? (i := 138) rfl)) rfl
theorem k1378 : (.methodLink RL 187 yX12_sell : Cond) ∈ zB := zmem (zt_8 (List.mem_of_getElem? (i := 48) rfl)) rfl
theorem k1379 : (.instanceMethod yX12_sell : Cond) ∈ zB := zmem (zt_8 (List.mem_of_getElem? (i := 49) rfl)) rfl
theorem k1380 : (.selects RX12 yX12_sell yX12_sell : Cond) ∈ zB := zmem (zt_8 (List.mem_of_getElem? (i := 50) rfl)) rfl
theorem k1381 : (.methodLink RL 188 yL_dry : Cond) ∈ zB := zmem (zt_5 (List.mem_of_getElem? (i := 144) rfl)) rfl
theorem k1382 : (.static yL_dry : Cond) ∈ zB := zmem (zt_5 (List.mem_of_getElem? (i := 145) rfl)) rfl
theorem k1383 : (.methodLink RL 191 yX12_dry : Cond) ∈ zB := zmem (zt_8 (List.mem_of_getElem? (i := 52) rfl)) rfl
theorem k1384 : (.instanceMethod yX12_dry : Cond) ∈ zB := zmem (zt_8 (List.mem_of_getElem? (i := 53) rfl)) rfl
theorem k1385 : (.selects RX12 yX12_dry yX12_dry : Cond) ∈ zB := zmem (zt_8 (List.mem_of_getElem? (i := 54) rfl)) rfl
theorem k1386 : (.methodLink RL 192 yL_days : Cond) ∈ zB := zmem (zt_5 (List.mem_of_getElem? (i := 151) rfl)) rfl
theorem k1387 : (.static yL_days : Cond) ∈ zB := zmem (zt_5 (List.mem_of_getElem? (i := 152) rfl)) rfl
theorem k1388 : (.methodLink RL 194 yX12_days : Cond) ∈ zB := zmem (zt_8 (List.mem_of_getElem? (i := 56) rfl)) rfl
theorem k1389 : (.instanceMethod yX12_days : Cond) ∈ zB := zmem (zt_8 (List.mem_of_getElem? (i := 57) rfl)) rfl
theorem k1390 : (.selects RX12 yX12_days yX12_days : Cond) ∈ zB := zmem (zt_8 (List.mem_of_getElem? (i := 58) rfl)) rfl
theorem k1391 : (.methodLink RL 195 yL_ahead : Cond) ∈ zB := zmem (zt_5 (List.mem_of_getElem? (i := 159) rfl)) rfl
theorem k1392 : (.static yL_ahead : Cond) ∈ zB := zmem (zt_5 (List.mem_of_getElem? (i := 160) rfl)) rfl
theorem k1393 : (.methodLink RL 197 yX12_ahead : Cond) ∈ zB := zmem (zt_8 (List.mem_of_getElem? (i := 81) rfl)) rfl
theorem k1394 : (.instanceMethod yX12_ahead : Cond) ∈ zB := zmem (zt_8 (List.mem_of_getElem? (i := 82) rfl)) rfl
theorem k1395 : (.selects RX12 yX12_ahead yX12_ahead : Cond) ∈ zB := zmem (zt_8 (List.mem_of_getElem? (i := 83) rfl)) rfl
theorem k1396 : (.methodLink RL 198 yL_then : Cond) ∈ zB := zmem (zt_5 (List.mem_of_getElem? (i := 172) rfl)) rfl
theorem k1397 : (.static yL_then : Cond) ∈ zB := zmem (zt_5 (List.mem_of_getElem? (i := 173) rfl)) rfl
theorem k1398 : (.methodLink RL 200 yX12_then : Cond) ∈ zB := zmem (zt_8 (List.mem_of_getElem? (i := 85) rfl)) rfl
theorem k1399 : (.instanceMethod yX12_then : Cond) ∈ zB := zmem (zt_8 (List.mem_of_getElem? (i := 86) rfl)) rfl
theorem k1400 : (.selects RX12 yX12_then yX12_then : Cond) ∈ zB := zmem (zt_8 (List.mem_of_getElem? (i := 87) rfl)) rfl
theorem k1401 : (.methodLink RL 201 yL_sways : Cond) ∈ zB := zmem (zt_5 (List.mem_of_getElem? (i := 179) rfl)) rfl
theorem k1402 : (.static yL_sways : Cond) ∈ zB := zmem (zt_5 (List.mem_of_getElem? (i := 180) rfl)) rfl
theorem k1403 : (.methodLink RL 203 yX12_sways : Cond) ∈ zB := zmem (zt_8 (List.mem_of_getElem? (i := 89) rfl)) rfl
theorem k1404 : (.instanceMethod yX12_sways : Cond) ∈ zB := zmem (zt_8 (List.mem_of_getElem? (i := 90) rfl)) rfl
theorem k1405 : (.selects RX12 yX12_sways yX12_sways : Cond) ∈ zB := zmem (zt_8 (List.mem_of_getElem? (i := 91) rfl)) rfl
theorem k1406 : (.methodLink RL 204 yL_guru : Cond) ∈ zB := zmem (zt_5 (List.mem_of_getElem? (i := 186) rfl)) rfl
theorem k1407 : (.static yL_guru : Cond) ∈ zB := zmem (zt_5 (List.mem_of_getElem? (i := 187) rfl)) rfl
theorem k1408 : (.methodLink RL 206 yX12_guru : Cond) ∈ zB := zmem (zt_8 (List.mem_of_getElem? (i := 100) rfl)) rfl
theorem k1409 : (.instanceMethod yX12_guru : Cond) ∈ zB := zmem (zt_8 (List.mem_of_getElem? (i := 101) rfl)) rfl
theorem k1410 : (.selects RX12 yX12_guru yX12_guru : Cond) ∈ zB := zmem (zt_8 (List.mem_of_getElem? (i := 102) rfl)) rfl
theorem k1411 : (.methodLink RL 207 yL_must : Cond) ∈ zB := zmem (zt_5 (List.mem_of_getElem? (i := 199) rfl)) rfl
theorem k1412 : (.static yL_must : Cond) ∈ zB := zmem (zt_5 (List.mem_of_getElem? (i := 200) rfl)) rfl
theorem k1413 : (.methodLink RL 209 yX12_must : Cond) ∈ zB := zmem (zt_8 (List.mem_of_getElem? (i := 104) rfl)) rfl
theorem k1414 : (.instanceMethod yX12_must : Cond) ∈ zB := zmem (zt_8 (List.mem_of_getElem? (i := 105) rfl)) rfl
theorem k1415 : (.selects RX12 yX12_must yX12_must : Cond) ∈ zB := zmem (zt_8 (List.mem_of_getElem? (i := 106) rfl)) rfl
theorem k1416 : (.methodLink RL 210 yL_reaches : Cond) ∈ zB := zmem (zt_5 (List.mem_of_getElem? (i := 212) rfl)) rfl
theorem k1417 : (.static yL_reaches : Cond) ∈ zB := zmem (zt_5 (List.mem_of_getElem? (i := 213) rfl)) rfl
theorem k1418 : (.methodLink RL 212 yX12_reaches : Cond) ∈ zB := zmem (zt_8 (List.mem_of_getElem? (i := 108) rfl)) rfl
theorem k1419 : (.instanceMethod yX12_reaches : Cond) ∈ zB := zmem (zt_8 (List.mem_of_getElem? (i := 109) rfl)) rfl
theorem k1420 : (.selects RX12 yX12_reaches yX12_reaches : Cond) ∈ zB := zmem (zt_8 (List.mem_of_getElem? (i := 110) rfl)) rfl
theorem k1421 : (.methodLink RL 213 yX12_thrown : Cond) ∈ zB := zmem (zt_7 (List.mem_of_getElem? (i := 18) rfl)) rfl
theorem k1422 : (.instanceMethod yX12_thrown : Cond) ∈ zB := zmem (zt_7 (List.mem_of_getElem? (i := 19) rfl)) rfl
theorem k1423 : (.selects RX12 yX12_thrown yX12_thrown : Cond) ∈ zB := zmem (zt_7 (List.mem_of_getElem? (i := 20) rfl)) rfl
theorem k1424 : (.methodLink RL 216 yX11_doubts : Cond) ∈ zB := zmem (zt_2 (List.mem_of_getElem? (i := 162) rfl)) rfl
theorem k1425 : (.instanceMethod yX11_doubts : Cond) ∈ zB := zmem (zt_2 (List.mem_of_getElem? (i := 163) rfl)) rfl
theorem k1426 : (.selects RX11 yX11_doubts yX11_doubts : Cond) ∈ zB := zmem (zt_2 (List.mem_of_getElem? (i := 164) rfl)) rfl
theorem k1427 : (.methodLink RL 219 yX12_doubts : Cond) ∈ zB := zmem (zt_8 (List.mem_of_getElem? (i := 112) rfl)) rfl
theorem k1428 : (.instanceMethod yX12_doubts : Cond) ∈ zB := zmem (zt_8 (List.mem_of_getElem? (i := 113) rfl)) rfl
theorem k1429 : (.selects RX12 yX12_doubts yX12_doubts : Cond) ∈ zB := zmem (zt_8 (List.mem_of_getElem? (i := 114) rfl)) rfl
theorem k1430 : (.methodLink RL 220 yX11_ruin : Cond) ∈ zB := zmem (zt_2 (List.mem_of_getElem? (i := 170) rfl)) rfl
theorem k1431 : (.instanceMethod yX11_ruin : Cond) ∈ zB := zmem (zt_2 (List.mem_of_getElem? (i := 171) rfl)) rfl
theorem k1432 : (.selects RX11 yX11_ruin yX11_ruin : Cond) ∈ zB := zmem (zt_2 (List.mem_of_getElem? (i := 172) rfl)) rfl
theorem k1433 : (.methodLink RL 223 yX12_ruin : Cond) ∈ zB := zmem (zt_8 (List.mem_of_getElem? (i := 120) rfl)) rfl
theorem k1434 : (.instanceMethod yX12_ruin : Cond) ∈ zB := zmem (zt_8 (List.mem_of_getElem? (i := 121) rfl)) rfl
theorem k1435 : (.selects RX12 yX12_ruin yX12_ruin : Cond) ∈ zB := zmem (zt_8 (List.mem_of_getElem? (i := 122) rfl)) rfl
theorem k1436 : (.methodLink RL 224 yL_dearest : Cond) ∈ zB := zmem (zt_5 (List.mem_of_getElem? (i := 223) rfl)) rfl
theorem k1437 : (.static yL_dearest : Cond) ∈ zB := zmem (zt_5 (List.mem_of_getElem? (i := 224) rfl)) rfl
theorem k1438 : (.methodLink RL 226 yX12_dearest : Cond) ∈ zB := zmem (zt_8 (List.mem_of_getElem? (i := 124) rfl)) rfl
theorem k1439 : (.instanceMethod yX12_dearest : Cond) ∈ zB := zmem (zt_8 (List.mem_of_getElem? (i := 125) rfl)) rfl
theorem k1440 : (.selects RX12 yX12_dearest yX12_dearest : Cond) ∈ zB := zmem (zt_8 (List.mem_of_getElem? (i := 126) rfl)) rfl
theorem k1441 : (.methodLink RL 227 yL_falls : Cond) ∈ zB := zmem (zt_5 (List.mem_of_getElem? (i := 235) rfl)) rfl
theorem k1442 : (.static yL_falls : Cond) ∈ zB := zmem (zt_5 (List.mem_of_getElem? (i := 236) rfl)) rfl
theorem k1443 : (.methodLink RL 229 yX12_falls : Cond) ∈ zB := zmem (zt_8 (List.mem_of_getElem? (i := 128) rfl)) rfl
theorem k1444 : (.instanceMethod yX12_falls : Cond) ∈ zB := zmem (zt_8 (List.mem_of_getElem? (i := 129) rfl)) rfl
theorem k1445 : (.selects RX12 yX12_falls yX12_falls : Cond) ∈ zB := zmem (zt_8 (List.mem_of_getElem? (i := 130) rfl)) rfl
theorem k1446 : (.methodLink RL 230 yX11_chosen : Cond) ∈ zB := zmem (zt_3 (List.mem_of_getElem? (i := 31) rfl)) rfl
theorem k1447 : (.instanceMethod yX11_chosen : Cond) ∈ zB := zmem (zt_3 (List.mem_of_getElem? (i := 32) rfl)) rfl
theorem k1448 : (.selects RX11 yX11_chosen yX11_chosen : Cond) ∈ zB := zmem (zt_3 (List.mem_of_getElem? (i := 33) rfl)) rfl
theorem k1449 : (.methodLink RL 233 yX12_chosen : Cond) ∈ zB := zmem (zt_8 (List.mem_of_getElem? (i := 136) rfl)) rfl
theorem k1450 : (.instanceMethod yX12_chosen : Cond) ∈ zB := zmem (zt_8 (List.mem_of_getElem? (i := 137) rfl)) rfl
theorem k1451 : (.selects RX12 yX12_chosen yX12_chosen : Cond) ∈ zB := zmem (zt_8 (List.mem_of_getElem? (i := 138) rfl)) rfl
theorem k1452 : (.methodLink RL 234 yL_river : Cond) ∈ zB := zmem (zt_6 (List.mem_of_getElem? (i := 2) rfl)) rfl
theorem k1453 : (.static yL_river : Cond) ∈ zB := zmem (zt_6 (List.mem_of_getElem? (i := 3) rfl)) rfl
theorem k1454 : (.methodLink RL 236 yX12_river : Cond) ∈ zB := zmem (zt_8 (List.mem_of_getElem? (i := 144) rfl)) rfl
theorem k1455 : (.instanceMethod yX12_river : Cond) ∈ zB := zmem (zt_8 (List.mem_of_getElem? (i := 145) rfl)) rfl
theorem k1456 : (.selects RX12 yX12_river yX12_river : Cond) ∈ zB := zmem (zt_8 (List.mem_of_getElem? (i := 146) rfl)) rfl
theorem k1457 : (.methodLink RL 237 yL_more : Cond) ∈ zB := zmem (zt_6 (List.mem_of_getElem? (i := 27) rfl)) rfl
theorem k1458 : (.static yL_more : Cond) ∈ zB := zmem (zt_6 (List.mem_of_getElem? (i := 28) rfl)) rfl
theorem k1459 : (.methodLink RL 239 yX12_more : Cond) ∈ zB := zmem (zt_8 (List.mem_of_getElem? (i := 157) rfl)) rfl
theorem k1460 : (.instanceMethod yX12_more : Cond) ∈ zB := zmem (zt_8 (List.mem_of_getElem? (i := 158) rfl)) rfl
theorem k1461 : (.selects RX12 yX12_more yX12_more : Cond) ∈ zB := zmem (zt_8 (List.mem_of_getElem? (i := 159) rfl)) rfl
theorem k1462 : (.methodLink RL 240 yL_liars : Cond) ∈ zB := zmem (zt_6 (List.mem_of_getElem? (i := 38) rfl)) rfl
theorem k1463 : (.static yL_liars : Cond) ∈ zB := zmem (zt_6 (List.mem_of_getElem? (i := 39) rfl)) rfl
theorem k1464 : (.methodLink RL 243 yX12_liars : Cond) ∈ zB := zmem (zt_8 (List.mem_of_getElem? (i := 162) rfl)) rfl
theorem k1465 : (.instanceMethod yX12_liars : Cond) ∈ zB := zmem (zt_8 (List.mem_of_getElem? (i := 163) rfl)) rfl
theorem k1466 : (.selects RX12 yX12_liars yX12_liars : Cond) ∈ zB := zmem (zt_8 (List.mem_of_getElem? (i := 164) rfl)) rfl
theorem k1467 : (.methodLink RL 244 yL_ask : Cond) ∈ zB := zmem (zt_6 (List.mem_of_getElem? (i := 71) rfl)) rfl
theorem k1468 : (.static yL_ask : Cond) ∈ zB := zmem (zt_6 (List.mem_of_getElem? (i := 72) rfl)) rfl
theorem k1469 : (.methodLink RL 246 yX12_ask : Cond) ∈ zB := zmem (zt_8 (List.mem_of_getElem? (i := 173) rfl)) rfl
theorem k1470 : (.instanceMethod yX12_ask : Cond) ∈ zB := zmem (zt_8 (List.mem_of_getElem? (i := 174) rfl)) rfl
theorem k1471 : (.selects RX12 yX12_ask yX12_ask : Cond) ∈ zB := zmem (zt_8 (List.mem_of_getElem? (i := 175) rfl)) rfl
theorem k1472 : (.methodLink RL 247 yL_word : Cond) ∈ zB := zmem (zt_6 (List.mem_of_getElem? (i := 87) rfl)) rfl
theorem k1473 : (.static yL_word : Cond) ∈ zB := zmem (zt_6 (List.mem_of_getElem? (i := 88) rfl)) rfl
theorem k1474 : (.methodLink RL 249 yX12_word : Cond) ∈ zB := zmem (zt_8 (List.mem_of_getElem? (i := 178) rfl)) rfl
theorem k1475 : (.instanceMethod yX12_word : Cond) ∈ zB := zmem (zt_8 (List.mem_of_getElem? (i := 179) rfl)) rfl
theorem k1476 : (.selects RX12 yX12_word yX12_word : Cond) ∈ zB := zmem (zt_8 (List.mem_of_getElem? (i := 180) rfl)) rfl
theorem k1477 : (.methodLink RL 250 yL_steps : Cond) ∈ zB := zmem (zt_6 (List.mem_of_getElem? (i := 95) rfl)) rfl
theorem k1478 : (.static yL_steps : Cond) ∈ zB := zmem (zt_6 (List.mem_of_getElem? (i := 96) rfl)) rfl
theorem k1479 : (.methodLink RL 252 yX12_steps : Cond) ∈ zB := zmem (zt_8 (List.mem_of_getElem? (i := 186) rfl)) rfl
theorem k1480 : (.instanceMethod yX12_steps : Cond) ∈ zB := zmem (zt_8 (List.mem_of_getElem? (i := 187) rfl)) rfl
theorem k1481 : (.selects RX12 yX12_steps yX12_steps : Cond) ∈ zB := zmem (zt_8 (List.mem_of_getElem? (i := 188) rfl)) rfl
theorem k1482 : (.methodLink RL 253 yX11_circles : Cond) ∈ zB := zmem (zt_3 (List.mem_of_getElem? (i := 48) rfl)) rfl
theorem k1483 : (.instanceMethod yX11_circles : Cond) ∈ zB := zmem (zt_3 (List.mem_of_getElem? (i := 49) rfl)) rfl
theorem k1484 : (.selects RX11 yX11_circles yX11_circles : Cond) ∈ zB := zmem (zt_3 (List.mem_of_getElem? (i := 50) rfl)) rfl
theorem k1485 : (.methodLink RL 256 yX12_circles : Cond) ∈ zB := zmem (zt_8 (List.mem_of_getElem? (i := 190) rfl)) rfl
theorem k1486 : (.instanceMethod yX12_circles : Cond) ∈ zB := zmem (zt_8 (List.mem_of_getElem? (i := 191) rfl)) rfl
theorem k1487 : (.selects RX12 yX12_circles yX12_circles : Cond) ∈ zB := zmem (zt_8 (List.mem_of_getElem? (i := 192) rfl)) rfl
theorem k1488 : (.methodLink RL 257 yX11_hermits : Cond) ∈ zB := zmem (zt_3 (List.mem_of_getElem? (i := 65) rfl)) rfl
theorem k1489 : (.instanceMethod yX11_hermits : Cond) ∈ zB := zmem (zt_3 (List.mem_of_getElem? (i := 66) rfl)) rfl
theorem k1490 : (.selects RX11 yX11_hermits yX11_hermits : Cond) ∈ zB := zmem (zt_3 (List.mem_of_getElem? (i := 67) rfl)) rfl
theorem k1491 : (.methodLink RL 260 yX12_hermits : Cond) ∈ zB := zmem (zt_8 (List.mem_of_getElem? (i := 198) rfl)) rfl
theorem k1492 : (.instanceMethod yX12_hermits : Cond) ∈ zB := zmem (zt_8 (List.mem_of_getElem? (i := 199) rfl)) rfl
theorem k1493 : (.selects RX12 yX12_hermits yX12_hermits : Cond) ∈ zB := zmem (zt_8 (List.mem_of_getElem? (i := 200) rfl)) rfl
theorem k1494 : (.methodLink RL 261 yL_rests : Cond) ∈ zB := zmem (zt_6 (List.mem_of_getElem? (i := 105) rfl)) rfl
theorem k1495 : (.static yL_rests : Cond) ∈ zB := zmem (zt_6 (List.mem_of_getElem? (i := 106) rfl)) rfl
theorem k1496 : (.methodLink RL 263 yX12_rests : Cond) ∈ zB := zmem (zt_8 (List.mem_of_getElem? (i := 202) rfl)) rfl
theorem k1497 : (.instanceMethod yX12_rests : Cond) ∈ zB := zmem (zt_8 (List.mem_of_getElem? (i := 203) rfl)) rfl
theorem k1498 : (.selects RX12 yX12_rests yX12_rests : Cond) ∈ zB := zmem (zt_8 (List.mem_of_getElem? (i := 204) rfl)) rfl
theorem k1499 : (.methodLink RL 264 yX11_richest : Cond) ∈ zB := zmem (zt_3 (List.mem_of_getElem? (i := 73) rfl)) rfl
theorem k1500 : (.instanceMethod yX11_richest : Cond) ∈ zB := zmem (zt_3 (List.mem_of_getElem? (i := 74) rfl)) rfl
theorem k1501 : (.selects RX11 yX11_richest yX11_richest : Cond) ∈ zB := zmem (zt_3 (List.mem_of_getElem? (i := 75) rfl)) rfl
theorem k1502 : (.methodLink RL 267 yX12_richest : Cond) ∈ zB := zmem (zt_8 (List.mem_of_getElem? (i := 216) rfl)) rfl
theorem k1503 : (.instanceMethod yX12_richest : Cond) ∈ zB := zmem (zt_8 (List.mem_of_getElem? (i := 217) rfl)) rfl
theorem k1504 : (.selects RX12 yX12_richest yX12_richest : Cond) ∈ zB := zmem (zt_8 (List.mem_of_getElem? (i := 218) rfl)) rfl
theorem k1505 : (.methodLink RL 268 yX11_firmest : Cond) ∈ zB := zmem (zt_3 (List.mem_of_getElem? (i := 82) rfl)) rfl
theorem k1506 : (.instanceMethod yX11_firmest : Cond) ∈ zB := zmem (zt_3 (List.mem_of_getElem? (i := 83) rfl)) rfl
theorem k1507 : (.selects RX11 yX11_firmest yX11_firmest : Cond) ∈ zB := zmem (zt_3 (List.mem_of_getElem? (i := 84) rfl)) rfl
theorem k1508 : (.methodLink RL 271 yX12_firmest : Cond) ∈ zB := zmem (zt_8 (List.mem_of_getElem? (i := 220) rfl)) rfl
theorem k1509 : (.instanceMethod yX12_firmest : Cond) ∈ zB := zmem (zt_8 (List.mem_of_getElem? (i := 221) rfl)) rfl
theorem k1510 : (.selects RX12 yX12_firmest yX12_firmest : Cond) ∈ zB := zmem (zt_8 (List.mem_of_getElem? (i := 222) rfl)) rfl
theorem k1511 : (.methodLink RL 272 yL_last : Cond) ∈ zB := zmem (zt_6 (List.mem_of_getElem? (i := 124) rfl)) rfl
theorem k1512 : (.static yL_last : Cond) ∈ zB := zmem (zt_6 (List.mem_of_getElem? (i := 125) rfl)) rfl
theorem k1513 : (.methodLink RL 274 yX12_last : Cond) ∈ zB := zmem (zt_8 (List.mem_of_getElem? (i := 132) rfl)) rfl
theorem k1514 : (.instanceMethod yX12_last : Cond) ∈ zB := zmem (zt_8 (List.mem_of_getElem? (i := 133) rfl)) rfl
theorem k1515 : (.selects RX12 yX12_last yX12_last : Cond) ∈ zB := zmem (zt_8 (List.mem_of_getElem? (i := 134) rfl)) rfl
theorem k1516 : (.methodLink RL 275 yX11_home : Cond) ∈ zB := zmem (zt_3 (List.mem_of_getElem? (i := 87) rfl)) rfl
theorem k1517 : (.instanceMethod yX11_home : Cond) ∈ zB := zmem (zt_3 (List.mem_of_getElem? (i := 88) rfl)) rfl
theorem k1518 : (.selects RX11 yX11_home yX11_home : Cond) ∈ zB := zmem (zt_3 (List.mem_of_getElem? (i := 89) rfl)) rfl
theorem k1519 : (.methodLink RL 278 yX12_home : Cond) ∈ zB := zmem (zt_8 (List.mem_of_getElem? (i := 224) rfl)) rfl
theorem k1520 : (.instanceMethod yX12_home : Cond) ∈ zB := zmem (zt_8 (List.mem_of_getElem? (i := 225) rfl)) rfl
theorem k1521 : (.selects RX12 yX12_home yX12_home : Cond) ∈ zB := zmem (zt_8 (List.mem_of_getElem? (i := 226) rfl)) rfl
theorem k1522 : (.methodLink RL 279 yL_trial : Cond) ∈ zB := zmem (zt_6 (List.mem_of_getElem? (i := 135) rfl)) rfl
theorem k1523 : (.static yL_trial : Cond) ∈ zB := zmem (zt_6 (List.mem_of_getElem? (i := 136) rfl)) rfl
theorem k1524 : (.methodLink RL 281 yX12_trial : Cond) ∈ zB := zmem (zt_8 (List.mem_of_getElem? (i := 228) rfl)) rfl
theorem k1525 : (.instanceMethod yX12_trial : Cond) ∈ zB := zmem (zt_8 (List.mem_of_getElem? (i := 229) rfl)) rfl
theorem k1526 : (.selects RX12 yX12_trial yX12_trial : Cond) ∈ zB := zmem (zt_8 (List.mem_of_getElem? (i := 230) rfl)) rfl
theorem k1527 : (.methodLink RL 282 yL_span : Cond) ∈ zB := zmem (zt_6 (List.mem_of_getElem? (i := 146) rfl)) rfl
theorem k1528 : (.static yL_span : Cond) ∈ zB := zmem (zt_6 (List.mem_of_getElem? (i := 147) rfl)) rfl
theorem k1529 : (.methodLink RL 284 yX12_span : Cond) ∈ zB := zmem (zt_8 (List.mem_of_getElem? (i := 232) rfl)) rfl
theorem k1530 : (.instanceMethod yX12_span : Cond) ∈ zB := zmem (zt_8 (List.mem_of_getElem? (i := 233) rfl)) rfl
theorem k1531 : (.selects RX12 yX12_span yX12_span : Cond) ∈ zB := zmem (zt_8 (List.mem_of_getElem? (i := 234) rfl)) rfl
theorem k1532 : (.methodLink RL 285 yL_led : Cond) ∈ zB := zmem (zt_6 (List.mem_of_getElem? (i := 158) rfl)) rfl
theorem k1533 : (.static yL_led : Cond) ∈ zB := zmem (zt_6 (List.mem_of_getElem? (i := 159) rfl)) rfl
theorem k1534 : (.methodLink RL 287 yX12_led : Cond) ∈ zB := zmem (zt_8 (List.mem_of_getElem? (i := 236) rfl)) rfl
theorem k1535 : (.instanceMethod yX12_led : Cond) ∈ zB := zmem (zt_8 (List.mem_of_getElem? (i := 237) rfl)) rfl
theorem k1536 : (.selects RX12 yX12_led yX12_led : Cond) ∈ zB := zmem (zt_8 (List.mem_of_getElem? (i := 238) rfl)) rfl
theorem k1537 : (.methodLink RL 288 yL_log : Cond) ∈ zB := zmem (zt_6 (List.mem_of_getElem? (i := 182) rfl)) rfl
theorem k1538 : (.static yL_log : Cond) ∈ zB := zmem (zt_6 (List.mem_of_getElem? (i := 183) rfl)) rfl
theorem k1539 : (.methodLink RL 290 yX12_log : Cond) ∈ zB := zmem (zt_9 (List.mem_of_getElem? (i := 4) rfl)) rfl
theorem k1540 : (.instanceMethod yX12_log : Cond) ∈ zB := zmem (zt_9 (List.mem_of_getElem? (i := 5) rfl)) rfl
theorem k1541 : (.selects RX12 yX12_log yX12_log : Cond) ∈ zB := zmem (zt_9 (List.mem_of_getElem? (i := 6) rfl)) rfl
theorem k1542 : (.methodLink RL 291 yX11_seed : Cond) ∈ zB := zmem (zt_3 (List.mem_of_getElem? (i := 95) rfl)) rfl
theorem k1543 : (.instanceMethod yX11_seed : Cond) ∈ zB := zmem (zt_3 (List.mem_of_getElem? (i := 96) rfl)) rfl
theorem k1544 : (.selects RX11 yX11_seed yX11_seed : Cond) ∈ zB := zmem (zt_3 (List.mem_of_getElem? (i := 97) rfl)) rfl
theorem k1545 : (.methodLink RL 294 yX12_seed : Cond) ∈ zB := zmem (zt_9 (List.mem_of_getElem? (i := 8) rfl)) rfl
theorem k1546 : (.instanceMethod yX12_seed : Cond) ∈ zB := zmem (zt_9 (List.mem_of_getElem? (i := 9) rfl)) rfl
theorem k1547 : (.selects RX12 yX12_seed yX12_seed : Cond) ∈ zB := zmem (zt_9 (List.mem_of_getElem? (i := 10) rfl)) rfl
theorem k1548 : (.methodLink RL 295 yX11_undo : Cond) ∈ zB := zmem (zt_3 (List.mem_of_getElem? (i := 99) rfl)) rfl
theorem k1549 : (.instanceMethod yX11_undo : Cond) ∈ zB := zmem (zt_3 (List.mem_of_getElem? (i := 100) rfl)) rfl
theorem k1550 : (.selects RX11 yX11_undo yX11_undo : Cond) ∈ zB := zmem (zt_3 (List.mem_of_getElem? (i := 101) rfl)) rfl
theorem k1551 : (.methodLink RL 299 yX12_undo : Cond) ∈ zB := zmem (zt_9 (List.mem_of_getElem? (i := 12) rfl)) rfl
theorem k1552 : (.instanceMethod yX12_undo : Cond) ∈ zB := zmem (zt_9 (List.mem_of_getElem? (i := 13) rfl)) rfl
theorem k1553 : (.selects RX12 yX12_undo yX12_undo : Cond) ∈ zB := zmem (zt_9 (List.mem_of_getElem? (i := 14) rfl)) rfl
theorem k1554 : (.methodLink RL 300 yX11_image : Cond) ∈ zB := zmem (zt_3 (List.mem_of_getElem? (i := 116) rfl)) rfl
theorem k1555 : (.instanceMethod yX11_image : Cond) ∈ zB := zmem (zt_3 (List.mem_of_getElem? (i := 117) rfl)) rfl
theorem k1556 : (.selects RX11 yX11_image yX11_image : Cond) ∈ zB := zmem (zt_3 (List.mem_of_getElem? (i := 118) rfl)) rfl
theorem k1557 : (.methodLink RL 303 yX12_image : Cond) ∈ zB := zmem (zt_9 (List.mem_of_getElem? (i := 16) rfl)) rfl
theorem k1558 : (.instanceMethod yX12_image : Cond) ∈ zB := zmem (zt_9 (List.mem_of_getElem? (i := 17) rfl)) rfl
theorem k1559 : (.selects RX12 yX12_image yX12_image : Cond) ∈ zB := zmem (zt_9 (List.mem_of_getElem? (i := 18) rfl)) rfl
theorem k1560 : (.methodLink RL 304 yX11_back : Cond) ∈ zB := zmem (zt_3 (List.mem_of_getElem? (i := 129) rfl)) rfl
theorem k1561 : (.instanceMethod yX11_back : Cond) ∈ zB := zmem (zt_3 (List.mem_of_getElem? (i := 130) rfl)) rfl
theorem k1562 : (.selects RX11 yX11_back yX11_back : Cond) ∈ zB := zmem (zt_3 (List.mem_of_getElem? (i := 131) rfl)) rfl
theorem k1563 : (.methodLink RL 307 yX12_back : Cond) ∈ zB := zmem (zt_9 (List.mem_of_getElem? (i := 20) rfl)) rfl
theorem k1564 : (.instanceMethod yX12_back : Cond) ∈ zB := zmem (zt_9 (List.mem_of_getElem? (i := 21) rfl)) rfl
theorem k1565 : (.selects RX12 yX12_back yX12_back : Cond) ∈ zB := zmem (zt_9 (List.mem_of_getElem? (i := 22) rfl)) rfl
theorem k1566 : (.methodLink RL 308 yX11_count : Cond) ∈ zB := zmem (zt_3 (List.mem_of_getElem? (i := 141) rfl)) rfl
theorem k1567 : (.instanceMethod yX11_count : Cond) ∈ zB := zmem (zt_3 (List.mem_of_getElem? (i := 142) rfl)) rfl
theorem k1568 : (.selects RX11 yX11_count yX11_count : Cond) ∈ zB := zmem (zt_3 (List.mem_of_getElem? (i := 143) rfl)) rfl
theorem k1569 : (.methodLink RL 311 yX12_count : Cond) ∈ zB := zmem (zt_9 (List.mem_of_getElem? (i := 24) rfl)) rfl
theorem k1570 : (.instanceMethod yX12_count : Cond) ∈ zB := zmem (zt_9 (List.mem_of_getElem? (i := 25) rfl)) rfl
theorem k1571 : (.selects RX12 yX12_count yX12_count : Cond) ∈ zB := zmem (zt_9 (List.mem_of_getElem? (i := 26) rfl)) rfl
set_option maxRecDepth 20000 in
theorem izRX0 : ∀ w ∈ u_ws RX0 TX0 3, w ∈ zB := by
  intro w hw
  obtain ⟨k, hk, rfl⟩ := List.mem_map.mp hw
  have hk := List.mem_range.mp hk
  rcases (show k = 0 ∨ k = 1 ∨ k = 2 by omega) with rfl | rfl | rfl
  · exact zmem (zt_2 (List.mem_of_getElem? (i := 61) rfl)) rfl
  · exact zmem (zt_2 (List.mem_of_getElem? (i := 63) rfl)) rfl
  · exact zmem (zt_2 (List.mem_of_getElem? (i := 65) rfl)) rfl
set_option maxRecDepth 20000 in
theorem izRX1 : ∀ w ∈ u_ws RX1 TX1 6, w ∈ zB := by
  intro w hw
  obtain ⟨k, hk, rfl⟩ := List.mem_map.mp hw
  have hk := List.mem_range.mp hk
  rcases (show k = 0 ∨ k = 1 ∨ k = 2 ∨ k = 3 ∨ k = 4 ∨ k = 5 by omega) with rfl | rfl | rfl | rfl | rfl | rfl
  · exact zmem (zt_1 (List.mem_of_getElem? (i := 182) rfl)) rfl
  · exact zmem (zt_1 (List.mem_of_getElem? (i := 184) rfl)) rfl
  · exact zmem (zt_1 (List.mem_of_getElem? (i := 186) rfl)) rfl
  · exact zmem (zt_1 (List.mem_of_getElem? (i := 188) rfl)) rfl
  · exact zmem (zt_1 (List.mem_of_getElem? (i := 190) rfl)) rfl
  · exact zmem (zt_1 (List.mem_of_getElem? (i := 192) rfl)) rfl
set_option maxRecDepth 20000 in
theorem izRX2 : ∀ w ∈ u_ws RX2 TX2 2, w ∈ zB := by
  intro w hw
  obtain ⟨k, hk, rfl⟩ := List.mem_map.mp hw
  have hk := List.mem_range.mp hk
  rcases (show k = 0 ∨ k = 1 by omega) with rfl | rfl
  · exact zmem (zt_2 (List.mem_of_getElem? (i := 7) rfl)) rfl
  · exact zmem (zt_2 (List.mem_of_getElem? (i := 5) rfl)) rfl
set_option maxRecDepth 20000 in
theorem izRX3 : ∀ w ∈ u_ws RX3 TX3 3, w ∈ zB := by
  intro w hw
  obtain ⟨k, hk, rfl⟩ := List.mem_map.mp hw
  have hk := List.mem_range.mp hk
  rcases (show k = 0 ∨ k = 1 ∨ k = 2 by omega) with rfl | rfl | rfl
  · exact zmem (zt_1 (List.mem_of_getElem? (i := 205) rfl)) rfl
  · exact zmem (zt_1 (List.mem_of_getElem? (i := 207) rfl)) rfl
  · exact zmem (zt_1 (List.mem_of_getElem? (i := 209) rfl)) rfl
set_option maxRecDepth 20000 in
theorem izRX4 : ∀ w ∈ u_ws RX4 TX4 8, w ∈ zB := by
  intro w hw
  obtain ⟨k, hk, rfl⟩ := List.mem_map.mp hw
  have hk := List.mem_range.mp hk
  rcases (show k = 0 ∨ k = 1 ∨ k = 2 ∨ k = 3 ∨ k = 4 ∨ k = 5 ∨ k = 6 ∨ k = 7 by omega) with rfl | rfl | rfl | rfl | rfl | rfl | rfl | rfl
  · exact zmem (zt_2 (List.mem_of_getElem? (i := 32) rfl)) rfl
  · exact zmem (zt_2 (List.mem_of_getElem? (i := 34) rfl)) rfl
  · exact zmem (zt_2 (List.mem_of_getElem? (i := 36) rfl)) rfl
  · exact zmem (zt_2 (List.mem_of_getElem? (i := 38) rfl)) rfl
  · exact zmem (zt_2 (List.mem_of_getElem? (i := 40) rfl)) rfl
  · exact zmem (zt_2 (List.mem_of_getElem? (i := 42) rfl)) rfl
  · exact zmem (zt_2 (List.mem_of_getElem? (i := 44) rfl)) rfl
  · exact zmem (zt_2 (List.mem_of_getElem? (i := 46) rfl)) rfl
set_option maxRecDepth 20000 in
theorem izRX5 : ∀ w ∈ u_ws RX5 TX5 3, w ∈ zB := by
  intro w hw
  obtain ⟨k, hk, rfl⟩ := List.mem_map.mp hw
  have hk := List.mem_range.mp hk
  rcases (show k = 0 ∨ k = 1 ∨ k = 2 by omega) with rfl | rfl | rfl
  · exact zmem (zt_2 (List.mem_of_getElem? (i := 78) rfl)) rfl
  · exact zmem (zt_2 (List.mem_of_getElem? (i := 80) rfl)) rfl
  · exact zmem (zt_2 (List.mem_of_getElem? (i := 82) rfl)) rfl
set_option maxRecDepth 20000 in
theorem izRX6 : ∀ w ∈ u_ws RX6 TX6 7, w ∈ zB := by
  intro w hw
  obtain ⟨k, hk, rfl⟩ := List.mem_map.mp hw
  have hk := List.mem_range.mp hk
  rcases (show k = 0 ∨ k = 1 ∨ k = 2 ∨ k = 3 ∨ k = 4 ∨ k = 5 ∨ k = 6 by omega) with rfl | rfl | rfl | rfl | rfl | rfl | rfl
  · exact zmem (zt_1 (List.mem_of_getElem? (i := 58) rfl)) rfl
  · exact zmem (zt_1 (List.mem_of_getElem? (i := 60) rfl)) rfl
  · exact zmem (zt_1 (List.mem_of_getElem? (i := 62) rfl)) rfl
  · exact zmem (zt_1 (List.mem_of_getElem? (i := 64) rfl)) rfl
  · exact zmem (zt_1 (List.mem_of_getElem? (i := 66) rfl)) rfl
  · exact zmem (zt_1 (List.mem_of_getElem? (i := 68) rfl)) rfl
  · exact zmem (zt_1 (List.mem_of_getElem? (i := 70) rfl)) rfl
set_option maxRecDepth 20000 in
theorem izRX9 : ∀ w ∈ u_ws RX9 TX9 19, w ∈ zB := by
  intro w hw
  obtain ⟨k, hk, rfl⟩ := List.mem_map.mp hw
  have hk := List.mem_range.mp hk
  rcases (show k = 0 ∨ k = 1 ∨ k = 2 ∨ k = 3 ∨ k = 4 ∨ k = 5 ∨ k = 6 ∨ k = 7 ∨ k = 8 ∨ k = 9 ∨ k = 10 ∨ k = 11 ∨ k = 12 ∨ k = 13 ∨ k = 14 ∨ k = 15 ∨ k = 16 ∨ k = 17 ∨ k = 18 by omega) with rfl | rfl | rfl | rfl | rfl | rfl | rfl | rfl | rfl | rfl | rfl | rfl | rfl | rfl | rfl | rfl | rfl | rfl | rfl
  · exact zmem (zt_1 (List.mem_of_getElem? (i := 129) rfl)) rfl
  · exact zmem (zt_1 (List.mem_of_getElem? (i := 131) rfl)) rfl
  · exact zmem (zt_1 (List.mem_of_getElem? (i := 133) rfl)) rfl
  · exact zmem (zt_1 (List.mem_of_getElem? (i := 135) rfl)) rfl
  · exact zmem (zt_1 (List.mem_of_getElem? (i := 137) rfl)) rfl
  · exact zmem (zt_1 (List.mem_of_getElem? (i := 139) rfl)) rfl
  · exact zmem (zt_1 (List.mem_of_getElem? (i := 141) rfl)) rfl
  · exact zmem (zt_1 (List.mem_of_getElem? (i := 143) rfl)) rfl
  · exact zmem (zt_1 (List.mem_of_getElem? (i := 145) rfl)) rfl
  · exact zmem (zt_1 (List.mem_of_getElem? (i := 147) rfl)) rfl
  · exact zmem (zt_1 (List.mem_of_getElem? (i := 149) rfl)) rfl
  · exact zmem (zt_1 (List.mem_of_getElem? (i := 151) rfl)) rfl
  · exact zmem (zt_1 (List.mem_of_getElem? (i := 153) rfl)) rfl
  · exact zmem (zt_1 (List.mem_of_getElem? (i := 155) rfl)) rfl
  · exact zmem (zt_1 (List.mem_of_getElem? (i := 157) rfl)) rfl
  · exact zmem (zt_1 (List.mem_of_getElem? (i := 159) rfl)) rfl
  · exact zmem (zt_1 (List.mem_of_getElem? (i := 161) rfl)) rfl
  · exact zmem (zt_1 (List.mem_of_getElem? (i := 163) rfl)) rfl
  · exact zmem (zt_1 (List.mem_of_getElem? (i := 165) rfl)) rfl
set_option maxRecDepth 20000 in
theorem izRX10 : ∀ w ∈ u_ws RX10 TX10 2, w ∈ zB := by
  intro w hw
  obtain ⟨k, hk, rfl⟩ := List.mem_map.mp hw
  have hk := List.mem_range.mp hk
  rcases (show k = 0 ∨ k = 1 by omega) with rfl | rfl
  · exact zmem (zt_1 (List.mem_of_getElem? (i := 232) rfl)) rfl
  · exact zmem (zt_1 (List.mem_of_getElem? (i := 230) rfl)) rfl
set_option maxRecDepth 20000 in
theorem izRX11 : ∀ w ∈ u_ws RX11 TX11 10, w ∈ zB := by
  intro w hw
  obtain ⟨k, hk, rfl⟩ := List.mem_map.mp hw
  have hk := List.mem_range.mp hk
  rcases (show k = 0 ∨ k = 1 ∨ k = 2 ∨ k = 3 ∨ k = 4 ∨ k = 5 ∨ k = 6 ∨ k = 7 ∨ k = 8 ∨ k = 9 by omega) with rfl | rfl | rfl | rfl | rfl | rfl | rfl | rfl | rfl | rfl
  · exact zmem (zt_2 (List.mem_of_getElem? (i := 95) rfl)) rfl
  · exact zmem (zt_2 (List.mem_of_getElem? (i := 97) rfl)) rfl
  · exact zmem (zt_2 (List.mem_of_getElem? (i := 99) rfl)) rfl
  · exact zmem (zt_2 (List.mem_of_getElem? (i := 101) rfl)) rfl
  · exact zmem (zt_2 (List.mem_of_getElem? (i := 103) rfl)) rfl
  · exact zmem (zt_2 (List.mem_of_getElem? (i := 105) rfl)) rfl
  · exact zmem (zt_2 (List.mem_of_getElem? (i := 107) rfl)) rfl
  · exact zmem (zt_2 (List.mem_of_getElem? (i := 109) rfl)) rfl
  · exact zmem (zt_2 (List.mem_of_getElem? (i := 111) rfl)) rfl
  · exact zmem (zt_2 (List.mem_of_getElem? (i := 113) rfl)) rfl
set_option maxRecDepth 20000 in
theorem izRX12 : ∀ w ∈ u_ws RX12 TX12 20, w ∈ zB := by
  intro w hw
  obtain ⟨k, hk, rfl⟩ := List.mem_map.mp hw
  have hk := List.mem_range.mp hk
  rcases (show k = 0 ∨ k = 1 ∨ k = 2 ∨ k = 3 ∨ k = 4 ∨ k = 5 ∨ k = 6 ∨ k = 7 ∨ k = 8 ∨ k = 9 ∨ k = 10 ∨ k = 11 ∨ k = 12 ∨ k = 13 ∨ k = 14 ∨ k = 15 ∨ k = 16 ∨ k = 17 ∨ k = 18 ∨ k = 19 by omega) with rfl | rfl | rfl | rfl | rfl | rfl | rfl | rfl | rfl | rfl | rfl | rfl | rfl | rfl | rfl | rfl | rfl | rfl | rfl | rfl
  · exact zmem (zt_6 (List.mem_of_getElem? (i := 217) rfl)) rfl
  · exact zmem (zt_6 (List.mem_of_getElem? (i := 219) rfl)) rfl
  · exact zmem (zt_6 (List.mem_of_getElem? (i := 221) rfl)) rfl
  · exact zmem (zt_6 (List.mem_of_getElem? (i := 223) rfl)) rfl
  · exact zmem (zt_6 (List.mem_of_getElem? (i := 225) rfl)) rfl
  · exact zmem (zt_6 (List.mem_of_getElem? (i := 227) rfl)) rfl
  · exact zmem (zt_6 (List.mem_of_getElem? (i := 229) rfl)) rfl
  · exact zmem (zt_6 (List.mem_of_getElem? (i := 231) rfl)) rfl
  · exact zmem (zt_6 (List.mem_of_getElem? (i := 233) rfl)) rfl
  · exact zmem (zt_6 (List.mem_of_getElem? (i := 235) rfl)) rfl
  · exact zmem (zt_6 (List.mem_of_getElem? (i := 237) rfl)) rfl
  · exact zmem (zt_6 (List.mem_of_getElem? (i := 239) rfl)) rfl
  · exact zmem (zt_7 (List.mem_of_getElem? (i := 1) rfl)) rfl
  · exact zmem (zt_7 (List.mem_of_getElem? (i := 3) rfl)) rfl
  · exact zmem (zt_7 (List.mem_of_getElem? (i := 5) rfl)) rfl
  · exact zmem (zt_7 (List.mem_of_getElem? (i := 7) rfl)) rfl
  · exact zmem (zt_7 (List.mem_of_getElem? (i := 9) rfl)) rfl
  · exact zmem (zt_7 (List.mem_of_getElem? (i := 11) rfl)) rfl
  · exact zmem (zt_7 (List.mem_of_getElem? (i := 13) rfl)) rfl
  · exact zmem (zt_7 (List.mem_of_getElem? (i := 15) rfl)) rfl
