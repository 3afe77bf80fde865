/-! link words, by class and entry of its constant pool: ml a method, fl a field, cl a class, kl a constant -/
theorem hc_subl (ws : List Cond) (ps : List Nat) (hp : ws = ps.filterMap (fun i => lw_tbl[i]?)) (h : ws.all goodWord = true) : ∀ w ∈ ws, w ∈ hc_T := by
  intro w hw
  refine List.mem_filter.mpr ⟨?_, List.all_eq_true.mp h w hw⟩
  rw [hp] at hw
  obtain ⟨i, -, hi⟩ := List.mem_filterMap.mp hw
  exact List.mem_of_getElem? hi
set_option maxRecDepth 100000 in
theorem mlX10_3 : Cond.methodLink RX10 3 objectInit ∈ hc_T := hc_in1 (i := 24) (w := Cond.methodLink RX10 3 objectInit) rfl rfl
set_option maxRecDepth 100000 in
theorem clX10_9 : Cond.classLink RX10 9 "HailClub$Tape" ∈ hc_T := hc_in1 (i := 27) (w := Cond.classLink RX10 9 "HailClub$Tape") rfl rfl
set_option maxRecDepth 100000 in
theorem flX10_12 : Cond.fieldLink RX10 12 "HailClub" "tape" "LHailClub$Tape;" ∈ hc_T := hc_in2 (i := 135) (w := Cond.fieldLink RX10 12 "HailClub" "tape" "LHailClub$Tape;") rfl rfl
set_option maxRecDepth 100000 in
theorem clX10_16 : Cond.classLink RX10 16 "HailClub$State" ∈ hc_T := hc_in1 (i := 44) (w := Cond.classLink RX10 16 "HailClub$State") rfl rfl
set_option maxRecDepth 100000 in
theorem mlX10_18 : Cond.methodLink RX10 18 yX6_init ∈ hc_T := hc_in1 (i := 46) (w := Cond.methodLink RX10 18 yX6_init) rfl rfl
set_option maxRecDepth 100000 in
theorem flX10_19 : Cond.fieldLink RX10 19 "HailClub" "state" "LHailClub$State;" ∈ hc_T := hc_in2 (i := 136) (w := Cond.fieldLink RX10 19 "HailClub" "state" "LHailClub$State;") rfl rfl
set_option maxRecDepth 100000 in
theorem flX10_23 : Cond.fieldLink RX10 23 "HailClub" "draft" "LHailClub$State;" ∈ hc_T := hc_in2 (i := 137) (w := Cond.fieldLink RX10 23 "HailClub" "draft" "LHailClub$State;") rfl rfl
set_option maxRecDepth 100000 in
theorem clX10_26 : Cond.classLink RX10 26 "HailClub$Law" ∈ hc_T := hc_in1 (i := 136) (w := Cond.classLink RX10 26 "HailClub$Law") rfl rfl
set_option maxRecDepth 100000 in
theorem flX10_29 : Cond.fieldLink RX10 29 "HailClub" "law" "LHailClub$Law;" ∈ hc_T := hc_in2 (i := 138) (w := Cond.fieldLink RX10 29 "HailClub" "law" "LHailClub$Law;") rfl rfl
set_option maxRecDepth 100000 in
theorem flX10_33 : Cond.fieldLink RX10 33 "HailClub" "draftLaw" "LHailClub$Law;" ∈ hc_T := hc_in2 (i := 139) (w := Cond.fieldLink RX10 33 "HailClub" "draftLaw" "LHailClub$Law;") rfl rfl
set_option maxRecDepth 100000 in
theorem clX10_36 : Cond.classLink RX10 36 "HailClub$Reader" ∈ hc_T := hc_in1 (i := 154) (w := Cond.classLink RX10 36 "HailClub$Reader") rfl rfl
set_option maxRecDepth 100000 in
theorem mlX10_38 : Cond.methodLink RX10 38 yX5_init ∈ hc_T := hc_in1 (i := 156) (w := Cond.methodLink RX10 38 yX5_init) rfl rfl
set_option maxRecDepth 100000 in
theorem flX10_41 : Cond.fieldLink RX10 41 "HailClub" "reader" "LHailClub$Reader;" ∈ hc_T := hc_in2 (i := 140) (w := Cond.fieldLink RX10 41 "HailClub" "reader" "LHailClub$Reader;") rfl rfl
set_option maxRecDepth 100000 in
theorem clX10_45 : Cond.classLink RX10 45 "HailClub$History" ∈ hc_T := hc_in2 (i := 38) (w := Cond.classLink RX10 45 "HailClub$History") rfl rfl
set_option maxRecDepth 100000 in
theorem mlX10_47 : Cond.methodLink RX10 47 yX3_init ∈ hc_T := hc_in2 (i := 40) (w := Cond.methodLink RX10 47 yX3_init) rfl rfl
set_option maxRecDepth 100000 in
theorem flX10_48 : Cond.fieldLink RX10 48 "HailClub" "history" "LHailClub$History;" ∈ hc_T := hc_in2 (i := 141) (w := Cond.fieldLink RX10 48 "HailClub" "history" "LHailClub$History;") rfl rfl
set_option maxRecDepth 100000 in
theorem clX10_52 : Cond.classLink RX10 52 "HailClub$Assessor" ∈ hc_T := hc_in2 (i := 58) (w := Cond.classLink RX10 52 "HailClub$Assessor") rfl rfl
set_option maxRecDepth 100000 in
theorem mlX10_54 : Cond.methodLink RX10 54 yX0_init ∈ hc_T := hc_in2 (i := 60) (w := Cond.methodLink RX10 54 yX0_init) rfl rfl
set_option maxRecDepth 100000 in
theorem flX10_57 : Cond.fieldLink RX10 57 "HailClub" "assessor" "LHailClub$Assessor;" ∈ hc_T := hc_in2 (i := 142) (w := Cond.fieldLink RX10 57 "HailClub" "assessor" "LHailClub$Assessor;") rfl rfl
set_option maxRecDepth 100000 in
theorem clX10_61 : Cond.classLink RX10 61 "HailClub$Ending" ∈ hc_T := hc_in2 (i := 89) (w := Cond.classLink RX10 61 "HailClub$Ending") rfl rfl
set_option maxRecDepth 100000 in
theorem mlX10_63 : Cond.methodLink RX10 63 yX1_init ∈ hc_T := hc_in2 (i := 91) (w := Cond.methodLink RX10 63 yX1_init) rfl rfl
set_option maxRecDepth 100000 in
theorem flX10_66 : Cond.fieldLink RX10 66 "HailClub" "ending" "LHailClub$Ending;" ∈ hc_T := hc_in2 (i := 143) (w := Cond.fieldLink RX10 66 "HailClub" "ending" "LHailClub$Ending;") rfl rfl
set_option maxRecDepth 100000 in
theorem mlX10_70 : Cond.methodLink RX10 70 yX8_takes ∈ hc_T := hc_in2 (i := 167) (w := Cond.methodLink RX10 70 yX8_takes) rfl rfl
set_option maxRecDepth 100000 in
theorem mlX10_74 : Cond.methodLink RX10 74 yX8_append ∈ hc_T := hc_in2 (i := 171) (w := Cond.methodLink RX10 74 yX8_append) rfl rfl
set_option maxRecDepth 100000 in
theorem flX10_78 : Cond.fieldLink RX10 78 "HailClub$Tape" "length" "I" ∈ hc_T := hc_in1 (i := 36) (w := Cond.fieldLink RX10 78 "HailClub$Tape" "length" "I") rfl rfl
set_option maxRecDepth 100000 in
theorem mlX10_82 : Cond.methodLink RX10 82 yX5_readBook ∈ hc_T := hc_in2 (i := 183) (w := Cond.methodLink RX10 82 yX5_readBook) rfl rfl
set_option maxRecDepth 100000 in
theorem mlX10_86 : Cond.methodLink RX10 86 yX6_copyFrom ∈ hc_T := hc_in3 (i := 123) (w := Cond.methodLink RX10 86 yX6_copyFrom) rfl rfl
set_option maxRecDepth 100000 in
theorem mlX10_90 : Cond.methodLink RX10 90 yX4_copyFrom ∈ hc_T := hc_in3 (i := 134) (w := Cond.methodLink RX10 90 yX4_copyFrom) rfl rfl
set_option maxRecDepth 100000 in
theorem flX10_93 : Cond.fieldLink RX10 93 "HailClub$History" "count" "I" ∈ hc_T := hc_in2 (i := 50) (w := Cond.fieldLink RX10 93 "HailClub$History" "count" "I") rfl rfl
set_option maxRecDepth 100000 in
theorem flX10_96 : Cond.fieldLink RX10 96 "HailClub$State" "fieldCount" "I" ∈ hc_T := hc_in1 (i := 95) (w := Cond.fieldLink RX10 96 "HailClub$State" "fieldCount" "I") rfl rfl
set_option maxRecDepth 100000 in
theorem mlX10_99 : Cond.methodLink RX10 99 yX5_readJoiner ∈ hc_T := hc_in3 (i := 143) (w := Cond.methodLink RX10 99 yX5_readJoiner) rfl rfl
set_option maxRecDepth 100000 in
theorem flX10_102 : Cond.fieldLink RX10 102 "HailClub$State" "memberCount" "I" ∈ hc_T := hc_in1 (i := 92) (w := Cond.fieldLink RX10 102 "HailClub$State" "memberCount" "I") rfl rfl
set_option maxRecDepth 100000 in
theorem mlX10_105 : Cond.methodLink RX10 105 yX10_buyIn ∈ hc_T := hc_in3 (i := 152) (w := Cond.methodLink RX10 105 yX10_buyIn) rfl rfl
set_option maxRecDepth 100000 in
theorem flX10_109 : Cond.fieldLink RX10 109 "HailClub$State" "rules" "[J" ∈ hc_T := hc_in1 (i := 66) (w := Cond.fieldLink RX10 109 "HailClub$State" "rules" "[J") rfl rfl
set_option maxRecDepth 100000 in
theorem mlX10_113 : Cond.methodLink RX10 113 yX3_keep ∈ hc_T := hc_in3 (i := 199) (w := Cond.methodLink RX10 113 yX3_keep) rfl rfl
set_option maxRecDepth 100000 in
theorem mlX10_116 : Cond.methodLink RX10 116 yX6_pointsOf ∈ hc_T := hc_in3 (i := 155) (w := Cond.methodLink RX10 116 yX6_pointsOf) rfl rfl
set_option maxRecDepth 100000 in
theorem mlX10_120 : Cond.methodLink RX10 120 yX6_allPoints ∈ hc_T := hc_in3 (i := 191) (w := Cond.methodLink RX10 120 yX6_allPoints) rfl rfl
set_option maxRecDepth 100000 in
theorem klX10_124 : Cond.constantLong RX10 124 (9999999) ∈ hc_T := hc_in3 (i := 195) (w := Cond.constantLong RX10 124 (9999999)) rfl rfl
set_option maxRecDepth 100000 in
theorem mlX10_126 : Cond.methodLink RX10 126 Lib.MathLoose.min_long.x ∈ hc_T := hc_in3 (i := 196) (w := Cond.methodLink RX10 126 Lib.MathLoose.min_long.x) rfl rfl
set_option maxRecDepth 100000 in
theorem flX10_132 : Cond.fieldLink RX10 132 "HailClub$Reader" "fault" "I" ∈ hc_T := hc_in2 (i := 7) (w := Cond.fieldLink RX10 132 "HailClub$Reader" "fault" "I") rfl rfl
set_option maxRecDepth 100000 in
theorem flX10_135 : Cond.fieldLink RX10 135 "HailClub$Reader" "faultPlace" "I" ∈ hc_T := hc_in2 (i := 9) (w := Cond.fieldLink RX10 135 "HailClub$Reader" "faultPlace" "I") rfl rfl
set_option maxRecDepth 100000 in
theorem mlX10_138 : Cond.methodLink RX10 138 yX5_readLoneName ∈ hc_T := hc_in3 (i := 215) (w := Cond.methodLink RX10 138 yX5_readLoneName) rfl rfl
set_option maxRecDepth 100000 in
theorem mlX10_141 : Cond.methodLink RX10 141 yX6_memberNamed ∈ hc_T := hc_in3 (i := 219) (w := Cond.methodLink RX10 141 yX6_memberNamed) rfl rfl
set_option maxRecDepth 100000 in
theorem mlX10_145 : Cond.methodLink RX10 145 yX6_isThere ∈ hc_T := hc_in3 (i := 220) (w := Cond.methodLink RX10 145 yX6_isThere) rfl rfl
set_option maxRecDepth 100000 in
theorem flX10_148 : Cond.fieldLink RX10 148 "HailClub$State" "stormCount" "I" ∈ hc_T := hc_in1 (i := 99) (w := Cond.fieldLink RX10 148 "HailClub$State" "stormCount" "I") rfl rfl
set_option maxRecDepth 100000 in
theorem mlX10_151 : Cond.methodLink RX10 151 yX10_isArea ∈ hc_T := hc_in3 (i := 225) (w := Cond.methodLink RX10 151 yX10_isArea) rfl rfl
set_option maxRecDepth 100000 in
theorem mlX10_155 : Cond.methodLink RX10 155 yX10_isStrength ∈ hc_T := hc_in3 (i := 229) (w := Cond.methodLink RX10 155 yX10_isStrength) rfl rfl
set_option maxRecDepth 100000 in
theorem clX10_158 : Cond.classLink RX10 158 "HailClub$Storm" ∈ hc_T := hc_in3 (i := 232) (w := Cond.classLink RX10 158 "HailClub$Storm") rfl rfl
set_option maxRecDepth 100000 in
theorem mlX10_160 : Cond.methodLink RX10 160 yX7_init ∈ hc_T := hc_in3 (i := 234) (w := Cond.methodLink RX10 160 yX7_init) rfl rfl
set_option maxRecDepth 100000 in
theorem mlX10_163 : Cond.methodLink RX10 163 yX6_addStorm ∈ hc_T := hc_in4 (i := 15) (w := Cond.methodLink RX10 163 yX6_addStorm) rfl rfl
set_option maxRecDepth 100000 in
theorem mlX10_167 : Cond.methodLink RX10 167 yX6_fieldsUnder ∈ hc_T := hc_in4 (i := 19) (w := Cond.methodLink RX10 167 yX6_fieldsUnder) rfl rfl
set_option maxRecDepth 100000 in
theorem flX10_171 : Cond.fieldLink RX10 171 "HailClub$State" "leaves" "[Z" ∈ hc_T := hc_in1 (i := 74) (w := Cond.fieldLink RX10 171 "HailClub$State" "leaves" "[Z") rfl rfl
set_option maxRecDepth 100000 in
theorem mlX10_175 : Cond.methodLink RX10 175 yX6_membersThere ∈ hc_T := hc_in4 (i := 35) (w := Cond.methodLink RX10 175 yX6_membersThere) rfl rfl
set_option maxRecDepth 100000 in
theorem klX10_179 : Cond.constantLong RX10 179 (-1) ∈ hc_T := hc_in4 (i := 39) (w := Cond.constantLong RX10 179 (-1)) rfl rfl
set_option maxRecDepth 100000 in
theorem mlX10_181 : Cond.methodLink RX10 181 yX1_reckon ∈ hc_T := hc_in4 (i := 40) (w := Cond.methodLink RX10 181 yX1_reckon) rfl rfl
set_option maxRecDepth 100000 in
theorem mlX10_184 : Cond.methodLink RX10 184 yX6_endYear ∈ hc_T := hc_in4 (i := 159) (w := Cond.methodLink RX10 184 yX6_endYear) rfl rfl
set_option maxRecDepth 100000 in
theorem flX10_188 : Cond.fieldLink RX10 188 "HailClub$Ending" "totals" "[J" ∈ hc_T := hc_in2 (i := 100) (w := Cond.fieldLink RX10 188 "HailClub$Ending" "totals" "[J") rfl rfl
set_option maxRecDepth 100000 in
theorem mlX10_191 : Cond.methodLink RX10 191 yX3_takeBack ∈ hc_T := hc_in4 (i := 167) (w := Cond.methodLink RX10 191 yX3_takeBack) rfl rfl
set_option maxRecDepth 100000 in
theorem mlX10_195 : Cond.methodLink RX10 195 yX6_isKnown ∈ hc_T := hc_in4 (i := 175) (w := Cond.methodLink RX10 195 yX6_isKnown) rfl rfl
set_option maxRecDepth 100000 in
theorem flX10_198 : Cond.fieldLink RX10 198 "HailClub$State" "there" "[Z" ∈ hc_T := hc_in1 (i := 72) (w := Cond.fieldLink RX10 198 "HailClub$State" "there" "[Z") rfl rfl
set_option maxRecDepth 100000 in
theorem flX10_201 : Cond.fieldLink RX10 201 "HailClub$State" "years" "[I" ∈ hc_T := hc_in1 (i := 79) (w := Cond.fieldLink RX10 201 "HailClub$State" "years" "[I") rfl rfl
set_option maxRecDepth 100000 in
theorem mlX10_205 : Cond.methodLink RX10 205 yX6_fieldsOf ∈ hc_T := hc_in4 (i := 176) (w := Cond.methodLink RX10 205 yX6_fieldsOf) rfl rfl
set_option maxRecDepth 100000 in
theorem mlX10_209 : Cond.methodLink RX10 209 yX6_sumsOf ∈ hc_T := hc_in4 (i := 180) (w := Cond.methodLink RX10 209 yX6_sumsOf) rfl rfl
set_option maxRecDepth 100000 in
theorem mlX10_212 : Cond.methodLink RX10 212 yX10_advance ∈ hc_T := hc_in4 (i := 181) (w := Cond.methodLink RX10 212 yX10_advance) rfl rfl
set_option maxRecDepth 100000 in
theorem mlX10_215 : Cond.methodLink RX10 215 yX0_claimsOf ∈ hc_T := hc_in4 (i := 182) (w := Cond.methodLink RX10 215 yX0_claimsOf) rfl rfl
set_option maxRecDepth 100000 in
theorem mlX10_218 : Cond.methodLink RX10 218 yX6_isFieldKnown ∈ hc_T := hc_in4 (i := 187) (w := Cond.methodLink RX10 218 yX6_isFieldKnown) rfl rfl
set_option maxRecDepth 100000 in
theorem flX10_221 : Cond.fieldLink RX10 221 "HailClub$State" "fields" "[LHailClub$Field;" ∈ hc_T := hc_in1 (i := 82) (w := Cond.fieldLink RX10 221 "HailClub$State" "fields" "[LHailClub$Field;") rfl rfl
set_option maxRecDepth 100000 in
theorem mlX10_225 : Cond.methodLink RX10 225 yX6_stands ∈ hc_T := hc_in4 (i := 188) (w := Cond.methodLink RX10 225 yX6_stands) rfl rfl
set_option maxRecDepth 100000 in
theorem flX10_228 : Cond.fieldLink RX10 228 "HailClub$Field" "owner" "I" ∈ hc_T := hc_in3 (i := 39) (w := Cond.fieldLink RX10 228 "HailClub$Field" "owner" "I") rfl rfl
set_option maxRecDepth 100000 in
theorem flX10_233 : Cond.fieldLink RX10 233 "HailClub$Field" "x" "I" ∈ hc_T := hc_in3 (i := 43) (w := Cond.fieldLink RX10 233 "HailClub$Field" "x" "I") rfl rfl
set_option maxRecDepth 100000 in
theorem flX10_236 : Cond.fieldLink RX10 236 "HailClub$Field" "y" "I" ∈ hc_T := hc_in3 (i := 48) (w := Cond.fieldLink RX10 236 "HailClub$Field" "y" "I") rfl rfl
set_option maxRecDepth 100000 in
theorem flX10_239 : Cond.fieldLink RX10 239 "HailClub$Field" "crop" "I" ∈ hc_T := hc_in3 (i := 52) (w := Cond.fieldLink RX10 239 "HailClub$Field" "crop" "I") rfl rfl
set_option maxRecDepth 100000 in
theorem flX10_242 : Cond.fieldLink RX10 242 "HailClub$Field" "area" "I" ∈ hc_T := hc_in3 (i := 54) (w := Cond.fieldLink RX10 242 "HailClub$Field" "area" "I") rfl rfl
set_option maxRecDepth 100000 in
theorem flX10_245 : Cond.fieldLink RX10 245 "HailClub$Field" "value" "I" ∈ hc_T := hc_in3 (i := 56) (w := Cond.fieldLink RX10 245 "HailClub$Field" "value" "I") rfl rfl
set_option maxRecDepth 100000 in
theorem mlX10_248 : Cond.methodLink RX10 248 yX0_lost ∈ hc_T := hc_in4 (i := 189) (w := Cond.methodLink RX10 248 yX0_lost) rfl rfl
set_option maxRecDepth 100000 in
theorem mlX10_252 : Cond.methodLink RX10 252 yX0_paid ∈ hc_T := hc_in4 (i := 190) (w := Cond.methodLink RX10 252 yX0_paid) rfl rfl
set_option maxRecDepth 100000 in
theorem mlX10_256 : Cond.methodLink RX10 256 yX0_claim ∈ hc_T := hc_in4 (i := 191) (w := Cond.methodLink RX10 256 yX0_claim) rfl rfl
set_option maxRecDepth 100000 in
theorem mlX10_259 : Cond.methodLink RX10 259 yX10_isCell ∈ hc_T := hc_in3 (i := 228) (w := Cond.methodLink RX10 259 yX10_isCell) rfl rfl
set_option maxRecDepth 100000 in
theorem mlX10_263 : Cond.methodLink RX10 263 yX6_hazardAt ∈ hc_T := hc_in4 (i := 196) (w := Cond.methodLink RX10 263 yX6_hazardAt) rfl rfl
set_option maxRecDepth 100000 in
theorem klX10_269 : Cond.constantLong RX10 269 (-9223372036854775808) ∈ hc_T := hc_in4 (i := 205) (w := Cond.constantLong RX10 269 (-9223372036854775808)) rfl rfl
set_option maxRecDepth 100000 in
theorem flX10_271 : Cond.fieldLink RX10 271 "HailClub$Ending" "rows" "[[J" ∈ hc_T := hc_in2 (i := 103) (w := Cond.fieldLink RX10 271 "HailClub$Ending" "rows" "[[J") rfl rfl
set_option maxRecDepth 100000 in
theorem flX10_275 : Cond.fieldLink RX10 275 "HailClub$State" "endThere" "[Z" ∈ hc_T := hc_in1 (i := 87) (w := Cond.fieldLink RX10 275 "HailClub$State" "endThere" "[Z") rfl rfl
set_option maxRecDepth 100000 in
theorem flX10_278 : Cond.fieldLink RX10 278 "HailClub$State" "endRows" "[[J" ∈ hc_T := hc_in1 (i := 89) (w := Cond.fieldLink RX10 278 "HailClub$State" "endRows" "[[J") rfl rfl
set_option maxRecDepth 100000 in
theorem mlX10_281 : Cond.methodLink RX10 281 yX6_allSums ∈ hc_T := hc_in4 (i := 214) (w := Cond.methodLink RX10 281 yX6_allSums) rfl rfl
set_option maxRecDepth 100000 in
theorem mlX10_284 : Cond.methodLink RX10 284 yX10_goalCoins ∈ hc_T := hc_in4 (i := 218) (w := Cond.methodLink RX10 284 yX10_goalCoins) rfl rfl
set_option maxRecDepth 100000 in
theorem flX10_287 : Cond.fieldLink RX10 287 "HailClub" "RULE_MOST" "[I" ∈ hc_T := hc_in4 (i := 223) (w := Cond.fieldLink RX10 287 "HailClub" "RULE_MOST" "[I") rfl rfl
set_option maxRecDepth 100000 in
theorem mlX10_290 : Cond.methodLink RX10 290 yX10_isSpan ∈ hc_T := hc_in4 (i := 228) (w := Cond.methodLink RX10 290 yX10_isSpan) rfl rfl
set_option maxRecDepth 100000 in
theorem mlX10_293 : Cond.methodLink RX10 293 yX0_findWorst ∈ hc_T := hc_in4 (i := 231) (w := Cond.methodLink RX10 293 yX0_findWorst) rfl rfl
set_option maxRecDepth 100000 in
theorem flX10_297 : Cond.fieldLink RX10 297 "HailClub$Assessor" "worstX" "I" ∈ hc_T := hc_in2 (i := 69) (w := Cond.fieldLink RX10 297 "HailClub$Assessor" "worstX" "I") rfl rfl
set_option maxRecDepth 100000 in
theorem flX10_300 : Cond.fieldLink RX10 300 "HailClub$Assessor" "worstY" "I" ∈ hc_T := hc_in2 (i := 71) (w := Cond.fieldLink RX10 300 "HailClub$Assessor" "worstY" "I") rfl rfl
set_option maxRecDepth 100000 in
theorem flX10_303 : Cond.fieldLink RX10 303 "HailClub$Assessor" "worstLosses" "J" ∈ hc_T := hc_in2 (i := 73) (w := Cond.fieldLink RX10 303 "HailClub$Assessor" "worstLosses" "J") rfl rfl
set_option maxRecDepth 100000 in
theorem klX10_307 : Cond.constantLong RX10 307 (2) ∈ hc_T := hc_in5 (i := 9) (w := Cond.constantLong RX10 307 (2)) rfl rfl
set_option maxRecDepth 100000 in
theorem mlX10_309 : Cond.methodLink RX10 309 yX1_advancesBy ∈ hc_T := hc_in5 (i := 10) (w := Cond.methodLink RX10 309 yX1_advancesBy) rfl rfl
set_option maxRecDepth 100000 in
theorem mlX10_312 : Cond.methodLink RX10 312 Lib.MathLoose.max_long.x ∈ hc_T := hc_in5 (i := 18) (w := Cond.methodLink RX10 312 Lib.MathLoose.max_long.x) rfl rfl
set_option maxRecDepth 100000 in
theorem klX10_315 : Cond.constantLong RX10 315 (99999999) ∈ hc_T := hc_in5 (i := 19) (w := Cond.constantLong RX10 315 (99999999)) rfl rfl
set_option maxRecDepth 100000 in
theorem mlX10_317 : Cond.methodLink RX10 317 yX2_isBeside ∈ hc_T := hc_in5 (i := 28) (w := Cond.methodLink RX10 317 yX2_isBeside) rfl rfl
set_option maxRecDepth 100000 in
theorem mlX10_320 : Cond.methodLink RX10 320 yX1_ahead ∈ hc_T := hc_in5 (i := 39) (w := Cond.methodLink RX10 320 yX1_ahead) rfl rfl
set_option maxRecDepth 100000 in
theorem flX10_323 : Cond.fieldLink RX10 323 "HailClub$State" "storms" "[LHailClub$Storm;" ∈ hc_T := hc_in1 (i := 85) (w := Cond.fieldLink RX10 323 "HailClub$State" "storms" "[LHailClub$Storm;") rfl rfl
set_option maxRecDepth 100000 in
theorem mlX10_327 : Cond.methodLink RX10 327 yX0_claimsOfOne ∈ hc_T := hc_in5 (i := 47) (w := Cond.methodLink RX10 327 yX0_claimsOfOne) rfl rfl
set_option maxRecDepth 100000 in
theorem mlX10_331 : Cond.methodLink RX10 331 yX6_fieldsThere ∈ hc_T := hc_in5 (i := 55) (w := Cond.methodLink RX10 331 yX6_fieldsThere) rfl rfl
set_option maxRecDepth 100000 in
theorem flX10_334 : Cond.fieldLink RX10 334 "HailClub$State" "year" "I" ∈ hc_T := hc_in1 (i := 101) (w := Cond.fieldLink RX10 334 "HailClub$State" "year" "I") rfl rfl
set_option maxRecDepth 100000 in
theorem klX10_337 : Cond.constantLong RX10 337 (1000) ∈ hc_T := hc_in4 (i := 61) (w := Cond.constantLong RX10 337 (1000)) rfl rfl
set_option maxRecDepth 100000 in
theorem klX10_339 : Cond.constantLong RX10 339 (100) ∈ hc_T := hc_in4 (i := 127) (w := Cond.constantLong RX10 339 (100)) rfl rfl
set_option maxRecDepth 100000 in
theorem mlX0_3 : Cond.methodLink RX0 3 objectInit ∈ hc_T := hc_in2 (i := 63) (w := Cond.methodLink RX0 3 objectInit) rfl rfl
set_option maxRecDepth 100000 in
theorem flX0_9 : Cond.fieldLink RX0 9 "HailClub$Assessor" "calm" "[J" ∈ hc_T := hc_in2 (i := 66) (w := Cond.fieldLink RX0 9 "HailClub$Assessor" "calm" "[J") rfl rfl
set_option maxRecDepth 100000 in
theorem flX0_15 : Cond.fieldLink RX0 15 "HailClub$Assessor" "hit" "[J" ∈ hc_T := hc_in2 (i := 67) (w := Cond.fieldLink RX0 15 "HailClub$Assessor" "hit" "[J") rfl rfl
set_option maxRecDepth 100000 in
theorem flX0_18 : Cond.fieldLink RX0 18 "HailClub$Assessor" "state" "LHailClub$State;" ∈ hc_T := hc_in2 (i := 64) (w := Cond.fieldLink RX0 18 "HailClub$Assessor" "state" "LHailClub$State;") rfl rfl
set_option maxRecDepth 100000 in
theorem flX0_22 : Cond.fieldLink RX0 22 "HailClub$Assessor" "law" "LHailClub$Law;" ∈ hc_T := hc_in2 (i := 65) (w := Cond.fieldLink RX0 22 "HailClub$Assessor" "law" "LHailClub$Law;") rfl rfl
set_option maxRecDepth 100000 in
theorem flX0_26 : Cond.fieldLink RX0 26 "HailClub$State" "stormCount" "I" ∈ hc_T := hc_in1 (i := 97) (w := Cond.fieldLink RX0 26 "HailClub$State" "stormCount" "I") rfl rfl
set_option maxRecDepth 100000 in
theorem flX0_32 : Cond.fieldLink RX0 32 "HailClub$State" "storms" "[LHailClub$Storm;" ∈ hc_T := hc_in1 (i := 84) (w := Cond.fieldLink RX0 32 "HailClub$State" "storms" "[LHailClub$Storm;") rfl rfl
set_option maxRecDepth 100000 in
theorem mlX0_36 : Cond.methodLink RX0 36 yX7_isOver ∈ hc_T := hc_in4 (i := 71) (w := Cond.methodLink RX0 36 yX7_isOver) rfl rfl
set_option maxRecDepth 100000 in
theorem flX0_42 : Cond.fieldLink RX0 42 "HailClub$Storm" "strength" "I" ∈ hc_T := hc_in4 (i := 3) (w := Cond.fieldLink RX0 42 "HailClub$Storm" "strength" "I") rfl rfl
set_option maxRecDepth 100000 in
theorem mlX0_45 : Cond.methodLink RX0 45 yX0_harm ∈ hc_T := hc_in4 (i := 72) (w := Cond.methodLink RX0 45 yX0_harm) rfl rfl
set_option maxRecDepth 100000 in
theorem mlX0_49 : Cond.methodLink RX0 49 Lib.Math.min.name ∈ hc_T := hc_in4 (i := 80) (w := Cond.methodLink RX0 49 Lib.Math.min.name) rfl rfl
set_option maxRecDepth 100000 in
theorem flX0_55 : Cond.fieldLink RX0 55 "HailClub$Field" "crop" "I" ∈ hc_T := hc_in3 (i := 51) (w := Cond.fieldLink RX0 55 "HailClub$Field" "crop" "I") rfl rfl
set_option maxRecDepth 100000 in
theorem mlX0_60 : Cond.methodLink RX0 60 yX6_softOf ∈ hc_T := hc_in4 (i := 76) (w := Cond.methodLink RX0 60 yX6_softOf) rfl rfl
set_option maxRecDepth 100000 in
theorem flX0_64 : Cond.fieldLink RX0 64 "HailClub$Law" "size" "I" ∈ hc_T := hc_in1 (i := 146) (w := Cond.fieldLink RX0 64 "HailClub$Law" "size" "I") rfl rfl
set_option maxRecDepth 100000 in
theorem flX0_69 : Cond.fieldLink RX0 69 "HailClub$Field" "owner" "I" ∈ hc_T := hc_in3 (i := 37) (w := Cond.fieldLink RX0 69 "HailClub$Field" "owner" "I") rfl rfl
set_option maxRecDepth 100000 in
theorem mlX0_72 : Cond.methodLink RX0 72 yX6_isKnown ∈ hc_T := hc_in4 (i := 90) (w := Cond.methodLink RX0 72 yX6_isKnown) rfl rfl
set_option maxRecDepth 100000 in
theorem flX0_76 : Cond.fieldLink RX0 76 "HailClub$State" "years" "[I" ∈ hc_T := hc_in1 (i := 77) (w := Cond.fieldLink RX0 76 "HailClub$State" "years" "[I") rfl rfl
set_option maxRecDepth 100000 in
theorem flX0_80 : Cond.fieldLink RX0 80 "HailClub$Field" "x" "I" ∈ hc_T := hc_in3 (i := 42) (w := Cond.fieldLink RX0 80 "HailClub$Field" "x" "I") rfl rfl
set_option maxRecDepth 100000 in
theorem flX0_83 : Cond.fieldLink RX0 83 "HailClub$Field" "y" "I" ∈ hc_T := hc_in3 (i := 47) (w := Cond.fieldLink RX0 83 "HailClub$Field" "y" "I") rfl rfl
set_option maxRecDepth 100000 in
theorem mlX0_86 : Cond.methodLink RX0 86 yX6_hazardAt ∈ hc_T := hc_in4 (i := 91) (w := Cond.methodLink RX0 86 yX6_hazardAt) rfl rfl
set_option maxRecDepth 100000 in
theorem mlX0_89 : Cond.methodLink RX0 89 yX4_value ∈ hc_T := hc_in4 (i := 92) (w := Cond.methodLink RX0 89 yX4_value) rfl rfl
set_option maxRecDepth 100000 in
theorem mlX0_93 : Cond.methodLink RX0 93 Lib.MathLoose.min_long.x ∈ hc_T := hc_in4 (i := 105) (w := Cond.methodLink RX0 93 Lib.MathLoose.min_long.x) rfl rfl
set_option maxRecDepth 100000 in
theorem mlX0_96 : Cond.methodLink RX0 96 Lib.MathLoose.max_long.x ∈ hc_T := hc_in4 (i := 106) (w := Cond.methodLink RX0 96 Lib.MathLoose.max_long.x) rfl rfl
set_option maxRecDepth 100000 in
theorem mlX0_99 : Cond.methodLink RX0 99 yX2_coins ∈ hc_T := hc_in4 (i := 85) (w := Cond.methodLink RX0 99 yX2_coins) rfl rfl
set_option maxRecDepth 100000 in
theorem mlX0_103 : Cond.methodLink RX0 103 yX0_paid ∈ hc_T := hc_in4 (i := 86) (w := Cond.methodLink RX0 103 yX0_paid) rfl rfl
set_option maxRecDepth 100000 in
theorem klX0_107 : Cond.constantLong RX0 107 (100) ∈ hc_T := hc_in4 (i := 109) (w := Cond.constantLong RX0 107 (100)) rfl rfl
set_option maxRecDepth 100000 in
theorem flX0_109 : Cond.fieldLink RX0 109 "HailClub$State" "fieldCount" "I" ∈ hc_T := hc_in1 (i := 96) (w := Cond.fieldLink RX0 109 "HailClub$State" "fieldCount" "I") rfl rfl
set_option maxRecDepth 100000 in
theorem mlX0_112 : Cond.methodLink RX0 112 yX6_standsFor ∈ hc_T := hc_in4 (i := 66) (w := Cond.methodLink RX0 112 yX6_standsFor) rfl rfl
set_option maxRecDepth 100000 in
theorem flX0_116 : Cond.fieldLink RX0 116 "HailClub$State" "fields" "[LHailClub$Field;" ∈ hc_T := hc_in1 (i := 81) (w := Cond.fieldLink RX0 116 "HailClub$State" "fields" "[LHailClub$Field;") rfl rfl
set_option maxRecDepth 100000 in
theorem mlX0_120 : Cond.methodLink RX0 120 yX0_lost ∈ hc_T := hc_in4 (i := 67) (w := Cond.methodLink RX0 120 yX0_lost) rfl rfl
set_option maxRecDepth 100000 in
theorem mlX0_124 : Cond.methodLink RX0 124 yX0_claim ∈ hc_T := hc_in4 (i := 81) (w := Cond.methodLink RX0 124 yX0_claim) rfl rfl
set_option maxRecDepth 100000 in
theorem mlX0_127 : Cond.methodLink RX0 127 yX6_stands ∈ hc_T := hc_in4 (i := 239) (w := Cond.methodLink RX0 127 yX6_stands) rfl rfl
set_option maxRecDepth 100000 in
theorem mlX0_130 : Cond.methodLink RX0 130 yX0_weigh ∈ hc_T := hc_in4 (i := 235) (w := Cond.methodLink RX0 130 yX0_weigh) rfl rfl
set_option maxRecDepth 100000 in
theorem klX0_134 : Cond.constantLong RX0 134 (-1) ∈ hc_T := hc_in5 (i := 0) (w := Cond.constantLong RX0 134 (-1)) rfl rfl
set_option maxRecDepth 100000 in
theorem flX0_136 : Cond.fieldLink RX0 136 "HailClub$Assessor" "worstLosses" "J" ∈ hc_T := hc_in2 (i := 72) (w := Cond.fieldLink RX0 136 "HailClub$Assessor" "worstLosses" "J") rfl rfl
set_option maxRecDepth 100000 in
theorem mlX0_140 : Cond.methodLink RX0 140 yX0_lossesWith ∈ hc_T := hc_in5 (i := 1) (w := Cond.methodLink RX0 140 yX0_lossesWith) rfl rfl
set_option maxRecDepth 100000 in
theorem flX0_143 : Cond.fieldLink RX0 143 "HailClub$Assessor" "worstX" "I" ∈ hc_T := hc_in2 (i := 68) (w := Cond.fieldLink RX0 143 "HailClub$Assessor" "worstX" "I") rfl rfl
set_option maxRecDepth 100000 in
theorem flX0_146 : Cond.fieldLink RX0 146 "HailClub$Assessor" "worstY" "I" ∈ hc_T := hc_in2 (i := 70) (w := Cond.fieldLink RX0 146 "HailClub$Assessor" "worstY" "I") rfl rfl
set_option maxRecDepth 100000 in
theorem mlX1_3 : Cond.methodLink RX1 3 objectInit ∈ hc_T := hc_in2 (i := 94) (w := Cond.methodLink RX1 3 objectInit) rfl rfl
set_option maxRecDepth 100000 in
theorem flX1_9 : Cond.fieldLink RX1 9 "HailClub$Ending" "totals" "[J" ∈ hc_T := hc_in2 (i := 98) (w := Cond.fieldLink RX1 9 "HailClub$Ending" "totals" "[J") rfl rfl
set_option maxRecDepth 100000 in
theorem clX1_15 : Cond.classLink RX1 15 "[[J" ∈ hc_T := hc_in2 (i := 95) (w := Cond.classLink RX1 15 "[[J") rfl rfl
set_option maxRecDepth 100000 in
theorem flX1_17 : Cond.fieldLink RX1 17 "HailClub$Ending" "rows" "[[J" ∈ hc_T := hc_in2 (i := 101) (w := Cond.fieldLink RX1 17 "HailClub$Ending" "rows" "[[J") rfl rfl
set_option maxRecDepth 100000 in
theorem flX1_20 : Cond.fieldLink RX1 20 "HailClub$Ending" "present" "[Z" ∈ hc_T := hc_in2 (i := 104) (w := Cond.fieldLink RX1 20 "HailClub$Ending" "present" "[Z") rfl rfl
set_option maxRecDepth 100000 in
theorem flX1_24 : Cond.fieldLink RX1 24 "HailClub$Ending" "unheld" "[Z" ∈ hc_T := hc_in2 (i := 106) (w := Cond.fieldLink RX1 24 "HailClub$Ending" "unheld" "[Z") rfl rfl
set_option maxRecDepth 100000 in
theorem flX1_27 : Cond.fieldLink RX1 27 "HailClub$Ending" "sums" "[J" ∈ hc_T := hc_in2 (i := 107) (w := Cond.fieldLink RX1 27 "HailClub$Ending" "sums" "[J") rfl rfl
set_option maxRecDepth 100000 in
theorem flX1_30 : Cond.fieldLink RX1 30 "HailClub$Ending" "points" "[J" ∈ hc_T := hc_in2 (i := 108) (w := Cond.fieldLink RX1 30 "HailClub$Ending" "points" "[J") rfl rfl
set_option maxRecDepth 100000 in
theorem flX1_33 : Cond.fieldLink RX1 33 "HailClub$Ending" "advances" "[J" ∈ hc_T := hc_in2 (i := 109) (w := Cond.fieldLink RX1 33 "HailClub$Ending" "advances" "[J") rfl rfl
set_option maxRecDepth 100000 in
theorem flX1_36 : Cond.fieldLink RX1 36 "HailClub$Ending" "parts" "[J" ∈ hc_T := hc_in2 (i := 110) (w := Cond.fieldLink RX1 36 "HailClub$Ending" "parts" "[J") rfl rfl
set_option maxRecDepth 100000 in
theorem flX1_39 : Cond.fieldLink RX1 39 "HailClub$Ending" "rests" "[J" ∈ hc_T := hc_in2 (i := 111) (w := Cond.fieldLink RX1 39 "HailClub$Ending" "rests" "[J") rfl rfl
set_option maxRecDepth 100000 in
theorem flX1_42 : Cond.fieldLink RX1 42 "HailClub$Ending" "state" "LHailClub$State;" ∈ hc_T := hc_in2 (i := 96) (w := Cond.fieldLink RX1 42 "HailClub$Ending" "state" "LHailClub$State;") rfl rfl
set_option maxRecDepth 100000 in
theorem flX1_46 : Cond.fieldLink RX1 46 "HailClub$Ending" "assessor" "LHailClub$Assessor;" ∈ hc_T := hc_in2 (i := 97) (w := Cond.fieldLink RX1 46 "HailClub$Ending" "assessor" "LHailClub$Assessor;") rfl rfl
set_option maxRecDepth 100000 in
theorem mlX1_50 : Cond.methodLink RX1 50 yX1_clear ∈ hc_T := hc_in4 (i := 44) (w := Cond.methodLink RX1 50 yX1_clear) rfl rfl
set_option maxRecDepth 100000 in
theorem mlX1_53 : Cond.methodLink RX1 53 yX6_isThere ∈ hc_T := hc_in4 (i := 48) (w := Cond.methodLink RX1 53 yX6_isThere) rfl rfl
set_option maxRecDepth 100000 in
theorem mlX1_59 : Cond.methodLink RX1 59 yX1_gather ∈ hc_T := hc_in4 (i := 49) (w := Cond.methodLink RX1 59 yX1_gather) rfl rfl
set_option maxRecDepth 100000 in
theorem mlX1_63 : Cond.methodLink RX1 63 yX1_coverAgain ∈ hc_T := hc_in4 (i := 110) (w := Cond.methodLink RX1 63 yX1_coverAgain) rfl rfl
set_option maxRecDepth 100000 in
theorem mlX1_66 : Cond.methodLink RX1 66 yX1_spread ∈ hc_T := hc_in4 (i := 117) (w := Cond.methodLink RX1 66 yX1_spread) rfl rfl
set_option maxRecDepth 100000 in
theorem mlX1_70 : Cond.methodLink RX1 70 yX1_bear ∈ hc_T := hc_in4 (i := 136) (w := Cond.methodLink RX1 70 yX1_bear) rfl rfl
set_option maxRecDepth 100000 in
theorem flX1_73 : Cond.fieldLink RX1 73 "HailClub$State" "rules" "[J" ∈ hc_T := hc_in1 (i := 65) (w := Cond.fieldLink RX1 73 "HailClub$State" "rules" "[J") rfl rfl
set_option maxRecDepth 100000 in
theorem mlX1_76 : Cond.methodLink RX1 76 yX1_takeDues ∈ hc_T := hc_in4 (i := 149) (w := Cond.methodLink RX1 76 yX1_takeDues) rfl rfl
set_option maxRecDepth 100000 in
theorem mlX1_79 : Cond.methodLink RX1 79 yX1_balance ∈ hc_T := hc_in4 (i := 155) (w := Cond.methodLink RX1 79 yX1_balance) rfl rfl
set_option maxRecDepth 100000 in
theorem mlX1_82 : Cond.methodLink RX1 82 yX6_sumsOf ∈ hc_T := hc_in4 (i := 53) (w := Cond.methodLink RX1 82 yX6_sumsOf) rfl rfl
set_option maxRecDepth 100000 in
theorem mlX1_86 : Cond.methodLink RX1 86 yX6_pointsOf ∈ hc_T := hc_in4 (i := 57) (w := Cond.methodLink RX1 86 yX6_pointsOf) rfl rfl
set_option maxRecDepth 100000 in
theorem mlX1_93 : Cond.methodLink RX1 93 yX0_claimsOf ∈ hc_T := hc_in4 (i := 62) (w := Cond.methodLink RX1 93 yX0_claimsOf) rfl rfl
set_option maxRecDepth 100000 in
theorem mlX1_98 : Cond.methodLink RX1 98 Lib.MathLoose.max_long.x ∈ hc_T := hc_in4 (i := 114) (w := Cond.methodLink RX1 98 Lib.MathLoose.max_long.x) rfl rfl
set_option maxRecDepth 100000 in
theorem mlX1_103 : Cond.methodLink RX1 103 Lib.MathLoose.min_long.x ∈ hc_T := hc_in4 (i := 115) (w := Cond.methodLink RX1 103 Lib.MathLoose.min_long.x) rfl rfl
set_option maxRecDepth 100000 in
theorem klX1_106 : Cond.constantLong RX1 106 (100) ∈ hc_T := hc_in4 (i := 116) (w := Cond.constantLong RX1 106 (100)) rfl rfl
set_option maxRecDepth 100000 in
theorem mlX1_108 : Cond.methodLink RX1 108 yX1_total ∈ hc_T := hc_in4 (i := 121) (w := Cond.methodLink RX1 108 yX1_total) rfl rfl
set_option maxRecDepth 100000 in
theorem mlX1_115 : Cond.methodLink RX1 115 yX1_divide ∈ hc_T := hc_in4 (i := 128) (w := Cond.methodLink RX1 115 yX1_divide) rfl rfl
set_option maxRecDepth 100000 in
theorem klX1_119 : Cond.constantLong RX1 119 (2) ∈ hc_T := hc_in4 (i := 140) (w := Cond.constantLong RX1 119 (2)) rfl rfl
set_option maxRecDepth 100000 in
theorem mlX1_121 : Cond.methodLink RX1 121 yX1_callFor ∈ hc_T := hc_in4 (i := 141) (w := Cond.methodLink RX1 121 yX1_callFor) rfl rfl
set_option maxRecDepth 100000 in
theorem mlX1_124 : Cond.methodLink RX1 124 yX1_holdAtCap ∈ hc_T := hc_in4 (i := 145) (w := Cond.methodLink RX1 124 yX1_holdAtCap) rfl rfl
set_option maxRecDepth 100000 in
theorem klX1_128 : Cond.constantLong RX1 128 (-1) ∈ hc_T := hc_in4 (i := 135) (w := Cond.constantLong RX1 128 (-1)) rfl rfl
set_option maxRecDepth 100000 in
theorem flX1_130 : Cond.fieldLink RX1 130 "HailClub$State" "leaves" "[Z" ∈ hc_T := hc_in1 (i := 75) (w := Cond.fieldLink RX1 130 "HailClub$State" "leaves" "[Z") rfl rfl
set_option maxRecDepth 100000 in
theorem flX1_133 : Cond.fieldLink RX1 133 "HailClub$State" "years" "[I" ∈ hc_T := hc_in1 (i := 78) (w := Cond.fieldLink RX1 133 "HailClub$State" "years" "[I") rfl rfl
set_option maxRecDepth 100000 in
theorem mlX1_137 : Cond.methodLink RX1 137 Lib.Math.max.name ∈ hc_T := hc_in4 (i := 153) (w := Cond.methodLink RX1 137 Lib.Math.max.name) rfl rfl
set_option maxRecDepth 100000 in
theorem klX1_140 : Cond.constantLong RX1 140 (5) ∈ hc_T := hc_in4 (i := 154) (w := Cond.constantLong RX1 140 (5)) rfl rfl
set_option maxRecDepth 100000 in
theorem mlX1_142 : Cond.methodLink RX1 142 yX1_placeOfGreatest ∈ hc_T := hc_in4 (i := 132) (w := Cond.methodLink RX1 142 yX1_placeOfGreatest) rfl rfl
set_option maxRecDepth 100000 in
theorem mlX2_1 : Cond.methodLink RX2 1 objectInit ∈ hc_T := hc_in3 (i := 35) (w := Cond.methodLink RX2 1 objectInit) rfl rfl
set_option maxRecDepth 100000 in
theorem flX2_7 : Cond.fieldLink RX2 7 "HailClub$Field" "owner" "I" ∈ hc_T := hc_in3 (i := 36) (w := Cond.fieldLink RX2 7 "HailClub$Field" "owner" "I") rfl rfl
set_option maxRecDepth 100000 in
theorem flX2_13 : Cond.fieldLink RX2 13 "HailClub$Field" "x" "I" ∈ hc_T := hc_in3 (i := 40) (w := Cond.fieldLink RX2 13 "HailClub$Field" "x" "I") rfl rfl
set_option maxRecDepth 100000 in
theorem flX2_16 : Cond.fieldLink RX2 16 "HailClub$Field" "y" "I" ∈ hc_T := hc_in3 (i := 45) (w := Cond.fieldLink RX2 16 "HailClub$Field" "y" "I") rfl rfl
set_option maxRecDepth 100000 in
theorem flX2_19 : Cond.fieldLink RX2 19 "HailClub$Field" "crop" "I" ∈ hc_T := hc_in3 (i := 50) (w := Cond.fieldLink RX2 19 "HailClub$Field" "crop" "I") rfl rfl
set_option maxRecDepth 100000 in
theorem flX2_22 : Cond.fieldLink RX2 22 "HailClub$Field" "area" "I" ∈ hc_T := hc_in3 (i := 53) (w := Cond.fieldLink RX2 22 "HailClub$Field" "area" "I") rfl rfl
set_option maxRecDepth 100000 in
theorem flX2_25 : Cond.fieldLink RX2 25 "HailClub$Field" "value" "I" ∈ hc_T := hc_in3 (i := 55) (w := Cond.fieldLink RX2 25 "HailClub$Field" "value" "I") rfl rfl
set_option maxRecDepth 100000 in
theorem mlX2_28 : Cond.methodLink RX2 28 Lib.Math.abs.name ∈ hc_T := hc_in5 (i := 32) (w := Cond.methodLink RX2 28 Lib.Math.abs.name) rfl rfl
set_option maxRecDepth 100000 in
theorem mlX3_3 : Cond.methodLink RX3 3 objectInit ∈ hc_T := hc_in2 (i := 43) (w := Cond.methodLink RX3 3 objectInit) rfl rfl
set_option maxRecDepth 100000 in
theorem clX3_9 : Cond.classLink RX3 9 "HailClub$State" ∈ hc_T := hc_in2 (i := 44) (w := Cond.classLink RX3 9 "HailClub$State") rfl rfl
set_option maxRecDepth 100000 in
theorem flX3_11 : Cond.fieldLink RX3 11 "HailClub$History" "kept" "[LHailClub$State;" ∈ hc_T := hc_in2 (i := 47) (w := Cond.fieldLink RX3 11 "HailClub$History" "kept" "[LHailClub$State;") rfl rfl
set_option maxRecDepth 100000 in
theorem mlX3_17 : Cond.methodLink RX3 17 yX6_init ∈ hc_T := hc_in2 (i := 46) (w := Cond.methodLink RX3 17 yX6_init) rfl rfl
set_option maxRecDepth 100000 in
theorem flX3_18 : Cond.fieldLink RX3 18 "HailClub$History" "next" "I" ∈ hc_T := hc_in2 (i := 48) (w := Cond.fieldLink RX3 18 "HailClub$History" "next" "I") rfl rfl
set_option maxRecDepth 100000 in
theorem mlX3_22 : Cond.methodLink RX3 22 yX6_copyFrom ∈ hc_T := hc_in3 (i := 203) (w := Cond.methodLink RX3 22 yX6_copyFrom) rfl rfl
set_option maxRecDepth 100000 in
theorem flX3_26 : Cond.fieldLink RX3 26 "HailClub$History" "count" "I" ∈ hc_T := hc_in2 (i := 49) (w := Cond.fieldLink RX3 26 "HailClub$History" "count" "I") rfl rfl
set_option maxRecDepth 100000 in
theorem mlX3_29 : Cond.methodLink RX3 29 Lib.Math.min.name ∈ hc_T := hc_in3 (i := 204) (w := Cond.methodLink RX3 29 Lib.Math.min.name) rfl rfl
set_option maxRecDepth 100000 in
theorem mlX4_3 : Cond.methodLink RX4 3 objectInit ∈ hc_T := hc_in1 (i := 141) (w := Cond.methodLink RX4 3 objectInit) rfl rfl
set_option maxRecDepth 100000 in
theorem flX4_9 : Cond.fieldLink RX4 9 "HailClub$Law" "codes" "[I" ∈ hc_T := hc_in1 (i := 142) (w := Cond.fieldLink RX4 9 "HailClub$Law" "codes" "[I") rfl rfl
set_option maxRecDepth 100000 in
theorem flX4_15 : Cond.fieldLink RX4 15 "HailClub$Law" "stack" "[J" ∈ hc_T := hc_in1 (i := 143) (w := Cond.fieldLink RX4 15 "HailClub$Law" "stack" "[J") rfl rfl
set_option maxRecDepth 100000 in
theorem flX4_19 : Cond.fieldLink RX4 19 "HailClub$Law" "size" "I" ∈ hc_T := hc_in1 (i := 144) (w := Cond.fieldLink RX4 19 "HailClub$Law" "size" "I") rfl rfl
set_option maxRecDepth 100000 in
theorem mlX4_23 : Cond.methodLink RX4 23 arraycopyName ∈ hc_T := hc_in3 (i := 138) (w := Cond.methodLink RX4 23 arraycopyName) rfl rfl
set_option maxRecDepth 100000 in
theorem mlX4_29 : Cond.methodLink RX4 29 yX4_operands ∈ hc_T := hc_in4 (i := 96) (w := Cond.methodLink RX4 29 yX4_operands) rfl rfl
set_option maxRecDepth 100000 in
theorem mlX4_33 : Cond.methodLink RX4 33 yX4_leaf ∈ hc_T := hc_in4 (i := 99) (w := Cond.methodLink RX4 33 yX4_leaf) rfl rfl
set_option maxRecDepth 100000 in
theorem mlX4_37 : Cond.methodLink RX4 37 yX4_operate ∈ hc_T := hc_in4 (i := 102) (w := Cond.methodLink RX4 37 yX4_operate) rfl rfl
set_option maxRecDepth 100000 in
theorem mlX5_3 : Cond.methodLink RX5 3 objectInit ∈ hc_T := hc_in1 (i := 159) (w := Cond.methodLink RX5 3 objectInit) rfl rfl
set_option maxRecDepth 100000 in
theorem flX5_9 : Cond.fieldLink RX5 9 "HailClub$Reader" "numbers" "[I" ∈ hc_T := hc_in2 (i := 5) (w := Cond.fieldLink RX5 9 "HailClub$Reader" "numbers" "[I") rfl rfl
set_option maxRecDepth 100000 in
theorem flX5_15 : Cond.fieldLink RX5 15 "HailClub$Reader" "faultPlace" "I" ∈ hc_T := hc_in2 (i := 8) (w := Cond.fieldLink RX5 15 "HailClub$Reader" "faultPlace" "I") rfl rfl
set_option maxRecDepth 100000 in
theorem clX5_19 : Cond.classLink RX5 19 "HailClub$Tokens" ∈ hc_T := hc_in1 (i := 160) (w := Cond.classLink RX5 19 "HailClub$Tokens") rfl rfl
set_option maxRecDepth 100000 in
theorem mlX5_21 : Cond.methodLink RX5 21 yX9_init ∈ hc_T := hc_in1 (i := 162) (w := Cond.methodLink RX5 21 yX9_init) rfl rfl
set_option maxRecDepth 100000 in
theorem flX5_24 : Cond.fieldLink RX5 24 "HailClub$Reader" "tokens" "LHailClub$Tokens;" ∈ hc_T := hc_in2 (i := 2) (w := Cond.fieldLink RX5 24 "HailClub$Reader" "tokens" "LHailClub$Tokens;") rfl rfl
set_option maxRecDepth 100000 in
theorem flX5_28 : Cond.fieldLink RX5 28 "HailClub$Reader" "draft" "LHailClub$State;" ∈ hc_T := hc_in2 (i := 3) (w := Cond.fieldLink RX5 28 "HailClub$Reader" "draft" "LHailClub$State;") rfl rfl
set_option maxRecDepth 100000 in
theorem flX5_32 : Cond.fieldLink RX5 32 "HailClub$Reader" "law" "LHailClub$Law;" ∈ hc_T := hc_in2 (i := 4) (w := Cond.fieldLink RX5 32 "HailClub$Reader" "law" "LHailClub$Law;") rfl rfl
set_option maxRecDepth 100000 in
theorem mlX5_36 : Cond.methodLink RX5 36 yX5_begin ∈ hc_T := hc_in2 (i := 187) (w := Cond.methodLink RX5 36 yX5_begin) rfl rfl
set_option maxRecDepth 100000 in
theorem mlX5_39 : Cond.methodLink RX5 39 yX6_clear ∈ hc_T := hc_in2 (i := 233) (w := Cond.methodLink RX5 39 yX6_clear) rfl rfl
set_option maxRecDepth 100000 in
theorem flX5_44 : Cond.fieldLink RX5 44 "HailClub$Law" "size" "I" ∈ hc_T := hc_in1 (i := 145) (w := Cond.fieldLink RX5 44 "HailClub$Law" "size" "I") rfl rfl
set_option maxRecDepth 100000 in
theorem flX5_49 : Cond.fieldLink RX5 49 "HailClub$Reader" "kind" "I" ∈ hc_T := hc_in2 (i := 11) (w := Cond.fieldLink RX5 49 "HailClub$Reader" "kind" "I") rfl rfl
set_option maxRecDepth 100000 in
theorem mlX5_52 : Cond.methodLink RX5 52 yX5_readLine ∈ hc_T := hc_in2 (i := 234) (w := Cond.methodLink RX5 52 yX5_readLine) rfl rfl
set_option maxRecDepth 100000 in
theorem mlX5_56 : Cond.methodLink RX5 56 yX5_refuse ∈ hc_T := hc_in3 (i := 2) (w := Cond.methodLink RX5 56 yX5_refuse) rfl rfl
set_option maxRecDepth 100000 in
theorem mlX5_60 : Cond.methodLink RX5 60 yX5_step ∈ hc_T := hc_in2 (i := 229) (w := Cond.methodLink RX5 60 yX5_step) rfl rfl
set_option maxRecDepth 100000 in
theorem mlX5_63 : Cond.methodLink RX5 63 yX5_readNewName ∈ hc_T := hc_in3 (i := 6) (w := Cond.methodLink RX5 63 yX5_readNewName) rfl rfl
set_option maxRecDepth 100000 in
theorem flX5_66 : Cond.fieldLink RX5 66 "HailClub$State" "fieldCount" "I" ∈ hc_T := hc_in1 (i := 94) (w := Cond.fieldLink RX5 66 "HailClub$State" "fieldCount" "I") rfl rfl
set_option maxRecDepth 100000 in
theorem mlX5_69 : Cond.methodLink RX5 69 yX5_refuseLand ∈ hc_T := hc_in3 (i := 147) (w := Cond.methodLink RX5 69 yX5_refuseLand) rfl rfl
set_option maxRecDepth 100000 in
theorem flX5_72 : Cond.fieldLink RX5 72 "HailClub$State" "memberCount" "I" ∈ hc_T := hc_in1 (i := 91) (w := Cond.fieldLink RX5 72 "HailClub$State" "memberCount" "I") rfl rfl
set_option maxRecDepth 100000 in
theorem mlX5_75 : Cond.methodLink RX5 75 yX5_readLand ∈ hc_T := hc_in3 (i := 22) (w := Cond.methodLink RX5 75 yX5_readLand) rfl rfl
set_option maxRecDepth 100000 in
theorem mlX5_78 : Cond.methodLink RX5 78 yX9_cut ∈ hc_T := hc_in2 (i := 191) (w := Cond.methodLink RX5 78 yX9_cut) rfl rfl
set_option maxRecDepth 100000 in
theorem flX5_81 : Cond.fieldLink RX5 81 "HailClub$Tokens" "count" "I" ∈ hc_T := hc_in1 (i := 226) (w := Cond.fieldLink RX5 81 "HailClub$Tokens" "count" "I") rfl rfl
set_option maxRecDepth 100000 in
theorem flX5_84 : Cond.fieldLink RX5 84 "HailClub$Tokens" "kinds" "[I" ∈ hc_T := hc_in1 (i := 220) (w := Cond.fieldLink RX5 84 "HailClub$Tokens" "kinds" "[I") rfl rfl
set_option maxRecDepth 100000 in
theorem flX5_87 : Cond.fieldLink RX5 87 "HailClub$Tokens" "values" "[J" ∈ hc_T := hc_in1 (i := 224) (w := Cond.fieldLink RX5 87 "HailClub$Tokens" "values" "[J") rfl rfl
set_option maxRecDepth 100000 in
theorem flX5_91 : Cond.fieldLink RX5 91 "HailClub$Reader" "fault" "I" ∈ hc_T := hc_in2 (i := 6) (w := Cond.fieldLink RX5 91 "HailClub$Reader" "fault" "I") rfl rfl
set_option maxRecDepth 100000 in
theorem flX5_94 : Cond.fieldLink RX5 94 "HailClub$Reader" "open" "I" ∈ hc_T := hc_in2 (i := 14) (w := Cond.fieldLink RX5 94 "HailClub$Reader" "open" "I") rfl rfl
set_option maxRecDepth 100000 in
theorem flX5_97 : Cond.fieldLink RX5 97 "HailClub$Reader" "at" "I" ∈ hc_T := hc_in2 (i := 10) (w := Cond.fieldLink RX5 97 "HailClub$Reader" "at" "I") rfl rfl
set_option maxRecDepth 100000 in
theorem flX5_100 : Cond.fieldLink RX5 100 "HailClub$Tokens" "places" "[I" ∈ hc_T := hc_in1 (i := 222) (w := Cond.fieldLink RX5 100 "HailClub$Tokens" "places" "[I") rfl rfl
set_option maxRecDepth 100000 in
theorem flX5_103 : Cond.fieldLink RX5 103 "HailClub$Reader" "place" "I" ∈ hc_T := hc_in2 (i := 12) (w := Cond.fieldLink RX5 103 "HailClub$Reader" "place" "I") rfl rfl
set_option maxRecDepth 100000 in
theorem flX5_106 : Cond.fieldLink RX5 106 "HailClub$Reader" "value" "J" ∈ hc_T := hc_in2 (i := 13) (w := Cond.fieldLink RX5 106 "HailClub$Reader" "value" "J") rfl rfl
set_option maxRecDepth 100000 in
theorem mlX5_110 : Cond.methodLink RX5 110 yX5_readMember ∈ hc_T := hc_in2 (i := 238) (w := Cond.methodLink RX5 110 yX5_readMember) rfl rfl
set_option maxRecDepth 100000 in
theorem mlX5_113 : Cond.methodLink RX5 113 yX5_readField ∈ hc_T := hc_in3 (i := 18) (w := Cond.methodLink RX5 113 yX5_readField) rfl rfl
set_option maxRecDepth 100000 in
theorem mlX5_116 : Cond.methodLink RX5 116 yX5_readHazard ∈ hc_T := hc_in3 (i := 74) (w := Cond.methodLink RX5 116 yX5_readHazard) rfl rfl
set_option maxRecDepth 100000 in
theorem mlX5_119 : Cond.methodLink RX5 119 yX5_readCrop ∈ hc_T := hc_in3 (i := 85) (w := Cond.methodLink RX5 119 yX5_readCrop) rfl rfl
set_option maxRecDepth 100000 in
theorem mlX5_122 : Cond.methodLink RX5 122 yX5_readRule ∈ hc_T := hc_in3 (i := 93) (w := Cond.methodLink RX5 122 yX5_readRule) rfl rfl
set_option maxRecDepth 100000 in
theorem mlX5_125 : Cond.methodLink RX5 125 yX5_readCover ∈ hc_T := hc_in3 (i := 99) (w := Cond.methodLink RX5 125 yX5_readCover) rfl rfl
set_option maxRecDepth 100000 in
theorem mlX5_128 : Cond.methodLink RX5 128 yX5_readPay ∈ hc_T := hc_in3 (i := 103) (w := Cond.methodLink RX5 128 yX5_readPay) rfl rfl
set_option maxRecDepth 100000 in
theorem mlX5_131 : Cond.methodLink RX5 131 yX6_memberNamed ∈ hc_T := hc_in3 (i := 10) (w := Cond.methodLink RX5 131 yX6_memberNamed) rfl rfl
set_option maxRecDepth 100000 in
theorem mlX5_135 : Cond.methodLink RX5 135 yX6_addMember ∈ hc_T := hc_in3 (i := 14) (w := Cond.methodLink RX5 135 yX6_addMember) rfl rfl
set_option maxRecDepth 100000 in
theorem mlX5_139 : Cond.methodLink RX5 139 yX5_readNumber ∈ hc_T := hc_in3 (i := 26) (w := Cond.methodLink RX5 139 yX5_readNumber) rfl rfl
set_option maxRecDepth 100000 in
theorem clX5_143 : Cond.classLink RX5 143 "HailClub$Field" ∈ hc_T := hc_in3 (i := 30) (w := Cond.classLink RX5 143 "HailClub$Field") rfl rfl
set_option maxRecDepth 100000 in
theorem mlX5_145 : Cond.methodLink RX5 145 yX2_init ∈ hc_T := hc_in3 (i := 32) (w := Cond.methodLink RX5 145 yX2_init) rfl rfl
set_option maxRecDepth 100000 in
theorem mlX5_148 : Cond.methodLink RX5 148 yX6_addField ∈ hc_T := hc_in3 (i := 70) (w := Cond.methodLink RX5 148 yX6_addField) rfl rfl
set_option maxRecDepth 100000 in
theorem klX5_152 : Cond.constantLong RX5 152 (8) ∈ hc_T := hc_in3 (i := 151) (w := Cond.constantLong RX5 152 (8)) rfl rfl
set_option maxRecDepth 100000 in
theorem mlX5_154 : Cond.methodLink RX5 154 yX6_setHazards ∈ hc_T := hc_in3 (i := 78) (w := Cond.methodLink RX5 154 yX6_setHazards) rfl rfl
set_option maxRecDepth 100000 in
theorem mlX5_158 : Cond.methodLink RX5 158 yX6_setSoft ∈ hc_T := hc_in3 (i := 89) (w := Cond.methodLink RX5 158 yX6_setSoft) rfl rfl
set_option maxRecDepth 100000 in
theorem flX5_165 : Cond.fieldLink RX5 165 "HailClub$State" "rules" "[J" ∈ hc_T := hc_in1 (i := 67) (w := Cond.fieldLink RX5 165 "HailClub$State" "rules" "[J") rfl rfl
set_option maxRecDepth 100000 in
theorem mlX5_168 : Cond.methodLink RX5 168 yX5_readSum ∈ hc_T := hc_in3 (i := 107) (w := Cond.methodLink RX5 168 yX5_readSum) rfl rfl
set_option maxRecDepth 100000 in
theorem mlX5_171 : Cond.methodLink RX5 171 yX5_readPart ∈ hc_T := hc_in3 (i := 111) (w := Cond.methodLink RX5 171 yX5_readPart) rfl rfl
set_option maxRecDepth 100000 in
theorem mlX5_174 : Cond.methodLink RX5 174 yX4_add ∈ hc_T := hc_in3 (i := 115) (w := Cond.methodLink RX5 174 yX4_add) rfl rfl
set_option maxRecDepth 100000 in
theorem mlX5_178 : Cond.methodLink RX5 178 yX5_readInBrackets ∈ hc_T := hc_in3 (i := 119) (w := Cond.methodLink RX5 178 yX5_readInBrackets) rfl rfl
set_option maxRecDepth 100000 in
theorem mlX6_3 : Cond.methodLink RX6 3 objectInit ∈ hc_T := hc_in1 (i := 49) (w := Cond.methodLink RX6 3 objectInit) rfl rfl
set_option maxRecDepth 100000 in
theorem flX6_9 : Cond.fieldLink RX6 9 "HailClub$State" "rules" "[J" ∈ hc_T := hc_in1 (i := 64) (w := Cond.fieldLink RX6 9 "HailClub$State" "rules" "[J") rfl rfl
set_option maxRecDepth 100000 in
theorem flX6_15 : Cond.fieldLink RX6 15 "HailClub$State" "hazards" "[I" ∈ hc_T := hc_in1 (i := 68) (w := Cond.fieldLink RX6 15 "HailClub$State" "hazards" "[I") rfl rfl
set_option maxRecDepth 100000 in
theorem flX6_19 : Cond.fieldLink RX6 19 "HailClub$State" "softs" "[I" ∈ hc_T := hc_in1 (i := 69) (w := Cond.fieldLink RX6 19 "HailClub$State" "softs" "[I") rfl rfl
set_option maxRecDepth 100000 in
theorem flX6_22 : Cond.fieldLink RX6 22 "HailClub$State" "names" "[J" ∈ hc_T := hc_in1 (i := 70) (w := Cond.fieldLink RX6 22 "HailClub$State" "names" "[J") rfl rfl
set_option maxRecDepth 100000 in
theorem flX6_25 : Cond.fieldLink RX6 25 "HailClub$State" "there" "[Z" ∈ hc_T := hc_in1 (i := 71) (w := Cond.fieldLink RX6 25 "HailClub$State" "there" "[Z") rfl rfl
set_option maxRecDepth 100000 in
theorem flX6_29 : Cond.fieldLink RX6 29 "HailClub$State" "leaves" "[Z" ∈ hc_T := hc_in1 (i := 73) (w := Cond.fieldLink RX6 29 "HailClub$State" "leaves" "[Z") rfl rfl
set_option maxRecDepth 100000 in
theorem flX6_32 : Cond.fieldLink RX6 32 "HailClub$State" "years" "[I" ∈ hc_T := hc_in1 (i := 76) (w := Cond.fieldLink RX6 32 "HailClub$State" "years" "[I") rfl rfl
set_option maxRecDepth 100000 in
theorem clX6_35 : Cond.classLink RX6 35 "HailClub$Field" ∈ hc_T := hc_in1 (i := 50) (w := Cond.classLink RX6 35 "HailClub$Field") rfl rfl
set_option maxRecDepth 100000 in
theorem flX6_37 : Cond.fieldLink RX6 37 "HailClub$State" "fields" "[LHailClub$Field;" ∈ hc_T := hc_in1 (i := 80) (w := Cond.fieldLink RX6 37 "HailClub$State" "fields" "[LHailClub$Field;") rfl rfl
set_option maxRecDepth 100000 in
theorem clX6_41 : Cond.classLink RX6 41 "HailClub$Storm" ∈ hc_T := hc_in1 (i := 52) (w := Cond.classLink RX6 41 "HailClub$Storm") rfl rfl
set_option maxRecDepth 100000 in
theorem flX6_43 : Cond.fieldLink RX6 43 "HailClub$State" "storms" "[LHailClub$Storm;" ∈ hc_T := hc_in1 (i := 83) (w := Cond.fieldLink RX6 43 "HailClub$State" "storms" "[LHailClub$Storm;") rfl rfl
set_option maxRecDepth 100000 in
theorem flX6_47 : Cond.fieldLink RX6 47 "HailClub$State" "endThere" "[Z" ∈ hc_T := hc_in1 (i := 86) (w := Cond.fieldLink RX6 47 "HailClub$State" "endThere" "[Z") rfl rfl
set_option maxRecDepth 100000 in
theorem clX6_50 : Cond.classLink RX6 50 "[[J" ∈ hc_T := hc_in1 (i := 54) (w := Cond.classLink RX6 50 "[[J") rfl rfl
set_option maxRecDepth 100000 in
theorem flX6_52 : Cond.fieldLink RX6 52 "HailClub$State" "endRows" "[[J" ∈ hc_T := hc_in1 (i := 88) (w := Cond.fieldLink RX6 52 "HailClub$State" "endRows" "[[J") rfl rfl
set_option maxRecDepth 100000 in
theorem mlX6_55 : Cond.methodLink RX6 55 yX6_clear ∈ hc_T := hc_in1 (i := 56) (w := Cond.methodLink RX6 55 yX6_clear) rfl rfl
set_option maxRecDepth 100000 in
theorem klX6_58 : Cond.constantLong RX6 58 (10) ∈ hc_T := hc_in1 (i := 60) (w := Cond.constantLong RX6 58 (10)) rfl rfl
set_option maxRecDepth 100000 in
theorem klX6_60 : Cond.constantLong RX6 60 (9999999) ∈ hc_T := hc_in1 (i := 61) (w := Cond.constantLong RX6 60 (9999999)) rfl rfl
set_option maxRecDepth 100000 in
theorem klX6_62 : Cond.constantLong RX6 62 (100) ∈ hc_T := hc_in1 (i := 62) (w := Cond.constantLong RX6 62 (100)) rfl rfl
set_option maxRecDepth 100000 in
theorem klX6_64 : Cond.constantLong RX6 64 (4) ∈ hc_T := hc_in1 (i := 63) (w := Cond.constantLong RX6 64 (4)) rfl rfl
set_option maxRecDepth 100000 in
theorem flX6_66 : Cond.fieldLink RX6 66 "HailClub$State" "memberCount" "I" ∈ hc_T := hc_in1 (i := 90) (w := Cond.fieldLink RX6 66 "HailClub$State" "memberCount" "I") rfl rfl
set_option maxRecDepth 100000 in
theorem flX6_70 : Cond.fieldLink RX6 70 "HailClub$State" "fieldCount" "I" ∈ hc_T := hc_in1 (i := 93) (w := Cond.fieldLink RX6 70 "HailClub$State" "fieldCount" "I") rfl rfl
set_option maxRecDepth 100000 in
theorem flX6_73 : Cond.fieldLink RX6 73 "HailClub$State" "stormCount" "I" ∈ hc_T := hc_in1 (i := 98) (w := Cond.fieldLink RX6 73 "HailClub$State" "stormCount" "I") rfl rfl
set_option maxRecDepth 100000 in
theorem flX6_76 : Cond.fieldLink RX6 76 "HailClub$State" "year" "I" ∈ hc_T := hc_in1 (i := 100) (w := Cond.fieldLink RX6 76 "HailClub$State" "year" "I") rfl rfl
set_option maxRecDepth 100000 in
theorem mlX6_79 : Cond.methodLink RX6 79 arraycopyName ∈ hc_T := hc_in3 (i := 127) (w := Cond.methodLink RX6 79 arraycopyName) rfl rfl
set_option maxRecDepth 100000 in
theorem mlX6_85 : Cond.methodLink RX6 85 yX6_copyEndRows ∈ hc_T := hc_in3 (i := 130) (w := Cond.methodLink RX6 85 yX6_copyEndRows) rfl rfl
set_option maxRecDepth 100000 in
theorem flX6_89 : Cond.fieldLink RX6 89 "HailClub$Ending" "present" "[Z" ∈ hc_T := hc_in2 (i := 105) (w := Cond.fieldLink RX6 89 "HailClub$Ending" "present" "[Z") rfl rfl
set_option maxRecDepth 100000 in
theorem flX6_94 : Cond.fieldLink RX6 94 "HailClub$Ending" "rows" "[[J" ∈ hc_T := hc_in2 (i := 102) (w := Cond.fieldLink RX6 94 "HailClub$Ending" "rows" "[[J") rfl rfl
set_option maxRecDepth 100000 in
theorem flX6_97 : Cond.fieldLink RX6 97 "HailClub$Ending" "totals" "[J" ∈ hc_T := hc_in2 (i := 99) (w := Cond.fieldLink RX6 97 "HailClub$Ending" "totals" "[J") rfl rfl
set_option maxRecDepth 100000 in
theorem mlX6_100 : Cond.methodLink RX6 100 yX6_isKnown ∈ hc_T := hc_in3 (i := 175) (w := Cond.methodLink RX6 100 yX6_isKnown) rfl rfl
set_option maxRecDepth 100000 in
theorem mlX6_104 : Cond.methodLink RX6 104 yX6_isFieldKnown ∈ hc_T := hc_in3 (i := 167) (w := Cond.methodLink RX6 104 yX6_isFieldKnown) rfl rfl
set_option maxRecDepth 100000 in
theorem flX6_107 : Cond.fieldLink RX6 107 "HailClub$Field" "owner" "I" ∈ hc_T := hc_in3 (i := 38) (w := Cond.fieldLink RX6 107 "HailClub$Field" "owner" "I") rfl rfl
set_option maxRecDepth 100000 in
theorem mlX6_110 : Cond.methodLink RX6 110 yX6_isThere ∈ hc_T := hc_in3 (i := 171) (w := Cond.methodLink RX6 110 yX6_isThere) rfl rfl
set_option maxRecDepth 100000 in
theorem mlX6_113 : Cond.methodLink RX6 113 yX6_stands ∈ hc_T := hc_in3 (i := 163) (w := Cond.methodLink RX6 113 yX6_stands) rfl rfl
set_option maxRecDepth 100000 in
theorem mlX6_120 : Cond.methodLink RX6 120 yX2_coins ∈ hc_T := hc_in3 (i := 183) (w := Cond.methodLink RX6 120 yX2_coins) rfl rfl
set_option maxRecDepth 100000 in
theorem flX6_124 : Cond.fieldLink RX6 124 "HailClub$Field" "x" "I" ∈ hc_T := hc_in3 (i := 44) (w := Cond.fieldLink RX6 124 "HailClub$Field" "x" "I") rfl rfl
set_option maxRecDepth 100000 in
theorem flX6_127 : Cond.fieldLink RX6 127 "HailClub$Field" "y" "I" ∈ hc_T := hc_in3 (i := 49) (w := Cond.fieldLink RX6 127 "HailClub$Field" "y" "I") rfl rfl
set_option maxRecDepth 100000 in
theorem mlX6_130 : Cond.methodLink RX6 130 yX6_hazardAt ∈ hc_T := hc_in3 (i := 187) (w := Cond.methodLink RX6 130 yX6_hazardAt) rfl rfl
set_option maxRecDepth 100000 in
theorem mlX6_134 : Cond.methodLink RX6 134 yX6_standsFor ∈ hc_T := hc_in3 (i := 159) (w := Cond.methodLink RX6 134 yX6_standsFor) rfl rfl
set_option maxRecDepth 100000 in
theorem mlX6_137 : Cond.methodLink RX6 137 yX7_isOver ∈ hc_T := hc_in4 (i := 23) (w := Cond.methodLink RX6 137 yX7_isOver) rfl rfl
set_option maxRecDepth 100000 in
theorem mlX6_141 : Cond.methodLink RX6 141 yX6_pointsOfField ∈ hc_T := hc_in3 (i := 179) (w := Cond.methodLink RX6 141 yX6_pointsOfField) rfl rfl
set_option maxRecDepth 100000 in
theorem mlX7_1 : Cond.methodLink RX7 1 objectInit ∈ hc_T := hc_in3 (i := 237) (w := Cond.methodLink RX7 1 objectInit) rfl rfl
set_option maxRecDepth 100000 in
theorem flX7_7 : Cond.fieldLink RX7 7 "HailClub$Storm" "x" "I" ∈ hc_T := hc_in3 (i := 238) (w := Cond.fieldLink RX7 7 "HailClub$Storm" "x" "I") rfl rfl
set_option maxRecDepth 100000 in
theorem flX7_13 : Cond.fieldLink RX7 13 "HailClub$Storm" "y" "I" ∈ hc_T := hc_in3 (i := 239) (w := Cond.fieldLink RX7 13 "HailClub$Storm" "y" "I") rfl rfl
set_option maxRecDepth 100000 in
theorem flX7_16 : Cond.fieldLink RX7 16 "HailClub$Storm" "toX" "I" ∈ hc_T := hc_in4 (i := 0) (w := Cond.fieldLink RX7 16 "HailClub$Storm" "toX" "I") rfl rfl
set_option maxRecDepth 100000 in
theorem flX7_19 : Cond.fieldLink RX7 19 "HailClub$Storm" "toY" "I" ∈ hc_T := hc_in4 (i := 1) (w := Cond.fieldLink RX7 19 "HailClub$Storm" "toY" "I") rfl rfl
set_option maxRecDepth 100000 in
theorem flX7_22 : Cond.fieldLink RX7 22 "HailClub$Storm" "strength" "I" ∈ hc_T := hc_in4 (i := 2) (w := Cond.fieldLink RX7 22 "HailClub$Storm" "strength" "I") rfl rfl
set_option maxRecDepth 100000 in
theorem flX7_25 : Cond.fieldLink RX7 25 "HailClub$Field" "x" "I" ∈ hc_T := hc_in3 (i := 41) (w := Cond.fieldLink RX7 25 "HailClub$Field" "x" "I") rfl rfl
set_option maxRecDepth 100000 in
theorem flX7_28 : Cond.fieldLink RX7 28 "HailClub$Field" "y" "I" ∈ hc_T := hc_in3 (i := 46) (w := Cond.fieldLink RX7 28 "HailClub$Field" "y" "I") rfl rfl
set_option maxRecDepth 100000 in
theorem mlX8_3 : Cond.methodLink RX8 3 objectInit ∈ hc_T := hc_in1 (i := 32) (w := Cond.methodLink RX8 3 objectInit) rfl rfl
set_option maxRecDepth 100000 in
theorem flX8_9 : Cond.fieldLink RX8 9 "HailClub$Tape" "bytes" "[B" ∈ hc_T := hc_in1 (i := 33) (w := Cond.fieldLink RX8 9 "HailClub$Tape" "bytes" "[B") rfl rfl
set_option maxRecDepth 100000 in
theorem flX8_15 : Cond.fieldLink RX8 15 "HailClub$Tape" "length" "I" ∈ hc_T := hc_in1 (i := 35) (w := Cond.fieldLink RX8 15 "HailClub$Tape" "length" "I") rfl rfl
set_option maxRecDepth 100000 in
theorem mlX9_3 : Cond.methodLink RX9 3 objectInit ∈ hc_T := hc_in1 (i := 165) (w := Cond.methodLink RX9 3 objectInit) rfl rfl
set_option maxRecDepth 100000 in
theorem flX9_9 : Cond.fieldLink RX9 9 "HailClub$Tokens" "kinds" "[I" ∈ hc_T := hc_in1 (i := 219) (w := Cond.fieldLink RX9 9 "HailClub$Tokens" "kinds" "[I") rfl rfl
set_option maxRecDepth 100000 in
theorem flX9_15 : Cond.fieldLink RX9 15 "HailClub$Tokens" "places" "[I" ∈ hc_T := hc_in1 (i := 221) (w := Cond.fieldLink RX9 15 "HailClub$Tokens" "places" "[I") rfl rfl
set_option maxRecDepth 100000 in
theorem flX9_18 : Cond.fieldLink RX9 18 "HailClub$Tokens" "values" "[J" ∈ hc_T := hc_in1 (i := 223) (w := Cond.fieldLink RX9 18 "HailClub$Tokens" "values" "[J") rfl rfl
set_option maxRecDepth 100000 in
theorem flX9_22 : Cond.fieldLink RX9 22 "HailClub$Tokens" "quoted" "[J" ∈ hc_T := hc_in1 (i := 227) (w := Cond.fieldLink RX9 22 "HailClub$Tokens" "quoted" "[J") rfl rfl
set_option maxRecDepth 100000 in
theorem flX9_25 : Cond.fieldLink RX9 25 "HailClub$Tokens" "tape" "LHailClub$Tape;" ∈ hc_T := hc_in1 (i := 228) (w := Cond.fieldLink RX9 25 "HailClub$Tokens" "tape" "LHailClub$Tape;") rfl rfl
set_option maxRecDepth 100000 in
theorem mlX9_31 : Cond.methodLink RX9 31 yJ0_length_8abf5 ∈ hc_T := hc_in1 (i := 167) (w := Cond.methodLink RX9 31 yJ0_length_8abf5) rfl rfl
set_option maxRecDepth 100000 in
theorem mlX9_37 : Cond.methodLink RX9 37 yJ0_charAt_5068e ∈ hc_T := hc_in1 (i := 177) (w := Cond.methodLink RX9 37 yJ0_charAt_5068e) rfl rfl
set_option maxRecDepth 100000 in
theorem mlX9_41 : Cond.methodLink RX9 41 yX9_packed ∈ hc_T := hc_in1 (i := 215) (w := Cond.methodLink RX9 41 yX9_packed) rfl rfl
set_option maxRecDepth 100000 in
theorem klX9_45 : Cond.constantLong RX9 45 (32) ∈ hc_T := hc_in1 (i := 218) (w := Cond.constantLong RX9 45 (32)) rfl rfl
set_option maxRecDepth 100000 in
theorem flX9_47 : Cond.fieldLink RX9 47 "HailClub$Tokens" "count" "I" ∈ hc_T := hc_in1 (i := 225) (w := Cond.fieldLink RX9 47 "HailClub$Tokens" "count" "I") rfl rfl
set_option maxRecDepth 100000 in
theorem flX9_51 : Cond.fieldLink RX9 51 "HailClub$Tape" "length" "I" ∈ hc_T := hc_in1 (i := 37) (w := Cond.fieldLink RX9 51 "HailClub$Tape" "length" "I") rfl rfl
set_option maxRecDepth 100000 in
theorem mlX9_55 : Cond.methodLink RX9 55 yX9_cutOne ∈ hc_T := hc_in2 (i := 195) (w := Cond.methodLink RX9 55 yX9_cutOne) rfl rfl
set_option maxRecDepth 100000 in
theorem mlX9_59 : Cond.methodLink RX9 59 Lib.Math.max.name ∈ hc_T := hc_in2 (i := 226) (w := Cond.methodLink RX9 59 Lib.Math.max.name) rfl rfl
set_option maxRecDepth 100000 in
theorem mlX9_65 : Cond.methodLink RX9 65 yX9_add ∈ hc_T := hc_in2 (i := 214) (w := Cond.methodLink RX9 65 yX9_add) rfl rfl
set_option maxRecDepth 100000 in
theorem mlX9_69 : Cond.methodLink RX9 69 yX9_signAt ∈ hc_T := hc_in2 (i := 199) (w := Cond.methodLink RX9 69 yX9_signAt) rfl rfl
set_option maxRecDepth 100000 in
theorem mlX9_72 : Cond.methodLink RX9 72 yX9_isLetter ∈ hc_T := hc_in2 (i := 203) (w := Cond.methodLink RX9 72 yX9_isLetter) rfl rfl
set_option maxRecDepth 100000 in
theorem mlX9_76 : Cond.methodLink RX9 76 yX9_cutWord ∈ hc_T := hc_in2 (i := 206) (w := Cond.methodLink RX9 76 yX9_cutWord) rfl rfl
set_option maxRecDepth 100000 in
theorem mlX9_79 : Cond.methodLink RX9 79 yX9_isDigit ∈ hc_T := hc_in2 (i := 218) (w := Cond.methodLink RX9 79 yX9_isDigit) rfl rfl
set_option maxRecDepth 100000 in
theorem mlX9_82 : Cond.methodLink RX9 82 yX9_cutNumber ∈ hc_T := hc_in2 (i := 221) (w := Cond.methodLink RX9 82 yX9_cutNumber) rfl rfl
set_option maxRecDepth 100000 in
theorem mlX9_85 : Cond.methodLink RX9 85 yX9_kindOf ∈ hc_T := hc_in2 (i := 210) (w := Cond.methodLink RX9 85 yX9_kindOf) rfl rfl
set_option maxRecDepth 100000 in
theorem klX9_89 : Cond.constantLong RX9 89 (10) ∈ hc_T := hc_in2 (i := 225) (w := Cond.constantLong RX9 89 (10)) rfl rfl
set_option maxRecDepth 100000 in
theorem flX9_91 : Cond.fieldLink RX9 91 "HailClub$Tape" "bytes" "[B" ∈ hc_T := hc_in1 (i := 34) (w := Cond.fieldLink RX9 91 "HailClub$Tape" "bytes" "[B") rfl rfl
set_option maxRecDepth 100000 in
theorem clL_7 : Cond.classLink RL 7 "HailClub" ∈ hc_T := hc_in1 (i := 19) (w := Cond.classLink RL 7 "HailClub") rfl rfl
set_option maxRecDepth 100000 in
theorem mlL_9 : Cond.methodLink RL 9 yX10_init ∈ hc_T := hc_in1 (i := 21) (w := Cond.methodLink RL 9 yX10_init) rfl rfl
set_option maxRecDepth 100000 in
theorem clL_10 : Cond.classLink RL 10 "HailClubModel" ∈ hc_T := hc_in5 (i := 59) (w := Cond.classLink RL 10 "HailClubModel") rfl rfl
set_option maxRecDepth 100000 in
theorem mlL_12 : Cond.methodLink RL 12 yX11_init ∈ hc_T := hc_in5 (i := 61) (w := Cond.methodLink RL 12 yX11_init) rfl rfl
set_option maxRecDepth 100000 in
theorem mlL_13 : Cond.methodLink RL 13 yX10_feed ∈ hc_T := hc_in2 (i := 163) (w := Cond.methodLink RL 13 yX10_feed) rfl rfl
set_option maxRecDepth 100000 in
theorem mlL_17 : Cond.methodLink RL 17 yX11_feed ∈ hc_T := hc_in5 (i := 211) (w := Cond.methodLink RL 17 yX11_feed) rfl rfl
set_option maxRecDepth 100000 in
theorem mlL_18 : Cond.methodLink RL 18 yX10_end ∈ hc_T := hc_in2 (i := 175) (w := Cond.methodLink RL 18 yX10_end) rfl rfl
set_option maxRecDepth 100000 in
theorem mlL_22 : Cond.methodLink RL 22 yX11_end ∈ hc_T := hc_in5 (i := 219) (w := Cond.methodLink RL 22 yX11_end) rfl rfl
set_option maxRecDepth 100000 in
theorem mlL_23 : Cond.methodLink RL 23 yX10_book ∈ hc_T := hc_in2 (i := 179) (w := Cond.methodLink RL 23 yX10_book) rfl rfl
set_option maxRecDepth 100000 in
theorem mlL_27 : Cond.methodLink RL 27 yX11_book ∈ hc_T := hc_in5 (i := 230) (w := Cond.methodLink RL 27 yX11_book) rfl rfl
set_option maxRecDepth 100000 in
theorem mlL_28 : Cond.methodLink RL 28 yX10_join ∈ hc_T := hc_in3 (i := 139) (w := Cond.methodLink RL 28 yX10_join) rfl rfl
set_option maxRecDepth 100000 in
theorem mlL_31 : Cond.methodLink RL 31 yX11_join ∈ hc_T := hc_in6 (i := 122) (w := Cond.methodLink RL 31 yX11_join) rfl rfl
set_option maxRecDepth 100000 in
theorem mlL_32 : Cond.methodLink RL 32 yX10_fault ∈ hc_T := hc_in3 (i := 207) (w := Cond.methodLink RL 32 yX10_fault) rfl rfl
set_option maxRecDepth 100000 in
theorem mlL_36 : Cond.methodLink RL 36 yX11_fault ∈ hc_T := hc_in5 (i := 226) (w := Cond.methodLink RL 36 yX11_fault) rfl rfl
set_option maxRecDepth 100000 in
theorem mlL_37 : Cond.methodLink RL 37 yX10_named ∈ hc_T := hc_in3 (i := 211) (w := Cond.methodLink RL 37 yX10_named) rfl rfl
set_option maxRecDepth 100000 in
theorem mlL_40 : Cond.methodLink RL 40 yX11_named ∈ hc_T := hc_in6 (i := 156) (w := Cond.methodLink RL 40 yX11_named) rfl rfl
set_option maxRecDepth 100000 in
theorem mlL_41 : Cond.methodLink RL 41 yX10_storm ∈ hc_T := hc_in3 (i := 221) (w := Cond.methodLink RL 41 yX10_storm) rfl rfl
set_option maxRecDepth 100000 in
theorem mlL_44 : Cond.methodLink RL 44 yX11_storm ∈ hc_T := hc_in6 (i := 160) (w := Cond.methodLink RL 44 yX11_storm) rfl rfl
set_option maxRecDepth 100000 in
theorem mlL_45 : Cond.methodLink RL 45 yX10_leave ∈ hc_T := hc_in4 (i := 27) (w := Cond.methodLink RL 45 yX10_leave) rfl rfl
set_option maxRecDepth 100000 in
theorem mlL_48 : Cond.methodLink RL 48 yX11_leave ∈ hc_T := hc_in6 (i := 185) (w := Cond.methodLink RL 48 yX11_leave) rfl rfl
set_option maxRecDepth 100000 in
theorem mlL_49 : Cond.methodLink RL 49 yX10_close ∈ hc_T := hc_in4 (i := 31) (w := Cond.methodLink RL 49 yX10_close) rfl rfl
set_option maxRecDepth 100000 in
theorem mlL_53 : Cond.methodLink RL 53 yX11_close ∈ hc_T := hc_in6 (i := 203) (w := Cond.methodLink RL 53 yX11_close) rfl rfl
set_option maxRecDepth 100000 in
theorem mlL_54 : Cond.methodLink RL 54 yX10_undo ∈ hc_T := hc_in4 (i := 163) (w := Cond.methodLink RL 54 yX10_undo) rfl rfl
set_option maxRecDepth 100000 in
theorem mlL_58 : Cond.methodLink RL 58 yX11_undo ∈ hc_T := hc_in5 (i := 207) (w := Cond.methodLink RL 58 yX11_undo) rfl rfl
set_option maxRecDepth 100000 in
theorem mlL_59 : Cond.methodLink RL 59 yX10_member ∈ hc_T := hc_in4 (i := 171) (w := Cond.methodLink RL 59 yX10_member) rfl rfl
set_option maxRecDepth 100000 in
theorem mlL_63 : Cond.methodLink RL 63 yX11_member ∈ hc_T := hc_in7 (i := 37) (w := Cond.methodLink RL 63 yX11_member) rfl rfl
set_option maxRecDepth 100000 in
theorem mlL_64 : Cond.methodLink RL 64 yX10_field ∈ hc_T := hc_in4 (i := 183) (w := Cond.methodLink RL 64 yX10_field) rfl rfl
set_option maxRecDepth 100000 in
theorem mlL_67 : Cond.methodLink RL 67 yX11_field ∈ hc_T := hc_in7 (i := 41) (w := Cond.methodLink RL 67 yX11_field) rfl rfl
set_option maxRecDepth 100000 in
theorem mlL_68 : Cond.methodLink RL 68 yX10_hazard ∈ hc_T := hc_in4 (i := 192) (w := Cond.methodLink RL 68 yX10_hazard) rfl rfl
set_option maxRecDepth 100000 in
theorem mlL_72 : Cond.methodLink RL 72 yX11_hazard ∈ hc_T := hc_in7 (i := 46) (w := Cond.methodLink RL 72 yX11_hazard) rfl rfl
set_option maxRecDepth 100000 in
theorem mlL_73 : Cond.methodLink RL 73 yX10_now ∈ hc_T := hc_in4 (i := 197) (w := Cond.methodLink RL 73 yX10_now) rfl rfl
set_option maxRecDepth 100000 in
theorem mlL_77 : Cond.methodLink RL 77 yX11_now ∈ hc_T := hc_in7 (i := 50) (w := Cond.methodLink RL 77 yX11_now) rfl rfl
set_option maxRecDepth 100000 in
theorem mlL_78 : Cond.methodLink RL 78 yX10_mine ∈ hc_T := hc_in4 (i := 201) (w := Cond.methodLink RL 78 yX10_mine) rfl rfl
set_option maxRecDepth 100000 in
theorem mlL_81 : Cond.methodLink RL 81 yX11_mine ∈ hc_T := hc_in7 (i := 55) (w := Cond.methodLink RL 81 yX11_mine) rfl rfl
set_option maxRecDepth 100000 in
theorem mlL_82 : Cond.methodLink RL 82 yX10_then ∈ hc_T := hc_in4 (i := 206) (w := Cond.methodLink RL 82 yX10_then) rfl rfl
set_option maxRecDepth 100000 in
theorem mlL_85 : Cond.methodLink RL 85 yX11_then ∈ hc_T := hc_in7 (i := 60) (w := Cond.methodLink RL 85 yX11_then) rfl rfl
set_option maxRecDepth 100000 in
theorem mlL_86 : Cond.methodLink RL 86 yX10_club ∈ hc_T := hc_in4 (i := 210) (w := Cond.methodLink RL 86 yX10_club) rfl rfl
set_option maxRecDepth 100000 in
theorem mlL_89 : Cond.methodLink RL 89 yX11_club ∈ hc_T := hc_in7 (i := 65) (w := Cond.methodLink RL 89 yX11_club) rfl rfl
set_option maxRecDepth 100000 in
theorem mlL_90 : Cond.methodLink RL 90 yX10_set ∈ hc_T := hc_in4 (i := 219) (w := Cond.methodLink RL 90 yX10_set) rfl rfl
set_option maxRecDepth 100000 in
theorem mlL_94 : Cond.methodLink RL 94 yX11_set ∈ hc_T := hc_in6 (i := 197) (w := Cond.methodLink RL 94 yX11_set) rfl rfl
set_option maxRecDepth 100000 in
theorem mlL_95 : Cond.methodLink RL 95 yX10_worst ∈ hc_T := hc_in4 (i := 224) (w := Cond.methodLink RL 95 yX10_worst) rfl rfl
set_option maxRecDepth 100000 in
theorem mlL_99 : Cond.methodLink RL 99 yX11_worst ∈ hc_T := hc_in7 (i := 69) (w := Cond.methodLink RL 99 yX11_worst) rfl rfl
set_option maxRecDepth 100000 in
theorem mlL_100 : Cond.methodLink RL 100 yX10_rate ∈ hc_T := hc_in5 (i := 5) (w := Cond.methodLink RL 100 yX10_rate) rfl rfl
set_option maxRecDepth 100000 in
theorem mlL_103 : Cond.methodLink RL 103 yX11_rate ∈ hc_T := hc_in7 (i := 77) (w := Cond.methodLink RL 103 yX11_rate) rfl rfl
set_option maxRecDepth 100000 in
theorem mlL_104 : Cond.methodLink RL 104 yX10_reserve ∈ hc_T := hc_in5 (i := 14) (w := Cond.methodLink RL 104 yX10_reserve) rfl rfl
set_option maxRecDepth 100000 in
theorem mlL_107 : Cond.methodLink RL 107 yX11_reserve ∈ hc_T := hc_in7 (i := 81) (w := Cond.methodLink RL 107 yX11_reserve) rfl rfl
set_option maxRecDepth 100000 in
theorem mlL_108 : Cond.methodLink RL 108 yX10_without ∈ hc_T := hc_in5 (i := 20) (w := Cond.methodLink RL 108 yX10_without) rfl rfl
set_option maxRecDepth 100000 in
theorem mlL_111 : Cond.methodLink RL 111 yX11_without ∈ hc_T := hc_in7 (i := 86) (w := Cond.methodLink RL 111 yX11_without) rfl rfl
set_option maxRecDepth 100000 in
theorem mlL_112 : Cond.methodLink RL 112 yX10_near ∈ hc_T := hc_in5 (i := 24) (w := Cond.methodLink RL 112 yX10_near) rfl rfl
set_option maxRecDepth 100000 in
theorem mlL_115 : Cond.methodLink RL 115 yX11_near ∈ hc_T := hc_in7 (i := 90) (w := Cond.methodLink RL 115 yX11_near) rfl rfl
set_option maxRecDepth 100000 in
theorem mlL_116 : Cond.methodLink RL 116 yX10_rank ∈ hc_T := hc_in5 (i := 35) (w := Cond.methodLink RL 116 yX10_rank) rfl rfl
set_option maxRecDepth 100000 in
theorem mlL_119 : Cond.methodLink RL 119 yX11_rank ∈ hc_T := hc_in7 (i := 95) (w := Cond.methodLink RL 119 yX11_rank) rfl rfl
set_option maxRecDepth 100000 in
theorem mlL_120 : Cond.methodLink RL 120 yX10_alone ∈ hc_T := hc_in5 (i := 43) (w := Cond.methodLink RL 120 yX10_alone) rfl rfl
set_option maxRecDepth 100000 in
theorem mlL_123 : Cond.methodLink RL 123 yX11_alone ∈ hc_T := hc_in7 (i := 99) (w := Cond.methodLink RL 123 yX11_alone) rfl rfl
set_option maxRecDepth 100000 in
theorem mlL_124 : Cond.methodLink RL 124 yX10_look ∈ hc_T := hc_in5 (i := 51) (w := Cond.methodLink RL 124 yX10_look) rfl rfl
set_option maxRecDepth 100000 in
theorem mlL_127 : Cond.methodLink RL 127 yX11_look ∈ hc_T := hc_in7 (i := 104) (w := Cond.methodLink RL 127 yX11_look) rfl rfl
set_option maxRecDepth 100000 in
theorem mlX11_3 : Cond.methodLink RX11 3 objectInit ∈ hc_T := hc_in5 (i := 64) (w := Cond.methodLink RX11 3 objectInit) rfl rfl
set_option maxRecDepth 100000 in
theorem flX11_9 : Cond.fieldLink RX11 9 "HailClubModel" "now" "[J" ∈ hc_T := hc_in5 (i := 74) (w := Cond.fieldLink RX11 9 "HailClubModel" "now" "[J") rfl rfl
set_option maxRecDepth 100000 in
theorem flX11_15 : Cond.fieldLink RX11 15 "HailClubModel" "past" "[J" ∈ hc_T := hc_in5 (i := 75) (w := Cond.fieldLink RX11 15 "HailClubModel" "past" "[J") rfl rfl
set_option maxRecDepth 100000 in
theorem flX11_18 : Cond.fieldLink RX11 18 "HailClubModel" "name" "[J" ∈ hc_T := hc_in5 (i := 77) (w := Cond.fieldLink RX11 18 "HailClubModel" "name" "[J") rfl rfl
set_option maxRecDepth 100000 in
theorem flX11_21 : Cond.fieldLink RX11 21 "HailClubModel" "field" "[I" ∈ hc_T := hc_in5 (i := 78) (w := Cond.fieldLink RX11 21 "HailClubModel" "field" "[I") rfl rfl
set_option maxRecDepth 100000 in
theorem flX11_25 : Cond.fieldLink RX11 25 "HailClubModel" "hazards" "[I" ∈ hc_T := hc_in5 (i := 79) (w := Cond.fieldLink RX11 25 "HailClubModel" "hazards" "[I") rfl rfl
set_option maxRecDepth 100000 in
theorem flX11_28 : Cond.fieldLink RX11 28 "HailClubModel" "soft" "[I" ∈ hc_T := hc_in5 (i := 80) (w := Cond.fieldLink RX11 28 "HailClubModel" "soft" "[I") rfl rfl
set_option maxRecDepth 100000 in
theorem flX11_31 : Cond.fieldLink RX11 31 "HailClubModel" "rest" "[I" ∈ hc_T := hc_in5 (i := 81) (w := Cond.fieldLink RX11 31 "HailClubModel" "rest" "[I") rfl rfl
set_option maxRecDepth 100000 in
theorem flX11_34 : Cond.fieldLink RX11 34 "HailClubModel" "code" "[J" ∈ hc_T := hc_in5 (i := 82) (w := Cond.fieldLink RX11 34 "HailClubModel" "code" "[J") rfl rfl
set_option maxRecDepth 100000 in
theorem flX11_37 : Cond.fieldLink RX11 37 "HailClubModel" "codeSign" "[I" ∈ hc_T := hc_in5 (i := 83) (w := Cond.fieldLink RX11 37 "HailClubModel" "codeSign" "[I") rfl rfl
set_option maxRecDepth 100000 in
theorem flX11_40 : Cond.fieldLink RX11 40 "HailClubModel" "tape" "[I" ∈ hc_T := hc_in5 (i := 93) (w := Cond.fieldLink RX11 40 "HailClubModel" "tape" "[I") rfl rfl
set_option maxRecDepth 100000 in
theorem flX11_43 : Cond.fieldLink RX11 43 "HailClubModel" "faultPlace" "I" ∈ hc_T := hc_in5 (i := 96) (w := Cond.fieldLink RX11 43 "HailClubModel" "faultPlace" "I") rfl rfl
set_option maxRecDepth 100000 in
theorem flX11_47 : Cond.fieldLink RX11 47 "HailClubModel" "pile" "[J" ∈ hc_T := hc_in5 (i := 107) (w := Cond.fieldLink RX11 47 "HailClubModel" "pile" "[J") rfl rfl
set_option maxRecDepth 100000 in
theorem flX11_50 : Cond.fieldLink RX11 50 "HailClubModel" "asked" "[J" ∈ hc_T := hc_in5 (i := 108) (w := Cond.fieldLink RX11 50 "HailClubModel" "asked" "[J") rfl rfl
set_option maxRecDepth 100000 in
theorem flX11_53 : Cond.fieldLink RX11 53 "HailClubModel" "away" "I" ∈ hc_T := hc_in5 (i := 109) (w := Cond.fieldLink RX11 53 "HailClubModel" "away" "I") rfl rfl
set_option maxRecDepth 100000 in
theorem flX11_56 : Cond.fieldLink RX11 56 "HailClubModel" "weight" "[J" ∈ hc_T := hc_in5 (i := 110) (w := Cond.fieldLink RX11 56 "HailClubModel" "weight" "[J") rfl rfl
set_option maxRecDepth 100000 in
theorem flX11_59 : Cond.fieldLink RX11 59 "HailClubModel" "gets" "[J" ∈ hc_T := hc_in5 (i := 111) (w := Cond.fieldLink RX11 59 "HailClubModel" "gets" "[J") rfl rfl
set_option maxRecDepth 100000 in
theorem flX11_62 : Cond.fieldLink RX11 62 "HailClubModel" "left" "[J" ∈ hc_T := hc_in5 (i := 112) (w := Cond.fieldLink RX11 62 "HailClubModel" "left" "[J") rfl rfl
set_option maxRecDepth 100000 in
theorem flX11_65 : Cond.fieldLink RX11 65 "HailClubModel" "isInIt" "[Z" ∈ hc_T := hc_in5 (i := 113) (w := Cond.fieldLink RX11 65 "HailClubModel" "isInIt" "[Z") rfl rfl
set_option maxRecDepth 100000 in
theorem flX11_69 : Cond.fieldLink RX11 69 "HailClubModel" "mine" "[J" ∈ hc_T := hc_in5 (i := 114) (w := Cond.fieldLink RX11 69 "HailClubModel" "mine" "[J") rfl rfl
set_option maxRecDepth 100000 in
theorem flX11_72 : Cond.fieldLink RX11 72 "HailClubModel" "advance" "[J" ∈ hc_T := hc_in5 (i := 115) (w := Cond.fieldLink RX11 72 "HailClubModel" "advance" "[J") rfl rfl
set_option maxRecDepth 100000 in
theorem flX11_75 : Cond.fieldLink RX11 75 "HailClubModel" "sum" "[J" ∈ hc_T := hc_in5 (i := 116) (w := Cond.fieldLink RX11 75 "HailClubModel" "sum" "[J") rfl rfl
set_option maxRecDepth 100000 in
theorem flX11_78 : Cond.fieldLink RX11 78 "HailClubModel" "isGone" "[Z" ∈ hc_T := hc_in5 (i := 117) (w := Cond.fieldLink RX11 78 "HailClubModel" "isGone" "[Z") rfl rfl
set_option maxRecDepth 100000 in
theorem mlX11_81 : Cond.methodLink RX11 81 yX11_plain ∈ hc_T := hc_in5 (i := 65) (w := Cond.methodLink RX11 81 yX11_plain) rfl rfl
set_option maxRecDepth 100000 in
theorem mlX11_84 : Cond.methodLink RX11 84 yX11_takesOver ∈ hc_T := hc_in5 (i := 70) (w := Cond.methodLink RX11 84 yX11_takesOver) rfl rfl
set_option maxRecDepth 100000 in
theorem flX11_87 : Cond.fieldLink RX11 87 "HailClubModel" "pasts" "I" ∈ hc_T := hc_in5 (i := 76) (w := Cond.fieldLink RX11 87 "HailClubModel" "pasts" "I") rfl rfl
set_option maxRecDepth 100000 in
theorem klX11_90 : Cond.constant RX11 90 (9999999) ∈ hc_T := hc_in5 (i := 69) (w := Cond.constant RX11 90 (9999999)) rfl rfl
set_option maxRecDepth 100000 in
theorem flX11_91 : Cond.fieldLink RX11 91 "HailClubModel" "codesRead" "I" ∈ hc_T := hc_in5 (i := 85) (w := Cond.fieldLink RX11 91 "HailClubModel" "codesRead" "I") rfl rfl
set_option maxRecDepth 100000 in
theorem flX11_94 : Cond.fieldLink RX11 94 "HailClubModel" "membersRead" "I" ∈ hc_T := hc_in5 (i := 86) (w := Cond.fieldLink RX11 94 "HailClubModel" "membersRead" "I") rfl rfl
set_option maxRecDepth 100000 in
theorem flX11_97 : Cond.fieldLink RX11 97 "HailClubModel" "fieldsRead" "I" ∈ hc_T := hc_in5 (i := 87) (w := Cond.fieldLink RX11 97 "HailClubModel" "fieldsRead" "I") rfl rfl
set_option maxRecDepth 100000 in
theorem flX11_100 : Cond.fieldLink RX11 100 "HailClubModel" "rateRead" "I" ∈ hc_T := hc_in5 (i := 88) (w := Cond.fieldLink RX11 100 "HailClubModel" "rateRead" "I") rfl rfl
set_option maxRecDepth 100000 in
theorem flX11_103 : Cond.fieldLink RX11 103 "HailClubModel" "reserveRead" "I" ∈ hc_T := hc_in5 (i := 89) (w := Cond.fieldLink RX11 103 "HailClubModel" "reserveRead" "I") rfl rfl
set_option maxRecDepth 100000 in
theorem flX11_106 : Cond.fieldLink RX11 106 "HailClubModel" "capRead" "I" ∈ hc_T := hc_in5 (i := 90) (w := Cond.fieldLink RX11 106 "HailClubModel" "capRead" "I") rfl rfl
set_option maxRecDepth 100000 in
theorem flX11_109 : Cond.fieldLink RX11 109 "HailClubModel" "goalRead" "I" ∈ hc_T := hc_in5 (i := 91) (w := Cond.fieldLink RX11 109 "HailClubModel" "goalRead" "I") rfl rfl
set_option maxRecDepth 100000 in
theorem flX11_112 : Cond.fieldLink RX11 112 "HailClubModel" "hasPay" "Z" ∈ hc_T := hc_in5 (i := 92) (w := Cond.fieldLink RX11 112 "HailClubModel" "hasPay" "Z") rfl rfl
set_option maxRecDepth 100000 in
theorem flX11_116 : Cond.fieldLink RX11 116 "HailClubModel" "codes" "I" ∈ hc_T := hc_in5 (i := 84) (w := Cond.fieldLink RX11 116 "HailClubModel" "codes" "I") rfl rfl
set_option maxRecDepth 100000 in
theorem flX11_119 : Cond.fieldLink RX11 119 "HailClubModel" "taped" "I" ∈ hc_T := hc_in5 (i := 94) (w := Cond.fieldLink RX11 119 "HailClubModel" "taped" "I") rfl rfl
set_option maxRecDepth 100000 in
theorem mlX11_122 : Cond.methodLink RX11 122 yX11_four ∈ hc_T := hc_in5 (i := 215) (w := Cond.methodLink RX11 122 yX11_four) rfl rfl
set_option maxRecDepth 100000 in
theorem mlX11_126 : Cond.methodLink RX11 126 yX11_isIn ∈ hc_T := hc_in5 (i := 223) (w := Cond.methodLink RX11 126 yX11_isIn) rfl rfl
set_option maxRecDepth 100000 in
theorem flX11_130 : Cond.fieldLink RX11 130 "HailClubModel" "to" "I" ∈ hc_T := hc_in5 (i := 101) (w := Cond.fieldLink RX11 130 "HailClubModel" "to" "I") rfl rfl
set_option maxRecDepth 100000 in
theorem mlX11_133 : Cond.methodLink RX11 133 yX11_see ∈ hc_T := hc_in6 (i := 2) (w := Cond.methodLink RX11 133 yX11_see) rfl rfl
set_option maxRecDepth 100000 in
theorem flX11_137 : Cond.fieldLink RX11 137 "HailClubModel" "from" "I" ∈ hc_T := hc_in5 (i := 100) (w := Cond.fieldLink RX11 137 "HailClubModel" "from" "I") rfl rfl
set_option maxRecDepth 100000 in
theorem flX11_140 : Cond.fieldLink RX11 140 "HailClubModel" "word" "J" ∈ hc_T := hc_in5 (i := 102) (w := Cond.fieldLink RX11 140 "HailClubModel" "word" "J") rfl rfl
set_option maxRecDepth 100000 in
theorem flX11_144 : Cond.fieldLink RX11 144 "HailClubModel" "number" "I" ∈ hc_T := hc_in5 (i := 103) (w := Cond.fieldLink RX11 144 "HailClubModel" "number" "I") rfl rfl
set_option maxRecDepth 100000 in
theorem flX11_147 : Cond.fieldLink RX11 147 "HailClubModel" "sign" "I" ∈ hc_T := hc_in5 (i := 104) (w := Cond.fieldLink RX11 147 "HailClubModel" "sign" "I") rfl rfl
set_option maxRecDepth 100000 in
theorem flX11_150 : Cond.fieldLink RX11 150 "HailClubModel" "sort" "I" ∈ hc_T := hc_in5 (i := 99) (w := Cond.fieldLink RX11 150 "HailClubModel" "sort" "I") rfl rfl
set_option maxRecDepth 100000 in
theorem klX11_153 : Cond.constantLong RX11 153 (97) ∈ hc_T := hc_in6 (i := 6) (w := Cond.constantLong RX11 153 (97)) rfl rfl
set_option maxRecDepth 100000 in
theorem klX11_155 : Cond.constantLong RX11 155 (122) ∈ hc_T := hc_in6 (i := 7) (w := Cond.constantLong RX11 155 (122)) rfl rfl
set_option maxRecDepth 100000 in
theorem klX11_157 : Cond.constantLong RX11 157 (48) ∈ hc_T := hc_in6 (i := 8) (w := Cond.constantLong RX11 157 (48)) rfl rfl
set_option maxRecDepth 100000 in
theorem klX11_159 : Cond.constantLong RX11 159 (57) ∈ hc_T := hc_in6 (i := 9) (w := Cond.constantLong RX11 159 (57)) rfl rfl
set_option maxRecDepth 100000 in
theorem flX11_161 : Cond.fieldLink RX11 161 "HailClubModel" "bad" "I" ∈ hc_T := hc_in5 (i := 97) (w := Cond.fieldLink RX11 161 "HailClubModel" "bad" "I") rfl rfl
set_option maxRecDepth 100000 in
theorem flX11_164 : Cond.fieldLink RX11 164 "HailClubModel" "badPlace" "I" ∈ hc_T := hc_in5 (i := 98) (w := Cond.fieldLink RX11 164 "HailClubModel" "badPlace" "I") rfl rfl
set_option maxRecDepth 100000 in
theorem mlX11_167 : Cond.methodLink RX11 167 yJ0_length_8abf5 ∈ hc_T := hc_in6 (i := 19) (w := Cond.methodLink RX11 167 yJ0_length_8abf5) rfl rfl
set_option maxRecDepth 100000 in
theorem mlX11_173 : Cond.methodLink RX11 173 yJ0_charAt_5068e ∈ hc_T := hc_in6 (i := 23) (w := Cond.methodLink RX11 173 yJ0_charAt_5068e) rfl rfl
set_option maxRecDepth 100000 in
theorem mlX11_177 : Cond.methodLink RX11 177 yX11_packed ∈ hc_T := hc_in6 (i := 20) (w := Cond.methodLink RX11 177 yX11_packed) rfl rfl
set_option maxRecDepth 100000 in
theorem mlX11_183 : Cond.methodLink RX11 183 yX11_isWord ∈ hc_T := hc_in6 (i := 15) (w := Cond.methodLink RX11 183 yX11_isWord) rfl rfl
set_option maxRecDepth 100000 in
theorem mlX11_193 : Cond.methodLink RX11 193 yX11_askedHere ∈ hc_T := hc_in6 (i := 40) (w := Cond.methodLink RX11 193 yX11_askedHere) rfl rfl
set_option maxRecDepth 100000 in
theorem mlX11_223 : Cond.methodLink RX11 223 yX11_isOwn ∈ hc_T := hc_in6 (i := 36) (w := Cond.methodLink RX11 223 yX11_isOwn) rfl rfl
set_option maxRecDepth 100000 in
theorem mlX11_227 : Cond.methodLink RX11 227 yX11_isSign ∈ hc_T := hc_in6 (i := 106) (w := Cond.methodLink RX11 227 yX11_isSign) rfl rfl
set_option maxRecDepth 100000 in
theorem mlX11_231 : Cond.methodLink RX11 231 yX11_fails ∈ hc_T := hc_in6 (i := 28) (w := Cond.methodLink RX11 231 yX11_fails) rfl rfl
set_option maxRecDepth 100000 in
theorem mlX11_234 : Cond.methodLink RX11 234 yX11_next ∈ hc_T := hc_in5 (i := 238) (w := Cond.methodLink RX11 234 yX11_next) rfl rfl
set_option maxRecDepth 100000 in
theorem flX11_237 : Cond.fieldLink RX11 237 "HailClubModel" "read" "I" ∈ hc_T := hc_in5 (i := 105) (w := Cond.fieldLink RX11 237 "HailClubModel" "read" "I") rfl rfl
set_option maxRecDepth 100000 in
theorem flX11_240 : Cond.fieldLink RX11 240 "HailClubModel" "fault" "I" ∈ hc_T := hc_in5 (i := 95) (w := Cond.fieldLink RX11 240 "HailClubModel" "fault" "I") rfl rfl
set_option maxRecDepth 100000 in
theorem mlX11_243 : Cond.methodLink RX11 243 yX11_isName ∈ hc_T := hc_in6 (i := 32) (w := Cond.methodLink RX11 243 yX11_isName) rfl rfl
set_option maxRecDepth 100000 in
theorem mlX11_246 : Cond.methodLink RX11 246 yX11_placeOf ∈ hc_T := hc_in6 (i := 61) (w := Cond.methodLink RX11 246 yX11_placeOf) rfl rfl
set_option maxRecDepth 100000 in
theorem mlX11_250 : Cond.methodLink RX11 250 yX11_readNumber ∈ hc_T := hc_in6 (i := 73) (w := Cond.methodLink RX11 250 yX11_readNumber) rfl rfl
set_option maxRecDepth 100000 in
theorem mlX11_254 : Cond.methodLink RX11 254 yX11_readFive ∈ hc_T := hc_in6 (i := 69) (w := Cond.methodLink RX11 254 yX11_readFive) rfl rfl
set_option maxRecDepth 100000 in
theorem mlX11_257 : Cond.methodLink RX11 257 yX11_readMember ∈ hc_T := hc_in6 (i := 24) (w := Cond.methodLink RX11 257 yX11_readMember) rfl rfl
set_option maxRecDepth 100000 in
theorem mlX11_260 : Cond.methodLink RX11 260 yX11_readField ∈ hc_T := hc_in6 (i := 65) (w := Cond.methodLink RX11 260 yX11_readField) rfl rfl
set_option maxRecDepth 100000 in
theorem mlX11_263 : Cond.methodLink RX11 263 yX11_readHazard ∈ hc_T := hc_in6 (i := 77) (w := Cond.methodLink RX11 263 yX11_readHazard) rfl rfl
set_option maxRecDepth 100000 in
theorem mlX11_266 : Cond.methodLink RX11 266 yX11_readPay ∈ hc_T := hc_in6 (i := 81) (w := Cond.methodLink RX11 266 yX11_readPay) rfl rfl
set_option maxRecDepth 100000 in
theorem klX11_269 : Cond.constant RX11 269 (99999999) ∈ hc_T := hc_in6 (i := 97) (w := Cond.constant RX11 269 (99999999)) rfl rfl
set_option maxRecDepth 100000 in
theorem mlX11_270 : Cond.methodLink RX11 270 yX11_begins ∈ hc_T := hc_in5 (i := 234) (w := Cond.methodLink RX11 270 yX11_begins) rfl rfl
set_option maxRecDepth 100000 in
theorem mlX11_273 : Cond.methodLink RX11 273 yX11_readLine ∈ hc_T := hc_in6 (i := 10) (w := Cond.methodLink RX11 273 yX11_readLine) rfl rfl
set_option maxRecDepth 100000 in
theorem mlX11_276 : Cond.methodLink RX11 276 yX11_takesSign ∈ hc_T := hc_in6 (i := 114) (w := Cond.methodLink RX11 276 yX11_takesSign) rfl rfl
set_option maxRecDepth 100000 in
theorem mlX11_279 : Cond.methodLink RX11 279 yX11_isRead ∈ hc_T := hc_in6 (i := 118) (w := Cond.methodLink RX11 279 yX11_isRead) rfl rfl
set_option maxRecDepth 100000 in
theorem flX11_282 : Cond.fieldLink RX11 282 "HailClubModel" "open" "I" ∈ hc_T := hc_in5 (i := 106) (w := Cond.fieldLink RX11 282 "HailClubModel" "open" "I") rfl rfl
set_option maxRecDepth 100000 in
theorem mlX11_285 : Cond.methodLink RX11 285 yX11_readSum ∈ hc_T := hc_in6 (i := 85) (w := Cond.methodLink RX11 285 yX11_readSum) rfl rfl
set_option maxRecDepth 100000 in
theorem mlX11_288 : Cond.methodLink RX11 288 yX11_readProduct ∈ hc_T := hc_in6 (i := 89) (w := Cond.methodLink RX11 288 yX11_readProduct) rfl rfl
set_option maxRecDepth 100000 in
theorem mlX11_291 : Cond.methodLink RX11 291 yX11_puts ∈ hc_T := hc_in6 (i := 98) (w := Cond.methodLink RX11 291 yX11_puts) rfl rfl
set_option maxRecDepth 100000 in
theorem mlX11_295 : Cond.methodLink RX11 295 yX11_readPart ∈ hc_T := hc_in6 (i := 93) (w := Cond.methodLink RX11 295 yX11_readPart) rfl rfl
set_option maxRecDepth 100000 in
theorem mlX11_298 : Cond.methodLink RX11 298 yX11_opens ∈ hc_T := hc_in6 (i := 102) (w := Cond.methodLink RX11 298 yX11_opens) rfl rfl
set_option maxRecDepth 100000 in
theorem mlX11_301 : Cond.methodLink RX11 301 yX11_closes ∈ hc_T := hc_in6 (i := 110) (w := Cond.methodLink RX11 301 yX11_closes) rfl rfl
set_option maxRecDepth 100000 in
theorem mlX11_304 : Cond.methodLink RX11 304 yX11_joined ∈ hc_T := hc_in7 (i := 10) (w := Cond.methodLink RX11 304 yX11_joined) rfl rfl
set_option maxRecDepth 100000 in
theorem mlX11_308 : Cond.methodLink RX11 308 Lib.MathLoose.min_long.x ∈ hc_T := hc_in6 (i := 155) (w := Cond.methodLink RX11 308 Lib.MathLoose.min_long.x) rfl rfl
set_option maxRecDepth 100000 in
theorem mlX11_313 : Cond.methodLink RX11 313 Lib.MathLoose.max_long.x ∈ hc_T := hc_in7 (i := 13) (w := Cond.methodLink RX11 313 Lib.MathLoose.max_long.x) rfl rfl
set_option maxRecDepth 100000 in
theorem mlX11_315 : Cond.methodLink RX11 315 yX11_pointsOf ∈ hc_T := hc_in6 (i := 134) (w := Cond.methodLink RX11 315 yX11_pointsOf) rfl rfl
set_option maxRecDepth 100000 in
theorem mlX11_319 : Cond.methodLink RX11 319 yX11_keeps ∈ hc_T := hc_in6 (i := 126) (w := Cond.methodLink RX11 319 yX11_keeps) rfl rfl
set_option maxRecDepth 100000 in
theorem mlX11_322 : Cond.methodLink RX11 322 yX11_pointsAll ∈ hc_T := hc_in6 (i := 130) (w := Cond.methodLink RX11 322 yX11_pointsAll) rfl rfl
set_option maxRecDepth 100000 in
theorem klX11_326 : Cond.constantLong RX11 326 (9999999) ∈ hc_T := hc_in6 (i := 154) (w := Cond.constantLong RX11 326 (9999999)) rfl rfl
set_option maxRecDepth 100000 in
theorem mlX11_328 : Cond.methodLink RX11 328 yX11_wasMember ∈ hc_T := hc_in6 (i := 193) (w := Cond.methodLink RX11 328 yX11_wasMember) rfl rfl
set_option maxRecDepth 100000 in
theorem mlX11_331 : Cond.methodLink RX11 331 yX11_isThere ∈ hc_T := hc_in6 (i := 138) (w := Cond.methodLink RX11 331 yX11_isThere) rfl rfl
set_option maxRecDepth 100000 in
theorem mlX11_334 : Cond.methodLink RX11 334 yX11_of ∈ hc_T := hc_in6 (i := 142) (w := Cond.methodLink RX11 334 yX11_of) rfl rfl
set_option maxRecDepth 100000 in
theorem mlX11_338 : Cond.methodLink RX11 338 yX11_sumOf ∈ hc_T := hc_in6 (i := 146) (w := Cond.methodLink RX11 338 yX11_sumOf) rfl rfl
set_option maxRecDepth 100000 in
theorem mlX11_341 : Cond.methodLink RX11 341 yX11_hazardOf ∈ hc_T := hc_in6 (i := 150) (w := Cond.methodLink RX11 341 yX11_hazardOf) rfl rfl
set_option maxRecDepth 100000 in
theorem mlX11_344 : Cond.methodLink RX11 344 yX11_sumsOf ∈ hc_T := hc_in7 (i := 18) (w := Cond.methodLink RX11 344 yX11_sumsOf) rfl rfl
set_option maxRecDepth 100000 in
theorem klX11_347 : Cond.constantLong RX11 347 (1000) ∈ hc_T := hc_in6 (i := 224) (w := Cond.constantLong RX11 347 (1000)) rfl rfl
set_option maxRecDepth 100000 in
theorem mlX11_349 : Cond.methodLink RX11 349 yX11_isOver ∈ hc_T := hc_in6 (i := 178) (w := Cond.methodLink RX11 349 yX11_isOver) rfl rfl
set_option maxRecDepth 100000 in
theorem klX11_352 : Cond.constantLong RX11 352 (100) ∈ hc_T := hc_in6 (i := 168) (w := Cond.constantLong RX11 352 (100)) rfl rfl
set_option maxRecDepth 100000 in
theorem mlX11_354 : Cond.methodLink RX11 354 yX11_hit ∈ hc_T := hc_in6 (i := 233) (w := Cond.methodLink RX11 354 yX11_hit) rfl rfl
set_option maxRecDepth 100000 in
theorem klX11_358 : Cond.constantLong RX11 358 (8) ∈ hc_T := hc_in7 (i := 5) (w := Cond.constantLong RX11 358 (8)) rfl rfl
set_option maxRecDepth 100000 in
theorem mlX11_360 : Cond.methodLink RX11 360 yX11_lawTells ∈ hc_T := hc_in7 (i := 6) (w := Cond.methodLink RX11 360 yX11_lawTells) rfl rfl
set_option maxRecDepth 100000 in
theorem mlX11_363 : Cond.methodLink RX11 363 yX11_paidBy ∈ hc_T := hc_in7 (i := 1) (w := Cond.methodLink RX11 363 yX11_paidBy) rfl rfl
set_option maxRecDepth 100000 in
theorem mlX11_367 : Cond.methodLink RX11 367 yX11_lostOf ∈ hc_T := hc_in6 (i := 229) (w := Cond.methodLink RX11 367 yX11_lostOf) rfl rfl
set_option maxRecDepth 100000 in
theorem mlX11_370 : Cond.methodLink RX11 370 yX11_claimBy ∈ hc_T := hc_in6 (i := 237) (w := Cond.methodLink RX11 370 yX11_claimBy) rfl rfl
set_option maxRecDepth 100000 in
theorem mlX11_373 : Cond.methodLink RX11 373 yX11_claimsOf ∈ hc_T := hc_in6 (i := 225) (w := Cond.methodLink RX11 373 yX11_claimsOf) rfl rfl
set_option maxRecDepth 100000 in
theorem klX11_376 : Cond.constantLong RX11 376 (7) ∈ hc_T := hc_in6 (i := 167) (w := Cond.constantLong RX11 376 (7)) rfl rfl
set_option maxRecDepth 100000 in
theorem mlX11_378 : Cond.methodLink RX11 378 yX11_canBe ∈ hc_T := hc_in6 (i := 164) (w := Cond.methodLink RX11 378 yX11_canBe) rfl rfl
set_option maxRecDepth 100000 in
theorem klX11_382 : Cond.constantLong RX11 382 (16) ∈ hc_T := hc_in6 (i := 169) (w := Cond.constantLong RX11 382 (16)) rfl rfl
set_option maxRecDepth 100000 in
theorem mlX11_384 : Cond.methodLink RX11 384 yX11_comes ∈ hc_T := hc_in6 (i := 170) (w := Cond.methodLink RX11 384 yX11_comes) rfl rfl
set_option maxRecDepth 100000 in
theorem mlX11_388 : Cond.methodLink RX11 388 yX11_isField ∈ hc_T := hc_in6 (i := 174) (w := Cond.methodLink RX11 388 yX11_isField) rfl rfl
set_option maxRecDepth 100000 in
theorem mlX11_391 : Cond.methodLink RX11 391 yX11_one ∈ hc_T := hc_in6 (i := 182) (w := Cond.methodLink RX11 391 yX11_one) rfl rfl
set_option maxRecDepth 100000 in
theorem mlX11_395 : Cond.methodLink RX11 395 yX11_isMember ∈ hc_T := hc_in6 (i := 189) (w := Cond.methodLink RX11 395 yX11_isMember) rfl rfl
set_option maxRecDepth 100000 in
theorem klX11_398 : Cond.constantLong RX11 398 (999) ∈ hc_T := hc_in6 (i := 201) (w := Cond.constantLong RX11 398 (999)) rfl rfl
set_option maxRecDepth 100000 in
theorem klX11_400 : Cond.constantLong RX11 400 (99) ∈ hc_T := hc_in6 (i := 202) (w := Cond.constantLong RX11 400 (99)) rfl rfl
set_option maxRecDepth 100000 in
theorem klX11_402 : Cond.constantLong RX11 402 (-1) ∈ hc_T := hc_in6 (i := 211) (w := Cond.constantLong RX11 402 (-1)) rfl rfl
set_option maxRecDepth 100000 in
theorem mlX11_404 : Cond.methodLink RX11 404 yX11_advanceOf ∈ hc_T := hc_in6 (i := 220) (w := Cond.methodLink RX11 404 yX11_advanceOf) rfl rfl
set_option maxRecDepth 100000 in
theorem mlX11_407 : Cond.methodLink RX11 407 yX11_laysMembers ∈ hc_T := hc_in6 (i := 216) (w := Cond.methodLink RX11 407 yX11_laysMembers) rfl rfl
set_option maxRecDepth 100000 in
theorem mlX11_410 : Cond.methodLink RX11 410 yX11_sumsAll ∈ hc_T := hc_in7 (i := 14) (w := Cond.methodLink RX11 410 yX11_sumsAll) rfl rfl
set_option maxRecDepth 100000 in
theorem mlX11_413 : Cond.methodLink RX11 413 yX11_divides ∈ hc_T := hc_in7 (i := 22) (w := Cond.methodLink RX11 413 yX11_divides) rfl rfl
set_option maxRecDepth 100000 in
theorem klX11_417 : Cond.constantLong RX11 417 (2) ∈ hc_T := hc_in7 (i := 26) (w := Cond.constantLong RX11 417 (2)) rfl rfl
set_option maxRecDepth 100000 in
theorem mlX11_419 : Cond.methodLink RX11 419 yX11_calls ∈ hc_T := hc_in7 (i := 27) (w := Cond.methodLink RX11 419 yX11_calls) rfl rfl
set_option maxRecDepth 100000 in
theorem mlX11_422 : Cond.methodLink RX11 422 yX11_leaves ∈ hc_T := hc_in7 (i := 31) (w := Cond.methodLink RX11 422 yX11_leaves) rfl rfl
set_option maxRecDepth 100000 in
theorem klX11_425 : Cond.constantLong RX11 425 (4) ∈ hc_T := hc_in7 (i := 35) (w := Cond.constantLong RX11 425 (4)) rfl rfl
set_option maxRecDepth 100000 in
theorem klX11_427 : Cond.constantLong RX11 427 (5) ∈ hc_T := hc_in7 (i := 36) (w := Cond.constantLong RX11 427 (5)) rfl rfl
set_option maxRecDepth 100000 in
theorem mlX11_429 : Cond.methodLink RX11 429 yX11_membersThere ∈ hc_T := hc_in6 (i := 207) (w := Cond.methodLink RX11 429 yX11_membersThere) rfl rfl
set_option maxRecDepth 100000 in
theorem mlX11_432 : Cond.methodLink RX11 432 yX11_reckons ∈ hc_T := hc_in6 (i := 212) (w := Cond.methodLink RX11 432 yX11_reckons) rfl rfl
set_option maxRecDepth 100000 in
theorem klX11_435 : Cond.constantLong RX11 435 (9) ∈ hc_T := hc_in7 (i := 45) (w := Cond.constantLong RX11 435 (9)) rfl rfl
set_option maxRecDepth 100000 in
theorem klX11_437 : Cond.constantLong RX11 437 (10) ∈ hc_T := hc_in7 (i := 54) (w := Cond.constantLong RX11 437 (10)) rfl rfl
set_option maxRecDepth 100000 in
theorem klX11_439 : Cond.constantLong RX11 439 (-9223372036854775808) ∈ hc_T := hc_in7 (i := 59) (w := Cond.constantLong RX11 439 (-9223372036854775808)) rfl rfl
set_option maxRecDepth 100000 in
theorem klX11_441 : Cond.constantLong RX11 441 (11) ∈ hc_T := hc_in7 (i := 64) (w := Cond.constantLong RX11 441 (11)) rfl rfl
set_option maxRecDepth 100000 in
theorem mlX11_443 : Cond.methodLink RX11 443 yX11_losses ∈ hc_T := hc_in7 (i := 73) (w := Cond.methodLink RX11 443 yX11_losses) rfl rfl
set_option maxRecDepth 100000 in
theorem klX11_446 : Cond.constantLong RX11 446 (99999999) ∈ hc_T := hc_in7 (i := 85) (w := Cond.constantLong RX11 446 (99999999)) rfl rfl
set_option maxRecDepth 100000 in
theorem mlX11_448 : Cond.methodLink RX11 448 yX11_hazard ∈ hc_T := hc_in7 (i := 94) (w := Cond.methodLink RX11 448 yX11_hazard) rfl rfl
set_option maxRecDepth 100000 in
theorem klX11_450 : Cond.constantLong RX11 450 (3) ∈ hc_T := hc_in7 (i := 103) (w := Cond.constantLong RX11 450 (3)) rfl rfl
set_option maxRecDepth 100000 in
theorem flJ0_9 : Cond.fieldLink RJ0 9 "java/lang/String" "value" "[B" ∈ hc_T := hc_in7 (i := 108) (w := Cond.fieldLink RJ0 9 "java/lang/String" "value" "[B") rfl rfl
set_option maxRecDepth 100000 in
theorem flJ0_15 : Cond.fieldLink RJ0 15 "java/lang/String" "coder" "B" ∈ hc_T := hc_in7 (i := 109) (w := Cond.fieldLink RJ0 15 "java/lang/String" "coder" "B") rfl rfl
set_option maxRecDepth 100000 in
theorem flJ0_38 : Cond.fieldLink RJ0 38 "java/lang/String" "COMPACT_STRINGS" "Z" ∈ hc_T := hc_in1 (i := 175) (w := Cond.fieldLink RJ0 38 "java/lang/String" "COMPACT_STRINGS" "Z") rfl rfl
set_option maxRecDepth 100000 in
theorem mlJ0_335 : Cond.methodLink RJ0 335 yJ0_coder_7d493 ∈ hc_T := hc_in1 (i := 171) (w := Cond.methodLink RJ0 335 yJ0_coder_7d493) rfl rfl
set_option maxRecDepth 100000 in
theorem mlJ0_492 : Cond.methodLink RJ0 492 yJ0_isLatin1_aae02 ∈ hc_T := hc_in1 (i := 181) (w := Cond.methodLink RJ0 492 yJ0_isLatin1_aae02) rfl rfl
set_option maxRecDepth 100000 in
theorem mlJ0_495 : Cond.methodLink RJ0 495 yJ1_charAt_3b067 ∈ hc_T := hc_in1 (i := 185) (w := Cond.methodLink RJ0 495 yJ1_charAt_3b067) rfl rfl
set_option maxRecDepth 100000 in
theorem mlJ0_498 : Cond.methodLink RJ0 498 yJ2_charAt_3b067 ∈ hc_T := hc_in1 (i := 196) (w := Cond.methodLink RJ0 498 yJ2_charAt_3b067) rfl rfl
set_option maxRecDepth 100000 in
theorem flJ0_1053 : Cond.fieldLink RJ0 1053 "jdk/internal/util/Preconditions" "SIOOBE_FORMATTER" "Ljava/util/function/BiFunction;" ∈ hc_T := hc_in1 (i := 191) (w := Cond.fieldLink RJ0 1053 "jdk/internal/util/Preconditions" "SIOOBE_FORMATTER" "Ljava/util/function/BiFunction;") rfl rfl
set_option maxRecDepth 100000 in
theorem mlJ0_1059 : Cond.methodLink RJ0 1059 yJ3_checkIndex_8e157 ∈ hc_T := hc_in1 (i := 193) (w := Cond.methodLink RJ0 1059 yJ3_checkIndex_8e157) rfl rfl
set_option maxRecDepth 100000 in
theorem mlJ1_9 : Cond.methodLink RJ1 9 yJ0_checkIndex_df160 ∈ hc_T := hc_in1 (i := 188) (w := Cond.methodLink RJ1 9 yJ0_checkIndex_df160) rfl rfl
set_option maxRecDepth 100000 in
theorem flJ2_44 : Cond.fieldLink RJ2 44 "java/lang/StringUTF16" "$assertionsDisabled" "Z" ∈ hc_T := hc_in1 (i := 209) (w := Cond.fieldLink RJ2 44 "java/lang/StringUTF16" "$assertionsDisabled" "Z") rfl rfl
set_option maxRecDepth 100000 in
theorem mlJ2_48 : Cond.methodLink RJ2 48 yJ2_length_9d52b ∈ hc_T := hc_in1 (i := 202) (w := Cond.methodLink RJ2 48 yJ2_length_9d52b) rfl rfl
set_option maxRecDepth 100000 in
theorem flJ2_59 : Cond.fieldLink RJ2 59 "java/lang/StringUTF16" "HI_BYTE_SHIFT" "I" ∈ hc_T := hc_in1 (i := 211) (w := Cond.fieldLink RJ2 59 "java/lang/StringUTF16" "HI_BYTE_SHIFT" "I") rfl rfl
set_option maxRecDepth 100000 in
theorem flJ2_63 : Cond.fieldLink RJ2 63 "java/lang/StringUTF16" "LO_BYTE_SHIFT" "I" ∈ hc_T := hc_in1 (i := 213) (w := Cond.fieldLink RJ2 63 "java/lang/StringUTF16" "LO_BYTE_SHIFT" "I") rfl rfl
set_option maxRecDepth 100000 in
theorem mlJ2_67 : Cond.methodLink RJ2 67 yJ2_checkIndex_2214a ∈ hc_T := hc_in1 (i := 199) (w := Cond.methodLink RJ2 67 yJ2_checkIndex_2214a) rfl rfl
set_option maxRecDepth 100000 in
theorem mlJ2_71 : Cond.methodLink RJ2 71 yJ2_getChar_3b067 ∈ hc_T := hc_in1 (i := 206) (w := Cond.methodLink RJ2 71 yJ2_getChar_3b067) rfl rfl
set_option maxRecDepth 100000 in
theorem mlJ2_414 : Cond.methodLink RJ2 414 yJ0_checkIndex_df160 ∈ hc_T := hc_in1 (i := 205) (w := Cond.methodLink RJ2 414 yJ0_checkIndex_df160) rfl rfl
set_option maxRecDepth 100000 in
theorem hc_oi : Cond.instanceMethod objectInit ∈ hc_T := hc_in1 (i := 25) (w := Cond.instanceMethod objectInit) rfl rfl
set_option maxRecDepth 100000 in
theorem hc_oc : Cond.code objectInit ⟨#[0xb1]⟩ 1 none ∈ hc_T := hc_in1 (i := 26) (w := Cond.code objectInit ⟨#[0xb1]⟩ 1 none) rfl rfl
set_option maxRecDepth 100000 in
theorem hc_acz : Cond.arrayClass .boolean ∈ hc_T := hc_in1 (i := 135) (w := Cond.arrayClass .boolean) rfl rfl
set_option maxRecDepth 100000 in
theorem hc_acb : Cond.arrayClass .byte ∈ hc_T := hc_in1 (i := 43) (w := Cond.arrayClass .byte) rfl rfl
set_option maxRecDepth 100000 in
theorem hc_aci : Cond.arrayClass .int ∈ hc_T := hc_in1 (i := 134) (w := Cond.arrayClass .int) rfl rfl
set_option maxRecDepth 100000 in
theorem hc_acl : Cond.arrayClass .long ∈ hc_T := hc_in1 (i := 133) (w := Cond.arrayClass .long) rfl rfl
theorem inX0 : ∀ w ∈ u_ws RX0 TX0 7, w ∈ hc_T := hc_subl (u_ws RX0 TX0 7) [408, 410, 412, 414, 416, 418, 420] (by decide +kernel) (by decide +kernel)
set_option maxRecDepth 100000 in
theorem insX0 : Cond.instantiable RX0 7 ∈ hc_T := hc_in2 (i := 59) (w := Cond.instantiable RX0 7) rfl rfl
set_option maxRecDepth 100000 in
theorem iniX0 : Cond.initialized RX0 ∈ hc_T := hc_in1 (i := 12) (w := Cond.initialized RX0) rfl rfl
theorem inX1 : ∀ w ∈ u_ws RX1 TX1 11, w ∈ hc_T := hc_subl (u_ws RX1 TX1 11) [446, 448, 450, 452, 454, 456, 458, 460, 462, 464, 466] (by decide +kernel) (by decide +kernel)
set_option maxRecDepth 100000 in
theorem insX1 : Cond.instantiable RX1 11 ∈ hc_T := hc_in2 (i := 90) (w := Cond.instantiable RX1 11) rfl rfl
set_option maxRecDepth 100000 in
theorem iniX1 : Cond.initialized RX1 ∈ hc_T := hc_in1 (i := 13) (w := Cond.initialized RX1) rfl rfl
theorem inX2 : ∀ w ∈ u_ws RX2 TX2 6, w ∈ hc_T := hc_subl (u_ws RX2 TX2 6) [631, 633, 635, 637, 639, 641] (by decide +kernel) (by decide +kernel)
set_option maxRecDepth 100000 in
theorem insX2 : Cond.instantiable RX2 6 ∈ hc_T := hc_in3 (i := 31) (w := Cond.instantiable RX2 6) rfl rfl
set_option maxRecDepth 100000 in
theorem iniX2 : Cond.initialized RX2 ∈ hc_T := hc_in1 (i := 16) (w := Cond.initialized RX2) rfl rfl
theorem inX3 : ∀ w ∈ u_ws RX3 TX3 3, w ∈ hc_T := hc_subl (u_ws RX3 TX3 3) [385, 387, 389] (by decide +kernel) (by decide +kernel)
set_option maxRecDepth 100000 in
theorem insX3 : Cond.instantiable RX3 3 ∈ hc_T := hc_in2 (i := 39) (w := Cond.instantiable RX3 3) rfl rfl
set_option maxRecDepth 100000 in
theorem iniX3 : Cond.initialized RX3 ∈ hc_T := hc_in1 (i := 11) (w := Cond.initialized RX3) rfl rfl
theorem inX4 : ∀ w ∈ u_ws RX4 TX4 3, w ∈ hc_T := hc_subl (u_ws RX4 TX4 3) [241, 243, 245] (by decide +kernel) (by decide +kernel)
set_option maxRecDepth 100000 in
theorem insX4 : Cond.instantiable RX4 3 ∈ hc_T := hc_in1 (i := 137) (w := Cond.instantiable RX4 3) rfl rfl
set_option maxRecDepth 100000 in
theorem iniX4 : Cond.initialized RX4 ∈ hc_T := hc_in1 (i := 4) (w := Cond.initialized RX4) rfl rfl
theorem inX5 : ∀ w ∈ u_ws RX5 TX5 11, w ∈ hc_T := hc_subl (u_ws RX5 TX5 11) [349, 351, 353, 355, 357, 359, 361, 363, 365, 367, 369] (by decide +kernel) (by decide +kernel)
set_option maxRecDepth 100000 in
theorem insX5 : Cond.instantiable RX5 11 ∈ hc_T := hc_in1 (i := 155) (w := Cond.instantiable RX5 11) rfl rfl
set_option maxRecDepth 100000 in
theorem iniX5 : Cond.initialized RX5 ∈ hc_T := hc_in1 (i := 5) (w := Cond.initialized RX5) rfl rfl
theorem inX6 : ∀ w ∈ u_ws RX6 TX6 15, w ∈ hc_T := hc_subl (u_ws RX6 TX6 15) [196, 198, 200, 202, 204, 206, 208, 210, 212, 214, 216, 218, 220, 222, 224] (by decide +kernel) (by decide +kernel)
set_option maxRecDepth 100000 in
theorem insX6 : Cond.instantiable RX6 15 ∈ hc_T := hc_in1 (i := 45) (w := Cond.instantiable RX6 15) rfl rfl
set_option maxRecDepth 100000 in
theorem iniX6 : Cond.initialized RX6 ∈ hc_T := hc_in1 (i := 3) (w := Cond.initialized RX6) rfl rfl
theorem inX7 : ∀ w ∈ u_ws RX7 TX7 5, w ∈ hc_T := hc_subl (u_ws RX7 TX7 5) [818, 820, 822, 824, 826] (by decide +kernel) (by decide +kernel)
set_option maxRecDepth 100000 in
theorem insX7 : Cond.instantiable RX7 5 ∈ hc_T := hc_in3 (i := 233) (w := Cond.instantiable RX7 5) rfl rfl
set_option maxRecDepth 100000 in
theorem iniX7 : Cond.initialized RX7 ∈ hc_T := hc_in1 (i := 18) (w := Cond.initialized RX7) rfl rfl
theorem inX8 : ∀ w ∈ u_ws RX8 TX8 2, w ∈ hc_T := hc_subl (u_ws RX8 TX8 2) [132, 134] (by decide +kernel) (by decide +kernel)
set_option maxRecDepth 100000 in
theorem insX8 : Cond.instantiable RX8 2 ∈ hc_T := hc_in1 (i := 28) (w := Cond.instantiable RX8 2) rfl rfl
set_option maxRecDepth 100000 in
theorem iniX8 : Cond.initialized RX8 ∈ hc_T := hc_in1 (i := 2) (w := Cond.initialized RX8) rfl rfl
theorem inX9 : ∀ w ∈ u_ws RX9 TX9 6, w ∈ hc_T := hc_subl (u_ws RX9 TX9 6) [323, 325, 327, 329, 331, 333] (by decide +kernel) (by decide +kernel)
set_option maxRecDepth 100000 in
theorem insX9 : Cond.instantiable RX9 6 ∈ hc_T := hc_in1 (i := 161) (w := Cond.instantiable RX9 6) rfl rfl
set_option maxRecDepth 100000 in
theorem iniX9 : Cond.initialized RX9 ∈ hc_T := hc_in1 (i := 6) (w := Cond.initialized RX9) rfl rfl
theorem inX10 : ∀ w ∈ u_ws RX10 TX10 9, w ∈ hc_T := hc_subl (u_ws RX10 TX10 9) [478, 480, 482, 484, 486, 488, 490, 492, 494] (by decide +kernel) (by decide +kernel)
set_option maxRecDepth 100000 in
theorem insX10 : Cond.instantiable RX10 9 ∈ hc_T := hc_in1 (i := 20) (w := Cond.instantiable RX10 9) rfl rfl
set_option maxRecDepth 100000 in
theorem iniX10 : Cond.initialized RX10 ∈ hc_T := hc_in1 (i := 1) (w := Cond.initialized RX10) rfl rfl
theorem inX11 : ∀ w ∈ u_ws RX11 TX11 44, w ∈ hc_T := hc_subl (u_ws RX11 TX11 44) [1172, 1174, 1176, 1178, 1180, 1182, 1184, 1186, 1188, 1190, 1192, 1194, 1196, 1198, 1200, 1202, 1204, 1206, 1208, 1210, 1212, 1214, 1216, 1218, 1220, 1222, 1224, 1226, 1228, 1230, 1232, 1234, 1236, 1238, 1240, 1242, 1244, 1246, 1248, 1250, 1252, 1254, 1256, 1258] (by decide +kernel) (by decide +kernel)
set_option maxRecDepth 100000 in
theorem insX11 : Cond.instantiable RX11 44 ∈ hc_T := hc_in5 (i := 60) (w := Cond.instantiable RX11 44) rfl rfl
set_option maxRecDepth 100000 in
theorem iniX11 : Cond.initialized RX11 ∈ hc_T := hc_in1 (i := 14) (w := Cond.initialized RX11) rfl rfl
