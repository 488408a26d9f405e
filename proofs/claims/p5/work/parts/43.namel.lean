theorem goodIn_pc {big : List Cond} (bs : List (List Cond)) (hb : big = bs.flatten) (ws : List Cond) (ps : List (Nat × List Nat)) (hp : ws = ps.flatMap (fun p => p.2.filterMap (fun i => ((bs[p.1]?).getD [])[i]?))) (h : ws.all goodWord = true) : GoodIn big ws := by
  intro w hw
  have h1 := List.all_eq_true.mp h w hw
  rw [hp] at hw
  obtain ⟨p, -, hw⟩ := List.mem_flatMap.mp hw
  obtain ⟨i, -, hi⟩ := List.mem_filterMap.mp hw
  have hm := List.mem_of_getElem? hi
  refine ⟨?_, good_of_word h1⟩
  rw [hb]
  cases hq : bs[p.1]? with
  | none => rw [hq] at hm; exact absurd hm (by intro z; cases z)
  | some b => rw [hq] at hm; exact List.mem_flatten.mpr ⟨b, List.mem_of_getElem? hq, hm⟩
def bsT : List (List Cond) := [k2_sels lw_privs, tables_1_1, tables_1_2, tables_1_3, tables_1_4, tables_1_5, tables_1_6]
theorem bsT_e : lw_tbl = bsT.flatten := by
  unfold lw_tbl bsT tables_1
  simp only [List.flatten_cons, List.flatten_nil, List.append_nil, List.append_assoc]
def wsL_law_r1 : List Cond := [Cond.classLink RL 7 RX6, Cond.instantiable RX6 15, Cond.initialized RX6, Cond.classLink RL 10 RX7, Cond.instantiable RX7 31, Cond.initialized RX7, Cond.methodLink RL 9 yX6_init, Cond.instanceMethod yX6_init, Cond.code yX6_init cX6_init 4 none, Cond.methodLink RX6 1 objectInit, Cond.instanceMethod objectInit, Cond.code objectInit ⟨#[0xb1]⟩ 1 none, Cond.classLink RX6 9 RX0, Cond.fieldLink RX6 11 "OneCloth" "ahead" "[LOneCloth$Bazaar;", Cond.classLink RX6 15 RX2, Cond.fieldLink RX6 17 "OneCloth" "sheets" "[LOneCloth$Sheet;", Cond.classLink RX6 21 RX3, Cond.fieldLink RX6 23 "OneCloth" "slots" "[LOneCloth$Slot;", Cond.arrayClass .int, Cond.fieldLink RX6 27 "OneCloth" "waiting" "[I", Cond.classLink RX6 31 RX5, Cond.instantiable RX5 5, Cond.initialized RX5, Cond.instantiable RX0 14]
def wsL_law_r2 : List Cond := [Cond.initialized RX0, Cond.instantiable RX2 3, Cond.initialized RX2, Cond.instantiable RX3 4, Cond.initialized RX3, Cond.fieldLink RX6 39 "OneCloth" "now" "LOneCloth$Bazaar;", Cond.fieldLink RX6 43 "OneCloth" "thought" "LOneCloth$Bazaar;", Cond.fieldLink RX6 46 "OneCloth" "image" "LOneCloth$Bazaar;", Cond.classLink RX6 49 RX1, Cond.instantiable RX1 8, Cond.initialized RX1, Cond.fieldLink RX6 54 "OneCloth" "reader" "LOneCloth$Reader;", Cond.fieldLink RX6 58 "OneCloth" "texts" "[LOneCloth$Text;", Cond.fieldLink RX6 62 "OneCloth" "tape" "[I", Cond.instanceMethod yX5_init, Cond.code yX5_init cX5_init 1 none, Cond.methodLink RX5 3 objectInit, Cond.fieldLink RX5 9 "OneCloth$Text" "steps" "[I", Cond.fieldLink RX5 15 "OneCloth$Text" "stack" "[I", Cond.methodLink RX6 34 yX0_init, Cond.instanceMethod yX0_init, Cond.code yX0_init cX0_init 3 none, Cond.methodLink RX0 3 objectInit, Cond.classLink RX0 9 RX4]
def wsL_law_r3 : List Cond := [Cond.fieldLink RX0 11 "OneCloth$Bazaar" "stalls" "[LOneCloth$Stall;", Cond.constant RX0 17 (-1000000005), Cond.fieldLink RX0 18 "OneCloth$Bazaar" "counting" "[I", Cond.fieldLink RX0 22 "OneCloth$Bazaar" "width" "I", Cond.fieldLink RX0 26 "OneCloth$Bazaar" "gust" "I", Cond.fieldLink RX0 29 "OneCloth$Bazaar" "mode" "I", Cond.fieldLink RX0 32 "OneCloth$Bazaar" "z" "I", Cond.fieldLink RX0 35 "OneCloth$Bazaar" "texts" "[LOneCloth$Text;", Cond.instantiable RX4 4, Cond.initialized RX4, Cond.instanceMethod yX4_init, Cond.code yX4_init cX4_init 1 none, Cond.methodLink RX4 3 objectInit, Cond.instanceMethod yX2_init, Cond.code yX2_init cX2_init 1 none, Cond.methodLink RX2 3 objectInit, Cond.fieldLink RX2 9 "OneCloth$Sheet" "sort" "I", Cond.fieldLink RX2 15 "OneCloth$Sheet" "values" "[I", Cond.instanceMethod yX3_init, Cond.code yX3_init cX3_init 1 none, Cond.methodLink RX3 3 objectInit, Cond.fieldLink RX3 9 "OneCloth$Slot" "thing" "I", Cond.classLink RX3 15 RX4, Cond.fieldLink RX3 18 "OneCloth$Slot" "stall" "LOneCloth$Stall;"]
def wsL_law_r4 : List Cond := [Cond.classLink RX3 22 RX2, Cond.fieldLink RX3 25 "OneCloth$Slot" "sheet" "LOneCloth$Sheet;", Cond.methodLink RX6 51 yX1_init, Cond.instanceMethod yX1_init, Cond.code yX1_init cX1_init 2 none, Cond.methodLink RX1 3 objectInit, Cond.classLink RX1 9 RX5, Cond.fieldLink RX1 12 "OneCloth$Reader" "draft" "LOneCloth$Text;", Cond.fieldLink RX1 18 "OneCloth$Reader" "tape" "[I", Cond.methodLink RL 12 yX7_init, Cond.instanceMethod yX7_init, Cond.code yX7_init cX7_init 2 none, Cond.methodLink RX7 1 objectInit, Cond.fieldLink RX7 7 "OneClothModel" "s" "[I", Cond.fieldLink RX7 13 "OneClothModel" "image" "[I", Cond.fieldLink RX7 16 "OneClothModel" "aside" "[I", Cond.fieldLink RX7 19 "OneClothModel" "tSort" "[I", Cond.fieldLink RX7 22 "OneClothModel" "tSize" "[I", Cond.fieldLink RX7 25 "OneClothModel" "tNumber" "[I", Cond.fieldLink RX7 28 "OneClothModel" "held" "[I", Cond.fieldLink RX7 31 "OneClothModel" "heldNumber" "[I", Cond.fieldLink RX7 34 "OneClothModel" "heldWorth" "[I", Cond.fieldLink RX7 37 "OneClothModel" "heldSize" "[I", Cond.fieldLink RX7 40 "OneClothModel" "heldRow" "[I"]
def wsL_law_r5 : List Cond := [Cond.fieldLink RX7 43 "OneClothModel" "close" "[I", Cond.fieldLink RX7 46 "OneClothModel" "tape" "[I", Cond.fieldLink RX7 49 "OneClothModel" "named" "[I", Cond.fieldLink RX7 52 "OneClothModel" "pile" "[I", Cond.fieldLink RX7 55 "OneClothModel" "carried" "[I", Cond.fieldLink RX7 58 "OneClothModel" "waits" "[I", Cond.fieldLink RX7 61 "OneClothModel" "rowDue" "[I", Cond.methodLink RL 13 yX6_stall, Cond.instanceMethod yX6_stall, Cond.selects RX6 yX6_stall yX6_stall, Cond.code yX6_stall cX6_stall 4 (some .int), Cond.constant RX6 69 (-1000000001), Cond.fieldLink RX6 70 "OneCloth$Bazaar" "stallCount" "I", Cond.constant RX6 74 (-1000000003), Cond.methodLink RX6 65 yX6_within, Cond.static yX6_within, Cond.code yX6_within cX6_within 3 (some .boolean), Cond.methodLink RX6 75 yX0_open, Cond.instanceMethod yX0_open, Cond.selects RX0 yX0_open yX0_open, Cond.code yX0_open cX0_open 5 (some .int), Cond.fieldLink RX0 40 "OneCloth$Bazaar" "stallCount" "I", Cond.constant RX0 65 (-1000000003), Cond.fieldLink RX0 66 "OneCloth$Stall" "kind" "I"]
def wsL_law_r6 : List Cond := [Cond.fieldLink RX0 69 "OneCloth$Stall" "place" "I", Cond.fieldLink RX0 72 "OneCloth$Stall" "goods" "I", Cond.fieldLink RX0 75 "OneCloth$Stall" "pay" "I", Cond.methodLink RL 17 yX7_stall, Cond.instanceMethod yX7_stall, Cond.selects RX7 yX7_stall yX7_stall, Cond.code yX7_stall cX7_stall 4 (some .int), Cond.constantLong RX7 74 (5), Cond.constantLong RX7 76 (11), Cond.constantLong RX7 78 (99), Cond.constant RX7 80 (-1000000001), Cond.constant RX7 81 (-1000000003), Cond.methodLink RX7 65 yX7_isIn, Cond.static yX7_isIn, Cond.code yX7_isIn cX7_isIn 6 (some .boolean), Cond.methodLink RX7 82 yX7_comes, Cond.instanceMethod yX7_comes, Cond.selects RX7 yX7_comes yX7_comes, Cond.code yX7_comes cX7_comes 5 none, Cond.methodLink RX7 70 yX7_sets, Cond.instanceMethod yX7_sets, Cond.selects RX7 yX7_sets yX7_sets, Cond.code yX7_sets cX7_sets 4 none, Cond.methodLink RL 18 yX6_told]
def wsL_law_r7 : List Cond := [Cond.instanceMethod yX6_told, Cond.selects RX6 yX6_told yX6_told, Cond.code yX6_told cX6_told 4 (some .int), Cond.fieldLink RX6 83 "OneCloth$Bazaar" "stalls" "[LOneCloth$Stall;", Cond.fieldLink RX6 87 "OneCloth$Stall" "kind" "I", Cond.fieldLink RX6 92 "OneCloth$Stall" "place" "I", Cond.fieldLink RX6 95 "OneCloth$Stall" "goods" "I", Cond.fieldLink RX6 98 "OneCloth$Stall" "pay" "I", Cond.methodLink RX6 79 yX6_isStall, Cond.instanceMethod yX6_isStall, Cond.selects RX6 yX6_isStall yX6_isStall, Cond.code yX6_isStall cX6_isStall 2 (some .boolean), Cond.methodLink RX6 101 yX0_lossOf, Cond.instanceMethod yX0_lossOf, Cond.selects RX0 yX0_lossOf yX0_lossOf, Cond.code yX0_lossOf cX0_lossOf 3 (some .int), Cond.methodLink RX0 134 Lib.Math.min.name, Cond.static Lib.Math.min.name, Cond.initialized "java/lang/Math", Cond.code Lib.Math.min.name Lib.Math.min.code 2 (some .int), Cond.methodLink RX0 105 yX0_shades, Cond.instanceMethod yX0_shades, Cond.selects RX0 yX0_shades yX0_shades, Cond.code yX0_shades cX0_shades 2 (some .boolean)]
def wsL_law_r8 : List Cond := [Cond.fieldLink RX0 50 "OneCloth$Bazaar" "first" "I", Cond.methodLink RX0 97 yX0_wouldShade, Cond.instanceMethod yX0_wouldShade, Cond.selects RX0 yX0_wouldShade yX0_wouldShade, Cond.code yX0_wouldShade cX0_wouldShade 4 (some .boolean), Cond.methodLink RX0 101 yX0_slant, Cond.instanceMethod yX0_slant, Cond.selects RX0 yX0_slant yX0_slant, Cond.code yX0_slant cX0_slant 1 (some .int), Cond.fieldLink RX0 53 "OneCloth$Bazaar" "hour" "I", Cond.methodLink RX0 124 yX4_shadeLoss, Cond.instanceMethod yX4_shadeLoss, Cond.selects RX4 yX4_shadeLoss yX4_shadeLoss, Cond.code yX4_shadeLoss cX4_shadeLoss 1 (some .int), Cond.fieldLink RX4 9 "OneCloth$Stall" "kind" "I", Cond.methodLink RX0 127 yX0_plainLoss, Cond.instanceMethod yX0_plainLoss, Cond.selects RX0 yX0_plainLoss yX0_plainLoss, Cond.code yX0_plainLoss cX0_plainLoss 3 (some .int), Cond.methodLink RX0 138 yX0_heat, Cond.instanceMethod yX0_heat, Cond.selects RX0 yX0_heat yX0_heat, Cond.code yX0_heat cX0_heat 1 (some .int), Cond.methodLink RX0 91 Lib.Math.abs.name]
def wsL_law_r9 : List Cond := [Cond.static Lib.Math.abs.name, Cond.code Lib.Math.abs.name Lib.Math.abs.code 1 (some .int), Cond.methodLink RX0 141 yX5_workOut, Cond.instanceMethod yX5_workOut, Cond.selects RX5 yX5_workOut yX5_workOut, Cond.code yX5_workOut cX5_workOut 7 (some .int), Cond.fieldLink RX5 25 "OneCloth$Text" "length" "I", Cond.methodLink RX5 38 yX5_joined, Cond.static yX5_joined, Cond.code yX5_joined cX5_joined 3 (some .int), Cond.static yX6_held, Cond.code yX6_held cX6_held 3 (some .int), Cond.methodLink RX6 167 Lib.Math.min.name, Cond.methodLink RX6 344 Lib.Math.max.name, Cond.static Lib.Math.max.name, Cond.code Lib.Math.max.name Lib.Math.max.code 2 (some .int), Cond.methodLink RX0 131 yX4_sunLoss, Cond.instanceMethod yX4_sunLoss, Cond.selects RX4 yX4_sunLoss yX4_sunLoss, Cond.code yX4_sunLoss cX4_sunLoss 2 (some .int), Cond.methodLink RX6 105 yX0_shades, Cond.methodLink RX6 108 yX4_worth, Cond.instanceMethod yX4_worth, Cond.selects RX4 yX4_worth yX4_worth]
def wsL_law_r10 : List Cond := [Cond.code yX4_worth cX4_worth 1 (some .int), Cond.fieldLink RX4 21 "OneCloth$Stall" "pay" "I", Cond.methodLink RL 22 yX7_told, Cond.instanceMethod yX7_told, Cond.selects RX7 yX7_told yX7_told, Cond.code yX7_told cX7_told 3 (some .int), Cond.methodLink RX7 116 yX7_isStall, Cond.instanceMethod yX7_isStall, Cond.selects RX7 yX7_isStall yX7_isStall, Cond.code yX7_isStall cX7_isStall 2 (some .boolean), Cond.methodLink RX7 85 yX7_of, Cond.instanceMethod yX7_of, Cond.selects RX7 yX7_of yX7_of, Cond.code yX7_of cX7_of 3 (some .int), Cond.methodLink RX7 119 yX7_spoils, Cond.instanceMethod yX7_spoils, Cond.selects RX7 yX7_spoils yX7_spoils, Cond.code yX7_spoils cX7_spoils 3 (some .int), Cond.methodLink RX7 109 yX7_isShaded, Cond.instanceMethod yX7_isShaded, Cond.selects RX7 yX7_isShaded yX7_isShaded, Cond.code yX7_isShaded cX7_isShaded 2 (some .boolean), Cond.methodLink RX7 89 yX7_shadeFrom, Cond.instanceMethod yX7_shadeFrom]
def wsL_law_r11 : List Cond := [Cond.selects RX7 yX7_shadeFrom yX7_shadeFrom, Cond.code yX7_shadeFrom cX7_shadeFrom 1 (some .int), Cond.methodLink RX7 113 yX7_melts, Cond.instanceMethod yX7_melts, Cond.selects RX7 yX7_melts yX7_melts, Cond.code yX7_melts cX7_melts 3 (some .int), Cond.methodLink RX7 96 yX7_counts, Cond.instanceMethod yX7_counts, Cond.selects RX7 yX7_counts yX7_counts, Cond.code yX7_counts cX7_counts 4 (some .int), Cond.methodLink RX7 271 yX7_textAt, Cond.instanceMethod yX7_textAt, Cond.selects RX7 yX7_textAt yX7_textAt, Cond.code yX7_textAt cX7_textAt 2 (some .int), Cond.methodLink RX7 100 yX7_heat, Cond.instanceMethod yX7_heat, Cond.selects RX7 yX7_heat yX7_heat, Cond.code yX7_heat cX7_heat 1 (some .int), Cond.methodLink RX7 93 yX7_off, Cond.static yX7_off, Cond.code yX7_off cX7_off 2 (some .int), Cond.methodLink RX7 103 yX7_worked, Cond.instanceMethod yX7_worked, Cond.selects RX7 yX7_worked yX7_worked]
def wsL_law_r12 : List Cond := [Cond.code yX7_worked cX7_worked 6 (some .int), Cond.methodLink RX7 285 yX7_joined, Cond.static yX7_joined, Cond.code yX7_joined cX7_joined 3 (some .int), Cond.methodLink RX7 106 yX7_within, Cond.static yX7_within, Cond.code yX7_within cX7_within 2 (some .int), Cond.methodLink RX7 122 yX7_worth, Cond.instanceMethod yX7_worth, Cond.selects RX7 yX7_worth yX7_worth, Cond.code yX7_worth cX7_worth 3 (some .int), Cond.methodLink RL 23 yX6_as, Cond.instanceMethod yX6_as, Cond.selects RX6 yX6_as yX6_as, Cond.code yX6_as cX6_as 4 (some .int), Cond.constant RX6 115 (-1000000012), Cond.methodLink RX6 112 yX4_isOf, Cond.instanceMethod yX4_isOf, Cond.selects RX4 yX4_isOf yX4_isOf, Cond.code yX4_isOf cX4_isOf 4 (some .boolean), Cond.methodLink RL 26 yX7_as, Cond.instanceMethod yX7_as, Cond.selects RX7 yX7_as yX7_as, Cond.code yX7_as cX7_as 3 (some .int)]
def wsL_law_r13 : List Cond := [Cond.constant RX7 129 (-1000000012), Cond.methodLink RX7 125 yX7_isOf, Cond.static yX7_isOf, Cond.code yX7_isOf cX7_isOf 2 (some .boolean), Cond.methodLink RL 27 yX6_turns, Cond.instanceMethod yX6_turns, Cond.selects RX6 yX6_turns yX6_turns, Cond.code yX6_turns cX6_turns 5 (some .int), Cond.methodLink RL 30 yX7_turns, Cond.instanceMethod yX7_turns, Cond.selects RX7 yX7_turns yX7_turns, Cond.code yX7_turns cX7_turns 3 (some .int), Cond.methodLink RX7 130 yX7_becomes, Cond.instanceMethod yX7_becomes, Cond.selects RX7 yX7_becomes yX7_becomes, Cond.code yX7_becomes cX7_becomes 4 (some .int), Cond.methodLink RL 31 yX6_set, Cond.instanceMethod yX6_set, Cond.selects RX6 yX6_set yX6_set, Cond.code yX6_set cX6_set 4 (some .int), Cond.methodLink RX6 116 yX6_setPlace, Cond.static yX6_setPlace, Cond.code yX6_setPlace cX6_setPlace 3 (some .int), Cond.methodLink RX6 120 yX6_setGoods]
def wsL_law_r14 : List Cond := [Cond.static yX6_setGoods, Cond.code yX6_setGoods cX6_setGoods 3 (some .int), Cond.methodLink RX6 123 yX6_setPay, Cond.static yX6_setPay, Cond.code yX6_setPay cX6_setPay 3 (some .int), Cond.methodLink RL 34 yX7_set, Cond.instanceMethod yX7_set, Cond.selects RX7 yX7_set yX7_set, Cond.code yX7_set cX7_set 4 (some .int), Cond.constantLong RX7 133 (3), Cond.constantLong RX7 135 (999), Cond.methodLink RL 35 yX6_cloth, Cond.instanceMethod yX6_cloth, Cond.selects RX6 yX6_cloth yX6_cloth, Cond.code yX6_cloth cX6_cloth 2 (some .int), Cond.fieldLink RX6 126 "OneCloth$Bazaar" "first" "I", Cond.fieldLink RX6 129 "OneCloth$Bazaar" "width" "I", Cond.fieldLink RX6 132 "OneCloth$Bazaar" "gust" "I", Cond.fieldLink RX6 135 "OneCloth$Bazaar" "mode" "I", Cond.methodLink RX6 138 yX0_heat, Cond.methodLink RX6 141 yX0_firstShaded, Cond.instanceMethod yX0_firstShaded, Cond.selects RX0 yX0_firstShaded yX0_firstShaded, Cond.code yX0_firstShaded cX0_firstShaded 2 (some .int)]
def wsL_law_r15 : List Cond := [Cond.methodLink RX6 144 yX0_shadedSet, Cond.instanceMethod yX0_shadedSet, Cond.selects RX0 yX0_shadedSet yX0_shadedSet, Cond.code yX0_shadedSet cX0_shadedSet 3 (some .int), Cond.methodLink RL 39 yX7_cloth, Cond.instanceMethod yX7_cloth, Cond.selects RX7 yX7_cloth yX7_cloth, Cond.code yX7_cloth cX7_cloth 2 (some .int), Cond.methodLink RX7 137 yX7_firstShaded, Cond.instanceMethod yX7_firstShaded, Cond.selects RX7 yX7_firstShaded yX7_firstShaded, Cond.code yX7_firstShaded cX7_firstShaded 2 (some .int), Cond.methodLink RX7 140 yX7_orNone, Cond.static yX7_orNone, Cond.code yX7_orNone cX7_orNone 1 (some .int), Cond.constant RX7 64 (-1000000005), Cond.methodLink RX7 143 yX7_shadedSet, Cond.instanceMethod yX7_shadedSet, Cond.selects RX7 yX7_shadedSet yX7_shadedSet, Cond.code yX7_shadedSet cX7_shadedSet 3 (some .int), Cond.methodLink RL 40 yX6_rule, Cond.instanceMethod yX6_rule, Cond.selects RX6 yX6_rule yX6_rule, Cond.code yX6_rule cX6_rule 3 (some .int)]
def wsL_law_r16 : List Cond := [Cond.methodLink RX6 147 yX6_ruleFirst, Cond.instanceMethod yX6_ruleFirst, Cond.selects RX6 yX6_ruleFirst yX6_ruleFirst, Cond.code yX6_ruleFirst cX6_ruleFirst 3 (some .int), Cond.methodLink RX6 160 yX0_lastFirst, Cond.instanceMethod yX0_lastFirst, Cond.selects RX0 yX0_lastFirst yX0_lastFirst, Cond.code yX0_lastFirst cX0_lastFirst 1 (some .int), Cond.methodLink RX6 151 yX6_ruleWidth, Cond.instanceMethod yX6_ruleWidth, Cond.selects RX6 yX6_ruleWidth yX6_ruleWidth, Cond.code yX6_ruleWidth cX6_ruleWidth 3 (some .int), Cond.methodLink RX6 163 yX0_widen, Cond.instanceMethod yX0_widen, Cond.selects RX0 yX0_widen yX0_widen, Cond.code yX0_widen cX0_widen 2 none, Cond.methodLink RX0 117 yX0_lastFirst, Cond.methodLink RX6 154 yX6_ruleGust, Cond.instanceMethod yX6_ruleGust, Cond.selects RX6 yX6_ruleGust yX6_ruleGust, Cond.code yX6_ruleGust cX6_ruleGust 3 (some .int), Cond.methodLink RX6 157 yX6_ruleMode, Cond.instanceMethod yX6_ruleMode, Cond.selects RX6 yX6_ruleMode yX6_ruleMode]
def wsL_law_r17 : List Cond := [Cond.code yX6_ruleMode cX6_ruleMode 3 (some .int), Cond.methodLink RL 43 yX7_rule, Cond.instanceMethod yX7_rule, Cond.selects RX7 yX7_rule yX7_rule, Cond.code yX7_rule cX7_rule 4 (some .int), Cond.methodLink RX7 146 yX7_mostOf, Cond.instanceMethod yX7_mostOf, Cond.selects RX7 yX7_mostOf yX7_mostOf, Cond.code yX7_mostOf cX7_mostOf 2 (some .int), Cond.methodLink RX7 149 yX7_holds, Cond.instanceMethod yX7_holds, Cond.selects RX7 yX7_holds yX7_holds, Cond.code yX7_holds cX7_holds 1 none, Cond.methodLink RL 44 yX6_deal, Cond.instanceMethod yX6_deal, Cond.selects RX6 yX6_deal yX6_deal, Cond.code yX6_deal cX6_deal 7 (some .int), Cond.methodLink RX6 173 yX0_draw, Cond.instanceMethod yX0_draw, Cond.selects RX0 yX0_draw yX0_draw, Cond.code yX0_draw cX0_draw 1 (some .int), Cond.constant RX0 90 (1103515245), Cond.methodLink RL 47 yX7_deal, Cond.instanceMethod yX7_deal]
def wsL_law_r18 : List Cond := [Cond.selects RX7 yX7_deal yX7_deal, Cond.code yX7_deal cX7_deal 5 (some .int), Cond.constantLong RX7 152 (9), Cond.methodLink RX7 154 yX7_drawn, Cond.instanceMethod yX7_drawn, Cond.selects RX7 yX7_drawn yX7_drawn, Cond.code yX7_drawn cX7_drawn 1 (some .int), Cond.constant RX7 69 (1103515245), Cond.methodLink RL 48 yX6_seed, Cond.instanceMethod yX6_seed, Cond.selects RX6 yX6_seed yX6_seed, Cond.code yX6_seed cX6_seed 3 (some .int), Cond.fieldLink RX6 176 "OneCloth$Bazaar" "z" "I", Cond.methodLink RL 51 yX7_seed, Cond.instanceMethod yX7_seed, Cond.selects RX7 yX7_seed yX7_seed, Cond.code yX7_seed cX7_seed 2 (some .int), Cond.methodLink RL 52 yX6_hours, Cond.instanceMethod yX6_hours, Cond.selects RX6 yX6_hours yX6_hours, Cond.code yX6_hours cX6_hours 5 (some .int), Cond.fieldLink RX6 179 "OneCloth$Bazaar" "spoilt" "I", Cond.fieldLink RX6 182 "OneCloth$Bazaar" "hour" "I", Cond.methodLink RX6 185 yX0_hauling]
def wsL_law_r19 : List Cond := [Cond.instanceMethod yX0_hauling, Cond.selects RX0 yX0_hauling yX0_hauling, Cond.code yX0_hauling cX0_hauling 1 (some .int), Cond.methodLink RX0 144 yX0_haulingByLoss, Cond.instanceMethod yX0_haulingByLoss, Cond.selects RX0 yX0_haulingByLoss yX0_haulingByLoss, Cond.code yX0_haulingByLoss cX0_haulingByLoss 6 (some .int), Cond.methodLink RX0 150 yX0_lossOf, Cond.methodLink RX0 147 yX0_haulingByPay, Cond.instanceMethod yX0_haulingByPay, Cond.selects RX0 yX0_haulingByPay yX0_haulingByPay, Cond.code yX0_haulingByPay cX0_haulingByPay 5 (some .int), Cond.methodLink RX0 153 yX0_hauledTo, Cond.instanceMethod yX0_hauledTo, Cond.selects RX0 yX0_hauledTo yX0_hauledTo, Cond.code yX0_hauledTo cX0_hauledTo 2 (some .int), Cond.methodLink RX0 159 Lib.Math.max.name, Cond.methodLink RX0 156 yX0_payUnder, Cond.instanceMethod yX0_payUnder, Cond.selects RX0 yX0_payUnder yX0_payUnder, Cond.code yX0_payUnder cX0_payUnder 4 (some .int), Cond.methodLink RX6 188 yX0_passHour, Cond.instanceMethod yX0_passHour, Cond.selects RX0 yX0_passHour yX0_passHour]
def wsL_law_r20 : List Cond := [Cond.code yX0_passHour cX0_passHour 5 none, Cond.fieldLink RX0 59 "OneCloth$Bazaar" "spoilt" "I", Cond.fieldLink RX0 56 "OneCloth$Bazaar" "coins" "I", Cond.methodLink RX0 162 yX0_blow, Cond.instanceMethod yX0_blow, Cond.selects RX0 yX0_blow yX0_blow, Cond.code yX0_blow cX0_blow 2 none, Cond.fieldLink RX0 62 "OneCloth$Bazaar" "torn" "I", Cond.methodLink RX0 165 yX0_draw, Cond.methodLink RL 55 yX7_hours, Cond.instanceMethod yX7_hours, Cond.selects RX7 yX7_hours yX7_hours, Cond.code yX7_hours cX7_hours 4 (some .int), Cond.constantLong RX7 170 (100), Cond.methodLink RX7 172 yX7_goesOn, Cond.instanceMethod yX7_goesOn, Cond.selects RX7 yX7_goesOn yX7_goesOn, Cond.code yX7_goesOn cX7_goesOn 1 none, Cond.methodLink RX7 163 yX7_hauls, Cond.instanceMethod yX7_hauls, Cond.selects RX7 yX7_hauls yX7_hauls, Cond.code yX7_hauls cX7_hauls 4 (some .int), Cond.methodLink RX7 160 yX7_payIf, Cond.instanceMethod yX7_payIf]
def wsL_law_r21 : List Cond := [Cond.selects RX7 yX7_payIf yX7_payIf, Cond.code yX7_payIf cX7_payIf 4 (some .int), Cond.methodLink RX7 157 yX7_payNow, Cond.instanceMethod yX7_payNow, Cond.selects RX7 yX7_payNow yX7_payNow, Cond.code yX7_payNow cX7_payNow 3 (some .int), Cond.methodLink RX7 166 yX7_goesOnBy, Cond.instanceMethod yX7_goesOnBy, Cond.selects RX7 yX7_goesOnBy yX7_goesOnBy, Cond.code yX7_goesOnBy cX7_goesOnBy 4 none, Cond.methodLink RL 56 yX6_book, Cond.instanceMethod yX6_book, Cond.selects RX6 yX6_book yX6_book, Cond.code yX6_book cX6_book 2 (some .int), Cond.fieldLink RX6 191 "OneCloth$Bazaar" "coins" "I", Cond.fieldLink RX6 194 "OneCloth$Bazaar" "torn" "I", Cond.methodLink RX6 197 yX0_allGoods, Cond.instanceMethod yX0_allGoods, Cond.selects RX0 yX0_allGoods yX0_allGoods, Cond.code yX0_allGoods cX0_allGoods 3 (some .int), Cond.methodLink RL 59 yX7_book, Cond.instanceMethod yX7_book, Cond.selects RX7 yX7_book yX7_book, Cond.code yX7_book cX7_book 4 (some .int)]
def wsL_law_r22 : List Cond := [Cond.methodLink RL 60 yX6_behind, Cond.instanceMethod yX6_behind, Cond.selects RX6 yX6_behind yX6_behind, Cond.code yX6_behind cX6_behind 3 (some .int), Cond.methodLink RX6 200 yX0_takeOver, Cond.instanceMethod yX0_takeOver, Cond.selects RX0 yX0_takeOver yX0_takeOver, Cond.code yX0_takeOver cX0_takeOver 3 none, Cond.fieldLink RX0 47 "OneCloth$Bazaar" "textCount" "I", Cond.methodLink RX0 43 yX4_takeOver, Cond.instanceMethod yX4_takeOver, Cond.selects RX4 yX4_takeOver yX4_takeOver, Cond.code yX4_takeOver cX4_takeOver 2 none, Cond.fieldLink RX4 15 "OneCloth$Stall" "place" "I", Cond.fieldLink RX4 18 "OneCloth$Stall" "goods" "I", Cond.methodLink RX6 204 yX6_thinkOn, Cond.instanceMethod yX6_thinkOn, Cond.selects RX6 yX6_thinkOn yX6_thinkOn, Cond.code yX6_thinkOn cX6_thinkOn 3 none, Cond.methodLink RL 63 yX7_behind, Cond.instanceMethod yX7_behind, Cond.selects RX7 yX7_behind yX7_behind, Cond.code yX7_behind cX7_behind 4 (some .int), Cond.methodLink RX7 175 yX7_laysBy]
def wsL_law_r23 : List Cond := [Cond.instanceMethod yX7_laysBy, Cond.selects RX7 yX7_laysBy yX7_laysBy, Cond.code yX7_laysBy cX7_laysBy 2 none, Cond.methodLink RX7 178 yX7_goesOnMany, Cond.instanceMethod yX7_goesOnMany, Cond.selects RX7 yX7_goesOnMany yX7_goesOnMany, Cond.code yX7_goesOnMany cX7_goesOnMany 3 none, Cond.methodLink RX7 181 yX7_laysBack, Cond.instanceMethod yX7_laysBack, Cond.selects RX7 yX7_laysBack yX7_laysBack, Cond.code yX7_laysBack cX7_laysBack 2 none, Cond.methodLink RL 64 yX6_goods, Cond.instanceMethod yX6_goods, Cond.selects RX6 yX6_goods yX6_goods, Cond.code yX6_goods cX6_goods 3 (some .int), Cond.methodLink RL 67 yX7_goods, Cond.instanceMethod yX7_goods, Cond.selects RX7 yX7_goods yX7_goods, Cond.code yX7_goods cX7_goods 4 (some .int), Cond.methodLink RL 68 yX6_best, Cond.instanceMethod yX6_best, Cond.selects RX6 yX6_best yX6_best, Cond.code yX6_best cX6_best 3 (some .int), Cond.constant RX6 207 (2147483647)]
def wsL_law_r24 : List Cond := [Cond.fieldLink RX6 208 "OneCloth" "leastSpoilt" "I", Cond.fieldLink RX6 211 "OneCloth" "leastDigits" "I", Cond.methodLink RX6 214 yX6_tryHaulings, Cond.instanceMethod yX6_tryHaulings, Cond.selects RX6 yX6_tryHaulings yX6_tryHaulings, Cond.code yX6_tryHaulings cX6_tryHaulings 6 none, Cond.methodLink RL 71 yX7_best, Cond.instanceMethod yX7_best, Cond.selects RX7 yX7_best yX7_best, Cond.code yX7_best cX7_best 9 (some .int), Cond.methodLink RL 72 yX6_wider, Cond.instanceMethod yX6_wider, Cond.selects RX6 yX6_wider yX6_wider, Cond.code yX6_wider cX6_wider 4 (some .int), Cond.constant RX6 218 (-1000000005), Cond.methodLink RL 75 yX7_wider, Cond.instanceMethod yX7_wider, Cond.selects RX7 yX7_wider yX7_wider, Cond.code yX7_wider cX7_wider 5 (some .int), Cond.constantLong RX7 184 (9999), Cond.constantLong RX7 186 (60), Cond.methodLink RL 76 yX6_shaded, Cond.instanceMethod yX6_shaded, Cond.selects RX6 yX6_shaded yX6_shaded]
def wsL_law_r25 : List Cond := [Cond.code yX6_shaded cX6_shaded 7 (some .int), Cond.methodLink RX6 219 yX0_hauledTo, Cond.methodLink RX6 222 yX0_wouldShade, Cond.methodLink RL 79 yX7_shaded, Cond.instanceMethod yX7_shaded, Cond.selects RX7 yX7_shaded yX7_shaded, Cond.code yX7_shaded cX7_shaded 7 (some .int), Cond.methodLink RL 80 yX6_without, Cond.instanceMethod yX6_without, Cond.selects RX6 yX6_without yX6_without, Cond.code yX6_without cX6_without 6 (some .int), Cond.methodLink RL 83 yX7_without, Cond.instanceMethod yX7_without, Cond.selects RX7 yX7_without yX7_without, Cond.code yX7_without cX7_without 7 (some .int), Cond.methodLink RL 84 yX6_whose, Cond.instanceMethod yX6_whose, Cond.selects RX6 yX6_whose yX6_whose, Cond.code yX6_whose cX6_whose 8 (some .int), Cond.constant RX6 233 (-1000000011), Cond.methodLink RX6 226 yX6_isSheet, Cond.static yX6_isSheet, Cond.code yX6_isSheet cX6_isSheet 1 (some .boolean), Cond.methodLink RX6 229 yX2_isMissing]
def wsL_law_r26 : List Cond := [Cond.instanceMethod yX2_isMissing, Cond.selects RX2 yX2_isMissing yX2_isMissing, Cond.code yX2_isMissing cX2_isMissing 1 (some .boolean), Cond.methodLink RX6 234 yX0_differencesFrom, Cond.instanceMethod yX0_differencesFrom, Cond.selects RX0 yX0_differencesFrom yX0_differencesFrom, Cond.code yX0_differencesFrom cX0_differencesFrom 4 (some .int), Cond.fieldLink RX0 114 "OneCloth$Sheet" "values" "[I", Cond.methodLink RX0 109 yX2_hasNumber, Cond.instanceMethod yX2_hasNumber, Cond.selects RX2 yX2_hasNumber yX2_hasNumber, Cond.code yX2_hasNumber cX2_hasNumber 2 (some .boolean), Cond.constant RX2 40 (-1000000005), Cond.methodLink RX2 36 yX2_hasPlace, Cond.instanceMethod yX2_hasPlace, Cond.selects RX2 yX2_hasPlace yX2_hasPlace, Cond.code yX2_hasPlace cX2_hasPlace 2 (some .boolean), Cond.fieldLink RX2 23 "OneCloth$Sheet" "length" "I", Cond.methodLink RL 87 yX7_whose, Cond.instanceMethod yX7_whose, Cond.selects RX7 yX7_whose yX7_whose, Cond.code yX7_whose cX7_whose 10 (some .int), Cond.constant RX7 295 (-1000000011), Cond.methodLink RX7 289 yX7_isSheet]
def wsL_law_r27 : List Cond := [Cond.static yX7_isSheet, Cond.code yX7_isSheet cX7_isSheet 1 (some .boolean), Cond.methodLink RL 88 yX6_fee, Cond.instanceMethod yX6_fee, Cond.selects RX6 yX6_fee yX6_fee, Cond.code yX6_fee cX6_fee 2 (some .int), Cond.fieldLink RX6 238 "OneCloth$Bazaar" "counting" "[I", Cond.methodLink RX6 241 yX5_workOut, Cond.methodLink RL 92 yX7_fee, Cond.instanceMethod yX7_fee, Cond.selects RX7 yX7_fee yX7_fee, Cond.code yX7_fee cX7_fee 2 (some .int), Cond.methodLink RL 93 yX6_fine, Cond.instanceMethod yX6_fine, Cond.selects RX6 yX6_fine yX6_fine, Cond.code yX6_fine cX6_fine 4 (some .int), Cond.methodLink RL 96 yX7_fine, Cond.instanceMethod yX7_fine, Cond.selects RX7 yX7_fine yX7_fine, Cond.code yX7_fine cX7_fine 3 (some .int), Cond.methodLink RL 97 yX6_feed, Cond.instanceMethod yX6_feed, Cond.selects RX6 yX6_feed yX6_feed, Cond.code yX6_feed cX6_feed 4 (some .int)]
def wsL_law_r28 : List Cond := [Cond.fieldLink RX6 244 "OneCloth" "tapeLength" "I", Cond.methodLink RX6 247 yX6_feedBytes, Cond.instanceMethod yX6_feedBytes, Cond.selects RX6 yX6_feedBytes yX6_feedBytes, Cond.code yX6_feedBytes cX6_feedBytes 3 none, Cond.methodLink RL 100 yX7_feed, Cond.instanceMethod yX7_feed, Cond.selects RX7 yX7_feed yX7_feed, Cond.code yX7_feed cX7_feed 6 (some .int), Cond.fieldLink RX7 188 "OneClothModel" "taped" "I", Cond.methodLink RL 101 yX6_trim, Cond.instanceMethod yX6_trim, Cond.selects RX6 yX6_trim yX6_trim, Cond.code yX6_trim cX6_trim 2 (some .int), Cond.methodLink RL 104 yX7_trim, Cond.instanceMethod yX7_trim, Cond.selects RX7 yX7_trim yX7_trim, Cond.code yX7_trim cX7_trim 2 (some .int), Cond.methodLink RL 105 yX6_text, Cond.instanceMethod yX6_text, Cond.selects RX6 yX6_text yX6_text, Cond.code yX6_text cX6_text 2 (some .int), Cond.fieldLink RX6 253 "OneCloth$Bazaar" "textCount" "I", Cond.fieldLink RX6 256 "OneCloth$Reader" "draft" "LOneCloth$Text;"]
def wsL_law_r29 : List Cond := [Cond.methodLink RX6 250 yX1_readText, Cond.instanceMethod yX1_readText, Cond.selects RX1 yX1_readText yX1_readText, Cond.code yX1_readText cX1_readText 3 (some .int), Cond.fieldLink RX1 26 "OneCloth$Reader" "tapeLength" "I", Cond.fieldLink RX1 30 "OneCloth$Reader" "sort" "I", Cond.fieldLink RX1 33 "OneCloth$Reader" "end" "I", Cond.fieldLink RX1 36 "OneCloth$Reader" "openBrackets" "I", Cond.fieldLink RX1 39 "OneCloth$Reader" "openNots" "I", Cond.constant RX1 49 (-1000000005), Cond.fieldLink RX1 50 "OneCloth$Reader" "start" "I", Cond.methodLink RX1 42 yX1_advance, Cond.instanceMethod yX1_advance, Cond.selects RX1 yX1_advance yX1_advance, Cond.code yX1_advance cX1_advance 5 none, Cond.methodLink RX1 61 yX1_sortAt, Cond.instanceMethod yX1_sortAt, Cond.selects RX1 yX1_sortAt yX1_sortAt, Cond.code yX1_sortAt cX1_sortAt 3 (some .int), Cond.methodLink RX1 45 yX1_keyHere, Cond.instanceMethod yX1_keyHere, Cond.selects RX1 yX1_keyHere yX1_keyHere, Cond.code yX1_keyHere cX1_keyHere 1 (some .int), Cond.methodLink RX1 67 yX1_isWord]
def wsL_law_r30 : List Cond := [Cond.instanceMethod yX1_isWord, Cond.selects RX1 yX1_isWord yX1_isWord, Cond.code yX1_isWord cX1_isWord 3 (some .boolean), Cond.methodLink RX1 75 yJ0_length_8abf5, Cond.instanceMethod yJ0_length_8abf5, Cond.selects RJ0 yJ0_length_8abf5 yJ0_length_8abf5, Cond.initialized RJ0, Cond.code yJ0_length_8abf5 cJ0_length_8abf5 1 (some .int), Cond.fieldLink RJ0 9 "java/lang/String" "value" "[B", Cond.methodLink RJ0 335 yJ0_coder_7d493, Cond.instanceMethod yJ0_coder_7d493, Cond.selects RJ0 yJ0_coder_7d493 yJ0_coder_7d493, Cond.code yJ0_coder_7d493 cJ0_coder_7d493 1 (some .byte), Cond.fieldLink RJ0 38 "java/lang/String" "COMPACT_STRINGS" "Z", Cond.fieldLink RJ0 15 "java/lang/String" "coder" "B", Cond.methodLink RX1 80 yJ0_charAt_5068e, Cond.instanceMethod yJ0_charAt_5068e, Cond.selects RJ0 yJ0_charAt_5068e yJ0_charAt_5068e, Cond.code yJ0_charAt_5068e cJ0_charAt_5068e 2 (some .char), Cond.methodLink RJ0 492 yJ0_isLatin1_aae02, Cond.instanceMethod yJ0_isLatin1_aae02, Cond.selects RJ0 yJ0_isLatin1_aae02 yJ0_isLatin1_aae02, Cond.code yJ0_isLatin1_aae02 cJ0_isLatin1_aae02 1 (some .boolean), Cond.methodLink RJ0 495 yJ1_charAt_3b067]
def wsL_law_r31 : List Cond := [Cond.static yJ1_charAt_3b067, Cond.initialized RJ1, Cond.code yJ1_charAt_3b067 cJ1_charAt_3b067 2 (some .char), Cond.methodLink RJ1 9 yJ0_checkIndex_df160, Cond.static yJ0_checkIndex_df160, Cond.code yJ0_checkIndex_df160 cJ0_checkIndex_df160 2 none, Cond.fieldLink RJ0 1053 "jdk/internal/util/Preconditions" "SIOOBE_FORMATTER" "Ljava/util/function/BiFunction;", Cond.methodLink RJ0 1059 yJ3_checkIndex_8e157, Cond.static yJ3_checkIndex_8e157, Cond.initialized RJ3, Cond.code yJ3_checkIndex_8e157 cJ3_checkIndex_8e157 3 (some .int), Cond.methodLink RJ0 498 yJ2_charAt_3b067, Cond.static yJ2_charAt_3b067, Cond.initialized RJ2, Cond.code yJ2_charAt_3b067 cJ2_charAt_3b067 2 (some .char), Cond.methodLink RJ2 67 yJ2_checkIndex_2214a, Cond.static yJ2_checkIndex_2214a, Cond.code yJ2_checkIndex_2214a cJ2_checkIndex_2214a 2 none, Cond.methodLink RJ2 48 yJ2_length_9d52b, Cond.static yJ2_length_9d52b, Cond.code yJ2_length_9d52b cJ2_length_9d52b 1 (some .int), Cond.methodLink RJ2 414 yJ0_checkIndex_df160, Cond.methodLink RJ2 71 yJ2_getChar_3b067, Cond.static yJ2_getChar_3b067]
def wsL_law_r32 : List Cond := [Cond.code yJ2_getChar_3b067 cJ2_getChar_3b067 2 (some .char), Cond.fieldLink RJ2 44 "java/lang/StringUTF16" "$assertionsDisabled" "Z", Cond.fieldLink RJ2 59 "java/lang/StringUTF16" "HI_BYTE_SHIFT" "I", Cond.fieldLink RJ2 63 "java/lang/StringUTF16" "LO_BYTE_SHIFT" "I", Cond.methodLink RX1 53 yX5_begin, Cond.instanceMethod yX5_begin, Cond.selects RX5 yX5_begin yX5_begin, Cond.code yX5_begin cX5_begin 2 none, Cond.fieldLink RX5 18 "OneCloth$Text" "key" "I", Cond.fieldLink RX5 22 "OneCloth$Text" "leaves" "I", Cond.methodLink RX1 57 yX1_readLevel, Cond.instanceMethod yX1_readLevel, Cond.selects RX1 yX1_readLevel yX1_readLevel, Cond.code yX1_readLevel cX1_readLevel 4 (some .boolean), Cond.methodLink RX1 88 yX1_readPiece, Cond.instanceMethod yX1_readPiece, Cond.selects RX1 yX1_readPiece yX1_readPiece, Cond.methodLink RX1 92 yX1_signHere, Cond.instanceMethod yX1_signHere, Cond.selects RX1 yX1_signHere yX1_signHere, Cond.code yX1_signHere cX1_signHere 1 (some .int), Cond.methodLink RX1 95 yX1_levelOf, Cond.static yX1_levelOf, Cond.code yX1_levelOf cX1_levelOf 1 (some .int)]
def wsL_law_r33 : List Cond := [Cond.methodLink RX1 98 yX5_addStep, Cond.instanceMethod yX5_addStep, Cond.selects RX5 yX5_addStep yX5_addStep, Cond.code yX5_addStep cX5_addStep 2 none, Cond.code yX1_readBracket cX1_readBracket 1 (some .boolean), Cond.code yX1_readNot cX1_readNot 1 (some .boolean), Cond.code yX1_readPiece cX1_readPiece 1 (some .boolean), Cond.methodLink RX1 101 yX1_readNumber, Cond.instanceMethod yX1_readNumber, Cond.selects RX1 yX1_readNumber yX1_readNumber, Cond.code yX1_readNumber cX1_readNumber 3 (some .boolean), Cond.methodLink RX1 113 yX5_addLeaf, Cond.instanceMethod yX5_addLeaf, Cond.selects RX5 yX5_addLeaf yX5_addLeaf, Cond.code yX5_addLeaf cX5_addLeaf 2 none, Cond.methodLink RX5 34 yX5_addStep, Cond.methodLink RX1 104 yX1_readName, Cond.instanceMethod yX1_readName, Cond.selects RX1 yX1_readName yX1_readName, Cond.code yX1_readName cX1_readName 2 (some .boolean), Cond.fieldLink RX1 116 "OneCloth$Text" "key" "I", Cond.methodLink RX1 119 yX1_namesOf, Cond.static yX1_namesOf, Cond.code yX1_namesOf cX1_namesOf 1 (some (.object "java/lang/String"))]
def wsL_law_r34 : List Cond := [Cond.methodLink RX1 123 yJ0_indexOf_0f7a4, Cond.instanceMethod yJ0_indexOf_0f7a4, Cond.selects RJ0 yJ0_indexOf_0f7a4 yJ0_indexOf_0f7a4, Cond.code yJ0_indexOf_0f7a4 cJ0_indexOf_0f7a4 2 (some .int), Cond.methodLink RJ0 633 yJ0_indexOf_7cf53, Cond.instanceMethod yJ0_indexOf_7cf53, Cond.selects RJ0 yJ0_indexOf_7cf53 yJ0_indexOf_7cf53, Cond.code yJ0_indexOf_7cf53 cJ0_indexOf_7cf53 3 (some .int), Cond.methodLink RJ0 505 yJ0_length_8abf5, Cond.methodLink RJ0 637 yJ1_indexOf_4cfef, Cond.static yJ1_indexOf_4cfef, Cond.code yJ1_indexOf_4cfef cJ1_indexOf_4cfef 4 (some .int), Cond.methodLink RJ1 92 Lib.Math.max.name, Cond.methodLink RJ1 38 Lib.Math.min.name, Cond.methodLink RJ1 88 yJ1_canEncode_9a6ad, Cond.static yJ1_canEncode_9a6ad, Cond.code yJ1_canEncode_9a6ad cJ1_canEncode_9a6ad 1 (some .boolean), Cond.methodLink RJ1 95 yJ1_indexOfChar_4cfef, Cond.static yJ1_indexOfChar_4cfef, Cond.code yJ1_indexOfChar_4cfef cJ1_indexOfChar_4cfef 6 (some .int), Cond.methodLink RJ0 640 yJ2_indexOf_4cfef, Cond.static yJ2_indexOf_4cfef, Cond.code yJ2_indexOf_4cfef cJ2_indexOf_4cfef 4 (some .int), Cond.methodLink RJ2 224 Lib.Math.max.name]
def wsL_law_r35 : List Cond := [Cond.methodLink RJ2 183 Lib.Math.min.name, Cond.constant RJ2 227 (65536), Cond.methodLink RJ2 228 yJ2_indexOfChar_4cfef, Cond.static yJ2_indexOfChar_4cfef, Cond.code yJ2_indexOfChar_4cfef cJ2_indexOfChar_4cfef 4 (some .int), Cond.methodLink RJ2 96 yJ2_checkBoundsBeginEnd_d044e, Cond.static yJ2_checkBoundsBeginEnd_d044e, Cond.code yJ2_checkBoundsBeginEnd_d044e cJ2_checkBoundsBeginEnd_d044e 3 none, Cond.methodLink RJ2 241 yJ0_checkBoundsBeginEnd_23922, Cond.static yJ0_checkBoundsBeginEnd_23922, Cond.code yJ0_checkBoundsBeginEnd_23922 cJ0_checkBoundsBeginEnd_23922 3 none, Cond.methodLink RJ0 1062 yJ3_checkFromToIndex_8c36e, Cond.static yJ3_checkFromToIndex_8c36e, Cond.code yJ3_checkFromToIndex_8c36e cJ3_checkFromToIndex_8c36e 4 (some .int), Cond.methodLink RJ2 244 yJ2_indexOfCharUnsafe_4cfef, Cond.static yJ2_indexOfCharUnsafe_4cfef, Cond.code yJ2_indexOfCharUnsafe_4cfef cJ2_indexOfCharUnsafe_4cfef 5 (some .int), Cond.methodLink RJ2 232 yJ2_indexOfSupplementary_4cfef, Cond.static yJ2_indexOfSupplementary_4cfef, Cond.code yJ2_indexOfSupplementary_4cfef cJ2_indexOfSupplementary_4cfef 7 (some .int), Cond.methodLink RJ2 164 yJ11_isValidCodePoint_9a6ad, Cond.static yJ11_isValidCodePoint_9a6ad, Cond.initialized RJ11, Cond.code yJ11_isValidCodePoint_9a6ad cJ11_isValidCodePoint_9a6ad 2 (some .boolean)]
def wsL_law_r36 : List Cond := [Cond.methodLink RJ2 157 yJ11_highSurrogate_5068e, Cond.static yJ11_highSurrogate_5068e, Cond.code yJ11_highSurrogate_5068e cJ11_highSurrogate_5068e 1 (some .char), Cond.constant RJ11 110 (55232), Cond.methodLink RJ2 161 yJ11_lowSurrogate_5068e, Cond.static yJ11_lowSurrogate_5068e, Cond.code yJ11_lowSurrogate_5068e cJ11_lowSurrogate_5068e 1 (some .char), Cond.constant RJ11 76 (56320), Cond.methodLink RX1 107 yX1_readNot, Cond.instanceMethod yX1_readNot, Cond.selects RX1 yX1_readNot yX1_readNot, Cond.methodLink RX1 110 yX1_readBracket, Cond.instanceMethod yX1_readBracket, Cond.selects RX1 yX1_readBracket yX1_readBracket, Cond.methodLink RX6 260 yX0_enact, Cond.instanceMethod yX0_enact, Cond.selects RX0 yX0_enact yX0_enact, Cond.code yX0_enact cX0_enact 2 (some .int), Cond.fieldLink RX0 78 "OneCloth$Text" "key" "I", Cond.methodLink RX0 87 yX5_takeOver, Cond.instanceMethod yX5_takeOver, Cond.selects RX5 yX5_takeOver yX5_takeOver, Cond.code yX5_takeOver cX5_takeOver 2 none, Cond.methodLink RX5 28 arraycopyName]
def wsL_law_r37 : List Cond := [Cond.native arraycopyName, Cond.static arraycopyName, Cond.initialized "java/lang/System", Cond.methodLink RL 108 yX7_text, Cond.instanceMethod yX7_text, Cond.selects RX7 yX7_text yX7_text, Cond.code yX7_text cX7_text 3 (some .int), Cond.fieldLink RX7 206 "OneClothModel" "begin" "I", Cond.fieldLink RX7 256 "OneClothModel" "said" "I", Cond.fieldLink RX7 228 "OneClothModel" "laid" "I", Cond.methodLink RX7 277 yX7_parse, Cond.instanceMethod yX7_parse, Cond.selects RX7 yX7_parse yX7_parse, Cond.code yX7_parse cX7_parse 3 (some .int), Cond.fieldLink RX7 200 "OneClothModel" "behind" "I", Cond.fieldLink RX7 203 "OneClothModel" "token" "I", Cond.fieldLink RX7 265 "OneClothModel" "deep" "I", Cond.fieldLink RX7 262 "OneClothModel" "turned" "I", Cond.fieldLink RX7 225 "OneClothModel" "laidAt" "I", Cond.methodLink RX7 237 yX7_nextToken, Cond.instanceMethod yX7_nextToken, Cond.selects RX7 yX7_nextToken yX7_nextToken, Cond.code yX7_nextToken cX7_nextToken 3 none, Cond.fieldLink RX7 212 "OneClothModel" "letter" "I"]
def wsL_law_r38 : List Cond := [Cond.fieldLink RX7 218 "OneClothModel" "number" "I", Cond.methodLink RX7 209 yX7_isLetter, Cond.instanceMethod yX7_isLetter, Cond.selects RX7 yX7_isLetter yX7_isLetter, Cond.code yX7_isLetter cX7_isLetter 2 (some .boolean), Cond.constantLong RX7 192 (97), Cond.constantLong RX7 194 (122), Cond.methodLink RX7 215 yX7_isDigit, Cond.instanceMethod yX7_isDigit, Cond.selects RX7 yX7_isDigit yX7_isDigit, Cond.code yX7_isDigit cX7_isDigit 2 (some .boolean), Cond.constantLong RX7 196 (48), Cond.constantLong RX7 198 (57), Cond.methodLink RX7 274 yX7_key, Cond.instanceMethod yX7_key, Cond.selects RX7 yX7_key yX7_key, Cond.code yX7_key cX7_key 1 (some .int), Cond.methodLink RX7 221 yX7_isWordAt, Cond.instanceMethod yX7_isWordAt, Cond.selects RX7 yX7_isWordAt yX7_isWordAt, Cond.code yX7_isWordAt cX7_isWordAt 6 (some .boolean), Cond.methodLink RX7 268 yX7_either, Cond.instanceMethod yX7_either, Cond.selects RX7 yX7_either yX7_either]
def wsL_law_r39 : List Cond := [Cond.code yX7_either cX7_either 2 (some .boolean), Cond.methodLink RX7 231 yX7_both, Cond.instanceMethod yX7_both, Cond.selects RX7 yX7_both yX7_both, Cond.methodLink RX7 234 yX7_isSign, Cond.instanceMethod yX7_isSign, Cond.selects RX7 yX7_isSign yX7_isSign, Cond.code yX7_isSign cX7_isSign 2 (some .boolean), Cond.methodLink RX7 240 yX7_step, Cond.instanceMethod yX7_step, Cond.selects RX7 yX7_step yX7_step, Cond.code yX7_step cX7_step 3 none, Cond.code yX7_both cX7_both 2 (some .boolean), Cond.methodLink RX7 244 yX7_test, Cond.instanceMethod yX7_test, Cond.selects RX7 yX7_test yX7_test, Cond.code yX7_part0 cX7_part0 2 (some .boolean), Cond.methodLink RX7 259 yX7_isName, Cond.static yX7_isName, Cond.code yX7_isName cX7_isName 2 (some .boolean), Cond.methodLink RX7 253 yX7_part0, Cond.instanceMethod yX7_part0, Cond.selects RX7 yX7_part0 yX7_part0, Cond.code yX7_sum cX7_sum 3 (some .boolean)]
def wsL_law_r40 : List Cond := [Cond.methodLink RX7 250 yX7_term, Cond.instanceMethod yX7_term, Cond.selects RX7 yX7_term yX7_term, Cond.code yX7_term cX7_term 3 (some .boolean), Cond.code yX7_test cX7_test 3 (some .boolean), Cond.methodLink RX7 247 yX7_sum, Cond.instanceMethod yX7_sum, Cond.selects RX7 yX7_sum yX7_sum, Cond.methodLink RL 109 yX6_textTold, Cond.instanceMethod yX6_textTold, Cond.selects RX6 yX6_textTold yX6_textTold, Cond.code yX6_textTold cX6_textTold 3 (some .int), Cond.fieldLink RX6 264 "OneCloth$Text" "key" "I", Cond.fieldLink RX6 267 "OneCloth$Text" "leaves" "I", Cond.methodLink RL 112 yX7_textTold, Cond.instanceMethod yX7_textTold, Cond.selects RX7 yX7_textTold yX7_textTold, Cond.code yX7_textTold cX7_textTold 3 (some .int), Cond.methodLink RX7 280 yX7_isText, Cond.instanceMethod yX7_isText, Cond.selects RX7 yX7_isText yX7_isText, Cond.code yX7_isText cX7_isText 2 (some .boolean), Cond.methodLink RL 113 yX6_why, Cond.instanceMethod yX6_why]
def wsL_law_r41 : List Cond := [Cond.selects RX6 yX6_why yX6_why, Cond.code yX6_why cX6_why 2 (some .int), Cond.methodLink RL 116 yX7_why, Cond.instanceMethod yX7_why, Cond.selects RX7 yX7_why yX7_why, Cond.code yX7_why cX7_why 2 (some .int), Cond.constantLong RX7 283 (2), Cond.methodLink RL 117 yX6_sheet, Cond.instanceMethod yX6_sheet, Cond.selects RX6 yX6_sheet yX6_sheet, Cond.code yX6_sheet cX6_sheet 4 (some .int), Cond.constant RX6 274 (-1000000014), Cond.methodLink RX6 270 yX2_become, Cond.instanceMethod yX2_become, Cond.selects RX2 yX2_become yX2_become, Cond.code yX2_become cX2_become 4 none, Cond.methodLink RL 120 yX7_sheet, Cond.instanceMethod yX7_sheet, Cond.selects RX7 yX7_sheet yX7_sheet, Cond.code yX7_sheet cX7_sheet 5 (some .int), Cond.constantLong RX7 292 (-1), Cond.constant RX7 294 (-1000000014), Cond.methodLink RL 121 yX6_mark, Cond.instanceMethod yX6_mark]
def wsL_law_r42 : List Cond := [Cond.selects RX6 yX6_mark yX6_mark, Cond.code yX6_mark cX6_mark 5 (some .int), Cond.constant RX6 278 (-1000000013), Cond.fieldLink RX6 279 "OneCloth$Sheet" "sort" "I", Cond.fieldLink RX6 282 "OneCloth$Sheet" "values" "[I", Cond.constant RX6 285 (-99999), Cond.constant RX6 286 (99999), Cond.methodLink RX6 275 yX2_hasPlace, Cond.methodLink RL 124 yX7_mark, Cond.instanceMethod yX7_mark, Cond.selects RX7 yX7_mark yX7_mark, Cond.code yX7_mark cX7_mark 4 (some .int), Cond.constant RX7 296 (-1000000013), Cond.constantLong RX7 297 (-99999), Cond.constantLong RX7 299 (99999), Cond.methodLink RL 125 yX6_pour, Cond.instanceMethod yX6_pour, Cond.selects RX6 yX6_pour yX6_pour, Cond.code yX6_pour cX6_pour 6 (some .int), Cond.methodLink RX6 287 yX2_hasNumber, Cond.methodLink RX6 290 yX6_held, Cond.methodLink RL 128 yX7_pour, Cond.instanceMethod yX7_pour, Cond.selects RX7 yX7_pour yX7_pour]
def wsL_law_r43 : List Cond := [Cond.code yX7_pour cX7_pour 6 (some .int), Cond.methodLink RL 129 yX6_reads, Cond.instanceMethod yX6_reads, Cond.selects RX6 yX6_reads yX6_reads, Cond.code yX6_reads cX6_reads 4 (some .int), Cond.fieldLink RX6 293 "OneCloth$Sheet" "length" "I", Cond.methodLink RL 132 yX7_reads, Cond.instanceMethod yX7_reads, Cond.selects RX7 yX7_reads yX7_reads, Cond.code yX7_reads cX7_reads 4 (some .int), Cond.methodLink RL 133 yX6_copy, Cond.instanceMethod yX6_copy, Cond.selects RX6 yX6_copy yX6_copy, Cond.code yX6_copy cX6_copy 8 (some .int), Cond.methodLink RX6 299 arraycopyName, Cond.methodLink RX6 296 yX2_hasPlaces, Cond.instanceMethod yX2_hasPlaces, Cond.selects RX2 yX2_hasPlaces yX2_hasPlaces, Cond.code yX2_hasPlaces cX2_hasPlaces 3 (some .boolean), Cond.methodLink RL 137 yX7_copy, Cond.instanceMethod yX7_copy, Cond.selects RX7 yX7_copy yX7_copy, Cond.code yX7_copy cX7_copy 7 (some .int), Cond.methodLink RL 138 yX6_lay]
def wsL_law_r44 : List Cond := [Cond.instanceMethod yX6_lay, Cond.selects RX6 yX6_lay yX6_lay, Cond.code yX6_lay cX6_lay 6 (some .int), Cond.fieldLink RX6 308 "OneCloth$Slot" "thing" "I", Cond.fieldLink RX6 311 "OneCloth$Slot" "stall" "LOneCloth$Stall;", Cond.fieldLink RX6 318 "OneCloth$Slot" "sheet" "LOneCloth$Sheet;", Cond.fieldLink RX6 325 "OneCloth$Slot" "number" "I", Cond.methodLink RX6 305 yX6_isSlot, Cond.static yX6_isSlot, Cond.code yX6_isSlot cX6_isSlot 1 (some .boolean), Cond.methodLink RX6 315 yX4_takeOver, Cond.methodLink RX6 322 yX2_takeOver, Cond.instanceMethod yX2_takeOver, Cond.selects RX2 yX2_takeOver yX2_takeOver, Cond.code yX2_takeOver cX2_takeOver 2 none, Cond.methodLink RX2 26 arraycopyName, Cond.methodLink RL 141 yX7_lay, Cond.instanceMethod yX7_lay, Cond.selects RX7 yX7_lay yX7_lay, Cond.code yX7_lay cX7_lay 7 (some .int), Cond.methodLink RX7 303 yX7_isSlot, Cond.static yX7_isSlot, Cond.code yX7_isSlot cX7_isSlot 1 (some .boolean), Cond.constantLong RX7 301 (4)]
def wsL_law_r45 : List Cond := [Cond.methodLink RL 142 yX6_ask, Cond.instanceMethod yX6_ask, Cond.selects RX6 yX6_ask yX6_ask, Cond.code yX6_ask cX6_ask 5 (some .int), Cond.methodLink RX6 328 yX3_refuses, Cond.instanceMethod yX3_refuses, Cond.selects RX3 yX3_refuses yX3_refuses, Cond.code yX3_refuses cX3_refuses 2 (some .int), Cond.constant RX3 29 (-1000000011), Cond.constant RX3 30 (-1000000012), Cond.methodLink RL 145 yX7_ask, Cond.instanceMethod yX7_ask, Cond.selects RX7 yX7_ask yX7_ask, Cond.code yX7_ask cX7_ask 3 (some .int), Cond.methodLink RL 146 yX6_item, Cond.instanceMethod yX6_item, Cond.selects RX6 yX6_item yX6_item, Cond.code yX6_item cX6_item 5 (some .int), Cond.methodLink RL 149 yX7_item, Cond.instanceMethod yX7_item, Cond.selects RX7 yX7_item yX7_item, Cond.code yX7_item cX7_item 4 (some .int), Cond.methodLink RL 150 yX6_rest, Cond.instanceMethod yX6_rest]
def wsL_law_r46 : List Cond := [Cond.selects RX6 yX6_rest yX6_rest, Cond.code yX6_rest cX6_rest 4 (some .int), Cond.constant RX6 331 (-1000000002), Cond.methodLink RL 153 yX7_rest, Cond.instanceMethod yX7_rest, Cond.selects RX7 yX7_rest yX7_rest, Cond.code yX7_rest cX7_rest 3 (some .int), Cond.constant RX7 306 (-1000000002), Cond.methodLink RL 154 yX6_tell, Cond.instanceMethod yX6_tell, Cond.selects RX6 yX6_tell yX6_tell, Cond.code yX6_tell cX6_tell 2 (some .int), Cond.fieldLink RX6 332 "OneCloth" "waitingCount" "I", Cond.methodLink RL 157 yX7_tell, Cond.instanceMethod yX7_tell, Cond.selects RX7 yX7_tell yX7_tell, Cond.code yX7_tell cX7_tell 2 (some .int), Cond.fieldLink RX7 307 "OneClothModel" "waiting" "I", Cond.methodLink RL 158 yX6_check, Cond.instanceMethod yX6_check, Cond.selects RX6 yX6_check yX6_check, Cond.code yX6_check cX6_check 6 (some .int), Cond.fieldLink RX6 335 "OneCloth" "imageKept" "Z", Cond.methodLink RL 161 yX7_check]
def wsL_law_r47 : List Cond := [Cond.instanceMethod yX7_check, Cond.selects RX7 yX7_check yX7_check, Cond.code yX7_check cX7_check 5 (some .int), Cond.constantLong RX7 310 (30), Cond.fieldLink RX7 312 "OneClothModel" "hasImage" "Z", Cond.methodLink RX7 316 yX7_setAside, Cond.instanceMethod yX7_setAside, Cond.selects RX7 yX7_setAside yX7_setAside, Cond.code yX7_setAside cX7_setAside 4 none, Cond.methodLink RL 162 yX6_keep, Cond.instanceMethod yX6_keep, Cond.selects RX6 yX6_keep yX6_keep, Cond.code yX6_keep cX6_keep 1 (some .int), Cond.methodLink RL 165 yX7_keep, Cond.instanceMethod yX7_keep, Cond.selects RX7 yX7_keep yX7_keep, Cond.code yX7_keep cX7_keep 1 (some .int), Cond.methodLink RL 166 yX6_back, Cond.instanceMethod yX6_back, Cond.selects RX6 yX6_back yX6_back, Cond.code yX6_back cX6_back 1 (some .int), Cond.methodLink RL 169 yX7_back, Cond.instanceMethod yX7_back, Cond.selects RX7 yX7_back yX7_back]
def wsL_law_r48 : List Cond := [Cond.code yX7_back cX7_back 1 (some .int), Cond.methodLink RL 170 yX6_count, Cond.instanceMethod yX6_count, Cond.selects RX6 yX6_count yX6_count, Cond.code yX6_count cX6_count 2 (some .int), Cond.methodLink RX6 339 yJ6_bitCount_0f7a4, Cond.static yJ6_bitCount_0f7a4, Cond.initialized RJ6, Cond.code yJ6_bitCount_0f7a4 cJ6_bitCount_0f7a4 1 (some .int), Cond.constant RJ6 265 (1431655765), Cond.constant RJ6 266 (858993459), Cond.constant RJ6 267 (252645135), Cond.methodLink RL 173 yX7_count, Cond.instanceMethod yX7_count, Cond.selects RX7 yX7_count yX7_count, Cond.code yX7_count cX7_count 2 (some .int), Cond.methodLink RX7 320 yX7_manyShaded, Cond.instanceMethod yX7_manyShaded, Cond.selects RX7 yX7_manyShaded yX7_manyShaded, Cond.code yX7_manyShaded cX7_manyShaded 3 (some .int)]
def wsL_law : List Cond := (wsL_law_r1 ++ (wsL_law_r2 ++ (wsL_law_r3 ++ (wsL_law_r4 ++ (wsL_law_r5 ++ (wsL_law_r6 ++ (wsL_law_r7 ++ (wsL_law_r8 ++ (wsL_law_r9 ++ (wsL_law_r10 ++ (wsL_law_r11 ++ (wsL_law_r12 ++ (wsL_law_r13 ++ (wsL_law_r14 ++ (wsL_law_r15 ++ (wsL_law_r16 ++ (wsL_law_r17 ++ (wsL_law_r18 ++ (wsL_law_r19 ++ (wsL_law_r20 ++ (wsL_law_r21 ++ (wsL_law_r22 ++ (wsL_law_r23 ++ (wsL_law_r24 ++ (wsL_law_r25 ++ (wsL_law_r26 ++ (wsL_law_r27 ++ (wsL_law_r28 ++ (wsL_law_r29 ++ (wsL_law_r30 ++ (wsL_law_r31 ++ (wsL_law_r32 ++ (wsL_law_r33 ++ (wsL_law_r34 ++ (wsL_law_r35 ++ (wsL_law_r36 ++ (wsL_law_r37 ++ (wsL_law_r38 ++ (wsL_law_r39 ++ (wsL_law_r40 ++ (wsL_law_r41 ++ (wsL_law_r42 ++ (wsL_law_r43 ++ (wsL_law_r44 ++ (wsL_law_r45 ++ (wsL_law_r46 ++ (wsL_law_r47 ++ wsL_law_r48))))))))))))))))))))))))))))))))))))))))))))))) ++ wsX60 ++ wsX70 ++ wsX50 ++ wsX00 ++ wsX20 ++ wsX30 ++ wsX10 ++ wsX40 ++ ([] : List Cond)
set_option maxRecDepth 20000 in
set_option maxRecDepth 100000 in
theorem zi_wsL_law_r1 : GoodIn lw_tbl wsL_law_r1 := goodIn_pc bsT bsT_e _ [(1, [17, 18, 1]), (4, [149, 150]), (1, [8, 19, 20, 21, 22, 23, 24, 25, 231, 27, 234, 29, 235, 58, 236, 31, 33, 2, 59])] rfl (by decide +kernel)
set_option maxRecDepth 100000 in
theorem zi_wsL_law_r2 : GoodIn lw_tbl wsL_law_r2 := goodIn_pc bsT bsT_e _ [(1, [3, 149, 5, 168, 6, 228, 229, 230, 193, 194, 7, 233, 227, 232, 35, 36, 37, 45, 46, 60, 61, 62, 63, 64])] rfl (by decide +kernel)
set_option maxRecDepth 100000 in
theorem zi_wsL_law_r3 : GoodIn lw_tbl wsL_law_r3 := goodIn_pc bsT bsT_e _ [(1, [94, 66, 96, 102, 108, 110, 118, 93, 67, 4, 69, 70, 71, 151, 152, 153, 154, 158, 170, 171, 172, 177, 173, 180])] rfl (by decide +kernel)
set_option maxRecDepth 100000 in
theorem zi_wsL_law_r4 : GoodIn lw_tbl wsL_law_r4 := goodIn_pc bsT bsT_e _ [(1, [175, 182, 195, 196, 197, 198, 199, 202, 201]), (4, [151, 152, 153, 154, 155, 156, 157, 159, 160, 161, 162, 163, 164, 165, 166])] rfl (by decide +kernel)
set_option maxRecDepth 100000 in
theorem zi_wsL_law_r5 : GoodIn lw_tbl wsL_law_r5 := goodIn_pc bsT bsT_e _ [(4, [167, 168, 180, 181, 182, 183, 185]), (2, [33, 34, 35, 36, 40]), (1, [99]), (2, [41, 37, 38, 39, 42, 43, 44, 45]), (1, [98]), (2, [46]), (1, [73])] rfl (by decide +kernel)
set_option maxRecDepth 100000 in
theorem zi_wsL_law_r6 : GoodIn lw_tbl wsL_law_r6 := goodIn_pc bsT bsT_e _ [(1, [76, 79, 82]), (5, [9, 10, 11, 12, 13, 17, 18, 19, 20, 14, 15, 16, 21, 23]), (0, [14]), (5, [24, 25, 27]), (0, [15]), (5, [28]), (2, [47])] rfl (by decide +kernel)
set_option maxRecDepth 100000 in
theorem zi_wsL_law_r7 : GoodIn lw_tbl wsL_law_r7 := goodIn_pc bsT bsT_e _ [(2, [48, 49, 50]), (1, [95, 74, 77, 80, 83]), (2, [51, 53]), (0, [0]), (2, [54, 55, 56, 57, 58, 107, 98]), (1, [9]), (2, [99, 59, 60, 61, 62])] rfl (by decide +kernel)
set_option maxRecDepth 100000 in
theorem zi_wsL_law_r8 : GoodIn lw_tbl wsL_law_r8 := goodIn_pc bsT bsT_e _ [(1, [104]), (2, [63, 64, 65, 66, 67, 68, 69, 70]), (1, [106]), (2, [71, 72, 73, 74]), (1, [72]), (2, [75, 76, 77, 78, 80, 81, 82, 83, 84])] rfl (by decide +kernel)
set_option maxRecDepth 100000 in
theorem zi_wsL_law_r9 : GoodIn lw_tbl wsL_law_r9 := goodIn_pc bsT bsT_e _ [(2, [85, 86, 87, 88, 89, 90]), (1, [44]), (2, [91, 92, 93, 95, 96, 97, 100, 101, 102, 103, 104, 105, 106, 108, 109, 110, 111])] rfl (by decide +kernel)
set_option maxRecDepth 100000 in
theorem zi_wsL_law_r10 : GoodIn lw_tbl wsL_law_r10 := goodIn_pc bsT bsT_e _ [(2, [112]), (1, [81]), (5, [29, 30, 31, 32, 33, 35]), (0, [16]), (5, [36, 37, 39]), (0, [17]), (5, [40, 41, 43]), (0, [18]), (5, [44, 45, 47]), (0, [19]), (5, [48, 49, 51])] rfl (by decide +kernel)
set_option maxRecDepth 100000 in
theorem zi_wsL_law_r11 : GoodIn lw_tbl wsL_law_r11 := goodIn_pc bsT bsT_e _ [(0, [20]), (5, [52, 53, 55]), (0, [21]), (5, [56, 57, 59]), (0, [22]), (5, [60, 61, 63]), (0, [23]), (5, [64, 65, 67]), (0, [24]), (5, [68, 69, 70, 71, 72, 74]), (0, [25])] rfl (by decide +kernel)
set_option maxRecDepth 100000 in
theorem zi_wsL_law_r12 : GoodIn lw_tbl wsL_law_r12 := goodIn_pc bsT bsT_e _ [(5, [75, 76, 77, 78, 79, 80, 81, 82, 84]), (0, [26]), (5, [85]), (2, [113, 114, 115, 116, 124, 117, 118, 119, 120]), (5, [86, 87, 88, 89])] rfl (by decide +kernel)
set_option maxRecDepth 100000 in
theorem zi_wsL_law_r13 : GoodIn lw_tbl wsL_law_r13 := goodIn_pc bsT bsT_e _ [(5, [93, 90, 91, 92]), (2, [125, 126, 127, 128]), (5, [94, 95, 96, 97, 98, 100]), (0, [27]), (5, [101]), (2, [129, 130, 131, 132, 133, 134, 135, 136])] rfl (by decide +kernel)
set_option maxRecDepth 100000 in
theorem zi_wsL_law_r14 : GoodIn lw_tbl wsL_law_r14 := goodIn_pc bsT bsT_e _ [(2, [137, 138, 139, 140, 141]), (5, [102, 103, 104, 105, 106, 107]), (2, [142, 143, 144, 145]), (1, [105, 103, 109, 111]), (2, [146, 147, 148, 149, 150])] rfl (by decide +kernel)
set_option maxRecDepth 100000 in
theorem zi_wsL_law_r15 : GoodIn lw_tbl wsL_law_r15 := goodIn_pc bsT bsT_e _ [(2, [151, 152, 153, 154]), (5, [108, 109, 110, 111, 112, 114]), (0, [28]), (5, [115, 116, 117, 118, 119, 120, 122]), (0, [29]), (5, [123]), (2, [155, 156, 157, 158])] rfl (by decide +kernel)
set_option maxRecDepth 100000 in
theorem zi_wsL_law_r16 : GoodIn lw_tbl wsL_law_r16 := goodIn_pc bsT bsT_e _ [(2, [159, 161]), (0, [1]), (2, [162, 163, 164, 165, 166, 167, 169]), (0, [2]), (2, [170, 171, 172, 173, 174, 175, 176, 178]), (0, [3]), (2, [179, 180, 182]), (0, [4])] rfl (by decide +kernel)
set_option maxRecDepth 100000 in
theorem zi_wsL_law_r17 : GoodIn lw_tbl wsL_law_r17 := goodIn_pc bsT bsT_e _ [(2, [183]), (5, [124, 125, 126, 127, 128, 130]), (0, [30]), (5, [131, 132, 134]), (0, [31]), (5, [135]), (2, [184, 185, 186, 187, 188, 189, 190, 191, 192]), (5, [136, 137])] rfl (by decide +kernel)
set_option maxRecDepth 100000 in
theorem zi_wsL_law_r18 : GoodIn lw_tbl wsL_law_r18 := goodIn_pc bsT bsT_e _ [(5, [138, 139, 140, 141, 143]), (0, [32]), (5, [144, 145]), (2, [193, 194, 195, 196]), (1, [119]), (5, [146, 147, 148, 149]), (2, [197, 198, 199, 200]), (1, [115, 107]), (2, [201])] rfl (by decide +kernel)
set_option maxRecDepth 100000 in
theorem zi_wsL_law_r19 : GoodIn lw_tbl wsL_law_r19 := goodIn_pc bsT bsT_e _ [(2, [202, 203, 204, 205, 206, 207, 208, 209, 210, 211, 212, 213, 214, 215, 216, 217, 218, 219, 220, 221, 222, 223, 224, 225])] rfl (by decide +kernel)
set_option maxRecDepth 100000 in
theorem zi_wsL_law_r20 : GoodIn lw_tbl wsL_law_r20 := goodIn_pc bsT bsT_e _ [(2, [226]), (1, [114, 112]), (2, [227, 228, 229, 230]), (1, [116]), (2, [231]), (5, [150, 151, 152, 153, 154, 155, 157]), (0, [33]), (5, [158, 159, 161]), (0, [34]), (5, [162, 163, 165])] rfl (by decide +kernel)
set_option maxRecDepth 100000 in
theorem zi_wsL_law_r21 : GoodIn lw_tbl wsL_law_r21 := goodIn_pc bsT bsT_e _ [(0, [35]), (5, [166, 167, 169]), (0, [36]), (5, [170, 171, 173]), (0, [37]), (5, [174]), (2, [232, 233, 234, 235]), (1, [113, 117]), (2, [236, 237, 238, 239]), (5, [175, 176, 177, 178])] rfl (by decide +kernel)
set_option maxRecDepth 100000 in
theorem zi_wsL_law_r22 : GoodIn lw_tbl wsL_law_r22 := goodIn_pc bsT bsT_e _ [(3, [0, 1, 2, 3, 4, 5, 6, 7]), (1, [100]), (3, [8, 9, 10, 11]), (1, [75, 78]), (3, [12, 14]), (0, [5]), (3, [15]), (5, [179, 180, 181, 182, 183])] rfl (by decide +kernel)
set_option maxRecDepth 100000 in
theorem zi_wsL_law_r23 : GoodIn lw_tbl wsL_law_r23 := goodIn_pc bsT bsT_e _ [(5, [185]), (0, [38]), (5, [186, 187, 189]), (0, [39]), (5, [190, 191, 193]), (0, [40]), (5, [194]), (3, [16, 17, 18, 19]), (5, [195, 196, 197, 198]), (3, [20, 21, 22, 23, 24])] rfl (by decide +kernel)
set_option maxRecDepth 100000 in
theorem zi_wsL_law_r24 : GoodIn lw_tbl wsL_law_r24 := goodIn_pc bsT bsT_e _ [(2, [0, 1]), (3, [25, 27]), (0, [6]), (3, [28]), (5, [199, 200, 201, 202]), (3, [29, 30, 31, 32, 33]), (5, [203, 204, 205, 206, 207, 208]), (3, [34, 35, 36])] rfl (by decide +kernel)
set_option maxRecDepth 100000 in
theorem zi_wsL_law_r25 : GoodIn lw_tbl wsL_law_r25 := goodIn_pc bsT bsT_e _ [(3, [37, 38, 39]), (5, [209, 210, 211, 212]), (3, [40, 41, 42, 43]), (5, [213, 214, 215, 216]), (3, [44, 45, 46, 47, 55, 48, 49, 50, 51])] rfl (by decide +kernel)
set_option maxRecDepth 100000 in
theorem zi_wsL_law_r26 : GoodIn lw_tbl wsL_law_r26 := goodIn_pc bsT bsT_e _ [(3, [52, 53, 54, 56, 57, 58, 59]), (1, [159]), (3, [60, 61, 62, 63, 69, 64, 65, 66, 67]), (1, [156]), (6, [98, 99, 100, 101, 86, 77])] rfl (by decide +kernel)
set_option maxRecDepth 100000 in
theorem zi_wsL_law_r27 : GoodIn lw_tbl wsL_law_r27 := goodIn_pc bsT bsT_e _ [(6, [78, 79]), (3, [70, 71, 72, 73]), (1, [97]), (3, [74]), (5, [217, 218, 219, 220]), (3, [75, 76, 77, 78]), (5, [221, 222, 223, 224]), (3, [79, 80, 81, 82])] rfl (by decide +kernel)
set_option maxRecDepth 100000 in
theorem zi_wsL_law_r28 : GoodIn lw_tbl wsL_law_r28 := goodIn_pc bsT bsT_e _ [(1, [237]), (3, [83, 85]), (0, [7]), (3, [86]), (5, [225, 226, 227, 228]), (4, [169]), (3, [87, 88, 89, 90]), (5, [229, 230, 231, 232]), (3, [91, 92, 93, 94]), (1, [101, 203])] rfl (by decide +kernel)
set_option maxRecDepth 100000 in
theorem zi_wsL_law_r29 : GoodIn lw_tbl wsL_law_r29 := goodIn_pc bsT bsT_e _ [(3, [95, 96, 97, 98]), (1, [204, 205, 207, 208, 209]), (3, [167]), (1, [206]), (3, [100, 101, 102, 103, 104, 105, 106, 107, 108, 109, 110, 111, 113])] rfl (by decide +kernel)
set_option maxRecDepth 100000 in
theorem zi_wsL_law_r30 : GoodIn lw_tbl wsL_law_r30 := goodIn_pc bsT bsT_e _ [(3, [114, 115, 116, 117, 118, 119]), (1, [10]), (3, [120]), (6, [156]), (3, [121, 122, 123, 124, 125]), (6, [157]), (3, [127, 128, 129, 130, 131, 132, 133, 134, 135])] rfl (by decide +kernel)
set_option maxRecDepth 100000 in
theorem zi_wsL_law_r31 : GoodIn lw_tbl wsL_law_r31 := goodIn_pc bsT bsT_e _ [(3, [136]), (1, [11]), (3, [137, 138, 139, 140, 141, 143, 144]), (1, [12]), (3, [145, 146, 147]), (1, [13]), (3, [148, 149, 150, 151, 152, 153, 154, 155, 156, 157])] rfl (by decide +kernel)
set_option maxRecDepth 100000 in
theorem zi_wsL_law_r32 : GoodIn lw_tbl wsL_law_r32 := goodIn_pc bsT bsT_e _ [(3, [158, 159, 161, 163, 168, 169, 170, 171]), (1, [38, 42]), (3, [172, 174]), (0, [8]), (3, [175, 176, 178]), (0, [9]), (4, [17, 18, 19, 20, 31, 32, 33])] rfl (by decide +kernel)
set_option maxRecDepth 100000 in
theorem zi_wsL_law_r33 : GoodIn lw_tbl wsL_law_r33 := goodIn_pc bsT bsT_e _ [(4, [26]), (3, [189, 190, 191]), (4, [30, 25]), (3, [179, 180, 182]), (0, [10]), (3, [183, 184, 185, 186, 187, 188, 192, 194]), (0, [11]), (3, [195]), (1, [40]), (3, [196, 197, 198])] rfl (by decide +kernel)
set_option maxRecDepth 100000 in
theorem zi_wsL_law_r34 : GoodIn lw_tbl wsL_law_r34 := goodIn_pc bsT bsT_e _ [(3, [202, 203, 204, 205, 206, 207, 208, 209, 210, 211, 212, 213, 217, 218, 214, 215, 216, 219, 220, 221, 222, 223, 224, 225])] rfl (by decide +kernel)
set_option maxRecDepth 100000 in
theorem zi_wsL_law_r35 : GoodIn lw_tbl wsL_law_r35 := goodIn_pc bsT bsT_e _ [(3, [226, 227, 228, 229, 230, 231, 232, 233, 234, 235, 236, 237, 238, 239]), (4, [0, 1, 2, 3, 4, 5, 6, 7]), (1, [14]), (4, [8])] rfl (by decide +kernel)
set_option maxRecDepth 100000 in
theorem zi_wsL_law_r36 : GoodIn lw_tbl wsL_law_r36 := goodIn_pc bsT bsT_e _ [(4, [9, 10, 11, 12, 13, 14, 15, 16, 22, 24]), (0, [12]), (4, [27, 29]), (0, [13]), (4, [34, 35, 36, 37]), (1, [39]), (4, [38, 39, 40, 41, 42])] rfl (by decide +kernel)
set_option maxRecDepth 100000 in
theorem zi_wsL_law_r37 : GoodIn lw_tbl wsL_law_r37 := goodIn_pc bsT bsT_e _ [(4, [44, 43]), (1, [15]), (5, [233, 234, 235, 236]), (4, [170, 179, 177]), (5, [237, 239]), (0, [41]), (6, [0]), (4, [171, 172, 175, 176, 178]), (6, [1, 3]), (0, [42]), (6, [4]), (4, [174])] rfl (by decide +kernel)
set_option maxRecDepth 100000 in
theorem zi_wsL_law_r38 : GoodIn lw_tbl wsL_law_r38 := goodIn_pc bsT bsT_e _ [(4, [173]), (6, [5, 7]), (0, [43]), (6, [8, 9, 10, 11, 13]), (0, [44]), (6, [14, 15, 16, 17, 19]), (0, [45]), (6, [20, 21, 23]), (0, [46]), (6, [24, 25, 27]), (0, [47])] rfl (by decide +kernel)
set_option maxRecDepth 100000 in
theorem zi_wsL_law_r39 : GoodIn lw_tbl wsL_law_r39 := goodIn_pc bsT bsT_e _ [(6, [28, 29, 31]), (0, [48]), (6, [56, 58]), (0, [54]), (6, [59, 49, 51]), (0, [53]), (6, [52, 32, 33, 35]), (0, [49]), (6, [48, 53, 54, 55, 45, 47]), (0, [52]), (6, [40])] rfl (by decide +kernel)
set_option maxRecDepth 100000 in
theorem zi_wsL_law_r40 : GoodIn lw_tbl wsL_law_r40 := goodIn_pc bsT bsT_e _ [(6, [41, 43]), (0, [51]), (6, [44, 36, 37, 39]), (0, [50]), (4, [46, 47, 48, 49]), (1, [41, 43]), (6, [60, 61, 62, 63, 64, 66]), (0, [55]), (6, [67]), (4, [50, 51])] rfl (by decide +kernel)
set_option maxRecDepth 100000 in
theorem zi_wsL_law_r41 : GoodIn lw_tbl wsL_law_r41 := goodIn_pc bsT bsT_e _ [(4, [52, 53]), (6, [68, 69, 70, 71, 72]), (4, [54, 55, 56, 57, 63, 58, 59, 60, 61]), (6, [73, 74, 75, 76, 80, 81]), (4, [64, 65])] rfl (by decide +kernel)
set_option maxRecDepth 100000 in
theorem zi_wsL_law_r42 : GoodIn lw_tbl wsL_law_r42 := goodIn_pc bsT bsT_e _ [(4, [66, 67, 69]), (1, [155, 160]), (4, [70, 71, 68]), (6, [82, 83, 84, 85, 87, 88, 89]), (4, [72, 73, 74, 75, 76, 77]), (6, [90, 91, 92])] rfl (by decide +kernel)
set_option maxRecDepth 100000 in
theorem zi_wsL_law_r43 : GoodIn lw_tbl wsL_law_r43 := goodIn_pc bsT bsT_e _ [(6, [93]), (4, [78, 79, 80, 81]), (1, [157]), (6, [94, 95, 96, 97]), (4, [82, 83, 84, 85, 90, 86, 87, 88, 89]), (6, [102, 103, 104, 105]), (4, [91])] rfl (by decide +kernel)
set_option maxRecDepth 100000 in
theorem zi_wsL_law_r44 : GoodIn lw_tbl wsL_law_r44 := goodIn_pc bsT bsT_e _ [(4, [92, 93, 94]), (1, [178, 181, 183, 179]), (4, [95, 96, 97, 98, 99, 100, 101, 102, 103]), (6, [106, 107, 108, 109, 110, 111, 112, 113])] rfl (by decide +kernel)
set_option maxRecDepth 100000 in
theorem zi_wsL_law_r45 : GoodIn lw_tbl wsL_law_r45 := goodIn_pc bsT bsT_e _ [(4, [104, 105, 106, 107, 108, 109, 110, 111, 112, 113]), (6, [114, 115, 116, 117]), (4, [114, 115, 116, 117]), (6, [118, 119, 120, 121]), (4, [118, 119])] rfl (by decide +kernel)
set_option maxRecDepth 100000 in
theorem zi_wsL_law_r46 : GoodIn lw_tbl wsL_law_r46 := goodIn_pc bsT bsT_e _ [(4, [120, 121, 122]), (6, [122, 123, 124, 125, 126]), (4, [123, 124, 125, 126]), (1, [238]), (6, [127, 128, 129, 130]), (4, [184, 127, 128, 129, 130]), (1, [239]), (6, [131])] rfl (by decide +kernel)
set_option maxRecDepth 100000 in
theorem zi_wsL_law_r47 : GoodIn lw_tbl wsL_law_r47 := goodIn_pc bsT bsT_e _ [(6, [132, 133, 134, 135]), (4, [158]), (6, [136, 138]), (0, [56]), (6, [139]), (4, [131, 132, 133, 134]), (6, [140, 141, 142, 143]), (4, [135, 136, 137, 138]), (6, [144, 145, 146])] rfl (by decide +kernel)
set_option maxRecDepth 100000 in
theorem zi_wsL_law_r48 : GoodIn lw_tbl wsL_law_r48 := goodIn_pc bsT bsT_e _ [(6, [147]), (4, [139, 140, 141, 142, 143, 144]), (1, [16]), (4, [145, 146, 147, 148]), (6, [148, 149, 150, 151, 152, 154]), (0, [57]), (6, [155])] rfl (by decide +kernel)
set_option maxRecDepth 100000 in
theorem zi_wsX60 : GoodIn lw_tbl wsX60 := goodIn_pc bsT bsT_e _ [(2, [2, 4, 6, 8, 10, 12, 14, 16, 18, 20, 22, 24, 26, 28, 30])] (by decide +kernel) (by decide +kernel)
set_option maxRecDepth 100000 in
theorem zi_wsX70 : GoodIn lw_tbl wsX70 := goodIn_pc bsT bsT_e _ [(4, [186, 188, 190, 192, 194, 196, 198, 200, 202, 204, 206, 208, 210, 212, 214, 216, 218, 220, 222, 224, 226, 228, 230, 232, 234, 236, 238]), (5, [0, 2, 4, 6])] (by decide +kernel) (by decide +kernel)
set_option maxRecDepth 100000 in
theorem zi_wsX50 : GoodIn lw_tbl wsX50 := goodIn_pc bsT bsT_e _ [(1, [47, 49, 51, 53, 55])] (by decide +kernel) (by decide +kernel)
set_option maxRecDepth 100000 in
theorem zi_wsX00 : GoodIn lw_tbl wsX00 := goodIn_pc bsT bsT_e _ [(1, [120, 122, 124, 126, 128, 130, 132, 134, 136, 138, 140, 142, 144, 146])] (by decide +kernel) (by decide +kernel)
set_option maxRecDepth 100000 in
theorem zi_wsX20 : GoodIn lw_tbl wsX20 := goodIn_pc bsT bsT_e _ [(1, [161, 163, 165])] (by decide +kernel) (by decide +kernel)
set_option maxRecDepth 100000 in
theorem zi_wsX30 : GoodIn lw_tbl wsX30 := goodIn_pc bsT bsT_e _ [(1, [184, 186, 188, 190])] (by decide +kernel) (by decide +kernel)
set_option maxRecDepth 100000 in
theorem zi_wsX10 : GoodIn lw_tbl wsX10 := goodIn_pc bsT bsT_e _ [(1, [210, 212, 214, 216, 218, 220, 222, 224])] (by decide +kernel) (by decide +kernel)
set_option maxRecDepth 100000 in
theorem zi_wsX40 : GoodIn lw_tbl wsX40 := goodIn_pc bsT bsT_e _ [(1, [84, 86, 88, 90])] (by decide +kernel) (by decide +kernel)
theorem wsL_law_in : ∀ w ∈ wsL_law, w ∈ lw_tbl := fun w h => ((goodIn_app (goodIn_app (goodIn_app (goodIn_app (goodIn_app (goodIn_app (goodIn_app (goodIn_app (goodIn_app (goodIn_app zi_wsL_law_r1 (goodIn_app zi_wsL_law_r2 (goodIn_app zi_wsL_law_r3 (goodIn_app zi_wsL_law_r4 (goodIn_app zi_wsL_law_r5 (goodIn_app zi_wsL_law_r6 (goodIn_app zi_wsL_law_r7 (goodIn_app zi_wsL_law_r8 (goodIn_app zi_wsL_law_r9 (goodIn_app zi_wsL_law_r10 (goodIn_app zi_wsL_law_r11 (goodIn_app zi_wsL_law_r12 (goodIn_app zi_wsL_law_r13 (goodIn_app zi_wsL_law_r14 (goodIn_app zi_wsL_law_r15 (goodIn_app zi_wsL_law_r16 (goodIn_app zi_wsL_law_r17 (goodIn_app zi_wsL_law_r18 (goodIn_app zi_wsL_law_r19 (goodIn_app zi_wsL_law_r20 (goodIn_app zi_wsL_law_r21 (goodIn_app zi_wsL_law_r22 (goodIn_app zi_wsL_law_r23 (goodIn_app zi_wsL_law_r24 (goodIn_app zi_wsL_law_r25 (goodIn_app zi_wsL_law_r26 (goodIn_app zi_wsL_law_r27 (goodIn_app zi_wsL_law_r28 (goodIn_app zi_wsL_law_r29 (goodIn_app zi_wsL_law_r30 (goodIn_app zi_wsL_law_r31 (goodIn_app zi_wsL_law_r32 (goodIn_app zi_wsL_law_r33 (goodIn_app zi_wsL_law_r34 (goodIn_app zi_wsL_law_r35 (goodIn_app zi_wsL_law_r36 (goodIn_app zi_wsL_law_r37 (goodIn_app zi_wsL_law_r38 (goodIn_app zi_wsL_law_r39 (goodIn_app zi_wsL_law_r40 (goodIn_app zi_wsL_law_r41 (goodIn_app zi_wsL_law_r42 (goodIn_app zi_wsL_law_r43 (goodIn_app zi_wsL_law_r44 (goodIn_app zi_wsL_law_r45 (goodIn_app zi_wsL_law_r46 (goodIn_app zi_wsL_law_r47 (zi_wsL_law_r48)))))))))))))))))))))))))))))))))))))))))))))))) zi_wsX60) zi_wsX70) zi_wsX50) zi_wsX00) zi_wsX20) zi_wsX30) zi_wsX10) zi_wsX40) (fun w h => absurd h List.not_mem_nil) : GoodIn lw_tbl wsL_law) w h).1
theorem inlX0 : ∀ w ∈ wsX00, w ∈ wsL_law := fun _ h => List.mem_append_left _ (List.mem_append_left _ (List.mem_append_left _ (List.mem_append_left _ (List.mem_append_left _ (List.mem_append_right _ h)))))
theorem inX0 : ∀ w ∈ wsX00, w ∈ lw_tbl := fun w h => wsL_law_in w (inlX0 w h)
theorem inlX1 : ∀ w ∈ wsX10, w ∈ wsL_law := fun _ h => List.mem_append_left _ (List.mem_append_left _ (List.mem_append_right _ h))
theorem inX1 : ∀ w ∈ wsX10, w ∈ lw_tbl := fun w h => wsL_law_in w (inlX1 w h)
theorem inlX2 : ∀ w ∈ wsX20, w ∈ wsL_law := fun _ h => List.mem_append_left _ (List.mem_append_left _ (List.mem_append_left _ (List.mem_append_left _ (List.mem_append_right _ h))))
theorem inX2 : ∀ w ∈ wsX20, w ∈ lw_tbl := fun w h => wsL_law_in w (inlX2 w h)
theorem inlX3 : ∀ w ∈ wsX30, w ∈ wsL_law := fun _ h => List.mem_append_left _ (List.mem_append_left _ (List.mem_append_left _ (List.mem_append_right _ h)))
theorem inX3 : ∀ w ∈ wsX30, w ∈ lw_tbl := fun w h => wsL_law_in w (inlX3 w h)
theorem inlX4 : ∀ w ∈ wsX40, w ∈ wsL_law := fun _ h => List.mem_append_left _ (List.mem_append_right _ h)
theorem inX4 : ∀ w ∈ wsX40, w ∈ lw_tbl := fun w h => wsL_law_in w (inlX4 w h)
theorem inlX5 : ∀ w ∈ wsX50, w ∈ wsL_law := fun _ h => List.mem_append_left _ (List.mem_append_left _ (List.mem_append_left _ (List.mem_append_left _ (List.mem_append_left _ (List.mem_append_left _ (List.mem_append_right _ h))))))
theorem inX5 : ∀ w ∈ wsX50, w ∈ lw_tbl := fun w h => wsL_law_in w (inlX5 w h)
theorem inlX6 : ∀ w ∈ wsX60, w ∈ wsL_law := fun _ h => List.mem_append_left _ (List.mem_append_left _ (List.mem_append_left _ (List.mem_append_left _ (List.mem_append_left _ (List.mem_append_left _ (List.mem_append_left _ (List.mem_append_left _ (List.mem_append_right _ h))))))))
theorem inX6 : ∀ w ∈ wsX60, w ∈ lw_tbl := fun w h => wsL_law_in w (inlX6 w h)
theorem inlX7 : ∀ w ∈ wsX70, w ∈ wsL_law := fun _ h => List.mem_append_left _ (List.mem_append_left _ (List.mem_append_left _ (List.mem_append_left _ (List.mem_append_left _ (List.mem_append_left _ (List.mem_append_left _ (List.mem_append_right _ h)))))))
theorem inX7 : ∀ w ∈ wsX70, w ∈ lw_tbl := fun w h => wsL_law_in w (inlX7 w h)
theorem dgL_law_0_ : dchk cL_law [(0, .new 7, 3), (3, .dup, 1), (4, .invokespecial 9, 3), (7, .astore_n 1, 1), (8, .new 10, 3), (11, .dup, 1), (12, .invokespecial 12, 3), (15, .astore_n 2, 1), (16, .iconst 0, 1), (17, .istore_n 3, 1), (18, .iload_n 3, 1), (19, .aload_n 0, 1), (20, .arraylength, 1), (21, .bipush 6, 2), (23, .isub, 1), (24, .if_icmp .gt 1363, 3), (27, .aload_n 0, 1), (28, .iload_n 3, 1), (29, .iaload, 1), (30, .bipush 63, 2), (32, .iand, 1), (33, .tableswitch 1348 0 38 #[171, 214, 247, 280, 313, 356, 379, 412, 435, 458, 481, 504, 537, 570, 603, 636, 669, 702, 745, 758, 781, 824, 847, 860, 893, 916, 959, 1002, 1025, 1048, 1111, 1154, 1187, 1220, 1253, 1276, 1299, 1312, 1325], 171), (204, .aload_n 1, 1), (205, .aload_n 0, 1), (206, .iload_n 3, 1), (207, .iconst 1, 1), (208, .iadd, 1), (209, .iaload, 1), (210, .aload_n 0, 1), (211, .iload_n 3, 1), (212, .iconst 2, 1), (213, .iadd, 1)] = true := by decide +kernel
theorem dL_law_0 : decode cL_law 0 = .ok (.new 7, 3) := dchk_at dgL_law_0_ 0 rfl
theorem dL_law_3 : decode cL_law 3 = .ok (.dup, 1) := dchk_at dgL_law_0_ 1 rfl
theorem dL_law_4 : decode cL_law 4 = .ok (.invokespecial 9, 3) := dchk_at dgL_law_0_ 2 rfl
theorem dL_law_7 : decode cL_law 7 = .ok (.astore_n 1, 1) := dchk_at dgL_law_0_ 3 rfl
theorem dL_law_8 : decode cL_law 8 = .ok (.new 10, 3) := dchk_at dgL_law_0_ 4 rfl
theorem dL_law_11 : decode cL_law 11 = .ok (.dup, 1) := dchk_at dgL_law_0_ 5 rfl
theorem dL_law_12 : decode cL_law 12 = .ok (.invokespecial 12, 3) := dchk_at dgL_law_0_ 6 rfl
theorem dL_law_15 : decode cL_law 15 = .ok (.astore_n 2, 1) := dchk_at dgL_law_0_ 7 rfl
theorem dL_law_16 : decode cL_law 16 = .ok (.iconst 0, 1) := dchk_at dgL_law_0_ 8 rfl
theorem dL_law_17 : decode cL_law 17 = .ok (.istore_n 3, 1) := dchk_at dgL_law_0_ 9 rfl
theorem dL_law_18 : decode cL_law 18 = .ok (.iload_n 3, 1) := dchk_at dgL_law_0_ 10 rfl
theorem dL_law_19 : decode cL_law 19 = .ok (.aload_n 0, 1) := dchk_at dgL_law_0_ 11 rfl
theorem dL_law_20 : decode cL_law 20 = .ok (.arraylength, 1) := dchk_at dgL_law_0_ 12 rfl
theorem dL_law_21 : decode cL_law 21 = .ok (.bipush 6, 2) := dchk_at dgL_law_0_ 13 rfl
theorem dL_law_23 : decode cL_law 23 = .ok (.isub, 1) := dchk_at dgL_law_0_ 14 rfl
theorem dL_law_24 : decode cL_law 24 = .ok (.if_icmp .gt 1363, 3) := dchk_at dgL_law_0_ 15 rfl
theorem dL_law_27 : decode cL_law 27 = .ok (.aload_n 0, 1) := dchk_at dgL_law_0_ 16 rfl
theorem dL_law_28 : decode cL_law 28 = .ok (.iload_n 3, 1) := dchk_at dgL_law_0_ 17 rfl
theorem dL_law_29 : decode cL_law 29 = .ok (.iaload, 1) := dchk_at dgL_law_0_ 18 rfl
theorem dL_law_30 : decode cL_law 30 = .ok (.bipush 63, 2) := dchk_at dgL_law_0_ 19 rfl
theorem dL_law_32 : decode cL_law 32 = .ok (.iand, 1) := dchk_at dgL_law_0_ 20 rfl
theorem dL_law_33 : decode cL_law 33 = .ok (.tableswitch 1348 0 38 #[171, 214, 247, 280, 313, 356, 379, 412, 435, 458, 481, 504, 537, 570, 603, 636, 669, 702, 745, 758, 781, 824, 847, 860, 893, 916, 959, 1002, 1025, 1048, 1111, 1154, 1187, 1220, 1253, 1276, 1299, 1312, 1325], 171) := dchk_at dgL_law_0_ 21 rfl
theorem dL_law_204 : decode cL_law 204 = .ok (.aload_n 1, 1) := dchk_at dgL_law_0_ 22 rfl
theorem dL_law_205 : decode cL_law 205 = .ok (.aload_n 0, 1) := dchk_at dgL_law_0_ 23 rfl
theorem dL_law_206 : decode cL_law 206 = .ok (.iload_n 3, 1) := dchk_at dgL_law_0_ 24 rfl
theorem dL_law_207 : decode cL_law 207 = .ok (.iconst 1, 1) := dchk_at dgL_law_0_ 25 rfl
theorem dL_law_208 : decode cL_law 208 = .ok (.iadd, 1) := dchk_at dgL_law_0_ 26 rfl
theorem dL_law_209 : decode cL_law 209 = .ok (.iaload, 1) := dchk_at dgL_law_0_ 27 rfl
theorem dL_law_210 : decode cL_law 210 = .ok (.aload_n 0, 1) := dchk_at dgL_law_0_ 28 rfl
theorem dL_law_211 : decode cL_law 211 = .ok (.iload_n 3, 1) := dchk_at dgL_law_0_ 29 rfl
theorem dL_law_212 : decode cL_law 212 = .ok (.iconst 2, 1) := dchk_at dgL_law_0_ 30 rfl
theorem dL_law_213 : decode cL_law 213 = .ok (.iadd, 1) := dchk_at dgL_law_0_ 31 rfl
theorem dgL_law_214_ : dchk cL_law [(214, .iaload, 1), (215, .aload_n 0, 1), (216, .iload_n 3, 1), (217, .iconst 3, 1), (218, .iadd, 1), (219, .iaload, 1), (220, .invokevirtual 13, 3), (223, .pop, 1), (224, .aload_n 2, 1), (225, .aload_n 0, 1), (226, .iload_n 3, 1), (227, .iconst 1, 1), (228, .iadd, 1), (229, .iaload, 1), (230, .aload_n 0, 1), (231, .iload_n 3, 1), (232, .iconst 2, 1), (233, .iadd, 1), (234, .iaload, 1), (235, .aload_n 0, 1), (236, .iload_n 3, 1), (237, .iconst 3, 1), (238, .iadd, 1), (239, .iaload, 1), (240, .invokevirtual 17, 3), (243, .pop, 1), (244, .goto 1137, 3), (247, .aload_n 1, 1), (248, .aload_n 0, 1), (249, .iload_n 3, 1), (250, .iconst 1, 1), (251, .iadd, 1)] = true := by decide +kernel
theorem dL_law_214 : decode cL_law 214 = .ok (.iaload, 1) := dchk_at dgL_law_214_ 0 rfl
theorem dL_law_215 : decode cL_law 215 = .ok (.aload_n 0, 1) := dchk_at dgL_law_214_ 1 rfl
theorem dL_law_216 : decode cL_law 216 = .ok (.iload_n 3, 1) := dchk_at dgL_law_214_ 2 rfl
theorem dL_law_217 : decode cL_law 217 = .ok (.iconst 3, 1) := dchk_at dgL_law_214_ 3 rfl
theorem dL_law_218 : decode cL_law 218 = .ok (.iadd, 1) := dchk_at dgL_law_214_ 4 rfl
theorem dL_law_219 : decode cL_law 219 = .ok (.iaload, 1) := dchk_at dgL_law_214_ 5 rfl
theorem dL_law_220 : decode cL_law 220 = .ok (.invokevirtual 13, 3) := dchk_at dgL_law_214_ 6 rfl
theorem dL_law_223 : decode cL_law 223 = .ok (.pop, 1) := dchk_at dgL_law_214_ 7 rfl
theorem dL_law_224 : decode cL_law 224 = .ok (.aload_n 2, 1) := dchk_at dgL_law_214_ 8 rfl
theorem dL_law_225 : decode cL_law 225 = .ok (.aload_n 0, 1) := dchk_at dgL_law_214_ 9 rfl
theorem dL_law_226 : decode cL_law 226 = .ok (.iload_n 3, 1) := dchk_at dgL_law_214_ 10 rfl
theorem dL_law_227 : decode cL_law 227 = .ok (.iconst 1, 1) := dchk_at dgL_law_214_ 11 rfl
theorem dL_law_228 : decode cL_law 228 = .ok (.iadd, 1) := dchk_at dgL_law_214_ 12 rfl
theorem dL_law_229 : decode cL_law 229 = .ok (.iaload, 1) := dchk_at dgL_law_214_ 13 rfl
theorem dL_law_230 : decode cL_law 230 = .ok (.aload_n 0, 1) := dchk_at dgL_law_214_ 14 rfl
theorem dL_law_231 : decode cL_law 231 = .ok (.iload_n 3, 1) := dchk_at dgL_law_214_ 15 rfl
theorem dL_law_232 : decode cL_law 232 = .ok (.iconst 2, 1) := dchk_at dgL_law_214_ 16 rfl
theorem dL_law_233 : decode cL_law 233 = .ok (.iadd, 1) := dchk_at dgL_law_214_ 17 rfl
theorem dL_law_234 : decode cL_law 234 = .ok (.iaload, 1) := dchk_at dgL_law_214_ 18 rfl
theorem dL_law_235 : decode cL_law 235 = .ok (.aload_n 0, 1) := dchk_at dgL_law_214_ 19 rfl
theorem dL_law_236 : decode cL_law 236 = .ok (.iload_n 3, 1) := dchk_at dgL_law_214_ 20 rfl
theorem dL_law_237 : decode cL_law 237 = .ok (.iconst 3, 1) := dchk_at dgL_law_214_ 21 rfl
theorem dL_law_238 : decode cL_law 238 = .ok (.iadd, 1) := dchk_at dgL_law_214_ 22 rfl
theorem dL_law_239 : decode cL_law 239 = .ok (.iaload, 1) := dchk_at dgL_law_214_ 23 rfl
theorem dL_law_240 : decode cL_law 240 = .ok (.invokevirtual 17, 3) := dchk_at dgL_law_214_ 24 rfl
theorem dL_law_243 : decode cL_law 243 = .ok (.pop, 1) := dchk_at dgL_law_214_ 25 rfl
theorem dL_law_244 : decode cL_law 244 = .ok (.goto 1137, 3) := dchk_at dgL_law_214_ 26 rfl
theorem dL_law_247 : decode cL_law 247 = .ok (.aload_n 1, 1) := dchk_at dgL_law_214_ 27 rfl
theorem dL_law_248 : decode cL_law 248 = .ok (.aload_n 0, 1) := dchk_at dgL_law_214_ 28 rfl
theorem dL_law_249 : decode cL_law 249 = .ok (.iload_n 3, 1) := dchk_at dgL_law_214_ 29 rfl
theorem dL_law_250 : decode cL_law 250 = .ok (.iconst 1, 1) := dchk_at dgL_law_214_ 30 rfl
theorem dL_law_251 : decode cL_law 251 = .ok (.iadd, 1) := dchk_at dgL_law_214_ 31 rfl
theorem dgL_law_252_ : dchk cL_law [(252, .iaload, 1), (253, .aload_n 0, 1), (254, .iload_n 3, 1), (255, .iconst 2, 1), (256, .iadd, 1), (257, .iaload, 1), (258, .invokevirtual 18, 3), (261, .pop, 1), (262, .aload_n 2, 1), (263, .aload_n 0, 1), (264, .iload_n 3, 1), (265, .iconst 1, 1), (266, .iadd, 1), (267, .iaload, 1), (268, .aload_n 0, 1), (269, .iload_n 3, 1), (270, .iconst 2, 1), (271, .iadd, 1), (272, .iaload, 1), (273, .invokevirtual 22, 3), (276, .pop, 1), (277, .goto 1104, 3), (280, .aload_n 1, 1), (281, .aload_n 0, 1), (282, .iload_n 3, 1), (283, .iconst 1, 1), (284, .iadd, 1), (285, .iaload, 1), (286, .aload_n 0, 1), (287, .iload_n 3, 1), (288, .iconst 2, 1), (289, .iadd, 1)] = true := by decide +kernel
theorem dL_law_252 : decode cL_law 252 = .ok (.iaload, 1) := dchk_at dgL_law_252_ 0 rfl
theorem dL_law_253 : decode cL_law 253 = .ok (.aload_n 0, 1) := dchk_at dgL_law_252_ 1 rfl
theorem dL_law_254 : decode cL_law 254 = .ok (.iload_n 3, 1) := dchk_at dgL_law_252_ 2 rfl
theorem dL_law_255 : decode cL_law 255 = .ok (.iconst 2, 1) := dchk_at dgL_law_252_ 3 rfl
theorem dL_law_256 : decode cL_law 256 = .ok (.iadd, 1) := dchk_at dgL_law_252_ 4 rfl
theorem dL_law_257 : decode cL_law 257 = .ok (.iaload, 1) := dchk_at dgL_law_252_ 5 rfl
theorem dL_law_258 : decode cL_law 258 = .ok (.invokevirtual 18, 3) := dchk_at dgL_law_252_ 6 rfl
theorem dL_law_261 : decode cL_law 261 = .ok (.pop, 1) := dchk_at dgL_law_252_ 7 rfl
theorem dL_law_262 : decode cL_law 262 = .ok (.aload_n 2, 1) := dchk_at dgL_law_252_ 8 rfl
theorem dL_law_263 : decode cL_law 263 = .ok (.aload_n 0, 1) := dchk_at dgL_law_252_ 9 rfl
theorem dL_law_264 : decode cL_law 264 = .ok (.iload_n 3, 1) := dchk_at dgL_law_252_ 10 rfl
theorem dL_law_265 : decode cL_law 265 = .ok (.iconst 1, 1) := dchk_at dgL_law_252_ 11 rfl
theorem dL_law_266 : decode cL_law 266 = .ok (.iadd, 1) := dchk_at dgL_law_252_ 12 rfl
theorem dL_law_267 : decode cL_law 267 = .ok (.iaload, 1) := dchk_at dgL_law_252_ 13 rfl
theorem dL_law_268 : decode cL_law 268 = .ok (.aload_n 0, 1) := dchk_at dgL_law_252_ 14 rfl
theorem dL_law_269 : decode cL_law 269 = .ok (.iload_n 3, 1) := dchk_at dgL_law_252_ 15 rfl
theorem dL_law_270 : decode cL_law 270 = .ok (.iconst 2, 1) := dchk_at dgL_law_252_ 16 rfl
theorem dL_law_271 : decode cL_law 271 = .ok (.iadd, 1) := dchk_at dgL_law_252_ 17 rfl
theorem dL_law_272 : decode cL_law 272 = .ok (.iaload, 1) := dchk_at dgL_law_252_ 18 rfl
theorem dL_law_273 : decode cL_law 273 = .ok (.invokevirtual 22, 3) := dchk_at dgL_law_252_ 19 rfl
theorem dL_law_276 : decode cL_law 276 = .ok (.pop, 1) := dchk_at dgL_law_252_ 20 rfl
theorem dL_law_277 : decode cL_law 277 = .ok (.goto 1104, 3) := dchk_at dgL_law_252_ 21 rfl
theorem dL_law_280 : decode cL_law 280 = .ok (.aload_n 1, 1) := dchk_at dgL_law_252_ 22 rfl
theorem dL_law_281 : decode cL_law 281 = .ok (.aload_n 0, 1) := dchk_at dgL_law_252_ 23 rfl
theorem dL_law_282 : decode cL_law 282 = .ok (.iload_n 3, 1) := dchk_at dgL_law_252_ 24 rfl
theorem dL_law_283 : decode cL_law 283 = .ok (.iconst 1, 1) := dchk_at dgL_law_252_ 25 rfl
theorem dL_law_284 : decode cL_law 284 = .ok (.iadd, 1) := dchk_at dgL_law_252_ 26 rfl
theorem dL_law_285 : decode cL_law 285 = .ok (.iaload, 1) := dchk_at dgL_law_252_ 27 rfl
theorem dL_law_286 : decode cL_law 286 = .ok (.aload_n 0, 1) := dchk_at dgL_law_252_ 28 rfl
theorem dL_law_287 : decode cL_law 287 = .ok (.iload_n 3, 1) := dchk_at dgL_law_252_ 29 rfl
theorem dL_law_288 : decode cL_law 288 = .ok (.iconst 2, 1) := dchk_at dgL_law_252_ 30 rfl
theorem dL_law_289 : decode cL_law 289 = .ok (.iadd, 1) := dchk_at dgL_law_252_ 31 rfl
theorem dgL_law_290_ : dchk cL_law [(290, .iaload, 1), (291, .invokevirtual 23, 3), (294, .pop, 1), (295, .aload_n 2, 1), (296, .aload_n 0, 1), (297, .iload_n 3, 1), (298, .iconst 1, 1), (299, .iadd, 1), (300, .iaload, 1), (301, .aload_n 0, 1), (302, .iload_n 3, 1), (303, .iconst 2, 1), (304, .iadd, 1), (305, .iaload, 1), (306, .invokevirtual 26, 3), (309, .pop, 1), (310, .goto 1071, 3), (313, .aload_n 1, 1), (314, .aload_n 0, 1), (315, .iload_n 3, 1), (316, .iconst 1, 1), (317, .iadd, 1), (318, .iaload, 1), (319, .aload_n 0, 1), (320, .iload_n 3, 1), (321, .iconst 2, 1), (322, .iadd, 1), (323, .iaload, 1), (324, .invokevirtual 27, 3), (327, .aload_n 2, 1), (328, .aload_n 0, 1), (329, .iload_n 3, 1)] = true := by decide +kernel
theorem dL_law_290 : decode cL_law 290 = .ok (.iaload, 1) := dchk_at dgL_law_290_ 0 rfl
theorem dL_law_291 : decode cL_law 291 = .ok (.invokevirtual 23, 3) := dchk_at dgL_law_290_ 1 rfl
theorem dL_law_294 : decode cL_law 294 = .ok (.pop, 1) := dchk_at dgL_law_290_ 2 rfl
theorem dL_law_295 : decode cL_law 295 = .ok (.aload_n 2, 1) := dchk_at dgL_law_290_ 3 rfl
theorem dL_law_296 : decode cL_law 296 = .ok (.aload_n 0, 1) := dchk_at dgL_law_290_ 4 rfl
theorem dL_law_297 : decode cL_law 297 = .ok (.iload_n 3, 1) := dchk_at dgL_law_290_ 5 rfl
theorem dL_law_298 : decode cL_law 298 = .ok (.iconst 1, 1) := dchk_at dgL_law_290_ 6 rfl
theorem dL_law_299 : decode cL_law 299 = .ok (.iadd, 1) := dchk_at dgL_law_290_ 7 rfl
theorem dL_law_300 : decode cL_law 300 = .ok (.iaload, 1) := dchk_at dgL_law_290_ 8 rfl
theorem dL_law_301 : decode cL_law 301 = .ok (.aload_n 0, 1) := dchk_at dgL_law_290_ 9 rfl
theorem dL_law_302 : decode cL_law 302 = .ok (.iload_n 3, 1) := dchk_at dgL_law_290_ 10 rfl
theorem dL_law_303 : decode cL_law 303 = .ok (.iconst 2, 1) := dchk_at dgL_law_290_ 11 rfl
theorem dL_law_304 : decode cL_law 304 = .ok (.iadd, 1) := dchk_at dgL_law_290_ 12 rfl
theorem dL_law_305 : decode cL_law 305 = .ok (.iaload, 1) := dchk_at dgL_law_290_ 13 rfl
theorem dL_law_306 : decode cL_law 306 = .ok (.invokevirtual 26, 3) := dchk_at dgL_law_290_ 14 rfl
theorem dL_law_309 : decode cL_law 309 = .ok (.pop, 1) := dchk_at dgL_law_290_ 15 rfl
theorem dL_law_310 : decode cL_law 310 = .ok (.goto 1071, 3) := dchk_at dgL_law_290_ 16 rfl
theorem dL_law_313 : decode cL_law 313 = .ok (.aload_n 1, 1) := dchk_at dgL_law_290_ 17 rfl
theorem dL_law_314 : decode cL_law 314 = .ok (.aload_n 0, 1) := dchk_at dgL_law_290_ 18 rfl
theorem dL_law_315 : decode cL_law 315 = .ok (.iload_n 3, 1) := dchk_at dgL_law_290_ 19 rfl
theorem dL_law_316 : decode cL_law 316 = .ok (.iconst 1, 1) := dchk_at dgL_law_290_ 20 rfl
theorem dL_law_317 : decode cL_law 317 = .ok (.iadd, 1) := dchk_at dgL_law_290_ 21 rfl
theorem dL_law_318 : decode cL_law 318 = .ok (.iaload, 1) := dchk_at dgL_law_290_ 22 rfl
theorem dL_law_319 : decode cL_law 319 = .ok (.aload_n 0, 1) := dchk_at dgL_law_290_ 23 rfl
theorem dL_law_320 : decode cL_law 320 = .ok (.iload_n 3, 1) := dchk_at dgL_law_290_ 24 rfl
theorem dL_law_321 : decode cL_law 321 = .ok (.iconst 2, 1) := dchk_at dgL_law_290_ 25 rfl
theorem dL_law_322 : decode cL_law 322 = .ok (.iadd, 1) := dchk_at dgL_law_290_ 26 rfl
theorem dL_law_323 : decode cL_law 323 = .ok (.iaload, 1) := dchk_at dgL_law_290_ 27 rfl
theorem dL_law_324 : decode cL_law 324 = .ok (.invokevirtual 27, 3) := dchk_at dgL_law_290_ 28 rfl
theorem dL_law_327 : decode cL_law 327 = .ok (.aload_n 2, 1) := dchk_at dgL_law_290_ 29 rfl
theorem dL_law_328 : decode cL_law 328 = .ok (.aload_n 0, 1) := dchk_at dgL_law_290_ 30 rfl
theorem dL_law_329 : decode cL_law 329 = .ok (.iload_n 3, 1) := dchk_at dgL_law_290_ 31 rfl
theorem dgL_law_330_ : dchk cL_law [(330, .iconst 1, 1), (331, .iadd, 1), (332, .iaload, 1), (333, .aload_n 0, 1), (334, .iload_n 3, 1), (335, .iconst 2, 1), (336, .iadd, 1), (337, .iaload, 1), (338, .invokevirtual 30, 3), (341, .if_icmp .eq 1040, 3), (346, .aload_n 1, 1), (347, .aload_n 0, 1), (348, .iload_n 3, 1), (349, .iconst 1, 1), (350, .iadd, 1), (351, .iaload, 1), (352, .aload_n 0, 1), (353, .iload_n 3, 1), (354, .iconst 2, 1), (355, .iadd, 1), (356, .iaload, 1), (357, .aload_n 0, 1), (358, .iload_n 3, 1), (359, .iconst 3, 1), (360, .iadd, 1), (361, .iaload, 1), (362, .invokevirtual 31, 3), (365, .pop, 1), (366, .aload_n 2, 1), (367, .aload_n 0, 1), (368, .iload_n 3, 1), (369, .iconst 1, 1)] = true := by decide +kernel
theorem dL_law_330 : decode cL_law 330 = .ok (.iconst 1, 1) := dchk_at dgL_law_330_ 0 rfl
theorem dL_law_331 : decode cL_law 331 = .ok (.iadd, 1) := dchk_at dgL_law_330_ 1 rfl
theorem dL_law_332 : decode cL_law 332 = .ok (.iaload, 1) := dchk_at dgL_law_330_ 2 rfl
theorem dL_law_333 : decode cL_law 333 = .ok (.aload_n 0, 1) := dchk_at dgL_law_330_ 3 rfl
theorem dL_law_334 : decode cL_law 334 = .ok (.iload_n 3, 1) := dchk_at dgL_law_330_ 4 rfl
theorem dL_law_335 : decode cL_law 335 = .ok (.iconst 2, 1) := dchk_at dgL_law_330_ 5 rfl
theorem dL_law_336 : decode cL_law 336 = .ok (.iadd, 1) := dchk_at dgL_law_330_ 6 rfl
theorem dL_law_337 : decode cL_law 337 = .ok (.iaload, 1) := dchk_at dgL_law_330_ 7 rfl
theorem dL_law_338 : decode cL_law 338 = .ok (.invokevirtual 30, 3) := dchk_at dgL_law_330_ 8 rfl
theorem dL_law_341 : decode cL_law 341 = .ok (.if_icmp .eq 1040, 3) := dchk_at dgL_law_330_ 9 rfl
theorem dL_law_346 : decode cL_law 346 = .ok (.aload_n 1, 1) := dchk_at dgL_law_330_ 10 rfl
theorem dL_law_347 : decode cL_law 347 = .ok (.aload_n 0, 1) := dchk_at dgL_law_330_ 11 rfl
theorem dL_law_348 : decode cL_law 348 = .ok (.iload_n 3, 1) := dchk_at dgL_law_330_ 12 rfl
theorem dL_law_349 : decode cL_law 349 = .ok (.iconst 1, 1) := dchk_at dgL_law_330_ 13 rfl
theorem dL_law_350 : decode cL_law 350 = .ok (.iadd, 1) := dchk_at dgL_law_330_ 14 rfl
theorem dL_law_351 : decode cL_law 351 = .ok (.iaload, 1) := dchk_at dgL_law_330_ 15 rfl
theorem dL_law_352 : decode cL_law 352 = .ok (.aload_n 0, 1) := dchk_at dgL_law_330_ 16 rfl
theorem dL_law_353 : decode cL_law 353 = .ok (.iload_n 3, 1) := dchk_at dgL_law_330_ 17 rfl
theorem dL_law_354 : decode cL_law 354 = .ok (.iconst 2, 1) := dchk_at dgL_law_330_ 18 rfl
theorem dL_law_355 : decode cL_law 355 = .ok (.iadd, 1) := dchk_at dgL_law_330_ 19 rfl
theorem dL_law_356 : decode cL_law 356 = .ok (.iaload, 1) := dchk_at dgL_law_330_ 20 rfl
theorem dL_law_357 : decode cL_law 357 = .ok (.aload_n 0, 1) := dchk_at dgL_law_330_ 21 rfl
theorem dL_law_358 : decode cL_law 358 = .ok (.iload_n 3, 1) := dchk_at dgL_law_330_ 22 rfl
theorem dL_law_359 : decode cL_law 359 = .ok (.iconst 3, 1) := dchk_at dgL_law_330_ 23 rfl
theorem dL_law_360 : decode cL_law 360 = .ok (.iadd, 1) := dchk_at dgL_law_330_ 24 rfl
theorem dL_law_361 : decode cL_law 361 = .ok (.iaload, 1) := dchk_at dgL_law_330_ 25 rfl
theorem dL_law_362 : decode cL_law 362 = .ok (.invokevirtual 31, 3) := dchk_at dgL_law_330_ 26 rfl
theorem dL_law_365 : decode cL_law 365 = .ok (.pop, 1) := dchk_at dgL_law_330_ 27 rfl
theorem dL_law_366 : decode cL_law 366 = .ok (.aload_n 2, 1) := dchk_at dgL_law_330_ 28 rfl
theorem dL_law_367 : decode cL_law 367 = .ok (.aload_n 0, 1) := dchk_at dgL_law_330_ 29 rfl
theorem dL_law_368 : decode cL_law 368 = .ok (.iload_n 3, 1) := dchk_at dgL_law_330_ 30 rfl
theorem dL_law_369 : decode cL_law 369 = .ok (.iconst 1, 1) := dchk_at dgL_law_330_ 31 rfl
theorem dgL_law_370_ : dchk cL_law [(370, .iadd, 1), (371, .iaload, 1), (372, .aload_n 0, 1), (373, .iload_n 3, 1), (374, .iconst 2, 1), (375, .iadd, 1), (376, .iaload, 1), (377, .aload_n 0, 1), (378, .iload_n 3, 1), (379, .iconst 3, 1), (380, .iadd, 1), (381, .iaload, 1), (382, .invokevirtual 34, 3), (385, .pop, 1), (386, .goto 995, 3), (389, .aload_n 1, 1), (390, .aload_n 0, 1), (391, .iload_n 3, 1), (392, .iconst 1, 1), (393, .iadd, 1), (394, .iaload, 1), (395, .invokevirtual 35, 3), (398, .pop, 1), (399, .aload_n 2, 1), (400, .aload_n 0, 1), (401, .iload_n 3, 1), (402, .iconst 1, 1), (403, .iadd, 1), (404, .iaload, 1), (405, .invokevirtual 39, 3), (408, .pop, 1), (409, .goto 972, 3)] = true := by decide +kernel
theorem dL_law_370 : decode cL_law 370 = .ok (.iadd, 1) := dchk_at dgL_law_370_ 0 rfl
theorem dL_law_371 : decode cL_law 371 = .ok (.iaload, 1) := dchk_at dgL_law_370_ 1 rfl
theorem dL_law_372 : decode cL_law 372 = .ok (.aload_n 0, 1) := dchk_at dgL_law_370_ 2 rfl
theorem dL_law_373 : decode cL_law 373 = .ok (.iload_n 3, 1) := dchk_at dgL_law_370_ 3 rfl
theorem dL_law_374 : decode cL_law 374 = .ok (.iconst 2, 1) := dchk_at dgL_law_370_ 4 rfl
theorem dL_law_375 : decode cL_law 375 = .ok (.iadd, 1) := dchk_at dgL_law_370_ 5 rfl
theorem dL_law_376 : decode cL_law 376 = .ok (.iaload, 1) := dchk_at dgL_law_370_ 6 rfl
theorem dL_law_377 : decode cL_law 377 = .ok (.aload_n 0, 1) := dchk_at dgL_law_370_ 7 rfl
theorem dL_law_378 : decode cL_law 378 = .ok (.iload_n 3, 1) := dchk_at dgL_law_370_ 8 rfl
theorem dL_law_379 : decode cL_law 379 = .ok (.iconst 3, 1) := dchk_at dgL_law_370_ 9 rfl
theorem dL_law_380 : decode cL_law 380 = .ok (.iadd, 1) := dchk_at dgL_law_370_ 10 rfl
theorem dL_law_381 : decode cL_law 381 = .ok (.iaload, 1) := dchk_at dgL_law_370_ 11 rfl
theorem dL_law_382 : decode cL_law 382 = .ok (.invokevirtual 34, 3) := dchk_at dgL_law_370_ 12 rfl
theorem dL_law_385 : decode cL_law 385 = .ok (.pop, 1) := dchk_at dgL_law_370_ 13 rfl
theorem dL_law_386 : decode cL_law 386 = .ok (.goto 995, 3) := dchk_at dgL_law_370_ 14 rfl
theorem dL_law_389 : decode cL_law 389 = .ok (.aload_n 1, 1) := dchk_at dgL_law_370_ 15 rfl
theorem dL_law_390 : decode cL_law 390 = .ok (.aload_n 0, 1) := dchk_at dgL_law_370_ 16 rfl
theorem dL_law_391 : decode cL_law 391 = .ok (.iload_n 3, 1) := dchk_at dgL_law_370_ 17 rfl
theorem dL_law_392 : decode cL_law 392 = .ok (.iconst 1, 1) := dchk_at dgL_law_370_ 18 rfl
theorem dL_law_393 : decode cL_law 393 = .ok (.iadd, 1) := dchk_at dgL_law_370_ 19 rfl
theorem dL_law_394 : decode cL_law 394 = .ok (.iaload, 1) := dchk_at dgL_law_370_ 20 rfl
theorem dL_law_395 : decode cL_law 395 = .ok (.invokevirtual 35, 3) := dchk_at dgL_law_370_ 21 rfl
theorem dL_law_398 : decode cL_law 398 = .ok (.pop, 1) := dchk_at dgL_law_370_ 22 rfl
theorem dL_law_399 : decode cL_law 399 = .ok (.aload_n 2, 1) := dchk_at dgL_law_370_ 23 rfl
theorem dL_law_400 : decode cL_law 400 = .ok (.aload_n 0, 1) := dchk_at dgL_law_370_ 24 rfl
theorem dL_law_401 : decode cL_law 401 = .ok (.iload_n 3, 1) := dchk_at dgL_law_370_ 25 rfl
theorem dL_law_402 : decode cL_law 402 = .ok (.iconst 1, 1) := dchk_at dgL_law_370_ 26 rfl
theorem dL_law_403 : decode cL_law 403 = .ok (.iadd, 1) := dchk_at dgL_law_370_ 27 rfl
theorem dL_law_404 : decode cL_law 404 = .ok (.iaload, 1) := dchk_at dgL_law_370_ 28 rfl
theorem dL_law_405 : decode cL_law 405 = .ok (.invokevirtual 39, 3) := dchk_at dgL_law_370_ 29 rfl
theorem dL_law_408 : decode cL_law 408 = .ok (.pop, 1) := dchk_at dgL_law_370_ 30 rfl
theorem dL_law_409 : decode cL_law 409 = .ok (.goto 972, 3) := dchk_at dgL_law_370_ 31 rfl
theorem dgL_law_412_ : dchk cL_law [(412, .aload_n 1, 1), (413, .aload_n 0, 1), (414, .iload_n 3, 1), (415, .iconst 1, 1), (416, .iadd, 1), (417, .iaload, 1), (418, .aload_n 0, 1), (419, .iload_n 3, 1), (420, .iconst 2, 1), (421, .iadd, 1), (422, .iaload, 1), (423, .invokevirtual 40, 3), (426, .pop, 1), (427, .aload_n 2, 1), (428, .aload_n 0, 1), (429, .iload_n 3, 1), (430, .iconst 1, 1), (431, .iadd, 1), (432, .iaload, 1), (433, .aload_n 0, 1), (434, .iload_n 3, 1), (435, .iconst 2, 1), (436, .iadd, 1), (437, .iaload, 1), (438, .invokevirtual 43, 3), (441, .pop, 1), (442, .goto 939, 3), (445, .aload_n 1, 1), (446, .aload_n 0, 1), (447, .iload_n 3, 1), (448, .iconst 1, 1), (449, .iadd, 1)] = true := by decide +kernel
theorem dL_law_412 : decode cL_law 412 = .ok (.aload_n 1, 1) := dchk_at dgL_law_412_ 0 rfl
theorem dL_law_413 : decode cL_law 413 = .ok (.aload_n 0, 1) := dchk_at dgL_law_412_ 1 rfl
theorem dL_law_414 : decode cL_law 414 = .ok (.iload_n 3, 1) := dchk_at dgL_law_412_ 2 rfl
theorem dL_law_415 : decode cL_law 415 = .ok (.iconst 1, 1) := dchk_at dgL_law_412_ 3 rfl
theorem dL_law_416 : decode cL_law 416 = .ok (.iadd, 1) := dchk_at dgL_law_412_ 4 rfl
theorem dL_law_417 : decode cL_law 417 = .ok (.iaload, 1) := dchk_at dgL_law_412_ 5 rfl
theorem dL_law_418 : decode cL_law 418 = .ok (.aload_n 0, 1) := dchk_at dgL_law_412_ 6 rfl
theorem dL_law_419 : decode cL_law 419 = .ok (.iload_n 3, 1) := dchk_at dgL_law_412_ 7 rfl
theorem dL_law_420 : decode cL_law 420 = .ok (.iconst 2, 1) := dchk_at dgL_law_412_ 8 rfl
theorem dL_law_421 : decode cL_law 421 = .ok (.iadd, 1) := dchk_at dgL_law_412_ 9 rfl
theorem dL_law_422 : decode cL_law 422 = .ok (.iaload, 1) := dchk_at dgL_law_412_ 10 rfl
theorem dL_law_423 : decode cL_law 423 = .ok (.invokevirtual 40, 3) := dchk_at dgL_law_412_ 11 rfl
theorem dL_law_426 : decode cL_law 426 = .ok (.pop, 1) := dchk_at dgL_law_412_ 12 rfl
theorem dL_law_427 : decode cL_law 427 = .ok (.aload_n 2, 1) := dchk_at dgL_law_412_ 13 rfl
theorem dL_law_428 : decode cL_law 428 = .ok (.aload_n 0, 1) := dchk_at dgL_law_412_ 14 rfl
theorem dL_law_429 : decode cL_law 429 = .ok (.iload_n 3, 1) := dchk_at dgL_law_412_ 15 rfl
theorem dL_law_430 : decode cL_law 430 = .ok (.iconst 1, 1) := dchk_at dgL_law_412_ 16 rfl
theorem dL_law_431 : decode cL_law 431 = .ok (.iadd, 1) := dchk_at dgL_law_412_ 17 rfl
theorem dL_law_432 : decode cL_law 432 = .ok (.iaload, 1) := dchk_at dgL_law_412_ 18 rfl
theorem dL_law_433 : decode cL_law 433 = .ok (.aload_n 0, 1) := dchk_at dgL_law_412_ 19 rfl
theorem dL_law_434 : decode cL_law 434 = .ok (.iload_n 3, 1) := dchk_at dgL_law_412_ 20 rfl
theorem dL_law_435 : decode cL_law 435 = .ok (.iconst 2, 1) := dchk_at dgL_law_412_ 21 rfl
theorem dL_law_436 : decode cL_law 436 = .ok (.iadd, 1) := dchk_at dgL_law_412_ 22 rfl
theorem dL_law_437 : decode cL_law 437 = .ok (.iaload, 1) := dchk_at dgL_law_412_ 23 rfl
theorem dL_law_438 : decode cL_law 438 = .ok (.invokevirtual 43, 3) := dchk_at dgL_law_412_ 24 rfl
theorem dL_law_441 : decode cL_law 441 = .ok (.pop, 1) := dchk_at dgL_law_412_ 25 rfl
theorem dL_law_442 : decode cL_law 442 = .ok (.goto 939, 3) := dchk_at dgL_law_412_ 26 rfl
theorem dL_law_445 : decode cL_law 445 = .ok (.aload_n 1, 1) := dchk_at dgL_law_412_ 27 rfl
theorem dL_law_446 : decode cL_law 446 = .ok (.aload_n 0, 1) := dchk_at dgL_law_412_ 28 rfl
theorem dL_law_447 : decode cL_law 447 = .ok (.iload_n 3, 1) := dchk_at dgL_law_412_ 29 rfl
theorem dL_law_448 : decode cL_law 448 = .ok (.iconst 1, 1) := dchk_at dgL_law_412_ 30 rfl
theorem dL_law_449 : decode cL_law 449 = .ok (.iadd, 1) := dchk_at dgL_law_412_ 31 rfl
theorem dgL_law_450_ : dchk cL_law [(450, .iaload, 1), (451, .invokevirtual 44, 3), (454, .pop, 1), (455, .aload_n 2, 1), (456, .aload_n 0, 1), (457, .iload_n 3, 1), (458, .iconst 1, 1), (459, .iadd, 1), (460, .iaload, 1), (461, .invokevirtual 47, 3), (464, .pop, 1), (465, .goto 916, 3), (468, .aload_n 1, 1), (469, .aload_n 0, 1), (470, .iload_n 3, 1), (471, .iconst 1, 1), (472, .iadd, 1), (473, .iaload, 1), (474, .invokevirtual 48, 3), (477, .pop, 1), (478, .aload_n 2, 1), (479, .aload_n 0, 1), (480, .iload_n 3, 1), (481, .iconst 1, 1), (482, .iadd, 1), (483, .iaload, 1), (484, .invokevirtual 51, 3), (487, .pop, 1), (488, .goto 893, 3), (491, .aload_n 1, 1), (492, .aload_n 0, 1), (493, .iload_n 3, 1)] = true := by decide +kernel
theorem dL_law_450 : decode cL_law 450 = .ok (.iaload, 1) := dchk_at dgL_law_450_ 0 rfl
theorem dL_law_451 : decode cL_law 451 = .ok (.invokevirtual 44, 3) := dchk_at dgL_law_450_ 1 rfl
theorem dL_law_454 : decode cL_law 454 = .ok (.pop, 1) := dchk_at dgL_law_450_ 2 rfl
theorem dL_law_455 : decode cL_law 455 = .ok (.aload_n 2, 1) := dchk_at dgL_law_450_ 3 rfl
theorem dL_law_456 : decode cL_law 456 = .ok (.aload_n 0, 1) := dchk_at dgL_law_450_ 4 rfl
theorem dL_law_457 : decode cL_law 457 = .ok (.iload_n 3, 1) := dchk_at dgL_law_450_ 5 rfl
theorem dL_law_458 : decode cL_law 458 = .ok (.iconst 1, 1) := dchk_at dgL_law_450_ 6 rfl
theorem dL_law_459 : decode cL_law 459 = .ok (.iadd, 1) := dchk_at dgL_law_450_ 7 rfl
theorem dL_law_460 : decode cL_law 460 = .ok (.iaload, 1) := dchk_at dgL_law_450_ 8 rfl
theorem dL_law_461 : decode cL_law 461 = .ok (.invokevirtual 47, 3) := dchk_at dgL_law_450_ 9 rfl
theorem dL_law_464 : decode cL_law 464 = .ok (.pop, 1) := dchk_at dgL_law_450_ 10 rfl
theorem dL_law_465 : decode cL_law 465 = .ok (.goto 916, 3) := dchk_at dgL_law_450_ 11 rfl
theorem dL_law_468 : decode cL_law 468 = .ok (.aload_n 1, 1) := dchk_at dgL_law_450_ 12 rfl
theorem dL_law_469 : decode cL_law 469 = .ok (.aload_n 0, 1) := dchk_at dgL_law_450_ 13 rfl
theorem dL_law_470 : decode cL_law 470 = .ok (.iload_n 3, 1) := dchk_at dgL_law_450_ 14 rfl
theorem dL_law_471 : decode cL_law 471 = .ok (.iconst 1, 1) := dchk_at dgL_law_450_ 15 rfl
theorem dL_law_472 : decode cL_law 472 = .ok (.iadd, 1) := dchk_at dgL_law_450_ 16 rfl
theorem dL_law_473 : decode cL_law 473 = .ok (.iaload, 1) := dchk_at dgL_law_450_ 17 rfl
theorem dL_law_474 : decode cL_law 474 = .ok (.invokevirtual 48, 3) := dchk_at dgL_law_450_ 18 rfl
theorem dL_law_477 : decode cL_law 477 = .ok (.pop, 1) := dchk_at dgL_law_450_ 19 rfl
theorem dL_law_478 : decode cL_law 478 = .ok (.aload_n 2, 1) := dchk_at dgL_law_450_ 20 rfl
theorem dL_law_479 : decode cL_law 479 = .ok (.aload_n 0, 1) := dchk_at dgL_law_450_ 21 rfl
theorem dL_law_480 : decode cL_law 480 = .ok (.iload_n 3, 1) := dchk_at dgL_law_450_ 22 rfl
theorem dL_law_481 : decode cL_law 481 = .ok (.iconst 1, 1) := dchk_at dgL_law_450_ 23 rfl
theorem dL_law_482 : decode cL_law 482 = .ok (.iadd, 1) := dchk_at dgL_law_450_ 24 rfl
theorem dL_law_483 : decode cL_law 483 = .ok (.iaload, 1) := dchk_at dgL_law_450_ 25 rfl
theorem dL_law_484 : decode cL_law 484 = .ok (.invokevirtual 51, 3) := dchk_at dgL_law_450_ 26 rfl
theorem dL_law_487 : decode cL_law 487 = .ok (.pop, 1) := dchk_at dgL_law_450_ 27 rfl
theorem dL_law_488 : decode cL_law 488 = .ok (.goto 893, 3) := dchk_at dgL_law_450_ 28 rfl
theorem dL_law_491 : decode cL_law 491 = .ok (.aload_n 1, 1) := dchk_at dgL_law_450_ 29 rfl
theorem dL_law_492 : decode cL_law 492 = .ok (.aload_n 0, 1) := dchk_at dgL_law_450_ 30 rfl
theorem dL_law_493 : decode cL_law 493 = .ok (.iload_n 3, 1) := dchk_at dgL_law_450_ 31 rfl
theorem dgL_law_494_ : dchk cL_law [(494, .iconst 1, 1), (495, .iadd, 1), (496, .iaload, 1), (497, .invokevirtual 52, 3), (500, .pop, 1), (501, .aload_n 2, 1), (502, .aload_n 0, 1), (503, .iload_n 3, 1), (504, .iconst 1, 1), (505, .iadd, 1), (506, .iaload, 1), (507, .invokevirtual 55, 3), (510, .pop, 1), (511, .goto 870, 3), (514, .aload_n 1, 1), (515, .aload_n 0, 1), (516, .iload_n 3, 1), (517, .iconst 1, 1), (518, .iadd, 1), (519, .iaload, 1), (520, .invokevirtual 56, 3), (523, .pop, 1), (524, .aload_n 2, 1), (525, .aload_n 0, 1), (526, .iload_n 3, 1), (527, .iconst 1, 1), (528, .iadd, 1), (529, .iaload, 1), (530, .invokevirtual 59, 3), (533, .pop, 1), (534, .goto 847, 3), (537, .aload_n 1, 1)] = true := by decide +kernel
theorem dL_law_494 : decode cL_law 494 = .ok (.iconst 1, 1) := dchk_at dgL_law_494_ 0 rfl
theorem dL_law_495 : decode cL_law 495 = .ok (.iadd, 1) := dchk_at dgL_law_494_ 1 rfl
theorem dL_law_496 : decode cL_law 496 = .ok (.iaload, 1) := dchk_at dgL_law_494_ 2 rfl
theorem dL_law_497 : decode cL_law 497 = .ok (.invokevirtual 52, 3) := dchk_at dgL_law_494_ 3 rfl
theorem dL_law_500 : decode cL_law 500 = .ok (.pop, 1) := dchk_at dgL_law_494_ 4 rfl
theorem dL_law_501 : decode cL_law 501 = .ok (.aload_n 2, 1) := dchk_at dgL_law_494_ 5 rfl
theorem dL_law_502 : decode cL_law 502 = .ok (.aload_n 0, 1) := dchk_at dgL_law_494_ 6 rfl
theorem dL_law_503 : decode cL_law 503 = .ok (.iload_n 3, 1) := dchk_at dgL_law_494_ 7 rfl
theorem dL_law_504 : decode cL_law 504 = .ok (.iconst 1, 1) := dchk_at dgL_law_494_ 8 rfl
theorem dL_law_505 : decode cL_law 505 = .ok (.iadd, 1) := dchk_at dgL_law_494_ 9 rfl
theorem dL_law_506 : decode cL_law 506 = .ok (.iaload, 1) := dchk_at dgL_law_494_ 10 rfl
theorem dL_law_507 : decode cL_law 507 = .ok (.invokevirtual 55, 3) := dchk_at dgL_law_494_ 11 rfl
theorem dL_law_510 : decode cL_law 510 = .ok (.pop, 1) := dchk_at dgL_law_494_ 12 rfl
theorem dL_law_511 : decode cL_law 511 = .ok (.goto 870, 3) := dchk_at dgL_law_494_ 13 rfl
theorem dL_law_514 : decode cL_law 514 = .ok (.aload_n 1, 1) := dchk_at dgL_law_494_ 14 rfl
theorem dL_law_515 : decode cL_law 515 = .ok (.aload_n 0, 1) := dchk_at dgL_law_494_ 15 rfl
theorem dL_law_516 : decode cL_law 516 = .ok (.iload_n 3, 1) := dchk_at dgL_law_494_ 16 rfl
theorem dL_law_517 : decode cL_law 517 = .ok (.iconst 1, 1) := dchk_at dgL_law_494_ 17 rfl
theorem dL_law_518 : decode cL_law 518 = .ok (.iadd, 1) := dchk_at dgL_law_494_ 18 rfl
theorem dL_law_519 : decode cL_law 519 = .ok (.iaload, 1) := dchk_at dgL_law_494_ 19 rfl
theorem dL_law_520 : decode cL_law 520 = .ok (.invokevirtual 56, 3) := dchk_at dgL_law_494_ 20 rfl
theorem dL_law_523 : decode cL_law 523 = .ok (.pop, 1) := dchk_at dgL_law_494_ 21 rfl
theorem dL_law_524 : decode cL_law 524 = .ok (.aload_n 2, 1) := dchk_at dgL_law_494_ 22 rfl
theorem dL_law_525 : decode cL_law 525 = .ok (.aload_n 0, 1) := dchk_at dgL_law_494_ 23 rfl
theorem dL_law_526 : decode cL_law 526 = .ok (.iload_n 3, 1) := dchk_at dgL_law_494_ 24 rfl
theorem dL_law_527 : decode cL_law 527 = .ok (.iconst 1, 1) := dchk_at dgL_law_494_ 25 rfl
theorem dL_law_528 : decode cL_law 528 = .ok (.iadd, 1) := dchk_at dgL_law_494_ 26 rfl
theorem dL_law_529 : decode cL_law 529 = .ok (.iaload, 1) := dchk_at dgL_law_494_ 27 rfl
theorem dL_law_530 : decode cL_law 530 = .ok (.invokevirtual 59, 3) := dchk_at dgL_law_494_ 28 rfl
theorem dL_law_533 : decode cL_law 533 = .ok (.pop, 1) := dchk_at dgL_law_494_ 29 rfl
theorem dL_law_534 : decode cL_law 534 = .ok (.goto 847, 3) := dchk_at dgL_law_494_ 30 rfl
theorem dL_law_537 : decode cL_law 537 = .ok (.aload_n 1, 1) := dchk_at dgL_law_494_ 31 rfl
theorem dgL_law_538_ : dchk cL_law [(538, .aload_n 0, 1), (539, .iload_n 3, 1), (540, .iconst 1, 1), (541, .iadd, 1), (542, .iaload, 1), (543, .aload_n 0, 1), (544, .iload_n 3, 1), (545, .iconst 2, 1), (546, .iadd, 1), (547, .iaload, 1), (548, .invokevirtual 60, 3), (551, .pop, 1), (552, .aload_n 2, 1), (553, .aload_n 0, 1), (554, .iload_n 3, 1), (555, .iconst 1, 1), (556, .iadd, 1), (557, .iaload, 1), (558, .aload_n 0, 1), (559, .iload_n 3, 1), (560, .iconst 2, 1), (561, .iadd, 1), (562, .iaload, 1), (563, .invokevirtual 63, 3), (566, .pop, 1), (567, .goto 814, 3), (570, .aload_n 1, 1), (571, .aload_n 0, 1), (572, .iload_n 3, 1), (573, .iconst 1, 1), (574, .iadd, 1), (575, .iaload, 1)] = true := by decide +kernel
theorem dL_law_538 : decode cL_law 538 = .ok (.aload_n 0, 1) := dchk_at dgL_law_538_ 0 rfl
theorem dL_law_539 : decode cL_law 539 = .ok (.iload_n 3, 1) := dchk_at dgL_law_538_ 1 rfl
theorem dL_law_540 : decode cL_law 540 = .ok (.iconst 1, 1) := dchk_at dgL_law_538_ 2 rfl
theorem dL_law_541 : decode cL_law 541 = .ok (.iadd, 1) := dchk_at dgL_law_538_ 3 rfl
theorem dL_law_542 : decode cL_law 542 = .ok (.iaload, 1) := dchk_at dgL_law_538_ 4 rfl
theorem dL_law_543 : decode cL_law 543 = .ok (.aload_n 0, 1) := dchk_at dgL_law_538_ 5 rfl
theorem dL_law_544 : decode cL_law 544 = .ok (.iload_n 3, 1) := dchk_at dgL_law_538_ 6 rfl
theorem dL_law_545 : decode cL_law 545 = .ok (.iconst 2, 1) := dchk_at dgL_law_538_ 7 rfl
theorem dL_law_546 : decode cL_law 546 = .ok (.iadd, 1) := dchk_at dgL_law_538_ 8 rfl
theorem dL_law_547 : decode cL_law 547 = .ok (.iaload, 1) := dchk_at dgL_law_538_ 9 rfl
theorem dL_law_548 : decode cL_law 548 = .ok (.invokevirtual 60, 3) := dchk_at dgL_law_538_ 10 rfl
theorem dL_law_551 : decode cL_law 551 = .ok (.pop, 1) := dchk_at dgL_law_538_ 11 rfl
theorem dL_law_552 : decode cL_law 552 = .ok (.aload_n 2, 1) := dchk_at dgL_law_538_ 12 rfl
theorem dL_law_553 : decode cL_law 553 = .ok (.aload_n 0, 1) := dchk_at dgL_law_538_ 13 rfl
theorem dL_law_554 : decode cL_law 554 = .ok (.iload_n 3, 1) := dchk_at dgL_law_538_ 14 rfl
theorem dL_law_555 : decode cL_law 555 = .ok (.iconst 1, 1) := dchk_at dgL_law_538_ 15 rfl
theorem dL_law_556 : decode cL_law 556 = .ok (.iadd, 1) := dchk_at dgL_law_538_ 16 rfl
theorem dL_law_557 : decode cL_law 557 = .ok (.iaload, 1) := dchk_at dgL_law_538_ 17 rfl
theorem dL_law_558 : decode cL_law 558 = .ok (.aload_n 0, 1) := dchk_at dgL_law_538_ 18 rfl
theorem dL_law_559 : decode cL_law 559 = .ok (.iload_n 3, 1) := dchk_at dgL_law_538_ 19 rfl
theorem dL_law_560 : decode cL_law 560 = .ok (.iconst 2, 1) := dchk_at dgL_law_538_ 20 rfl
theorem dL_law_561 : decode cL_law 561 = .ok (.iadd, 1) := dchk_at dgL_law_538_ 21 rfl
theorem dL_law_562 : decode cL_law 562 = .ok (.iaload, 1) := dchk_at dgL_law_538_ 22 rfl
theorem dL_law_563 : decode cL_law 563 = .ok (.invokevirtual 63, 3) := dchk_at dgL_law_538_ 23 rfl
theorem dL_law_566 : decode cL_law 566 = .ok (.pop, 1) := dchk_at dgL_law_538_ 24 rfl
theorem dL_law_567 : decode cL_law 567 = .ok (.goto 814, 3) := dchk_at dgL_law_538_ 25 rfl
theorem dL_law_570 : decode cL_law 570 = .ok (.aload_n 1, 1) := dchk_at dgL_law_538_ 26 rfl
theorem dL_law_571 : decode cL_law 571 = .ok (.aload_n 0, 1) := dchk_at dgL_law_538_ 27 rfl
theorem dL_law_572 : decode cL_law 572 = .ok (.iload_n 3, 1) := dchk_at dgL_law_538_ 28 rfl
theorem dL_law_573 : decode cL_law 573 = .ok (.iconst 1, 1) := dchk_at dgL_law_538_ 29 rfl
theorem dL_law_574 : decode cL_law 574 = .ok (.iadd, 1) := dchk_at dgL_law_538_ 30 rfl
theorem dL_law_575 : decode cL_law 575 = .ok (.iaload, 1) := dchk_at dgL_law_538_ 31 rfl
theorem dgL_law_576_ : dchk cL_law [(576, .aload_n 0, 1), (577, .iload_n 3, 1), (578, .iconst 2, 1), (579, .iadd, 1), (580, .iaload, 1), (581, .invokevirtual 64, 3), (584, .pop, 1), (585, .aload_n 2, 1), (586, .aload_n 0, 1), (587, .iload_n 3, 1), (588, .iconst 1, 1), (589, .iadd, 1), (590, .iaload, 1), (591, .aload_n 0, 1), (592, .iload_n 3, 1), (593, .iconst 2, 1), (594, .iadd, 1), (595, .iaload, 1), (596, .invokevirtual 67, 3), (599, .pop, 1), (600, .goto 781, 3), (603, .aload_n 1, 1), (604, .aload_n 0, 1), (605, .iload_n 3, 1), (606, .iconst 1, 1), (607, .iadd, 1), (608, .iaload, 1), (609, .aload_n 0, 1), (610, .iload_n 3, 1), (611, .iconst 2, 1), (612, .iadd, 1), (613, .iaload, 1)] = true := by decide +kernel
theorem dL_law_576 : decode cL_law 576 = .ok (.aload_n 0, 1) := dchk_at dgL_law_576_ 0 rfl
theorem dL_law_577 : decode cL_law 577 = .ok (.iload_n 3, 1) := dchk_at dgL_law_576_ 1 rfl
theorem dL_law_578 : decode cL_law 578 = .ok (.iconst 2, 1) := dchk_at dgL_law_576_ 2 rfl
theorem dL_law_579 : decode cL_law 579 = .ok (.iadd, 1) := dchk_at dgL_law_576_ 3 rfl
theorem dL_law_580 : decode cL_law 580 = .ok (.iaload, 1) := dchk_at dgL_law_576_ 4 rfl
theorem dL_law_581 : decode cL_law 581 = .ok (.invokevirtual 64, 3) := dchk_at dgL_law_576_ 5 rfl
theorem dL_law_584 : decode cL_law 584 = .ok (.pop, 1) := dchk_at dgL_law_576_ 6 rfl
theorem dL_law_585 : decode cL_law 585 = .ok (.aload_n 2, 1) := dchk_at dgL_law_576_ 7 rfl
theorem dL_law_586 : decode cL_law 586 = .ok (.aload_n 0, 1) := dchk_at dgL_law_576_ 8 rfl
theorem dL_law_587 : decode cL_law 587 = .ok (.iload_n 3, 1) := dchk_at dgL_law_576_ 9 rfl
theorem dL_law_588 : decode cL_law 588 = .ok (.iconst 1, 1) := dchk_at dgL_law_576_ 10 rfl
theorem dL_law_589 : decode cL_law 589 = .ok (.iadd, 1) := dchk_at dgL_law_576_ 11 rfl
theorem dL_law_590 : decode cL_law 590 = .ok (.iaload, 1) := dchk_at dgL_law_576_ 12 rfl
theorem dL_law_591 : decode cL_law 591 = .ok (.aload_n 0, 1) := dchk_at dgL_law_576_ 13 rfl
theorem dL_law_592 : decode cL_law 592 = .ok (.iload_n 3, 1) := dchk_at dgL_law_576_ 14 rfl
theorem dL_law_593 : decode cL_law 593 = .ok (.iconst 2, 1) := dchk_at dgL_law_576_ 15 rfl
theorem dL_law_594 : decode cL_law 594 = .ok (.iadd, 1) := dchk_at dgL_law_576_ 16 rfl
theorem dL_law_595 : decode cL_law 595 = .ok (.iaload, 1) := dchk_at dgL_law_576_ 17 rfl
theorem dL_law_596 : decode cL_law 596 = .ok (.invokevirtual 67, 3) := dchk_at dgL_law_576_ 18 rfl
theorem dL_law_599 : decode cL_law 599 = .ok (.pop, 1) := dchk_at dgL_law_576_ 19 rfl
theorem dL_law_600 : decode cL_law 600 = .ok (.goto 781, 3) := dchk_at dgL_law_576_ 20 rfl
theorem dL_law_603 : decode cL_law 603 = .ok (.aload_n 1, 1) := dchk_at dgL_law_576_ 21 rfl
theorem dL_law_604 : decode cL_law 604 = .ok (.aload_n 0, 1) := dchk_at dgL_law_576_ 22 rfl
theorem dL_law_605 : decode cL_law 605 = .ok (.iload_n 3, 1) := dchk_at dgL_law_576_ 23 rfl
theorem dL_law_606 : decode cL_law 606 = .ok (.iconst 1, 1) := dchk_at dgL_law_576_ 24 rfl
theorem dL_law_607 : decode cL_law 607 = .ok (.iadd, 1) := dchk_at dgL_law_576_ 25 rfl
theorem dL_law_608 : decode cL_law 608 = .ok (.iaload, 1) := dchk_at dgL_law_576_ 26 rfl
theorem dL_law_609 : decode cL_law 609 = .ok (.aload_n 0, 1) := dchk_at dgL_law_576_ 27 rfl
theorem dL_law_610 : decode cL_law 610 = .ok (.iload_n 3, 1) := dchk_at dgL_law_576_ 28 rfl
theorem dL_law_611 : decode cL_law 611 = .ok (.iconst 2, 1) := dchk_at dgL_law_576_ 29 rfl
theorem dL_law_612 : decode cL_law 612 = .ok (.iadd, 1) := dchk_at dgL_law_576_ 30 rfl
theorem dL_law_613 : decode cL_law 613 = .ok (.iaload, 1) := dchk_at dgL_law_576_ 31 rfl
theorem dgL_law_614_ : dchk cL_law [(614, .invokevirtual 68, 3), (617, .pop, 1), (618, .aload_n 2, 1), (619, .aload_n 0, 1), (620, .iload_n 3, 1), (621, .iconst 1, 1), (622, .iadd, 1), (623, .iaload, 1), (624, .aload_n 0, 1), (625, .iload_n 3, 1), (626, .iconst 2, 1), (627, .iadd, 1), (628, .iaload, 1), (629, .invokevirtual 71, 3), (632, .pop, 1), (633, .goto 748, 3), (636, .aload_n 1, 1), (637, .aload_n 0, 1), (638, .iload_n 3, 1), (639, .iconst 1, 1), (640, .iadd, 1), (641, .iaload, 1), (642, .aload_n 0, 1), (643, .iload_n 3, 1), (644, .iconst 2, 1), (645, .iadd, 1), (646, .iaload, 1), (647, .invokevirtual 72, 3), (650, .pop, 1), (651, .aload_n 2, 1), (652, .aload_n 0, 1), (653, .iload_n 3, 1)] = true := by decide +kernel
theorem dL_law_614 : decode cL_law 614 = .ok (.invokevirtual 68, 3) := dchk_at dgL_law_614_ 0 rfl
theorem dL_law_617 : decode cL_law 617 = .ok (.pop, 1) := dchk_at dgL_law_614_ 1 rfl
theorem dL_law_618 : decode cL_law 618 = .ok (.aload_n 2, 1) := dchk_at dgL_law_614_ 2 rfl
theorem dL_law_619 : decode cL_law 619 = .ok (.aload_n 0, 1) := dchk_at dgL_law_614_ 3 rfl
theorem dL_law_620 : decode cL_law 620 = .ok (.iload_n 3, 1) := dchk_at dgL_law_614_ 4 rfl
theorem dL_law_621 : decode cL_law 621 = .ok (.iconst 1, 1) := dchk_at dgL_law_614_ 5 rfl
theorem dL_law_622 : decode cL_law 622 = .ok (.iadd, 1) := dchk_at dgL_law_614_ 6 rfl
theorem dL_law_623 : decode cL_law 623 = .ok (.iaload, 1) := dchk_at dgL_law_614_ 7 rfl
theorem dL_law_624 : decode cL_law 624 = .ok (.aload_n 0, 1) := dchk_at dgL_law_614_ 8 rfl
theorem dL_law_625 : decode cL_law 625 = .ok (.iload_n 3, 1) := dchk_at dgL_law_614_ 9 rfl
theorem dL_law_626 : decode cL_law 626 = .ok (.iconst 2, 1) := dchk_at dgL_law_614_ 10 rfl
theorem dL_law_627 : decode cL_law 627 = .ok (.iadd, 1) := dchk_at dgL_law_614_ 11 rfl
theorem dL_law_628 : decode cL_law 628 = .ok (.iaload, 1) := dchk_at dgL_law_614_ 12 rfl
theorem dL_law_629 : decode cL_law 629 = .ok (.invokevirtual 71, 3) := dchk_at dgL_law_614_ 13 rfl
theorem dL_law_632 : decode cL_law 632 = .ok (.pop, 1) := dchk_at dgL_law_614_ 14 rfl
theorem dL_law_633 : decode cL_law 633 = .ok (.goto 748, 3) := dchk_at dgL_law_614_ 15 rfl
theorem dL_law_636 : decode cL_law 636 = .ok (.aload_n 1, 1) := dchk_at dgL_law_614_ 16 rfl
theorem dL_law_637 : decode cL_law 637 = .ok (.aload_n 0, 1) := dchk_at dgL_law_614_ 17 rfl
theorem dL_law_638 : decode cL_law 638 = .ok (.iload_n 3, 1) := dchk_at dgL_law_614_ 18 rfl
theorem dL_law_639 : decode cL_law 639 = .ok (.iconst 1, 1) := dchk_at dgL_law_614_ 19 rfl
theorem dL_law_640 : decode cL_law 640 = .ok (.iadd, 1) := dchk_at dgL_law_614_ 20 rfl
theorem dL_law_641 : decode cL_law 641 = .ok (.iaload, 1) := dchk_at dgL_law_614_ 21 rfl
theorem dL_law_642 : decode cL_law 642 = .ok (.aload_n 0, 1) := dchk_at dgL_law_614_ 22 rfl
theorem dL_law_643 : decode cL_law 643 = .ok (.iload_n 3, 1) := dchk_at dgL_law_614_ 23 rfl
theorem dL_law_644 : decode cL_law 644 = .ok (.iconst 2, 1) := dchk_at dgL_law_614_ 24 rfl
theorem dL_law_645 : decode cL_law 645 = .ok (.iadd, 1) := dchk_at dgL_law_614_ 25 rfl
theorem dL_law_646 : decode cL_law 646 = .ok (.iaload, 1) := dchk_at dgL_law_614_ 26 rfl
theorem dL_law_647 : decode cL_law 647 = .ok (.invokevirtual 72, 3) := dchk_at dgL_law_614_ 27 rfl
theorem dL_law_650 : decode cL_law 650 = .ok (.pop, 1) := dchk_at dgL_law_614_ 28 rfl
theorem dL_law_651 : decode cL_law 651 = .ok (.aload_n 2, 1) := dchk_at dgL_law_614_ 29 rfl
theorem dL_law_652 : decode cL_law 652 = .ok (.aload_n 0, 1) := dchk_at dgL_law_614_ 30 rfl
theorem dL_law_653 : decode cL_law 653 = .ok (.iload_n 3, 1) := dchk_at dgL_law_614_ 31 rfl
theorem dgL_law_654_ : dchk cL_law [(654, .iconst 1, 1), (655, .iadd, 1), (656, .iaload, 1), (657, .aload_n 0, 1), (658, .iload_n 3, 1), (659, .iconst 2, 1), (660, .iadd, 1), (661, .iaload, 1), (662, .invokevirtual 75, 3), (665, .pop, 1), (666, .goto 715, 3), (669, .aload_n 1, 1), (670, .aload_n 0, 1), (671, .iload_n 3, 1), (672, .iconst 1, 1), (673, .iadd, 1), (674, .iaload, 1), (675, .aload_n 0, 1), (676, .iload_n 3, 1), (677, .iconst 2, 1), (678, .iadd, 1), (679, .iaload, 1), (680, .invokevirtual 76, 3), (683, .pop, 1), (684, .aload_n 2, 1), (685, .aload_n 0, 1), (686, .iload_n 3, 1), (687, .iconst 1, 1), (688, .iadd, 1), (689, .iaload, 1), (690, .aload_n 0, 1), (691, .iload_n 3, 1)] = true := by decide +kernel
theorem dL_law_654 : decode cL_law 654 = .ok (.iconst 1, 1) := dchk_at dgL_law_654_ 0 rfl
theorem dL_law_655 : decode cL_law 655 = .ok (.iadd, 1) := dchk_at dgL_law_654_ 1 rfl
theorem dL_law_656 : decode cL_law 656 = .ok (.iaload, 1) := dchk_at dgL_law_654_ 2 rfl
theorem dL_law_657 : decode cL_law 657 = .ok (.aload_n 0, 1) := dchk_at dgL_law_654_ 3 rfl
theorem dL_law_658 : decode cL_law 658 = .ok (.iload_n 3, 1) := dchk_at dgL_law_654_ 4 rfl
theorem dL_law_659 : decode cL_law 659 = .ok (.iconst 2, 1) := dchk_at dgL_law_654_ 5 rfl
theorem dL_law_660 : decode cL_law 660 = .ok (.iadd, 1) := dchk_at dgL_law_654_ 6 rfl
theorem dL_law_661 : decode cL_law 661 = .ok (.iaload, 1) := dchk_at dgL_law_654_ 7 rfl
theorem dL_law_662 : decode cL_law 662 = .ok (.invokevirtual 75, 3) := dchk_at dgL_law_654_ 8 rfl
theorem dL_law_665 : decode cL_law 665 = .ok (.pop, 1) := dchk_at dgL_law_654_ 9 rfl
theorem dL_law_666 : decode cL_law 666 = .ok (.goto 715, 3) := dchk_at dgL_law_654_ 10 rfl
theorem dL_law_669 : decode cL_law 669 = .ok (.aload_n 1, 1) := dchk_at dgL_law_654_ 11 rfl
theorem dL_law_670 : decode cL_law 670 = .ok (.aload_n 0, 1) := dchk_at dgL_law_654_ 12 rfl
theorem dL_law_671 : decode cL_law 671 = .ok (.iload_n 3, 1) := dchk_at dgL_law_654_ 13 rfl
theorem dL_law_672 : decode cL_law 672 = .ok (.iconst 1, 1) := dchk_at dgL_law_654_ 14 rfl
theorem dL_law_673 : decode cL_law 673 = .ok (.iadd, 1) := dchk_at dgL_law_654_ 15 rfl
theorem dL_law_674 : decode cL_law 674 = .ok (.iaload, 1) := dchk_at dgL_law_654_ 16 rfl
theorem dL_law_675 : decode cL_law 675 = .ok (.aload_n 0, 1) := dchk_at dgL_law_654_ 17 rfl
theorem dL_law_676 : decode cL_law 676 = .ok (.iload_n 3, 1) := dchk_at dgL_law_654_ 18 rfl
theorem dL_law_677 : decode cL_law 677 = .ok (.iconst 2, 1) := dchk_at dgL_law_654_ 19 rfl
theorem dL_law_678 : decode cL_law 678 = .ok (.iadd, 1) := dchk_at dgL_law_654_ 20 rfl
theorem dL_law_679 : decode cL_law 679 = .ok (.iaload, 1) := dchk_at dgL_law_654_ 21 rfl
theorem dL_law_680 : decode cL_law 680 = .ok (.invokevirtual 76, 3) := dchk_at dgL_law_654_ 22 rfl
theorem dL_law_683 : decode cL_law 683 = .ok (.pop, 1) := dchk_at dgL_law_654_ 23 rfl
theorem dL_law_684 : decode cL_law 684 = .ok (.aload_n 2, 1) := dchk_at dgL_law_654_ 24 rfl
theorem dL_law_685 : decode cL_law 685 = .ok (.aload_n 0, 1) := dchk_at dgL_law_654_ 25 rfl
theorem dL_law_686 : decode cL_law 686 = .ok (.iload_n 3, 1) := dchk_at dgL_law_654_ 26 rfl
theorem dL_law_687 : decode cL_law 687 = .ok (.iconst 1, 1) := dchk_at dgL_law_654_ 27 rfl
theorem dL_law_688 : decode cL_law 688 = .ok (.iadd, 1) := dchk_at dgL_law_654_ 28 rfl
theorem dL_law_689 : decode cL_law 689 = .ok (.iaload, 1) := dchk_at dgL_law_654_ 29 rfl
theorem dL_law_690 : decode cL_law 690 = .ok (.aload_n 0, 1) := dchk_at dgL_law_654_ 30 rfl
theorem dL_law_691 : decode cL_law 691 = .ok (.iload_n 3, 1) := dchk_at dgL_law_654_ 31 rfl
theorem dgL_law_692_ : dchk cL_law [(692, .iconst 2, 1), (693, .iadd, 1), (694, .iaload, 1), (695, .invokevirtual 79, 3), (698, .pop, 1), (699, .goto 682, 3), (702, .aload_n 1, 1), (703, .aload_n 0, 1), (704, .iload_n 3, 1), (705, .iconst 1, 1), (706, .iadd, 1), (707, .iaload, 1), (708, .aload_n 0, 1), (709, .iload_n 3, 1), (710, .iconst 2, 1), (711, .iadd, 1), (712, .iaload, 1), (713, .invokevirtual 80, 3), (716, .pop, 1), (717, .aload_n 2, 1), (718, .aload_n 0, 1), (719, .iload_n 3, 1), (720, .iconst 1, 1), (721, .iadd, 1), (722, .iaload, 1), (723, .aload_n 0, 1), (724, .iload_n 3, 1), (725, .iconst 2, 1), (726, .iadd, 1), (727, .iaload, 1), (728, .invokevirtual 83, 3), (731, .pop, 1)] = true := by decide +kernel
theorem dL_law_692 : decode cL_law 692 = .ok (.iconst 2, 1) := dchk_at dgL_law_692_ 0 rfl
theorem dL_law_693 : decode cL_law 693 = .ok (.iadd, 1) := dchk_at dgL_law_692_ 1 rfl
theorem dL_law_694 : decode cL_law 694 = .ok (.iaload, 1) := dchk_at dgL_law_692_ 2 rfl
theorem dL_law_695 : decode cL_law 695 = .ok (.invokevirtual 79, 3) := dchk_at dgL_law_692_ 3 rfl
theorem dL_law_698 : decode cL_law 698 = .ok (.pop, 1) := dchk_at dgL_law_692_ 4 rfl
theorem dL_law_699 : decode cL_law 699 = .ok (.goto 682, 3) := dchk_at dgL_law_692_ 5 rfl
theorem dL_law_702 : decode cL_law 702 = .ok (.aload_n 1, 1) := dchk_at dgL_law_692_ 6 rfl
theorem dL_law_703 : decode cL_law 703 = .ok (.aload_n 0, 1) := dchk_at dgL_law_692_ 7 rfl
theorem dL_law_704 : decode cL_law 704 = .ok (.iload_n 3, 1) := dchk_at dgL_law_692_ 8 rfl
theorem dL_law_705 : decode cL_law 705 = .ok (.iconst 1, 1) := dchk_at dgL_law_692_ 9 rfl
theorem dL_law_706 : decode cL_law 706 = .ok (.iadd, 1) := dchk_at dgL_law_692_ 10 rfl
theorem dL_law_707 : decode cL_law 707 = .ok (.iaload, 1) := dchk_at dgL_law_692_ 11 rfl
theorem dL_law_708 : decode cL_law 708 = .ok (.aload_n 0, 1) := dchk_at dgL_law_692_ 12 rfl
theorem dL_law_709 : decode cL_law 709 = .ok (.iload_n 3, 1) := dchk_at dgL_law_692_ 13 rfl
theorem dL_law_710 : decode cL_law 710 = .ok (.iconst 2, 1) := dchk_at dgL_law_692_ 14 rfl
theorem dL_law_711 : decode cL_law 711 = .ok (.iadd, 1) := dchk_at dgL_law_692_ 15 rfl
theorem dL_law_712 : decode cL_law 712 = .ok (.iaload, 1) := dchk_at dgL_law_692_ 16 rfl
theorem dL_law_713 : decode cL_law 713 = .ok (.invokevirtual 80, 3) := dchk_at dgL_law_692_ 17 rfl
theorem dL_law_716 : decode cL_law 716 = .ok (.pop, 1) := dchk_at dgL_law_692_ 18 rfl
theorem dL_law_717 : decode cL_law 717 = .ok (.aload_n 2, 1) := dchk_at dgL_law_692_ 19 rfl
theorem dL_law_718 : decode cL_law 718 = .ok (.aload_n 0, 1) := dchk_at dgL_law_692_ 20 rfl
theorem dL_law_719 : decode cL_law 719 = .ok (.iload_n 3, 1) := dchk_at dgL_law_692_ 21 rfl
theorem dL_law_720 : decode cL_law 720 = .ok (.iconst 1, 1) := dchk_at dgL_law_692_ 22 rfl
theorem dL_law_721 : decode cL_law 721 = .ok (.iadd, 1) := dchk_at dgL_law_692_ 23 rfl
theorem dL_law_722 : decode cL_law 722 = .ok (.iaload, 1) := dchk_at dgL_law_692_ 24 rfl
theorem dL_law_723 : decode cL_law 723 = .ok (.aload_n 0, 1) := dchk_at dgL_law_692_ 25 rfl
theorem dL_law_724 : decode cL_law 724 = .ok (.iload_n 3, 1) := dchk_at dgL_law_692_ 26 rfl
theorem dL_law_725 : decode cL_law 725 = .ok (.iconst 2, 1) := dchk_at dgL_law_692_ 27 rfl
theorem dL_law_726 : decode cL_law 726 = .ok (.iadd, 1) := dchk_at dgL_law_692_ 28 rfl
theorem dL_law_727 : decode cL_law 727 = .ok (.iaload, 1) := dchk_at dgL_law_692_ 29 rfl
theorem dL_law_728 : decode cL_law 728 = .ok (.invokevirtual 83, 3) := dchk_at dgL_law_692_ 30 rfl
theorem dL_law_731 : decode cL_law 731 = .ok (.pop, 1) := dchk_at dgL_law_692_ 31 rfl
theorem dgL_law_732_ : dchk cL_law [(732, .goto 649, 3), (735, .aload_n 1, 1), (736, .aload_n 0, 1), (737, .iload_n 3, 1), (738, .iconst 1, 1), (739, .iadd, 1), (740, .iaload, 1), (741, .aload_n 0, 1), (742, .iload_n 3, 1), (743, .iconst 2, 1), (744, .iadd, 1), (745, .iaload, 1), (746, .aload_n 0, 1), (747, .iload_n 3, 1), (748, .iconst 3, 1), (749, .iadd, 1), (750, .iaload, 1), (751, .invokevirtual 84, 3), (754, .pop, 1), (755, .aload_n 2, 1), (756, .aload_n 0, 1), (757, .iload_n 3, 1), (758, .iconst 1, 1), (759, .iadd, 1), (760, .iaload, 1), (761, .aload_n 0, 1), (762, .iload_n 3, 1), (763, .iconst 2, 1), (764, .iadd, 1), (765, .iaload, 1), (766, .aload_n 0, 1), (767, .iload_n 3, 1)] = true := by decide +kernel
theorem dL_law_732 : decode cL_law 732 = .ok (.goto 649, 3) := dchk_at dgL_law_732_ 0 rfl
theorem dL_law_735 : decode cL_law 735 = .ok (.aload_n 1, 1) := dchk_at dgL_law_732_ 1 rfl
theorem dL_law_736 : decode cL_law 736 = .ok (.aload_n 0, 1) := dchk_at dgL_law_732_ 2 rfl
theorem dL_law_737 : decode cL_law 737 = .ok (.iload_n 3, 1) := dchk_at dgL_law_732_ 3 rfl
theorem dL_law_738 : decode cL_law 738 = .ok (.iconst 1, 1) := dchk_at dgL_law_732_ 4 rfl
theorem dL_law_739 : decode cL_law 739 = .ok (.iadd, 1) := dchk_at dgL_law_732_ 5 rfl
theorem dL_law_740 : decode cL_law 740 = .ok (.iaload, 1) := dchk_at dgL_law_732_ 6 rfl
theorem dL_law_741 : decode cL_law 741 = .ok (.aload_n 0, 1) := dchk_at dgL_law_732_ 7 rfl
theorem dL_law_742 : decode cL_law 742 = .ok (.iload_n 3, 1) := dchk_at dgL_law_732_ 8 rfl
theorem dL_law_743 : decode cL_law 743 = .ok (.iconst 2, 1) := dchk_at dgL_law_732_ 9 rfl
theorem dL_law_744 : decode cL_law 744 = .ok (.iadd, 1) := dchk_at dgL_law_732_ 10 rfl
theorem dL_law_745 : decode cL_law 745 = .ok (.iaload, 1) := dchk_at dgL_law_732_ 11 rfl
theorem dL_law_746 : decode cL_law 746 = .ok (.aload_n 0, 1) := dchk_at dgL_law_732_ 12 rfl
theorem dL_law_747 : decode cL_law 747 = .ok (.iload_n 3, 1) := dchk_at dgL_law_732_ 13 rfl
theorem dL_law_748 : decode cL_law 748 = .ok (.iconst 3, 1) := dchk_at dgL_law_732_ 14 rfl
theorem dL_law_749 : decode cL_law 749 = .ok (.iadd, 1) := dchk_at dgL_law_732_ 15 rfl
theorem dL_law_750 : decode cL_law 750 = .ok (.iaload, 1) := dchk_at dgL_law_732_ 16 rfl
theorem dL_law_751 : decode cL_law 751 = .ok (.invokevirtual 84, 3) := dchk_at dgL_law_732_ 17 rfl
theorem dL_law_754 : decode cL_law 754 = .ok (.pop, 1) := dchk_at dgL_law_732_ 18 rfl
theorem dL_law_755 : decode cL_law 755 = .ok (.aload_n 2, 1) := dchk_at dgL_law_732_ 19 rfl
theorem dL_law_756 : decode cL_law 756 = .ok (.aload_n 0, 1) := dchk_at dgL_law_732_ 20 rfl
theorem dL_law_757 : decode cL_law 757 = .ok (.iload_n 3, 1) := dchk_at dgL_law_732_ 21 rfl
theorem dL_law_758 : decode cL_law 758 = .ok (.iconst 1, 1) := dchk_at dgL_law_732_ 22 rfl
theorem dL_law_759 : decode cL_law 759 = .ok (.iadd, 1) := dchk_at dgL_law_732_ 23 rfl
theorem dL_law_760 : decode cL_law 760 = .ok (.iaload, 1) := dchk_at dgL_law_732_ 24 rfl
theorem dL_law_761 : decode cL_law 761 = .ok (.aload_n 0, 1) := dchk_at dgL_law_732_ 25 rfl
theorem dL_law_762 : decode cL_law 762 = .ok (.iload_n 3, 1) := dchk_at dgL_law_732_ 26 rfl
theorem dL_law_763 : decode cL_law 763 = .ok (.iconst 2, 1) := dchk_at dgL_law_732_ 27 rfl
theorem dL_law_764 : decode cL_law 764 = .ok (.iadd, 1) := dchk_at dgL_law_732_ 28 rfl
theorem dL_law_765 : decode cL_law 765 = .ok (.iaload, 1) := dchk_at dgL_law_732_ 29 rfl
theorem dL_law_766 : decode cL_law 766 = .ok (.aload_n 0, 1) := dchk_at dgL_law_732_ 30 rfl
theorem dL_law_767 : decode cL_law 767 = .ok (.iload_n 3, 1) := dchk_at dgL_law_732_ 31 rfl
theorem dgL_law_768_ : dchk cL_law [(768, .iconst 3, 1), (769, .iadd, 1), (770, .iaload, 1), (771, .invokevirtual 87, 3), (774, .pop, 1), (775, .goto 606, 3), (778, .aload_n 1, 1), (779, .invokevirtual 88, 3), (782, .pop, 1), (783, .aload_n 2, 1), (784, .invokevirtual 92, 3), (787, .pop, 1), (788, .goto 593, 3), (791, .aload_n 1, 1), (792, .aload_n 0, 1), (793, .iload_n 3, 1), (794, .iconst 1, 1), (795, .iadd, 1), (796, .iaload, 1), (797, .invokevirtual 93, 3), (800, .pop, 1), (801, .aload_n 2, 1), (802, .aload_n 0, 1), (803, .iload_n 3, 1), (804, .iconst 1, 1), (805, .iadd, 1), (806, .iaload, 1), (807, .invokevirtual 96, 3), (810, .pop, 1), (811, .goto 570, 3), (814, .aload_n 1, 1), (815, .aload_n 0, 1)] = true := by decide +kernel
theorem dL_law_768 : decode cL_law 768 = .ok (.iconst 3, 1) := dchk_at dgL_law_768_ 0 rfl
theorem dL_law_769 : decode cL_law 769 = .ok (.iadd, 1) := dchk_at dgL_law_768_ 1 rfl
theorem dL_law_770 : decode cL_law 770 = .ok (.iaload, 1) := dchk_at dgL_law_768_ 2 rfl
theorem dL_law_771 : decode cL_law 771 = .ok (.invokevirtual 87, 3) := dchk_at dgL_law_768_ 3 rfl
theorem dL_law_774 : decode cL_law 774 = .ok (.pop, 1) := dchk_at dgL_law_768_ 4 rfl
theorem dL_law_775 : decode cL_law 775 = .ok (.goto 606, 3) := dchk_at dgL_law_768_ 5 rfl
theorem dL_law_778 : decode cL_law 778 = .ok (.aload_n 1, 1) := dchk_at dgL_law_768_ 6 rfl
theorem dL_law_779 : decode cL_law 779 = .ok (.invokevirtual 88, 3) := dchk_at dgL_law_768_ 7 rfl
theorem dL_law_782 : decode cL_law 782 = .ok (.pop, 1) := dchk_at dgL_law_768_ 8 rfl
theorem dL_law_783 : decode cL_law 783 = .ok (.aload_n 2, 1) := dchk_at dgL_law_768_ 9 rfl
theorem dL_law_784 : decode cL_law 784 = .ok (.invokevirtual 92, 3) := dchk_at dgL_law_768_ 10 rfl
theorem dL_law_787 : decode cL_law 787 = .ok (.pop, 1) := dchk_at dgL_law_768_ 11 rfl
theorem dL_law_788 : decode cL_law 788 = .ok (.goto 593, 3) := dchk_at dgL_law_768_ 12 rfl
theorem dL_law_791 : decode cL_law 791 = .ok (.aload_n 1, 1) := dchk_at dgL_law_768_ 13 rfl
theorem dL_law_792 : decode cL_law 792 = .ok (.aload_n 0, 1) := dchk_at dgL_law_768_ 14 rfl
theorem dL_law_793 : decode cL_law 793 = .ok (.iload_n 3, 1) := dchk_at dgL_law_768_ 15 rfl
theorem dL_law_794 : decode cL_law 794 = .ok (.iconst 1, 1) := dchk_at dgL_law_768_ 16 rfl
theorem dL_law_795 : decode cL_law 795 = .ok (.iadd, 1) := dchk_at dgL_law_768_ 17 rfl
theorem dL_law_796 : decode cL_law 796 = .ok (.iaload, 1) := dchk_at dgL_law_768_ 18 rfl
theorem dL_law_797 : decode cL_law 797 = .ok (.invokevirtual 93, 3) := dchk_at dgL_law_768_ 19 rfl
theorem dL_law_800 : decode cL_law 800 = .ok (.pop, 1) := dchk_at dgL_law_768_ 20 rfl
theorem dL_law_801 : decode cL_law 801 = .ok (.aload_n 2, 1) := dchk_at dgL_law_768_ 21 rfl
theorem dL_law_802 : decode cL_law 802 = .ok (.aload_n 0, 1) := dchk_at dgL_law_768_ 22 rfl
theorem dL_law_803 : decode cL_law 803 = .ok (.iload_n 3, 1) := dchk_at dgL_law_768_ 23 rfl
theorem dL_law_804 : decode cL_law 804 = .ok (.iconst 1, 1) := dchk_at dgL_law_768_ 24 rfl
theorem dL_law_805 : decode cL_law 805 = .ok (.iadd, 1) := dchk_at dgL_law_768_ 25 rfl
theorem dL_law_806 : decode cL_law 806 = .ok (.iaload, 1) := dchk_at dgL_law_768_ 26 rfl
theorem dL_law_807 : decode cL_law 807 = .ok (.invokevirtual 96, 3) := dchk_at dgL_law_768_ 27 rfl
theorem dL_law_810 : decode cL_law 810 = .ok (.pop, 1) := dchk_at dgL_law_768_ 28 rfl
theorem dL_law_811 : decode cL_law 811 = .ok (.goto 570, 3) := dchk_at dgL_law_768_ 29 rfl
theorem dL_law_814 : decode cL_law 814 = .ok (.aload_n 1, 1) := dchk_at dgL_law_768_ 30 rfl
theorem dL_law_815 : decode cL_law 815 = .ok (.aload_n 0, 1) := dchk_at dgL_law_768_ 31 rfl
theorem dgL_law_816_ : dchk cL_law [(816, .iload_n 3, 1), (817, .iconst 1, 1), (818, .iadd, 1), (819, .iaload, 1), (820, .aload_n 0, 1), (821, .iload_n 3, 1), (822, .iconst 2, 1), (823, .iadd, 1), (824, .iaload, 1), (825, .aload_n 0, 1), (826, .iload_n 3, 1), (827, .iconst 3, 1), (828, .iadd, 1), (829, .iaload, 1), (830, .invokevirtual 97, 3), (833, .pop, 1), (834, .aload_n 2, 1), (835, .aload_n 0, 1), (836, .iload_n 3, 1), (837, .iconst 1, 1), (838, .iadd, 1), (839, .iaload, 1), (840, .aload_n 0, 1), (841, .iload_n 3, 1), (842, .iconst 2, 1), (843, .iadd, 1), (844, .iaload, 1), (845, .aload_n 0, 1), (846, .iload_n 3, 1), (847, .iconst 3, 1), (848, .iadd, 1), (849, .iaload, 1)] = true := by decide +kernel
theorem dL_law_816 : decode cL_law 816 = .ok (.iload_n 3, 1) := dchk_at dgL_law_816_ 0 rfl
theorem dL_law_817 : decode cL_law 817 = .ok (.iconst 1, 1) := dchk_at dgL_law_816_ 1 rfl
theorem dL_law_818 : decode cL_law 818 = .ok (.iadd, 1) := dchk_at dgL_law_816_ 2 rfl
theorem dL_law_819 : decode cL_law 819 = .ok (.iaload, 1) := dchk_at dgL_law_816_ 3 rfl
theorem dL_law_820 : decode cL_law 820 = .ok (.aload_n 0, 1) := dchk_at dgL_law_816_ 4 rfl
theorem dL_law_821 : decode cL_law 821 = .ok (.iload_n 3, 1) := dchk_at dgL_law_816_ 5 rfl
theorem dL_law_822 : decode cL_law 822 = .ok (.iconst 2, 1) := dchk_at dgL_law_816_ 6 rfl
theorem dL_law_823 : decode cL_law 823 = .ok (.iadd, 1) := dchk_at dgL_law_816_ 7 rfl
theorem dL_law_824 : decode cL_law 824 = .ok (.iaload, 1) := dchk_at dgL_law_816_ 8 rfl
theorem dL_law_825 : decode cL_law 825 = .ok (.aload_n 0, 1) := dchk_at dgL_law_816_ 9 rfl
theorem dL_law_826 : decode cL_law 826 = .ok (.iload_n 3, 1) := dchk_at dgL_law_816_ 10 rfl
theorem dL_law_827 : decode cL_law 827 = .ok (.iconst 3, 1) := dchk_at dgL_law_816_ 11 rfl
theorem dL_law_828 : decode cL_law 828 = .ok (.iadd, 1) := dchk_at dgL_law_816_ 12 rfl
theorem dL_law_829 : decode cL_law 829 = .ok (.iaload, 1) := dchk_at dgL_law_816_ 13 rfl
theorem dL_law_830 : decode cL_law 830 = .ok (.invokevirtual 97, 3) := dchk_at dgL_law_816_ 14 rfl
theorem dL_law_833 : decode cL_law 833 = .ok (.pop, 1) := dchk_at dgL_law_816_ 15 rfl
theorem dL_law_834 : decode cL_law 834 = .ok (.aload_n 2, 1) := dchk_at dgL_law_816_ 16 rfl
theorem dL_law_835 : decode cL_law 835 = .ok (.aload_n 0, 1) := dchk_at dgL_law_816_ 17 rfl
theorem dL_law_836 : decode cL_law 836 = .ok (.iload_n 3, 1) := dchk_at dgL_law_816_ 18 rfl
theorem dL_law_837 : decode cL_law 837 = .ok (.iconst 1, 1) := dchk_at dgL_law_816_ 19 rfl
theorem dL_law_838 : decode cL_law 838 = .ok (.iadd, 1) := dchk_at dgL_law_816_ 20 rfl
theorem dL_law_839 : decode cL_law 839 = .ok (.iaload, 1) := dchk_at dgL_law_816_ 21 rfl
theorem dL_law_840 : decode cL_law 840 = .ok (.aload_n 0, 1) := dchk_at dgL_law_816_ 22 rfl
theorem dL_law_841 : decode cL_law 841 = .ok (.iload_n 3, 1) := dchk_at dgL_law_816_ 23 rfl
theorem dL_law_842 : decode cL_law 842 = .ok (.iconst 2, 1) := dchk_at dgL_law_816_ 24 rfl
theorem dL_law_843 : decode cL_law 843 = .ok (.iadd, 1) := dchk_at dgL_law_816_ 25 rfl
theorem dL_law_844 : decode cL_law 844 = .ok (.iaload, 1) := dchk_at dgL_law_816_ 26 rfl
theorem dL_law_845 : decode cL_law 845 = .ok (.aload_n 0, 1) := dchk_at dgL_law_816_ 27 rfl
theorem dL_law_846 : decode cL_law 846 = .ok (.iload_n 3, 1) := dchk_at dgL_law_816_ 28 rfl
theorem dL_law_847 : decode cL_law 847 = .ok (.iconst 3, 1) := dchk_at dgL_law_816_ 29 rfl
theorem dL_law_848 : decode cL_law 848 = .ok (.iadd, 1) := dchk_at dgL_law_816_ 30 rfl
theorem dL_law_849 : decode cL_law 849 = .ok (.iaload, 1) := dchk_at dgL_law_816_ 31 rfl
theorem dgL_law_850_ : dchk cL_law [(850, .invokevirtual 100, 3), (853, .pop, 1), (854, .goto 527, 3), (857, .aload_n 1, 1), (858, .aload_n 0, 1), (859, .iload_n 3, 1), (860, .iconst 1, 1), (861, .iadd, 1), (862, .iaload, 1), (863, .invokevirtual 101, 3), (866, .pop, 1), (867, .aload_n 2, 1), (868, .aload_n 0, 1), (869, .iload_n 3, 1), (870, .iconst 1, 1), (871, .iadd, 1), (872, .iaload, 1), (873, .invokevirtual 104, 3), (876, .pop, 1), (877, .goto 504, 3), (880, .aload_n 1, 1), (881, .invokevirtual 105, 3), (884, .pop, 1), (885, .aload_n 2, 1), (886, .invokevirtual 108, 3), (889, .pop, 1), (890, .goto 491, 3), (893, .aload_n 1, 1), (894, .aload_n 0, 1), (895, .iload_n 3, 1), (896, .iconst 1, 1), (897, .iadd, 1)] = true := by decide +kernel
theorem dL_law_850 : decode cL_law 850 = .ok (.invokevirtual 100, 3) := dchk_at dgL_law_850_ 0 rfl
theorem dL_law_853 : decode cL_law 853 = .ok (.pop, 1) := dchk_at dgL_law_850_ 1 rfl
theorem dL_law_854 : decode cL_law 854 = .ok (.goto 527, 3) := dchk_at dgL_law_850_ 2 rfl
theorem dL_law_857 : decode cL_law 857 = .ok (.aload_n 1, 1) := dchk_at dgL_law_850_ 3 rfl
theorem dL_law_858 : decode cL_law 858 = .ok (.aload_n 0, 1) := dchk_at dgL_law_850_ 4 rfl
theorem dL_law_859 : decode cL_law 859 = .ok (.iload_n 3, 1) := dchk_at dgL_law_850_ 5 rfl
theorem dL_law_860 : decode cL_law 860 = .ok (.iconst 1, 1) := dchk_at dgL_law_850_ 6 rfl
theorem dL_law_861 : decode cL_law 861 = .ok (.iadd, 1) := dchk_at dgL_law_850_ 7 rfl
theorem dL_law_862 : decode cL_law 862 = .ok (.iaload, 1) := dchk_at dgL_law_850_ 8 rfl
theorem dL_law_863 : decode cL_law 863 = .ok (.invokevirtual 101, 3) := dchk_at dgL_law_850_ 9 rfl
theorem dL_law_866 : decode cL_law 866 = .ok (.pop, 1) := dchk_at dgL_law_850_ 10 rfl
theorem dL_law_867 : decode cL_law 867 = .ok (.aload_n 2, 1) := dchk_at dgL_law_850_ 11 rfl
theorem dL_law_868 : decode cL_law 868 = .ok (.aload_n 0, 1) := dchk_at dgL_law_850_ 12 rfl
theorem dL_law_869 : decode cL_law 869 = .ok (.iload_n 3, 1) := dchk_at dgL_law_850_ 13 rfl
theorem dL_law_870 : decode cL_law 870 = .ok (.iconst 1, 1) := dchk_at dgL_law_850_ 14 rfl
theorem dL_law_871 : decode cL_law 871 = .ok (.iadd, 1) := dchk_at dgL_law_850_ 15 rfl
theorem dL_law_872 : decode cL_law 872 = .ok (.iaload, 1) := dchk_at dgL_law_850_ 16 rfl
theorem dL_law_873 : decode cL_law 873 = .ok (.invokevirtual 104, 3) := dchk_at dgL_law_850_ 17 rfl
theorem dL_law_876 : decode cL_law 876 = .ok (.pop, 1) := dchk_at dgL_law_850_ 18 rfl
theorem dL_law_877 : decode cL_law 877 = .ok (.goto 504, 3) := dchk_at dgL_law_850_ 19 rfl
theorem dL_law_880 : decode cL_law 880 = .ok (.aload_n 1, 1) := dchk_at dgL_law_850_ 20 rfl
theorem dL_law_881 : decode cL_law 881 = .ok (.invokevirtual 105, 3) := dchk_at dgL_law_850_ 21 rfl
theorem dL_law_884 : decode cL_law 884 = .ok (.pop, 1) := dchk_at dgL_law_850_ 22 rfl
theorem dL_law_885 : decode cL_law 885 = .ok (.aload_n 2, 1) := dchk_at dgL_law_850_ 23 rfl
theorem dL_law_886 : decode cL_law 886 = .ok (.invokevirtual 108, 3) := dchk_at dgL_law_850_ 24 rfl
theorem dL_law_889 : decode cL_law 889 = .ok (.pop, 1) := dchk_at dgL_law_850_ 25 rfl
theorem dL_law_890 : decode cL_law 890 = .ok (.goto 491, 3) := dchk_at dgL_law_850_ 26 rfl
theorem dL_law_893 : decode cL_law 893 = .ok (.aload_n 1, 1) := dchk_at dgL_law_850_ 27 rfl
theorem dL_law_894 : decode cL_law 894 = .ok (.aload_n 0, 1) := dchk_at dgL_law_850_ 28 rfl
theorem dL_law_895 : decode cL_law 895 = .ok (.iload_n 3, 1) := dchk_at dgL_law_850_ 29 rfl
theorem dL_law_896 : decode cL_law 896 = .ok (.iconst 1, 1) := dchk_at dgL_law_850_ 30 rfl
theorem dL_law_897 : decode cL_law 897 = .ok (.iadd, 1) := dchk_at dgL_law_850_ 31 rfl
theorem dgL_law_898_ : dchk cL_law [(898, .iaload, 1), (899, .aload_n 0, 1), (900, .iload_n 3, 1), (901, .iconst 2, 1), (902, .iadd, 1), (903, .iaload, 1), (904, .invokevirtual 109, 3), (907, .pop, 1), (908, .aload_n 2, 1), (909, .aload_n 0, 1), (910, .iload_n 3, 1), (911, .iconst 1, 1), (912, .iadd, 1), (913, .iaload, 1), (914, .aload_n 0, 1), (915, .iload_n 3, 1), (916, .iconst 2, 1), (917, .iadd, 1), (918, .iaload, 1), (919, .invokevirtual 112, 3), (922, .pop, 1), (923, .goto 458, 3), (926, .aload_n 1, 1), (927, .aload_n 0, 1), (928, .iload_n 3, 1), (929, .iconst 1, 1), (930, .iadd, 1), (931, .iaload, 1), (932, .invokevirtual 113, 3), (935, .pop, 1), (936, .aload_n 2, 1), (937, .aload_n 0, 1)] = true := by decide +kernel
theorem dL_law_898 : decode cL_law 898 = .ok (.iaload, 1) := dchk_at dgL_law_898_ 0 rfl
theorem dL_law_899 : decode cL_law 899 = .ok (.aload_n 0, 1) := dchk_at dgL_law_898_ 1 rfl
theorem dL_law_900 : decode cL_law 900 = .ok (.iload_n 3, 1) := dchk_at dgL_law_898_ 2 rfl
theorem dL_law_901 : decode cL_law 901 = .ok (.iconst 2, 1) := dchk_at dgL_law_898_ 3 rfl
theorem dL_law_902 : decode cL_law 902 = .ok (.iadd, 1) := dchk_at dgL_law_898_ 4 rfl
theorem dL_law_903 : decode cL_law 903 = .ok (.iaload, 1) := dchk_at dgL_law_898_ 5 rfl
theorem dL_law_904 : decode cL_law 904 = .ok (.invokevirtual 109, 3) := dchk_at dgL_law_898_ 6 rfl
theorem dL_law_907 : decode cL_law 907 = .ok (.pop, 1) := dchk_at dgL_law_898_ 7 rfl
theorem dL_law_908 : decode cL_law 908 = .ok (.aload_n 2, 1) := dchk_at dgL_law_898_ 8 rfl
theorem dL_law_909 : decode cL_law 909 = .ok (.aload_n 0, 1) := dchk_at dgL_law_898_ 9 rfl
theorem dL_law_910 : decode cL_law 910 = .ok (.iload_n 3, 1) := dchk_at dgL_law_898_ 10 rfl
theorem dL_law_911 : decode cL_law 911 = .ok (.iconst 1, 1) := dchk_at dgL_law_898_ 11 rfl
theorem dL_law_912 : decode cL_law 912 = .ok (.iadd, 1) := dchk_at dgL_law_898_ 12 rfl
theorem dL_law_913 : decode cL_law 913 = .ok (.iaload, 1) := dchk_at dgL_law_898_ 13 rfl
theorem dL_law_914 : decode cL_law 914 = .ok (.aload_n 0, 1) := dchk_at dgL_law_898_ 14 rfl
theorem dL_law_915 : decode cL_law 915 = .ok (.iload_n 3, 1) := dchk_at dgL_law_898_ 15 rfl
theorem dL_law_916 : decode cL_law 916 = .ok (.iconst 2, 1) := dchk_at dgL_law_898_ 16 rfl
theorem dL_law_917 : decode cL_law 917 = .ok (.iadd, 1) := dchk_at dgL_law_898_ 17 rfl
theorem dL_law_918 : decode cL_law 918 = .ok (.iaload, 1) := dchk_at dgL_law_898_ 18 rfl
theorem dL_law_919 : decode cL_law 919 = .ok (.invokevirtual 112, 3) := dchk_at dgL_law_898_ 19 rfl
theorem dL_law_922 : decode cL_law 922 = .ok (.pop, 1) := dchk_at dgL_law_898_ 20 rfl
theorem dL_law_923 : decode cL_law 923 = .ok (.goto 458, 3) := dchk_at dgL_law_898_ 21 rfl
theorem dL_law_926 : decode cL_law 926 = .ok (.aload_n 1, 1) := dchk_at dgL_law_898_ 22 rfl
theorem dL_law_927 : decode cL_law 927 = .ok (.aload_n 0, 1) := dchk_at dgL_law_898_ 23 rfl
theorem dL_law_928 : decode cL_law 928 = .ok (.iload_n 3, 1) := dchk_at dgL_law_898_ 24 rfl
theorem dL_law_929 : decode cL_law 929 = .ok (.iconst 1, 1) := dchk_at dgL_law_898_ 25 rfl
theorem dL_law_930 : decode cL_law 930 = .ok (.iadd, 1) := dchk_at dgL_law_898_ 26 rfl
theorem dL_law_931 : decode cL_law 931 = .ok (.iaload, 1) := dchk_at dgL_law_898_ 27 rfl
theorem dL_law_932 : decode cL_law 932 = .ok (.invokevirtual 113, 3) := dchk_at dgL_law_898_ 28 rfl
theorem dL_law_935 : decode cL_law 935 = .ok (.pop, 1) := dchk_at dgL_law_898_ 29 rfl
theorem dL_law_936 : decode cL_law 936 = .ok (.aload_n 2, 1) := dchk_at dgL_law_898_ 30 rfl
theorem dL_law_937 : decode cL_law 937 = .ok (.aload_n 0, 1) := dchk_at dgL_law_898_ 31 rfl
theorem dgL_law_938_ : dchk cL_law [(938, .iload_n 3, 1), (939, .iconst 1, 1), (940, .iadd, 1), (941, .iaload, 1), (942, .invokevirtual 116, 3), (945, .pop, 1), (946, .goto 435, 3), (949, .aload_n 1, 1), (950, .aload_n 0, 1), (951, .iload_n 3, 1), (952, .iconst 1, 1), (953, .iadd, 1), (954, .iaload, 1), (955, .aload_n 0, 1), (956, .iload_n 3, 1), (957, .iconst 2, 1), (958, .iadd, 1), (959, .iaload, 1), (960, .aload_n 0, 1), (961, .iload_n 3, 1), (962, .iconst 3, 1), (963, .iadd, 1), (964, .iaload, 1), (965, .invokevirtual 117, 3), (968, .pop, 1), (969, .aload_n 2, 1), (970, .aload_n 0, 1), (971, .iload_n 3, 1), (972, .iconst 1, 1), (973, .iadd, 1), (974, .iaload, 1), (975, .aload_n 0, 1)] = true := by decide +kernel
theorem dL_law_938 : decode cL_law 938 = .ok (.iload_n 3, 1) := dchk_at dgL_law_938_ 0 rfl
theorem dL_law_939 : decode cL_law 939 = .ok (.iconst 1, 1) := dchk_at dgL_law_938_ 1 rfl
theorem dL_law_940 : decode cL_law 940 = .ok (.iadd, 1) := dchk_at dgL_law_938_ 2 rfl
theorem dL_law_941 : decode cL_law 941 = .ok (.iaload, 1) := dchk_at dgL_law_938_ 3 rfl
theorem dL_law_942 : decode cL_law 942 = .ok (.invokevirtual 116, 3) := dchk_at dgL_law_938_ 4 rfl
theorem dL_law_945 : decode cL_law 945 = .ok (.pop, 1) := dchk_at dgL_law_938_ 5 rfl
theorem dL_law_946 : decode cL_law 946 = .ok (.goto 435, 3) := dchk_at dgL_law_938_ 6 rfl
theorem dL_law_949 : decode cL_law 949 = .ok (.aload_n 1, 1) := dchk_at dgL_law_938_ 7 rfl
theorem dL_law_950 : decode cL_law 950 = .ok (.aload_n 0, 1) := dchk_at dgL_law_938_ 8 rfl
theorem dL_law_951 : decode cL_law 951 = .ok (.iload_n 3, 1) := dchk_at dgL_law_938_ 9 rfl
theorem dL_law_952 : decode cL_law 952 = .ok (.iconst 1, 1) := dchk_at dgL_law_938_ 10 rfl
theorem dL_law_953 : decode cL_law 953 = .ok (.iadd, 1) := dchk_at dgL_law_938_ 11 rfl
theorem dL_law_954 : decode cL_law 954 = .ok (.iaload, 1) := dchk_at dgL_law_938_ 12 rfl
theorem dL_law_955 : decode cL_law 955 = .ok (.aload_n 0, 1) := dchk_at dgL_law_938_ 13 rfl
theorem dL_law_956 : decode cL_law 956 = .ok (.iload_n 3, 1) := dchk_at dgL_law_938_ 14 rfl
theorem dL_law_957 : decode cL_law 957 = .ok (.iconst 2, 1) := dchk_at dgL_law_938_ 15 rfl
theorem dL_law_958 : decode cL_law 958 = .ok (.iadd, 1) := dchk_at dgL_law_938_ 16 rfl
theorem dL_law_959 : decode cL_law 959 = .ok (.iaload, 1) := dchk_at dgL_law_938_ 17 rfl
theorem dL_law_960 : decode cL_law 960 = .ok (.aload_n 0, 1) := dchk_at dgL_law_938_ 18 rfl
theorem dL_law_961 : decode cL_law 961 = .ok (.iload_n 3, 1) := dchk_at dgL_law_938_ 19 rfl
theorem dL_law_962 : decode cL_law 962 = .ok (.iconst 3, 1) := dchk_at dgL_law_938_ 20 rfl
theorem dL_law_963 : decode cL_law 963 = .ok (.iadd, 1) := dchk_at dgL_law_938_ 21 rfl
theorem dL_law_964 : decode cL_law 964 = .ok (.iaload, 1) := dchk_at dgL_law_938_ 22 rfl
theorem dL_law_965 : decode cL_law 965 = .ok (.invokevirtual 117, 3) := dchk_at dgL_law_938_ 23 rfl
theorem dL_law_968 : decode cL_law 968 = .ok (.pop, 1) := dchk_at dgL_law_938_ 24 rfl
theorem dL_law_969 : decode cL_law 969 = .ok (.aload_n 2, 1) := dchk_at dgL_law_938_ 25 rfl
theorem dL_law_970 : decode cL_law 970 = .ok (.aload_n 0, 1) := dchk_at dgL_law_938_ 26 rfl
theorem dL_law_971 : decode cL_law 971 = .ok (.iload_n 3, 1) := dchk_at dgL_law_938_ 27 rfl
theorem dL_law_972 : decode cL_law 972 = .ok (.iconst 1, 1) := dchk_at dgL_law_938_ 28 rfl
theorem dL_law_973 : decode cL_law 973 = .ok (.iadd, 1) := dchk_at dgL_law_938_ 29 rfl
theorem dL_law_974 : decode cL_law 974 = .ok (.iaload, 1) := dchk_at dgL_law_938_ 30 rfl
theorem dL_law_975 : decode cL_law 975 = .ok (.aload_n 0, 1) := dchk_at dgL_law_938_ 31 rfl
theorem dgL_law_976_ : dchk cL_law [(976, .iload_n 3, 1), (977, .iconst 2, 1), (978, .iadd, 1), (979, .iaload, 1), (980, .aload_n 0, 1), (981, .iload_n 3, 1), (982, .iconst 3, 1), (983, .iadd, 1), (984, .iaload, 1), (985, .invokevirtual 120, 3), (988, .pop, 1), (989, .goto 392, 3), (992, .aload_n 1, 1), (993, .aload_n 0, 1), (994, .iload_n 3, 1), (995, .iconst 1, 1), (996, .iadd, 1), (997, .iaload, 1), (998, .aload_n 0, 1), (999, .iload_n 3, 1), (1000, .iconst 2, 1), (1001, .iadd, 1), (1002, .iaload, 1), (1003, .aload_n 0, 1), (1004, .iload_n 3, 1), (1005, .iconst 3, 1), (1006, .iadd, 1), (1007, .iaload, 1), (1008, .invokevirtual 121, 3), (1011, .pop, 1), (1012, .aload_n 2, 1), (1013, .aload_n 0, 1)] = true := by decide +kernel
theorem dL_law_976 : decode cL_law 976 = .ok (.iload_n 3, 1) := dchk_at dgL_law_976_ 0 rfl
theorem dL_law_977 : decode cL_law 977 = .ok (.iconst 2, 1) := dchk_at dgL_law_976_ 1 rfl
theorem dL_law_978 : decode cL_law 978 = .ok (.iadd, 1) := dchk_at dgL_law_976_ 2 rfl
theorem dL_law_979 : decode cL_law 979 = .ok (.iaload, 1) := dchk_at dgL_law_976_ 3 rfl
theorem dL_law_980 : decode cL_law 980 = .ok (.aload_n 0, 1) := dchk_at dgL_law_976_ 4 rfl
theorem dL_law_981 : decode cL_law 981 = .ok (.iload_n 3, 1) := dchk_at dgL_law_976_ 5 rfl
theorem dL_law_982 : decode cL_law 982 = .ok (.iconst 3, 1) := dchk_at dgL_law_976_ 6 rfl
theorem dL_law_983 : decode cL_law 983 = .ok (.iadd, 1) := dchk_at dgL_law_976_ 7 rfl
theorem dL_law_984 : decode cL_law 984 = .ok (.iaload, 1) := dchk_at dgL_law_976_ 8 rfl
theorem dL_law_985 : decode cL_law 985 = .ok (.invokevirtual 120, 3) := dchk_at dgL_law_976_ 9 rfl
theorem dL_law_988 : decode cL_law 988 = .ok (.pop, 1) := dchk_at dgL_law_976_ 10 rfl
theorem dL_law_989 : decode cL_law 989 = .ok (.goto 392, 3) := dchk_at dgL_law_976_ 11 rfl
theorem dL_law_992 : decode cL_law 992 = .ok (.aload_n 1, 1) := dchk_at dgL_law_976_ 12 rfl
theorem dL_law_993 : decode cL_law 993 = .ok (.aload_n 0, 1) := dchk_at dgL_law_976_ 13 rfl
theorem dL_law_994 : decode cL_law 994 = .ok (.iload_n 3, 1) := dchk_at dgL_law_976_ 14 rfl
theorem dL_law_995 : decode cL_law 995 = .ok (.iconst 1, 1) := dchk_at dgL_law_976_ 15 rfl
theorem dL_law_996 : decode cL_law 996 = .ok (.iadd, 1) := dchk_at dgL_law_976_ 16 rfl
theorem dL_law_997 : decode cL_law 997 = .ok (.iaload, 1) := dchk_at dgL_law_976_ 17 rfl
theorem dL_law_998 : decode cL_law 998 = .ok (.aload_n 0, 1) := dchk_at dgL_law_976_ 18 rfl
theorem dL_law_999 : decode cL_law 999 = .ok (.iload_n 3, 1) := dchk_at dgL_law_976_ 19 rfl
theorem dL_law_1000 : decode cL_law 1000 = .ok (.iconst 2, 1) := dchk_at dgL_law_976_ 20 rfl
theorem dL_law_1001 : decode cL_law 1001 = .ok (.iadd, 1) := dchk_at dgL_law_976_ 21 rfl
theorem dL_law_1002 : decode cL_law 1002 = .ok (.iaload, 1) := dchk_at dgL_law_976_ 22 rfl
theorem dL_law_1003 : decode cL_law 1003 = .ok (.aload_n 0, 1) := dchk_at dgL_law_976_ 23 rfl
theorem dL_law_1004 : decode cL_law 1004 = .ok (.iload_n 3, 1) := dchk_at dgL_law_976_ 24 rfl
theorem dL_law_1005 : decode cL_law 1005 = .ok (.iconst 3, 1) := dchk_at dgL_law_976_ 25 rfl
theorem dL_law_1006 : decode cL_law 1006 = .ok (.iadd, 1) := dchk_at dgL_law_976_ 26 rfl
theorem dL_law_1007 : decode cL_law 1007 = .ok (.iaload, 1) := dchk_at dgL_law_976_ 27 rfl
theorem dL_law_1008 : decode cL_law 1008 = .ok (.invokevirtual 121, 3) := dchk_at dgL_law_976_ 28 rfl
theorem dL_law_1011 : decode cL_law 1011 = .ok (.pop, 1) := dchk_at dgL_law_976_ 29 rfl
theorem dL_law_1012 : decode cL_law 1012 = .ok (.aload_n 2, 1) := dchk_at dgL_law_976_ 30 rfl
theorem dL_law_1013 : decode cL_law 1013 = .ok (.aload_n 0, 1) := dchk_at dgL_law_976_ 31 rfl
theorem dgL_law_1014_ : dchk cL_law [(1014, .iload_n 3, 1), (1015, .iconst 1, 1), (1016, .iadd, 1), (1017, .iaload, 1), (1018, .aload_n 0, 1), (1019, .iload_n 3, 1), (1020, .iconst 2, 1), (1021, .iadd, 1), (1022, .iaload, 1), (1023, .aload_n 0, 1), (1024, .iload_n 3, 1), (1025, .iconst 3, 1), (1026, .iadd, 1), (1027, .iaload, 1), (1028, .invokevirtual 124, 3), (1031, .pop, 1), (1032, .goto 349, 3), (1035, .aload_n 1, 1), (1036, .aload_n 0, 1), (1037, .iload_n 3, 1), (1038, .iconst 1, 1), (1039, .iadd, 1), (1040, .iaload, 1), (1041, .invokevirtual 125, 3), (1044, .pop, 1), (1045, .aload_n 2, 1), (1046, .aload_n 0, 1), (1047, .iload_n 3, 1), (1048, .iconst 1, 1), (1049, .iadd, 1), (1050, .iaload, 1), (1051, .invokevirtual 128, 3)] = true := by decide +kernel
theorem dL_law_1014 : decode cL_law 1014 = .ok (.iload_n 3, 1) := dchk_at dgL_law_1014_ 0 rfl
theorem dL_law_1015 : decode cL_law 1015 = .ok (.iconst 1, 1) := dchk_at dgL_law_1014_ 1 rfl
theorem dL_law_1016 : decode cL_law 1016 = .ok (.iadd, 1) := dchk_at dgL_law_1014_ 2 rfl
theorem dL_law_1017 : decode cL_law 1017 = .ok (.iaload, 1) := dchk_at dgL_law_1014_ 3 rfl
theorem dL_law_1018 : decode cL_law 1018 = .ok (.aload_n 0, 1) := dchk_at dgL_law_1014_ 4 rfl
theorem dL_law_1019 : decode cL_law 1019 = .ok (.iload_n 3, 1) := dchk_at dgL_law_1014_ 5 rfl
theorem dL_law_1020 : decode cL_law 1020 = .ok (.iconst 2, 1) := dchk_at dgL_law_1014_ 6 rfl
theorem dL_law_1021 : decode cL_law 1021 = .ok (.iadd, 1) := dchk_at dgL_law_1014_ 7 rfl
theorem dL_law_1022 : decode cL_law 1022 = .ok (.iaload, 1) := dchk_at dgL_law_1014_ 8 rfl
theorem dL_law_1023 : decode cL_law 1023 = .ok (.aload_n 0, 1) := dchk_at dgL_law_1014_ 9 rfl
theorem dL_law_1024 : decode cL_law 1024 = .ok (.iload_n 3, 1) := dchk_at dgL_law_1014_ 10 rfl
theorem dL_law_1025 : decode cL_law 1025 = .ok (.iconst 3, 1) := dchk_at dgL_law_1014_ 11 rfl
theorem dL_law_1026 : decode cL_law 1026 = .ok (.iadd, 1) := dchk_at dgL_law_1014_ 12 rfl
theorem dL_law_1027 : decode cL_law 1027 = .ok (.iaload, 1) := dchk_at dgL_law_1014_ 13 rfl
theorem dL_law_1028 : decode cL_law 1028 = .ok (.invokevirtual 124, 3) := dchk_at dgL_law_1014_ 14 rfl
theorem dL_law_1031 : decode cL_law 1031 = .ok (.pop, 1) := dchk_at dgL_law_1014_ 15 rfl
theorem dL_law_1032 : decode cL_law 1032 = .ok (.goto 349, 3) := dchk_at dgL_law_1014_ 16 rfl
theorem dL_law_1035 : decode cL_law 1035 = .ok (.aload_n 1, 1) := dchk_at dgL_law_1014_ 17 rfl
theorem dL_law_1036 : decode cL_law 1036 = .ok (.aload_n 0, 1) := dchk_at dgL_law_1014_ 18 rfl
theorem dL_law_1037 : decode cL_law 1037 = .ok (.iload_n 3, 1) := dchk_at dgL_law_1014_ 19 rfl
theorem dL_law_1038 : decode cL_law 1038 = .ok (.iconst 1, 1) := dchk_at dgL_law_1014_ 20 rfl
theorem dL_law_1039 : decode cL_law 1039 = .ok (.iadd, 1) := dchk_at dgL_law_1014_ 21 rfl
theorem dL_law_1040 : decode cL_law 1040 = .ok (.iaload, 1) := dchk_at dgL_law_1014_ 22 rfl
theorem dL_law_1041 : decode cL_law 1041 = .ok (.invokevirtual 125, 3) := dchk_at dgL_law_1014_ 23 rfl
theorem dL_law_1044 : decode cL_law 1044 = .ok (.pop, 1) := dchk_at dgL_law_1014_ 24 rfl
theorem dL_law_1045 : decode cL_law 1045 = .ok (.aload_n 2, 1) := dchk_at dgL_law_1014_ 25 rfl
theorem dL_law_1046 : decode cL_law 1046 = .ok (.aload_n 0, 1) := dchk_at dgL_law_1014_ 26 rfl
theorem dL_law_1047 : decode cL_law 1047 = .ok (.iload_n 3, 1) := dchk_at dgL_law_1014_ 27 rfl
theorem dL_law_1048 : decode cL_law 1048 = .ok (.iconst 1, 1) := dchk_at dgL_law_1014_ 28 rfl
theorem dL_law_1049 : decode cL_law 1049 = .ok (.iadd, 1) := dchk_at dgL_law_1014_ 29 rfl
theorem dL_law_1050 : decode cL_law 1050 = .ok (.iaload, 1) := dchk_at dgL_law_1014_ 30 rfl
theorem dL_law_1051 : decode cL_law 1051 = .ok (.invokevirtual 128, 3) := dchk_at dgL_law_1014_ 31 rfl
theorem dgL_law_1054_ : dchk cL_law [(1054, .pop, 1), (1055, .goto 326, 3), (1058, .aload_n 1, 1), (1059, .aload_n 0, 1), (1060, .iload_n 3, 1), (1061, .iconst 1, 1), (1062, .iadd, 1), (1063, .iaload, 1), (1064, .invokevirtual 129, 3), (1067, .pop, 1), (1068, .aload_n 2, 1), (1069, .aload_n 0, 1), (1070, .iload_n 3, 1), (1071, .iconst 1, 1), (1072, .iadd, 1), (1073, .iaload, 1), (1074, .invokevirtual 132, 3), (1077, .pop, 1), (1078, .goto 303, 3), (1081, .aload_n 1, 1), (1082, .aload_n 0, 1), (1083, .iload_n 3, 1), (1084, .iconst 1, 1), (1085, .iadd, 1), (1086, .iaload, 1), (1087, .aload_n 0, 1), (1088, .iload_n 3, 1), (1089, .iconst 2, 1), (1090, .iadd, 1), (1091, .iaload, 1), (1092, .aload_n 0, 1), (1093, .iload_n 3, 1)] = true := by decide +kernel
theorem dL_law_1054 : decode cL_law 1054 = .ok (.pop, 1) := dchk_at dgL_law_1054_ 0 rfl
theorem dL_law_1055 : decode cL_law 1055 = .ok (.goto 326, 3) := dchk_at dgL_law_1054_ 1 rfl
theorem dL_law_1058 : decode cL_law 1058 = .ok (.aload_n 1, 1) := dchk_at dgL_law_1054_ 2 rfl
theorem dL_law_1059 : decode cL_law 1059 = .ok (.aload_n 0, 1) := dchk_at dgL_law_1054_ 3 rfl
theorem dL_law_1060 : decode cL_law 1060 = .ok (.iload_n 3, 1) := dchk_at dgL_law_1054_ 4 rfl
theorem dL_law_1061 : decode cL_law 1061 = .ok (.iconst 1, 1) := dchk_at dgL_law_1054_ 5 rfl
theorem dL_law_1062 : decode cL_law 1062 = .ok (.iadd, 1) := dchk_at dgL_law_1054_ 6 rfl
theorem dL_law_1063 : decode cL_law 1063 = .ok (.iaload, 1) := dchk_at dgL_law_1054_ 7 rfl
theorem dL_law_1064 : decode cL_law 1064 = .ok (.invokevirtual 129, 3) := dchk_at dgL_law_1054_ 8 rfl
theorem dL_law_1067 : decode cL_law 1067 = .ok (.pop, 1) := dchk_at dgL_law_1054_ 9 rfl
theorem dL_law_1068 : decode cL_law 1068 = .ok (.aload_n 2, 1) := dchk_at dgL_law_1054_ 10 rfl
theorem dL_law_1069 : decode cL_law 1069 = .ok (.aload_n 0, 1) := dchk_at dgL_law_1054_ 11 rfl
theorem dL_law_1070 : decode cL_law 1070 = .ok (.iload_n 3, 1) := dchk_at dgL_law_1054_ 12 rfl
theorem dL_law_1071 : decode cL_law 1071 = .ok (.iconst 1, 1) := dchk_at dgL_law_1054_ 13 rfl
theorem dL_law_1072 : decode cL_law 1072 = .ok (.iadd, 1) := dchk_at dgL_law_1054_ 14 rfl
theorem dL_law_1073 : decode cL_law 1073 = .ok (.iaload, 1) := dchk_at dgL_law_1054_ 15 rfl
theorem dL_law_1074 : decode cL_law 1074 = .ok (.invokevirtual 132, 3) := dchk_at dgL_law_1054_ 16 rfl
theorem dL_law_1077 : decode cL_law 1077 = .ok (.pop, 1) := dchk_at dgL_law_1054_ 17 rfl
theorem dL_law_1078 : decode cL_law 1078 = .ok (.goto 303, 3) := dchk_at dgL_law_1054_ 18 rfl
theorem dL_law_1081 : decode cL_law 1081 = .ok (.aload_n 1, 1) := dchk_at dgL_law_1054_ 19 rfl
theorem dL_law_1082 : decode cL_law 1082 = .ok (.aload_n 0, 1) := dchk_at dgL_law_1054_ 20 rfl
theorem dL_law_1083 : decode cL_law 1083 = .ok (.iload_n 3, 1) := dchk_at dgL_law_1054_ 21 rfl
theorem dL_law_1084 : decode cL_law 1084 = .ok (.iconst 1, 1) := dchk_at dgL_law_1054_ 22 rfl
theorem dL_law_1085 : decode cL_law 1085 = .ok (.iadd, 1) := dchk_at dgL_law_1054_ 23 rfl
theorem dL_law_1086 : decode cL_law 1086 = .ok (.iaload, 1) := dchk_at dgL_law_1054_ 24 rfl
theorem dL_law_1087 : decode cL_law 1087 = .ok (.aload_n 0, 1) := dchk_at dgL_law_1054_ 25 rfl
theorem dL_law_1088 : decode cL_law 1088 = .ok (.iload_n 3, 1) := dchk_at dgL_law_1054_ 26 rfl
theorem dL_law_1089 : decode cL_law 1089 = .ok (.iconst 2, 1) := dchk_at dgL_law_1054_ 27 rfl
theorem dL_law_1090 : decode cL_law 1090 = .ok (.iadd, 1) := dchk_at dgL_law_1054_ 28 rfl
theorem dL_law_1091 : decode cL_law 1091 = .ok (.iaload, 1) := dchk_at dgL_law_1054_ 29 rfl
theorem dL_law_1092 : decode cL_law 1092 = .ok (.aload_n 0, 1) := dchk_at dgL_law_1054_ 30 rfl
theorem dL_law_1093 : decode cL_law 1093 = .ok (.iload_n 3, 1) := dchk_at dgL_law_1054_ 31 rfl
theorem dgL_law_1094_ : dchk cL_law [(1094, .iconst 3, 1), (1095, .iadd, 1), (1096, .iaload, 1), (1097, .aload_n 0, 1), (1098, .iload_n 3, 1), (1099, .iconst 4, 1), (1100, .iadd, 1), (1101, .iaload, 1), (1102, .aload_n 0, 1), (1103, .iload_n 3, 1), (1104, .iconst 5, 1), (1105, .iadd, 1), (1106, .iaload, 1), (1107, .invokevirtual 133, 3), (1110, .pop, 1), (1111, .aload_n 2, 1), (1112, .aload_n 0, 1), (1113, .iload_n 3, 1), (1114, .iconst 1, 1), (1115, .iadd, 1), (1116, .iaload, 1), (1117, .aload_n 0, 1), (1118, .iload_n 3, 1), (1119, .iconst 2, 1), (1120, .iadd, 1), (1121, .iaload, 1), (1122, .aload_n 0, 1), (1123, .iload_n 3, 1), (1124, .iconst 3, 1), (1125, .iadd, 1), (1126, .iaload, 1), (1127, .aload_n 0, 1)] = true := by decide +kernel
theorem dL_law_1094 : decode cL_law 1094 = .ok (.iconst 3, 1) := dchk_at dgL_law_1094_ 0 rfl
theorem dL_law_1095 : decode cL_law 1095 = .ok (.iadd, 1) := dchk_at dgL_law_1094_ 1 rfl
theorem dL_law_1096 : decode cL_law 1096 = .ok (.iaload, 1) := dchk_at dgL_law_1094_ 2 rfl
theorem dL_law_1097 : decode cL_law 1097 = .ok (.aload_n 0, 1) := dchk_at dgL_law_1094_ 3 rfl
theorem dL_law_1098 : decode cL_law 1098 = .ok (.iload_n 3, 1) := dchk_at dgL_law_1094_ 4 rfl
theorem dL_law_1099 : decode cL_law 1099 = .ok (.iconst 4, 1) := dchk_at dgL_law_1094_ 5 rfl
theorem dL_law_1100 : decode cL_law 1100 = .ok (.iadd, 1) := dchk_at dgL_law_1094_ 6 rfl
theorem dL_law_1101 : decode cL_law 1101 = .ok (.iaload, 1) := dchk_at dgL_law_1094_ 7 rfl
theorem dL_law_1102 : decode cL_law 1102 = .ok (.aload_n 0, 1) := dchk_at dgL_law_1094_ 8 rfl
theorem dL_law_1103 : decode cL_law 1103 = .ok (.iload_n 3, 1) := dchk_at dgL_law_1094_ 9 rfl
theorem dL_law_1104 : decode cL_law 1104 = .ok (.iconst 5, 1) := dchk_at dgL_law_1094_ 10 rfl
theorem dL_law_1105 : decode cL_law 1105 = .ok (.iadd, 1) := dchk_at dgL_law_1094_ 11 rfl
theorem dL_law_1106 : decode cL_law 1106 = .ok (.iaload, 1) := dchk_at dgL_law_1094_ 12 rfl
theorem dL_law_1107 : decode cL_law 1107 = .ok (.invokevirtual 133, 3) := dchk_at dgL_law_1094_ 13 rfl
theorem dL_law_1110 : decode cL_law 1110 = .ok (.pop, 1) := dchk_at dgL_law_1094_ 14 rfl
theorem dL_law_1111 : decode cL_law 1111 = .ok (.aload_n 2, 1) := dchk_at dgL_law_1094_ 15 rfl
theorem dL_law_1112 : decode cL_law 1112 = .ok (.aload_n 0, 1) := dchk_at dgL_law_1094_ 16 rfl
theorem dL_law_1113 : decode cL_law 1113 = .ok (.iload_n 3, 1) := dchk_at dgL_law_1094_ 17 rfl
theorem dL_law_1114 : decode cL_law 1114 = .ok (.iconst 1, 1) := dchk_at dgL_law_1094_ 18 rfl
theorem dL_law_1115 : decode cL_law 1115 = .ok (.iadd, 1) := dchk_at dgL_law_1094_ 19 rfl
theorem dL_law_1116 : decode cL_law 1116 = .ok (.iaload, 1) := dchk_at dgL_law_1094_ 20 rfl
theorem dL_law_1117 : decode cL_law 1117 = .ok (.aload_n 0, 1) := dchk_at dgL_law_1094_ 21 rfl
theorem dL_law_1118 : decode cL_law 1118 = .ok (.iload_n 3, 1) := dchk_at dgL_law_1094_ 22 rfl
theorem dL_law_1119 : decode cL_law 1119 = .ok (.iconst 2, 1) := dchk_at dgL_law_1094_ 23 rfl
theorem dL_law_1120 : decode cL_law 1120 = .ok (.iadd, 1) := dchk_at dgL_law_1094_ 24 rfl
theorem dL_law_1121 : decode cL_law 1121 = .ok (.iaload, 1) := dchk_at dgL_law_1094_ 25 rfl
theorem dL_law_1122 : decode cL_law 1122 = .ok (.aload_n 0, 1) := dchk_at dgL_law_1094_ 26 rfl
theorem dL_law_1123 : decode cL_law 1123 = .ok (.iload_n 3, 1) := dchk_at dgL_law_1094_ 27 rfl
theorem dL_law_1124 : decode cL_law 1124 = .ok (.iconst 3, 1) := dchk_at dgL_law_1094_ 28 rfl
theorem dL_law_1125 : decode cL_law 1125 = .ok (.iadd, 1) := dchk_at dgL_law_1094_ 29 rfl
theorem dL_law_1126 : decode cL_law 1126 = .ok (.iaload, 1) := dchk_at dgL_law_1094_ 30 rfl
theorem dL_law_1127 : decode cL_law 1127 = .ok (.aload_n 0, 1) := dchk_at dgL_law_1094_ 31 rfl
theorem dgL_law_1128_ : dchk cL_law [(1128, .iload_n 3, 1), (1129, .iconst 4, 1), (1130, .iadd, 1), (1131, .iaload, 1), (1132, .aload_n 0, 1), (1133, .iload_n 3, 1), (1134, .iconst 5, 1), (1135, .iadd, 1), (1136, .iaload, 1), (1137, .invokevirtual 137, 3), (1140, .pop, 1), (1141, .goto 240, 3), (1144, .aload_n 1, 1), (1145, .aload_n 0, 1), (1146, .iload_n 3, 1), (1147, .iconst 1, 1), (1148, .iadd, 1), (1149, .iaload, 1), (1150, .aload_n 0, 1), (1151, .iload_n 3, 1), (1152, .iconst 2, 1), (1153, .iadd, 1), (1154, .iaload, 1), (1155, .aload_n 0, 1), (1156, .iload_n 3, 1), (1157, .iconst 3, 1), (1158, .iadd, 1), (1159, .iaload, 1), (1160, .invokevirtual 138, 3), (1163, .pop, 1), (1164, .aload_n 2, 1), (1165, .aload_n 0, 1)] = true := by decide +kernel
theorem dL_law_1128 : decode cL_law 1128 = .ok (.iload_n 3, 1) := dchk_at dgL_law_1128_ 0 rfl
theorem dL_law_1129 : decode cL_law 1129 = .ok (.iconst 4, 1) := dchk_at dgL_law_1128_ 1 rfl
theorem dL_law_1130 : decode cL_law 1130 = .ok (.iadd, 1) := dchk_at dgL_law_1128_ 2 rfl
theorem dL_law_1131 : decode cL_law 1131 = .ok (.iaload, 1) := dchk_at dgL_law_1128_ 3 rfl
theorem dL_law_1132 : decode cL_law 1132 = .ok (.aload_n 0, 1) := dchk_at dgL_law_1128_ 4 rfl
theorem dL_law_1133 : decode cL_law 1133 = .ok (.iload_n 3, 1) := dchk_at dgL_law_1128_ 5 rfl
theorem dL_law_1134 : decode cL_law 1134 = .ok (.iconst 5, 1) := dchk_at dgL_law_1128_ 6 rfl
theorem dL_law_1135 : decode cL_law 1135 = .ok (.iadd, 1) := dchk_at dgL_law_1128_ 7 rfl
theorem dL_law_1136 : decode cL_law 1136 = .ok (.iaload, 1) := dchk_at dgL_law_1128_ 8 rfl
theorem dL_law_1137 : decode cL_law 1137 = .ok (.invokevirtual 137, 3) := dchk_at dgL_law_1128_ 9 rfl
theorem dL_law_1140 : decode cL_law 1140 = .ok (.pop, 1) := dchk_at dgL_law_1128_ 10 rfl
theorem dL_law_1141 : decode cL_law 1141 = .ok (.goto 240, 3) := dchk_at dgL_law_1128_ 11 rfl
theorem dL_law_1144 : decode cL_law 1144 = .ok (.aload_n 1, 1) := dchk_at dgL_law_1128_ 12 rfl
theorem dL_law_1145 : decode cL_law 1145 = .ok (.aload_n 0, 1) := dchk_at dgL_law_1128_ 13 rfl
theorem dL_law_1146 : decode cL_law 1146 = .ok (.iload_n 3, 1) := dchk_at dgL_law_1128_ 14 rfl
theorem dL_law_1147 : decode cL_law 1147 = .ok (.iconst 1, 1) := dchk_at dgL_law_1128_ 15 rfl
theorem dL_law_1148 : decode cL_law 1148 = .ok (.iadd, 1) := dchk_at dgL_law_1128_ 16 rfl
theorem dL_law_1149 : decode cL_law 1149 = .ok (.iaload, 1) := dchk_at dgL_law_1128_ 17 rfl
theorem dL_law_1150 : decode cL_law 1150 = .ok (.aload_n 0, 1) := dchk_at dgL_law_1128_ 18 rfl
theorem dL_law_1151 : decode cL_law 1151 = .ok (.iload_n 3, 1) := dchk_at dgL_law_1128_ 19 rfl
theorem dL_law_1152 : decode cL_law 1152 = .ok (.iconst 2, 1) := dchk_at dgL_law_1128_ 20 rfl
theorem dL_law_1153 : decode cL_law 1153 = .ok (.iadd, 1) := dchk_at dgL_law_1128_ 21 rfl
theorem dL_law_1154 : decode cL_law 1154 = .ok (.iaload, 1) := dchk_at dgL_law_1128_ 22 rfl
theorem dL_law_1155 : decode cL_law 1155 = .ok (.aload_n 0, 1) := dchk_at dgL_law_1128_ 23 rfl
theorem dL_law_1156 : decode cL_law 1156 = .ok (.iload_n 3, 1) := dchk_at dgL_law_1128_ 24 rfl
theorem dL_law_1157 : decode cL_law 1157 = .ok (.iconst 3, 1) := dchk_at dgL_law_1128_ 25 rfl
theorem dL_law_1158 : decode cL_law 1158 = .ok (.iadd, 1) := dchk_at dgL_law_1128_ 26 rfl
theorem dL_law_1159 : decode cL_law 1159 = .ok (.iaload, 1) := dchk_at dgL_law_1128_ 27 rfl
theorem dL_law_1160 : decode cL_law 1160 = .ok (.invokevirtual 138, 3) := dchk_at dgL_law_1128_ 28 rfl
theorem dL_law_1163 : decode cL_law 1163 = .ok (.pop, 1) := dchk_at dgL_law_1128_ 29 rfl
theorem dL_law_1164 : decode cL_law 1164 = .ok (.aload_n 2, 1) := dchk_at dgL_law_1128_ 30 rfl
theorem dL_law_1165 : decode cL_law 1165 = .ok (.aload_n 0, 1) := dchk_at dgL_law_1128_ 31 rfl
theorem dgL_law_1166_ : dchk cL_law [(1166, .iload_n 3, 1), (1167, .iconst 1, 1), (1168, .iadd, 1), (1169, .iaload, 1), (1170, .aload_n 0, 1), (1171, .iload_n 3, 1), (1172, .iconst 2, 1), (1173, .iadd, 1), (1174, .iaload, 1), (1175, .aload_n 0, 1), (1176, .iload_n 3, 1), (1177, .iconst 3, 1), (1178, .iadd, 1), (1179, .iaload, 1), (1180, .invokevirtual 141, 3), (1183, .pop, 1), (1184, .goto 197, 3), (1187, .aload_n 1, 1), (1188, .aload_n 0, 1), (1189, .iload_n 3, 1), (1190, .iconst 1, 1), (1191, .iadd, 1), (1192, .iaload, 1), (1193, .aload_n 0, 1), (1194, .iload_n 3, 1), (1195, .iconst 2, 1), (1196, .iadd, 1), (1197, .iaload, 1), (1198, .invokevirtual 142, 3), (1201, .pop, 1), (1202, .aload_n 2, 1), (1203, .aload_n 0, 1)] = true := by decide +kernel
theorem dL_law_1166 : decode cL_law 1166 = .ok (.iload_n 3, 1) := dchk_at dgL_law_1166_ 0 rfl
theorem dL_law_1167 : decode cL_law 1167 = .ok (.iconst 1, 1) := dchk_at dgL_law_1166_ 1 rfl
theorem dL_law_1168 : decode cL_law 1168 = .ok (.iadd, 1) := dchk_at dgL_law_1166_ 2 rfl
theorem dL_law_1169 : decode cL_law 1169 = .ok (.iaload, 1) := dchk_at dgL_law_1166_ 3 rfl
theorem dL_law_1170 : decode cL_law 1170 = .ok (.aload_n 0, 1) := dchk_at dgL_law_1166_ 4 rfl
theorem dL_law_1171 : decode cL_law 1171 = .ok (.iload_n 3, 1) := dchk_at dgL_law_1166_ 5 rfl
theorem dL_law_1172 : decode cL_law 1172 = .ok (.iconst 2, 1) := dchk_at dgL_law_1166_ 6 rfl
theorem dL_law_1173 : decode cL_law 1173 = .ok (.iadd, 1) := dchk_at dgL_law_1166_ 7 rfl
theorem dL_law_1174 : decode cL_law 1174 = .ok (.iaload, 1) := dchk_at dgL_law_1166_ 8 rfl
theorem dL_law_1175 : decode cL_law 1175 = .ok (.aload_n 0, 1) := dchk_at dgL_law_1166_ 9 rfl
theorem dL_law_1176 : decode cL_law 1176 = .ok (.iload_n 3, 1) := dchk_at dgL_law_1166_ 10 rfl
theorem dL_law_1177 : decode cL_law 1177 = .ok (.iconst 3, 1) := dchk_at dgL_law_1166_ 11 rfl
theorem dL_law_1178 : decode cL_law 1178 = .ok (.iadd, 1) := dchk_at dgL_law_1166_ 12 rfl
theorem dL_law_1179 : decode cL_law 1179 = .ok (.iaload, 1) := dchk_at dgL_law_1166_ 13 rfl
theorem dL_law_1180 : decode cL_law 1180 = .ok (.invokevirtual 141, 3) := dchk_at dgL_law_1166_ 14 rfl
theorem dL_law_1183 : decode cL_law 1183 = .ok (.pop, 1) := dchk_at dgL_law_1166_ 15 rfl
theorem dL_law_1184 : decode cL_law 1184 = .ok (.goto 197, 3) := dchk_at dgL_law_1166_ 16 rfl
theorem dL_law_1187 : decode cL_law 1187 = .ok (.aload_n 1, 1) := dchk_at dgL_law_1166_ 17 rfl
theorem dL_law_1188 : decode cL_law 1188 = .ok (.aload_n 0, 1) := dchk_at dgL_law_1166_ 18 rfl
theorem dL_law_1189 : decode cL_law 1189 = .ok (.iload_n 3, 1) := dchk_at dgL_law_1166_ 19 rfl
theorem dL_law_1190 : decode cL_law 1190 = .ok (.iconst 1, 1) := dchk_at dgL_law_1166_ 20 rfl
theorem dL_law_1191 : decode cL_law 1191 = .ok (.iadd, 1) := dchk_at dgL_law_1166_ 21 rfl
theorem dL_law_1192 : decode cL_law 1192 = .ok (.iaload, 1) := dchk_at dgL_law_1166_ 22 rfl
theorem dL_law_1193 : decode cL_law 1193 = .ok (.aload_n 0, 1) := dchk_at dgL_law_1166_ 23 rfl
theorem dL_law_1194 : decode cL_law 1194 = .ok (.iload_n 3, 1) := dchk_at dgL_law_1166_ 24 rfl
theorem dL_law_1195 : decode cL_law 1195 = .ok (.iconst 2, 1) := dchk_at dgL_law_1166_ 25 rfl
theorem dL_law_1196 : decode cL_law 1196 = .ok (.iadd, 1) := dchk_at dgL_law_1166_ 26 rfl
theorem dL_law_1197 : decode cL_law 1197 = .ok (.iaload, 1) := dchk_at dgL_law_1166_ 27 rfl
theorem dL_law_1198 : decode cL_law 1198 = .ok (.invokevirtual 142, 3) := dchk_at dgL_law_1166_ 28 rfl
theorem dL_law_1201 : decode cL_law 1201 = .ok (.pop, 1) := dchk_at dgL_law_1166_ 29 rfl
theorem dL_law_1202 : decode cL_law 1202 = .ok (.aload_n 2, 1) := dchk_at dgL_law_1166_ 30 rfl
theorem dL_law_1203 : decode cL_law 1203 = .ok (.aload_n 0, 1) := dchk_at dgL_law_1166_ 31 rfl
theorem dgL_law_1204_ : dchk cL_law [(1204, .iload_n 3, 1), (1205, .iconst 1, 1), (1206, .iadd, 1), (1207, .iaload, 1), (1208, .aload_n 0, 1), (1209, .iload_n 3, 1), (1210, .iconst 2, 1), (1211, .iadd, 1), (1212, .iaload, 1), (1213, .invokevirtual 145, 3), (1216, .pop, 1), (1217, .goto 164, 3), (1220, .aload_n 1, 1), (1221, .aload_n 0, 1), (1222, .iload_n 3, 1), (1223, .iconst 1, 1), (1224, .iadd, 1), (1225, .iaload, 1), (1226, .aload_n 0, 1), (1227, .iload_n 3, 1), (1228, .iconst 2, 1), (1229, .iadd, 1), (1230, .iaload, 1), (1231, .invokevirtual 146, 3), (1234, .pop, 1), (1235, .aload_n 2, 1), (1236, .aload_n 0, 1), (1237, .iload_n 3, 1), (1238, .iconst 1, 1), (1239, .iadd, 1), (1240, .iaload, 1), (1241, .aload_n 0, 1)] = true := by decide +kernel
theorem dL_law_1204 : decode cL_law 1204 = .ok (.iload_n 3, 1) := dchk_at dgL_law_1204_ 0 rfl
theorem dL_law_1205 : decode cL_law 1205 = .ok (.iconst 1, 1) := dchk_at dgL_law_1204_ 1 rfl
theorem dL_law_1206 : decode cL_law 1206 = .ok (.iadd, 1) := dchk_at dgL_law_1204_ 2 rfl
theorem dL_law_1207 : decode cL_law 1207 = .ok (.iaload, 1) := dchk_at dgL_law_1204_ 3 rfl
theorem dL_law_1208 : decode cL_law 1208 = .ok (.aload_n 0, 1) := dchk_at dgL_law_1204_ 4 rfl
theorem dL_law_1209 : decode cL_law 1209 = .ok (.iload_n 3, 1) := dchk_at dgL_law_1204_ 5 rfl
theorem dL_law_1210 : decode cL_law 1210 = .ok (.iconst 2, 1) := dchk_at dgL_law_1204_ 6 rfl
theorem dL_law_1211 : decode cL_law 1211 = .ok (.iadd, 1) := dchk_at dgL_law_1204_ 7 rfl
theorem dL_law_1212 : decode cL_law 1212 = .ok (.iaload, 1) := dchk_at dgL_law_1204_ 8 rfl
theorem dL_law_1213 : decode cL_law 1213 = .ok (.invokevirtual 145, 3) := dchk_at dgL_law_1204_ 9 rfl
theorem dL_law_1216 : decode cL_law 1216 = .ok (.pop, 1) := dchk_at dgL_law_1204_ 10 rfl
theorem dL_law_1217 : decode cL_law 1217 = .ok (.goto 164, 3) := dchk_at dgL_law_1204_ 11 rfl
theorem dL_law_1220 : decode cL_law 1220 = .ok (.aload_n 1, 1) := dchk_at dgL_law_1204_ 12 rfl
theorem dL_law_1221 : decode cL_law 1221 = .ok (.aload_n 0, 1) := dchk_at dgL_law_1204_ 13 rfl
theorem dL_law_1222 : decode cL_law 1222 = .ok (.iload_n 3, 1) := dchk_at dgL_law_1204_ 14 rfl
theorem dL_law_1223 : decode cL_law 1223 = .ok (.iconst 1, 1) := dchk_at dgL_law_1204_ 15 rfl
theorem dL_law_1224 : decode cL_law 1224 = .ok (.iadd, 1) := dchk_at dgL_law_1204_ 16 rfl
theorem dL_law_1225 : decode cL_law 1225 = .ok (.iaload, 1) := dchk_at dgL_law_1204_ 17 rfl
theorem dL_law_1226 : decode cL_law 1226 = .ok (.aload_n 0, 1) := dchk_at dgL_law_1204_ 18 rfl
theorem dL_law_1227 : decode cL_law 1227 = .ok (.iload_n 3, 1) := dchk_at dgL_law_1204_ 19 rfl
theorem dL_law_1228 : decode cL_law 1228 = .ok (.iconst 2, 1) := dchk_at dgL_law_1204_ 20 rfl
theorem dL_law_1229 : decode cL_law 1229 = .ok (.iadd, 1) := dchk_at dgL_law_1204_ 21 rfl
theorem dL_law_1230 : decode cL_law 1230 = .ok (.iaload, 1) := dchk_at dgL_law_1204_ 22 rfl
theorem dL_law_1231 : decode cL_law 1231 = .ok (.invokevirtual 146, 3) := dchk_at dgL_law_1204_ 23 rfl
theorem dL_law_1234 : decode cL_law 1234 = .ok (.pop, 1) := dchk_at dgL_law_1204_ 24 rfl
theorem dL_law_1235 : decode cL_law 1235 = .ok (.aload_n 2, 1) := dchk_at dgL_law_1204_ 25 rfl
theorem dL_law_1236 : decode cL_law 1236 = .ok (.aload_n 0, 1) := dchk_at dgL_law_1204_ 26 rfl
theorem dL_law_1237 : decode cL_law 1237 = .ok (.iload_n 3, 1) := dchk_at dgL_law_1204_ 27 rfl
theorem dL_law_1238 : decode cL_law 1238 = .ok (.iconst 1, 1) := dchk_at dgL_law_1204_ 28 rfl
theorem dL_law_1239 : decode cL_law 1239 = .ok (.iadd, 1) := dchk_at dgL_law_1204_ 29 rfl
theorem dL_law_1240 : decode cL_law 1240 = .ok (.iaload, 1) := dchk_at dgL_law_1204_ 30 rfl
theorem dL_law_1241 : decode cL_law 1241 = .ok (.aload_n 0, 1) := dchk_at dgL_law_1204_ 31 rfl
theorem dgL_law_1242_ : dchk cL_law [(1242, .iload_n 3, 1), (1243, .iconst 2, 1), (1244, .iadd, 1), (1245, .iaload, 1), (1246, .invokevirtual 149, 3), (1249, .pop, 1), (1250, .goto 131, 3), (1253, .aload_n 1, 1), (1254, .aload_n 0, 1), (1255, .iload_n 3, 1), (1256, .iconst 1, 1), (1257, .iadd, 1), (1258, .iaload, 1), (1259, .aload_n 0, 1), (1260, .iload_n 3, 1), (1261, .iconst 2, 1), (1262, .iadd, 1), (1263, .iaload, 1), (1264, .invokevirtual 150, 3), (1267, .pop, 1), (1268, .aload_n 2, 1), (1269, .aload_n 0, 1), (1270, .iload_n 3, 1), (1271, .iconst 1, 1), (1272, .iadd, 1), (1273, .iaload, 1), (1274, .aload_n 0, 1), (1275, .iload_n 3, 1), (1276, .iconst 2, 1), (1277, .iadd, 1), (1278, .iaload, 1), (1279, .invokevirtual 153, 3)] = true := by decide +kernel
theorem dL_law_1242 : decode cL_law 1242 = .ok (.iload_n 3, 1) := dchk_at dgL_law_1242_ 0 rfl
theorem dL_law_1243 : decode cL_law 1243 = .ok (.iconst 2, 1) := dchk_at dgL_law_1242_ 1 rfl
theorem dL_law_1244 : decode cL_law 1244 = .ok (.iadd, 1) := dchk_at dgL_law_1242_ 2 rfl
theorem dL_law_1245 : decode cL_law 1245 = .ok (.iaload, 1) := dchk_at dgL_law_1242_ 3 rfl
theorem dL_law_1246 : decode cL_law 1246 = .ok (.invokevirtual 149, 3) := dchk_at dgL_law_1242_ 4 rfl
theorem dL_law_1249 : decode cL_law 1249 = .ok (.pop, 1) := dchk_at dgL_law_1242_ 5 rfl
theorem dL_law_1250 : decode cL_law 1250 = .ok (.goto 131, 3) := dchk_at dgL_law_1242_ 6 rfl
theorem dL_law_1253 : decode cL_law 1253 = .ok (.aload_n 1, 1) := dchk_at dgL_law_1242_ 7 rfl
theorem dL_law_1254 : decode cL_law 1254 = .ok (.aload_n 0, 1) := dchk_at dgL_law_1242_ 8 rfl
theorem dL_law_1255 : decode cL_law 1255 = .ok (.iload_n 3, 1) := dchk_at dgL_law_1242_ 9 rfl
theorem dL_law_1256 : decode cL_law 1256 = .ok (.iconst 1, 1) := dchk_at dgL_law_1242_ 10 rfl
theorem dL_law_1257 : decode cL_law 1257 = .ok (.iadd, 1) := dchk_at dgL_law_1242_ 11 rfl
theorem dL_law_1258 : decode cL_law 1258 = .ok (.iaload, 1) := dchk_at dgL_law_1242_ 12 rfl
theorem dL_law_1259 : decode cL_law 1259 = .ok (.aload_n 0, 1) := dchk_at dgL_law_1242_ 13 rfl
theorem dL_law_1260 : decode cL_law 1260 = .ok (.iload_n 3, 1) := dchk_at dgL_law_1242_ 14 rfl
theorem dL_law_1261 : decode cL_law 1261 = .ok (.iconst 2, 1) := dchk_at dgL_law_1242_ 15 rfl
theorem dL_law_1262 : decode cL_law 1262 = .ok (.iadd, 1) := dchk_at dgL_law_1242_ 16 rfl
theorem dL_law_1263 : decode cL_law 1263 = .ok (.iaload, 1) := dchk_at dgL_law_1242_ 17 rfl
theorem dL_law_1264 : decode cL_law 1264 = .ok (.invokevirtual 150, 3) := dchk_at dgL_law_1242_ 18 rfl
theorem dL_law_1267 : decode cL_law 1267 = .ok (.pop, 1) := dchk_at dgL_law_1242_ 19 rfl
theorem dL_law_1268 : decode cL_law 1268 = .ok (.aload_n 2, 1) := dchk_at dgL_law_1242_ 20 rfl
theorem dL_law_1269 : decode cL_law 1269 = .ok (.aload_n 0, 1) := dchk_at dgL_law_1242_ 21 rfl
theorem dL_law_1270 : decode cL_law 1270 = .ok (.iload_n 3, 1) := dchk_at dgL_law_1242_ 22 rfl
theorem dL_law_1271 : decode cL_law 1271 = .ok (.iconst 1, 1) := dchk_at dgL_law_1242_ 23 rfl
theorem dL_law_1272 : decode cL_law 1272 = .ok (.iadd, 1) := dchk_at dgL_law_1242_ 24 rfl
theorem dL_law_1273 : decode cL_law 1273 = .ok (.iaload, 1) := dchk_at dgL_law_1242_ 25 rfl
theorem dL_law_1274 : decode cL_law 1274 = .ok (.aload_n 0, 1) := dchk_at dgL_law_1242_ 26 rfl
theorem dL_law_1275 : decode cL_law 1275 = .ok (.iload_n 3, 1) := dchk_at dgL_law_1242_ 27 rfl
theorem dL_law_1276 : decode cL_law 1276 = .ok (.iconst 2, 1) := dchk_at dgL_law_1242_ 28 rfl
theorem dL_law_1277 : decode cL_law 1277 = .ok (.iadd, 1) := dchk_at dgL_law_1242_ 29 rfl
theorem dL_law_1278 : decode cL_law 1278 = .ok (.iaload, 1) := dchk_at dgL_law_1242_ 30 rfl
theorem dL_law_1279 : decode cL_law 1279 = .ok (.invokevirtual 153, 3) := dchk_at dgL_law_1242_ 31 rfl
theorem dgL_law_1282_ : dchk cL_law [(1282, .pop, 1), (1283, .goto 98, 3), (1286, .aload_n 1, 1), (1287, .aload_n 0, 1), (1288, .iload_n 3, 1), (1289, .iconst 1, 1), (1290, .iadd, 1), (1291, .iaload, 1), (1292, .invokevirtual 154, 3), (1295, .pop, 1), (1296, .aload_n 2, 1), (1297, .aload_n 0, 1), (1298, .iload_n 3, 1), (1299, .iconst 1, 1), (1300, .iadd, 1), (1301, .iaload, 1), (1302, .invokevirtual 157, 3), (1305, .pop, 1), (1306, .goto 75, 3), (1309, .aload_n 1, 1), (1310, .aload_n 0, 1), (1311, .iload_n 3, 1), (1312, .iconst 1, 1), (1313, .iadd, 1), (1314, .iaload, 1), (1315, .invokevirtual 158, 3), (1318, .pop, 1), (1319, .aload_n 2, 1), (1320, .aload_n 0, 1), (1321, .iload_n 3, 1), (1322, .iconst 1, 1), (1323, .iadd, 1)] = true := by decide +kernel
theorem dL_law_1282 : decode cL_law 1282 = .ok (.pop, 1) := dchk_at dgL_law_1282_ 0 rfl
theorem dL_law_1283 : decode cL_law 1283 = .ok (.goto 98, 3) := dchk_at dgL_law_1282_ 1 rfl
theorem dL_law_1286 : decode cL_law 1286 = .ok (.aload_n 1, 1) := dchk_at dgL_law_1282_ 2 rfl
theorem dL_law_1287 : decode cL_law 1287 = .ok (.aload_n 0, 1) := dchk_at dgL_law_1282_ 3 rfl
theorem dL_law_1288 : decode cL_law 1288 = .ok (.iload_n 3, 1) := dchk_at dgL_law_1282_ 4 rfl
theorem dL_law_1289 : decode cL_law 1289 = .ok (.iconst 1, 1) := dchk_at dgL_law_1282_ 5 rfl
theorem dL_law_1290 : decode cL_law 1290 = .ok (.iadd, 1) := dchk_at dgL_law_1282_ 6 rfl
theorem dL_law_1291 : decode cL_law 1291 = .ok (.iaload, 1) := dchk_at dgL_law_1282_ 7 rfl
theorem dL_law_1292 : decode cL_law 1292 = .ok (.invokevirtual 154, 3) := dchk_at dgL_law_1282_ 8 rfl
theorem dL_law_1295 : decode cL_law 1295 = .ok (.pop, 1) := dchk_at dgL_law_1282_ 9 rfl
theorem dL_law_1296 : decode cL_law 1296 = .ok (.aload_n 2, 1) := dchk_at dgL_law_1282_ 10 rfl
theorem dL_law_1297 : decode cL_law 1297 = .ok (.aload_n 0, 1) := dchk_at dgL_law_1282_ 11 rfl
theorem dL_law_1298 : decode cL_law 1298 = .ok (.iload_n 3, 1) := dchk_at dgL_law_1282_ 12 rfl
theorem dL_law_1299 : decode cL_law 1299 = .ok (.iconst 1, 1) := dchk_at dgL_law_1282_ 13 rfl
theorem dL_law_1300 : decode cL_law 1300 = .ok (.iadd, 1) := dchk_at dgL_law_1282_ 14 rfl
theorem dL_law_1301 : decode cL_law 1301 = .ok (.iaload, 1) := dchk_at dgL_law_1282_ 15 rfl
theorem dL_law_1302 : decode cL_law 1302 = .ok (.invokevirtual 157, 3) := dchk_at dgL_law_1282_ 16 rfl
theorem dL_law_1305 : decode cL_law 1305 = .ok (.pop, 1) := dchk_at dgL_law_1282_ 17 rfl
theorem dL_law_1306 : decode cL_law 1306 = .ok (.goto 75, 3) := dchk_at dgL_law_1282_ 18 rfl
theorem dL_law_1309 : decode cL_law 1309 = .ok (.aload_n 1, 1) := dchk_at dgL_law_1282_ 19 rfl
theorem dL_law_1310 : decode cL_law 1310 = .ok (.aload_n 0, 1) := dchk_at dgL_law_1282_ 20 rfl
theorem dL_law_1311 : decode cL_law 1311 = .ok (.iload_n 3, 1) := dchk_at dgL_law_1282_ 21 rfl
theorem dL_law_1312 : decode cL_law 1312 = .ok (.iconst 1, 1) := dchk_at dgL_law_1282_ 22 rfl
theorem dL_law_1313 : decode cL_law 1313 = .ok (.iadd, 1) := dchk_at dgL_law_1282_ 23 rfl
theorem dL_law_1314 : decode cL_law 1314 = .ok (.iaload, 1) := dchk_at dgL_law_1282_ 24 rfl
theorem dL_law_1315 : decode cL_law 1315 = .ok (.invokevirtual 158, 3) := dchk_at dgL_law_1282_ 25 rfl
theorem dL_law_1318 : decode cL_law 1318 = .ok (.pop, 1) := dchk_at dgL_law_1282_ 26 rfl
theorem dL_law_1319 : decode cL_law 1319 = .ok (.aload_n 2, 1) := dchk_at dgL_law_1282_ 27 rfl
theorem dL_law_1320 : decode cL_law 1320 = .ok (.aload_n 0, 1) := dchk_at dgL_law_1282_ 28 rfl
theorem dL_law_1321 : decode cL_law 1321 = .ok (.iload_n 3, 1) := dchk_at dgL_law_1282_ 29 rfl
theorem dL_law_1322 : decode cL_law 1322 = .ok (.iconst 1, 1) := dchk_at dgL_law_1282_ 30 rfl
theorem dL_law_1323 : decode cL_law 1323 = .ok (.iadd, 1) := dchk_at dgL_law_1282_ 31 rfl
theorem dgL_law_1324_ : dchk cL_law [(1324, .iaload, 1), (1325, .invokevirtual 161, 3), (1328, .pop, 1), (1329, .goto 52, 3), (1332, .aload_n 1, 1), (1333, .invokevirtual 162, 3), (1336, .pop, 1), (1337, .aload_n 2, 1), (1338, .invokevirtual 165, 3), (1341, .pop, 1), (1342, .goto 39, 3), (1345, .aload_n 1, 1), (1346, .invokevirtual 166, 3), (1349, .pop, 1), (1350, .aload_n 2, 1), (1351, .invokevirtual 169, 3), (1354, .pop, 1), (1355, .goto 26, 3), (1358, .aload_n 1, 1), (1359, .aload_n 0, 1), (1360, .iload_n 3, 1), (1361, .iconst 1, 1), (1362, .iadd, 1), (1363, .iaload, 1), (1364, .invokevirtual 170, 3), (1367, .pop, 1), (1368, .aload_n 2, 1), (1369, .aload_n 0, 1), (1370, .iload_n 3, 1), (1371, .iconst 1, 1), (1372, .iadd, 1), (1373, .iaload, 1)] = true := by decide +kernel
theorem dL_law_1324 : decode cL_law 1324 = .ok (.iaload, 1) := dchk_at dgL_law_1324_ 0 rfl
theorem dL_law_1325 : decode cL_law 1325 = .ok (.invokevirtual 161, 3) := dchk_at dgL_law_1324_ 1 rfl
theorem dL_law_1328 : decode cL_law 1328 = .ok (.pop, 1) := dchk_at dgL_law_1324_ 2 rfl
theorem dL_law_1329 : decode cL_law 1329 = .ok (.goto 52, 3) := dchk_at dgL_law_1324_ 3 rfl
theorem dL_law_1332 : decode cL_law 1332 = .ok (.aload_n 1, 1) := dchk_at dgL_law_1324_ 4 rfl
theorem dL_law_1333 : decode cL_law 1333 = .ok (.invokevirtual 162, 3) := dchk_at dgL_law_1324_ 5 rfl
theorem dL_law_1336 : decode cL_law 1336 = .ok (.pop, 1) := dchk_at dgL_law_1324_ 6 rfl
theorem dL_law_1337 : decode cL_law 1337 = .ok (.aload_n 2, 1) := dchk_at dgL_law_1324_ 7 rfl
theorem dL_law_1338 : decode cL_law 1338 = .ok (.invokevirtual 165, 3) := dchk_at dgL_law_1324_ 8 rfl
theorem dL_law_1341 : decode cL_law 1341 = .ok (.pop, 1) := dchk_at dgL_law_1324_ 9 rfl
theorem dL_law_1342 : decode cL_law 1342 = .ok (.goto 39, 3) := dchk_at dgL_law_1324_ 10 rfl
theorem dL_law_1345 : decode cL_law 1345 = .ok (.aload_n 1, 1) := dchk_at dgL_law_1324_ 11 rfl
theorem dL_law_1346 : decode cL_law 1346 = .ok (.invokevirtual 166, 3) := dchk_at dgL_law_1324_ 12 rfl
theorem dL_law_1349 : decode cL_law 1349 = .ok (.pop, 1) := dchk_at dgL_law_1324_ 13 rfl
theorem dL_law_1350 : decode cL_law 1350 = .ok (.aload_n 2, 1) := dchk_at dgL_law_1324_ 14 rfl
theorem dL_law_1351 : decode cL_law 1351 = .ok (.invokevirtual 169, 3) := dchk_at dgL_law_1324_ 15 rfl
theorem dL_law_1354 : decode cL_law 1354 = .ok (.pop, 1) := dchk_at dgL_law_1324_ 16 rfl
theorem dL_law_1355 : decode cL_law 1355 = .ok (.goto 26, 3) := dchk_at dgL_law_1324_ 17 rfl
theorem dL_law_1358 : decode cL_law 1358 = .ok (.aload_n 1, 1) := dchk_at dgL_law_1324_ 18 rfl
theorem dL_law_1359 : decode cL_law 1359 = .ok (.aload_n 0, 1) := dchk_at dgL_law_1324_ 19 rfl
theorem dL_law_1360 : decode cL_law 1360 = .ok (.iload_n 3, 1) := dchk_at dgL_law_1324_ 20 rfl
theorem dL_law_1361 : decode cL_law 1361 = .ok (.iconst 1, 1) := dchk_at dgL_law_1324_ 21 rfl
theorem dL_law_1362 : decode cL_law 1362 = .ok (.iadd, 1) := dchk_at dgL_law_1324_ 22 rfl
theorem dL_law_1363 : decode cL_law 1363 = .ok (.iaload, 1) := dchk_at dgL_law_1324_ 23 rfl
theorem dL_law_1364 : decode cL_law 1364 = .ok (.invokevirtual 170, 3) := dchk_at dgL_law_1324_ 24 rfl
theorem dL_law_1367 : decode cL_law 1367 = .ok (.pop, 1) := dchk_at dgL_law_1324_ 25 rfl
theorem dL_law_1368 : decode cL_law 1368 = .ok (.aload_n 2, 1) := dchk_at dgL_law_1324_ 26 rfl
theorem dL_law_1369 : decode cL_law 1369 = .ok (.aload_n 0, 1) := dchk_at dgL_law_1324_ 27 rfl
theorem dL_law_1370 : decode cL_law 1370 = .ok (.iload_n 3, 1) := dchk_at dgL_law_1324_ 28 rfl
theorem dL_law_1371 : decode cL_law 1371 = .ok (.iconst 1, 1) := dchk_at dgL_law_1324_ 29 rfl
theorem dL_law_1372 : decode cL_law 1372 = .ok (.iadd, 1) := dchk_at dgL_law_1324_ 30 rfl
theorem dL_law_1373 : decode cL_law 1373 = .ok (.iaload, 1) := dchk_at dgL_law_1324_ 31 rfl
theorem dgL_law_1374_ : dchk cL_law [(1374, .invokevirtual 173, 3), (1377, .pop, 1), (1378, .goto 3, 3), (1381, .iinc 3 6, 3), (1384, .goto (-1366), 3), (1387, .iconst 1, 1), (1388, .ireturn, 1)] = true := by decide +kernel
theorem dL_law_1374 : decode cL_law 1374 = .ok (.invokevirtual 173, 3) := dchk_at dgL_law_1374_ 0 rfl
theorem dL_law_1377 : decode cL_law 1377 = .ok (.pop, 1) := dchk_at dgL_law_1374_ 1 rfl
theorem dL_law_1378 : decode cL_law 1378 = .ok (.goto 3, 3) := dchk_at dgL_law_1374_ 2 rfl
theorem dL_law_1381 : decode cL_law 1381 = .ok (.iinc 3 6, 3) := dchk_at dgL_law_1374_ 3 rfl
theorem dL_law_1384 : decode cL_law 1384 = .ok (.goto (-1366), 3) := dchk_at dgL_law_1374_ 4 rfl
theorem dL_law_1387 : decode cL_law 1387 = .ok (.iconst 1, 1) := dchk_at dgL_law_1374_ 5 rfl
theorem dL_law_1388 : decode cL_law 1388 = .ok (.ireturn, 1) := dchk_at dgL_law_1374_ 6 rfl
