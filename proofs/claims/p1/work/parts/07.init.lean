/-! the constructors of LazyLoom (printed by wip/p1/walk.py) -/
theorem mt28 : Cond.methodLink RX11 1 objectInit ∈ WG := zt (List.mem_of_getElem? (i := 28) (by decide +kernel)) rfl
theorem mt29 : Cond.instanceMethod objectInit ∈ WG := zt (List.mem_of_getElem? (i := 29) (by decide +kernel)) rfl
theorem mt30o : Cond.code objectInit ⟨#[0xb1]⟩ 1 none ∈ WG := zt (List.mem_of_getElem? (i := 30) (by decide +kernel)) rfl
theorem mt31 : Cond.classLink RX11 7 RX9 ∈ WG := zt (List.mem_of_getElem? (i := 31) (by decide +kernel)) rfl
theorem mt32 : Cond.instantiable RX9 6 ∈ WG := zt (List.mem_of_getElem? (i := 32) (by decide +kernel)) rfl
theorem mt2 : Cond.initialized RX9 ∈ WG := zt (List.mem_of_getElem? (i := 2) (by decide +kernel)) rfl
theorem mt36 : Cond.methodLink RX9 3 objectInit ∈ WG := zt (List.mem_of_getElem? (i := 36) (by decide +kernel)) rfl
theorem mt56 : Cond.arrayClass .int ∈ WG := zt (List.mem_of_getElem? (i := 56) (by decide +kernel)) rfl
theorem mt37 : Cond.fieldLink RX9 9 "LazyLoom$Tree" "kinds" "[I" ∈ WG := zt (List.mem_of_getElem? (i := 37) (by decide +kernel)) rfl
theorem mt38 : Cond.fieldLink RX9 15 "LazyLoom$Tree" "numbers" "[I" ∈ WG := zt (List.mem_of_getElem? (i := 38) (by decide +kernel)) rfl
theorem mt39 : Cond.fieldLink RX9 18 "LazyLoom$Tree" "names" "[I" ∈ WG := zt (List.mem_of_getElem? (i := 39) (by decide +kernel)) rfl
theorem mt40 : Cond.fieldLink RX9 21 "LazyLoom$Tree" "others" "[I" ∈ WG := zt (List.mem_of_getElem? (i := 40) (by decide +kernel)) rfl
theorem mt41 : Cond.fieldLink RX9 24 "LazyLoom$Tree" "parts" "[I" ∈ WG := zt (List.mem_of_getElem? (i := 41) (by decide +kernel)) rfl
theorem mt42 : Cond.fieldLink RX9 27 "LazyLoom$Tree" "size" "I" ∈ WG := zt (List.mem_of_getElem? (i := 42) (by decide +kernel)) rfl
theorem mt35 : Cond.code yX9_init cX9_init 2 none ∈ WG := zt (List.mem_of_getElem? (i := 35) (by decide +kernel)) rfl
theorem mt33 : Cond.methodLink RX11 11 yX9_init ∈ WG := zt (List.mem_of_getElem? (i := 33) (by decide +kernel)) rfl
theorem mt34 : Cond.instanceMethod yX9_init ∈ WG := zt (List.mem_of_getElem? (i := 34) (by decide +kernel)) rfl
theorem mt304 : Cond.fieldLink RX11 14 "LazyLoom" "told" "LLazyLoom$Tree;" ∈ WG := zt (List.mem_of_getElem? (i := 304) (by decide +kernel)) rfl
theorem mt305 : Cond.fieldLink RX11 18 "LazyLoom" "toldSize" "[I" ∈ WG := zt (List.mem_of_getElem? (i := 305) (by decide +kernel)) rfl
theorem mt306 : Cond.fieldLink RX11 22 "LazyLoom" "toldFree" "[I" ∈ WG := zt (List.mem_of_getElem? (i := 306) (by decide +kernel)) rfl
theorem mt57 : Cond.classLink RX11 25 RX5 ∈ WG := zt (List.mem_of_getElem? (i := 57) (by decide +kernel)) rfl
theorem mt58 : Cond.instantiable RX5 6 ∈ WG := zt (List.mem_of_getElem? (i := 58) (by decide +kernel)) rfl
theorem mt3 : Cond.initialized RX5 ∈ WG := zt (List.mem_of_getElem? (i := 3) (by decide +kernel)) rfl
theorem mt62 : Cond.methodLink RX5 5 objectInit ∈ WG := zt (List.mem_of_getElem? (i := 62) (by decide +kernel)) rfl
theorem mt63 : Cond.classLink RX5 11 RX9 ∈ WG := zt (List.mem_of_getElem? (i := 63) (by decide +kernel)) rfl
theorem mt64 : Cond.methodLink RX5 13 yX9_init ∈ WG := zt (List.mem_of_getElem? (i := 64) (by decide +kernel)) rfl
theorem mt69 : Cond.fieldLink RX5 16 "LazyLoom$Program" "code" "LLazyLoom$Tree;" ∈ WG := zt (List.mem_of_getElem? (i := 69) (by decide +kernel)) rfl
theorem mt65 : Cond.methodLink RX5 20 yX9_reserve ∈ WG := zt (List.mem_of_getElem? (i := 65) (by decide +kernel)) rfl
theorem mt66 : Cond.instanceMethod yX9_reserve ∈ WG := zt (List.mem_of_getElem? (i := 66) (by decide +kernel)) rfl
theorem mt67 : Cond.selects RX9 yX9_reserve yX9_reserve ∈ WG := zt (List.mem_of_getElem? (i := 67) (by decide +kernel)) rfl
theorem mt68 : Cond.code yX9_reserve cX9_reserve 3 (some .int) ∈ WG := zt (List.mem_of_getElem? (i := 68) (by decide +kernel)) rfl
theorem mt74 : Cond.fieldLink RX5 24 "LazyLoom$Program" "sizes" "[I" ∈ WG := zt (List.mem_of_getElem? (i := 74) (by decide +kernel)) rfl
theorem mt75 : Cond.fieldLink RX5 28 "LazyLoom$Program" "states" "[I" ∈ WG := zt (List.mem_of_getElem? (i := 75) (by decide +kernel)) rfl
theorem mt92 : Cond.arrayClass .long ∈ WG := zt (List.mem_of_getElem? (i := 92) (by decide +kernel)) rfl
theorem mt76 : Cond.fieldLink RX5 31 "LazyLoom$Program" "values" "[J" ∈ WG := zt (List.mem_of_getElem? (i := 76) (by decide +kernel)) rfl
theorem mt77 : Cond.fieldLink RX5 35 "LazyLoom$Program" "waiting" "[I" ∈ WG := zt (List.mem_of_getElem? (i := 77) (by decide +kernel)) rfl
theorem mt78 : Cond.fieldLink RX5 38 "LazyLoom$Program" "links" "[I" ∈ WG := zt (List.mem_of_getElem? (i := 78) (by decide +kernel)) rfl
theorem mt61 : Cond.code yX5_init cX5_init 1 none ∈ WG := zt (List.mem_of_getElem? (i := 61) (by decide +kernel)) rfl
theorem mt59 : Cond.methodLink RX11 27 yX5_init ∈ WG := zt (List.mem_of_getElem? (i := 59) (by decide +kernel)) rfl
theorem mt60 : Cond.instanceMethod yX5_init ∈ WG := zt (List.mem_of_getElem? (i := 60) (by decide +kernel)) rfl
theorem mt307 : Cond.fieldLink RX11 28 "LazyLoom" "now" "LLazyLoom$Program;" ∈ WG := zt (List.mem_of_getElem? (i := 307) (by decide +kernel)) rfl
theorem mt308 : Cond.fieldLink RX11 32 "LazyLoom" "begun" "LLazyLoom$Program;" ∈ WG := zt (List.mem_of_getElem? (i := 308) (by decide +kernel)) rfl
theorem mt93 : Cond.classLink RX11 35 RX0 ∈ WG := zt (List.mem_of_getElem? (i := 93) (by decide +kernel)) rfl
theorem mt94 : Cond.instantiable RX0 8 ∈ WG := zt (List.mem_of_getElem? (i := 94) (by decide +kernel)) rfl
theorem mt4 : Cond.initialized RX0 ∈ WG := zt (List.mem_of_getElem? (i := 4) (by decide +kernel)) rfl
theorem mt98 : Cond.methodLink RX0 3 objectInit ∈ WG := zt (List.mem_of_getElem? (i := 98) (by decide +kernel)) rfl
theorem mt125 : Cond.fieldLink RX0 9 "LazyLoom$Demand" "now" "LLazyLoom$Program;" ∈ WG := zt (List.mem_of_getElem? (i := 125) (by decide +kernel)) rfl
theorem mt99 : Cond.classLink RX0 15 RX10 ∈ WG := zt (List.mem_of_getElem? (i := 99) (by decide +kernel)) rfl
theorem mt100 : Cond.instantiable RX10 6 ∈ WG := zt (List.mem_of_getElem? (i := 100) (by decide +kernel)) rfl
theorem mt5 : Cond.initialized RX10 ∈ WG := zt (List.mem_of_getElem? (i := 5) (by decide +kernel)) rfl
theorem mt70 : Cond.fieldLink RX0 17 "LazyLoom$Program" "code" "LLazyLoom$Tree;" ∈ WG := zt (List.mem_of_getElem? (i := 70) (by decide +kernel)) rfl
theorem mt104 : Cond.methodLink RX10 3 objectInit ∈ WG := zt (List.mem_of_getElem? (i := 104) (by decide +kernel)) rfl
theorem mt105 : Cond.fieldLink RX10 9 "LazyLoom$Walk" "nodes" "[I" ∈ WG := zt (List.mem_of_getElem? (i := 105) (by decide +kernel)) rfl
theorem mt106 : Cond.fieldLink RX10 15 "LazyLoom$Walk" "bound" "[I" ∈ WG := zt (List.mem_of_getElem? (i := 106) (by decide +kernel)) rfl
theorem mt124 : Cond.arrayClass .boolean ∈ WG := zt (List.mem_of_getElem? (i := 124) (by decide +kernel)) rfl
theorem mt107 : Cond.fieldLink RX10 18 "LazyLoom$Walk" "isSealed" "[Z" ∈ WG := zt (List.mem_of_getElem? (i := 107) (by decide +kernel)) rfl
theorem mt108 : Cond.fieldLink RX10 22 "LazyLoom$Walk" "isField" "[Z" ∈ WG := zt (List.mem_of_getElem? (i := 108) (by decide +kernel)) rfl
theorem mt109 : Cond.fieldLink RX10 25 "LazyLoom$Walk" "tree" "LLazyLoom$Tree;" ∈ WG := zt (List.mem_of_getElem? (i := 109) (by decide +kernel)) rfl
theorem mt110 : Cond.fieldLink RX10 29 "LazyLoom$Walk" "size" "I" ∈ WG := zt (List.mem_of_getElem? (i := 110) (by decide +kernel)) rfl
theorem mt103 : Cond.code yX10_init cX10_init 2 none ∈ WG := zt (List.mem_of_getElem? (i := 103) (by decide +kernel)) rfl
theorem mt101 : Cond.methodLink RX0 23 yX10_init ∈ WG := zt (List.mem_of_getElem? (i := 101) (by decide +kernel)) rfl
theorem mt102 : Cond.instanceMethod yX10_init ∈ WG := zt (List.mem_of_getElem? (i := 102) (by decide +kernel)) rfl
theorem mt126 : Cond.fieldLink RX0 26 "LazyLoom$Demand" "walk" "LLazyLoom$Walk;" ∈ WG := zt (List.mem_of_getElem? (i := 126) (by decide +kernel)) rfl
theorem mt127 : Cond.fieldLink RX0 30 "LazyLoom$Demand" "needs" "[I" ∈ WG := zt (List.mem_of_getElem? (i := 127) (by decide +kernel)) rfl
theorem mt128 : Cond.fieldLink RX0 34 "LazyLoom$Demand" "lams" "[I" ∈ WG := zt (List.mem_of_getElem? (i := 128) (by decide +kernel)) rfl
theorem mt129 : Cond.fieldLink RX0 37 "LazyLoom$Demand" "names" "[I" ∈ WG := zt (List.mem_of_getElem? (i := 129) (by decide +kernel)) rfl
theorem mt130 : Cond.fieldLink RX0 40 "LazyLoom$Demand" "nextNames" "[I" ∈ WG := zt (List.mem_of_getElem? (i := 130) (by decide +kernel)) rfl
theorem mt131 : Cond.fieldLink RX0 43 "LazyLoom$Demand" "isPlaceNeeded" "[Z" ∈ WG := zt (List.mem_of_getElem? (i := 131) (by decide +kernel)) rfl
theorem mt132 : Cond.fieldLink RX0 47 "LazyLoom$Demand" "isSettled" "Z" ∈ WG := zt (List.mem_of_getElem? (i := 132) (by decide +kernel)) rfl
theorem mt97 : Cond.code yX0_init cX0_init 2 none ∈ WG := zt (List.mem_of_getElem? (i := 97) (by decide +kernel)) rfl
theorem mt95 : Cond.methodLink RX11 37 yX0_init ∈ WG := zt (List.mem_of_getElem? (i := 95) (by decide +kernel)) rfl
theorem mt96 : Cond.instanceMethod yX0_init ∈ WG := zt (List.mem_of_getElem? (i := 96) (by decide +kernel)) rfl
theorem mt309 : Cond.fieldLink RX11 40 "LazyLoom" "demand" "LLazyLoom$Demand;" ∈ WG := zt (List.mem_of_getElem? (i := 309) (by decide +kernel)) rfl
theorem mt150 : Cond.classLink RX11 44 RX6 ∈ WG := zt (List.mem_of_getElem? (i := 150) (by decide +kernel)) rfl
theorem mt151 : Cond.instantiable RX6 9 ∈ WG := zt (List.mem_of_getElem? (i := 151) (by decide +kernel)) rfl
theorem mt6 : Cond.initialized RX6 ∈ WG := zt (List.mem_of_getElem? (i := 6) (by decide +kernel)) rfl
theorem mt155 : Cond.methodLink RX6 3 objectInit ∈ WG := zt (List.mem_of_getElem? (i := 155) (by decide +kernel)) rfl
theorem mt160 : Cond.fieldLink RX6 9 "LazyLoom$Rewriter" "now" "LLazyLoom$Program;" ∈ WG := zt (List.mem_of_getElem? (i := 160) (by decide +kernel)) rfl
theorem mt161 : Cond.fieldLink RX6 15 "LazyLoom$Rewriter" "demand" "LLazyLoom$Demand;" ∈ WG := zt (List.mem_of_getElem? (i := 161) (by decide +kernel)) rfl
theorem mt156 : Cond.classLink RX6 19 RX9 ∈ WG := zt (List.mem_of_getElem? (i := 156) (by decide +kernel)) rfl
theorem mt157 : Cond.methodLink RX6 21 yX9_init ∈ WG := zt (List.mem_of_getElem? (i := 157) (by decide +kernel)) rfl
theorem mt162 : Cond.fieldLink RX6 24 "LazyLoom$Rewriter" "work" "LLazyLoom$Tree;" ∈ WG := zt (List.mem_of_getElem? (i := 162) (by decide +kernel)) rfl
theorem mt158 : Cond.classLink RX6 28 RX10 ∈ WG := zt (List.mem_of_getElem? (i := 158) (by decide +kernel)) rfl
theorem mt159 : Cond.methodLink RX6 30 yX10_init ∈ WG := zt (List.mem_of_getElem? (i := 159) (by decide +kernel)) rfl
theorem mt163 : Cond.fieldLink RX6 33 "LazyLoom$Rewriter" "walk" "LLazyLoom$Walk;" ∈ WG := zt (List.mem_of_getElem? (i := 163) (by decide +kernel)) rfl
theorem mt164 : Cond.fieldLink RX6 37 "LazyLoom$Rewriter" "calls" "[I" ∈ WG := zt (List.mem_of_getElem? (i := 164) (by decide +kernel)) rfl
theorem mt165 : Cond.fieldLink RX6 41 "LazyLoom$Rewriter" "outers" "[I" ∈ WG := zt (List.mem_of_getElem? (i := 165) (by decide +kernel)) rfl
theorem mt166 : Cond.fieldLink RX6 44 "LazyLoom$Rewriter" "inners" "[I" ∈ WG := zt (List.mem_of_getElem? (i := 166) (by decide +kernel)) rfl
theorem mt167 : Cond.fieldLink RX6 47 "LazyLoom$Rewriter" "fusions" "[I" ∈ WG := zt (List.mem_of_getElem? (i := 167) (by decide +kernel)) rfl
theorem mt168 : Cond.fieldLink RX6 50 "LazyLoom$Rewriter" "rules" "I" ∈ WG := zt (List.mem_of_getElem? (i := 168) (by decide +kernel)) rfl
theorem mt154 : Cond.code yX6_init cX6_init 3 none ∈ WG := zt (List.mem_of_getElem? (i := 154) (by decide +kernel)) rfl
theorem mt152 : Cond.methodLink RX11 46 yX6_init ∈ WG := zt (List.mem_of_getElem? (i := 152) (by decide +kernel)) rfl
theorem mt153 : Cond.instanceMethod yX6_init ∈ WG := zt (List.mem_of_getElem? (i := 153) (by decide +kernel)) rfl
theorem mt310 : Cond.fieldLink RX11 49 "LazyLoom" "rewriter" "LLazyLoom$Rewriter;" ∈ WG := zt (List.mem_of_getElem? (i := 310) (by decide +kernel)) rfl
theorem mt188 : Cond.classLink RX11 53 RX1 ∈ WG := zt (List.mem_of_getElem? (i := 188) (by decide +kernel)) rfl
theorem mt189 : Cond.instantiable RX1 18 ∈ WG := zt (List.mem_of_getElem? (i := 189) (by decide +kernel)) rfl
theorem mt7 : Cond.initialized RX1 ∈ WG := zt (List.mem_of_getElem? (i := 7) (by decide +kernel)) rfl
theorem mt193 : Cond.methodLink RX1 3 objectInit ∈ WG := zt (List.mem_of_getElem? (i := 193) (by decide +kernel)) rfl
theorem mt194 : Cond.classLink RX1 9 RX3 ∈ WG := zt (List.mem_of_getElem? (i := 194) (by decide +kernel)) rfl
theorem mt195 : Cond.instantiable RX3 7 ∈ WG := zt (List.mem_of_getElem? (i := 195) (by decide +kernel)) rfl
theorem mt8 : Cond.initialized RX3 ∈ WG := zt (List.mem_of_getElem? (i := 8) (by decide +kernel)) rfl
theorem mt199 : Cond.methodLink RX3 3 objectInit ∈ WG := zt (List.mem_of_getElem? (i := 199) (by decide +kernel)) rfl
theorem mt202 : Cond.fieldLink RX3 9 "LazyLoom$Heap" "now" "LLazyLoom$Program;" ∈ WG := zt (List.mem_of_getElem? (i := 202) (by decide +kernel)) rfl
theorem mt203 : Cond.fieldLink RX3 15 "LazyLoom$Heap" "begun" "LLazyLoom$Program;" ∈ WG := zt (List.mem_of_getElem? (i := 203) (by decide +kernel)) rfl
theorem mt200 : Cond.classLink RX3 18 RX7 ∈ WG := zt (List.mem_of_getElem? (i := 200) (by decide +kernel)) rfl
theorem mt204 : Cond.fieldLink RX3 20 "LazyLoom$Heap" "rows" "[LLazyLoom$Row;" ∈ WG := zt (List.mem_of_getElem? (i := 204) (by decide +kernel)) rfl
theorem mt205 : Cond.fieldLink RX3 24 "LazyLoom$Heap" "manyRows" "I" ∈ WG := zt (List.mem_of_getElem? (i := 205) (by decide +kernel)) rfl
theorem mt206 : Cond.fieldLink RX3 28 "LazyLoom$Heap" "start" "I" ∈ WG := zt (List.mem_of_getElem? (i := 206) (by decide +kernel)) rfl
theorem mt207 : Cond.fieldLink RX3 31 "LazyLoom$Heap" "next" "I" ∈ WG := zt (List.mem_of_getElem? (i := 207) (by decide +kernel)) rfl
theorem mt208 : Cond.fieldLink RX3 34 "LazyLoom$Heap" "isKept" "Z" ∈ WG := zt (List.mem_of_getElem? (i := 208) (by decide +kernel)) rfl
theorem mt198 : Cond.code yX3_init cX3_init 3 none ∈ WG := zt (List.mem_of_getElem? (i := 198) (by decide +kernel)) rfl
theorem mt196 : Cond.methodLink RX1 11 yX3_init ∈ WG := zt (List.mem_of_getElem? (i := 196) (by decide +kernel)) rfl
theorem mt197 : Cond.instanceMethod yX3_init ∈ WG := zt (List.mem_of_getElem? (i := 197) (by decide +kernel)) rfl
theorem mt249 : Cond.fieldLink RX1 14 "LazyLoom$Finder" "heap" "LLazyLoom$Heap;" ∈ WG := zt (List.mem_of_getElem? (i := 249) (by decide +kernel)) rfl
theorem mt224 : Cond.classLink RX1 20 RX2 ∈ WG := zt (List.mem_of_getElem? (i := 224) (by decide +kernel)) rfl
theorem mt225 : Cond.instantiable RX2 6 ∈ WG := zt (List.mem_of_getElem? (i := 225) (by decide +kernel)) rfl
theorem mt9 : Cond.initialized RX2 ∈ WG := zt (List.mem_of_getElem? (i := 9) (by decide +kernel)) rfl
theorem mt229 : Cond.methodLink RX2 3 objectInit ∈ WG := zt (List.mem_of_getElem? (i := 229) (by decide +kernel)) rfl
theorem mt230 : Cond.fieldLink RX2 11 "LazyLoom$Frames" "whats" "[I" ∈ WG := zt (List.mem_of_getElem? (i := 230) (by decide +kernel)) rfl
theorem mt231 : Cond.fieldLink RX2 15 "LazyLoom$Frames" "nodes" "[I" ∈ WG := zt (List.mem_of_getElem? (i := 231) (by decide +kernel)) rfl
theorem mt232 : Cond.fieldLink RX2 18 "LazyLoom$Frames" "envs" "[I" ∈ WG := zt (List.mem_of_getElem? (i := 232) (by decide +kernel)) rfl
theorem mt233 : Cond.fieldLink RX2 21 "LazyLoom$Frames" "centres" "[I" ∈ WG := zt (List.mem_of_getElem? (i := 233) (by decide +kernel)) rfl
theorem mt234 : Cond.fieldLink RX2 24 "LazyLoom$Frames" "lefts" "[I" ∈ WG := zt (List.mem_of_getElem? (i := 234) (by decide +kernel)) rfl
theorem mt235 : Cond.fieldLink RX2 27 "LazyLoom$Frames" "size" "I" ∈ WG := zt (List.mem_of_getElem? (i := 235) (by decide +kernel)) rfl
theorem mt228 : Cond.code yX2_init cX2_init 1 none ∈ WG := zt (List.mem_of_getElem? (i := 228) (by decide +kernel)) rfl
theorem mt226 : Cond.methodLink RX1 22 yX2_init ∈ WG := zt (List.mem_of_getElem? (i := 226) (by decide +kernel)) rfl
theorem mt227 : Cond.instanceMethod yX2_init ∈ WG := zt (List.mem_of_getElem? (i := 227) (by decide +kernel)) rfl
theorem mt250 : Cond.fieldLink RX1 23 "LazyLoom$Finder" "frames" "LLazyLoom$Frames;" ∈ WG := zt (List.mem_of_getElem? (i := 250) (by decide +kernel)) rfl
theorem mt251 : Cond.fieldLink RX1 27 "LazyLoom$Finder" "counts" "[I" ∈ WG := zt (List.mem_of_getElem? (i := 251) (by decide +kernel)) rfl
theorem mt252 : Cond.fieldLink RX1 31 "LazyLoom$Finder" "sparks" "[J" ∈ WG := zt (List.mem_of_getElem? (i := 252) (by decide +kernel)) rfl
theorem mt255 : Cond.fieldLink RX1 35 "LazyLoom$Finder" "program" "LLazyLoom$Program;" ∈ WG := zt (List.mem_of_getElem? (i := 255) (by decide +kernel)) rfl
theorem mt260 : Cond.fieldLink RX1 39 "LazyLoom$Finder" "mode" "I" ∈ WG := zt (List.mem_of_getElem? (i := 260) (by decide +kernel)) rfl
theorem mt266 : Cond.fieldLink RX1 43 "LazyLoom$Finder" "answer" "I" ∈ WG := zt (List.mem_of_getElem? (i := 266) (by decide +kernel)) rfl
theorem mt192 : Cond.code yX1_init cX1_init 3 none ∈ WG := zt (List.mem_of_getElem? (i := 192) (by decide +kernel)) rfl
theorem mt190 : Cond.methodLink RX11 55 yX1_init ∈ WG := zt (List.mem_of_getElem? (i := 190) (by decide +kernel)) rfl
theorem mt191 : Cond.instanceMethod yX1_init ∈ WG := zt (List.mem_of_getElem? (i := 191) (by decide +kernel)) rfl
theorem mt311 : Cond.fieldLink RX11 58 "LazyLoom" "finder" "LLazyLoom$Finder;" ∈ WG := zt (List.mem_of_getElem? (i := 311) (by decide +kernel)) rfl
theorem mt312 : Cond.fieldLink RX11 62 "LazyLoom" "hasBegun" "Z" ∈ WG := zt (List.mem_of_getElem? (i := 312) (by decide +kernel)) rfl
theorem dX11_init_0 : decode cX11_init 0 = .ok (.aload_n 0, 1) := by decide +kernel
theorem dX11_init_1 : decode cX11_init 1 = .ok (.invokespecial 1, 3) := by decide +kernel
theorem dX11_init_4 : decode cX11_init 4 = .ok (.aload_n 0, 1) := by decide +kernel
theorem dX11_init_5 : decode cX11_init 5 = .ok (.new 7, 3) := by decide +kernel
theorem dX11_init_8 : decode cX11_init 8 = .ok (.dup, 1) := by decide +kernel
theorem dX11_init_9 : decode cX11_init 9 = .ok (.sipush 200, 3) := by decide +kernel
theorem dX11_init_12 : decode cX11_init 12 = .ok (.invokespecial 11, 3) := by decide +kernel
theorem dX11_init_15 : decode cX11_init 15 = .ok (.putfield 14, 3) := by decide +kernel
theorem dX11_init_18 : decode cX11_init 18 = .ok (.aload_n 0, 1) := by decide +kernel
theorem dX11_init_19 : decode cX11_init 19 = .ok (.sipush 200, 3) := by decide +kernel
theorem dX11_init_22 : decode cX11_init 22 = .ok (.newarray .int, 2) := by decide +kernel
theorem dX11_init_24 : decode cX11_init 24 = .ok (.putfield 18, 3) := by decide +kernel
theorem dX11_init_27 : decode cX11_init 27 = .ok (.aload_n 0, 1) := by decide +kernel
theorem dX11_init_28 : decode cX11_init 28 = .ok (.sipush 200, 3) := by decide +kernel
theorem dX11_init_31 : decode cX11_init 31 = .ok (.newarray .int, 2) := by decide +kernel
theorem dX11_init_33 : decode cX11_init 33 = .ok (.putfield 22, 3) := by decide +kernel
theorem dX11_init_36 : decode cX11_init 36 = .ok (.aload_n 0, 1) := by decide +kernel
theorem dX11_init_37 : decode cX11_init 37 = .ok (.new 25, 3) := by decide +kernel
theorem dX11_init_40 : decode cX11_init 40 = .ok (.dup, 1) := by decide +kernel
theorem dX11_init_41 : decode cX11_init 41 = .ok (.invokespecial 27, 3) := by decide +kernel
theorem dX11_init_44 : decode cX11_init 44 = .ok (.putfield 28, 3) := by decide +kernel
theorem dX11_init_47 : decode cX11_init 47 = .ok (.aload_n 0, 1) := by decide +kernel
theorem dX11_init_48 : decode cX11_init 48 = .ok (.new 25, 3) := by decide +kernel
theorem dX11_init_51 : decode cX11_init 51 = .ok (.dup, 1) := by decide +kernel
theorem dX11_init_52 : decode cX11_init 52 = .ok (.invokespecial 27, 3) := by decide +kernel
theorem dX11_init_55 : decode cX11_init 55 = .ok (.putfield 32, 3) := by decide +kernel
theorem dX11_init_58 : decode cX11_init 58 = .ok (.aload_n 0, 1) := by decide +kernel
theorem dX11_init_59 : decode cX11_init 59 = .ok (.new 35, 3) := by decide +kernel
theorem dX11_init_62 : decode cX11_init 62 = .ok (.dup, 1) := by decide +kernel
theorem dX11_init_63 : decode cX11_init 63 = .ok (.aload_n 0, 1) := by decide +kernel
theorem dX11_init_64 : decode cX11_init 64 = .ok (.getfield 28, 3) := by decide +kernel
theorem dX11_init_67 : decode cX11_init 67 = .ok (.invokespecial 37, 3) := by decide +kernel
theorem dX11_init_70 : decode cX11_init 70 = .ok (.putfield 40, 3) := by decide +kernel
theorem dX11_init_73 : decode cX11_init 73 = .ok (.aload_n 0, 1) := by decide +kernel
theorem dX11_init_74 : decode cX11_init 74 = .ok (.new 44, 3) := by decide +kernel
theorem dX11_init_77 : decode cX11_init 77 = .ok (.dup, 1) := by decide +kernel
theorem dX11_init_78 : decode cX11_init 78 = .ok (.aload_n 0, 1) := by decide +kernel
theorem dX11_init_79 : decode cX11_init 79 = .ok (.getfield 28, 3) := by decide +kernel
theorem dX11_init_82 : decode cX11_init 82 = .ok (.aload_n 0, 1) := by decide +kernel
theorem dX11_init_83 : decode cX11_init 83 = .ok (.getfield 40, 3) := by decide +kernel
theorem dX11_init_86 : decode cX11_init 86 = .ok (.invokespecial 46, 3) := by decide +kernel
theorem dX11_init_89 : decode cX11_init 89 = .ok (.putfield 49, 3) := by decide +kernel
theorem dX11_init_92 : decode cX11_init 92 = .ok (.aload_n 0, 1) := by decide +kernel
theorem dX11_init_93 : decode cX11_init 93 = .ok (.new 53, 3) := by decide +kernel
theorem dX11_init_96 : decode cX11_init 96 = .ok (.dup, 1) := by decide +kernel
theorem dX11_init_97 : decode cX11_init 97 = .ok (.aload_n 0, 1) := by decide +kernel
theorem dX11_init_98 : decode cX11_init 98 = .ok (.getfield 28, 3) := by decide +kernel
theorem dX11_init_101 : decode cX11_init 101 = .ok (.aload_n 0, 1) := by decide +kernel
theorem dX11_init_102 : decode cX11_init 102 = .ok (.getfield 32, 3) := by decide +kernel
theorem dX11_init_105 : decode cX11_init 105 = .ok (.invokespecial 55, 3) := by decide +kernel
theorem dX11_init_108 : decode cX11_init 108 = .ok (.putfield 58, 3) := by decide +kernel
theorem dX11_init_111 : decode cX11_init 111 = .ok (.aload_n 0, 1) := by decide +kernel
theorem dX11_init_112 : decode cX11_init 112 = .ok (.iconst 0, 1) := by decide +kernel
theorem dX11_init_113 : decode cX11_init 113 = .ok (.putfield 62, 3) := by decide +kernel
theorem dX11_init_116 : decode cX11_init 116 = .ok (.return_, 1) := by decide +kernel
theorem dX9_init_0 : decode cX9_init 0 = .ok (.aload_n 0, 1) := by decide +kernel
theorem dX9_init_1 : decode cX9_init 1 = .ok (.invokespecial 3, 3) := by decide +kernel
theorem dX9_init_4 : decode cX9_init 4 = .ok (.aload_n 0, 1) := by decide +kernel
theorem dX9_init_5 : decode cX9_init 5 = .ok (.iload_n 1, 1) := by decide +kernel
theorem dX9_init_6 : decode cX9_init 6 = .ok (.newarray .int, 2) := by decide +kernel
theorem dX9_init_8 : decode cX9_init 8 = .ok (.putfield 9, 3) := by decide +kernel
theorem dX9_init_11 : decode cX9_init 11 = .ok (.aload_n 0, 1) := by decide +kernel
theorem dX9_init_12 : decode cX9_init 12 = .ok (.iload_n 1, 1) := by decide +kernel
theorem dX9_init_13 : decode cX9_init 13 = .ok (.newarray .int, 2) := by decide +kernel
theorem dX9_init_15 : decode cX9_init 15 = .ok (.putfield 15, 3) := by decide +kernel
theorem dX9_init_18 : decode cX9_init 18 = .ok (.aload_n 0, 1) := by decide +kernel
theorem dX9_init_19 : decode cX9_init 19 = .ok (.iload_n 1, 1) := by decide +kernel
theorem dX9_init_20 : decode cX9_init 20 = .ok (.newarray .int, 2) := by decide +kernel
theorem dX9_init_22 : decode cX9_init 22 = .ok (.putfield 18, 3) := by decide +kernel
theorem dX9_init_25 : decode cX9_init 25 = .ok (.aload_n 0, 1) := by decide +kernel
theorem dX9_init_26 : decode cX9_init 26 = .ok (.iload_n 1, 1) := by decide +kernel
theorem dX9_init_27 : decode cX9_init 27 = .ok (.newarray .int, 2) := by decide +kernel
theorem dX9_init_29 : decode cX9_init 29 = .ok (.putfield 21, 3) := by decide +kernel
theorem dX9_init_32 : decode cX9_init 32 = .ok (.aload_n 0, 1) := by decide +kernel
theorem dX9_init_33 : decode cX9_init 33 = .ok (.iconst 3, 1) := by decide +kernel
theorem dX9_init_34 : decode cX9_init 34 = .ok (.iload_n 1, 1) := by decide +kernel
theorem dX9_init_35 : decode cX9_init 35 = .ok (.imul, 1) := by decide +kernel
theorem dX9_init_36 : decode cX9_init 36 = .ok (.newarray .int, 2) := by decide +kernel
theorem dX9_init_38 : decode cX9_init 38 = .ok (.putfield 24, 3) := by decide +kernel
theorem dX9_init_41 : decode cX9_init 41 = .ok (.aload_n 0, 1) := by decide +kernel
theorem dX9_init_42 : decode cX9_init 42 = .ok (.iconst 0, 1) := by decide +kernel
theorem dX9_init_43 : decode cX9_init 43 = .ok (.putfield 27, 3) := by decide +kernel
theorem dX9_init_46 : decode cX9_init 46 = .ok (.return_, 1) := by decide +kernel
theorem dX5_init_0 : decode cX5_init 0 = .ok (.aload_n 0, 1) := by decide +kernel
theorem dX5_init_1 : decode cX5_init 1 = .ok (.invokespecial 5, 3) := by decide +kernel
theorem dX5_init_4 : decode cX5_init 4 = .ok (.aload_n 0, 1) := by decide +kernel
theorem dX5_init_5 : decode cX5_init 5 = .ok (.new 11, 3) := by decide +kernel
theorem dX5_init_8 : decode cX5_init 8 = .ok (.dup, 1) := by decide +kernel
theorem dX5_init_9 : decode cX5_init 9 = .ok (.sipush 645, 3) := by decide +kernel
theorem dX5_init_12 : decode cX5_init 12 = .ok (.invokespecial 13, 3) := by decide +kernel
theorem dX5_init_15 : decode cX5_init 15 = .ok (.putfield 16, 3) := by decide +kernel
theorem dX5_init_18 : decode cX5_init 18 = .ok (.aload_n 0, 1) := by decide +kernel
theorem dX5_init_19 : decode cX5_init 19 = .ok (.getfield 16, 3) := by decide +kernel
theorem dX5_init_22 : decode cX5_init 22 = .ok (.sipush 645, 3) := by decide +kernel
theorem dX5_init_25 : decode cX5_init 25 = .ok (.invokevirtual 20, 3) := by decide +kernel
theorem dX5_init_28 : decode cX5_init 28 = .ok (.pop, 1) := by decide +kernel
theorem dX5_init_29 : decode cX5_init 29 = .ok (.aload_n 0, 1) := by decide +kernel
theorem dX5_init_30 : decode cX5_init 30 = .ok (.bipush 8, 2) := by decide +kernel
theorem dX5_init_32 : decode cX5_init 32 = .ok (.newarray .int, 2) := by decide +kernel
theorem dX5_init_34 : decode cX5_init 34 = .ok (.putfield 24, 3) := by decide +kernel
theorem dX5_init_37 : decode cX5_init 37 = .ok (.aload_n 0, 1) := by decide +kernel
theorem dX5_init_38 : decode cX5_init 38 = .ok (.bipush 8, 2) := by decide +kernel
theorem dX5_init_40 : decode cX5_init 40 = .ok (.newarray .int, 2) := by decide +kernel
theorem dX5_init_42 : decode cX5_init 42 = .ok (.putfield 28, 3) := by decide +kernel
theorem dX5_init_45 : decode cX5_init 45 = .ok (.aload_n 0, 1) := by decide +kernel
theorem dX5_init_46 : decode cX5_init 46 = .ok (.bipush 8, 2) := by decide +kernel
theorem dX5_init_48 : decode cX5_init 48 = .ok (.newarray .long, 2) := by decide +kernel
theorem dX5_init_50 : decode cX5_init 50 = .ok (.putfield 31, 3) := by decide +kernel
theorem dX5_init_53 : decode cX5_init 53 = .ok (.aload_n 0, 1) := by decide +kernel
theorem dX5_init_54 : decode cX5_init 54 = .ok (.sipush 240, 3) := by decide +kernel
theorem dX5_init_57 : decode cX5_init 57 = .ok (.newarray .int, 2) := by decide +kernel
theorem dX5_init_59 : decode cX5_init 59 = .ok (.putfield 35, 3) := by decide +kernel
theorem dX5_init_62 : decode cX5_init 62 = .ok (.aload_n 0, 1) := by decide +kernel
theorem dX5_init_63 : decode cX5_init 63 = .ok (.sipush 240, 3) := by decide +kernel
theorem dX5_init_66 : decode cX5_init 66 = .ok (.newarray .int, 2) := by decide +kernel
theorem dX5_init_68 : decode cX5_init 68 = .ok (.putfield 38, 3) := by decide +kernel
theorem dX5_init_71 : decode cX5_init 71 = .ok (.return_, 1) := by decide +kernel
theorem dX9_reserve_0 : decode cX9_reserve 0 = .ok (.iload_n 1, 1) := by decide +kernel
theorem dX9_reserve_1 : decode cX9_reserve 1 = .ok (.ifCond .lt 17, 3) := by decide +kernel
theorem dX9_reserve_4 : decode cX9_reserve 4 = .ok (.iload_n 1, 1) := by decide +kernel
theorem dX9_reserve_5 : decode cX9_reserve 5 = .ok (.aload_n 0, 1) := by decide +kernel
theorem dX9_reserve_6 : decode cX9_reserve 6 = .ok (.getfield 9, 3) := by decide +kernel
theorem dX9_reserve_9 : decode cX9_reserve 9 = .ok (.arraylength, 1) := by decide +kernel
theorem dX9_reserve_10 : decode cX9_reserve 10 = .ok (.aload_n 0, 1) := by decide +kernel
theorem dX9_reserve_11 : decode cX9_reserve 11 = .ok (.getfield 27, 3) := by decide +kernel
theorem dX9_reserve_14 : decode cX9_reserve 14 = .ok (.isub, 1) := by decide +kernel
theorem dX9_reserve_15 : decode cX9_reserve 15 = .ok (.if_icmp .le 5, 3) := by decide +kernel
theorem dX9_reserve_20 : decode cX9_reserve 20 = .ok (.aload_n 0, 1) := by decide +kernel
theorem dX9_reserve_21 : decode cX9_reserve 21 = .ok (.getfield 27, 3) := by decide +kernel
theorem dX9_reserve_24 : decode cX9_reserve 24 = .ok (.istore_n 2, 1) := by decide +kernel
theorem dX9_reserve_25 : decode cX9_reserve 25 = .ok (.aload_n 0, 1) := by decide +kernel
theorem dX9_reserve_26 : decode cX9_reserve 26 = .ok (.dup, 1) := by decide +kernel
theorem dX9_reserve_27 : decode cX9_reserve 27 = .ok (.getfield 27, 3) := by decide +kernel
theorem dX9_reserve_30 : decode cX9_reserve 30 = .ok (.iload_n 1, 1) := by decide +kernel
theorem dX9_reserve_31 : decode cX9_reserve 31 = .ok (.iadd, 1) := by decide +kernel
theorem dX9_reserve_32 : decode cX9_reserve 32 = .ok (.putfield 27, 3) := by decide +kernel
theorem dX9_reserve_35 : decode cX9_reserve 35 = .ok (.iload_n 2, 1) := by decide +kernel
theorem dX9_reserve_36 : decode cX9_reserve 36 = .ok (.ireturn, 1) := by decide +kernel
theorem dX0_init_0 : decode cX0_init 0 = .ok (.aload_n 0, 1) := by decide +kernel
theorem dX0_init_1 : decode cX0_init 1 = .ok (.invokespecial 3, 3) := by decide +kernel
theorem dX0_init_4 : decode cX0_init 4 = .ok (.aload_n 0, 1) := by decide +kernel
theorem dX0_init_5 : decode cX0_init 5 = .ok (.aload_n 1, 1) := by decide +kernel
theorem dX0_init_6 : decode cX0_init 6 = .ok (.putfield 9, 3) := by decide +kernel
theorem dX0_init_9 : decode cX0_init 9 = .ok (.aload_n 0, 1) := by decide +kernel
theorem dX0_init_10 : decode cX0_init 10 = .ok (.new 15, 3) := by decide +kernel
theorem dX0_init_13 : decode cX0_init 13 = .ok (.dup, 1) := by decide +kernel
theorem dX0_init_14 : decode cX0_init 14 = .ok (.aload_n 1, 1) := by decide +kernel
theorem dX0_init_15 : decode cX0_init 15 = .ok (.getfield 17, 3) := by decide +kernel
theorem dX0_init_18 : decode cX0_init 18 = .ok (.invokespecial 23, 3) := by decide +kernel
theorem dX0_init_21 : decode cX0_init 21 = .ok (.putfield 26, 3) := by decide +kernel
theorem dX0_init_24 : decode cX0_init 24 = .ok (.aload_n 0, 1) := by decide +kernel
theorem dX0_init_25 : decode cX0_init 25 = .ok (.sipush 645, 3) := by decide +kernel
theorem dX0_init_28 : decode cX0_init 28 = .ok (.newarray .int, 2) := by decide +kernel
theorem dX0_init_30 : decode cX0_init 30 = .ok (.putfield 30, 3) := by decide +kernel
theorem dX0_init_33 : decode cX0_init 33 = .ok (.aload_n 0, 1) := by decide +kernel
theorem dX0_init_34 : decode cX0_init 34 = .ok (.bipush 8, 2) := by decide +kernel
theorem dX0_init_36 : decode cX0_init 36 = .ok (.newarray .int, 2) := by decide +kernel
theorem dX0_init_38 : decode cX0_init 38 = .ok (.putfield 34, 3) := by decide +kernel
theorem dX0_init_41 : decode cX0_init 41 = .ok (.aload_n 0, 1) := by decide +kernel
theorem dX0_init_42 : decode cX0_init 42 = .ok (.bipush 8, 2) := by decide +kernel
theorem dX0_init_44 : decode cX0_init 44 = .ok (.newarray .int, 2) := by decide +kernel
theorem dX0_init_46 : decode cX0_init 46 = .ok (.putfield 37, 3) := by decide +kernel
theorem dX0_init_49 : decode cX0_init 49 = .ok (.aload_n 0, 1) := by decide +kernel
theorem dX0_init_50 : decode cX0_init 50 = .ok (.bipush 8, 2) := by decide +kernel
theorem dX0_init_52 : decode cX0_init 52 = .ok (.newarray .int, 2) := by decide +kernel
theorem dX0_init_54 : decode cX0_init 54 = .ok (.putfield 40, 3) := by decide +kernel
theorem dX0_init_57 : decode cX0_init 57 = .ok (.aload_n 0, 1) := by decide +kernel
theorem dX0_init_58 : decode cX0_init 58 = .ok (.sipush 640, 3) := by decide +kernel
theorem dX0_init_61 : decode cX0_init 61 = .ok (.newarray .boolean, 2) := by decide +kernel
theorem dX0_init_63 : decode cX0_init 63 = .ok (.putfield 43, 3) := by decide +kernel
theorem dX0_init_66 : decode cX0_init 66 = .ok (.aload_n 0, 1) := by decide +kernel
theorem dX0_init_67 : decode cX0_init 67 = .ok (.iconst 0, 1) := by decide +kernel
theorem dX0_init_68 : decode cX0_init 68 = .ok (.putfield 47, 3) := by decide +kernel
theorem dX0_init_71 : decode cX0_init 71 = .ok (.return_, 1) := by decide +kernel
theorem dX10_init_0 : decode cX10_init 0 = .ok (.aload_n 0, 1) := by decide +kernel
theorem dX10_init_1 : decode cX10_init 1 = .ok (.invokespecial 3, 3) := by decide +kernel
theorem dX10_init_4 : decode cX10_init 4 = .ok (.aload_n 0, 1) := by decide +kernel
theorem dX10_init_5 : decode cX10_init 5 = .ok (.sipush 400, 3) := by decide +kernel
theorem dX10_init_8 : decode cX10_init 8 = .ok (.newarray .int, 2) := by decide +kernel
theorem dX10_init_10 : decode cX10_init 10 = .ok (.putfield 9, 3) := by decide +kernel
theorem dX10_init_13 : decode cX10_init 13 = .ok (.aload_n 0, 1) := by decide +kernel
theorem dX10_init_14 : decode cX10_init 14 = .ok (.sipush 400, 3) := by decide +kernel
theorem dX10_init_17 : decode cX10_init 17 = .ok (.newarray .int, 2) := by decide +kernel
theorem dX10_init_19 : decode cX10_init 19 = .ok (.putfield 15, 3) := by decide +kernel
theorem dX10_init_22 : decode cX10_init 22 = .ok (.aload_n 0, 1) := by decide +kernel
theorem dX10_init_23 : decode cX10_init 23 = .ok (.sipush 400, 3) := by decide +kernel
theorem dX10_init_26 : decode cX10_init 26 = .ok (.newarray .boolean, 2) := by decide +kernel
theorem dX10_init_28 : decode cX10_init 28 = .ok (.putfield 18, 3) := by decide +kernel
theorem dX10_init_31 : decode cX10_init 31 = .ok (.aload_n 0, 1) := by decide +kernel
theorem dX10_init_32 : decode cX10_init 32 = .ok (.sipush 400, 3) := by decide +kernel
theorem dX10_init_35 : decode cX10_init 35 = .ok (.newarray .boolean, 2) := by decide +kernel
theorem dX10_init_37 : decode cX10_init 37 = .ok (.putfield 22, 3) := by decide +kernel
theorem dX10_init_40 : decode cX10_init 40 = .ok (.aload_n 0, 1) := by decide +kernel
theorem dX10_init_41 : decode cX10_init 41 = .ok (.aload_n 1, 1) := by decide +kernel
theorem dX10_init_42 : decode cX10_init 42 = .ok (.putfield 25, 3) := by decide +kernel
theorem dX10_init_45 : decode cX10_init 45 = .ok (.aload_n 0, 1) := by decide +kernel
theorem dX10_init_46 : decode cX10_init 46 = .ok (.iconst 0, 1) := by decide +kernel
theorem dX10_init_47 : decode cX10_init 47 = .ok (.putfield 29, 3) := by decide +kernel
theorem dX10_init_50 : decode cX10_init 50 = .ok (.return_, 1) := by decide +kernel
theorem dX6_init_0 : decode cX6_init 0 = .ok (.aload_n 0, 1) := by decide +kernel
theorem dX6_init_1 : decode cX6_init 1 = .ok (.invokespecial 3, 3) := by decide +kernel
theorem dX6_init_4 : decode cX6_init 4 = .ok (.aload_n 0, 1) := by decide +kernel
theorem dX6_init_5 : decode cX6_init 5 = .ok (.aload_n 1, 1) := by decide +kernel
theorem dX6_init_6 : decode cX6_init 6 = .ok (.putfield 9, 3) := by decide +kernel
theorem dX6_init_9 : decode cX6_init 9 = .ok (.aload_n 0, 1) := by decide +kernel
theorem dX6_init_10 : decode cX6_init 10 = .ok (.aload_n 2, 1) := by decide +kernel
theorem dX6_init_11 : decode cX6_init 11 = .ok (.putfield 15, 3) := by decide +kernel
theorem dX6_init_14 : decode cX6_init 14 = .ok (.aload_n 0, 1) := by decide +kernel
theorem dX6_init_15 : decode cX6_init 15 = .ok (.new 19, 3) := by decide +kernel
theorem dX6_init_18 : decode cX6_init 18 = .ok (.dup, 1) := by decide +kernel
theorem dX6_init_19 : decode cX6_init 19 = .ok (.sipush 400, 3) := by decide +kernel
theorem dX6_init_22 : decode cX6_init 22 = .ok (.invokespecial 21, 3) := by decide +kernel
theorem dX6_init_25 : decode cX6_init 25 = .ok (.putfield 24, 3) := by decide +kernel
theorem dX6_init_28 : decode cX6_init 28 = .ok (.aload_n 0, 1) := by decide +kernel
theorem dX6_init_29 : decode cX6_init 29 = .ok (.new 28, 3) := by decide +kernel
theorem dX6_init_32 : decode cX6_init 32 = .ok (.dup, 1) := by decide +kernel
theorem dX6_init_33 : decode cX6_init 33 = .ok (.aload_n 0, 1) := by decide +kernel
theorem dX6_init_34 : decode cX6_init 34 = .ok (.getfield 24, 3) := by decide +kernel
theorem dX6_init_37 : decode cX6_init 37 = .ok (.invokespecial 30, 3) := by decide +kernel
theorem dX6_init_40 : decode cX6_init 40 = .ok (.putfield 33, 3) := by decide +kernel
theorem dX6_init_43 : decode cX6_init 43 = .ok (.aload_n 0, 1) := by decide +kernel
theorem dX6_init_44 : decode cX6_init 44 = .ok (.bipush 8, 2) := by decide +kernel
theorem dX6_init_46 : decode cX6_init 46 = .ok (.newarray .int, 2) := by decide +kernel
theorem dX6_init_48 : decode cX6_init 48 = .ok (.putfield 37, 3) := by decide +kernel
theorem dX6_init_51 : decode cX6_init 51 = .ok (.aload_n 0, 1) := by decide +kernel
theorem dX6_init_52 : decode cX6_init 52 = .ok (.bipush 8, 2) := by decide +kernel
theorem dX6_init_54 : decode cX6_init 54 = .ok (.newarray .int, 2) := by decide +kernel
theorem dX6_init_56 : decode cX6_init 56 = .ok (.putfield 41, 3) := by decide +kernel
theorem dX6_init_59 : decode cX6_init 59 = .ok (.aload_n 0, 1) := by decide +kernel
theorem dX6_init_60 : decode cX6_init 60 = .ok (.bipush 8, 2) := by decide +kernel
theorem dX6_init_62 : decode cX6_init 62 = .ok (.newarray .int, 2) := by decide +kernel
theorem dX6_init_64 : decode cX6_init 64 = .ok (.putfield 44, 3) := by decide +kernel
theorem dX6_init_67 : decode cX6_init 67 = .ok (.aload_n 0, 1) := by decide +kernel
theorem dX6_init_68 : decode cX6_init 68 = .ok (.bipush 8, 2) := by decide +kernel
theorem dX6_init_70 : decode cX6_init 70 = .ok (.newarray .int, 2) := by decide +kernel
theorem dX6_init_72 : decode cX6_init 72 = .ok (.putfield 47, 3) := by decide +kernel
theorem dX6_init_75 : decode cX6_init 75 = .ok (.aload_n 0, 1) := by decide +kernel
theorem dX6_init_76 : decode cX6_init 76 = .ok (.iconst 0, 1) := by decide +kernel
theorem dX6_init_77 : decode cX6_init 77 = .ok (.putfield 50, 3) := by decide +kernel
theorem dX6_init_80 : decode cX6_init 80 = .ok (.return_, 1) := by decide +kernel
theorem dX1_init_0 : decode cX1_init 0 = .ok (.aload_n 0, 1) := by decide +kernel
theorem dX1_init_1 : decode cX1_init 1 = .ok (.invokespecial 3, 3) := by decide +kernel
theorem dX1_init_4 : decode cX1_init 4 = .ok (.aload_n 0, 1) := by decide +kernel
theorem dX1_init_5 : decode cX1_init 5 = .ok (.new 9, 3) := by decide +kernel
theorem dX1_init_8 : decode cX1_init 8 = .ok (.dup, 1) := by decide +kernel
theorem dX1_init_9 : decode cX1_init 9 = .ok (.aload_n 1, 1) := by decide +kernel
theorem dX1_init_10 : decode cX1_init 10 = .ok (.aload_n 2, 1) := by decide +kernel
theorem dX1_init_11 : decode cX1_init 11 = .ok (.invokespecial 11, 3) := by decide +kernel
theorem dX1_init_14 : decode cX1_init 14 = .ok (.putfield 14, 3) := by decide +kernel
theorem dX1_init_17 : decode cX1_init 17 = .ok (.aload_n 0, 1) := by decide +kernel
theorem dX1_init_18 : decode cX1_init 18 = .ok (.new 20, 3) := by decide +kernel
theorem dX1_init_21 : decode cX1_init 21 = .ok (.dup, 1) := by decide +kernel
theorem dX1_init_22 : decode cX1_init 22 = .ok (.invokespecial 22, 3) := by decide +kernel
theorem dX1_init_25 : decode cX1_init 25 = .ok (.putfield 23, 3) := by decide +kernel
theorem dX1_init_28 : decode cX1_init 28 = .ok (.aload_n 0, 1) := by decide +kernel
theorem dX1_init_29 : decode cX1_init 29 = .ok (.bipush 10, 2) := by decide +kernel
theorem dX1_init_31 : decode cX1_init 31 = .ok (.newarray .int, 2) := by decide +kernel
theorem dX1_init_33 : decode cX1_init 33 = .ok (.putfield 27, 3) := by decide +kernel
theorem dX1_init_36 : decode cX1_init 36 = .ok (.aload_n 0, 1) := by decide +kernel
theorem dX1_init_37 : decode cX1_init 37 = .ok (.iconst 4, 1) := by decide +kernel
theorem dX1_init_38 : decode cX1_init 38 = .ok (.newarray .long, 2) := by decide +kernel
theorem dX1_init_40 : decode cX1_init 40 = .ok (.putfield 31, 3) := by decide +kernel
theorem dX1_init_43 : decode cX1_init 43 = .ok (.aload_n 0, 1) := by decide +kernel
theorem dX1_init_44 : decode cX1_init 44 = .ok (.aload_n 1, 1) := by decide +kernel
theorem dX1_init_45 : decode cX1_init 45 = .ok (.putfield 35, 3) := by decide +kernel
theorem dX1_init_48 : decode cX1_init 48 = .ok (.aload_n 0, 1) := by decide +kernel
theorem dX1_init_49 : decode cX1_init 49 = .ok (.bipush 6, 2) := by decide +kernel
theorem dX1_init_51 : decode cX1_init 51 = .ok (.putfield 39, 3) := by decide +kernel
theorem dX1_init_54 : decode cX1_init 54 = .ok (.aload_n 0, 1) := by decide +kernel
theorem dX1_init_55 : decode cX1_init 55 = .ok (.iconst 0, 1) := by decide +kernel
theorem dX1_init_56 : decode cX1_init 56 = .ok (.putfield 43, 3) := by decide +kernel
theorem dX1_init_59 : decode cX1_init 59 = .ok (.return_, 1) := by decide +kernel
theorem dX3_init_0 : decode cX3_init 0 = .ok (.aload_n 0, 1) := by decide +kernel
theorem dX3_init_1 : decode cX3_init 1 = .ok (.invokespecial 3, 3) := by decide +kernel
theorem dX3_init_4 : decode cX3_init 4 = .ok (.aload_n 0, 1) := by decide +kernel
theorem dX3_init_5 : decode cX3_init 5 = .ok (.aload_n 1, 1) := by decide +kernel
theorem dX3_init_6 : decode cX3_init 6 = .ok (.putfield 9, 3) := by decide +kernel
theorem dX3_init_9 : decode cX3_init 9 = .ok (.aload_n 0, 1) := by decide +kernel
theorem dX3_init_10 : decode cX3_init 10 = .ok (.aload_n 2, 1) := by decide +kernel
theorem dX3_init_11 : decode cX3_init 11 = .ok (.putfield 15, 3) := by decide +kernel
theorem dX3_init_14 : decode cX3_init 14 = .ok (.aload_n 0, 1) := by decide +kernel
theorem dX3_init_15 : decode cX3_init 15 = .ok (.sipush 512, 3) := by decide +kernel
theorem dX3_init_18 : decode cX3_init 18 = .ok (.anewarray 18, 3) := by decide +kernel
theorem dX3_init_21 : decode cX3_init 21 = .ok (.putfield 20, 3) := by decide +kernel
theorem dX3_init_24 : decode cX3_init 24 = .ok (.aload_n 0, 1) := by decide +kernel
theorem dX3_init_25 : decode cX3_init 25 = .ok (.iconst 0, 1) := by decide +kernel
theorem dX3_init_26 : decode cX3_init 26 = .ok (.putfield 24, 3) := by decide +kernel
theorem dX3_init_29 : decode cX3_init 29 = .ok (.aload_n 0, 1) := by decide +kernel
theorem dX3_init_30 : decode cX3_init 30 = .ok (.iconst 0, 1) := by decide +kernel
theorem dX3_init_31 : decode cX3_init 31 = .ok (.putfield 28, 3) := by decide +kernel
theorem dX3_init_34 : decode cX3_init 34 = .ok (.aload_n 0, 1) := by decide +kernel
theorem dX3_init_35 : decode cX3_init 35 = .ok (.iconst 0, 1) := by decide +kernel
theorem dX3_init_36 : decode cX3_init 36 = .ok (.putfield 31, 3) := by decide +kernel
theorem dX3_init_39 : decode cX3_init 39 = .ok (.aload_n 0, 1) := by decide +kernel
theorem dX3_init_40 : decode cX3_init 40 = .ok (.iconst 0, 1) := by decide +kernel
theorem dX3_init_41 : decode cX3_init 41 = .ok (.putfield 34, 3) := by decide +kernel
theorem dX3_init_44 : decode cX3_init 44 = .ok (.return_, 1) := by decide +kernel
theorem dX2_init_0 : decode cX2_init 0 = .ok (.aload_n 0, 1) := by decide +kernel
theorem dX2_init_1 : decode cX2_init 1 = .ok (.invokespecial 3, 3) := by decide +kernel
theorem dX2_init_4 : decode cX2_init 4 = .ok (.aload_n 0, 1) := by decide +kernel
theorem dX2_init_5 : decode cX2_init 5 = .ok (.sipush 608, 3) := by decide +kernel
theorem dX2_init_8 : decode cX2_init 8 = .ok (.newarray .int, 2) := by decide +kernel
theorem dX2_init_10 : decode cX2_init 10 = .ok (.putfield 11, 3) := by decide +kernel
theorem dX2_init_13 : decode cX2_init 13 = .ok (.aload_n 0, 1) := by decide +kernel
theorem dX2_init_14 : decode cX2_init 14 = .ok (.sipush 608, 3) := by decide +kernel
theorem dX2_init_17 : decode cX2_init 17 = .ok (.newarray .int, 2) := by decide +kernel
theorem dX2_init_19 : decode cX2_init 19 = .ok (.putfield 15, 3) := by decide +kernel
theorem dX2_init_22 : decode cX2_init 22 = .ok (.aload_n 0, 1) := by decide +kernel
theorem dX2_init_23 : decode cX2_init 23 = .ok (.sipush 608, 3) := by decide +kernel
theorem dX2_init_26 : decode cX2_init 26 = .ok (.newarray .int, 2) := by decide +kernel
theorem dX2_init_28 : decode cX2_init 28 = .ok (.putfield 18, 3) := by decide +kernel
theorem dX2_init_31 : decode cX2_init 31 = .ok (.aload_n 0, 1) := by decide +kernel
theorem dX2_init_32 : decode cX2_init 32 = .ok (.sipush 608, 3) := by decide +kernel
theorem dX2_init_35 : decode cX2_init 35 = .ok (.newarray .int, 2) := by decide +kernel
theorem dX2_init_37 : decode cX2_init 37 = .ok (.putfield 21, 3) := by decide +kernel
theorem dX2_init_40 : decode cX2_init 40 = .ok (.aload_n 0, 1) := by decide +kernel
theorem dX2_init_41 : decode cX2_init 41 = .ok (.sipush 608, 3) := by decide +kernel
theorem dX2_init_44 : decode cX2_init 44 = .ok (.newarray .int, 2) := by decide +kernel
theorem dX2_init_46 : decode cX2_init 46 = .ok (.putfield 24, 3) := by decide +kernel
theorem dX2_init_49 : decode cX2_init 49 = .ok (.aload_n 0, 1) := by decide +kernel
theorem dX2_init_50 : decode cX2_init 50 = .ok (.iconst 0, 1) := by decide +kernel
theorem dX2_init_51 : decode cX2_init 51 = .ok (.putfield 27, 3) := by decide +kernel
theorem dX2_init_54 : decode cX2_init 54 = .ok (.return_, 1) := by decide +kernel
set_option maxRecDepth 20000 in
theorem kV_RX5_20 : GoodIn WG (wsV RX5 20 RX9 yX9_reserve (Cond.code yX9_reserve cX9_reserve 3 (some .int) :: WG)) := zGV mt65 mt66 mt67 mt2 mt68
theorem hd_X9_init : z_hd yX9_init RX9 1 := by decide +kernel
theorem hd_X9_reserve : z_hd yX9_reserve RX9 1 := by decide +kernel
theorem hd_X5_init : z_hd yX5_init RX5 0 := by decide +kernel
theorem hd_X10_init : z_hd yX10_init RX10 1 := by decide +kernel
theorem hd_X0_init : z_hd yX0_init RX0 1 := by decide +kernel
theorem hd_X6_init : z_hd yX6_init RX6 2 := by decide +kernel
theorem hd_X3_init : z_hd yX3_init RX3 2 := by decide +kernel
theorem hd_X2_init : z_hd yX2_init RX2 0 := by decide +kernel
theorem hd_X1_init : z_hd yX1_init RX1 2 := by decide +kernel
set_option maxHeartbeats 4000000 in
set_option maxRecDepth 100000 in
theorem cX9_init_1 (l : Launch) (K : zK) (sz : Nat) (a0 : Nat) (g0 : Nat → Value) : Met l yX9_init (Cond.code yX9_init cX9_init 2 none :: WG) { frames := 1, cells := 5, slots := 1400, locals := 12 } (zPre K [(a0, zO 7 6 g0)] sz [.ref a0, .int 200]) (va_Qv (fun _ : Nat → Nat => True) (zB K (va_A [(a0, zO 7 6 g0)] sz) (fun u : Nat → Nat => [(a0, zO 7 6 (va_up (va_up (va_up (va_up (va_up (va_up g0 0 (.ref (u 0))) 1 (.ref (u 1))) 2 (.ref (u 2))) 3 (.ref (u 3))) 4 (.ref (u 4))) 5 (.int 0))), ((u 0), zI K 200 (fun _ => 0)), ((u 1), zI K 200 (fun _ => 0)), ((u 2), zI K 200 (fun _ => 0)), ((u 3), zI K 200 (fun _ => 0)), ((u 4), zI K 600 (fun _ => 0))])) (va_A [(a0, zO 7 6 g0)] sz)) 5 1400 (va_A [(a0, zO 7 6 g0)] sz) := by
  refine z_met (Qc := fun A => (va_Qv (fun _ : Nat → Nat => True) (zB K A (fun u : Nat → Nat => [(a0, zO 7 6 (va_up (va_up (va_up (va_up (va_up (va_up g0 0 (.ref (u 0))) 1 (.ref (u 1))) 2 (.ref (u 2))) 3 (.ref (u 3))) 4 (.ref (u 4))) 5 (.int 0))), ((u 0), zI K 200 (fun _ => 0)), ((u 1), zI K 200 (fun _ => 0)), ((u 2), zI K 200 (fun _ => 0)), ((u 3), zI K 200 (fun _ => 0)), ((u 4), zI K 600 (fun _ => 0))])) A)) (by decide +kernel) (Nat.le_of_ble_eq_true rfl) ?_
  intro p e s m args below meth c A ls H hx hb hr hg hown hlocks hml hin hK hP hD hA hS hZ hl
  have hown : s.vm.findClass RX9 = some m.cls := hown
  have hl : lv_has ls 2 [(0, .ref a0), (1, .int 200)] := hl
  refine lv_aload_n hx hb dX9_init_0 rfl (lv_at hl 0 rfl) ?_
  refine W.objInit hx hb hown (hg _ mt36) (hg _ mt29) (hg _ mt30o) rfl (by rw [hml]; exact hl.1) rfl dX9_init_1 (Nat.le_of_ble_eq_true rfl) (Nat.le_of_ble_eq_true rfl) ?_
  refine W.eq (g2 := F0 m 4 ls []) rfl ?_
  refine lv_aload_n hx hb dX9_init_4 rfl (lv_at hl 0 rfl) ?_
  refine lv_iload_n hx hb dX9_init_5 rfl (lv_at hl 1 rfl) ?_
  refine z_newi hx hb (hg _ mt56) hK hP hD hS hA (N' := 200) rfl (Nat.le_of_ble_eq_true rfl) 1 200 rfl rfl (Nat.le_of_ble_eq_true rfl) (Nat.le_of_ble_eq_true rfl) dX9_init_6 (fun q1 H hP hD hS => ?_)
  have hP : va_P K.1 classes [(a0, zO 7 6 g0), (q1, zI K 200 (fun _ => 0))] H := hP
  have hD : va_D A [(a0, zO 7 6 g0), (q1, zI K 200 (fun _ => 0))] := hD
  refine z_putF hx hb hg hown hK hP hD hS i_X9 rfl tyX9_ok nmX9 hin 0 rfl 0 (by decide) mt37 rfl rfl rfl rfl dX9_init_8 (fun gg2 H locs y3 hP hD hS => ?_)
  have hP : va_P K.1 classes [(a0, zO 7 6 gg2), (q1, zI K 200 (fun _ => 0))] H := hP
  have hD : va_D A [(a0, zO 7 6 gg2), (q1, zI K 200 (fun _ => 0))] := hD
  refine lv_aload_n hx hb dX9_init_11 rfl (lv_at hl 0 rfl) ?_
  refine lv_iload_n hx hb dX9_init_12 rfl (lv_at hl 1 rfl) ?_
  refine z_newi hx hb (hg _ mt56) hK hP hD hS hA (N' := 200) rfl (Nat.le_of_ble_eq_true rfl) 2 400 rfl rfl (Nat.le_of_ble_eq_true rfl) (Nat.le_of_ble_eq_true rfl) dX9_init_13 (fun q4 H hP hD hS => ?_)
  have hP : va_P K.1 classes [(a0, zO 7 6 gg2), (q1, zI K 200 (fun _ => 0)), (q4, zI K 200 (fun _ => 0))] H := hP
  have hD : va_D A [(a0, zO 7 6 gg2), (q1, zI K 200 (fun _ => 0)), (q4, zI K 200 (fun _ => 0))] := hD
  refine z_putF hx hb hg hown hK hP hD hS i_X9 rfl tyX9_ok nmX9 hin 0 rfl 1 (by decide) mt38 rfl rfl rfl rfl dX9_init_15 (fun gg5 H locs y6 hP hD hS => ?_)
  have hP : va_P K.1 classes [(a0, zO 7 6 gg5), (q1, zI K 200 (fun _ => 0)), (q4, zI K 200 (fun _ => 0))] H := hP
  have hD : va_D A [(a0, zO 7 6 gg5), (q1, zI K 200 (fun _ => 0)), (q4, zI K 200 (fun _ => 0))] := hD
  refine lv_aload_n hx hb dX9_init_18 rfl (lv_at hl 0 rfl) ?_
  refine lv_iload_n hx hb dX9_init_19 rfl (lv_at hl 1 rfl) ?_
  refine z_newi hx hb (hg _ mt56) hK hP hD hS hA (N' := 200) rfl (Nat.le_of_ble_eq_true rfl) 3 600 rfl rfl (Nat.le_of_ble_eq_true rfl) (Nat.le_of_ble_eq_true rfl) dX9_init_20 (fun q7 H hP hD hS => ?_)
  have hP : va_P K.1 classes [(a0, zO 7 6 gg5), (q1, zI K 200 (fun _ => 0)), (q4, zI K 200 (fun _ => 0)), (q7, zI K 200 (fun _ => 0))] H := hP
  have hD : va_D A [(a0, zO 7 6 gg5), (q1, zI K 200 (fun _ => 0)), (q4, zI K 200 (fun _ => 0)), (q7, zI K 200 (fun _ => 0))] := hD
  refine z_putF hx hb hg hown hK hP hD hS i_X9 rfl tyX9_ok nmX9 hin 0 rfl 2 (by decide) mt39 rfl rfl rfl rfl dX9_init_22 (fun gg8 H locs y9 hP hD hS => ?_)
  have hP : va_P K.1 classes [(a0, zO 7 6 gg8), (q1, zI K 200 (fun _ => 0)), (q4, zI K 200 (fun _ => 0)), (q7, zI K 200 (fun _ => 0))] H := hP
  have hD : va_D A [(a0, zO 7 6 gg8), (q1, zI K 200 (fun _ => 0)), (q4, zI K 200 (fun _ => 0)), (q7, zI K 200 (fun _ => 0))] := hD
  refine lv_aload_n hx hb dX9_init_25 rfl (lv_at hl 0 rfl) ?_
  refine lv_iload_n hx hb dX9_init_26 rfl (lv_at hl 1 rfl) ?_
  refine z_newi hx hb (hg _ mt56) hK hP hD hS hA (N' := 200) rfl (Nat.le_of_ble_eq_true rfl) 4 800 rfl rfl (Nat.le_of_ble_eq_true rfl) (Nat.le_of_ble_eq_true rfl) dX9_init_27 (fun q10 H hP hD hS => ?_)
  have hP : va_P K.1 classes [(a0, zO 7 6 gg8), (q1, zI K 200 (fun _ => 0)), (q4, zI K 200 (fun _ => 0)), (q7, zI K 200 (fun _ => 0)), (q10, zI K 200 (fun _ => 0))] H := hP
  have hD : va_D A [(a0, zO 7 6 gg8), (q1, zI K 200 (fun _ => 0)), (q4, zI K 200 (fun _ => 0)), (q7, zI K 200 (fun _ => 0)), (q10, zI K 200 (fun _ => 0))] := hD
  refine z_putF hx hb hg hown hK hP hD hS i_X9 rfl tyX9_ok nmX9 hin 0 rfl 3 (by decide) mt40 rfl rfl rfl rfl dX9_init_29 (fun gg11 H locs y12 hP hD hS => ?_)
  have hP : va_P K.1 classes [(a0, zO 7 6 gg11), (q1, zI K 200 (fun _ => 0)), (q4, zI K 200 (fun _ => 0)), (q7, zI K 200 (fun _ => 0)), (q10, zI K 200 (fun _ => 0))] H := hP
  have hD : va_D A [(a0, zO 7 6 gg11), (q1, zI K 200 (fun _ => 0)), (q4, zI K 200 (fun _ => 0)), (q7, zI K 200 (fun _ => 0)), (q10, zI K 200 (fun _ => 0))] := hD
  refine lv_aload_n hx hb dX9_init_32 rfl (lv_at hl 0 rfl) ?_
  refine lv_iconst (v := 3) hx hb dX9_init_33 (by decide) ?_
  refine lv_iload_n hx hb dX9_init_34 rfl (lv_at hl 1 rfl) ?_
  refine lv_imul hx hb dX9_init_35 ?_
  refine z_cst (v := 600) (by decide +kernel) ?_
  refine z_newi hx hb (hg _ mt56) hK hP hD hS hA (N' := 600) rfl (Nat.le_of_ble_eq_true rfl) 5 1400 rfl rfl (Nat.le_of_ble_eq_true rfl) (Nat.le_of_ble_eq_true rfl) dX9_init_36 (fun q13 H hP hD hS => ?_)
  have hP : va_P K.1 classes [(a0, zO 7 6 gg11), (q1, zI K 200 (fun _ => 0)), (q4, zI K 200 (fun _ => 0)), (q7, zI K 200 (fun _ => 0)), (q10, zI K 200 (fun _ => 0)), (q13, zI K 600 (fun _ => 0))] H := hP
  have hD : va_D A [(a0, zO 7 6 gg11), (q1, zI K 200 (fun _ => 0)), (q4, zI K 200 (fun _ => 0)), (q7, zI K 200 (fun _ => 0)), (q10, zI K 200 (fun _ => 0)), (q13, zI K 600 (fun _ => 0))] := hD
  refine z_putF hx hb hg hown hK hP hD hS i_X9 rfl tyX9_ok nmX9 hin 0 rfl 4 (by decide) mt41 rfl rfl rfl rfl dX9_init_38 (fun gg14 H locs y15 hP hD hS => ?_)
  have hP : va_P K.1 classes [(a0, zO 7 6 gg14), (q1, zI K 200 (fun _ => 0)), (q4, zI K 200 (fun _ => 0)), (q7, zI K 200 (fun _ => 0)), (q10, zI K 200 (fun _ => 0)), (q13, zI K 600 (fun _ => 0))] H := hP
  have hD : va_D A [(a0, zO 7 6 gg14), (q1, zI K 200 (fun _ => 0)), (q4, zI K 200 (fun _ => 0)), (q7, zI K 200 (fun _ => 0)), (q10, zI K 200 (fun _ => 0)), (q13, zI K 600 (fun _ => 0))] := hD
  refine lv_aload_n hx hb dX9_init_41 rfl (lv_at hl 0 rfl) ?_
  refine lv_iconst (v := 0) hx hb dX9_init_42 (by decide) ?_
  refine z_put hx hb hg hown hK hP hD hS i_X9 rfl tyX9_ok nmX9 0 rfl 5 (by decide) mt42 rfl rfl rfl dX9_init_43 (fun gg16 H locs y17 hP hD hS => ?_)
  have hP : va_P K.1 classes [(a0, zO 7 6 gg16), (q1, zI K 200 (fun _ => 0)), (q4, zI K 200 (fun _ => 0)), (q7, zI K 200 (fun _ => 0)), (q10, zI K 200 (fun _ => 0)), (q13, zI K 600 (fun _ => 0))] H := hP
  have hD : va_D A [(a0, zO 7 6 gg16), (q1, zI K 200 (fun _ => 0)), (q4, zI K 200 (fun _ => 0)), (q7, zI K 200 (fun _ => 0)), (q10, zI K 200 (fun _ => 0)), (q13, zI K 600 (fun _ => 0))] := hD
  subst y17
  subst y15
  subst y12
  subst y9
  subst y6
  subst y3
  have hP9 : va_P K.1 classes [(a0, zO 7 6 (va_up (va_up (va_up (va_up (va_up (va_up g0 0 (.ref q1)) 1 (.ref q4)) 2 (.ref q7)) 3 (.ref q10)) 4 (.ref q13)) 5 (.int 0))), (q1, zI K 200 (fun _ => 0)), (q4, zI K 200 (fun _ => 0)), (q7, zI K 200 (fun _ => 0)), (q10, zI K 200 (fun _ => 0)), (q13, zI K 600 (fun _ => 0))] H := hP.sub [0, 1, 2, 3, 4, 5] rfl
  have hD9 : va_D A [(a0, zO 7 6 (va_up (va_up (va_up (va_up (va_up (va_up g0 0 (.ref q1)) 1 (.ref q4)) 2 (.ref q7)) 3 (.ref q10)) 4 (.ref q13)) 5 (.int 0))), (q1, zI K 200 (fun _ => 0)), (q4, zI K 200 (fun _ => 0)), (q7, zI K 200 (fun _ => 0)), (q10, zI K 200 (fun _ => 0)), (q13, zI K 600 (fun _ => 0))] := hD.sub [0, 1, 2, 3, 4, 5] (by decide) rfl
  exact z_vret hx hb hr (fun k => ([q1, q4, q7, q10, q13] : List Nat).getD k 0) trivial hP9 hD9 hS (Nat.le_of_ble_eq_true rfl) (Nat.le_of_ble_eq_true rfl) hlocks dX9_init_46
set_option maxHeartbeats 4000000 in
set_option maxRecDepth 100000 in
theorem cX9_init_2 (l : Launch) (K : zK) (sz : Nat) (a0 : Nat) (g0 : Nat → Value) : Met l yX9_init (Cond.code yX9_init cX9_init 2 none :: WG) { frames := 1, cells := 5, slots := 4515, locals := 12 } (zPre K [(a0, zO 7 6 g0)] sz [.ref a0, .int 645]) (va_Qv (fun _ : Nat → Nat => True) (zB K (va_A [(a0, zO 7 6 g0)] sz) (fun u : Nat → Nat => [(a0, zO 7 6 (va_up (va_up (va_up (va_up (va_up (va_up g0 0 (.ref (u 0))) 1 (.ref (u 1))) 2 (.ref (u 2))) 3 (.ref (u 3))) 4 (.ref (u 4))) 5 (.int 0))), ((u 0), zI K 645 (fun _ => 0)), ((u 1), zI K 645 (fun _ => 0)), ((u 2), zI K 645 (fun _ => 0)), ((u 3), zI K 645 (fun _ => 0)), ((u 4), zI K 1935 (fun _ => 0))])) (va_A [(a0, zO 7 6 g0)] sz)) 5 4515 (va_A [(a0, zO 7 6 g0)] sz) := by
  refine z_met (Qc := fun A => (va_Qv (fun _ : Nat → Nat => True) (zB K A (fun u : Nat → Nat => [(a0, zO 7 6 (va_up (va_up (va_up (va_up (va_up (va_up g0 0 (.ref (u 0))) 1 (.ref (u 1))) 2 (.ref (u 2))) 3 (.ref (u 3))) 4 (.ref (u 4))) 5 (.int 0))), ((u 0), zI K 645 (fun _ => 0)), ((u 1), zI K 645 (fun _ => 0)), ((u 2), zI K 645 (fun _ => 0)), ((u 3), zI K 645 (fun _ => 0)), ((u 4), zI K 1935 (fun _ => 0))])) A)) (by decide +kernel) (Nat.le_of_ble_eq_true rfl) ?_
  intro p e s m args below meth c A ls H hx hb hr hg hown hlocks hml hin hK hP hD hA hS hZ hl
  have hown : s.vm.findClass RX9 = some m.cls := hown
  have hl : lv_has ls 2 [(0, .ref a0), (1, .int 645)] := hl
  refine lv_aload_n hx hb dX9_init_0 rfl (lv_at hl 0 rfl) ?_
  refine W.objInit hx hb hown (hg _ mt36) (hg _ mt29) (hg _ mt30o) rfl (by rw [hml]; exact hl.1) rfl dX9_init_1 (Nat.le_of_ble_eq_true rfl) (Nat.le_of_ble_eq_true rfl) ?_
  refine W.eq (g2 := F0 m 4 ls []) rfl ?_
  refine lv_aload_n hx hb dX9_init_4 rfl (lv_at hl 0 rfl) ?_
  refine lv_iload_n hx hb dX9_init_5 rfl (lv_at hl 1 rfl) ?_
  refine z_newi hx hb (hg _ mt56) hK hP hD hS hA (N' := 645) rfl (Nat.le_of_ble_eq_true rfl) 1 645 rfl rfl (Nat.le_of_ble_eq_true rfl) (Nat.le_of_ble_eq_true rfl) dX9_init_6 (fun q1 H hP hD hS => ?_)
  have hP : va_P K.1 classes [(a0, zO 7 6 g0), (q1, zI K 645 (fun _ => 0))] H := hP
  have hD : va_D A [(a0, zO 7 6 g0), (q1, zI K 645 (fun _ => 0))] := hD
  refine z_putF hx hb hg hown hK hP hD hS i_X9 rfl tyX9_ok nmX9 hin 0 rfl 0 (by decide) mt37 rfl rfl rfl rfl dX9_init_8 (fun gg2 H locs y3 hP hD hS => ?_)
  have hP : va_P K.1 classes [(a0, zO 7 6 gg2), (q1, zI K 645 (fun _ => 0))] H := hP
  have hD : va_D A [(a0, zO 7 6 gg2), (q1, zI K 645 (fun _ => 0))] := hD
  refine lv_aload_n hx hb dX9_init_11 rfl (lv_at hl 0 rfl) ?_
  refine lv_iload_n hx hb dX9_init_12 rfl (lv_at hl 1 rfl) ?_
  refine z_newi hx hb (hg _ mt56) hK hP hD hS hA (N' := 645) rfl (Nat.le_of_ble_eq_true rfl) 2 1290 rfl rfl (Nat.le_of_ble_eq_true rfl) (Nat.le_of_ble_eq_true rfl) dX9_init_13 (fun q4 H hP hD hS => ?_)
  have hP : va_P K.1 classes [(a0, zO 7 6 gg2), (q1, zI K 645 (fun _ => 0)), (q4, zI K 645 (fun _ => 0))] H := hP
  have hD : va_D A [(a0, zO 7 6 gg2), (q1, zI K 645 (fun _ => 0)), (q4, zI K 645 (fun _ => 0))] := hD
  refine z_putF hx hb hg hown hK hP hD hS i_X9 rfl tyX9_ok nmX9 hin 0 rfl 1 (by decide) mt38 rfl rfl rfl rfl dX9_init_15 (fun gg5 H locs y6 hP hD hS => ?_)
  have hP : va_P K.1 classes [(a0, zO 7 6 gg5), (q1, zI K 645 (fun _ => 0)), (q4, zI K 645 (fun _ => 0))] H := hP
  have hD : va_D A [(a0, zO 7 6 gg5), (q1, zI K 645 (fun _ => 0)), (q4, zI K 645 (fun _ => 0))] := hD
  refine lv_aload_n hx hb dX9_init_18 rfl (lv_at hl 0 rfl) ?_
  refine lv_iload_n hx hb dX9_init_19 rfl (lv_at hl 1 rfl) ?_
  refine z_newi hx hb (hg _ mt56) hK hP hD hS hA (N' := 645) rfl (Nat.le_of_ble_eq_true rfl) 3 1935 rfl rfl (Nat.le_of_ble_eq_true rfl) (Nat.le_of_ble_eq_true rfl) dX9_init_20 (fun q7 H hP hD hS => ?_)
  have hP : va_P K.1 classes [(a0, zO 7 6 gg5), (q1, zI K 645 (fun _ => 0)), (q4, zI K 645 (fun _ => 0)), (q7, zI K 645 (fun _ => 0))] H := hP
  have hD : va_D A [(a0, zO 7 6 gg5), (q1, zI K 645 (fun _ => 0)), (q4, zI K 645 (fun _ => 0)), (q7, zI K 645 (fun _ => 0))] := hD
  refine z_putF hx hb hg hown hK hP hD hS i_X9 rfl tyX9_ok nmX9 hin 0 rfl 2 (by decide) mt39 rfl rfl rfl rfl dX9_init_22 (fun gg8 H locs y9 hP hD hS => ?_)
  have hP : va_P K.1 classes [(a0, zO 7 6 gg8), (q1, zI K 645 (fun _ => 0)), (q4, zI K 645 (fun _ => 0)), (q7, zI K 645 (fun _ => 0))] H := hP
  have hD : va_D A [(a0, zO 7 6 gg8), (q1, zI K 645 (fun _ => 0)), (q4, zI K 645 (fun _ => 0)), (q7, zI K 645 (fun _ => 0))] := hD
  refine lv_aload_n hx hb dX9_init_25 rfl (lv_at hl 0 rfl) ?_
  refine lv_iload_n hx hb dX9_init_26 rfl (lv_at hl 1 rfl) ?_
  refine z_newi hx hb (hg _ mt56) hK hP hD hS hA (N' := 645) rfl (Nat.le_of_ble_eq_true rfl) 4 2580 rfl rfl (Nat.le_of_ble_eq_true rfl) (Nat.le_of_ble_eq_true rfl) dX9_init_27 (fun q10 H hP hD hS => ?_)
  have hP : va_P K.1 classes [(a0, zO 7 6 gg8), (q1, zI K 645 (fun _ => 0)), (q4, zI K 645 (fun _ => 0)), (q7, zI K 645 (fun _ => 0)), (q10, zI K 645 (fun _ => 0))] H := hP
  have hD : va_D A [(a0, zO 7 6 gg8), (q1, zI K 645 (fun _ => 0)), (q4, zI K 645 (fun _ => 0)), (q7, zI K 645 (fun _ => 0)), (q10, zI K 645 (fun _ => 0))] := hD
  refine z_putF hx hb hg hown hK hP hD hS i_X9 rfl tyX9_ok nmX9 hin 0 rfl 3 (by decide) mt40 rfl rfl rfl rfl dX9_init_29 (fun gg11 H locs y12 hP hD hS => ?_)
  have hP : va_P K.1 classes [(a0, zO 7 6 gg11), (q1, zI K 645 (fun _ => 0)), (q4, zI K 645 (fun _ => 0)), (q7, zI K 645 (fun _ => 0)), (q10, zI K 645 (fun _ => 0))] H := hP
  have hD : va_D A [(a0, zO 7 6 gg11), (q1, zI K 645 (fun _ => 0)), (q4, zI K 645 (fun _ => 0)), (q7, zI K 645 (fun _ => 0)), (q10, zI K 645 (fun _ => 0))] := hD
  refine lv_aload_n hx hb dX9_init_32 rfl (lv_at hl 0 rfl) ?_
  refine lv_iconst (v := 3) hx hb dX9_init_33 (by decide) ?_
  refine lv_iload_n hx hb dX9_init_34 rfl (lv_at hl 1 rfl) ?_
  refine lv_imul hx hb dX9_init_35 ?_
  refine z_cst (v := 1935) (by decide +kernel) ?_
  refine z_newi hx hb (hg _ mt56) hK hP hD hS hA (N' := 1935) rfl (Nat.le_of_ble_eq_true rfl) 5 4515 rfl rfl (Nat.le_of_ble_eq_true rfl) (Nat.le_of_ble_eq_true rfl) dX9_init_36 (fun q13 H hP hD hS => ?_)
  have hP : va_P K.1 classes [(a0, zO 7 6 gg11), (q1, zI K 645 (fun _ => 0)), (q4, zI K 645 (fun _ => 0)), (q7, zI K 645 (fun _ => 0)), (q10, zI K 645 (fun _ => 0)), (q13, zI K 1935 (fun _ => 0))] H := hP
  have hD : va_D A [(a0, zO 7 6 gg11), (q1, zI K 645 (fun _ => 0)), (q4, zI K 645 (fun _ => 0)), (q7, zI K 645 (fun _ => 0)), (q10, zI K 645 (fun _ => 0)), (q13, zI K 1935 (fun _ => 0))] := hD
  refine z_putF hx hb hg hown hK hP hD hS i_X9 rfl tyX9_ok nmX9 hin 0 rfl 4 (by decide) mt41 rfl rfl rfl rfl dX9_init_38 (fun gg14 H locs y15 hP hD hS => ?_)
  have hP : va_P K.1 classes [(a0, zO 7 6 gg14), (q1, zI K 645 (fun _ => 0)), (q4, zI K 645 (fun _ => 0)), (q7, zI K 645 (fun _ => 0)), (q10, zI K 645 (fun _ => 0)), (q13, zI K 1935 (fun _ => 0))] H := hP
  have hD : va_D A [(a0, zO 7 6 gg14), (q1, zI K 645 (fun _ => 0)), (q4, zI K 645 (fun _ => 0)), (q7, zI K 645 (fun _ => 0)), (q10, zI K 645 (fun _ => 0)), (q13, zI K 1935 (fun _ => 0))] := hD
  refine lv_aload_n hx hb dX9_init_41 rfl (lv_at hl 0 rfl) ?_
  refine lv_iconst (v := 0) hx hb dX9_init_42 (by decide) ?_
  refine z_put hx hb hg hown hK hP hD hS i_X9 rfl tyX9_ok nmX9 0 rfl 5 (by decide) mt42 rfl rfl rfl dX9_init_43 (fun gg16 H locs y17 hP hD hS => ?_)
  have hP : va_P K.1 classes [(a0, zO 7 6 gg16), (q1, zI K 645 (fun _ => 0)), (q4, zI K 645 (fun _ => 0)), (q7, zI K 645 (fun _ => 0)), (q10, zI K 645 (fun _ => 0)), (q13, zI K 1935 (fun _ => 0))] H := hP
  have hD : va_D A [(a0, zO 7 6 gg16), (q1, zI K 645 (fun _ => 0)), (q4, zI K 645 (fun _ => 0)), (q7, zI K 645 (fun _ => 0)), (q10, zI K 645 (fun _ => 0)), (q13, zI K 1935 (fun _ => 0))] := hD
  subst y17
  subst y15
  subst y12
  subst y9
  subst y6
  subst y3
  have hP9 : va_P K.1 classes [(a0, zO 7 6 (va_up (va_up (va_up (va_up (va_up (va_up g0 0 (.ref q1)) 1 (.ref q4)) 2 (.ref q7)) 3 (.ref q10)) 4 (.ref q13)) 5 (.int 0))), (q1, zI K 645 (fun _ => 0)), (q4, zI K 645 (fun _ => 0)), (q7, zI K 645 (fun _ => 0)), (q10, zI K 645 (fun _ => 0)), (q13, zI K 1935 (fun _ => 0))] H := hP.sub [0, 1, 2, 3, 4, 5] rfl
  have hD9 : va_D A [(a0, zO 7 6 (va_up (va_up (va_up (va_up (va_up (va_up g0 0 (.ref q1)) 1 (.ref q4)) 2 (.ref q7)) 3 (.ref q10)) 4 (.ref q13)) 5 (.int 0))), (q1, zI K 645 (fun _ => 0)), (q4, zI K 645 (fun _ => 0)), (q7, zI K 645 (fun _ => 0)), (q10, zI K 645 (fun _ => 0)), (q13, zI K 1935 (fun _ => 0))] := hD.sub [0, 1, 2, 3, 4, 5] (by decide) rfl
  exact z_vret hx hb hr (fun k => ([q1, q4, q7, q10, q13] : List Nat).getD k 0) trivial hP9 hD9 hS (Nat.le_of_ble_eq_true rfl) (Nat.le_of_ble_eq_true rfl) hlocks dX9_init_46
set_option maxHeartbeats 4000000 in
set_option maxRecDepth 100000 in
theorem cX9_reserve_1 (l : Launch) (K : zK) (sz : Nat) (a0 : Nat) (a1 : Nat) (g0 : Nat → Value) (f1 : Nat → Int32) (e0 : g0 0 = (.ref a1)) (e1 : g0 5 = (.int 0)) : Met l yX9_reserve (Cond.code yX9_reserve cX9_reserve 3 (some .int) :: WG) { frames := 0, cells := 0, slots := 0, locals := 0 } (zPre K [(a0, zO 7 6 g0), (a1, zI K 645 f1)] sz [.ref a0, .int 645]) (va_Qi (fun (r : Int32) (_ : Nat → Nat) => r = 0) (zB K (va_A [(a0, zO 7 6 g0), (a1, zI K 645 f1)] sz) (fun u : Nat → Nat => [(a0, zO 7 6 (va_up g0 5 (.int 645))), (a1, zI K 645 f1)])) (va_A [(a0, zO 7 6 g0), (a1, zI K 645 f1)] sz)) 0 0 (va_A [(a0, zO 7 6 g0), (a1, zI K 645 f1)] sz) := by
  refine z_met (Qc := fun A => (va_Qi (fun (r : Int32) (_ : Nat → Nat) => r = 0) (zB K A (fun u : Nat → Nat => [(a0, zO 7 6 (va_up g0 5 (.int 645))), (a1, zI K 645 f1)])) A)) (by decide +kernel) (Nat.le_of_ble_eq_true rfl) ?_
  intro p e s m args below meth c A ls H hx hb hr hg hown hlocks hml hin hK hP hD hA hS hZ hl
  have hown : s.vm.findClass RX9 = some m.cls := hown
  have hl : lv_has ls 3 [(0, .ref a0), (1, .int 645)] := hl
  refine lv_iload_n hx hb dX9_reserve_0 rfl (lv_at hl 1 rfl) ?_
  refine lv_if_lt (tgt := 18) hx hb dX9_reserve_1 (by decide) (fun c => absurd c (by decide)) (fun _ => ?_)
  refine lv_iload_n hx hb dX9_reserve_4 rfl (lv_at hl 1 rfl) ?_
  refine lv_aload_n hx hb dX9_reserve_5 rfl (lv_at hl 0 rfl) ?_
  refine z_get (v := .ref a1) hx hb hg hown hK hP i_X9 rfl 0 rfl 0 (by decide) mt37 e0 dX9_reserve_6 ?_
  refine z_leni (v := 645) hx hb hK hP 1 rfl (by decide +kernel) dX9_reserve_9 ?_
  refine lv_aload_n hx hb dX9_reserve_10 rfl (lv_at hl 0 rfl) ?_
  refine z_get (v := .int 0) hx hb hg hown hK hP i_X9 rfl 0 rfl 5 (by decide) mt42 e1 dX9_reserve_11 ?_
  refine lv_isub hx hb dX9_reserve_14 ?_
  refine z_cst (v := 645) (by decide +kernel) ?_
  refine lv_icmp_le (tgt := 20) hx hb dX9_reserve_15 (by decide) (fun _ => ?_) (fun c => absurd (by decide) c)
  refine lv_aload_n hx hb dX9_reserve_20 rfl (lv_at hl 0 rfl) ?_
  refine z_get (v := .int 0) hx hb hg hown hK hP i_X9 rfl 0 rfl 5 (by decide) mt42 e1 dX9_reserve_21 ?_
  refine lv_istore_n (lv' := [(2, .int 0), (0, .ref a0), (1, .int 645)]) hx hb dX9_reserve_24 rfl hl (by decide) rfl (fun ls hl => ?_)
  refine lv_aload_n hx hb dX9_reserve_25 rfl (lv_at hl 1 rfl) ?_
  refine lv_dup hx hb dX9_reserve_26 rfl ?_
  refine z_get (v := .int 0) hx hb hg hown hK hP i_X9 rfl 0 rfl 5 (by decide) mt42 e1 dX9_reserve_27 ?_
  refine lv_iload_n hx hb dX9_reserve_30 rfl (lv_at hl 2 rfl) ?_
  refine lv_iadd hx hb dX9_reserve_31 ?_
  refine z_cst (v := 645) (by decide +kernel) ?_
  refine z_put hx hb hg hown hK hP hD hS i_X9 rfl tyX9_ok nmX9 0 rfl 5 (by decide) mt42 rfl rfl rfl dX9_reserve_32 (fun gg1 H locs y2 hP hD hS => ?_)
  have hP : va_P K.1 classes [(a0, zO 7 6 gg1), (a1, zI K 645 f1)] H := hP
  have hD : va_D A [(a0, zO 7 6 gg1), (a1, zI K 645 f1)] := hD
  refine lv_iload_n hx hb dX9_reserve_35 rfl (lv_at hl 0 rfl) ?_
  subst y2
  have hP9 : va_P K.1 classes [(a0, zO 7 6 (va_up g0 5 (.int 645))), (a1, zI K 645 f1)] H := hP.sub [0, 1] rfl
  have hD9 : va_D A [(a0, zO 7 6 (va_up g0 5 (.int 645))), (a1, zI K 645 f1)] := hD.sub [0, 1] (by decide) rfl
  exact z_iret hx hb hr (fun _ => 0) rfl hP9 hD9 hS (Nat.le_of_ble_eq_true rfl) (Nat.le_of_ble_eq_true rfl) hlocks dX9_reserve_36
set_option maxHeartbeats 4000000 in
set_option maxRecDepth 100000 in
theorem cX5_init_1 (l : Launch) (K : zK) (sz : Nat) (a0 : Nat) (g0 : Nat → Value) : Met l yX5_init (Cond.code yX5_init cX5_init 1 none :: WG) { frames := 2, cells := 11, slots := 5025, locals := 33 } (zPre K [(a0, zO 4 6 g0)] sz [.ref a0]) (va_Qv (fun _ : Nat → Nat => True) (zB K (va_A [(a0, zO 4 6 g0)] sz) (fun u : Nat → Nat => [(a0, zO 4 6 (va_up (va_up (va_up (va_up (va_up (va_up g0 0 (.ref (u 0))) 1 (.ref (u 6))) 2 (.ref (u 7))) 3 (.ref (u 8))) 4 (.ref (u 9))) 5 (.ref (u 10)))), ((u 0), zO 7 6 (va_up (va_up (va_up (va_up (va_up (va_up (va_up (fun k => defaultValue (tyX9 k)) 0 (.ref (u 1))) 1 (.ref (u 2))) 2 (.ref (u 3))) 3 (.ref (u 4))) 4 (.ref (u 5))) 5 (.int 0)) 5 (.int 645))), ((u 1), zI K 645 (fun _ => 0)), ((u 2), zI K 645 (fun _ => 0)), ((u 3), zI K 645 (fun _ => 0)), ((u 4), zI K 645 (fun _ => 0)), ((u 5), zI K 1935 (fun _ => 0)), ((u 6), zI K 8 (fun _ => 0)), ((u 7), zI K 8 (fun _ => 0)), ((u 8), zJ K 8 (fun _ => 0)), ((u 9), zI K 240 (fun _ => 0)), ((u 10), zI K 240 (fun _ => 0))])) (va_A [(a0, zO 4 6 g0)] sz)) 11 5025 (va_A [(a0, zO 4 6 g0)] sz) := by
  refine z_met (Qc := fun A => (va_Qv (fun _ : Nat → Nat => True) (zB K A (fun u : Nat → Nat => [(a0, zO 4 6 (va_up (va_up (va_up (va_up (va_up (va_up g0 0 (.ref (u 0))) 1 (.ref (u 6))) 2 (.ref (u 7))) 3 (.ref (u 8))) 4 (.ref (u 9))) 5 (.ref (u 10)))), ((u 0), zO 7 6 (va_up (va_up (va_up (va_up (va_up (va_up (va_up (fun k => defaultValue (tyX9 k)) 0 (.ref (u 1))) 1 (.ref (u 2))) 2 (.ref (u 3))) 3 (.ref (u 4))) 4 (.ref (u 5))) 5 (.int 0)) 5 (.int 645))), ((u 1), zI K 645 (fun _ => 0)), ((u 2), zI K 645 (fun _ => 0)), ((u 3), zI K 645 (fun _ => 0)), ((u 4), zI K 645 (fun _ => 0)), ((u 5), zI K 1935 (fun _ => 0)), ((u 6), zI K 8 (fun _ => 0)), ((u 7), zI K 8 (fun _ => 0)), ((u 8), zJ K 8 (fun _ => 0)), ((u 9), zI K 240 (fun _ => 0)), ((u 10), zI K 240 (fun _ => 0))])) A)) (by decide +kernel) (Nat.le_of_ble_eq_true rfl) ?_
  intro p e s m args below meth c A ls H hx hb hr hg hown hlocks hml hin hK hP hD hA hS hZ hl
  have hown : s.vm.findClass RX5 = some m.cls := hown
  have hl : lv_has ls 1 [(0, .ref a0)] := hl
  refine lv_aload_n hx hb dX5_init_0 rfl (lv_at hl 0 rfl) ?_
  refine W.objInit hx hb hown (hg _ mt62) (hg _ mt29) (hg _ mt30o) rfl (by rw [hml]; exact hl.1) rfl dX5_init_1 (Nat.le_of_ble_eq_true rfl) (Nat.le_of_ble_eq_true rfl) ?_
  refine W.eq (g2 := F0 m 4 ls []) rfl ?_
  refine lv_aload_n hx hb dX5_init_4 rfl (lv_at hl 0 rfl) ?_
  refine z_new (ci := 7) hx hb hg hown hK hP hD hS hA i_X9 rfl tyX9_ok mt63 mt32 mt2 1 6 rfl rfl (Nat.le_of_ble_eq_true rfl) (Nat.le_of_ble_eq_true rfl) dX5_init_5 (fun q1 H hP hD hS => ?_)
  have hP : va_P K.1 classes [(a0, zO 4 6 g0), (q1, zO 7 6 (fun k => defaultValue (tyX9 k)))] H := hP
  have hD : va_D A [(a0, zO 4 6 g0), (q1, zO 7 6 (fun k => defaultValue (tyX9 k)))] := hD
  refine lv_dup hx hb dX5_init_8 rfl ?_
  refine lv_sipush (v := 645) hx hb dX5_init_9 (by decide) ?_
  refine z_callv [(q1, zO 7 6 (fun k => defaultValue (tyX9 k)))] [(a0, zO 4 6 g0)] [1] [0] hP hD hS hA rfl rfl (by decide) (by decide) (by decide +kernel) 6 4521 rfl rfl (fun hPc hDc hF => z_runI (As := [.int 645]) (rest := [.ref q1, .ref a0]) ⟨hx, hb, hml, hown, hg⟩ (cX9_init_2 l K H.size q1 (fun k => defaultValue (tyX9 k))) mt35 mt2 mt64 mt34 rfl hd_X9_init rfl rfl ⟨(Nat.le_of_ble_eq_true rfl), (Nat.le_of_ble_eq_true rfl)⟩ hK hS hZ hPc hDc hF rfl hl.1 rfl (Nat.le_of_ble_eq_true rfl) dX5_init_12 ⟨(Nat.le_of_ble_eq_true rfl), (Nat.le_of_ble_eq_true rfl)⟩) (fun u2 H locs w3 hP hD hS => ?_)
  have hP : va_P K.1 classes [(a0, zO 4 6 g0), (q1, zO 7 6 (va_up (va_up (va_up (va_up (va_up (va_up (fun k => defaultValue (tyX9 k)) 0 (.ref (u2 0))) 1 (.ref (u2 1))) 2 (.ref (u2 2))) 3 (.ref (u2 3))) 4 (.ref (u2 4))) 5 (.int 0))), ((u2 0), zI K 645 (fun _ => 0)), ((u2 1), zI K 645 (fun _ => 0)), ((u2 2), zI K 645 (fun _ => 0)), ((u2 3), zI K 645 (fun _ => 0)), ((u2 4), zI K 1935 (fun _ => 0))] H := hP
  have hD : va_D A [(a0, zO 4 6 g0), (q1, zO 7 6 (va_up (va_up (va_up (va_up (va_up (va_up (fun k => defaultValue (tyX9 k)) 0 (.ref (u2 0))) 1 (.ref (u2 1))) 2 (.ref (u2 2))) 3 (.ref (u2 3))) 4 (.ref (u2 4))) 5 (.int 0))), ((u2 0), zI K 645 (fun _ => 0)), ((u2 1), zI K 645 (fun _ => 0)), ((u2 2), zI K 645 (fun _ => 0)), ((u2 3), zI K 645 (fun _ => 0)), ((u2 4), zI K 1935 (fun _ => 0))] := hD
  obtain ⟨gg5, y6⟩ : ∃ z, z = ((va_up (va_up (va_up (va_up (va_up (va_up (fun k => defaultValue (tyX9 k)) 0 (.ref (u2 0))) 1 (.ref (u2 1))) 2 (.ref (u2 2))) 3 (.ref (u2 3))) 4 (.ref (u2 4))) 5 (.int 0)) : Nat → Value) := ⟨_, rfl⟩
  rw [← y6] at hP hD
  refine z_putF hx hb hg hown hK hP hD hS i_X5 rfl tyX5_ok nmX5 hin 0 rfl 0 (by decide) mt69 rfl rfl rfl rfl dX5_init_15 (fun gg7 H locs y8 hP hD hS => ?_)
  have hP : va_P K.1 classes [(a0, zO 4 6 gg7), (q1, zO 7 6 gg5), ((u2 0), zI K 645 (fun _ => 0)), ((u2 1), zI K 645 (fun _ => 0)), ((u2 2), zI K 645 (fun _ => 0)), ((u2 3), zI K 645 (fun _ => 0)), ((u2 4), zI K 1935 (fun _ => 0))] H := hP
  have hD : va_D A [(a0, zO 4 6 gg7), (q1, zO 7 6 gg5), ((u2 0), zI K 645 (fun _ => 0)), ((u2 1), zI K 645 (fun _ => 0)), ((u2 2), zI K 645 (fun _ => 0)), ((u2 3), zI K 645 (fun _ => 0)), ((u2 4), zI K 1935 (fun _ => 0))] := hD
  refine lv_aload_n hx hb dX5_init_18 rfl (lv_at hl 0 rfl) ?_
  refine z_get (v := .ref q1) hx hb hg hown hK hP i_X5 rfl 0 rfl 0 (by decide) mt69 (zu_of y8 zu_eq) dX5_init_19 ?_
  refine lv_sipush (v := 645) hx hb dX5_init_22 (by decide) ?_
  refine z_calli [(q1, zO 7 6 gg5), ((u2 0), zI K 645 (fun _ => 0))] [(a0, zO 4 6 gg7), ((u2 1), zI K 645 (fun _ => 0)), ((u2 2), zI K 645 (fun _ => 0)), ((u2 3), zI K 645 (fun _ => 0)), ((u2 4), zI K 1935 (fun _ => 0))] [1, 2] [0, 3, 4, 5, 6] hP hD hS hA rfl rfl (by decide) (by decide) (by decide +kernel) 6 4521 rfl rfl (fun hPc hDc hF => z_runV (As := [.int 645]) (rest := []) ⟨hx, hb, hml, hown, hg⟩ (cX9_reserve_1 l K H.size q1 (u2 0) gg5 (fun _ => 0) (zu_of y6 (zu_ne (by decide) (zu_ne (by decide) (zu_ne (by decide) (zu_ne (by decide) (zu_ne (by decide) zu_eq)))))) (zu_of y6 zu_eq)) kV_RX5_20 hd_X9_reserve rfl rfl ⟨(Nat.le_of_ble_eq_true rfl), (Nat.le_of_ble_eq_true rfl)⟩ hK hS hZ hPc hDc hF 0 rfl rfl rfl hl.1 rfl (Nat.le_of_ble_eq_true rfl) dX5_init_25 ⟨(Nat.le_of_ble_eq_true rfl), (Nat.le_of_ble_eq_true rfl)⟩) (fun r11 u9 H locs w10 hP hD hS => ?_)
  subst w10
  have hP : va_P K.1 classes [(a0, zO 4 6 gg7), ((u2 1), zI K 645 (fun _ => 0)), ((u2 2), zI K 645 (fun _ => 0)), ((u2 3), zI K 645 (fun _ => 0)), ((u2 4), zI K 1935 (fun _ => 0)), (q1, zO 7 6 (va_up gg5 5 (.int 645))), ((u2 0), zI K 645 (fun _ => 0))] H := hP
  have hD : va_D A [(a0, zO 4 6 gg7), ((u2 1), zI K 645 (fun _ => 0)), ((u2 2), zI K 645 (fun _ => 0)), ((u2 3), zI K 645 (fun _ => 0)), ((u2 4), zI K 1935 (fun _ => 0)), (q1, zO 7 6 (va_up gg5 5 (.int 645))), ((u2 0), zI K 645 (fun _ => 0))] := hD
  refine lv_pop hx hb dX5_init_28 rfl ?_
  refine lv_aload_n hx hb dX5_init_29 rfl (lv_at hl 0 rfl) ?_
  refine lv_bipush (v := 8) hx hb dX5_init_30 (by decide) ?_
  refine z_newi hx hb (hg _ mt56) hK hP hD hS hA (N' := 8) rfl (Nat.le_of_ble_eq_true rfl) 7 4529 rfl rfl (Nat.le_of_ble_eq_true rfl) (Nat.le_of_ble_eq_true rfl) dX5_init_32 (fun q12 H hP hD hS => ?_)
  have hP : va_P K.1 classes [(a0, zO 4 6 gg7), ((u2 1), zI K 645 (fun _ => 0)), ((u2 2), zI K 645 (fun _ => 0)), ((u2 3), zI K 645 (fun _ => 0)), ((u2 4), zI K 1935 (fun _ => 0)), (q1, zO 7 6 (va_up gg5 5 (.int 645))), ((u2 0), zI K 645 (fun _ => 0)), (q12, zI K 8 (fun _ => 0))] H := hP
  have hD : va_D A [(a0, zO 4 6 gg7), ((u2 1), zI K 645 (fun _ => 0)), ((u2 2), zI K 645 (fun _ => 0)), ((u2 3), zI K 645 (fun _ => 0)), ((u2 4), zI K 1935 (fun _ => 0)), (q1, zO 7 6 (va_up gg5 5 (.int 645))), ((u2 0), zI K 645 (fun _ => 0)), (q12, zI K 8 (fun _ => 0))] := hD
  refine z_putF hx hb hg hown hK hP hD hS i_X5 rfl tyX5_ok nmX5 hin 0 rfl 1 (by decide) mt74 rfl rfl rfl rfl dX5_init_34 (fun gg13 H locs y14 hP hD hS => ?_)
  have hP : va_P K.1 classes [(a0, zO 4 6 gg13), ((u2 1), zI K 645 (fun _ => 0)), ((u2 2), zI K 645 (fun _ => 0)), ((u2 3), zI K 645 (fun _ => 0)), ((u2 4), zI K 1935 (fun _ => 0)), (q1, zO 7 6 (va_up gg5 5 (.int 645))), ((u2 0), zI K 645 (fun _ => 0)), (q12, zI K 8 (fun _ => 0))] H := hP
  have hD : va_D A [(a0, zO 4 6 gg13), ((u2 1), zI K 645 (fun _ => 0)), ((u2 2), zI K 645 (fun _ => 0)), ((u2 3), zI K 645 (fun _ => 0)), ((u2 4), zI K 1935 (fun _ => 0)), (q1, zO 7 6 (va_up gg5 5 (.int 645))), ((u2 0), zI K 645 (fun _ => 0)), (q12, zI K 8 (fun _ => 0))] := hD
  refine lv_aload_n hx hb dX5_init_37 rfl (lv_at hl 0 rfl) ?_
  refine lv_bipush (v := 8) hx hb dX5_init_38 (by decide) ?_
  refine z_newi hx hb (hg _ mt56) hK hP hD hS hA (N' := 8) rfl (Nat.le_of_ble_eq_true rfl) 8 4537 rfl rfl (Nat.le_of_ble_eq_true rfl) (Nat.le_of_ble_eq_true rfl) dX5_init_40 (fun q15 H hP hD hS => ?_)
  have hP : va_P K.1 classes [(a0, zO 4 6 gg13), ((u2 1), zI K 645 (fun _ => 0)), ((u2 2), zI K 645 (fun _ => 0)), ((u2 3), zI K 645 (fun _ => 0)), ((u2 4), zI K 1935 (fun _ => 0)), (q1, zO 7 6 (va_up gg5 5 (.int 645))), ((u2 0), zI K 645 (fun _ => 0)), (q12, zI K 8 (fun _ => 0)), (q15, zI K 8 (fun _ => 0))] H := hP
  have hD : va_D A [(a0, zO 4 6 gg13), ((u2 1), zI K 645 (fun _ => 0)), ((u2 2), zI K 645 (fun _ => 0)), ((u2 3), zI K 645 (fun _ => 0)), ((u2 4), zI K 1935 (fun _ => 0)), (q1, zO 7 6 (va_up gg5 5 (.int 645))), ((u2 0), zI K 645 (fun _ => 0)), (q12, zI K 8 (fun _ => 0)), (q15, zI K 8 (fun _ => 0))] := hD
  refine z_putF hx hb hg hown hK hP hD hS i_X5 rfl tyX5_ok nmX5 hin 0 rfl 2 (by decide) mt75 rfl rfl rfl rfl dX5_init_42 (fun gg16 H locs y17 hP hD hS => ?_)
  have hP : va_P K.1 classes [(a0, zO 4 6 gg16), ((u2 1), zI K 645 (fun _ => 0)), ((u2 2), zI K 645 (fun _ => 0)), ((u2 3), zI K 645 (fun _ => 0)), ((u2 4), zI K 1935 (fun _ => 0)), (q1, zO 7 6 (va_up gg5 5 (.int 645))), ((u2 0), zI K 645 (fun _ => 0)), (q12, zI K 8 (fun _ => 0)), (q15, zI K 8 (fun _ => 0))] H := hP
  have hD : va_D A [(a0, zO 4 6 gg16), ((u2 1), zI K 645 (fun _ => 0)), ((u2 2), zI K 645 (fun _ => 0)), ((u2 3), zI K 645 (fun _ => 0)), ((u2 4), zI K 1935 (fun _ => 0)), (q1, zO 7 6 (va_up gg5 5 (.int 645))), ((u2 0), zI K 645 (fun _ => 0)), (q12, zI K 8 (fun _ => 0)), (q15, zI K 8 (fun _ => 0))] := hD
  refine lv_aload_n hx hb dX5_init_45 rfl (lv_at hl 0 rfl) ?_
  refine lv_bipush (v := 8) hx hb dX5_init_46 (by decide) ?_
  refine z_newj hx hb (hg _ mt92) hK hP hD hS hA (N' := 8) rfl (Nat.le_of_ble_eq_true rfl) 9 4545 rfl rfl (Nat.le_of_ble_eq_true rfl) (Nat.le_of_ble_eq_true rfl) dX5_init_48 (fun q18 H hP hD hS => ?_)
  have hP : va_P K.1 classes [(a0, zO 4 6 gg16), ((u2 1), zI K 645 (fun _ => 0)), ((u2 2), zI K 645 (fun _ => 0)), ((u2 3), zI K 645 (fun _ => 0)), ((u2 4), zI K 1935 (fun _ => 0)), (q1, zO 7 6 (va_up gg5 5 (.int 645))), ((u2 0), zI K 645 (fun _ => 0)), (q12, zI K 8 (fun _ => 0)), (q15, zI K 8 (fun _ => 0)), (q18, zJ K 8 (fun _ => 0))] H := hP
  have hD : va_D A [(a0, zO 4 6 gg16), ((u2 1), zI K 645 (fun _ => 0)), ((u2 2), zI K 645 (fun _ => 0)), ((u2 3), zI K 645 (fun _ => 0)), ((u2 4), zI K 1935 (fun _ => 0)), (q1, zO 7 6 (va_up gg5 5 (.int 645))), ((u2 0), zI K 645 (fun _ => 0)), (q12, zI K 8 (fun _ => 0)), (q15, zI K 8 (fun _ => 0)), (q18, zJ K 8 (fun _ => 0))] := hD
  refine z_putF hx hb hg hown hK hP hD hS i_X5 rfl tyX5_ok nmX5 hin 0 rfl 3 (by decide) mt76 rfl rfl rfl rfl dX5_init_50 (fun gg19 H locs y20 hP hD hS => ?_)
  have hP : va_P K.1 classes [(a0, zO 4 6 gg19), ((u2 1), zI K 645 (fun _ => 0)), ((u2 2), zI K 645 (fun _ => 0)), ((u2 3), zI K 645 (fun _ => 0)), ((u2 4), zI K 1935 (fun _ => 0)), (q1, zO 7 6 (va_up gg5 5 (.int 645))), ((u2 0), zI K 645 (fun _ => 0)), (q12, zI K 8 (fun _ => 0)), (q15, zI K 8 (fun _ => 0)), (q18, zJ K 8 (fun _ => 0))] H := hP
  have hD : va_D A [(a0, zO 4 6 gg19), ((u2 1), zI K 645 (fun _ => 0)), ((u2 2), zI K 645 (fun _ => 0)), ((u2 3), zI K 645 (fun _ => 0)), ((u2 4), zI K 1935 (fun _ => 0)), (q1, zO 7 6 (va_up gg5 5 (.int 645))), ((u2 0), zI K 645 (fun _ => 0)), (q12, zI K 8 (fun _ => 0)), (q15, zI K 8 (fun _ => 0)), (q18, zJ K 8 (fun _ => 0))] := hD
  refine lv_aload_n hx hb dX5_init_53 rfl (lv_at hl 0 rfl) ?_
  refine lv_sipush (v := 240) hx hb dX5_init_54 (by decide) ?_
  refine z_newi hx hb (hg _ mt56) hK hP hD hS hA (N' := 240) rfl (Nat.le_of_ble_eq_true rfl) 10 4785 rfl rfl (Nat.le_of_ble_eq_true rfl) (Nat.le_of_ble_eq_true rfl) dX5_init_57 (fun q21 H hP hD hS => ?_)
  have hP : va_P K.1 classes [(a0, zO 4 6 gg19), ((u2 1), zI K 645 (fun _ => 0)), ((u2 2), zI K 645 (fun _ => 0)), ((u2 3), zI K 645 (fun _ => 0)), ((u2 4), zI K 1935 (fun _ => 0)), (q1, zO 7 6 (va_up gg5 5 (.int 645))), ((u2 0), zI K 645 (fun _ => 0)), (q12, zI K 8 (fun _ => 0)), (q15, zI K 8 (fun _ => 0)), (q18, zJ K 8 (fun _ => 0)), (q21, zI K 240 (fun _ => 0))] H := hP
  have hD : va_D A [(a0, zO 4 6 gg19), ((u2 1), zI K 645 (fun _ => 0)), ((u2 2), zI K 645 (fun _ => 0)), ((u2 3), zI K 645 (fun _ => 0)), ((u2 4), zI K 1935 (fun _ => 0)), (q1, zO 7 6 (va_up gg5 5 (.int 645))), ((u2 0), zI K 645 (fun _ => 0)), (q12, zI K 8 (fun _ => 0)), (q15, zI K 8 (fun _ => 0)), (q18, zJ K 8 (fun _ => 0)), (q21, zI K 240 (fun _ => 0))] := hD
  refine z_putF hx hb hg hown hK hP hD hS i_X5 rfl tyX5_ok nmX5 hin 0 rfl 4 (by decide) mt77 rfl rfl rfl rfl dX5_init_59 (fun gg22 H locs y23 hP hD hS => ?_)
  have hP : va_P K.1 classes [(a0, zO 4 6 gg22), ((u2 1), zI K 645 (fun _ => 0)), ((u2 2), zI K 645 (fun _ => 0)), ((u2 3), zI K 645 (fun _ => 0)), ((u2 4), zI K 1935 (fun _ => 0)), (q1, zO 7 6 (va_up gg5 5 (.int 645))), ((u2 0), zI K 645 (fun _ => 0)), (q12, zI K 8 (fun _ => 0)), (q15, zI K 8 (fun _ => 0)), (q18, zJ K 8 (fun _ => 0)), (q21, zI K 240 (fun _ => 0))] H := hP
  have hD : va_D A [(a0, zO 4 6 gg22), ((u2 1), zI K 645 (fun _ => 0)), ((u2 2), zI K 645 (fun _ => 0)), ((u2 3), zI K 645 (fun _ => 0)), ((u2 4), zI K 1935 (fun _ => 0)), (q1, zO 7 6 (va_up gg5 5 (.int 645))), ((u2 0), zI K 645 (fun _ => 0)), (q12, zI K 8 (fun _ => 0)), (q15, zI K 8 (fun _ => 0)), (q18, zJ K 8 (fun _ => 0)), (q21, zI K 240 (fun _ => 0))] := hD
  refine lv_aload_n hx hb dX5_init_62 rfl (lv_at hl 0 rfl) ?_
  refine lv_sipush (v := 240) hx hb dX5_init_63 (by decide) ?_
  refine z_newi hx hb (hg _ mt56) hK hP hD hS hA (N' := 240) rfl (Nat.le_of_ble_eq_true rfl) 11 5025 rfl rfl (Nat.le_of_ble_eq_true rfl) (Nat.le_of_ble_eq_true rfl) dX5_init_66 (fun q24 H hP hD hS => ?_)
  have hP : va_P K.1 classes [(a0, zO 4 6 gg22), ((u2 1), zI K 645 (fun _ => 0)), ((u2 2), zI K 645 (fun _ => 0)), ((u2 3), zI K 645 (fun _ => 0)), ((u2 4), zI K 1935 (fun _ => 0)), (q1, zO 7 6 (va_up gg5 5 (.int 645))), ((u2 0), zI K 645 (fun _ => 0)), (q12, zI K 8 (fun _ => 0)), (q15, zI K 8 (fun _ => 0)), (q18, zJ K 8 (fun _ => 0)), (q21, zI K 240 (fun _ => 0)), (q24, zI K 240 (fun _ => 0))] H := hP
  have hD : va_D A [(a0, zO 4 6 gg22), ((u2 1), zI K 645 (fun _ => 0)), ((u2 2), zI K 645 (fun _ => 0)), ((u2 3), zI K 645 (fun _ => 0)), ((u2 4), zI K 1935 (fun _ => 0)), (q1, zO 7 6 (va_up gg5 5 (.int 645))), ((u2 0), zI K 645 (fun _ => 0)), (q12, zI K 8 (fun _ => 0)), (q15, zI K 8 (fun _ => 0)), (q18, zJ K 8 (fun _ => 0)), (q21, zI K 240 (fun _ => 0)), (q24, zI K 240 (fun _ => 0))] := hD
  refine z_putF hx hb hg hown hK hP hD hS i_X5 rfl tyX5_ok nmX5 hin 0 rfl 5 (by decide) mt78 rfl rfl rfl rfl dX5_init_68 (fun gg25 H locs y26 hP hD hS => ?_)
  have hP : va_P K.1 classes [(a0, zO 4 6 gg25), ((u2 1), zI K 645 (fun _ => 0)), ((u2 2), zI K 645 (fun _ => 0)), ((u2 3), zI K 645 (fun _ => 0)), ((u2 4), zI K 1935 (fun _ => 0)), (q1, zO 7 6 (va_up gg5 5 (.int 645))), ((u2 0), zI K 645 (fun _ => 0)), (q12, zI K 8 (fun _ => 0)), (q15, zI K 8 (fun _ => 0)), (q18, zJ K 8 (fun _ => 0)), (q21, zI K 240 (fun _ => 0)), (q24, zI K 240 (fun _ => 0))] H := hP
  have hD : va_D A [(a0, zO 4 6 gg25), ((u2 1), zI K 645 (fun _ => 0)), ((u2 2), zI K 645 (fun _ => 0)), ((u2 3), zI K 645 (fun _ => 0)), ((u2 4), zI K 1935 (fun _ => 0)), (q1, zO 7 6 (va_up gg5 5 (.int 645))), ((u2 0), zI K 645 (fun _ => 0)), (q12, zI K 8 (fun _ => 0)), (q15, zI K 8 (fun _ => 0)), (q18, zJ K 8 (fun _ => 0)), (q21, zI K 240 (fun _ => 0)), (q24, zI K 240 (fun _ => 0))] := hD
  subst y26
  subst y23
  subst y20
  subst y17
  subst y14
  subst y8
  subst y6
  have hP9 : va_P K.1 classes [(a0, zO 4 6 (va_up (va_up (va_up (va_up (va_up (va_up g0 0 (.ref q1)) 1 (.ref q12)) 2 (.ref q15)) 3 (.ref q18)) 4 (.ref q21)) 5 (.ref q24))), (q1, zO 7 6 (va_up (va_up (va_up (va_up (va_up (va_up (va_up (fun k => defaultValue (tyX9 k)) 0 (.ref (u2 0))) 1 (.ref (u2 1))) 2 (.ref (u2 2))) 3 (.ref (u2 3))) 4 (.ref (u2 4))) 5 (.int 0)) 5 (.int 645))), ((u2 0), zI K 645 (fun _ => 0)), ((u2 1), zI K 645 (fun _ => 0)), ((u2 2), zI K 645 (fun _ => 0)), ((u2 3), zI K 645 (fun _ => 0)), ((u2 4), zI K 1935 (fun _ => 0)), (q12, zI K 8 (fun _ => 0)), (q15, zI K 8 (fun _ => 0)), (q18, zJ K 8 (fun _ => 0)), (q21, zI K 240 (fun _ => 0)), (q24, zI K 240 (fun _ => 0))] H := hP.sub [0, 5, 6, 1, 2, 3, 4, 7, 8, 9, 10, 11] rfl
  have hD9 : va_D A [(a0, zO 4 6 (va_up (va_up (va_up (va_up (va_up (va_up g0 0 (.ref q1)) 1 (.ref q12)) 2 (.ref q15)) 3 (.ref q18)) 4 (.ref q21)) 5 (.ref q24))), (q1, zO 7 6 (va_up (va_up (va_up (va_up (va_up (va_up (va_up (fun k => defaultValue (tyX9 k)) 0 (.ref (u2 0))) 1 (.ref (u2 1))) 2 (.ref (u2 2))) 3 (.ref (u2 3))) 4 (.ref (u2 4))) 5 (.int 0)) 5 (.int 645))), ((u2 0), zI K 645 (fun _ => 0)), ((u2 1), zI K 645 (fun _ => 0)), ((u2 2), zI K 645 (fun _ => 0)), ((u2 3), zI K 645 (fun _ => 0)), ((u2 4), zI K 1935 (fun _ => 0)), (q12, zI K 8 (fun _ => 0)), (q15, zI K 8 (fun _ => 0)), (q18, zJ K 8 (fun _ => 0)), (q21, zI K 240 (fun _ => 0)), (q24, zI K 240 (fun _ => 0))] := hD.sub [0, 5, 6, 1, 2, 3, 4, 7, 8, 9, 10, 11] (by decide) rfl
  exact z_vret hx hb hr (fun k => ([q1, (u2 0), (u2 1), (u2 2), (u2 3), (u2 4), q12, q15, q18, q21, q24] : List Nat).getD k 0) trivial hP9 hD9 hS (Nat.le_of_ble_eq_true rfl) (Nat.le_of_ble_eq_true rfl) hlocks dX5_init_71
set_option maxHeartbeats 4000000 in
set_option maxRecDepth 100000 in
theorem cX10_init_1 (l : Launch) (K : zK) (sz : Nat) (a0 : Nat) (a1 : Nat) (g0 : Nat → Value) : Met l yX10_init (Cond.code yX10_init cX10_init 2 none :: WG) { frames := 1, cells := 4, slots := 1600, locals := 12 } (zPre K [(a0, zO 8 6 g0)] sz [.ref a0, .ref a1]) (va_Qv (fun _ : Nat → Nat => True) (zB K (va_A [(a0, zO 8 6 g0)] sz) (fun u : Nat → Nat => [(a0, zO 8 6 (va_up (va_up (va_up (va_up (va_up (va_up g0 0 (.ref (u 0))) 1 (.ref (u 1))) 2 (.ref (u 2))) 3 (.ref (u 3))) 4 (.ref a1)) 5 (.int 0))), ((u 0), zI K 400 (fun _ => 0)), ((u 1), zI K 400 (fun _ => 0)), ((u 2), zZ K 400 (fun _ => 0)), ((u 3), zZ K 400 (fun _ => 0))])) (va_A [(a0, zO 8 6 g0)] sz)) 4 1600 (va_A [(a0, zO 8 6 g0)] sz) := by
  refine z_met (Qc := fun A => (va_Qv (fun _ : Nat → Nat => True) (zB K A (fun u : Nat → Nat => [(a0, zO 8 6 (va_up (va_up (va_up (va_up (va_up (va_up g0 0 (.ref (u 0))) 1 (.ref (u 1))) 2 (.ref (u 2))) 3 (.ref (u 3))) 4 (.ref a1)) 5 (.int 0))), ((u 0), zI K 400 (fun _ => 0)), ((u 1), zI K 400 (fun _ => 0)), ((u 2), zZ K 400 (fun _ => 0)), ((u 3), zZ K 400 (fun _ => 0))])) A)) (by decide +kernel) (Nat.le_of_ble_eq_true rfl) ?_
  intro p e s m args below meth c A ls H hx hb hr hg hown hlocks hml hin hK hP hD hA hS hZ hl
  have hown : s.vm.findClass RX10 = some m.cls := hown
  have hl : lv_has ls 2 [(0, .ref a0), (1, .ref a1)] := hl
  refine lv_aload_n hx hb dX10_init_0 rfl (lv_at hl 0 rfl) ?_
  refine W.objInit hx hb hown (hg _ mt104) (hg _ mt29) (hg _ mt30o) rfl (by rw [hml]; exact hl.1) rfl dX10_init_1 (Nat.le_of_ble_eq_true rfl) (Nat.le_of_ble_eq_true rfl) ?_
  refine W.eq (g2 := F0 m 4 ls []) rfl ?_
  refine lv_aload_n hx hb dX10_init_4 rfl (lv_at hl 0 rfl) ?_
  refine lv_sipush (v := 400) hx hb dX10_init_5 (by decide) ?_
  refine z_newi hx hb (hg _ mt56) hK hP hD hS hA (N' := 400) rfl (Nat.le_of_ble_eq_true rfl) 1 400 rfl rfl (Nat.le_of_ble_eq_true rfl) (Nat.le_of_ble_eq_true rfl) dX10_init_8 (fun q1 H hP hD hS => ?_)
  have hP : va_P K.1 classes [(a0, zO 8 6 g0), (q1, zI K 400 (fun _ => 0))] H := hP
  have hD : va_D A [(a0, zO 8 6 g0), (q1, zI K 400 (fun _ => 0))] := hD
  refine z_putF hx hb hg hown hK hP hD hS i_X10 rfl tyX10_ok nmX10 hin 0 rfl 0 (by decide) mt105 rfl rfl rfl rfl dX10_init_10 (fun gg2 H locs y3 hP hD hS => ?_)
  have hP : va_P K.1 classes [(a0, zO 8 6 gg2), (q1, zI K 400 (fun _ => 0))] H := hP
  have hD : va_D A [(a0, zO 8 6 gg2), (q1, zI K 400 (fun _ => 0))] := hD
  refine lv_aload_n hx hb dX10_init_13 rfl (lv_at hl 0 rfl) ?_
  refine lv_sipush (v := 400) hx hb dX10_init_14 (by decide) ?_
  refine z_newi hx hb (hg _ mt56) hK hP hD hS hA (N' := 400) rfl (Nat.le_of_ble_eq_true rfl) 2 800 rfl rfl (Nat.le_of_ble_eq_true rfl) (Nat.le_of_ble_eq_true rfl) dX10_init_17 (fun q4 H hP hD hS => ?_)
  have hP : va_P K.1 classes [(a0, zO 8 6 gg2), (q1, zI K 400 (fun _ => 0)), (q4, zI K 400 (fun _ => 0))] H := hP
  have hD : va_D A [(a0, zO 8 6 gg2), (q1, zI K 400 (fun _ => 0)), (q4, zI K 400 (fun _ => 0))] := hD
  refine z_putF hx hb hg hown hK hP hD hS i_X10 rfl tyX10_ok nmX10 hin 0 rfl 1 (by decide) mt106 rfl rfl rfl rfl dX10_init_19 (fun gg5 H locs y6 hP hD hS => ?_)
  have hP : va_P K.1 classes [(a0, zO 8 6 gg5), (q1, zI K 400 (fun _ => 0)), (q4, zI K 400 (fun _ => 0))] H := hP
  have hD : va_D A [(a0, zO 8 6 gg5), (q1, zI K 400 (fun _ => 0)), (q4, zI K 400 (fun _ => 0))] := hD
  refine lv_aload_n hx hb dX10_init_22 rfl (lv_at hl 0 rfl) ?_
  refine lv_sipush (v := 400) hx hb dX10_init_23 (by decide) ?_
  refine z_newz hx hb (hg _ mt124) hK hP hD hS hA (N' := 400) rfl (Nat.le_of_ble_eq_true rfl) 3 1200 rfl rfl (Nat.le_of_ble_eq_true rfl) (Nat.le_of_ble_eq_true rfl) dX10_init_26 (fun q7 H hP hD hS => ?_)
  have hP : va_P K.1 classes [(a0, zO 8 6 gg5), (q1, zI K 400 (fun _ => 0)), (q4, zI K 400 (fun _ => 0)), (q7, zZ K 400 (fun _ => 0))] H := hP
  have hD : va_D A [(a0, zO 8 6 gg5), (q1, zI K 400 (fun _ => 0)), (q4, zI K 400 (fun _ => 0)), (q7, zZ K 400 (fun _ => 0))] := hD
  refine z_putF hx hb hg hown hK hP hD hS i_X10 rfl tyX10_ok nmX10 hin 0 rfl 2 (by decide) mt107 rfl rfl rfl rfl dX10_init_28 (fun gg8 H locs y9 hP hD hS => ?_)
  have hP : va_P K.1 classes [(a0, zO 8 6 gg8), (q1, zI K 400 (fun _ => 0)), (q4, zI K 400 (fun _ => 0)), (q7, zZ K 400 (fun _ => 0))] H := hP
  have hD : va_D A [(a0, zO 8 6 gg8), (q1, zI K 400 (fun _ => 0)), (q4, zI K 400 (fun _ => 0)), (q7, zZ K 400 (fun _ => 0))] := hD
  refine lv_aload_n hx hb dX10_init_31 rfl (lv_at hl 0 rfl) ?_
  refine lv_sipush (v := 400) hx hb dX10_init_32 (by decide) ?_
  refine z_newz hx hb (hg _ mt124) hK hP hD hS hA (N' := 400) rfl (Nat.le_of_ble_eq_true rfl) 4 1600 rfl rfl (Nat.le_of_ble_eq_true rfl) (Nat.le_of_ble_eq_true rfl) dX10_init_35 (fun q10 H hP hD hS => ?_)
  have hP : va_P K.1 classes [(a0, zO 8 6 gg8), (q1, zI K 400 (fun _ => 0)), (q4, zI K 400 (fun _ => 0)), (q7, zZ K 400 (fun _ => 0)), (q10, zZ K 400 (fun _ => 0))] H := hP
  have hD : va_D A [(a0, zO 8 6 gg8), (q1, zI K 400 (fun _ => 0)), (q4, zI K 400 (fun _ => 0)), (q7, zZ K 400 (fun _ => 0)), (q10, zZ K 400 (fun _ => 0))] := hD
  refine z_putF hx hb hg hown hK hP hD hS i_X10 rfl tyX10_ok nmX10 hin 0 rfl 3 (by decide) mt108 rfl rfl rfl rfl dX10_init_37 (fun gg11 H locs y12 hP hD hS => ?_)
  have hP : va_P K.1 classes [(a0, zO 8 6 gg11), (q1, zI K 400 (fun _ => 0)), (q4, zI K 400 (fun _ => 0)), (q7, zZ K 400 (fun _ => 0)), (q10, zZ K 400 (fun _ => 0))] H := hP
  have hD : va_D A [(a0, zO 8 6 gg11), (q1, zI K 400 (fun _ => 0)), (q4, zI K 400 (fun _ => 0)), (q7, zZ K 400 (fun _ => 0)), (q10, zZ K 400 (fun _ => 0))] := hD
  refine lv_aload_n hx hb dX10_init_40 rfl (lv_at hl 0 rfl) ?_
  refine lv_aload_n hx hb dX10_init_41 rfl (lv_at hl 1 rfl) ?_
  refine z_put hx hb hg hown hK hP hD hS i_X10 rfl tyX10_ok nmX10 0 rfl 4 (by decide) mt109 rfl rfl rfl dX10_init_42 (fun gg13 H locs y14 hP hD hS => ?_)
  have hP : va_P K.1 classes [(a0, zO 8 6 gg13), (q1, zI K 400 (fun _ => 0)), (q4, zI K 400 (fun _ => 0)), (q7, zZ K 400 (fun _ => 0)), (q10, zZ K 400 (fun _ => 0))] H := hP
  have hD : va_D A [(a0, zO 8 6 gg13), (q1, zI K 400 (fun _ => 0)), (q4, zI K 400 (fun _ => 0)), (q7, zZ K 400 (fun _ => 0)), (q10, zZ K 400 (fun _ => 0))] := hD
  refine lv_aload_n hx hb dX10_init_45 rfl (lv_at hl 0 rfl) ?_
  refine lv_iconst (v := 0) hx hb dX10_init_46 (by decide) ?_
  refine z_put hx hb hg hown hK hP hD hS i_X10 rfl tyX10_ok nmX10 0 rfl 5 (by decide) mt110 rfl rfl rfl dX10_init_47 (fun gg15 H locs y16 hP hD hS => ?_)
  have hP : va_P K.1 classes [(a0, zO 8 6 gg15), (q1, zI K 400 (fun _ => 0)), (q4, zI K 400 (fun _ => 0)), (q7, zZ K 400 (fun _ => 0)), (q10, zZ K 400 (fun _ => 0))] H := hP
  have hD : va_D A [(a0, zO 8 6 gg15), (q1, zI K 400 (fun _ => 0)), (q4, zI K 400 (fun _ => 0)), (q7, zZ K 400 (fun _ => 0)), (q10, zZ K 400 (fun _ => 0))] := hD
  subst y16
  subst y14
  subst y12
  subst y9
  subst y6
  subst y3
  have hP9 : va_P K.1 classes [(a0, zO 8 6 (va_up (va_up (va_up (va_up (va_up (va_up g0 0 (.ref q1)) 1 (.ref q4)) 2 (.ref q7)) 3 (.ref q10)) 4 (.ref a1)) 5 (.int 0))), (q1, zI K 400 (fun _ => 0)), (q4, zI K 400 (fun _ => 0)), (q7, zZ K 400 (fun _ => 0)), (q10, zZ K 400 (fun _ => 0))] H := hP.sub [0, 1, 2, 3, 4] rfl
  have hD9 : va_D A [(a0, zO 8 6 (va_up (va_up (va_up (va_up (va_up (va_up g0 0 (.ref q1)) 1 (.ref q4)) 2 (.ref q7)) 3 (.ref q10)) 4 (.ref a1)) 5 (.int 0))), (q1, zI K 400 (fun _ => 0)), (q4, zI K 400 (fun _ => 0)), (q7, zZ K 400 (fun _ => 0)), (q10, zZ K 400 (fun _ => 0))] := hD.sub [0, 1, 2, 3, 4] (by decide) rfl
  exact z_vret hx hb hr (fun k => ([q1, q4, q7, q10] : List Nat).getD k 0) trivial hP9 hD9 hS (Nat.le_of_ble_eq_true rfl) (Nat.le_of_ble_eq_true rfl) hlocks dX10_init_50
set_option maxHeartbeats 4000000 in
set_option maxRecDepth 100000 in
theorem cX0_init_1 (l : Launch) (K : zK) (sz : Nat) (a0 : Nat) (a1 : Nat) (a2 : Nat) (g0 : Nat → Value) (g1 : Nat → Value) (e0 : g1 0 = (.ref a2)) : Met l yX0_init (Cond.code yX0_init cX0_init 2 none :: WG) { frames := 2, cells := 10, slots := 2915, locals := 33 } (zPre K [(a0, zO 0 8 g0), (a1, zO 4 6 g1)] sz [.ref a0, .ref a1]) (va_Qv (fun _ : Nat → Nat => True) (zB K (va_A [(a0, zO 0 8 g0), (a1, zO 4 6 g1)] sz) (fun u : Nat → Nat => [(a0, zO 0 8 (va_up (va_up (va_up (va_up (va_up (va_up (va_up (va_up g0 0 (.ref a1)) 1 (.ref (u 0))) 2 (.ref (u 5))) 3 (.ref (u 6))) 4 (.ref (u 7))) 5 (.ref (u 8))) 6 (.ref (u 9))) 7 (.int 0))), (a1, zO 4 6 g1), ((u 0), zO 8 6 (va_up (va_up (va_up (va_up (va_up (va_up (fun k => defaultValue (tyX10 k)) 0 (.ref (u 1))) 1 (.ref (u 2))) 2 (.ref (u 3))) 3 (.ref (u 4))) 4 (.ref a2)) 5 (.int 0))), ((u 1), zI K 400 (fun _ => 0)), ((u 2), zI K 400 (fun _ => 0)), ((u 3), zZ K 400 (fun _ => 0)), ((u 4), zZ K 400 (fun _ => 0)), ((u 5), zI K 645 (fun _ => 0)), ((u 6), zI K 8 (fun _ => 0)), ((u 7), zI K 8 (fun _ => 0)), ((u 8), zI K 8 (fun _ => 0)), ((u 9), zZ K 640 (fun _ => 0))])) (va_A [(a0, zO 0 8 g0), (a1, zO 4 6 g1)] sz)) 10 2915 (va_A [(a0, zO 0 8 g0), (a1, zO 4 6 g1)] sz) := by
  refine z_met (Qc := fun A => (va_Qv (fun _ : Nat → Nat => True) (zB K A (fun u : Nat → Nat => [(a0, zO 0 8 (va_up (va_up (va_up (va_up (va_up (va_up (va_up (va_up g0 0 (.ref a1)) 1 (.ref (u 0))) 2 (.ref (u 5))) 3 (.ref (u 6))) 4 (.ref (u 7))) 5 (.ref (u 8))) 6 (.ref (u 9))) 7 (.int 0))), (a1, zO 4 6 g1), ((u 0), zO 8 6 (va_up (va_up (va_up (va_up (va_up (va_up (fun k => defaultValue (tyX10 k)) 0 (.ref (u 1))) 1 (.ref (u 2))) 2 (.ref (u 3))) 3 (.ref (u 4))) 4 (.ref a2)) 5 (.int 0))), ((u 1), zI K 400 (fun _ => 0)), ((u 2), zI K 400 (fun _ => 0)), ((u 3), zZ K 400 (fun _ => 0)), ((u 4), zZ K 400 (fun _ => 0)), ((u 5), zI K 645 (fun _ => 0)), ((u 6), zI K 8 (fun _ => 0)), ((u 7), zI K 8 (fun _ => 0)), ((u 8), zI K 8 (fun _ => 0)), ((u 9), zZ K 640 (fun _ => 0))])) A)) (by decide +kernel) (Nat.le_of_ble_eq_true rfl) ?_
  intro p e s m args below meth c A ls H hx hb hr hg hown hlocks hml hin hK hP hD hA hS hZ hl
  have hown : s.vm.findClass RX0 = some m.cls := hown
  have hl : lv_has ls 2 [(0, .ref a0), (1, .ref a1)] := hl
  refine lv_aload_n hx hb dX0_init_0 rfl (lv_at hl 0 rfl) ?_
  refine W.objInit hx hb hown (hg _ mt98) (hg _ mt29) (hg _ mt30o) rfl (by rw [hml]; exact hl.1) rfl dX0_init_1 (Nat.le_of_ble_eq_true rfl) (Nat.le_of_ble_eq_true rfl) ?_
  refine W.eq (g2 := F0 m 4 ls []) rfl ?_
  refine lv_aload_n hx hb dX0_init_4 rfl (lv_at hl 0 rfl) ?_
  refine lv_aload_n hx hb dX0_init_5 rfl (lv_at hl 1 rfl) ?_
  refine z_putF hx hb hg hown hK hP hD hS i_X0 rfl tyX0_ok nmX0 hin 0 rfl 0 (by decide) mt125 rfl rfl rfl rfl dX0_init_6 (fun gg1 H locs y2 hP hD hS => ?_)
  have hP : va_P K.1 classes [(a0, zO 0 8 gg1), (a1, zO 4 6 g1)] H := hP
  have hD : va_D A [(a0, zO 0 8 gg1), (a1, zO 4 6 g1)] := hD
  refine lv_aload_n hx hb dX0_init_9 rfl (lv_at hl 0 rfl) ?_
  refine z_new (ci := 8) hx hb hg hown hK hP hD hS hA i_X10 rfl tyX10_ok mt99 mt100 mt5 1 6 rfl rfl (Nat.le_of_ble_eq_true rfl) (Nat.le_of_ble_eq_true rfl) dX0_init_10 (fun q3 H hP hD hS => ?_)
  have hP : va_P K.1 classes [(a0, zO 0 8 gg1), (a1, zO 4 6 g1), (q3, zO 8 6 (fun k => defaultValue (tyX10 k)))] H := hP
  have hD : va_D A [(a0, zO 0 8 gg1), (a1, zO 4 6 g1), (q3, zO 8 6 (fun k => defaultValue (tyX10 k)))] := hD
  refine lv_dup hx hb dX0_init_13 rfl ?_
  refine lv_aload_n hx hb dX0_init_14 rfl (lv_at hl 1 rfl) ?_
  refine z_get (v := .ref a2) hx hb hg hown hK hP i_X5 rfl 1 rfl 0 (by decide) mt70 e0 dX0_init_15 ?_
  refine z_callv [(q3, zO 8 6 (fun k => defaultValue (tyX10 k)))] [(a0, zO 0 8 gg1), (a1, zO 4 6 g1)] [2] [0, 1] hP hD hS hA rfl rfl (by decide) (by decide) (by decide +kernel) 5 1606 rfl rfl (fun hPc hDc hF => z_runI (As := [.ref a2]) (rest := [.ref q3, .ref a0]) ⟨hx, hb, hml, hown, hg⟩ (cX10_init_1 l K H.size q3 a2 (fun k => defaultValue (tyX10 k))) mt103 mt5 mt101 mt102 rfl hd_X10_init rfl rfl ⟨(Nat.le_of_ble_eq_true rfl), (Nat.le_of_ble_eq_true rfl)⟩ hK hS hZ hPc hDc hF rfl hl.1 rfl (Nat.le_of_ble_eq_true rfl) dX0_init_18 ⟨(Nat.le_of_ble_eq_true rfl), (Nat.le_of_ble_eq_true rfl)⟩) (fun u4 H locs w5 hP hD hS => ?_)
  have hP : va_P K.1 classes [(a0, zO 0 8 gg1), (a1, zO 4 6 g1), (q3, zO 8 6 (va_up (va_up (va_up (va_up (va_up (va_up (fun k => defaultValue (tyX10 k)) 0 (.ref (u4 0))) 1 (.ref (u4 1))) 2 (.ref (u4 2))) 3 (.ref (u4 3))) 4 (.ref a2)) 5 (.int 0))), ((u4 0), zI K 400 (fun _ => 0)), ((u4 1), zI K 400 (fun _ => 0)), ((u4 2), zZ K 400 (fun _ => 0)), ((u4 3), zZ K 400 (fun _ => 0))] H := hP
  have hD : va_D A [(a0, zO 0 8 gg1), (a1, zO 4 6 g1), (q3, zO 8 6 (va_up (va_up (va_up (va_up (va_up (va_up (fun k => defaultValue (tyX10 k)) 0 (.ref (u4 0))) 1 (.ref (u4 1))) 2 (.ref (u4 2))) 3 (.ref (u4 3))) 4 (.ref a2)) 5 (.int 0))), ((u4 0), zI K 400 (fun _ => 0)), ((u4 1), zI K 400 (fun _ => 0)), ((u4 2), zZ K 400 (fun _ => 0)), ((u4 3), zZ K 400 (fun _ => 0))] := hD
  obtain ⟨gg7, y8⟩ : ∃ z, z = ((va_up (va_up (va_up (va_up (va_up (va_up (fun k => defaultValue (tyX10 k)) 0 (.ref (u4 0))) 1 (.ref (u4 1))) 2 (.ref (u4 2))) 3 (.ref (u4 3))) 4 (.ref a2)) 5 (.int 0)) : Nat → Value) := ⟨_, rfl⟩
  rw [← y8] at hP hD
  refine z_putF hx hb hg hown hK hP hD hS i_X0 rfl tyX0_ok nmX0 hin 0 rfl 1 (by decide) mt126 rfl rfl rfl rfl dX0_init_21 (fun gg9 H locs y10 hP hD hS => ?_)
  have hP : va_P K.1 classes [(a0, zO 0 8 gg9), (a1, zO 4 6 g1), (q3, zO 8 6 gg7), ((u4 0), zI K 400 (fun _ => 0)), ((u4 1), zI K 400 (fun _ => 0)), ((u4 2), zZ K 400 (fun _ => 0)), ((u4 3), zZ K 400 (fun _ => 0))] H := hP
  have hD : va_D A [(a0, zO 0 8 gg9), (a1, zO 4 6 g1), (q3, zO 8 6 gg7), ((u4 0), zI K 400 (fun _ => 0)), ((u4 1), zI K 400 (fun _ => 0)), ((u4 2), zZ K 400 (fun _ => 0)), ((u4 3), zZ K 400 (fun _ => 0))] := hD
  refine lv_aload_n hx hb dX0_init_24 rfl (lv_at hl 0 rfl) ?_
  refine lv_sipush (v := 645) hx hb dX0_init_25 (by decide) ?_
  refine z_newi hx hb (hg _ mt56) hK hP hD hS hA (N' := 645) rfl (Nat.le_of_ble_eq_true rfl) 6 2251 rfl rfl (Nat.le_of_ble_eq_true rfl) (Nat.le_of_ble_eq_true rfl) dX0_init_28 (fun q11 H hP hD hS => ?_)
  have hP : va_P K.1 classes [(a0, zO 0 8 gg9), (a1, zO 4 6 g1), (q3, zO 8 6 gg7), ((u4 0), zI K 400 (fun _ => 0)), ((u4 1), zI K 400 (fun _ => 0)), ((u4 2), zZ K 400 (fun _ => 0)), ((u4 3), zZ K 400 (fun _ => 0)), (q11, zI K 645 (fun _ => 0))] H := hP
  have hD : va_D A [(a0, zO 0 8 gg9), (a1, zO 4 6 g1), (q3, zO 8 6 gg7), ((u4 0), zI K 400 (fun _ => 0)), ((u4 1), zI K 400 (fun _ => 0)), ((u4 2), zZ K 400 (fun _ => 0)), ((u4 3), zZ K 400 (fun _ => 0)), (q11, zI K 645 (fun _ => 0))] := hD
  refine z_putF hx hb hg hown hK hP hD hS i_X0 rfl tyX0_ok nmX0 hin 0 rfl 2 (by decide) mt127 rfl rfl rfl rfl dX0_init_30 (fun gg12 H locs y13 hP hD hS => ?_)
  have hP : va_P K.1 classes [(a0, zO 0 8 gg12), (a1, zO 4 6 g1), (q3, zO 8 6 gg7), ((u4 0), zI K 400 (fun _ => 0)), ((u4 1), zI K 400 (fun _ => 0)), ((u4 2), zZ K 400 (fun _ => 0)), ((u4 3), zZ K 400 (fun _ => 0)), (q11, zI K 645 (fun _ => 0))] H := hP
  have hD : va_D A [(a0, zO 0 8 gg12), (a1, zO 4 6 g1), (q3, zO 8 6 gg7), ((u4 0), zI K 400 (fun _ => 0)), ((u4 1), zI K 400 (fun _ => 0)), ((u4 2), zZ K 400 (fun _ => 0)), ((u4 3), zZ K 400 (fun _ => 0)), (q11, zI K 645 (fun _ => 0))] := hD
  refine lv_aload_n hx hb dX0_init_33 rfl (lv_at hl 0 rfl) ?_
  refine lv_bipush (v := 8) hx hb dX0_init_34 (by decide) ?_
  refine z_newi hx hb (hg _ mt56) hK hP hD hS hA (N' := 8) rfl (Nat.le_of_ble_eq_true rfl) 7 2259 rfl rfl (Nat.le_of_ble_eq_true rfl) (Nat.le_of_ble_eq_true rfl) dX0_init_36 (fun q14 H hP hD hS => ?_)
  have hP : va_P K.1 classes [(a0, zO 0 8 gg12), (a1, zO 4 6 g1), (q3, zO 8 6 gg7), ((u4 0), zI K 400 (fun _ => 0)), ((u4 1), zI K 400 (fun _ => 0)), ((u4 2), zZ K 400 (fun _ => 0)), ((u4 3), zZ K 400 (fun _ => 0)), (q11, zI K 645 (fun _ => 0)), (q14, zI K 8 (fun _ => 0))] H := hP
  have hD : va_D A [(a0, zO 0 8 gg12), (a1, zO 4 6 g1), (q3, zO 8 6 gg7), ((u4 0), zI K 400 (fun _ => 0)), ((u4 1), zI K 400 (fun _ => 0)), ((u4 2), zZ K 400 (fun _ => 0)), ((u4 3), zZ K 400 (fun _ => 0)), (q11, zI K 645 (fun _ => 0)), (q14, zI K 8 (fun _ => 0))] := hD
  refine z_putF hx hb hg hown hK hP hD hS i_X0 rfl tyX0_ok nmX0 hin 0 rfl 3 (by decide) mt128 rfl rfl rfl rfl dX0_init_38 (fun gg15 H locs y16 hP hD hS => ?_)
  have hP : va_P K.1 classes [(a0, zO 0 8 gg15), (a1, zO 4 6 g1), (q3, zO 8 6 gg7), ((u4 0), zI K 400 (fun _ => 0)), ((u4 1), zI K 400 (fun _ => 0)), ((u4 2), zZ K 400 (fun _ => 0)), ((u4 3), zZ K 400 (fun _ => 0)), (q11, zI K 645 (fun _ => 0)), (q14, zI K 8 (fun _ => 0))] H := hP
  have hD : va_D A [(a0, zO 0 8 gg15), (a1, zO 4 6 g1), (q3, zO 8 6 gg7), ((u4 0), zI K 400 (fun _ => 0)), ((u4 1), zI K 400 (fun _ => 0)), ((u4 2), zZ K 400 (fun _ => 0)), ((u4 3), zZ K 400 (fun _ => 0)), (q11, zI K 645 (fun _ => 0)), (q14, zI K 8 (fun _ => 0))] := hD
  refine lv_aload_n hx hb dX0_init_41 rfl (lv_at hl 0 rfl) ?_
  refine lv_bipush (v := 8) hx hb dX0_init_42 (by decide) ?_
  refine z_newi hx hb (hg _ mt56) hK hP hD hS hA (N' := 8) rfl (Nat.le_of_ble_eq_true rfl) 8 2267 rfl rfl (Nat.le_of_ble_eq_true rfl) (Nat.le_of_ble_eq_true rfl) dX0_init_44 (fun q17 H hP hD hS => ?_)
  have hP : va_P K.1 classes [(a0, zO 0 8 gg15), (a1, zO 4 6 g1), (q3, zO 8 6 gg7), ((u4 0), zI K 400 (fun _ => 0)), ((u4 1), zI K 400 (fun _ => 0)), ((u4 2), zZ K 400 (fun _ => 0)), ((u4 3), zZ K 400 (fun _ => 0)), (q11, zI K 645 (fun _ => 0)), (q14, zI K 8 (fun _ => 0)), (q17, zI K 8 (fun _ => 0))] H := hP
  have hD : va_D A [(a0, zO 0 8 gg15), (a1, zO 4 6 g1), (q3, zO 8 6 gg7), ((u4 0), zI K 400 (fun _ => 0)), ((u4 1), zI K 400 (fun _ => 0)), ((u4 2), zZ K 400 (fun _ => 0)), ((u4 3), zZ K 400 (fun _ => 0)), (q11, zI K 645 (fun _ => 0)), (q14, zI K 8 (fun _ => 0)), (q17, zI K 8 (fun _ => 0))] := hD
  refine z_putF hx hb hg hown hK hP hD hS i_X0 rfl tyX0_ok nmX0 hin 0 rfl 4 (by decide) mt129 rfl rfl rfl rfl dX0_init_46 (fun gg18 H locs y19 hP hD hS => ?_)
  have hP : va_P K.1 classes [(a0, zO 0 8 gg18), (a1, zO 4 6 g1), (q3, zO 8 6 gg7), ((u4 0), zI K 400 (fun _ => 0)), ((u4 1), zI K 400 (fun _ => 0)), ((u4 2), zZ K 400 (fun _ => 0)), ((u4 3), zZ K 400 (fun _ => 0)), (q11, zI K 645 (fun _ => 0)), (q14, zI K 8 (fun _ => 0)), (q17, zI K 8 (fun _ => 0))] H := hP
  have hD : va_D A [(a0, zO 0 8 gg18), (a1, zO 4 6 g1), (q3, zO 8 6 gg7), ((u4 0), zI K 400 (fun _ => 0)), ((u4 1), zI K 400 (fun _ => 0)), ((u4 2), zZ K 400 (fun _ => 0)), ((u4 3), zZ K 400 (fun _ => 0)), (q11, zI K 645 (fun _ => 0)), (q14, zI K 8 (fun _ => 0)), (q17, zI K 8 (fun _ => 0))] := hD
  refine lv_aload_n hx hb dX0_init_49 rfl (lv_at hl 0 rfl) ?_
  refine lv_bipush (v := 8) hx hb dX0_init_50 (by decide) ?_
  refine z_newi hx hb (hg _ mt56) hK hP hD hS hA (N' := 8) rfl (Nat.le_of_ble_eq_true rfl) 9 2275 rfl rfl (Nat.le_of_ble_eq_true rfl) (Nat.le_of_ble_eq_true rfl) dX0_init_52 (fun q20 H hP hD hS => ?_)
  have hP : va_P K.1 classes [(a0, zO 0 8 gg18), (a1, zO 4 6 g1), (q3, zO 8 6 gg7), ((u4 0), zI K 400 (fun _ => 0)), ((u4 1), zI K 400 (fun _ => 0)), ((u4 2), zZ K 400 (fun _ => 0)), ((u4 3), zZ K 400 (fun _ => 0)), (q11, zI K 645 (fun _ => 0)), (q14, zI K 8 (fun _ => 0)), (q17, zI K 8 (fun _ => 0)), (q20, zI K 8 (fun _ => 0))] H := hP
  have hD : va_D A [(a0, zO 0 8 gg18), (a1, zO 4 6 g1), (q3, zO 8 6 gg7), ((u4 0), zI K 400 (fun _ => 0)), ((u4 1), zI K 400 (fun _ => 0)), ((u4 2), zZ K 400 (fun _ => 0)), ((u4 3), zZ K 400 (fun _ => 0)), (q11, zI K 645 (fun _ => 0)), (q14, zI K 8 (fun _ => 0)), (q17, zI K 8 (fun _ => 0)), (q20, zI K 8 (fun _ => 0))] := hD
  refine z_putF hx hb hg hown hK hP hD hS i_X0 rfl tyX0_ok nmX0 hin 0 rfl 5 (by decide) mt130 rfl rfl rfl rfl dX0_init_54 (fun gg21 H locs y22 hP hD hS => ?_)
  have hP : va_P K.1 classes [(a0, zO 0 8 gg21), (a1, zO 4 6 g1), (q3, zO 8 6 gg7), ((u4 0), zI K 400 (fun _ => 0)), ((u4 1), zI K 400 (fun _ => 0)), ((u4 2), zZ K 400 (fun _ => 0)), ((u4 3), zZ K 400 (fun _ => 0)), (q11, zI K 645 (fun _ => 0)), (q14, zI K 8 (fun _ => 0)), (q17, zI K 8 (fun _ => 0)), (q20, zI K 8 (fun _ => 0))] H := hP
  have hD : va_D A [(a0, zO 0 8 gg21), (a1, zO 4 6 g1), (q3, zO 8 6 gg7), ((u4 0), zI K 400 (fun _ => 0)), ((u4 1), zI K 400 (fun _ => 0)), ((u4 2), zZ K 400 (fun _ => 0)), ((u4 3), zZ K 400 (fun _ => 0)), (q11, zI K 645 (fun _ => 0)), (q14, zI K 8 (fun _ => 0)), (q17, zI K 8 (fun _ => 0)), (q20, zI K 8 (fun _ => 0))] := hD
  refine lv_aload_n hx hb dX0_init_57 rfl (lv_at hl 0 rfl) ?_
  refine lv_sipush (v := 640) hx hb dX0_init_58 (by decide) ?_
  refine z_newz hx hb (hg _ mt124) hK hP hD hS hA (N' := 640) rfl (Nat.le_of_ble_eq_true rfl) 10 2915 rfl rfl (Nat.le_of_ble_eq_true rfl) (Nat.le_of_ble_eq_true rfl) dX0_init_61 (fun q23 H hP hD hS => ?_)
  have hP : va_P K.1 classes [(a0, zO 0 8 gg21), (a1, zO 4 6 g1), (q3, zO 8 6 gg7), ((u4 0), zI K 400 (fun _ => 0)), ((u4 1), zI K 400 (fun _ => 0)), ((u4 2), zZ K 400 (fun _ => 0)), ((u4 3), zZ K 400 (fun _ => 0)), (q11, zI K 645 (fun _ => 0)), (q14, zI K 8 (fun _ => 0)), (q17, zI K 8 (fun _ => 0)), (q20, zI K 8 (fun _ => 0)), (q23, zZ K 640 (fun _ => 0))] H := hP
  have hD : va_D A [(a0, zO 0 8 gg21), (a1, zO 4 6 g1), (q3, zO 8 6 gg7), ((u4 0), zI K 400 (fun _ => 0)), ((u4 1), zI K 400 (fun _ => 0)), ((u4 2), zZ K 400 (fun _ => 0)), ((u4 3), zZ K 400 (fun _ => 0)), (q11, zI K 645 (fun _ => 0)), (q14, zI K 8 (fun _ => 0)), (q17, zI K 8 (fun _ => 0)), (q20, zI K 8 (fun _ => 0)), (q23, zZ K 640 (fun _ => 0))] := hD
  refine z_putF hx hb hg hown hK hP hD hS i_X0 rfl tyX0_ok nmX0 hin 0 rfl 6 (by decide) mt131 rfl rfl rfl rfl dX0_init_63 (fun gg24 H locs y25 hP hD hS => ?_)
  have hP : va_P K.1 classes [(a0, zO 0 8 gg24), (a1, zO 4 6 g1), (q3, zO 8 6 gg7), ((u4 0), zI K 400 (fun _ => 0)), ((u4 1), zI K 400 (fun _ => 0)), ((u4 2), zZ K 400 (fun _ => 0)), ((u4 3), zZ K 400 (fun _ => 0)), (q11, zI K 645 (fun _ => 0)), (q14, zI K 8 (fun _ => 0)), (q17, zI K 8 (fun _ => 0)), (q20, zI K 8 (fun _ => 0)), (q23, zZ K 640 (fun _ => 0))] H := hP
  have hD : va_D A [(a0, zO 0 8 gg24), (a1, zO 4 6 g1), (q3, zO 8 6 gg7), ((u4 0), zI K 400 (fun _ => 0)), ((u4 1), zI K 400 (fun _ => 0)), ((u4 2), zZ K 400 (fun _ => 0)), ((u4 3), zZ K 400 (fun _ => 0)), (q11, zI K 645 (fun _ => 0)), (q14, zI K 8 (fun _ => 0)), (q17, zI K 8 (fun _ => 0)), (q20, zI K 8 (fun _ => 0)), (q23, zZ K 640 (fun _ => 0))] := hD
  refine lv_aload_n hx hb dX0_init_66 rfl (lv_at hl 0 rfl) ?_
  refine lv_iconst (v := 0) hx hb dX0_init_67 (by decide) ?_
  refine z_put hx hb hg hown hK hP hD hS i_X0 rfl tyX0_ok nmX0 0 rfl 7 (by decide) mt132 rfl rfl rfl dX0_init_68 (fun gg26 H locs y27 hP hD hS => ?_)
  have hP : va_P K.1 classes [(a0, zO 0 8 gg26), (a1, zO 4 6 g1), (q3, zO 8 6 gg7), ((u4 0), zI K 400 (fun _ => 0)), ((u4 1), zI K 400 (fun _ => 0)), ((u4 2), zZ K 400 (fun _ => 0)), ((u4 3), zZ K 400 (fun _ => 0)), (q11, zI K 645 (fun _ => 0)), (q14, zI K 8 (fun _ => 0)), (q17, zI K 8 (fun _ => 0)), (q20, zI K 8 (fun _ => 0)), (q23, zZ K 640 (fun _ => 0))] H := hP
  have hD : va_D A [(a0, zO 0 8 gg26), (a1, zO 4 6 g1), (q3, zO 8 6 gg7), ((u4 0), zI K 400 (fun _ => 0)), ((u4 1), zI K 400 (fun _ => 0)), ((u4 2), zZ K 400 (fun _ => 0)), ((u4 3), zZ K 400 (fun _ => 0)), (q11, zI K 645 (fun _ => 0)), (q14, zI K 8 (fun _ => 0)), (q17, zI K 8 (fun _ => 0)), (q20, zI K 8 (fun _ => 0)), (q23, zZ K 640 (fun _ => 0))] := hD
  subst y27
  subst y25
  subst y22
  subst y19
  subst y16
  subst y13
  subst y10
  subst y8
  subst y2
  have hP9 : va_P K.1 classes [(a0, zO 0 8 (va_up (va_up (va_up (va_up (va_up (va_up (va_up (va_up g0 0 (.ref a1)) 1 (.ref q3)) 2 (.ref q11)) 3 (.ref q14)) 4 (.ref q17)) 5 (.ref q20)) 6 (.ref q23)) 7 (.int 0))), (a1, zO 4 6 g1), (q3, zO 8 6 (va_up (va_up (va_up (va_up (va_up (va_up (fun k => defaultValue (tyX10 k)) 0 (.ref (u4 0))) 1 (.ref (u4 1))) 2 (.ref (u4 2))) 3 (.ref (u4 3))) 4 (.ref a2)) 5 (.int 0))), ((u4 0), zI K 400 (fun _ => 0)), ((u4 1), zI K 400 (fun _ => 0)), ((u4 2), zZ K 400 (fun _ => 0)), ((u4 3), zZ K 400 (fun _ => 0)), (q11, zI K 645 (fun _ => 0)), (q14, zI K 8 (fun _ => 0)), (q17, zI K 8 (fun _ => 0)), (q20, zI K 8 (fun _ => 0)), (q23, zZ K 640 (fun _ => 0))] H := hP.sub [0, 1, 2, 3, 4, 5, 6, 7, 8, 9, 10, 11] rfl
  have hD9 : va_D A [(a0, zO 0 8 (va_up (va_up (va_up (va_up (va_up (va_up (va_up (va_up g0 0 (.ref a1)) 1 (.ref q3)) 2 (.ref q11)) 3 (.ref q14)) 4 (.ref q17)) 5 (.ref q20)) 6 (.ref q23)) 7 (.int 0))), (a1, zO 4 6 g1), (q3, zO 8 6 (va_up (va_up (va_up (va_up (va_up (va_up (fun k => defaultValue (tyX10 k)) 0 (.ref (u4 0))) 1 (.ref (u4 1))) 2 (.ref (u4 2))) 3 (.ref (u4 3))) 4 (.ref a2)) 5 (.int 0))), ((u4 0), zI K 400 (fun _ => 0)), ((u4 1), zI K 400 (fun _ => 0)), ((u4 2), zZ K 400 (fun _ => 0)), ((u4 3), zZ K 400 (fun _ => 0)), (q11, zI K 645 (fun _ => 0)), (q14, zI K 8 (fun _ => 0)), (q17, zI K 8 (fun _ => 0)), (q20, zI K 8 (fun _ => 0)), (q23, zZ K 640 (fun _ => 0))] := hD.sub [0, 1, 2, 3, 4, 5, 6, 7, 8, 9, 10, 11] (by decide) rfl
  exact z_vret hx hb hr (fun k => ([q3, (u4 0), (u4 1), (u4 2), (u4 3), q11, q14, q17, q20, q23] : List Nat).getD k 0) trivial hP9 hD9 hS (Nat.le_of_ble_eq_true rfl) (Nat.le_of_ble_eq_true rfl) hlocks dX0_init_71
set_option maxHeartbeats 4000000 in
set_option maxRecDepth 100000 in
theorem cX9_init_3 (l : Launch) (K : zK) (sz : Nat) (a0 : Nat) (g0 : Nat → Value) : Met l yX9_init (Cond.code yX9_init cX9_init 2 none :: WG) { frames := 1, cells := 5, slots := 2800, locals := 12 } (zPre K [(a0, zO 7 6 g0)] sz [.ref a0, .int 400]) (va_Qv (fun _ : Nat → Nat => True) (zB K (va_A [(a0, zO 7 6 g0)] sz) (fun u : Nat → Nat => [(a0, zO 7 6 (va_up (va_up (va_up (va_up (va_up (va_up g0 0 (.ref (u 0))) 1 (.ref (u 1))) 2 (.ref (u 2))) 3 (.ref (u 3))) 4 (.ref (u 4))) 5 (.int 0))), ((u 0), zI K 400 (fun _ => 0)), ((u 1), zI K 400 (fun _ => 0)), ((u 2), zI K 400 (fun _ => 0)), ((u 3), zI K 400 (fun _ => 0)), ((u 4), zI K 1200 (fun _ => 0))])) (va_A [(a0, zO 7 6 g0)] sz)) 5 2800 (va_A [(a0, zO 7 6 g0)] sz) := by
  refine z_met (Qc := fun A => (va_Qv (fun _ : Nat → Nat => True) (zB K A (fun u : Nat → Nat => [(a0, zO 7 6 (va_up (va_up (va_up (va_up (va_up (va_up g0 0 (.ref (u 0))) 1 (.ref (u 1))) 2 (.ref (u 2))) 3 (.ref (u 3))) 4 (.ref (u 4))) 5 (.int 0))), ((u 0), zI K 400 (fun _ => 0)), ((u 1), zI K 400 (fun _ => 0)), ((u 2), zI K 400 (fun _ => 0)), ((u 3), zI K 400 (fun _ => 0)), ((u 4), zI K 1200 (fun _ => 0))])) A)) (by decide +kernel) (Nat.le_of_ble_eq_true rfl) ?_
  intro p e s m args below meth c A ls H hx hb hr hg hown hlocks hml hin hK hP hD hA hS hZ hl
  have hown : s.vm.findClass RX9 = some m.cls := hown
  have hl : lv_has ls 2 [(0, .ref a0), (1, .int 400)] := hl
  refine lv_aload_n hx hb dX9_init_0 rfl (lv_at hl 0 rfl) ?_
  refine W.objInit hx hb hown (hg _ mt36) (hg _ mt29) (hg _ mt30o) rfl (by rw [hml]; exact hl.1) rfl dX9_init_1 (Nat.le_of_ble_eq_true rfl) (Nat.le_of_ble_eq_true rfl) ?_
  refine W.eq (g2 := F0 m 4 ls []) rfl ?_
  refine lv_aload_n hx hb dX9_init_4 rfl (lv_at hl 0 rfl) ?_
  refine lv_iload_n hx hb dX9_init_5 rfl (lv_at hl 1 rfl) ?_
  refine z_newi hx hb (hg _ mt56) hK hP hD hS hA (N' := 400) rfl (Nat.le_of_ble_eq_true rfl) 1 400 rfl rfl (Nat.le_of_ble_eq_true rfl) (Nat.le_of_ble_eq_true rfl) dX9_init_6 (fun q1 H hP hD hS => ?_)
  have hP : va_P K.1 classes [(a0, zO 7 6 g0), (q1, zI K 400 (fun _ => 0))] H := hP
  have hD : va_D A [(a0, zO 7 6 g0), (q1, zI K 400 (fun _ => 0))] := hD
  refine z_putF hx hb hg hown hK hP hD hS i_X9 rfl tyX9_ok nmX9 hin 0 rfl 0 (by decide) mt37 rfl rfl rfl rfl dX9_init_8 (fun gg2 H locs y3 hP hD hS => ?_)
  have hP : va_P K.1 classes [(a0, zO 7 6 gg2), (q1, zI K 400 (fun _ => 0))] H := hP
  have hD : va_D A [(a0, zO 7 6 gg2), (q1, zI K 400 (fun _ => 0))] := hD
  refine lv_aload_n hx hb dX9_init_11 rfl (lv_at hl 0 rfl) ?_
  refine lv_iload_n hx hb dX9_init_12 rfl (lv_at hl 1 rfl) ?_
  refine z_newi hx hb (hg _ mt56) hK hP hD hS hA (N' := 400) rfl (Nat.le_of_ble_eq_true rfl) 2 800 rfl rfl (Nat.le_of_ble_eq_true rfl) (Nat.le_of_ble_eq_true rfl) dX9_init_13 (fun q4 H hP hD hS => ?_)
  have hP : va_P K.1 classes [(a0, zO 7 6 gg2), (q1, zI K 400 (fun _ => 0)), (q4, zI K 400 (fun _ => 0))] H := hP
  have hD : va_D A [(a0, zO 7 6 gg2), (q1, zI K 400 (fun _ => 0)), (q4, zI K 400 (fun _ => 0))] := hD
  refine z_putF hx hb hg hown hK hP hD hS i_X9 rfl tyX9_ok nmX9 hin 0 rfl 1 (by decide) mt38 rfl rfl rfl rfl dX9_init_15 (fun gg5 H locs y6 hP hD hS => ?_)
  have hP : va_P K.1 classes [(a0, zO 7 6 gg5), (q1, zI K 400 (fun _ => 0)), (q4, zI K 400 (fun _ => 0))] H := hP
  have hD : va_D A [(a0, zO 7 6 gg5), (q1, zI K 400 (fun _ => 0)), (q4, zI K 400 (fun _ => 0))] := hD
  refine lv_aload_n hx hb dX9_init_18 rfl (lv_at hl 0 rfl) ?_
  refine lv_iload_n hx hb dX9_init_19 rfl (lv_at hl 1 rfl) ?_
  refine z_newi hx hb (hg _ mt56) hK hP hD hS hA (N' := 400) rfl (Nat.le_of_ble_eq_true rfl) 3 1200 rfl rfl (Nat.le_of_ble_eq_true rfl) (Nat.le_of_ble_eq_true rfl) dX9_init_20 (fun q7 H hP hD hS => ?_)
  have hP : va_P K.1 classes [(a0, zO 7 6 gg5), (q1, zI K 400 (fun _ => 0)), (q4, zI K 400 (fun _ => 0)), (q7, zI K 400 (fun _ => 0))] H := hP
  have hD : va_D A [(a0, zO 7 6 gg5), (q1, zI K 400 (fun _ => 0)), (q4, zI K 400 (fun _ => 0)), (q7, zI K 400 (fun _ => 0))] := hD
  refine z_putF hx hb hg hown hK hP hD hS i_X9 rfl tyX9_ok nmX9 hin 0 rfl 2 (by decide) mt39 rfl rfl rfl rfl dX9_init_22 (fun gg8 H locs y9 hP hD hS => ?_)
  have hP : va_P K.1 classes [(a0, zO 7 6 gg8), (q1, zI K 400 (fun _ => 0)), (q4, zI K 400 (fun _ => 0)), (q7, zI K 400 (fun _ => 0))] H := hP
  have hD : va_D A [(a0, zO 7 6 gg8), (q1, zI K 400 (fun _ => 0)), (q4, zI K 400 (fun _ => 0)), (q7, zI K 400 (fun _ => 0))] := hD
  refine lv_aload_n hx hb dX9_init_25 rfl (lv_at hl 0 rfl) ?_
  refine lv_iload_n hx hb dX9_init_26 rfl (lv_at hl 1 rfl) ?_
  refine z_newi hx hb (hg _ mt56) hK hP hD hS hA (N' := 400) rfl (Nat.le_of_ble_eq_true rfl) 4 1600 rfl rfl (Nat.le_of_ble_eq_true rfl) (Nat.le_of_ble_eq_true rfl) dX9_init_27 (fun q10 H hP hD hS => ?_)
  have hP : va_P K.1 classes [(a0, zO 7 6 gg8), (q1, zI K 400 (fun _ => 0)), (q4, zI K 400 (fun _ => 0)), (q7, zI K 400 (fun _ => 0)), (q10, zI K 400 (fun _ => 0))] H := hP
  have hD : va_D A [(a0, zO 7 6 gg8), (q1, zI K 400 (fun _ => 0)), (q4, zI K 400 (fun _ => 0)), (q7, zI K 400 (fun _ => 0)), (q10, zI K 400 (fun _ => 0))] := hD
  refine z_putF hx hb hg hown hK hP hD hS i_X9 rfl tyX9_ok nmX9 hin 0 rfl 3 (by decide) mt40 rfl rfl rfl rfl dX9_init_29 (fun gg11 H locs y12 hP hD hS => ?_)
  have hP : va_P K.1 classes [(a0, zO 7 6 gg11), (q1, zI K 400 (fun _ => 0)), (q4, zI K 400 (fun _ => 0)), (q7, zI K 400 (fun _ => 0)), (q10, zI K 400 (fun _ => 0))] H := hP
  have hD : va_D A [(a0, zO 7 6 gg11), (q1, zI K 400 (fun _ => 0)), (q4, zI K 400 (fun _ => 0)), (q7, zI K 400 (fun _ => 0)), (q10, zI K 400 (fun _ => 0))] := hD
  refine lv_aload_n hx hb dX9_init_32 rfl (lv_at hl 0 rfl) ?_
  refine lv_iconst (v := 3) hx hb dX9_init_33 (by decide) ?_
  refine lv_iload_n hx hb dX9_init_34 rfl (lv_at hl 1 rfl) ?_
  refine lv_imul hx hb dX9_init_35 ?_
  refine z_cst (v := 1200) (by decide +kernel) ?_
  refine z_newi hx hb (hg _ mt56) hK hP hD hS hA (N' := 1200) rfl (Nat.le_of_ble_eq_true rfl) 5 2800 rfl rfl (Nat.le_of_ble_eq_true rfl) (Nat.le_of_ble_eq_true rfl) dX9_init_36 (fun q13 H hP hD hS => ?_)
  have hP : va_P K.1 classes [(a0, zO 7 6 gg11), (q1, zI K 400 (fun _ => 0)), (q4, zI K 400 (fun _ => 0)), (q7, zI K 400 (fun _ => 0)), (q10, zI K 400 (fun _ => 0)), (q13, zI K 1200 (fun _ => 0))] H := hP
  have hD : va_D A [(a0, zO 7 6 gg11), (q1, zI K 400 (fun _ => 0)), (q4, zI K 400 (fun _ => 0)), (q7, zI K 400 (fun _ => 0)), (q10, zI K 400 (fun _ => 0)), (q13, zI K 1200 (fun _ => 0))] := hD
  refine z_putF hx hb hg hown hK hP hD hS i_X9 rfl tyX9_ok nmX9 hin 0 rfl 4 (by decide) mt41 rfl rfl rfl rfl dX9_init_38 (fun gg14 H locs y15 hP hD hS => ?_)
  have hP : va_P K.1 classes [(a0, zO 7 6 gg14), (q1, zI K 400 (fun _ => 0)), (q4, zI K 400 (fun _ => 0)), (q7, zI K 400 (fun _ => 0)), (q10, zI K 400 (fun _ => 0)), (q13, zI K 1200 (fun _ => 0))] H := hP
  have hD : va_D A [(a0, zO 7 6 gg14), (q1, zI K 400 (fun _ => 0)), (q4, zI K 400 (fun _ => 0)), (q7, zI K 400 (fun _ => 0)), (q10, zI K 400 (fun _ => 0)), (q13, zI K 1200 (fun _ => 0))] := hD
  refine lv_aload_n hx hb dX9_init_41 rfl (lv_at hl 0 rfl) ?_
  refine lv_iconst (v := 0) hx hb dX9_init_42 (by decide) ?_
  refine z_put hx hb hg hown hK hP hD hS i_X9 rfl tyX9_ok nmX9 0 rfl 5 (by decide) mt42 rfl rfl rfl dX9_init_43 (fun gg16 H locs y17 hP hD hS => ?_)
  have hP : va_P K.1 classes [(a0, zO 7 6 gg16), (q1, zI K 400 (fun _ => 0)), (q4, zI K 400 (fun _ => 0)), (q7, zI K 400 (fun _ => 0)), (q10, zI K 400 (fun _ => 0)), (q13, zI K 1200 (fun _ => 0))] H := hP
  have hD : va_D A [(a0, zO 7 6 gg16), (q1, zI K 400 (fun _ => 0)), (q4, zI K 400 (fun _ => 0)), (q7, zI K 400 (fun _ => 0)), (q10, zI K 400 (fun _ => 0)), (q13, zI K 1200 (fun _ => 0))] := hD
  subst y17
  subst y15
  subst y12
  subst y9
  subst y6
  subst y3
  have hP9 : va_P K.1 classes [(a0, zO 7 6 (va_up (va_up (va_up (va_up (va_up (va_up g0 0 (.ref q1)) 1 (.ref q4)) 2 (.ref q7)) 3 (.ref q10)) 4 (.ref q13)) 5 (.int 0))), (q1, zI K 400 (fun _ => 0)), (q4, zI K 400 (fun _ => 0)), (q7, zI K 400 (fun _ => 0)), (q10, zI K 400 (fun _ => 0)), (q13, zI K 1200 (fun _ => 0))] H := hP.sub [0, 1, 2, 3, 4, 5] rfl
  have hD9 : va_D A [(a0, zO 7 6 (va_up (va_up (va_up (va_up (va_up (va_up g0 0 (.ref q1)) 1 (.ref q4)) 2 (.ref q7)) 3 (.ref q10)) 4 (.ref q13)) 5 (.int 0))), (q1, zI K 400 (fun _ => 0)), (q4, zI K 400 (fun _ => 0)), (q7, zI K 400 (fun _ => 0)), (q10, zI K 400 (fun _ => 0)), (q13, zI K 1200 (fun _ => 0))] := hD.sub [0, 1, 2, 3, 4, 5] (by decide) rfl
  exact z_vret hx hb hr (fun k => ([q1, q4, q7, q10, q13] : List Nat).getD k 0) trivial hP9 hD9 hS (Nat.le_of_ble_eq_true rfl) (Nat.le_of_ble_eq_true rfl) hlocks dX9_init_46
set_option maxHeartbeats 4000000 in
set_option maxRecDepth 100000 in
theorem cX6_init_1 (l : Launch) (K : zK) (sz : Nat) (a0 : Nat) (a1 : Nat) (a2 : Nat) (g0 : Nat → Value) : Met l yX6_init (Cond.code yX6_init cX6_init 3 none :: WG) { frames := 2, cells := 15, slots := 4444, locals := 33 } (zPre K [(a0, zO 5 9 g0)] sz [.ref a0, .ref a1, .ref a2]) (va_Qv (fun _ : Nat → Nat => True) (zB K (va_A [(a0, zO 5 9 g0)] sz) (fun u : Nat → Nat => [(a0, zO 5 9 (va_up (va_up (va_up (va_up (va_up (va_up (va_up (va_up (va_up g0 0 (.ref a1)) 1 (.ref a2)) 2 (.ref (u 0))) 3 (.ref (u 6))) 4 (.ref (u 11))) 5 (.ref (u 12))) 6 (.ref (u 13))) 7 (.ref (u 14))) 8 (.int 0))), ((u 0), zO 7 6 (va_up (va_up (va_up (va_up (va_up (va_up (fun k => defaultValue (tyX9 k)) 0 (.ref (u 1))) 1 (.ref (u 2))) 2 (.ref (u 3))) 3 (.ref (u 4))) 4 (.ref (u 5))) 5 (.int 0))), ((u 1), zI K 400 (fun _ => 0)), ((u 2), zI K 400 (fun _ => 0)), ((u 3), zI K 400 (fun _ => 0)), ((u 4), zI K 400 (fun _ => 0)), ((u 5), zI K 1200 (fun _ => 0)), ((u 6), zO 8 6 (va_up (va_up (va_up (va_up (va_up (va_up (fun k => defaultValue (tyX10 k)) 0 (.ref (u 7))) 1 (.ref (u 8))) 2 (.ref (u 9))) 3 (.ref (u 10))) 4 (.ref (u 0))) 5 (.int 0))), ((u 7), zI K 400 (fun _ => 0)), ((u 8), zI K 400 (fun _ => 0)), ((u 9), zZ K 400 (fun _ => 0)), ((u 10), zZ K 400 (fun _ => 0)), ((u 11), zI K 8 (fun _ => 0)), ((u 12), zI K 8 (fun _ => 0)), ((u 13), zI K 8 (fun _ => 0)), ((u 14), zI K 8 (fun _ => 0))])) (va_A [(a0, zO 5 9 g0)] sz)) 15 4444 (va_A [(a0, zO 5 9 g0)] sz) := by
  refine z_met (Qc := fun A => (va_Qv (fun _ : Nat → Nat => True) (zB K A (fun u : Nat → Nat => [(a0, zO 5 9 (va_up (va_up (va_up (va_up (va_up (va_up (va_up (va_up (va_up g0 0 (.ref a1)) 1 (.ref a2)) 2 (.ref (u 0))) 3 (.ref (u 6))) 4 (.ref (u 11))) 5 (.ref (u 12))) 6 (.ref (u 13))) 7 (.ref (u 14))) 8 (.int 0))), ((u 0), zO 7 6 (va_up (va_up (va_up (va_up (va_up (va_up (fun k => defaultValue (tyX9 k)) 0 (.ref (u 1))) 1 (.ref (u 2))) 2 (.ref (u 3))) 3 (.ref (u 4))) 4 (.ref (u 5))) 5 (.int 0))), ((u 1), zI K 400 (fun _ => 0)), ((u 2), zI K 400 (fun _ => 0)), ((u 3), zI K 400 (fun _ => 0)), ((u 4), zI K 400 (fun _ => 0)), ((u 5), zI K 1200 (fun _ => 0)), ((u 6), zO 8 6 (va_up (va_up (va_up (va_up (va_up (va_up (fun k => defaultValue (tyX10 k)) 0 (.ref (u 7))) 1 (.ref (u 8))) 2 (.ref (u 9))) 3 (.ref (u 10))) 4 (.ref (u 0))) 5 (.int 0))), ((u 7), zI K 400 (fun _ => 0)), ((u 8), zI K 400 (fun _ => 0)), ((u 9), zZ K 400 (fun _ => 0)), ((u 10), zZ K 400 (fun _ => 0)), ((u 11), zI K 8 (fun _ => 0)), ((u 12), zI K 8 (fun _ => 0)), ((u 13), zI K 8 (fun _ => 0)), ((u 14), zI K 8 (fun _ => 0))])) A)) (by decide +kernel) (Nat.le_of_ble_eq_true rfl) ?_
  intro p e s m args below meth c A ls H hx hb hr hg hown hlocks hml hin hK hP hD hA hS hZ hl
  have hown : s.vm.findClass RX6 = some m.cls := hown
  have hl : lv_has ls 3 [(0, .ref a0), (1, .ref a1), (2, .ref a2)] := hl
  refine lv_aload_n hx hb dX6_init_0 rfl (lv_at hl 0 rfl) ?_
  refine W.objInit hx hb hown (hg _ mt155) (hg _ mt29) (hg _ mt30o) rfl (by rw [hml]; exact hl.1) rfl dX6_init_1 (Nat.le_of_ble_eq_true rfl) (Nat.le_of_ble_eq_true rfl) ?_
  refine W.eq (g2 := F0 m 4 ls []) rfl ?_
  refine lv_aload_n hx hb dX6_init_4 rfl (lv_at hl 0 rfl) ?_
  refine lv_aload_n hx hb dX6_init_5 rfl (lv_at hl 1 rfl) ?_
  refine z_putF hx hb hg hown hK hP hD hS i_X6 rfl tyX6_ok nmX6 hin 0 rfl 0 (by decide) mt160 rfl rfl rfl rfl dX6_init_6 (fun gg1 H locs y2 hP hD hS => ?_)
  have hP : va_P K.1 classes [(a0, zO 5 9 gg1)] H := hP
  have hD : va_D A [(a0, zO 5 9 gg1)] := hD
  refine lv_aload_n hx hb dX6_init_9 rfl (lv_at hl 0 rfl) ?_
  refine lv_aload_n hx hb dX6_init_10 rfl (lv_at hl 2 rfl) ?_
  refine z_putF hx hb hg hown hK hP hD hS i_X6 rfl tyX6_ok nmX6 hin 0 rfl 1 (by decide) mt161 rfl rfl rfl rfl dX6_init_11 (fun gg3 H locs y4 hP hD hS => ?_)
  have hP : va_P K.1 classes [(a0, zO 5 9 gg3)] H := hP
  have hD : va_D A [(a0, zO 5 9 gg3)] := hD
  refine lv_aload_n hx hb dX6_init_14 rfl (lv_at hl 0 rfl) ?_
  refine z_new (ci := 7) hx hb hg hown hK hP hD hS hA i_X9 rfl tyX9_ok mt156 mt32 mt2 1 6 rfl rfl (Nat.le_of_ble_eq_true rfl) (Nat.le_of_ble_eq_true rfl) dX6_init_15 (fun q5 H hP hD hS => ?_)
  have hP : va_P K.1 classes [(a0, zO 5 9 gg3), (q5, zO 7 6 (fun k => defaultValue (tyX9 k)))] H := hP
  have hD : va_D A [(a0, zO 5 9 gg3), (q5, zO 7 6 (fun k => defaultValue (tyX9 k)))] := hD
  refine lv_dup hx hb dX6_init_18 rfl ?_
  refine lv_sipush (v := 400) hx hb dX6_init_19 (by decide) ?_
  refine z_callv [(q5, zO 7 6 (fun k => defaultValue (tyX9 k)))] [(a0, zO 5 9 gg3)] [1] [0] hP hD hS hA rfl rfl (by decide) (by decide) (by decide +kernel) 6 2806 rfl rfl (fun hPc hDc hF => z_runI (As := [.int 400]) (rest := [.ref q5, .ref a0]) ⟨hx, hb, hml, hown, hg⟩ (cX9_init_3 l K H.size q5 (fun k => defaultValue (tyX9 k))) mt35 mt2 mt157 mt34 rfl hd_X9_init rfl rfl ⟨(Nat.le_of_ble_eq_true rfl), (Nat.le_of_ble_eq_true rfl)⟩ hK hS hZ hPc hDc hF rfl hl.1 rfl (Nat.le_of_ble_eq_true rfl) dX6_init_22 ⟨(Nat.le_of_ble_eq_true rfl), (Nat.le_of_ble_eq_true rfl)⟩) (fun u6 H locs w7 hP hD hS => ?_)
  have hP : va_P K.1 classes [(a0, zO 5 9 gg3), (q5, zO 7 6 (va_up (va_up (va_up (va_up (va_up (va_up (fun k => defaultValue (tyX9 k)) 0 (.ref (u6 0))) 1 (.ref (u6 1))) 2 (.ref (u6 2))) 3 (.ref (u6 3))) 4 (.ref (u6 4))) 5 (.int 0))), ((u6 0), zI K 400 (fun _ => 0)), ((u6 1), zI K 400 (fun _ => 0)), ((u6 2), zI K 400 (fun _ => 0)), ((u6 3), zI K 400 (fun _ => 0)), ((u6 4), zI K 1200 (fun _ => 0))] H := hP
  have hD : va_D A [(a0, zO 5 9 gg3), (q5, zO 7 6 (va_up (va_up (va_up (va_up (va_up (va_up (fun k => defaultValue (tyX9 k)) 0 (.ref (u6 0))) 1 (.ref (u6 1))) 2 (.ref (u6 2))) 3 (.ref (u6 3))) 4 (.ref (u6 4))) 5 (.int 0))), ((u6 0), zI K 400 (fun _ => 0)), ((u6 1), zI K 400 (fun _ => 0)), ((u6 2), zI K 400 (fun _ => 0)), ((u6 3), zI K 400 (fun _ => 0)), ((u6 4), zI K 1200 (fun _ => 0))] := hD
  obtain ⟨gg9, y10⟩ : ∃ z, z = ((va_up (va_up (va_up (va_up (va_up (va_up (fun k => defaultValue (tyX9 k)) 0 (.ref (u6 0))) 1 (.ref (u6 1))) 2 (.ref (u6 2))) 3 (.ref (u6 3))) 4 (.ref (u6 4))) 5 (.int 0)) : Nat → Value) := ⟨_, rfl⟩
  rw [← y10] at hP hD
  refine z_putF hx hb hg hown hK hP hD hS i_X6 rfl tyX6_ok nmX6 hin 0 rfl 2 (by decide) mt162 rfl rfl rfl rfl dX6_init_25 (fun gg11 H locs y12 hP hD hS => ?_)
  have hP : va_P K.1 classes [(a0, zO 5 9 gg11), (q5, zO 7 6 gg9), ((u6 0), zI K 400 (fun _ => 0)), ((u6 1), zI K 400 (fun _ => 0)), ((u6 2), zI K 400 (fun _ => 0)), ((u6 3), zI K 400 (fun _ => 0)), ((u6 4), zI K 1200 (fun _ => 0))] H := hP
  have hD : va_D A [(a0, zO 5 9 gg11), (q5, zO 7 6 gg9), ((u6 0), zI K 400 (fun _ => 0)), ((u6 1), zI K 400 (fun _ => 0)), ((u6 2), zI K 400 (fun _ => 0)), ((u6 3), zI K 400 (fun _ => 0)), ((u6 4), zI K 1200 (fun _ => 0))] := hD
  refine lv_aload_n hx hb dX6_init_28 rfl (lv_at hl 0 rfl) ?_
  refine z_new (ci := 8) hx hb hg hown hK hP hD hS hA i_X10 rfl tyX10_ok mt158 mt100 mt5 7 2812 rfl rfl (Nat.le_of_ble_eq_true rfl) (Nat.le_of_ble_eq_true rfl) dX6_init_29 (fun q13 H hP hD hS => ?_)
  have hP : va_P K.1 classes [(a0, zO 5 9 gg11), (q5, zO 7 6 gg9), ((u6 0), zI K 400 (fun _ => 0)), ((u6 1), zI K 400 (fun _ => 0)), ((u6 2), zI K 400 (fun _ => 0)), ((u6 3), zI K 400 (fun _ => 0)), ((u6 4), zI K 1200 (fun _ => 0)), (q13, zO 8 6 (fun k => defaultValue (tyX10 k)))] H := hP
  have hD : va_D A [(a0, zO 5 9 gg11), (q5, zO 7 6 gg9), ((u6 0), zI K 400 (fun _ => 0)), ((u6 1), zI K 400 (fun _ => 0)), ((u6 2), zI K 400 (fun _ => 0)), ((u6 3), zI K 400 (fun _ => 0)), ((u6 4), zI K 1200 (fun _ => 0)), (q13, zO 8 6 (fun k => defaultValue (tyX10 k)))] := hD
  refine lv_dup hx hb dX6_init_32 rfl ?_
  refine lv_aload_n hx hb dX6_init_33 rfl (lv_at hl 0 rfl) ?_
  refine z_get (v := .ref q5) hx hb hg hown hK hP i_X6 rfl 0 rfl 2 (by decide) mt162 (zu_of y12 zu_eq) dX6_init_34 ?_
  refine z_callv [(q13, zO 8 6 (fun k => defaultValue (tyX10 k)))] [(a0, zO 5 9 gg11), (q5, zO 7 6 gg9), ((u6 0), zI K 400 (fun _ => 0)), ((u6 1), zI K 400 (fun _ => 0)), ((u6 2), zI K 400 (fun _ => 0)), ((u6 3), zI K 400 (fun _ => 0)), ((u6 4), zI K 1200 (fun _ => 0))] [7] [0, 1, 2, 3, 4, 5, 6] hP hD hS hA rfl rfl (by decide) (by decide) (by decide +kernel) 11 4412 rfl rfl (fun hPc hDc hF => z_runI (As := [.ref q5]) (rest := [.ref q13, .ref a0]) ⟨hx, hb, hml, hown, hg⟩ (cX10_init_1 l K H.size q13 q5 (fun k => defaultValue (tyX10 k))) mt103 mt5 mt159 mt102 rfl hd_X10_init rfl rfl ⟨(Nat.le_of_ble_eq_true rfl), (Nat.le_of_ble_eq_true rfl)⟩ hK hS hZ hPc hDc hF rfl hl.1 rfl (Nat.le_of_ble_eq_true rfl) dX6_init_37 ⟨(Nat.le_of_ble_eq_true rfl), (Nat.le_of_ble_eq_true rfl)⟩) (fun u14 H locs w15 hP hD hS => ?_)
  have hP : va_P K.1 classes [(a0, zO 5 9 gg11), (q5, zO 7 6 gg9), ((u6 0), zI K 400 (fun _ => 0)), ((u6 1), zI K 400 (fun _ => 0)), ((u6 2), zI K 400 (fun _ => 0)), ((u6 3), zI K 400 (fun _ => 0)), ((u6 4), zI K 1200 (fun _ => 0)), (q13, zO 8 6 (va_up (va_up (va_up (va_up (va_up (va_up (fun k => defaultValue (tyX10 k)) 0 (.ref (u14 0))) 1 (.ref (u14 1))) 2 (.ref (u14 2))) 3 (.ref (u14 3))) 4 (.ref q5)) 5 (.int 0))), ((u14 0), zI K 400 (fun _ => 0)), ((u14 1), zI K 400 (fun _ => 0)), ((u14 2), zZ K 400 (fun _ => 0)), ((u14 3), zZ K 400 (fun _ => 0))] H := hP
  have hD : va_D A [(a0, zO 5 9 gg11), (q5, zO 7 6 gg9), ((u6 0), zI K 400 (fun _ => 0)), ((u6 1), zI K 400 (fun _ => 0)), ((u6 2), zI K 400 (fun _ => 0)), ((u6 3), zI K 400 (fun _ => 0)), ((u6 4), zI K 1200 (fun _ => 0)), (q13, zO 8 6 (va_up (va_up (va_up (va_up (va_up (va_up (fun k => defaultValue (tyX10 k)) 0 (.ref (u14 0))) 1 (.ref (u14 1))) 2 (.ref (u14 2))) 3 (.ref (u14 3))) 4 (.ref q5)) 5 (.int 0))), ((u14 0), zI K 400 (fun _ => 0)), ((u14 1), zI K 400 (fun _ => 0)), ((u14 2), zZ K 400 (fun _ => 0)), ((u14 3), zZ K 400 (fun _ => 0))] := hD
  obtain ⟨gg17, y18⟩ : ∃ z, z = ((va_up (va_up (va_up (va_up (va_up (va_up (fun k => defaultValue (tyX10 k)) 0 (.ref (u14 0))) 1 (.ref (u14 1))) 2 (.ref (u14 2))) 3 (.ref (u14 3))) 4 (.ref q5)) 5 (.int 0)) : Nat → Value) := ⟨_, rfl⟩
  rw [← y18] at hP hD
  refine z_putF hx hb hg hown hK hP hD hS i_X6 rfl tyX6_ok nmX6 hin 0 rfl 3 (by decide) mt163 rfl rfl rfl rfl dX6_init_40 (fun gg19 H locs y20 hP hD hS => ?_)
  have hP : va_P K.1 classes [(a0, zO 5 9 gg19), (q5, zO 7 6 gg9), ((u6 0), zI K 400 (fun _ => 0)), ((u6 1), zI K 400 (fun _ => 0)), ((u6 2), zI K 400 (fun _ => 0)), ((u6 3), zI K 400 (fun _ => 0)), ((u6 4), zI K 1200 (fun _ => 0)), (q13, zO 8 6 gg17), ((u14 0), zI K 400 (fun _ => 0)), ((u14 1), zI K 400 (fun _ => 0)), ((u14 2), zZ K 400 (fun _ => 0)), ((u14 3), zZ K 400 (fun _ => 0))] H := hP
  have hD : va_D A [(a0, zO 5 9 gg19), (q5, zO 7 6 gg9), ((u6 0), zI K 400 (fun _ => 0)), ((u6 1), zI K 400 (fun _ => 0)), ((u6 2), zI K 400 (fun _ => 0)), ((u6 3), zI K 400 (fun _ => 0)), ((u6 4), zI K 1200 (fun _ => 0)), (q13, zO 8 6 gg17), ((u14 0), zI K 400 (fun _ => 0)), ((u14 1), zI K 400 (fun _ => 0)), ((u14 2), zZ K 400 (fun _ => 0)), ((u14 3), zZ K 400 (fun _ => 0))] := hD
  refine lv_aload_n hx hb dX6_init_43 rfl (lv_at hl 0 rfl) ?_
  refine lv_bipush (v := 8) hx hb dX6_init_44 (by decide) ?_
  refine z_newi hx hb (hg _ mt56) hK hP hD hS hA (N' := 8) rfl (Nat.le_of_ble_eq_true rfl) 12 4420 rfl rfl (Nat.le_of_ble_eq_true rfl) (Nat.le_of_ble_eq_true rfl) dX6_init_46 (fun q21 H hP hD hS => ?_)
  have hP : va_P K.1 classes [(a0, zO 5 9 gg19), (q5, zO 7 6 gg9), ((u6 0), zI K 400 (fun _ => 0)), ((u6 1), zI K 400 (fun _ => 0)), ((u6 2), zI K 400 (fun _ => 0)), ((u6 3), zI K 400 (fun _ => 0)), ((u6 4), zI K 1200 (fun _ => 0)), (q13, zO 8 6 gg17), ((u14 0), zI K 400 (fun _ => 0)), ((u14 1), zI K 400 (fun _ => 0)), ((u14 2), zZ K 400 (fun _ => 0)), ((u14 3), zZ K 400 (fun _ => 0)), (q21, zI K 8 (fun _ => 0))] H := hP
  have hD : va_D A [(a0, zO 5 9 gg19), (q5, zO 7 6 gg9), ((u6 0), zI K 400 (fun _ => 0)), ((u6 1), zI K 400 (fun _ => 0)), ((u6 2), zI K 400 (fun _ => 0)), ((u6 3), zI K 400 (fun _ => 0)), ((u6 4), zI K 1200 (fun _ => 0)), (q13, zO 8 6 gg17), ((u14 0), zI K 400 (fun _ => 0)), ((u14 1), zI K 400 (fun _ => 0)), ((u14 2), zZ K 400 (fun _ => 0)), ((u14 3), zZ K 400 (fun _ => 0)), (q21, zI K 8 (fun _ => 0))] := hD
  refine z_putF hx hb hg hown hK hP hD hS i_X6 rfl tyX6_ok nmX6 hin 0 rfl 4 (by decide) mt164 rfl rfl rfl rfl dX6_init_48 (fun gg22 H locs y23 hP hD hS => ?_)
  have hP : va_P K.1 classes [(a0, zO 5 9 gg22), (q5, zO 7 6 gg9), ((u6 0), zI K 400 (fun _ => 0)), ((u6 1), zI K 400 (fun _ => 0)), ((u6 2), zI K 400 (fun _ => 0)), ((u6 3), zI K 400 (fun _ => 0)), ((u6 4), zI K 1200 (fun _ => 0)), (q13, zO 8 6 gg17), ((u14 0), zI K 400 (fun _ => 0)), ((u14 1), zI K 400 (fun _ => 0)), ((u14 2), zZ K 400 (fun _ => 0)), ((u14 3), zZ K 400 (fun _ => 0)), (q21, zI K 8 (fun _ => 0))] H := hP
  have hD : va_D A [(a0, zO 5 9 gg22), (q5, zO 7 6 gg9), ((u6 0), zI K 400 (fun _ => 0)), ((u6 1), zI K 400 (fun _ => 0)), ((u6 2), zI K 400 (fun _ => 0)), ((u6 3), zI K 400 (fun _ => 0)), ((u6 4), zI K 1200 (fun _ => 0)), (q13, zO 8 6 gg17), ((u14 0), zI K 400 (fun _ => 0)), ((u14 1), zI K 400 (fun _ => 0)), ((u14 2), zZ K 400 (fun _ => 0)), ((u14 3), zZ K 400 (fun _ => 0)), (q21, zI K 8 (fun _ => 0))] := hD
  refine lv_aload_n hx hb dX6_init_51 rfl (lv_at hl 0 rfl) ?_
  refine lv_bipush (v := 8) hx hb dX6_init_52 (by decide) ?_
  refine z_newi hx hb (hg _ mt56) hK hP hD hS hA (N' := 8) rfl (Nat.le_of_ble_eq_true rfl) 13 4428 rfl rfl (Nat.le_of_ble_eq_true rfl) (Nat.le_of_ble_eq_true rfl) dX6_init_54 (fun q24 H hP hD hS => ?_)
  have hP : va_P K.1 classes [(a0, zO 5 9 gg22), (q5, zO 7 6 gg9), ((u6 0), zI K 400 (fun _ => 0)), ((u6 1), zI K 400 (fun _ => 0)), ((u6 2), zI K 400 (fun _ => 0)), ((u6 3), zI K 400 (fun _ => 0)), ((u6 4), zI K 1200 (fun _ => 0)), (q13, zO 8 6 gg17), ((u14 0), zI K 400 (fun _ => 0)), ((u14 1), zI K 400 (fun _ => 0)), ((u14 2), zZ K 400 (fun _ => 0)), ((u14 3), zZ K 400 (fun _ => 0)), (q21, zI K 8 (fun _ => 0)), (q24, zI K 8 (fun _ => 0))] H := hP
  have hD : va_D A [(a0, zO 5 9 gg22), (q5, zO 7 6 gg9), ((u6 0), zI K 400 (fun _ => 0)), ((u6 1), zI K 400 (fun _ => 0)), ((u6 2), zI K 400 (fun _ => 0)), ((u6 3), zI K 400 (fun _ => 0)), ((u6 4), zI K 1200 (fun _ => 0)), (q13, zO 8 6 gg17), ((u14 0), zI K 400 (fun _ => 0)), ((u14 1), zI K 400 (fun _ => 0)), ((u14 2), zZ K 400 (fun _ => 0)), ((u14 3), zZ K 400 (fun _ => 0)), (q21, zI K 8 (fun _ => 0)), (q24, zI K 8 (fun _ => 0))] := hD
  refine z_putF hx hb hg hown hK hP hD hS i_X6 rfl tyX6_ok nmX6 hin 0 rfl 5 (by decide) mt165 rfl rfl rfl rfl dX6_init_56 (fun gg25 H locs y26 hP hD hS => ?_)
  have hP : va_P K.1 classes [(a0, zO 5 9 gg25), (q5, zO 7 6 gg9), ((u6 0), zI K 400 (fun _ => 0)), ((u6 1), zI K 400 (fun _ => 0)), ((u6 2), zI K 400 (fun _ => 0)), ((u6 3), zI K 400 (fun _ => 0)), ((u6 4), zI K 1200 (fun _ => 0)), (q13, zO 8 6 gg17), ((u14 0), zI K 400 (fun _ => 0)), ((u14 1), zI K 400 (fun _ => 0)), ((u14 2), zZ K 400 (fun _ => 0)), ((u14 3), zZ K 400 (fun _ => 0)), (q21, zI K 8 (fun _ => 0)), (q24, zI K 8 (fun _ => 0))] H := hP
  have hD : va_D A [(a0, zO 5 9 gg25), (q5, zO 7 6 gg9), ((u6 0), zI K 400 (fun _ => 0)), ((u6 1), zI K 400 (fun _ => 0)), ((u6 2), zI K 400 (fun _ => 0)), ((u6 3), zI K 400 (fun _ => 0)), ((u6 4), zI K 1200 (fun _ => 0)), (q13, zO 8 6 gg17), ((u14 0), zI K 400 (fun _ => 0)), ((u14 1), zI K 400 (fun _ => 0)), ((u14 2), zZ K 400 (fun _ => 0)), ((u14 3), zZ K 400 (fun _ => 0)), (q21, zI K 8 (fun _ => 0)), (q24, zI K 8 (fun _ => 0))] := hD
  refine lv_aload_n hx hb dX6_init_59 rfl (lv_at hl 0 rfl) ?_
  refine lv_bipush (v := 8) hx hb dX6_init_60 (by decide) ?_
  refine z_newi hx hb (hg _ mt56) hK hP hD hS hA (N' := 8) rfl (Nat.le_of_ble_eq_true rfl) 14 4436 rfl rfl (Nat.le_of_ble_eq_true rfl) (Nat.le_of_ble_eq_true rfl) dX6_init_62 (fun q27 H hP hD hS => ?_)
  have hP : va_P K.1 classes [(a0, zO 5 9 gg25), (q5, zO 7 6 gg9), ((u6 0), zI K 400 (fun _ => 0)), ((u6 1), zI K 400 (fun _ => 0)), ((u6 2), zI K 400 (fun _ => 0)), ((u6 3), zI K 400 (fun _ => 0)), ((u6 4), zI K 1200 (fun _ => 0)), (q13, zO 8 6 gg17), ((u14 0), zI K 400 (fun _ => 0)), ((u14 1), zI K 400 (fun _ => 0)), ((u14 2), zZ K 400 (fun _ => 0)), ((u14 3), zZ K 400 (fun _ => 0)), (q21, zI K 8 (fun _ => 0)), (q24, zI K 8 (fun _ => 0)), (q27, zI K 8 (fun _ => 0))] H := hP
  have hD : va_D A [(a0, zO 5 9 gg25), (q5, zO 7 6 gg9), ((u6 0), zI K 400 (fun _ => 0)), ((u6 1), zI K 400 (fun _ => 0)), ((u6 2), zI K 400 (fun _ => 0)), ((u6 3), zI K 400 (fun _ => 0)), ((u6 4), zI K 1200 (fun _ => 0)), (q13, zO 8 6 gg17), ((u14 0), zI K 400 (fun _ => 0)), ((u14 1), zI K 400 (fun _ => 0)), ((u14 2), zZ K 400 (fun _ => 0)), ((u14 3), zZ K 400 (fun _ => 0)), (q21, zI K 8 (fun _ => 0)), (q24, zI K 8 (fun _ => 0)), (q27, zI K 8 (fun _ => 0))] := hD
  refine z_putF hx hb hg hown hK hP hD hS i_X6 rfl tyX6_ok nmX6 hin 0 rfl 6 (by decide) mt166 rfl rfl rfl rfl dX6_init_64 (fun gg28 H locs y29 hP hD hS => ?_)
  have hP : va_P K.1 classes [(a0, zO 5 9 gg28), (q5, zO 7 6 gg9), ((u6 0), zI K 400 (fun _ => 0)), ((u6 1), zI K 400 (fun _ => 0)), ((u6 2), zI K 400 (fun _ => 0)), ((u6 3), zI K 400 (fun _ => 0)), ((u6 4), zI K 1200 (fun _ => 0)), (q13, zO 8 6 gg17), ((u14 0), zI K 400 (fun _ => 0)), ((u14 1), zI K 400 (fun _ => 0)), ((u14 2), zZ K 400 (fun _ => 0)), ((u14 3), zZ K 400 (fun _ => 0)), (q21, zI K 8 (fun _ => 0)), (q24, zI K 8 (fun _ => 0)), (q27, zI K 8 (fun _ => 0))] H := hP
  have hD : va_D A [(a0, zO 5 9 gg28), (q5, zO 7 6 gg9), ((u6 0), zI K 400 (fun _ => 0)), ((u6 1), zI K 400 (fun _ => 0)), ((u6 2), zI K 400 (fun _ => 0)), ((u6 3), zI K 400 (fun _ => 0)), ((u6 4), zI K 1200 (fun _ => 0)), (q13, zO 8 6 gg17), ((u14 0), zI K 400 (fun _ => 0)), ((u14 1), zI K 400 (fun _ => 0)), ((u14 2), zZ K 400 (fun _ => 0)), ((u14 3), zZ K 400 (fun _ => 0)), (q21, zI K 8 (fun _ => 0)), (q24, zI K 8 (fun _ => 0)), (q27, zI K 8 (fun _ => 0))] := hD
  refine lv_aload_n hx hb dX6_init_67 rfl (lv_at hl 0 rfl) ?_
  refine lv_bipush (v := 8) hx hb dX6_init_68 (by decide) ?_
  refine z_newi hx hb (hg _ mt56) hK hP hD hS hA (N' := 8) rfl (Nat.le_of_ble_eq_true rfl) 15 4444 rfl rfl (Nat.le_of_ble_eq_true rfl) (Nat.le_of_ble_eq_true rfl) dX6_init_70 (fun q30 H hP hD hS => ?_)
  have hP : va_P K.1 classes [(a0, zO 5 9 gg28), (q5, zO 7 6 gg9), ((u6 0), zI K 400 (fun _ => 0)), ((u6 1), zI K 400 (fun _ => 0)), ((u6 2), zI K 400 (fun _ => 0)), ((u6 3), zI K 400 (fun _ => 0)), ((u6 4), zI K 1200 (fun _ => 0)), (q13, zO 8 6 gg17), ((u14 0), zI K 400 (fun _ => 0)), ((u14 1), zI K 400 (fun _ => 0)), ((u14 2), zZ K 400 (fun _ => 0)), ((u14 3), zZ K 400 (fun _ => 0)), (q21, zI K 8 (fun _ => 0)), (q24, zI K 8 (fun _ => 0)), (q27, zI K 8 (fun _ => 0)), (q30, zI K 8 (fun _ => 0))] H := hP
  have hD : va_D A [(a0, zO 5 9 gg28), (q5, zO 7 6 gg9), ((u6 0), zI K 400 (fun _ => 0)), ((u6 1), zI K 400 (fun _ => 0)), ((u6 2), zI K 400 (fun _ => 0)), ((u6 3), zI K 400 (fun _ => 0)), ((u6 4), zI K 1200 (fun _ => 0)), (q13, zO 8 6 gg17), ((u14 0), zI K 400 (fun _ => 0)), ((u14 1), zI K 400 (fun _ => 0)), ((u14 2), zZ K 400 (fun _ => 0)), ((u14 3), zZ K 400 (fun _ => 0)), (q21, zI K 8 (fun _ => 0)), (q24, zI K 8 (fun _ => 0)), (q27, zI K 8 (fun _ => 0)), (q30, zI K 8 (fun _ => 0))] := hD
  refine z_putF hx hb hg hown hK hP hD hS i_X6 rfl tyX6_ok nmX6 hin 0 rfl 7 (by decide) mt167 rfl rfl rfl rfl dX6_init_72 (fun gg31 H locs y32 hP hD hS => ?_)
  have hP : va_P K.1 classes [(a0, zO 5 9 gg31), (q5, zO 7 6 gg9), ((u6 0), zI K 400 (fun _ => 0)), ((u6 1), zI K 400 (fun _ => 0)), ((u6 2), zI K 400 (fun _ => 0)), ((u6 3), zI K 400 (fun _ => 0)), ((u6 4), zI K 1200 (fun _ => 0)), (q13, zO 8 6 gg17), ((u14 0), zI K 400 (fun _ => 0)), ((u14 1), zI K 400 (fun _ => 0)), ((u14 2), zZ K 400 (fun _ => 0)), ((u14 3), zZ K 400 (fun _ => 0)), (q21, zI K 8 (fun _ => 0)), (q24, zI K 8 (fun _ => 0)), (q27, zI K 8 (fun _ => 0)), (q30, zI K 8 (fun _ => 0))] H := hP
  have hD : va_D A [(a0, zO 5 9 gg31), (q5, zO 7 6 gg9), ((u6 0), zI K 400 (fun _ => 0)), ((u6 1), zI K 400 (fun _ => 0)), ((u6 2), zI K 400 (fun _ => 0)), ((u6 3), zI K 400 (fun _ => 0)), ((u6 4), zI K 1200 (fun _ => 0)), (q13, zO 8 6 gg17), ((u14 0), zI K 400 (fun _ => 0)), ((u14 1), zI K 400 (fun _ => 0)), ((u14 2), zZ K 400 (fun _ => 0)), ((u14 3), zZ K 400 (fun _ => 0)), (q21, zI K 8 (fun _ => 0)), (q24, zI K 8 (fun _ => 0)), (q27, zI K 8 (fun _ => 0)), (q30, zI K 8 (fun _ => 0))] := hD
  refine lv_aload_n hx hb dX6_init_75 rfl (lv_at hl 0 rfl) ?_
  refine lv_iconst (v := 0) hx hb dX6_init_76 (by decide) ?_
  refine z_put hx hb hg hown hK hP hD hS i_X6 rfl tyX6_ok nmX6 0 rfl 8 (by decide) mt168 rfl rfl rfl dX6_init_77 (fun gg33 H locs y34 hP hD hS => ?_)
  have hP : va_P K.1 classes [(a0, zO 5 9 gg33), (q5, zO 7 6 gg9), ((u6 0), zI K 400 (fun _ => 0)), ((u6 1), zI K 400 (fun _ => 0)), ((u6 2), zI K 400 (fun _ => 0)), ((u6 3), zI K 400 (fun _ => 0)), ((u6 4), zI K 1200 (fun _ => 0)), (q13, zO 8 6 gg17), ((u14 0), zI K 400 (fun _ => 0)), ((u14 1), zI K 400 (fun _ => 0)), ((u14 2), zZ K 400 (fun _ => 0)), ((u14 3), zZ K 400 (fun _ => 0)), (q21, zI K 8 (fun _ => 0)), (q24, zI K 8 (fun _ => 0)), (q27, zI K 8 (fun _ => 0)), (q30, zI K 8 (fun _ => 0))] H := hP
  have hD : va_D A [(a0, zO 5 9 gg33), (q5, zO 7 6 gg9), ((u6 0), zI K 400 (fun _ => 0)), ((u6 1), zI K 400 (fun _ => 0)), ((u6 2), zI K 400 (fun _ => 0)), ((u6 3), zI K 400 (fun _ => 0)), ((u6 4), zI K 1200 (fun _ => 0)), (q13, zO 8 6 gg17), ((u14 0), zI K 400 (fun _ => 0)), ((u14 1), zI K 400 (fun _ => 0)), ((u14 2), zZ K 400 (fun _ => 0)), ((u14 3), zZ K 400 (fun _ => 0)), (q21, zI K 8 (fun _ => 0)), (q24, zI K 8 (fun _ => 0)), (q27, zI K 8 (fun _ => 0)), (q30, zI K 8 (fun _ => 0))] := hD
  subst y34
  subst y32
  subst y29
  subst y26
  subst y23
  subst y20
  subst y18
  subst y12
  subst y10
  subst y4
  subst y2
  have hP9 : va_P K.1 classes [(a0, zO 5 9 (va_up (va_up (va_up (va_up (va_up (va_up (va_up (va_up (va_up g0 0 (.ref a1)) 1 (.ref a2)) 2 (.ref q5)) 3 (.ref q13)) 4 (.ref q21)) 5 (.ref q24)) 6 (.ref q27)) 7 (.ref q30)) 8 (.int 0))), (q5, zO 7 6 (va_up (va_up (va_up (va_up (va_up (va_up (fun k => defaultValue (tyX9 k)) 0 (.ref (u6 0))) 1 (.ref (u6 1))) 2 (.ref (u6 2))) 3 (.ref (u6 3))) 4 (.ref (u6 4))) 5 (.int 0))), ((u6 0), zI K 400 (fun _ => 0)), ((u6 1), zI K 400 (fun _ => 0)), ((u6 2), zI K 400 (fun _ => 0)), ((u6 3), zI K 400 (fun _ => 0)), ((u6 4), zI K 1200 (fun _ => 0)), (q13, zO 8 6 (va_up (va_up (va_up (va_up (va_up (va_up (fun k => defaultValue (tyX10 k)) 0 (.ref (u14 0))) 1 (.ref (u14 1))) 2 (.ref (u14 2))) 3 (.ref (u14 3))) 4 (.ref q5)) 5 (.int 0))), ((u14 0), zI K 400 (fun _ => 0)), ((u14 1), zI K 400 (fun _ => 0)), ((u14 2), zZ K 400 (fun _ => 0)), ((u14 3), zZ K 400 (fun _ => 0)), (q21, zI K 8 (fun _ => 0)), (q24, zI K 8 (fun _ => 0)), (q27, zI K 8 (fun _ => 0)), (q30, zI K 8 (fun _ => 0))] H := hP.sub [0, 1, 2, 3, 4, 5, 6, 7, 8, 9, 10, 11, 12, 13, 14, 15] rfl
  have hD9 : va_D A [(a0, zO 5 9 (va_up (va_up (va_up (va_up (va_up (va_up (va_up (va_up (va_up g0 0 (.ref a1)) 1 (.ref a2)) 2 (.ref q5)) 3 (.ref q13)) 4 (.ref q21)) 5 (.ref q24)) 6 (.ref q27)) 7 (.ref q30)) 8 (.int 0))), (q5, zO 7 6 (va_up (va_up (va_up (va_up (va_up (va_up (fun k => defaultValue (tyX9 k)) 0 (.ref (u6 0))) 1 (.ref (u6 1))) 2 (.ref (u6 2))) 3 (.ref (u6 3))) 4 (.ref (u6 4))) 5 (.int 0))), ((u6 0), zI K 400 (fun _ => 0)), ((u6 1), zI K 400 (fun _ => 0)), ((u6 2), zI K 400 (fun _ => 0)), ((u6 3), zI K 400 (fun _ => 0)), ((u6 4), zI K 1200 (fun _ => 0)), (q13, zO 8 6 (va_up (va_up (va_up (va_up (va_up (va_up (fun k => defaultValue (tyX10 k)) 0 (.ref (u14 0))) 1 (.ref (u14 1))) 2 (.ref (u14 2))) 3 (.ref (u14 3))) 4 (.ref q5)) 5 (.int 0))), ((u14 0), zI K 400 (fun _ => 0)), ((u14 1), zI K 400 (fun _ => 0)), ((u14 2), zZ K 400 (fun _ => 0)), ((u14 3), zZ K 400 (fun _ => 0)), (q21, zI K 8 (fun _ => 0)), (q24, zI K 8 (fun _ => 0)), (q27, zI K 8 (fun _ => 0)), (q30, zI K 8 (fun _ => 0))] := hD.sub [0, 1, 2, 3, 4, 5, 6, 7, 8, 9, 10, 11, 12, 13, 14, 15] (by decide) rfl
  exact z_vret hx hb hr (fun k => ([q5, (u6 0), (u6 1), (u6 2), (u6 3), (u6 4), q13, (u14 0), (u14 1), (u14 2), (u14 3), q21, q24, q27, q30] : List Nat).getD k 0) trivial hP9 hD9 hS (Nat.le_of_ble_eq_true rfl) (Nat.le_of_ble_eq_true rfl) hlocks dX6_init_80
set_option maxHeartbeats 4000000 in
set_option maxRecDepth 100000 in
theorem cX3_init_1 (l : Launch) (K : zK) (sz : Nat) (a0 : Nat) (a1 : Nat) (a2 : Nat) (g0 : Nat → Value) : Met l yX3_init (Cond.code yX3_init cX3_init 3 none :: WG) { frames := 1, cells := 1, slots := 512, locals := 12 } (zPre K [(a0, zO 3 7 g0)] sz [.ref a0, .ref a1, .ref a2]) (va_Qv (fun _ : Nat → Nat => True) (zB K (va_A [(a0, zO 3 7 g0)] sz) (fun u : Nat → Nat => [(a0, zO 3 7 (va_up (va_up (va_up (va_up (va_up (va_up (va_up g0 0 (.ref a1)) 1 (.ref a2)) 2 (.ref (u 0))) 3 (.int 0)) 4 (.int 0)) 5 (.int 0)) 6 (.int 0))), ((u 0), zR K 512 (fun _ => none))])) (va_A [(a0, zO 3 7 g0)] sz)) 1 512 (va_A [(a0, zO 3 7 g0)] sz) := by
  refine z_met (Qc := fun A => (va_Qv (fun _ : Nat → Nat => True) (zB K A (fun u : Nat → Nat => [(a0, zO 3 7 (va_up (va_up (va_up (va_up (va_up (va_up (va_up g0 0 (.ref a1)) 1 (.ref a2)) 2 (.ref (u 0))) 3 (.int 0)) 4 (.int 0)) 5 (.int 0)) 6 (.int 0))), ((u 0), zR K 512 (fun _ => none))])) A)) (by decide +kernel) (Nat.le_of_ble_eq_true rfl) ?_
  intro p e s m args below meth c A ls H hx hb hr hg hown hlocks hml hin hK hP hD hA hS hZ hl
  have hown : s.vm.findClass RX3 = some m.cls := hown
  have hl : lv_has ls 3 [(0, .ref a0), (1, .ref a1), (2, .ref a2)] := hl
  refine lv_aload_n hx hb dX3_init_0 rfl (lv_at hl 0 rfl) ?_
  refine W.objInit hx hb hown (hg _ mt199) (hg _ mt29) (hg _ mt30o) rfl (by rw [hml]; exact hl.1) rfl dX3_init_1 (Nat.le_of_ble_eq_true rfl) (Nat.le_of_ble_eq_true rfl) ?_
  refine W.eq (g2 := F0 m 4 ls []) rfl ?_
  refine lv_aload_n hx hb dX3_init_4 rfl (lv_at hl 0 rfl) ?_
  refine lv_aload_n hx hb dX3_init_5 rfl (lv_at hl 1 rfl) ?_
  refine z_putF hx hb hg hown hK hP hD hS i_X3 rfl tyX3_ok nmX3 hin 0 rfl 0 (by decide) mt202 rfl rfl rfl rfl dX3_init_6 (fun gg1 H locs y2 hP hD hS => ?_)
  have hP : va_P K.1 classes [(a0, zO 3 7 gg1)] H := hP
  have hD : va_D A [(a0, zO 3 7 gg1)] := hD
  refine lv_aload_n hx hb dX3_init_9 rfl (lv_at hl 0 rfl) ?_
  refine lv_aload_n hx hb dX3_init_10 rfl (lv_at hl 2 rfl) ?_
  refine z_putF hx hb hg hown hK hP hD hS i_X3 rfl tyX3_ok nmX3 hin 0 rfl 1 (by decide) mt203 rfl rfl rfl rfl dX3_init_11 (fun gg3 H locs y4 hP hD hS => ?_)
  have hP : va_P K.1 classes [(a0, zO 3 7 gg3)] H := hP
  have hD : va_D A [(a0, zO 3 7 gg3)] := hD
  refine lv_aload_n hx hb dX3_init_14 rfl (lv_at hl 0 rfl) ?_
  refine lv_sipush (v := 512) hx hb dX3_init_15 (by decide) ?_
  refine z_newr hx hb hown (hg _ mt200) hZ.1.1.1 hK hP hD hS hA (N' := 512) rfl (Nat.le_of_ble_eq_true rfl) 1 512 rfl rfl (Nat.le_of_ble_eq_true rfl) (Nat.le_of_ble_eq_true rfl) dX3_init_18 (fun q5 H hP hD hS => ?_)
  have hP : va_P K.1 classes [(a0, zO 3 7 gg3), (q5, zR K 512 (fun _ => none))] H := hP
  have hD : va_D A [(a0, zO 3 7 gg3), (q5, zR K 512 (fun _ => none))] := hD
  refine z_putF hx hb hg hown hK hP hD hS i_X3 rfl tyX3_ok nmX3 hin 0 rfl 2 (by decide) mt204 rfl rfl rfl rfl dX3_init_21 (fun gg6 H locs y7 hP hD hS => ?_)
  have hP : va_P K.1 classes [(a0, zO 3 7 gg6), (q5, zR K 512 (fun _ => none))] H := hP
  have hD : va_D A [(a0, zO 3 7 gg6), (q5, zR K 512 (fun _ => none))] := hD
  refine lv_aload_n hx hb dX3_init_24 rfl (lv_at hl 0 rfl) ?_
  refine lv_iconst (v := 0) hx hb dX3_init_25 (by decide) ?_
  refine z_put hx hb hg hown hK hP hD hS i_X3 rfl tyX3_ok nmX3 0 rfl 3 (by decide) mt205 rfl rfl rfl dX3_init_26 (fun gg8 H locs y9 hP hD hS => ?_)
  have hP : va_P K.1 classes [(a0, zO 3 7 gg8), (q5, zR K 512 (fun _ => none))] H := hP
  have hD : va_D A [(a0, zO 3 7 gg8), (q5, zR K 512 (fun _ => none))] := hD
  refine lv_aload_n hx hb dX3_init_29 rfl (lv_at hl 0 rfl) ?_
  refine lv_iconst (v := 0) hx hb dX3_init_30 (by decide) ?_
  refine z_put hx hb hg hown hK hP hD hS i_X3 rfl tyX3_ok nmX3 0 rfl 4 (by decide) mt206 rfl rfl rfl dX3_init_31 (fun gg10 H locs y11 hP hD hS => ?_)
  have hP : va_P K.1 classes [(a0, zO 3 7 gg10), (q5, zR K 512 (fun _ => none))] H := hP
  have hD : va_D A [(a0, zO 3 7 gg10), (q5, zR K 512 (fun _ => none))] := hD
  refine lv_aload_n hx hb dX3_init_34 rfl (lv_at hl 0 rfl) ?_
  refine lv_iconst (v := 0) hx hb dX3_init_35 (by decide) ?_
  refine z_put hx hb hg hown hK hP hD hS i_X3 rfl tyX3_ok nmX3 0 rfl 5 (by decide) mt207 rfl rfl rfl dX3_init_36 (fun gg12 H locs y13 hP hD hS => ?_)
  have hP : va_P K.1 classes [(a0, zO 3 7 gg12), (q5, zR K 512 (fun _ => none))] H := hP
  have hD : va_D A [(a0, zO 3 7 gg12), (q5, zR K 512 (fun _ => none))] := hD
  refine lv_aload_n hx hb dX3_init_39 rfl (lv_at hl 0 rfl) ?_
  refine lv_iconst (v := 0) hx hb dX3_init_40 (by decide) ?_
  refine z_put hx hb hg hown hK hP hD hS i_X3 rfl tyX3_ok nmX3 0 rfl 6 (by decide) mt208 rfl rfl rfl dX3_init_41 (fun gg14 H locs y15 hP hD hS => ?_)
  have hP : va_P K.1 classes [(a0, zO 3 7 gg14), (q5, zR K 512 (fun _ => none))] H := hP
  have hD : va_D A [(a0, zO 3 7 gg14), (q5, zR K 512 (fun _ => none))] := hD
  subst y15
  subst y13
  subst y11
  subst y9
  subst y7
  subst y4
  subst y2
  have hP9 : va_P K.1 classes [(a0, zO 3 7 (va_up (va_up (va_up (va_up (va_up (va_up (va_up g0 0 (.ref a1)) 1 (.ref a2)) 2 (.ref q5)) 3 (.int 0)) 4 (.int 0)) 5 (.int 0)) 6 (.int 0))), (q5, zR K 512 (fun _ => none))] H := hP.sub [0, 1] rfl
  have hD9 : va_D A [(a0, zO 3 7 (va_up (va_up (va_up (va_up (va_up (va_up (va_up g0 0 (.ref a1)) 1 (.ref a2)) 2 (.ref q5)) 3 (.int 0)) 4 (.int 0)) 5 (.int 0)) 6 (.int 0))), (q5, zR K 512 (fun _ => none))] := hD.sub [0, 1] (by decide) rfl
  exact z_vret hx hb hr (fun k => ([q5] : List Nat).getD k 0) trivial hP9 hD9 hS (Nat.le_of_ble_eq_true rfl) (Nat.le_of_ble_eq_true rfl) hlocks dX3_init_44
set_option maxHeartbeats 4000000 in
set_option maxRecDepth 100000 in
theorem cX2_init_1 (l : Launch) (K : zK) (sz : Nat) (a0 : Nat) (g0 : Nat → Value) : Met l yX2_init (Cond.code yX2_init cX2_init 1 none :: WG) { frames := 1, cells := 5, slots := 3040, locals := 12 } (zPre K [(a0, zO 2 6 g0)] sz [.ref a0]) (va_Qv (fun _ : Nat → Nat => True) (zB K (va_A [(a0, zO 2 6 g0)] sz) (fun u : Nat → Nat => [(a0, zO 2 6 (va_up (va_up (va_up (va_up (va_up (va_up g0 0 (.ref (u 0))) 1 (.ref (u 1))) 2 (.ref (u 2))) 3 (.ref (u 3))) 4 (.ref (u 4))) 5 (.int 0))), ((u 0), zI K 608 (fun _ => 0)), ((u 1), zI K 608 (fun _ => 0)), ((u 2), zI K 608 (fun _ => 0)), ((u 3), zI K 608 (fun _ => 0)), ((u 4), zI K 608 (fun _ => 0))])) (va_A [(a0, zO 2 6 g0)] sz)) 5 3040 (va_A [(a0, zO 2 6 g0)] sz) := by
  refine z_met (Qc := fun A => (va_Qv (fun _ : Nat → Nat => True) (zB K A (fun u : Nat → Nat => [(a0, zO 2 6 (va_up (va_up (va_up (va_up (va_up (va_up g0 0 (.ref (u 0))) 1 (.ref (u 1))) 2 (.ref (u 2))) 3 (.ref (u 3))) 4 (.ref (u 4))) 5 (.int 0))), ((u 0), zI K 608 (fun _ => 0)), ((u 1), zI K 608 (fun _ => 0)), ((u 2), zI K 608 (fun _ => 0)), ((u 3), zI K 608 (fun _ => 0)), ((u 4), zI K 608 (fun _ => 0))])) A)) (by decide +kernel) (Nat.le_of_ble_eq_true rfl) ?_
  intro p e s m args below meth c A ls H hx hb hr hg hown hlocks hml hin hK hP hD hA hS hZ hl
  have hown : s.vm.findClass RX2 = some m.cls := hown
  have hl : lv_has ls 1 [(0, .ref a0)] := hl
  refine lv_aload_n hx hb dX2_init_0 rfl (lv_at hl 0 rfl) ?_
  refine W.objInit hx hb hown (hg _ mt229) (hg _ mt29) (hg _ mt30o) rfl (by rw [hml]; exact hl.1) rfl dX2_init_1 (Nat.le_of_ble_eq_true rfl) (Nat.le_of_ble_eq_true rfl) ?_
  refine W.eq (g2 := F0 m 4 ls []) rfl ?_
  refine lv_aload_n hx hb dX2_init_4 rfl (lv_at hl 0 rfl) ?_
  refine lv_sipush (v := 608) hx hb dX2_init_5 (by decide) ?_
  refine z_newi hx hb (hg _ mt56) hK hP hD hS hA (N' := 608) rfl (Nat.le_of_ble_eq_true rfl) 1 608 rfl rfl (Nat.le_of_ble_eq_true rfl) (Nat.le_of_ble_eq_true rfl) dX2_init_8 (fun q1 H hP hD hS => ?_)
  have hP : va_P K.1 classes [(a0, zO 2 6 g0), (q1, zI K 608 (fun _ => 0))] H := hP
  have hD : va_D A [(a0, zO 2 6 g0), (q1, zI K 608 (fun _ => 0))] := hD
  refine z_putF hx hb hg hown hK hP hD hS i_X2 rfl tyX2_ok nmX2 hin 0 rfl 0 (by decide) mt230 rfl rfl rfl rfl dX2_init_10 (fun gg2 H locs y3 hP hD hS => ?_)
  have hP : va_P K.1 classes [(a0, zO 2 6 gg2), (q1, zI K 608 (fun _ => 0))] H := hP
  have hD : va_D A [(a0, zO 2 6 gg2), (q1, zI K 608 (fun _ => 0))] := hD
  refine lv_aload_n hx hb dX2_init_13 rfl (lv_at hl 0 rfl) ?_
  refine lv_sipush (v := 608) hx hb dX2_init_14 (by decide) ?_
  refine z_newi hx hb (hg _ mt56) hK hP hD hS hA (N' := 608) rfl (Nat.le_of_ble_eq_true rfl) 2 1216 rfl rfl (Nat.le_of_ble_eq_true rfl) (Nat.le_of_ble_eq_true rfl) dX2_init_17 (fun q4 H hP hD hS => ?_)
  have hP : va_P K.1 classes [(a0, zO 2 6 gg2), (q1, zI K 608 (fun _ => 0)), (q4, zI K 608 (fun _ => 0))] H := hP
  have hD : va_D A [(a0, zO 2 6 gg2), (q1, zI K 608 (fun _ => 0)), (q4, zI K 608 (fun _ => 0))] := hD
  refine z_putF hx hb hg hown hK hP hD hS i_X2 rfl tyX2_ok nmX2 hin 0 rfl 1 (by decide) mt231 rfl rfl rfl rfl dX2_init_19 (fun gg5 H locs y6 hP hD hS => ?_)
  have hP : va_P K.1 classes [(a0, zO 2 6 gg5), (q1, zI K 608 (fun _ => 0)), (q4, zI K 608 (fun _ => 0))] H := hP
  have hD : va_D A [(a0, zO 2 6 gg5), (q1, zI K 608 (fun _ => 0)), (q4, zI K 608 (fun _ => 0))] := hD
  refine lv_aload_n hx hb dX2_init_22 rfl (lv_at hl 0 rfl) ?_
  refine lv_sipush (v := 608) hx hb dX2_init_23 (by decide) ?_
  refine z_newi hx hb (hg _ mt56) hK hP hD hS hA (N' := 608) rfl (Nat.le_of_ble_eq_true rfl) 3 1824 rfl rfl (Nat.le_of_ble_eq_true rfl) (Nat.le_of_ble_eq_true rfl) dX2_init_26 (fun q7 H hP hD hS => ?_)
  have hP : va_P K.1 classes [(a0, zO 2 6 gg5), (q1, zI K 608 (fun _ => 0)), (q4, zI K 608 (fun _ => 0)), (q7, zI K 608 (fun _ => 0))] H := hP
  have hD : va_D A [(a0, zO 2 6 gg5), (q1, zI K 608 (fun _ => 0)), (q4, zI K 608 (fun _ => 0)), (q7, zI K 608 (fun _ => 0))] := hD
  refine z_putF hx hb hg hown hK hP hD hS i_X2 rfl tyX2_ok nmX2 hin 0 rfl 2 (by decide) mt232 rfl rfl rfl rfl dX2_init_28 (fun gg8 H locs y9 hP hD hS => ?_)
  have hP : va_P K.1 classes [(a0, zO 2 6 gg8), (q1, zI K 608 (fun _ => 0)), (q4, zI K 608 (fun _ => 0)), (q7, zI K 608 (fun _ => 0))] H := hP
  have hD : va_D A [(a0, zO 2 6 gg8), (q1, zI K 608 (fun _ => 0)), (q4, zI K 608 (fun _ => 0)), (q7, zI K 608 (fun _ => 0))] := hD
  refine lv_aload_n hx hb dX2_init_31 rfl (lv_at hl 0 rfl) ?_
  refine lv_sipush (v := 608) hx hb dX2_init_32 (by decide) ?_
  refine z_newi hx hb (hg _ mt56) hK hP hD hS hA (N' := 608) rfl (Nat.le_of_ble_eq_true rfl) 4 2432 rfl rfl (Nat.le_of_ble_eq_true rfl) (Nat.le_of_ble_eq_true rfl) dX2_init_35 (fun q10 H hP hD hS => ?_)
  have hP : va_P K.1 classes [(a0, zO 2 6 gg8), (q1, zI K 608 (fun _ => 0)), (q4, zI K 608 (fun _ => 0)), (q7, zI K 608 (fun _ => 0)), (q10, zI K 608 (fun _ => 0))] H := hP
  have hD : va_D A [(a0, zO 2 6 gg8), (q1, zI K 608 (fun _ => 0)), (q4, zI K 608 (fun _ => 0)), (q7, zI K 608 (fun _ => 0)), (q10, zI K 608 (fun _ => 0))] := hD
  refine z_putF hx hb hg hown hK hP hD hS i_X2 rfl tyX2_ok nmX2 hin 0 rfl 3 (by decide) mt233 rfl rfl rfl rfl dX2_init_37 (fun gg11 H locs y12 hP hD hS => ?_)
  have hP : va_P K.1 classes [(a0, zO 2 6 gg11), (q1, zI K 608 (fun _ => 0)), (q4, zI K 608 (fun _ => 0)), (q7, zI K 608 (fun _ => 0)), (q10, zI K 608 (fun _ => 0))] H := hP
  have hD : va_D A [(a0, zO 2 6 gg11), (q1, zI K 608 (fun _ => 0)), (q4, zI K 608 (fun _ => 0)), (q7, zI K 608 (fun _ => 0)), (q10, zI K 608 (fun _ => 0))] := hD
  refine lv_aload_n hx hb dX2_init_40 rfl (lv_at hl 0 rfl) ?_
  refine lv_sipush (v := 608) hx hb dX2_init_41 (by decide) ?_
  refine z_newi hx hb (hg _ mt56) hK hP hD hS hA (N' := 608) rfl (Nat.le_of_ble_eq_true rfl) 5 3040 rfl rfl (Nat.le_of_ble_eq_true rfl) (Nat.le_of_ble_eq_true rfl) dX2_init_44 (fun q13 H hP hD hS => ?_)
  have hP : va_P K.1 classes [(a0, zO 2 6 gg11), (q1, zI K 608 (fun _ => 0)), (q4, zI K 608 (fun _ => 0)), (q7, zI K 608 (fun _ => 0)), (q10, zI K 608 (fun _ => 0)), (q13, zI K 608 (fun _ => 0))] H := hP
  have hD : va_D A [(a0, zO 2 6 gg11), (q1, zI K 608 (fun _ => 0)), (q4, zI K 608 (fun _ => 0)), (q7, zI K 608 (fun _ => 0)), (q10, zI K 608 (fun _ => 0)), (q13, zI K 608 (fun _ => 0))] := hD
  refine z_putF hx hb hg hown hK hP hD hS i_X2 rfl tyX2_ok nmX2 hin 0 rfl 4 (by decide) mt234 rfl rfl rfl rfl dX2_init_46 (fun gg14 H locs y15 hP hD hS => ?_)
  have hP : va_P K.1 classes [(a0, zO 2 6 gg14), (q1, zI K 608 (fun _ => 0)), (q4, zI K 608 (fun _ => 0)), (q7, zI K 608 (fun _ => 0)), (q10, zI K 608 (fun _ => 0)), (q13, zI K 608 (fun _ => 0))] H := hP
  have hD : va_D A [(a0, zO 2 6 gg14), (q1, zI K 608 (fun _ => 0)), (q4, zI K 608 (fun _ => 0)), (q7, zI K 608 (fun _ => 0)), (q10, zI K 608 (fun _ => 0)), (q13, zI K 608 (fun _ => 0))] := hD
  refine lv_aload_n hx hb dX2_init_49 rfl (lv_at hl 0 rfl) ?_
  refine lv_iconst (v := 0) hx hb dX2_init_50 (by decide) ?_
  refine z_put hx hb hg hown hK hP hD hS i_X2 rfl tyX2_ok nmX2 0 rfl 5 (by decide) mt235 rfl rfl rfl dX2_init_51 (fun gg16 H locs y17 hP hD hS => ?_)
  have hP : va_P K.1 classes [(a0, zO 2 6 gg16), (q1, zI K 608 (fun _ => 0)), (q4, zI K 608 (fun _ => 0)), (q7, zI K 608 (fun _ => 0)), (q10, zI K 608 (fun _ => 0)), (q13, zI K 608 (fun _ => 0))] H := hP
  have hD : va_D A [(a0, zO 2 6 gg16), (q1, zI K 608 (fun _ => 0)), (q4, zI K 608 (fun _ => 0)), (q7, zI K 608 (fun _ => 0)), (q10, zI K 608 (fun _ => 0)), (q13, zI K 608 (fun _ => 0))] := hD
  subst y17
  subst y15
  subst y12
  subst y9
  subst y6
  subst y3
  have hP9 : va_P K.1 classes [(a0, zO 2 6 (va_up (va_up (va_up (va_up (va_up (va_up g0 0 (.ref q1)) 1 (.ref q4)) 2 (.ref q7)) 3 (.ref q10)) 4 (.ref q13)) 5 (.int 0))), (q1, zI K 608 (fun _ => 0)), (q4, zI K 608 (fun _ => 0)), (q7, zI K 608 (fun _ => 0)), (q10, zI K 608 (fun _ => 0)), (q13, zI K 608 (fun _ => 0))] H := hP.sub [0, 1, 2, 3, 4, 5] rfl
  have hD9 : va_D A [(a0, zO 2 6 (va_up (va_up (va_up (va_up (va_up (va_up g0 0 (.ref q1)) 1 (.ref q4)) 2 (.ref q7)) 3 (.ref q10)) 4 (.ref q13)) 5 (.int 0))), (q1, zI K 608 (fun _ => 0)), (q4, zI K 608 (fun _ => 0)), (q7, zI K 608 (fun _ => 0)), (q10, zI K 608 (fun _ => 0)), (q13, zI K 608 (fun _ => 0))] := hD.sub [0, 1, 2, 3, 4, 5] (by decide) rfl
  exact z_vret hx hb hr (fun k => ([q1, q4, q7, q10, q13] : List Nat).getD k 0) trivial hP9 hD9 hS (Nat.le_of_ble_eq_true rfl) (Nat.le_of_ble_eq_true rfl) hlocks dX2_init_54
set_option maxHeartbeats 4000000 in
set_option maxRecDepth 100000 in
theorem cX1_init_1 (l : Launch) (K : zK) (sz : Nat) (a0 : Nat) (a1 : Nat) (a2 : Nat) (g0 : Nat → Value) : Met l yX1_init (Cond.code yX1_init cX1_init 3 none :: WG) { frames := 2, cells := 10, slots := 3579, locals := 34 } (zPre K [(a0, zO 1 18 g0)] sz [.ref a0, .ref a1, .ref a2]) (va_Qv (fun _ : Nat → Nat => True) (zB K (va_A [(a0, zO 1 18 g0)] sz) (fun u : Nat → Nat => [(a0, zO 1 18 (va_up (va_up (va_up (va_up (va_up (va_up (va_up g0 0 (.ref (u 0))) 1 (.ref (u 2))) 2 (.ref (u 8))) 3 (.ref (u 9))) 6 (.ref a1)) 11 (.int 6)) 17 (.int 0))), ((u 0), zO 3 7 (va_up (va_up (va_up (va_up (va_up (va_up (va_up (fun k => defaultValue (tyX3 k)) 0 (.ref a1)) 1 (.ref a2)) 2 (.ref (u 1))) 3 (.int 0)) 4 (.int 0)) 5 (.int 0)) 6 (.int 0))), ((u 1), zR K 512 (fun _ => none)), ((u 2), zO 2 6 (va_up (va_up (va_up (va_up (va_up (va_up (fun k => defaultValue (tyX2 k)) 0 (.ref (u 3))) 1 (.ref (u 4))) 2 (.ref (u 5))) 3 (.ref (u 6))) 4 (.ref (u 7))) 5 (.int 0))), ((u 3), zI K 608 (fun _ => 0)), ((u 4), zI K 608 (fun _ => 0)), ((u 5), zI K 608 (fun _ => 0)), ((u 6), zI K 608 (fun _ => 0)), ((u 7), zI K 608 (fun _ => 0)), ((u 8), zI K 10 (fun _ => 0)), ((u 9), zJ K 4 (fun _ => 0))])) (va_A [(a0, zO 1 18 g0)] sz)) 10 3579 (va_A [(a0, zO 1 18 g0)] sz) := by
  refine z_met (Qc := fun A => (va_Qv (fun _ : Nat → Nat => True) (zB K A (fun u : Nat → Nat => [(a0, zO 1 18 (va_up (va_up (va_up (va_up (va_up (va_up (va_up g0 0 (.ref (u 0))) 1 (.ref (u 2))) 2 (.ref (u 8))) 3 (.ref (u 9))) 6 (.ref a1)) 11 (.int 6)) 17 (.int 0))), ((u 0), zO 3 7 (va_up (va_up (va_up (va_up (va_up (va_up (va_up (fun k => defaultValue (tyX3 k)) 0 (.ref a1)) 1 (.ref a2)) 2 (.ref (u 1))) 3 (.int 0)) 4 (.int 0)) 5 (.int 0)) 6 (.int 0))), ((u 1), zR K 512 (fun _ => none)), ((u 2), zO 2 6 (va_up (va_up (va_up (va_up (va_up (va_up (fun k => defaultValue (tyX2 k)) 0 (.ref (u 3))) 1 (.ref (u 4))) 2 (.ref (u 5))) 3 (.ref (u 6))) 4 (.ref (u 7))) 5 (.int 0))), ((u 3), zI K 608 (fun _ => 0)), ((u 4), zI K 608 (fun _ => 0)), ((u 5), zI K 608 (fun _ => 0)), ((u 6), zI K 608 (fun _ => 0)), ((u 7), zI K 608 (fun _ => 0)), ((u 8), zI K 10 (fun _ => 0)), ((u 9), zJ K 4 (fun _ => 0))])) A)) (by decide +kernel) (Nat.le_of_ble_eq_true rfl) ?_
  intro p e s m args below meth c A ls H hx hb hr hg hown hlocks hml hin hK hP hD hA hS hZ hl
  have hown : s.vm.findClass RX1 = some m.cls := hown
  have hl : lv_has ls 3 [(0, .ref a0), (1, .ref a1), (2, .ref a2)] := hl
  refine lv_aload_n hx hb dX1_init_0 rfl (lv_at hl 0 rfl) ?_
  refine W.objInit hx hb hown (hg _ mt193) (hg _ mt29) (hg _ mt30o) rfl (by rw [hml]; exact hl.1) rfl dX1_init_1 (Nat.le_of_ble_eq_true rfl) (Nat.le_of_ble_eq_true rfl) ?_
  refine W.eq (g2 := F0 m 4 ls []) rfl ?_
  refine lv_aload_n hx hb dX1_init_4 rfl (lv_at hl 0 rfl) ?_
  refine z_new (ci := 3) hx hb hg hown hK hP hD hS hA i_X3 rfl tyX3_ok mt194 mt195 mt8 1 7 rfl rfl (Nat.le_of_ble_eq_true rfl) (Nat.le_of_ble_eq_true rfl) dX1_init_5 (fun q1 H hP hD hS => ?_)
  have hP : va_P K.1 classes [(a0, zO 1 18 g0), (q1, zO 3 7 (fun k => defaultValue (tyX3 k)))] H := hP
  have hD : va_D A [(a0, zO 1 18 g0), (q1, zO 3 7 (fun k => defaultValue (tyX3 k)))] := hD
  refine lv_dup hx hb dX1_init_8 rfl ?_
  refine lv_aload_n hx hb dX1_init_9 rfl (lv_at hl 1 rfl) ?_
  refine lv_aload_n hx hb dX1_init_10 rfl (lv_at hl 2 rfl) ?_
  refine z_callv [(q1, zO 3 7 (fun k => defaultValue (tyX3 k)))] [(a0, zO 1 18 g0)] [1] [0] hP hD hS hA rfl rfl (by decide) (by decide) (by decide +kernel) 2 519 rfl rfl (fun hPc hDc hF => z_runI (As := [.ref a1, .ref a2]) (rest := [.ref q1, .ref a0]) ⟨hx, hb, hml, hown, hg⟩ (cX3_init_1 l K H.size q1 a1 a2 (fun k => defaultValue (tyX3 k))) mt198 mt8 mt196 mt197 rfl hd_X3_init rfl rfl ⟨(Nat.le_of_ble_eq_true rfl), (Nat.le_of_ble_eq_true rfl)⟩ hK hS hZ hPc hDc hF rfl hl.1 rfl (Nat.le_of_ble_eq_true rfl) dX1_init_11 ⟨(Nat.le_of_ble_eq_true rfl), (Nat.le_of_ble_eq_true rfl)⟩) (fun u2 H locs w3 hP hD hS => ?_)
  have hP : va_P K.1 classes [(a0, zO 1 18 g0), (q1, zO 3 7 (va_up (va_up (va_up (va_up (va_up (va_up (va_up (fun k => defaultValue (tyX3 k)) 0 (.ref a1)) 1 (.ref a2)) 2 (.ref (u2 0))) 3 (.int 0)) 4 (.int 0)) 5 (.int 0)) 6 (.int 0))), ((u2 0), zR K 512 (fun _ => none))] H := hP
  have hD : va_D A [(a0, zO 1 18 g0), (q1, zO 3 7 (va_up (va_up (va_up (va_up (va_up (va_up (va_up (fun k => defaultValue (tyX3 k)) 0 (.ref a1)) 1 (.ref a2)) 2 (.ref (u2 0))) 3 (.int 0)) 4 (.int 0)) 5 (.int 0)) 6 (.int 0))), ((u2 0), zR K 512 (fun _ => none))] := hD
  obtain ⟨gg5, y6⟩ : ∃ z, z = ((va_up (va_up (va_up (va_up (va_up (va_up (va_up (fun k => defaultValue (tyX3 k)) 0 (.ref a1)) 1 (.ref a2)) 2 (.ref (u2 0))) 3 (.int 0)) 4 (.int 0)) 5 (.int 0)) 6 (.int 0)) : Nat → Value) := ⟨_, rfl⟩
  rw [← y6] at hP hD
  refine z_putF hx hb hg hown hK hP hD hS i_X1 rfl tyX1_ok nmX1 hin 0 rfl 0 (by decide) mt249 rfl rfl rfl rfl dX1_init_14 (fun gg7 H locs y8 hP hD hS => ?_)
  have hP : va_P K.1 classes [(a0, zO 1 18 gg7), (q1, zO 3 7 gg5), ((u2 0), zR K 512 (fun _ => none))] H := hP
  have hD : va_D A [(a0, zO 1 18 gg7), (q1, zO 3 7 gg5), ((u2 0), zR K 512 (fun _ => none))] := hD
  refine lv_aload_n hx hb dX1_init_17 rfl (lv_at hl 0 rfl) ?_
  refine z_new (ci := 2) hx hb hg hown hK hP hD hS hA i_X2 rfl tyX2_ok mt224 mt225 mt9 3 525 rfl rfl (Nat.le_of_ble_eq_true rfl) (Nat.le_of_ble_eq_true rfl) dX1_init_18 (fun q9 H hP hD hS => ?_)
  have hP : va_P K.1 classes [(a0, zO 1 18 gg7), (q1, zO 3 7 gg5), ((u2 0), zR K 512 (fun _ => none)), (q9, zO 2 6 (fun k => defaultValue (tyX2 k)))] H := hP
  have hD : va_D A [(a0, zO 1 18 gg7), (q1, zO 3 7 gg5), ((u2 0), zR K 512 (fun _ => none)), (q9, zO 2 6 (fun k => defaultValue (tyX2 k)))] := hD
  refine lv_dup hx hb dX1_init_21 rfl ?_
  refine z_callv [(q9, zO 2 6 (fun k => defaultValue (tyX2 k)))] [(a0, zO 1 18 gg7), (q1, zO 3 7 gg5), ((u2 0), zR K 512 (fun _ => none))] [3] [0, 1, 2] hP hD hS hA rfl rfl (by decide) (by decide) (by decide +kernel) 8 3565 rfl rfl (fun hPc hDc hF => z_runI (As := []) (rest := [.ref q9, .ref a0]) ⟨hx, hb, hml, hown, hg⟩ (cX2_init_1 l K H.size q9 (fun k => defaultValue (tyX2 k))) mt228 mt9 mt226 mt227 rfl hd_X2_init rfl rfl ⟨(Nat.le_of_ble_eq_true rfl), (Nat.le_of_ble_eq_true rfl)⟩ hK hS hZ hPc hDc hF rfl hl.1 rfl (Nat.le_of_ble_eq_true rfl) dX1_init_22 ⟨(Nat.le_of_ble_eq_true rfl), (Nat.le_of_ble_eq_true rfl)⟩) (fun u10 H locs w11 hP hD hS => ?_)
  have hP : va_P K.1 classes [(a0, zO 1 18 gg7), (q1, zO 3 7 gg5), ((u2 0), zR K 512 (fun _ => none)), (q9, zO 2 6 (va_up (va_up (va_up (va_up (va_up (va_up (fun k => defaultValue (tyX2 k)) 0 (.ref (u10 0))) 1 (.ref (u10 1))) 2 (.ref (u10 2))) 3 (.ref (u10 3))) 4 (.ref (u10 4))) 5 (.int 0))), ((u10 0), zI K 608 (fun _ => 0)), ((u10 1), zI K 608 (fun _ => 0)), ((u10 2), zI K 608 (fun _ => 0)), ((u10 3), zI K 608 (fun _ => 0)), ((u10 4), zI K 608 (fun _ => 0))] H := hP
  have hD : va_D A [(a0, zO 1 18 gg7), (q1, zO 3 7 gg5), ((u2 0), zR K 512 (fun _ => none)), (q9, zO 2 6 (va_up (va_up (va_up (va_up (va_up (va_up (fun k => defaultValue (tyX2 k)) 0 (.ref (u10 0))) 1 (.ref (u10 1))) 2 (.ref (u10 2))) 3 (.ref (u10 3))) 4 (.ref (u10 4))) 5 (.int 0))), ((u10 0), zI K 608 (fun _ => 0)), ((u10 1), zI K 608 (fun _ => 0)), ((u10 2), zI K 608 (fun _ => 0)), ((u10 3), zI K 608 (fun _ => 0)), ((u10 4), zI K 608 (fun _ => 0))] := hD
  obtain ⟨gg13, y14⟩ : ∃ z, z = ((va_up (va_up (va_up (va_up (va_up (va_up (fun k => defaultValue (tyX2 k)) 0 (.ref (u10 0))) 1 (.ref (u10 1))) 2 (.ref (u10 2))) 3 (.ref (u10 3))) 4 (.ref (u10 4))) 5 (.int 0)) : Nat → Value) := ⟨_, rfl⟩
  rw [← y14] at hP hD
  refine z_putF hx hb hg hown hK hP hD hS i_X1 rfl tyX1_ok nmX1 hin 0 rfl 1 (by decide) mt250 rfl rfl rfl rfl dX1_init_25 (fun gg15 H locs y16 hP hD hS => ?_)
  have hP : va_P K.1 classes [(a0, zO 1 18 gg15), (q1, zO 3 7 gg5), ((u2 0), zR K 512 (fun _ => none)), (q9, zO 2 6 gg13), ((u10 0), zI K 608 (fun _ => 0)), ((u10 1), zI K 608 (fun _ => 0)), ((u10 2), zI K 608 (fun _ => 0)), ((u10 3), zI K 608 (fun _ => 0)), ((u10 4), zI K 608 (fun _ => 0))] H := hP
  have hD : va_D A [(a0, zO 1 18 gg15), (q1, zO 3 7 gg5), ((u2 0), zR K 512 (fun _ => none)), (q9, zO 2 6 gg13), ((u10 0), zI K 608 (fun _ => 0)), ((u10 1), zI K 608 (fun _ => 0)), ((u10 2), zI K 608 (fun _ => 0)), ((u10 3), zI K 608 (fun _ => 0)), ((u10 4), zI K 608 (fun _ => 0))] := hD
  refine lv_aload_n hx hb dX1_init_28 rfl (lv_at hl 0 rfl) ?_
  refine lv_bipush (v := 10) hx hb dX1_init_29 (by decide) ?_
  refine z_newi hx hb (hg _ mt56) hK hP hD hS hA (N' := 10) rfl (Nat.le_of_ble_eq_true rfl) 9 3575 rfl rfl (Nat.le_of_ble_eq_true rfl) (Nat.le_of_ble_eq_true rfl) dX1_init_31 (fun q17 H hP hD hS => ?_)
  have hP : va_P K.1 classes [(a0, zO 1 18 gg15), (q1, zO 3 7 gg5), ((u2 0), zR K 512 (fun _ => none)), (q9, zO 2 6 gg13), ((u10 0), zI K 608 (fun _ => 0)), ((u10 1), zI K 608 (fun _ => 0)), ((u10 2), zI K 608 (fun _ => 0)), ((u10 3), zI K 608 (fun _ => 0)), ((u10 4), zI K 608 (fun _ => 0)), (q17, zI K 10 (fun _ => 0))] H := hP
  have hD : va_D A [(a0, zO 1 18 gg15), (q1, zO 3 7 gg5), ((u2 0), zR K 512 (fun _ => none)), (q9, zO 2 6 gg13), ((u10 0), zI K 608 (fun _ => 0)), ((u10 1), zI K 608 (fun _ => 0)), ((u10 2), zI K 608 (fun _ => 0)), ((u10 3), zI K 608 (fun _ => 0)), ((u10 4), zI K 608 (fun _ => 0)), (q17, zI K 10 (fun _ => 0))] := hD
  refine z_putF hx hb hg hown hK hP hD hS i_X1 rfl tyX1_ok nmX1 hin 0 rfl 2 (by decide) mt251 rfl rfl rfl rfl dX1_init_33 (fun gg18 H locs y19 hP hD hS => ?_)
  have hP : va_P K.1 classes [(a0, zO 1 18 gg18), (q1, zO 3 7 gg5), ((u2 0), zR K 512 (fun _ => none)), (q9, zO 2 6 gg13), ((u10 0), zI K 608 (fun _ => 0)), ((u10 1), zI K 608 (fun _ => 0)), ((u10 2), zI K 608 (fun _ => 0)), ((u10 3), zI K 608 (fun _ => 0)), ((u10 4), zI K 608 (fun _ => 0)), (q17, zI K 10 (fun _ => 0))] H := hP
  have hD : va_D A [(a0, zO 1 18 gg18), (q1, zO 3 7 gg5), ((u2 0), zR K 512 (fun _ => none)), (q9, zO 2 6 gg13), ((u10 0), zI K 608 (fun _ => 0)), ((u10 1), zI K 608 (fun _ => 0)), ((u10 2), zI K 608 (fun _ => 0)), ((u10 3), zI K 608 (fun _ => 0)), ((u10 4), zI K 608 (fun _ => 0)), (q17, zI K 10 (fun _ => 0))] := hD
  refine lv_aload_n hx hb dX1_init_36 rfl (lv_at hl 0 rfl) ?_
  refine lv_iconst (v := 4) hx hb dX1_init_37 (by decide) ?_
  refine z_newj hx hb (hg _ mt92) hK hP hD hS hA (N' := 4) rfl (Nat.le_of_ble_eq_true rfl) 10 3579 rfl rfl (Nat.le_of_ble_eq_true rfl) (Nat.le_of_ble_eq_true rfl) dX1_init_38 (fun q20 H hP hD hS => ?_)
  have hP : va_P K.1 classes [(a0, zO 1 18 gg18), (q1, zO 3 7 gg5), ((u2 0), zR K 512 (fun _ => none)), (q9, zO 2 6 gg13), ((u10 0), zI K 608 (fun _ => 0)), ((u10 1), zI K 608 (fun _ => 0)), ((u10 2), zI K 608 (fun _ => 0)), ((u10 3), zI K 608 (fun _ => 0)), ((u10 4), zI K 608 (fun _ => 0)), (q17, zI K 10 (fun _ => 0)), (q20, zJ K 4 (fun _ => 0))] H := hP
  have hD : va_D A [(a0, zO 1 18 gg18), (q1, zO 3 7 gg5), ((u2 0), zR K 512 (fun _ => none)), (q9, zO 2 6 gg13), ((u10 0), zI K 608 (fun _ => 0)), ((u10 1), zI K 608 (fun _ => 0)), ((u10 2), zI K 608 (fun _ => 0)), ((u10 3), zI K 608 (fun _ => 0)), ((u10 4), zI K 608 (fun _ => 0)), (q17, zI K 10 (fun _ => 0)), (q20, zJ K 4 (fun _ => 0))] := hD
  refine z_putF hx hb hg hown hK hP hD hS i_X1 rfl tyX1_ok nmX1 hin 0 rfl 3 (by decide) mt252 rfl rfl rfl rfl dX1_init_40 (fun gg21 H locs y22 hP hD hS => ?_)
  have hP : va_P K.1 classes [(a0, zO 1 18 gg21), (q1, zO 3 7 gg5), ((u2 0), zR K 512 (fun _ => none)), (q9, zO 2 6 gg13), ((u10 0), zI K 608 (fun _ => 0)), ((u10 1), zI K 608 (fun _ => 0)), ((u10 2), zI K 608 (fun _ => 0)), ((u10 3), zI K 608 (fun _ => 0)), ((u10 4), zI K 608 (fun _ => 0)), (q17, zI K 10 (fun _ => 0)), (q20, zJ K 4 (fun _ => 0))] H := hP
  have hD : va_D A [(a0, zO 1 18 gg21), (q1, zO 3 7 gg5), ((u2 0), zR K 512 (fun _ => none)), (q9, zO 2 6 gg13), ((u10 0), zI K 608 (fun _ => 0)), ((u10 1), zI K 608 (fun _ => 0)), ((u10 2), zI K 608 (fun _ => 0)), ((u10 3), zI K 608 (fun _ => 0)), ((u10 4), zI K 608 (fun _ => 0)), (q17, zI K 10 (fun _ => 0)), (q20, zJ K 4 (fun _ => 0))] := hD
  refine lv_aload_n hx hb dX1_init_43 rfl (lv_at hl 0 rfl) ?_
  refine lv_aload_n hx hb dX1_init_44 rfl (lv_at hl 1 rfl) ?_
  refine z_put hx hb hg hown hK hP hD hS i_X1 rfl tyX1_ok nmX1 0 rfl 6 (by decide) mt255 rfl rfl rfl dX1_init_45 (fun gg23 H locs y24 hP hD hS => ?_)
  have hP : va_P K.1 classes [(a0, zO 1 18 gg23), (q1, zO 3 7 gg5), ((u2 0), zR K 512 (fun _ => none)), (q9, zO 2 6 gg13), ((u10 0), zI K 608 (fun _ => 0)), ((u10 1), zI K 608 (fun _ => 0)), ((u10 2), zI K 608 (fun _ => 0)), ((u10 3), zI K 608 (fun _ => 0)), ((u10 4), zI K 608 (fun _ => 0)), (q17, zI K 10 (fun _ => 0)), (q20, zJ K 4 (fun _ => 0))] H := hP
  have hD : va_D A [(a0, zO 1 18 gg23), (q1, zO 3 7 gg5), ((u2 0), zR K 512 (fun _ => none)), (q9, zO 2 6 gg13), ((u10 0), zI K 608 (fun _ => 0)), ((u10 1), zI K 608 (fun _ => 0)), ((u10 2), zI K 608 (fun _ => 0)), ((u10 3), zI K 608 (fun _ => 0)), ((u10 4), zI K 608 (fun _ => 0)), (q17, zI K 10 (fun _ => 0)), (q20, zJ K 4 (fun _ => 0))] := hD
  refine lv_aload_n hx hb dX1_init_48 rfl (lv_at hl 0 rfl) ?_
  refine lv_bipush (v := 6) hx hb dX1_init_49 (by decide) ?_
  refine z_put hx hb hg hown hK hP hD hS i_X1 rfl tyX1_ok nmX1 0 rfl 11 (by decide) mt260 rfl rfl rfl dX1_init_51 (fun gg25 H locs y26 hP hD hS => ?_)
  have hP : va_P K.1 classes [(a0, zO 1 18 gg25), (q1, zO 3 7 gg5), ((u2 0), zR K 512 (fun _ => none)), (q9, zO 2 6 gg13), ((u10 0), zI K 608 (fun _ => 0)), ((u10 1), zI K 608 (fun _ => 0)), ((u10 2), zI K 608 (fun _ => 0)), ((u10 3), zI K 608 (fun _ => 0)), ((u10 4), zI K 608 (fun _ => 0)), (q17, zI K 10 (fun _ => 0)), (q20, zJ K 4 (fun _ => 0))] H := hP
  have hD : va_D A [(a0, zO 1 18 gg25), (q1, zO 3 7 gg5), ((u2 0), zR K 512 (fun _ => none)), (q9, zO 2 6 gg13), ((u10 0), zI K 608 (fun _ => 0)), ((u10 1), zI K 608 (fun _ => 0)), ((u10 2), zI K 608 (fun _ => 0)), ((u10 3), zI K 608 (fun _ => 0)), ((u10 4), zI K 608 (fun _ => 0)), (q17, zI K 10 (fun _ => 0)), (q20, zJ K 4 (fun _ => 0))] := hD
  refine lv_aload_n hx hb dX1_init_54 rfl (lv_at hl 0 rfl) ?_
  refine lv_iconst (v := 0) hx hb dX1_init_55 (by decide) ?_
  refine z_put hx hb hg hown hK hP hD hS i_X1 rfl tyX1_ok nmX1 0 rfl 17 (by decide) mt266 rfl rfl rfl dX1_init_56 (fun gg27 H locs y28 hP hD hS => ?_)
  have hP : va_P K.1 classes [(a0, zO 1 18 gg27), (q1, zO 3 7 gg5), ((u2 0), zR K 512 (fun _ => none)), (q9, zO 2 6 gg13), ((u10 0), zI K 608 (fun _ => 0)), ((u10 1), zI K 608 (fun _ => 0)), ((u10 2), zI K 608 (fun _ => 0)), ((u10 3), zI K 608 (fun _ => 0)), ((u10 4), zI K 608 (fun _ => 0)), (q17, zI K 10 (fun _ => 0)), (q20, zJ K 4 (fun _ => 0))] H := hP
  have hD : va_D A [(a0, zO 1 18 gg27), (q1, zO 3 7 gg5), ((u2 0), zR K 512 (fun _ => none)), (q9, zO 2 6 gg13), ((u10 0), zI K 608 (fun _ => 0)), ((u10 1), zI K 608 (fun _ => 0)), ((u10 2), zI K 608 (fun _ => 0)), ((u10 3), zI K 608 (fun _ => 0)), ((u10 4), zI K 608 (fun _ => 0)), (q17, zI K 10 (fun _ => 0)), (q20, zJ K 4 (fun _ => 0))] := hD
  subst y28
  subst y26
  subst y24
  subst y22
  subst y19
  subst y16
  subst y14
  subst y8
  subst y6
  have hP9 : va_P K.1 classes [(a0, zO 1 18 (va_up (va_up (va_up (va_up (va_up (va_up (va_up g0 0 (.ref q1)) 1 (.ref q9)) 2 (.ref q17)) 3 (.ref q20)) 6 (.ref a1)) 11 (.int 6)) 17 (.int 0))), (q1, zO 3 7 (va_up (va_up (va_up (va_up (va_up (va_up (va_up (fun k => defaultValue (tyX3 k)) 0 (.ref a1)) 1 (.ref a2)) 2 (.ref (u2 0))) 3 (.int 0)) 4 (.int 0)) 5 (.int 0)) 6 (.int 0))), ((u2 0), zR K 512 (fun _ => none)), (q9, zO 2 6 (va_up (va_up (va_up (va_up (va_up (va_up (fun k => defaultValue (tyX2 k)) 0 (.ref (u10 0))) 1 (.ref (u10 1))) 2 (.ref (u10 2))) 3 (.ref (u10 3))) 4 (.ref (u10 4))) 5 (.int 0))), ((u10 0), zI K 608 (fun _ => 0)), ((u10 1), zI K 608 (fun _ => 0)), ((u10 2), zI K 608 (fun _ => 0)), ((u10 3), zI K 608 (fun _ => 0)), ((u10 4), zI K 608 (fun _ => 0)), (q17, zI K 10 (fun _ => 0)), (q20, zJ K 4 (fun _ => 0))] H := hP.sub [0, 1, 2, 3, 4, 5, 6, 7, 8, 9, 10] rfl
  have hD9 : va_D A [(a0, zO 1 18 (va_up (va_up (va_up (va_up (va_up (va_up (va_up g0 0 (.ref q1)) 1 (.ref q9)) 2 (.ref q17)) 3 (.ref q20)) 6 (.ref a1)) 11 (.int 6)) 17 (.int 0))), (q1, zO 3 7 (va_up (va_up (va_up (va_up (va_up (va_up (va_up (fun k => defaultValue (tyX3 k)) 0 (.ref a1)) 1 (.ref a2)) 2 (.ref (u2 0))) 3 (.int 0)) 4 (.int 0)) 5 (.int 0)) 6 (.int 0))), ((u2 0), zR K 512 (fun _ => none)), (q9, zO 2 6 (va_up (va_up (va_up (va_up (va_up (va_up (fun k => defaultValue (tyX2 k)) 0 (.ref (u10 0))) 1 (.ref (u10 1))) 2 (.ref (u10 2))) 3 (.ref (u10 3))) 4 (.ref (u10 4))) 5 (.int 0))), ((u10 0), zI K 608 (fun _ => 0)), ((u10 1), zI K 608 (fun _ => 0)), ((u10 2), zI K 608 (fun _ => 0)), ((u10 3), zI K 608 (fun _ => 0)), ((u10 4), zI K 608 (fun _ => 0)), (q17, zI K 10 (fun _ => 0)), (q20, zJ K 4 (fun _ => 0))] := hD.sub [0, 1, 2, 3, 4, 5, 6, 7, 8, 9, 10] (by decide) rfl
  exact z_vret hx hb hr (fun k => ([q1, (u2 0), q9, (u10 0), (u10 1), (u10 2), (u10 3), (u10 4), q17, q20] : List Nat).getD k 0) trivial hP9 hD9 hS (Nat.le_of_ble_eq_true rfl) (Nat.le_of_ble_eq_true rfl) hlocks dX1_init_59
set_option maxHeartbeats 4000000 in
set_option maxRecDepth 100000 in
theorem cX11_init_1 (l : Launch) (K : zK) (sz : Nat) (a0 : Nat) (g0 : Nat → Value) : Met l yX11_init (Cond.code yX11_init cX11_init 1 none :: WG) { frames := 3, cells := 70, slots := 22841, locals := 56 } (zPre K [(a0, zO 9 9 g0)] sz [.ref a0]) (va_Qv (fun _ : Nat → Nat => True) (zB K (va_A [(a0, zO 9 9 g0)] sz) (fun u : Nat → Nat => [(a0, zO 9 9 (va_up (va_up (va_up (va_up (va_up (va_up (va_up (va_up (va_up g0 0 (.ref (u 0))) 1 (.ref (u 6))) 2 (.ref (u 7))) 3 (.ref (u 8))) 4 (.ref (u 20))) 5 (.ref (u 32))) 6 (.ref (u 43))) 7 (.ref (u 59))) 8 (.int 0))), ((u 0), zO 7 6 (va_up (va_up (va_up (va_up (va_up (va_up (fun k => defaultValue (tyX9 k)) 0 (.ref (u 1))) 1 (.ref (u 2))) 2 (.ref (u 3))) 3 (.ref (u 4))) 4 (.ref (u 5))) 5 (.int 0))), ((u 1), zI K 200 (fun _ => 0)), ((u 2), zI K 200 (fun _ => 0)), ((u 3), zI K 200 (fun _ => 0)), ((u 4), zI K 200 (fun _ => 0)), ((u 5), zI K 600 (fun _ => 0)), ((u 6), zI K 200 (fun _ => 0)), ((u 7), zI K 200 (fun _ => 0)), ((u 8), zO 4 6 (va_up (va_up (va_up (va_up (va_up (va_up (fun k => defaultValue (tyX5 k)) 0 (.ref (u 9))) 1 (.ref (u 15))) 2 (.ref (u 16))) 3 (.ref (u 17))) 4 (.ref (u 18))) 5 (.ref (u 19)))), ((u 9), zO 7 6 (va_up (va_up (va_up (va_up (va_up (va_up (va_up (fun k => defaultValue (tyX9 k)) 0 (.ref (u 10))) 1 (.ref (u 11))) 2 (.ref (u 12))) 3 (.ref (u 13))) 4 (.ref (u 14))) 5 (.int 0)) 5 (.int 645))), ((u 10), zI K 645 (fun _ => 0)), ((u 11), zI K 645 (fun _ => 0)), ((u 12), zI K 645 (fun _ => 0)), ((u 13), zI K 645 (fun _ => 0)), ((u 14), zI K 1935 (fun _ => 0)), ((u 15), zI K 8 (fun _ => 0)), ((u 16), zI K 8 (fun _ => 0)), ((u 17), zJ K 8 (fun _ => 0)), ((u 18), zI K 240 (fun _ => 0)), ((u 19), zI K 240 (fun _ => 0)), ((u 20), zO 4 6 (va_up (va_up (va_up (va_up (va_up (va_up (fun k => defaultValue (tyX5 k)) 0 (.ref (u 21))) 1 (.ref (u 27))) 2 (.ref (u 28))) 3 (.ref (u 29))) 4 (.ref (u 30))) 5 (.ref (u 31)))), ((u 21), zO 7 6 (va_up (va_up (va_up (va_up (va_up (va_up (va_up (fun k => defaultValue (tyX9 k)) 0 (.ref (u 22))) 1 (.ref (u 23))) 2 (.ref (u 24))) 3 (.ref (u 25))) 4 (.ref (u 26))) 5 (.int 0)) 5 (.int 645))), ((u 22), zI K 645 (fun _ => 0)), ((u 23), zI K 645 (fun _ => 0)), ((u 24), zI K 645 (fun _ => 0)), ((u 25), zI K 645 (fun _ => 0)), ((u 26), zI K 1935 (fun _ => 0)), ((u 27), zI K 8 (fun _ => 0)), ((u 28), zI K 8 (fun _ => 0)), ((u 29), zJ K 8 (fun _ => 0)), ((u 30), zI K 240 (fun _ => 0)), ((u 31), zI K 240 (fun _ => 0)), ((u 32), zO 0 8 (va_up (va_up (va_up (va_up (va_up (va_up (va_up (va_up (fun k => defaultValue (tyX0 k)) 0 (.ref (u 8))) 1 (.ref (u 33))) 2 (.ref (u 38))) 3 (.ref (u 39))) 4 (.ref (u 40))) 5 (.ref (u 41))) 6 (.ref (u 42))) 7 (.int 0))), ((u 33), zO 8 6 (va_up (va_up (va_up (va_up (va_up (va_up (fun k => defaultValue (tyX10 k)) 0 (.ref (u 34))) 1 (.ref (u 35))) 2 (.ref (u 36))) 3 (.ref (u 37))) 4 (.ref (u 9))) 5 (.int 0))), ((u 34), zI K 400 (fun _ => 0)), ((u 35), zI K 400 (fun _ => 0)), ((u 36), zZ K 400 (fun _ => 0)), ((u 37), zZ K 400 (fun _ => 0)), ((u 38), zI K 645 (fun _ => 0)), ((u 39), zI K 8 (fun _ => 0)), ((u 40), zI K 8 (fun _ => 0)), ((u 41), zI K 8 (fun _ => 0)), ((u 42), zZ K 640 (fun _ => 0)), ((u 43), zO 5 9 (va_up (va_up (va_up (va_up (va_up (va_up (va_up (va_up (va_up (fun k => defaultValue (tyX6 k)) 0 (.ref (u 8))) 1 (.ref (u 32))) 2 (.ref (u 44))) 3 (.ref (u 50))) 4 (.ref (u 55))) 5 (.ref (u 56))) 6 (.ref (u 57))) 7 (.ref (u 58))) 8 (.int 0))), ((u 44), zO 7 6 (va_up (va_up (va_up (va_up (va_up (va_up (fun k => defaultValue (tyX9 k)) 0 (.ref (u 45))) 1 (.ref (u 46))) 2 (.ref (u 47))) 3 (.ref (u 48))) 4 (.ref (u 49))) 5 (.int 0))), ((u 45), zI K 400 (fun _ => 0)), ((u 46), zI K 400 (fun _ => 0)), ((u 47), zI K 400 (fun _ => 0)), ((u 48), zI K 400 (fun _ => 0)), ((u 49), zI K 1200 (fun _ => 0)), ((u 50), zO 8 6 (va_up (va_up (va_up (va_up (va_up (va_up (fun k => defaultValue (tyX10 k)) 0 (.ref (u 51))) 1 (.ref (u 52))) 2 (.ref (u 53))) 3 (.ref (u 54))) 4 (.ref (u 44))) 5 (.int 0))), ((u 51), zI K 400 (fun _ => 0)), ((u 52), zI K 400 (fun _ => 0)), ((u 53), zZ K 400 (fun _ => 0)), ((u 54), zZ K 400 (fun _ => 0)), ((u 55), zI K 8 (fun _ => 0)), ((u 56), zI K 8 (fun _ => 0)), ((u 57), zI K 8 (fun _ => 0)), ((u 58), zI K 8 (fun _ => 0)), ((u 59), zO 1 18 (va_up (va_up (va_up (va_up (va_up (va_up (va_up (fun k => defaultValue (tyX1 k)) 0 (.ref (u 60))) 1 (.ref (u 62))) 2 (.ref (u 68))) 3 (.ref (u 69))) 6 (.ref (u 8))) 11 (.int 6)) 17 (.int 0))), ((u 60), zO 3 7 (va_up (va_up (va_up (va_up (va_up (va_up (va_up (fun k => defaultValue (tyX3 k)) 0 (.ref (u 8))) 1 (.ref (u 20))) 2 (.ref (u 61))) 3 (.int 0)) 4 (.int 0)) 5 (.int 0)) 6 (.int 0))), ((u 61), zR K 512 (fun _ => none)), ((u 62), zO 2 6 (va_up (va_up (va_up (va_up (va_up (va_up (fun k => defaultValue (tyX2 k)) 0 (.ref (u 63))) 1 (.ref (u 64))) 2 (.ref (u 65))) 3 (.ref (u 66))) 4 (.ref (u 67))) 5 (.int 0))), ((u 63), zI K 608 (fun _ => 0)), ((u 64), zI K 608 (fun _ => 0)), ((u 65), zI K 608 (fun _ => 0)), ((u 66), zI K 608 (fun _ => 0)), ((u 67), zI K 608 (fun _ => 0)), ((u 68), zI K 10 (fun _ => 0)), ((u 69), zJ K 4 (fun _ => 0))])) (va_A [(a0, zO 9 9 g0)] sz)) 70 22841 (va_A [(a0, zO 9 9 g0)] sz) := by
  refine z_met (Qc := fun A => (va_Qv (fun _ : Nat → Nat => True) (zB K A (fun u : Nat → Nat => [(a0, zO 9 9 (va_up (va_up (va_up (va_up (va_up (va_up (va_up (va_up (va_up g0 0 (.ref (u 0))) 1 (.ref (u 6))) 2 (.ref (u 7))) 3 (.ref (u 8))) 4 (.ref (u 20))) 5 (.ref (u 32))) 6 (.ref (u 43))) 7 (.ref (u 59))) 8 (.int 0))), ((u 0), zO 7 6 (va_up (va_up (va_up (va_up (va_up (va_up (fun k => defaultValue (tyX9 k)) 0 (.ref (u 1))) 1 (.ref (u 2))) 2 (.ref (u 3))) 3 (.ref (u 4))) 4 (.ref (u 5))) 5 (.int 0))), ((u 1), zI K 200 (fun _ => 0)), ((u 2), zI K 200 (fun _ => 0)), ((u 3), zI K 200 (fun _ => 0)), ((u 4), zI K 200 (fun _ => 0)), ((u 5), zI K 600 (fun _ => 0)), ((u 6), zI K 200 (fun _ => 0)), ((u 7), zI K 200 (fun _ => 0)), ((u 8), zO 4 6 (va_up (va_up (va_up (va_up (va_up (va_up (fun k => defaultValue (tyX5 k)) 0 (.ref (u 9))) 1 (.ref (u 15))) 2 (.ref (u 16))) 3 (.ref (u 17))) 4 (.ref (u 18))) 5 (.ref (u 19)))), ((u 9), zO 7 6 (va_up (va_up (va_up (va_up (va_up (va_up (va_up (fun k => defaultValue (tyX9 k)) 0 (.ref (u 10))) 1 (.ref (u 11))) 2 (.ref (u 12))) 3 (.ref (u 13))) 4 (.ref (u 14))) 5 (.int 0)) 5 (.int 645))), ((u 10), zI K 645 (fun _ => 0)), ((u 11), zI K 645 (fun _ => 0)), ((u 12), zI K 645 (fun _ => 0)), ((u 13), zI K 645 (fun _ => 0)), ((u 14), zI K 1935 (fun _ => 0)), ((u 15), zI K 8 (fun _ => 0)), ((u 16), zI K 8 (fun _ => 0)), ((u 17), zJ K 8 (fun _ => 0)), ((u 18), zI K 240 (fun _ => 0)), ((u 19), zI K 240 (fun _ => 0)), ((u 20), zO 4 6 (va_up (va_up (va_up (va_up (va_up (va_up (fun k => defaultValue (tyX5 k)) 0 (.ref (u 21))) 1 (.ref (u 27))) 2 (.ref (u 28))) 3 (.ref (u 29))) 4 (.ref (u 30))) 5 (.ref (u 31)))), ((u 21), zO 7 6 (va_up (va_up (va_up (va_up (va_up (va_up (va_up (fun k => defaultValue (tyX9 k)) 0 (.ref (u 22))) 1 (.ref (u 23))) 2 (.ref (u 24))) 3 (.ref (u 25))) 4 (.ref (u 26))) 5 (.int 0)) 5 (.int 645))), ((u 22), zI K 645 (fun _ => 0)), ((u 23), zI K 645 (fun _ => 0)), ((u 24), zI K 645 (fun _ => 0)), ((u 25), zI K 645 (fun _ => 0)), ((u 26), zI K 1935 (fun _ => 0)), ((u 27), zI K 8 (fun _ => 0)), ((u 28), zI K 8 (fun _ => 0)), ((u 29), zJ K 8 (fun _ => 0)), ((u 30), zI K 240 (fun _ => 0)), ((u 31), zI K 240 (fun _ => 0)), ((u 32), zO 0 8 (va_up (va_up (va_up (va_up (va_up (va_up (va_up (va_up (fun k => defaultValue (tyX0 k)) 0 (.ref (u 8))) 1 (.ref (u 33))) 2 (.ref (u 38))) 3 (.ref (u 39))) 4 (.ref (u 40))) 5 (.ref (u 41))) 6 (.ref (u 42))) 7 (.int 0))), ((u 33), zO 8 6 (va_up (va_up (va_up (va_up (va_up (va_up (fun k => defaultValue (tyX10 k)) 0 (.ref (u 34))) 1 (.ref (u 35))) 2 (.ref (u 36))) 3 (.ref (u 37))) 4 (.ref (u 9))) 5 (.int 0))), ((u 34), zI K 400 (fun _ => 0)), ((u 35), zI K 400 (fun _ => 0)), ((u 36), zZ K 400 (fun _ => 0)), ((u 37), zZ K 400 (fun _ => 0)), ((u 38), zI K 645 (fun _ => 0)), ((u 39), zI K 8 (fun _ => 0)), ((u 40), zI K 8 (fun _ => 0)), ((u 41), zI K 8 (fun _ => 0)), ((u 42), zZ K 640 (fun _ => 0)), ((u 43), zO 5 9 (va_up (va_up (va_up (va_up (va_up (va_up (va_up (va_up (va_up (fun k => defaultValue (tyX6 k)) 0 (.ref (u 8))) 1 (.ref (u 32))) 2 (.ref (u 44))) 3 (.ref (u 50))) 4 (.ref (u 55))) 5 (.ref (u 56))) 6 (.ref (u 57))) 7 (.ref (u 58))) 8 (.int 0))), ((u 44), zO 7 6 (va_up (va_up (va_up (va_up (va_up (va_up (fun k => defaultValue (tyX9 k)) 0 (.ref (u 45))) 1 (.ref (u 46))) 2 (.ref (u 47))) 3 (.ref (u 48))) 4 (.ref (u 49))) 5 (.int 0))), ((u 45), zI K 400 (fun _ => 0)), ((u 46), zI K 400 (fun _ => 0)), ((u 47), zI K 400 (fun _ => 0)), ((u 48), zI K 400 (fun _ => 0)), ((u 49), zI K 1200 (fun _ => 0)), ((u 50), zO 8 6 (va_up (va_up (va_up (va_up (va_up (va_up (fun k => defaultValue (tyX10 k)) 0 (.ref (u 51))) 1 (.ref (u 52))) 2 (.ref (u 53))) 3 (.ref (u 54))) 4 (.ref (u 44))) 5 (.int 0))), ((u 51), zI K 400 (fun _ => 0)), ((u 52), zI K 400 (fun _ => 0)), ((u 53), zZ K 400 (fun _ => 0)), ((u 54), zZ K 400 (fun _ => 0)), ((u 55), zI K 8 (fun _ => 0)), ((u 56), zI K 8 (fun _ => 0)), ((u 57), zI K 8 (fun _ => 0)), ((u 58), zI K 8 (fun _ => 0)), ((u 59), zO 1 18 (va_up (va_up (va_up (va_up (va_up (va_up (va_up (fun k => defaultValue (tyX1 k)) 0 (.ref (u 60))) 1 (.ref (u 62))) 2 (.ref (u 68))) 3 (.ref (u 69))) 6 (.ref (u 8))) 11 (.int 6)) 17 (.int 0))), ((u 60), zO 3 7 (va_up (va_up (va_up (va_up (va_up (va_up (va_up (fun k => defaultValue (tyX3 k)) 0 (.ref (u 8))) 1 (.ref (u 20))) 2 (.ref (u 61))) 3 (.int 0)) 4 (.int 0)) 5 (.int 0)) 6 (.int 0))), ((u 61), zR K 512 (fun _ => none)), ((u 62), zO 2 6 (va_up (va_up (va_up (va_up (va_up (va_up (fun k => defaultValue (tyX2 k)) 0 (.ref (u 63))) 1 (.ref (u 64))) 2 (.ref (u 65))) 3 (.ref (u 66))) 4 (.ref (u 67))) 5 (.int 0))), ((u 63), zI K 608 (fun _ => 0)), ((u 64), zI K 608 (fun _ => 0)), ((u 65), zI K 608 (fun _ => 0)), ((u 66), zI K 608 (fun _ => 0)), ((u 67), zI K 608 (fun _ => 0)), ((u 68), zI K 10 (fun _ => 0)), ((u 69), zJ K 4 (fun _ => 0))])) A)) (by decide +kernel) (Nat.le_of_ble_eq_true rfl) ?_
  intro p e s m args below meth c A ls H hx hb hr hg hown hlocks hml hin hK hP hD hA hS hZ hl
  have hown : s.vm.findClass RX11 = some m.cls := hown
  have hl : lv_has ls 1 [(0, .ref a0)] := hl
  refine lv_aload_n hx hb dX11_init_0 rfl (lv_at hl 0 rfl) ?_
  refine W.objInit hx hb hown (hg _ mt28) (hg _ mt29) (hg _ mt30o) rfl (by rw [hml]; exact hl.1) rfl dX11_init_1 (Nat.le_of_ble_eq_true rfl) (Nat.le_of_ble_eq_true rfl) ?_
  refine W.eq (g2 := F0 m 4 ls []) rfl ?_
  refine lv_aload_n hx hb dX11_init_4 rfl (lv_at hl 0 rfl) ?_
  refine z_new (ci := 7) hx hb hg hown hK hP hD hS hA i_X9 rfl tyX9_ok mt31 mt32 mt2 1 6 rfl rfl (Nat.le_of_ble_eq_true rfl) (Nat.le_of_ble_eq_true rfl) dX11_init_5 (fun q1 H hP hD hS => ?_)
  have hP : va_P K.1 classes [(a0, zO 9 9 g0), (q1, zO 7 6 (fun k => defaultValue (tyX9 k)))] H := hP
  have hD : va_D A [(a0, zO 9 9 g0), (q1, zO 7 6 (fun k => defaultValue (tyX9 k)))] := hD
  refine lv_dup hx hb dX11_init_8 rfl ?_
  refine lv_sipush (v := 200) hx hb dX11_init_9 (by decide) ?_
  refine z_callv [(q1, zO 7 6 (fun k => defaultValue (tyX9 k)))] [(a0, zO 9 9 g0)] [1] [0] hP hD hS hA rfl rfl (by decide) (by decide) (by decide +kernel) 6 1406 rfl rfl (fun hPc hDc hF => z_runI (As := [.int 200]) (rest := [.ref q1, .ref a0]) ⟨hx, hb, hml, hown, hg⟩ (cX9_init_1 l K H.size q1 (fun k => defaultValue (tyX9 k))) mt35 mt2 mt33 mt34 rfl hd_X9_init rfl rfl ⟨(Nat.le_of_ble_eq_true rfl), (Nat.le_of_ble_eq_true rfl)⟩ hK hS hZ hPc hDc hF rfl hl.1 rfl (Nat.le_of_ble_eq_true rfl) dX11_init_12 ⟨(Nat.le_of_ble_eq_true rfl), (Nat.le_of_ble_eq_true rfl)⟩) (fun u2 H locs w3 hP hD hS => ?_)
  have hP : va_P K.1 classes [(a0, zO 9 9 g0), (q1, zO 7 6 (va_up (va_up (va_up (va_up (va_up (va_up (fun k => defaultValue (tyX9 k)) 0 (.ref (u2 0))) 1 (.ref (u2 1))) 2 (.ref (u2 2))) 3 (.ref (u2 3))) 4 (.ref (u2 4))) 5 (.int 0))), ((u2 0), zI K 200 (fun _ => 0)), ((u2 1), zI K 200 (fun _ => 0)), ((u2 2), zI K 200 (fun _ => 0)), ((u2 3), zI K 200 (fun _ => 0)), ((u2 4), zI K 600 (fun _ => 0))] H := hP
  have hD : va_D A [(a0, zO 9 9 g0), (q1, zO 7 6 (va_up (va_up (va_up (va_up (va_up (va_up (fun k => defaultValue (tyX9 k)) 0 (.ref (u2 0))) 1 (.ref (u2 1))) 2 (.ref (u2 2))) 3 (.ref (u2 3))) 4 (.ref (u2 4))) 5 (.int 0))), ((u2 0), zI K 200 (fun _ => 0)), ((u2 1), zI K 200 (fun _ => 0)), ((u2 2), zI K 200 (fun _ => 0)), ((u2 3), zI K 200 (fun _ => 0)), ((u2 4), zI K 600 (fun _ => 0))] := hD
  obtain ⟨gg5, y6⟩ : ∃ z, z = ((va_up (va_up (va_up (va_up (va_up (va_up (fun k => defaultValue (tyX9 k)) 0 (.ref (u2 0))) 1 (.ref (u2 1))) 2 (.ref (u2 2))) 3 (.ref (u2 3))) 4 (.ref (u2 4))) 5 (.int 0)) : Nat → Value) := ⟨_, rfl⟩
  rw [← y6] at hP hD
  refine z_putF hx hb hg hown hK hP hD hS i_X11 rfl tyX11_ok nmX11 hin 0 rfl 0 (by decide) mt304 rfl rfl rfl rfl dX11_init_15 (fun gg7 H locs y8 hP hD hS => ?_)
  have hP : va_P K.1 classes [(a0, zO 9 9 gg7), (q1, zO 7 6 gg5), ((u2 0), zI K 200 (fun _ => 0)), ((u2 1), zI K 200 (fun _ => 0)), ((u2 2), zI K 200 (fun _ => 0)), ((u2 3), zI K 200 (fun _ => 0)), ((u2 4), zI K 600 (fun _ => 0))] H := hP
  have hD : va_D A [(a0, zO 9 9 gg7), (q1, zO 7 6 gg5), ((u2 0), zI K 200 (fun _ => 0)), ((u2 1), zI K 200 (fun _ => 0)), ((u2 2), zI K 200 (fun _ => 0)), ((u2 3), zI K 200 (fun _ => 0)), ((u2 4), zI K 600 (fun _ => 0))] := hD
  refine lv_aload_n hx hb dX11_init_18 rfl (lv_at hl 0 rfl) ?_
  refine lv_sipush (v := 200) hx hb dX11_init_19 (by decide) ?_
  refine z_newi hx hb (hg _ mt56) hK hP hD hS hA (N' := 200) rfl (Nat.le_of_ble_eq_true rfl) 7 1606 rfl rfl (Nat.le_of_ble_eq_true rfl) (Nat.le_of_ble_eq_true rfl) dX11_init_22 (fun q9 H hP hD hS => ?_)
  have hP : va_P K.1 classes [(a0, zO 9 9 gg7), (q1, zO 7 6 gg5), ((u2 0), zI K 200 (fun _ => 0)), ((u2 1), zI K 200 (fun _ => 0)), ((u2 2), zI K 200 (fun _ => 0)), ((u2 3), zI K 200 (fun _ => 0)), ((u2 4), zI K 600 (fun _ => 0)), (q9, zI K 200 (fun _ => 0))] H := hP
  have hD : va_D A [(a0, zO 9 9 gg7), (q1, zO 7 6 gg5), ((u2 0), zI K 200 (fun _ => 0)), ((u2 1), zI K 200 (fun _ => 0)), ((u2 2), zI K 200 (fun _ => 0)), ((u2 3), zI K 200 (fun _ => 0)), ((u2 4), zI K 600 (fun _ => 0)), (q9, zI K 200 (fun _ => 0))] := hD
  refine z_putF hx hb hg hown hK hP hD hS i_X11 rfl tyX11_ok nmX11 hin 0 rfl 1 (by decide) mt305 rfl rfl rfl rfl dX11_init_24 (fun gg10 H locs y11 hP hD hS => ?_)
  have hP : va_P K.1 classes [(a0, zO 9 9 gg10), (q1, zO 7 6 gg5), ((u2 0), zI K 200 (fun _ => 0)), ((u2 1), zI K 200 (fun _ => 0)), ((u2 2), zI K 200 (fun _ => 0)), ((u2 3), zI K 200 (fun _ => 0)), ((u2 4), zI K 600 (fun _ => 0)), (q9, zI K 200 (fun _ => 0))] H := hP
  have hD : va_D A [(a0, zO 9 9 gg10), (q1, zO 7 6 gg5), ((u2 0), zI K 200 (fun _ => 0)), ((u2 1), zI K 200 (fun _ => 0)), ((u2 2), zI K 200 (fun _ => 0)), ((u2 3), zI K 200 (fun _ => 0)), ((u2 4), zI K 600 (fun _ => 0)), (q9, zI K 200 (fun _ => 0))] := hD
  refine lv_aload_n hx hb dX11_init_27 rfl (lv_at hl 0 rfl) ?_
  refine lv_sipush (v := 200) hx hb dX11_init_28 (by decide) ?_
  refine z_newi hx hb (hg _ mt56) hK hP hD hS hA (N' := 200) rfl (Nat.le_of_ble_eq_true rfl) 8 1806 rfl rfl (Nat.le_of_ble_eq_true rfl) (Nat.le_of_ble_eq_true rfl) dX11_init_31 (fun q12 H hP hD hS => ?_)
  have hP : va_P K.1 classes [(a0, zO 9 9 gg10), (q1, zO 7 6 gg5), ((u2 0), zI K 200 (fun _ => 0)), ((u2 1), zI K 200 (fun _ => 0)), ((u2 2), zI K 200 (fun _ => 0)), ((u2 3), zI K 200 (fun _ => 0)), ((u2 4), zI K 600 (fun _ => 0)), (q9, zI K 200 (fun _ => 0)), (q12, zI K 200 (fun _ => 0))] H := hP
  have hD : va_D A [(a0, zO 9 9 gg10), (q1, zO 7 6 gg5), ((u2 0), zI K 200 (fun _ => 0)), ((u2 1), zI K 200 (fun _ => 0)), ((u2 2), zI K 200 (fun _ => 0)), ((u2 3), zI K 200 (fun _ => 0)), ((u2 4), zI K 600 (fun _ => 0)), (q9, zI K 200 (fun _ => 0)), (q12, zI K 200 (fun _ => 0))] := hD
  refine z_putF hx hb hg hown hK hP hD hS i_X11 rfl tyX11_ok nmX11 hin 0 rfl 2 (by decide) mt306 rfl rfl rfl rfl dX11_init_33 (fun gg13 H locs y14 hP hD hS => ?_)
  have hP : va_P K.1 classes [(a0, zO 9 9 gg13), (q1, zO 7 6 gg5), ((u2 0), zI K 200 (fun _ => 0)), ((u2 1), zI K 200 (fun _ => 0)), ((u2 2), zI K 200 (fun _ => 0)), ((u2 3), zI K 200 (fun _ => 0)), ((u2 4), zI K 600 (fun _ => 0)), (q9, zI K 200 (fun _ => 0)), (q12, zI K 200 (fun _ => 0))] H := hP
  have hD : va_D A [(a0, zO 9 9 gg13), (q1, zO 7 6 gg5), ((u2 0), zI K 200 (fun _ => 0)), ((u2 1), zI K 200 (fun _ => 0)), ((u2 2), zI K 200 (fun _ => 0)), ((u2 3), zI K 200 (fun _ => 0)), ((u2 4), zI K 600 (fun _ => 0)), (q9, zI K 200 (fun _ => 0)), (q12, zI K 200 (fun _ => 0))] := hD
  refine lv_aload_n hx hb dX11_init_36 rfl (lv_at hl 0 rfl) ?_
  refine z_new (ci := 4) hx hb hg hown hK hP hD hS hA i_X5 rfl tyX5_ok mt57 mt58 mt3 9 1812 rfl rfl (Nat.le_of_ble_eq_true rfl) (Nat.le_of_ble_eq_true rfl) dX11_init_37 (fun q15 H hP hD hS => ?_)
  have hP : va_P K.1 classes [(a0, zO 9 9 gg13), (q1, zO 7 6 gg5), ((u2 0), zI K 200 (fun _ => 0)), ((u2 1), zI K 200 (fun _ => 0)), ((u2 2), zI K 200 (fun _ => 0)), ((u2 3), zI K 200 (fun _ => 0)), ((u2 4), zI K 600 (fun _ => 0)), (q9, zI K 200 (fun _ => 0)), (q12, zI K 200 (fun _ => 0)), (q15, zO 4 6 (fun k => defaultValue (tyX5 k)))] H := hP
  have hD : va_D A [(a0, zO 9 9 gg13), (q1, zO 7 6 gg5), ((u2 0), zI K 200 (fun _ => 0)), ((u2 1), zI K 200 (fun _ => 0)), ((u2 2), zI K 200 (fun _ => 0)), ((u2 3), zI K 200 (fun _ => 0)), ((u2 4), zI K 600 (fun _ => 0)), (q9, zI K 200 (fun _ => 0)), (q12, zI K 200 (fun _ => 0)), (q15, zO 4 6 (fun k => defaultValue (tyX5 k)))] := hD
  refine lv_dup hx hb dX11_init_40 rfl ?_
  refine z_callv [(q15, zO 4 6 (fun k => defaultValue (tyX5 k)))] [(a0, zO 9 9 gg13), (q1, zO 7 6 gg5), ((u2 0), zI K 200 (fun _ => 0)), ((u2 1), zI K 200 (fun _ => 0)), ((u2 2), zI K 200 (fun _ => 0)), ((u2 3), zI K 200 (fun _ => 0)), ((u2 4), zI K 600 (fun _ => 0)), (q9, zI K 200 (fun _ => 0)), (q12, zI K 200 (fun _ => 0))] [9] [0, 1, 2, 3, 4, 5, 6, 7, 8] hP hD hS hA rfl rfl (by decide) (by decide) (by decide +kernel) 20 6837 rfl rfl (fun hPc hDc hF => z_runI (As := []) (rest := [.ref q15, .ref a0]) ⟨hx, hb, hml, hown, hg⟩ (cX5_init_1 l K H.size q15 (fun k => defaultValue (tyX5 k))) mt61 mt3 mt59 mt60 rfl hd_X5_init rfl rfl ⟨(Nat.le_of_ble_eq_true rfl), (Nat.le_of_ble_eq_true rfl)⟩ hK hS hZ hPc hDc hF rfl hl.1 rfl (Nat.le_of_ble_eq_true rfl) dX11_init_41 ⟨(Nat.le_of_ble_eq_true rfl), (Nat.le_of_ble_eq_true rfl)⟩) (fun u16 H locs w17 hP hD hS => ?_)
  have hP : va_P K.1 classes [(a0, zO 9 9 gg13), (q1, zO 7 6 gg5), ((u2 0), zI K 200 (fun _ => 0)), ((u2 1), zI K 200 (fun _ => 0)), ((u2 2), zI K 200 (fun _ => 0)), ((u2 3), zI K 200 (fun _ => 0)), ((u2 4), zI K 600 (fun _ => 0)), (q9, zI K 200 (fun _ => 0)), (q12, zI K 200 (fun _ => 0)), (q15, zO 4 6 (va_up (va_up (va_up (va_up (va_up (va_up (fun k => defaultValue (tyX5 k)) 0 (.ref (u16 0))) 1 (.ref (u16 6))) 2 (.ref (u16 7))) 3 (.ref (u16 8))) 4 (.ref (u16 9))) 5 (.ref (u16 10)))), ((u16 0), zO 7 6 (va_up (va_up (va_up (va_up (va_up (va_up (va_up (fun k => defaultValue (tyX9 k)) 0 (.ref (u16 1))) 1 (.ref (u16 2))) 2 (.ref (u16 3))) 3 (.ref (u16 4))) 4 (.ref (u16 5))) 5 (.int 0)) 5 (.int 645))), ((u16 1), zI K 645 (fun _ => 0)), ((u16 2), zI K 645 (fun _ => 0)), ((u16 3), zI K 645 (fun _ => 0)), ((u16 4), zI K 645 (fun _ => 0)), ((u16 5), zI K 1935 (fun _ => 0)), ((u16 6), zI K 8 (fun _ => 0)), ((u16 7), zI K 8 (fun _ => 0)), ((u16 8), zJ K 8 (fun _ => 0)), ((u16 9), zI K 240 (fun _ => 0)), ((u16 10), zI K 240 (fun _ => 0))] H := hP
  have hD : va_D A [(a0, zO 9 9 gg13), (q1, zO 7 6 gg5), ((u2 0), zI K 200 (fun _ => 0)), ((u2 1), zI K 200 (fun _ => 0)), ((u2 2), zI K 200 (fun _ => 0)), ((u2 3), zI K 200 (fun _ => 0)), ((u2 4), zI K 600 (fun _ => 0)), (q9, zI K 200 (fun _ => 0)), (q12, zI K 200 (fun _ => 0)), (q15, zO 4 6 (va_up (va_up (va_up (va_up (va_up (va_up (fun k => defaultValue (tyX5 k)) 0 (.ref (u16 0))) 1 (.ref (u16 6))) 2 (.ref (u16 7))) 3 (.ref (u16 8))) 4 (.ref (u16 9))) 5 (.ref (u16 10)))), ((u16 0), zO 7 6 (va_up (va_up (va_up (va_up (va_up (va_up (va_up (fun k => defaultValue (tyX9 k)) 0 (.ref (u16 1))) 1 (.ref (u16 2))) 2 (.ref (u16 3))) 3 (.ref (u16 4))) 4 (.ref (u16 5))) 5 (.int 0)) 5 (.int 645))), ((u16 1), zI K 645 (fun _ => 0)), ((u16 2), zI K 645 (fun _ => 0)), ((u16 3), zI K 645 (fun _ => 0)), ((u16 4), zI K 645 (fun _ => 0)), ((u16 5), zI K 1935 (fun _ => 0)), ((u16 6), zI K 8 (fun _ => 0)), ((u16 7), zI K 8 (fun _ => 0)), ((u16 8), zJ K 8 (fun _ => 0)), ((u16 9), zI K 240 (fun _ => 0)), ((u16 10), zI K 240 (fun _ => 0))] := hD
  obtain ⟨gg19, y20⟩ : ∃ z, z = ((va_up (va_up (va_up (va_up (va_up (va_up (fun k => defaultValue (tyX5 k)) 0 (.ref (u16 0))) 1 (.ref (u16 6))) 2 (.ref (u16 7))) 3 (.ref (u16 8))) 4 (.ref (u16 9))) 5 (.ref (u16 10))) : Nat → Value) := ⟨_, rfl⟩
  rw [← y20] at hP hD
  obtain ⟨gg21, y22⟩ : ∃ z, z = ((va_up (va_up (va_up (va_up (va_up (va_up (va_up (fun k => defaultValue (tyX9 k)) 0 (.ref (u16 1))) 1 (.ref (u16 2))) 2 (.ref (u16 3))) 3 (.ref (u16 4))) 4 (.ref (u16 5))) 5 (.int 0)) 5 (.int 645)) : Nat → Value) := ⟨_, rfl⟩
  rw [← y22] at hP hD
  refine z_putF hx hb hg hown hK hP hD hS i_X11 rfl tyX11_ok nmX11 hin 0 rfl 3 (by decide) mt307 rfl rfl rfl rfl dX11_init_44 (fun gg23 H locs y24 hP hD hS => ?_)
  have hP : va_P K.1 classes [(a0, zO 9 9 gg23), (q1, zO 7 6 gg5), ((u2 0), zI K 200 (fun _ => 0)), ((u2 1), zI K 200 (fun _ => 0)), ((u2 2), zI K 200 (fun _ => 0)), ((u2 3), zI K 200 (fun _ => 0)), ((u2 4), zI K 600 (fun _ => 0)), (q9, zI K 200 (fun _ => 0)), (q12, zI K 200 (fun _ => 0)), (q15, zO 4 6 gg19), ((u16 0), zO 7 6 gg21), ((u16 1), zI K 645 (fun _ => 0)), ((u16 2), zI K 645 (fun _ => 0)), ((u16 3), zI K 645 (fun _ => 0)), ((u16 4), zI K 645 (fun _ => 0)), ((u16 5), zI K 1935 (fun _ => 0)), ((u16 6), zI K 8 (fun _ => 0)), ((u16 7), zI K 8 (fun _ => 0)), ((u16 8), zJ K 8 (fun _ => 0)), ((u16 9), zI K 240 (fun _ => 0)), ((u16 10), zI K 240 (fun _ => 0))] H := hP
  have hD : va_D A [(a0, zO 9 9 gg23), (q1, zO 7 6 gg5), ((u2 0), zI K 200 (fun _ => 0)), ((u2 1), zI K 200 (fun _ => 0)), ((u2 2), zI K 200 (fun _ => 0)), ((u2 3), zI K 200 (fun _ => 0)), ((u2 4), zI K 600 (fun _ => 0)), (q9, zI K 200 (fun _ => 0)), (q12, zI K 200 (fun _ => 0)), (q15, zO 4 6 gg19), ((u16 0), zO 7 6 gg21), ((u16 1), zI K 645 (fun _ => 0)), ((u16 2), zI K 645 (fun _ => 0)), ((u16 3), zI K 645 (fun _ => 0)), ((u16 4), zI K 645 (fun _ => 0)), ((u16 5), zI K 1935 (fun _ => 0)), ((u16 6), zI K 8 (fun _ => 0)), ((u16 7), zI K 8 (fun _ => 0)), ((u16 8), zJ K 8 (fun _ => 0)), ((u16 9), zI K 240 (fun _ => 0)), ((u16 10), zI K 240 (fun _ => 0))] := hD
  refine lv_aload_n hx hb dX11_init_47 rfl (lv_at hl 0 rfl) ?_
  refine z_new (ci := 4) hx hb hg hown hK hP hD hS hA i_X5 rfl tyX5_ok mt57 mt58 mt3 21 6843 rfl rfl (Nat.le_of_ble_eq_true rfl) (Nat.le_of_ble_eq_true rfl) dX11_init_48 (fun q25 H hP hD hS => ?_)
  have hP : va_P K.1 classes [(a0, zO 9 9 gg23), (q1, zO 7 6 gg5), ((u2 0), zI K 200 (fun _ => 0)), ((u2 1), zI K 200 (fun _ => 0)), ((u2 2), zI K 200 (fun _ => 0)), ((u2 3), zI K 200 (fun _ => 0)), ((u2 4), zI K 600 (fun _ => 0)), (q9, zI K 200 (fun _ => 0)), (q12, zI K 200 (fun _ => 0)), (q15, zO 4 6 gg19), ((u16 0), zO 7 6 gg21), ((u16 1), zI K 645 (fun _ => 0)), ((u16 2), zI K 645 (fun _ => 0)), ((u16 3), zI K 645 (fun _ => 0)), ((u16 4), zI K 645 (fun _ => 0)), ((u16 5), zI K 1935 (fun _ => 0)), ((u16 6), zI K 8 (fun _ => 0)), ((u16 7), zI K 8 (fun _ => 0)), ((u16 8), zJ K 8 (fun _ => 0)), ((u16 9), zI K 240 (fun _ => 0)), ((u16 10), zI K 240 (fun _ => 0)), (q25, zO 4 6 (fun k => defaultValue (tyX5 k)))] H := hP
  have hD : va_D A [(a0, zO 9 9 gg23), (q1, zO 7 6 gg5), ((u2 0), zI K 200 (fun _ => 0)), ((u2 1), zI K 200 (fun _ => 0)), ((u2 2), zI K 200 (fun _ => 0)), ((u2 3), zI K 200 (fun _ => 0)), ((u2 4), zI K 600 (fun _ => 0)), (q9, zI K 200 (fun _ => 0)), (q12, zI K 200 (fun _ => 0)), (q15, zO 4 6 gg19), ((u16 0), zO 7 6 gg21), ((u16 1), zI K 645 (fun _ => 0)), ((u16 2), zI K 645 (fun _ => 0)), ((u16 3), zI K 645 (fun _ => 0)), ((u16 4), zI K 645 (fun _ => 0)), ((u16 5), zI K 1935 (fun _ => 0)), ((u16 6), zI K 8 (fun _ => 0)), ((u16 7), zI K 8 (fun _ => 0)), ((u16 8), zJ K 8 (fun _ => 0)), ((u16 9), zI K 240 (fun _ => 0)), ((u16 10), zI K 240 (fun _ => 0)), (q25, zO 4 6 (fun k => defaultValue (tyX5 k)))] := hD
  refine lv_dup hx hb dX11_init_51 rfl ?_
  refine z_callv [(q25, zO 4 6 (fun k => defaultValue (tyX5 k)))] [(a0, zO 9 9 gg23), (q1, zO 7 6 gg5), ((u2 0), zI K 200 (fun _ => 0)), ((u2 1), zI K 200 (fun _ => 0)), ((u2 2), zI K 200 (fun _ => 0)), ((u2 3), zI K 200 (fun _ => 0)), ((u2 4), zI K 600 (fun _ => 0)), (q9, zI K 200 (fun _ => 0)), (q12, zI K 200 (fun _ => 0)), (q15, zO 4 6 gg19), ((u16 0), zO 7 6 gg21), ((u16 1), zI K 645 (fun _ => 0)), ((u16 2), zI K 645 (fun _ => 0)), ((u16 3), zI K 645 (fun _ => 0)), ((u16 4), zI K 645 (fun _ => 0)), ((u16 5), zI K 1935 (fun _ => 0)), ((u16 6), zI K 8 (fun _ => 0)), ((u16 7), zI K 8 (fun _ => 0)), ((u16 8), zJ K 8 (fun _ => 0)), ((u16 9), zI K 240 (fun _ => 0)), ((u16 10), zI K 240 (fun _ => 0))] [21] [0, 1, 2, 3, 4, 5, 6, 7, 8, 9, 10, 11, 12, 13, 14, 15, 16, 17, 18, 19, 20] hP hD hS hA rfl rfl (by decide) (by decide) (by decide +kernel) 32 11868 rfl rfl (fun hPc hDc hF => z_runI (As := []) (rest := [.ref q25, .ref a0]) ⟨hx, hb, hml, hown, hg⟩ (cX5_init_1 l K H.size q25 (fun k => defaultValue (tyX5 k))) mt61 mt3 mt59 mt60 rfl hd_X5_init rfl rfl ⟨(Nat.le_of_ble_eq_true rfl), (Nat.le_of_ble_eq_true rfl)⟩ hK hS hZ hPc hDc hF rfl hl.1 rfl (Nat.le_of_ble_eq_true rfl) dX11_init_52 ⟨(Nat.le_of_ble_eq_true rfl), (Nat.le_of_ble_eq_true rfl)⟩) (fun u26 H locs w27 hP hD hS => ?_)
  have hP : va_P K.1 classes [(a0, zO 9 9 gg23), (q1, zO 7 6 gg5), ((u2 0), zI K 200 (fun _ => 0)), ((u2 1), zI K 200 (fun _ => 0)), ((u2 2), zI K 200 (fun _ => 0)), ((u2 3), zI K 200 (fun _ => 0)), ((u2 4), zI K 600 (fun _ => 0)), (q9, zI K 200 (fun _ => 0)), (q12, zI K 200 (fun _ => 0)), (q15, zO 4 6 gg19), ((u16 0), zO 7 6 gg21), ((u16 1), zI K 645 (fun _ => 0)), ((u16 2), zI K 645 (fun _ => 0)), ((u16 3), zI K 645 (fun _ => 0)), ((u16 4), zI K 645 (fun _ => 0)), ((u16 5), zI K 1935 (fun _ => 0)), ((u16 6), zI K 8 (fun _ => 0)), ((u16 7), zI K 8 (fun _ => 0)), ((u16 8), zJ K 8 (fun _ => 0)), ((u16 9), zI K 240 (fun _ => 0)), ((u16 10), zI K 240 (fun _ => 0)), (q25, zO 4 6 (va_up (va_up (va_up (va_up (va_up (va_up (fun k => defaultValue (tyX5 k)) 0 (.ref (u26 0))) 1 (.ref (u26 6))) 2 (.ref (u26 7))) 3 (.ref (u26 8))) 4 (.ref (u26 9))) 5 (.ref (u26 10)))), ((u26 0), zO 7 6 (va_up (va_up (va_up (va_up (va_up (va_up (va_up (fun k => defaultValue (tyX9 k)) 0 (.ref (u26 1))) 1 (.ref (u26 2))) 2 (.ref (u26 3))) 3 (.ref (u26 4))) 4 (.ref (u26 5))) 5 (.int 0)) 5 (.int 645))), ((u26 1), zI K 645 (fun _ => 0)), ((u26 2), zI K 645 (fun _ => 0)), ((u26 3), zI K 645 (fun _ => 0)), ((u26 4), zI K 645 (fun _ => 0)), ((u26 5), zI K 1935 (fun _ => 0)), ((u26 6), zI K 8 (fun _ => 0)), ((u26 7), zI K 8 (fun _ => 0)), ((u26 8), zJ K 8 (fun _ => 0)), ((u26 9), zI K 240 (fun _ => 0)), ((u26 10), zI K 240 (fun _ => 0))] H := hP
  have hD : va_D A [(a0, zO 9 9 gg23), (q1, zO 7 6 gg5), ((u2 0), zI K 200 (fun _ => 0)), ((u2 1), zI K 200 (fun _ => 0)), ((u2 2), zI K 200 (fun _ => 0)), ((u2 3), zI K 200 (fun _ => 0)), ((u2 4), zI K 600 (fun _ => 0)), (q9, zI K 200 (fun _ => 0)), (q12, zI K 200 (fun _ => 0)), (q15, zO 4 6 gg19), ((u16 0), zO 7 6 gg21), ((u16 1), zI K 645 (fun _ => 0)), ((u16 2), zI K 645 (fun _ => 0)), ((u16 3), zI K 645 (fun _ => 0)), ((u16 4), zI K 645 (fun _ => 0)), ((u16 5), zI K 1935 (fun _ => 0)), ((u16 6), zI K 8 (fun _ => 0)), ((u16 7), zI K 8 (fun _ => 0)), ((u16 8), zJ K 8 (fun _ => 0)), ((u16 9), zI K 240 (fun _ => 0)), ((u16 10), zI K 240 (fun _ => 0)), (q25, zO 4 6 (va_up (va_up (va_up (va_up (va_up (va_up (fun k => defaultValue (tyX5 k)) 0 (.ref (u26 0))) 1 (.ref (u26 6))) 2 (.ref (u26 7))) 3 (.ref (u26 8))) 4 (.ref (u26 9))) 5 (.ref (u26 10)))), ((u26 0), zO 7 6 (va_up (va_up (va_up (va_up (va_up (va_up (va_up (fun k => defaultValue (tyX9 k)) 0 (.ref (u26 1))) 1 (.ref (u26 2))) 2 (.ref (u26 3))) 3 (.ref (u26 4))) 4 (.ref (u26 5))) 5 (.int 0)) 5 (.int 645))), ((u26 1), zI K 645 (fun _ => 0)), ((u26 2), zI K 645 (fun _ => 0)), ((u26 3), zI K 645 (fun _ => 0)), ((u26 4), zI K 645 (fun _ => 0)), ((u26 5), zI K 1935 (fun _ => 0)), ((u26 6), zI K 8 (fun _ => 0)), ((u26 7), zI K 8 (fun _ => 0)), ((u26 8), zJ K 8 (fun _ => 0)), ((u26 9), zI K 240 (fun _ => 0)), ((u26 10), zI K 240 (fun _ => 0))] := hD
  obtain ⟨gg29, y30⟩ : ∃ z, z = ((va_up (va_up (va_up (va_up (va_up (va_up (fun k => defaultValue (tyX5 k)) 0 (.ref (u26 0))) 1 (.ref (u26 6))) 2 (.ref (u26 7))) 3 (.ref (u26 8))) 4 (.ref (u26 9))) 5 (.ref (u26 10))) : Nat → Value) := ⟨_, rfl⟩
  rw [← y30] at hP hD
  obtain ⟨gg31, y32⟩ : ∃ z, z = ((va_up (va_up (va_up (va_up (va_up (va_up (va_up (fun k => defaultValue (tyX9 k)) 0 (.ref (u26 1))) 1 (.ref (u26 2))) 2 (.ref (u26 3))) 3 (.ref (u26 4))) 4 (.ref (u26 5))) 5 (.int 0)) 5 (.int 645)) : Nat → Value) := ⟨_, rfl⟩
  rw [← y32] at hP hD
  refine z_putF hx hb hg hown hK hP hD hS i_X11 rfl tyX11_ok nmX11 hin 0 rfl 4 (by decide) mt308 rfl rfl rfl rfl dX11_init_55 (fun gg33 H locs y34 hP hD hS => ?_)
  have hP : va_P K.1 classes [(a0, zO 9 9 gg33), (q1, zO 7 6 gg5), ((u2 0), zI K 200 (fun _ => 0)), ((u2 1), zI K 200 (fun _ => 0)), ((u2 2), zI K 200 (fun _ => 0)), ((u2 3), zI K 200 (fun _ => 0)), ((u2 4), zI K 600 (fun _ => 0)), (q9, zI K 200 (fun _ => 0)), (q12, zI K 200 (fun _ => 0)), (q15, zO 4 6 gg19), ((u16 0), zO 7 6 gg21), ((u16 1), zI K 645 (fun _ => 0)), ((u16 2), zI K 645 (fun _ => 0)), ((u16 3), zI K 645 (fun _ => 0)), ((u16 4), zI K 645 (fun _ => 0)), ((u16 5), zI K 1935 (fun _ => 0)), ((u16 6), zI K 8 (fun _ => 0)), ((u16 7), zI K 8 (fun _ => 0)), ((u16 8), zJ K 8 (fun _ => 0)), ((u16 9), zI K 240 (fun _ => 0)), ((u16 10), zI K 240 (fun _ => 0)), (q25, zO 4 6 gg29), ((u26 0), zO 7 6 gg31), ((u26 1), zI K 645 (fun _ => 0)), ((u26 2), zI K 645 (fun _ => 0)), ((u26 3), zI K 645 (fun _ => 0)), ((u26 4), zI K 645 (fun _ => 0)), ((u26 5), zI K 1935 (fun _ => 0)), ((u26 6), zI K 8 (fun _ => 0)), ((u26 7), zI K 8 (fun _ => 0)), ((u26 8), zJ K 8 (fun _ => 0)), ((u26 9), zI K 240 (fun _ => 0)), ((u26 10), zI K 240 (fun _ => 0))] H := hP
  have hD : va_D A [(a0, zO 9 9 gg33), (q1, zO 7 6 gg5), ((u2 0), zI K 200 (fun _ => 0)), ((u2 1), zI K 200 (fun _ => 0)), ((u2 2), zI K 200 (fun _ => 0)), ((u2 3), zI K 200 (fun _ => 0)), ((u2 4), zI K 600 (fun _ => 0)), (q9, zI K 200 (fun _ => 0)), (q12, zI K 200 (fun _ => 0)), (q15, zO 4 6 gg19), ((u16 0), zO 7 6 gg21), ((u16 1), zI K 645 (fun _ => 0)), ((u16 2), zI K 645 (fun _ => 0)), ((u16 3), zI K 645 (fun _ => 0)), ((u16 4), zI K 645 (fun _ => 0)), ((u16 5), zI K 1935 (fun _ => 0)), ((u16 6), zI K 8 (fun _ => 0)), ((u16 7), zI K 8 (fun _ => 0)), ((u16 8), zJ K 8 (fun _ => 0)), ((u16 9), zI K 240 (fun _ => 0)), ((u16 10), zI K 240 (fun _ => 0)), (q25, zO 4 6 gg29), ((u26 0), zO 7 6 gg31), ((u26 1), zI K 645 (fun _ => 0)), ((u26 2), zI K 645 (fun _ => 0)), ((u26 3), zI K 645 (fun _ => 0)), ((u26 4), zI K 645 (fun _ => 0)), ((u26 5), zI K 1935 (fun _ => 0)), ((u26 6), zI K 8 (fun _ => 0)), ((u26 7), zI K 8 (fun _ => 0)), ((u26 8), zJ K 8 (fun _ => 0)), ((u26 9), zI K 240 (fun _ => 0)), ((u26 10), zI K 240 (fun _ => 0))] := hD
  refine lv_aload_n hx hb dX11_init_58 rfl (lv_at hl 0 rfl) ?_
  refine z_new (ci := 0) hx hb hg hown hK hP hD hS hA i_X0 rfl tyX0_ok mt93 mt94 mt4 33 11876 rfl rfl (Nat.le_of_ble_eq_true rfl) (Nat.le_of_ble_eq_true rfl) dX11_init_59 (fun q35 H hP hD hS => ?_)
  have hP : va_P K.1 classes [(a0, zO 9 9 gg33), (q1, zO 7 6 gg5), ((u2 0), zI K 200 (fun _ => 0)), ((u2 1), zI K 200 (fun _ => 0)), ((u2 2), zI K 200 (fun _ => 0)), ((u2 3), zI K 200 (fun _ => 0)), ((u2 4), zI K 600 (fun _ => 0)), (q9, zI K 200 (fun _ => 0)), (q12, zI K 200 (fun _ => 0)), (q15, zO 4 6 gg19), ((u16 0), zO 7 6 gg21), ((u16 1), zI K 645 (fun _ => 0)), ((u16 2), zI K 645 (fun _ => 0)), ((u16 3), zI K 645 (fun _ => 0)), ((u16 4), zI K 645 (fun _ => 0)), ((u16 5), zI K 1935 (fun _ => 0)), ((u16 6), zI K 8 (fun _ => 0)), ((u16 7), zI K 8 (fun _ => 0)), ((u16 8), zJ K 8 (fun _ => 0)), ((u16 9), zI K 240 (fun _ => 0)), ((u16 10), zI K 240 (fun _ => 0)), (q25, zO 4 6 gg29), ((u26 0), zO 7 6 gg31), ((u26 1), zI K 645 (fun _ => 0)), ((u26 2), zI K 645 (fun _ => 0)), ((u26 3), zI K 645 (fun _ => 0)), ((u26 4), zI K 645 (fun _ => 0)), ((u26 5), zI K 1935 (fun _ => 0)), ((u26 6), zI K 8 (fun _ => 0)), ((u26 7), zI K 8 (fun _ => 0)), ((u26 8), zJ K 8 (fun _ => 0)), ((u26 9), zI K 240 (fun _ => 0)), ((u26 10), zI K 240 (fun _ => 0)), (q35, zO 0 8 (fun k => defaultValue (tyX0 k)))] H := hP
  have hD : va_D A [(a0, zO 9 9 gg33), (q1, zO 7 6 gg5), ((u2 0), zI K 200 (fun _ => 0)), ((u2 1), zI K 200 (fun _ => 0)), ((u2 2), zI K 200 (fun _ => 0)), ((u2 3), zI K 200 (fun _ => 0)), ((u2 4), zI K 600 (fun _ => 0)), (q9, zI K 200 (fun _ => 0)), (q12, zI K 200 (fun _ => 0)), (q15, zO 4 6 gg19), ((u16 0), zO 7 6 gg21), ((u16 1), zI K 645 (fun _ => 0)), ((u16 2), zI K 645 (fun _ => 0)), ((u16 3), zI K 645 (fun _ => 0)), ((u16 4), zI K 645 (fun _ => 0)), ((u16 5), zI K 1935 (fun _ => 0)), ((u16 6), zI K 8 (fun _ => 0)), ((u16 7), zI K 8 (fun _ => 0)), ((u16 8), zJ K 8 (fun _ => 0)), ((u16 9), zI K 240 (fun _ => 0)), ((u16 10), zI K 240 (fun _ => 0)), (q25, zO 4 6 gg29), ((u26 0), zO 7 6 gg31), ((u26 1), zI K 645 (fun _ => 0)), ((u26 2), zI K 645 (fun _ => 0)), ((u26 3), zI K 645 (fun _ => 0)), ((u26 4), zI K 645 (fun _ => 0)), ((u26 5), zI K 1935 (fun _ => 0)), ((u26 6), zI K 8 (fun _ => 0)), ((u26 7), zI K 8 (fun _ => 0)), ((u26 8), zJ K 8 (fun _ => 0)), ((u26 9), zI K 240 (fun _ => 0)), ((u26 10), zI K 240 (fun _ => 0)), (q35, zO 0 8 (fun k => defaultValue (tyX0 k)))] := hD
  refine lv_dup hx hb dX11_init_62 rfl ?_
  refine lv_aload_n hx hb dX11_init_63 rfl (lv_at hl 0 rfl) ?_
  refine z_get (v := .ref q15) hx hb hg hown hK hP i_X11 rfl 0 rfl 3 (by decide) mt307 (zu_of y34 (zu_ne (by decide) (zu_of y24 zu_eq))) dX11_init_64 ?_
  refine z_callv [(q35, zO 0 8 (fun k => defaultValue (tyX0 k))), (q15, zO 4 6 gg19)] [(a0, zO 9 9 gg33), (q1, zO 7 6 gg5), ((u2 0), zI K 200 (fun _ => 0)), ((u2 1), zI K 200 (fun _ => 0)), ((u2 2), zI K 200 (fun _ => 0)), ((u2 3), zI K 200 (fun _ => 0)), ((u2 4), zI K 600 (fun _ => 0)), (q9, zI K 200 (fun _ => 0)), (q12, zI K 200 (fun _ => 0)), ((u16 0), zO 7 6 gg21), ((u16 1), zI K 645 (fun _ => 0)), ((u16 2), zI K 645 (fun _ => 0)), ((u16 3), zI K 645 (fun _ => 0)), ((u16 4), zI K 645 (fun _ => 0)), ((u16 5), zI K 1935 (fun _ => 0)), ((u16 6), zI K 8 (fun _ => 0)), ((u16 7), zI K 8 (fun _ => 0)), ((u16 8), zJ K 8 (fun _ => 0)), ((u16 9), zI K 240 (fun _ => 0)), ((u16 10), zI K 240 (fun _ => 0)), (q25, zO 4 6 gg29), ((u26 0), zO 7 6 gg31), ((u26 1), zI K 645 (fun _ => 0)), ((u26 2), zI K 645 (fun _ => 0)), ((u26 3), zI K 645 (fun _ => 0)), ((u26 4), zI K 645 (fun _ => 0)), ((u26 5), zI K 1935 (fun _ => 0)), ((u26 6), zI K 8 (fun _ => 0)), ((u26 7), zI K 8 (fun _ => 0)), ((u26 8), zJ K 8 (fun _ => 0)), ((u26 9), zI K 240 (fun _ => 0)), ((u26 10), zI K 240 (fun _ => 0))] [33, 9] [0, 1, 2, 3, 4, 5, 6, 7, 8, 10, 11, 12, 13, 14, 15, 16, 17, 18, 19, 20, 21, 22, 23, 24, 25, 26, 27, 28, 29, 30, 31, 32] hP hD hS hA rfl rfl (by decide) (by decide) (by decide +kernel) 43 14791 rfl rfl (fun hPc hDc hF => z_runI (As := [.ref q15]) (rest := [.ref q35, .ref a0]) ⟨hx, hb, hml, hown, hg⟩ (cX0_init_1 l K H.size q35 q15 (u16 0) (fun k => defaultValue (tyX0 k)) gg19 (zu_of y20 (zu_ne (by decide) (zu_ne (by decide) (zu_ne (by decide) (zu_ne (by decide) (zu_ne (by decide) zu_eq))))))) mt97 mt4 mt95 mt96 rfl hd_X0_init rfl rfl ⟨(Nat.le_of_ble_eq_true rfl), (Nat.le_of_ble_eq_true rfl)⟩ hK hS hZ hPc hDc hF rfl hl.1 rfl (Nat.le_of_ble_eq_true rfl) dX11_init_67 ⟨(Nat.le_of_ble_eq_true rfl), (Nat.le_of_ble_eq_true rfl)⟩) (fun u36 H locs w37 hP hD hS => ?_)
  have hP : va_P K.1 classes [(a0, zO 9 9 gg33), (q1, zO 7 6 gg5), ((u2 0), zI K 200 (fun _ => 0)), ((u2 1), zI K 200 (fun _ => 0)), ((u2 2), zI K 200 (fun _ => 0)), ((u2 3), zI K 200 (fun _ => 0)), ((u2 4), zI K 600 (fun _ => 0)), (q9, zI K 200 (fun _ => 0)), (q12, zI K 200 (fun _ => 0)), ((u16 0), zO 7 6 gg21), ((u16 1), zI K 645 (fun _ => 0)), ((u16 2), zI K 645 (fun _ => 0)), ((u16 3), zI K 645 (fun _ => 0)), ((u16 4), zI K 645 (fun _ => 0)), ((u16 5), zI K 1935 (fun _ => 0)), ((u16 6), zI K 8 (fun _ => 0)), ((u16 7), zI K 8 (fun _ => 0)), ((u16 8), zJ K 8 (fun _ => 0)), ((u16 9), zI K 240 (fun _ => 0)), ((u16 10), zI K 240 (fun _ => 0)), (q25, zO 4 6 gg29), ((u26 0), zO 7 6 gg31), ((u26 1), zI K 645 (fun _ => 0)), ((u26 2), zI K 645 (fun _ => 0)), ((u26 3), zI K 645 (fun _ => 0)), ((u26 4), zI K 645 (fun _ => 0)), ((u26 5), zI K 1935 (fun _ => 0)), ((u26 6), zI K 8 (fun _ => 0)), ((u26 7), zI K 8 (fun _ => 0)), ((u26 8), zJ K 8 (fun _ => 0)), ((u26 9), zI K 240 (fun _ => 0)), ((u26 10), zI K 240 (fun _ => 0)), (q35, zO 0 8 (va_up (va_up (va_up (va_up (va_up (va_up (va_up (va_up (fun k => defaultValue (tyX0 k)) 0 (.ref q15)) 1 (.ref (u36 0))) 2 (.ref (u36 5))) 3 (.ref (u36 6))) 4 (.ref (u36 7))) 5 (.ref (u36 8))) 6 (.ref (u36 9))) 7 (.int 0))), (q15, zO 4 6 gg19), ((u36 0), zO 8 6 (va_up (va_up (va_up (va_up (va_up (va_up (fun k => defaultValue (tyX10 k)) 0 (.ref (u36 1))) 1 (.ref (u36 2))) 2 (.ref (u36 3))) 3 (.ref (u36 4))) 4 (.ref (u16 0))) 5 (.int 0))), ((u36 1), zI K 400 (fun _ => 0)), ((u36 2), zI K 400 (fun _ => 0)), ((u36 3), zZ K 400 (fun _ => 0)), ((u36 4), zZ K 400 (fun _ => 0)), ((u36 5), zI K 645 (fun _ => 0)), ((u36 6), zI K 8 (fun _ => 0)), ((u36 7), zI K 8 (fun _ => 0)), ((u36 8), zI K 8 (fun _ => 0)), ((u36 9), zZ K 640 (fun _ => 0))] H := hP
  have hD : va_D A [(a0, zO 9 9 gg33), (q1, zO 7 6 gg5), ((u2 0), zI K 200 (fun _ => 0)), ((u2 1), zI K 200 (fun _ => 0)), ((u2 2), zI K 200 (fun _ => 0)), ((u2 3), zI K 200 (fun _ => 0)), ((u2 4), zI K 600 (fun _ => 0)), (q9, zI K 200 (fun _ => 0)), (q12, zI K 200 (fun _ => 0)), ((u16 0), zO 7 6 gg21), ((u16 1), zI K 645 (fun _ => 0)), ((u16 2), zI K 645 (fun _ => 0)), ((u16 3), zI K 645 (fun _ => 0)), ((u16 4), zI K 645 (fun _ => 0)), ((u16 5), zI K 1935 (fun _ => 0)), ((u16 6), zI K 8 (fun _ => 0)), ((u16 7), zI K 8 (fun _ => 0)), ((u16 8), zJ K 8 (fun _ => 0)), ((u16 9), zI K 240 (fun _ => 0)), ((u16 10), zI K 240 (fun _ => 0)), (q25, zO 4 6 gg29), ((u26 0), zO 7 6 gg31), ((u26 1), zI K 645 (fun _ => 0)), ((u26 2), zI K 645 (fun _ => 0)), ((u26 3), zI K 645 (fun _ => 0)), ((u26 4), zI K 645 (fun _ => 0)), ((u26 5), zI K 1935 (fun _ => 0)), ((u26 6), zI K 8 (fun _ => 0)), ((u26 7), zI K 8 (fun _ => 0)), ((u26 8), zJ K 8 (fun _ => 0)), ((u26 9), zI K 240 (fun _ => 0)), ((u26 10), zI K 240 (fun _ => 0)), (q35, zO 0 8 (va_up (va_up (va_up (va_up (va_up (va_up (va_up (va_up (fun k => defaultValue (tyX0 k)) 0 (.ref q15)) 1 (.ref (u36 0))) 2 (.ref (u36 5))) 3 (.ref (u36 6))) 4 (.ref (u36 7))) 5 (.ref (u36 8))) 6 (.ref (u36 9))) 7 (.int 0))), (q15, zO 4 6 gg19), ((u36 0), zO 8 6 (va_up (va_up (va_up (va_up (va_up (va_up (fun k => defaultValue (tyX10 k)) 0 (.ref (u36 1))) 1 (.ref (u36 2))) 2 (.ref (u36 3))) 3 (.ref (u36 4))) 4 (.ref (u16 0))) 5 (.int 0))), ((u36 1), zI K 400 (fun _ => 0)), ((u36 2), zI K 400 (fun _ => 0)), ((u36 3), zZ K 400 (fun _ => 0)), ((u36 4), zZ K 400 (fun _ => 0)), ((u36 5), zI K 645 (fun _ => 0)), ((u36 6), zI K 8 (fun _ => 0)), ((u36 7), zI K 8 (fun _ => 0)), ((u36 8), zI K 8 (fun _ => 0)), ((u36 9), zZ K 640 (fun _ => 0))] := hD
  obtain ⟨gg39, y40⟩ : ∃ z, z = ((va_up (va_up (va_up (va_up (va_up (va_up (va_up (va_up (fun k => defaultValue (tyX0 k)) 0 (.ref q15)) 1 (.ref (u36 0))) 2 (.ref (u36 5))) 3 (.ref (u36 6))) 4 (.ref (u36 7))) 5 (.ref (u36 8))) 6 (.ref (u36 9))) 7 (.int 0)) : Nat → Value) := ⟨_, rfl⟩
  rw [← y40] at hP hD
  obtain ⟨gg41, y42⟩ : ∃ z, z = ((va_up (va_up (va_up (va_up (va_up (va_up (fun k => defaultValue (tyX10 k)) 0 (.ref (u36 1))) 1 (.ref (u36 2))) 2 (.ref (u36 3))) 3 (.ref (u36 4))) 4 (.ref (u16 0))) 5 (.int 0)) : Nat → Value) := ⟨_, rfl⟩
  rw [← y42] at hP hD
  refine z_putF hx hb hg hown hK hP hD hS i_X11 rfl tyX11_ok nmX11 hin 0 rfl 5 (by decide) mt309 rfl rfl rfl rfl dX11_init_70 (fun gg43 H locs y44 hP hD hS => ?_)
  have hP : va_P K.1 classes [(a0, zO 9 9 gg43), (q1, zO 7 6 gg5), ((u2 0), zI K 200 (fun _ => 0)), ((u2 1), zI K 200 (fun _ => 0)), ((u2 2), zI K 200 (fun _ => 0)), ((u2 3), zI K 200 (fun _ => 0)), ((u2 4), zI K 600 (fun _ => 0)), (q9, zI K 200 (fun _ => 0)), (q12, zI K 200 (fun _ => 0)), ((u16 0), zO 7 6 gg21), ((u16 1), zI K 645 (fun _ => 0)), ((u16 2), zI K 645 (fun _ => 0)), ((u16 3), zI K 645 (fun _ => 0)), ((u16 4), zI K 645 (fun _ => 0)), ((u16 5), zI K 1935 (fun _ => 0)), ((u16 6), zI K 8 (fun _ => 0)), ((u16 7), zI K 8 (fun _ => 0)), ((u16 8), zJ K 8 (fun _ => 0)), ((u16 9), zI K 240 (fun _ => 0)), ((u16 10), zI K 240 (fun _ => 0)), (q25, zO 4 6 gg29), ((u26 0), zO 7 6 gg31), ((u26 1), zI K 645 (fun _ => 0)), ((u26 2), zI K 645 (fun _ => 0)), ((u26 3), zI K 645 (fun _ => 0)), ((u26 4), zI K 645 (fun _ => 0)), ((u26 5), zI K 1935 (fun _ => 0)), ((u26 6), zI K 8 (fun _ => 0)), ((u26 7), zI K 8 (fun _ => 0)), ((u26 8), zJ K 8 (fun _ => 0)), ((u26 9), zI K 240 (fun _ => 0)), ((u26 10), zI K 240 (fun _ => 0)), (q35, zO 0 8 gg39), (q15, zO 4 6 gg19), ((u36 0), zO 8 6 gg41), ((u36 1), zI K 400 (fun _ => 0)), ((u36 2), zI K 400 (fun _ => 0)), ((u36 3), zZ K 400 (fun _ => 0)), ((u36 4), zZ K 400 (fun _ => 0)), ((u36 5), zI K 645 (fun _ => 0)), ((u36 6), zI K 8 (fun _ => 0)), ((u36 7), zI K 8 (fun _ => 0)), ((u36 8), zI K 8 (fun _ => 0)), ((u36 9), zZ K 640 (fun _ => 0))] H := hP
  have hD : va_D A [(a0, zO 9 9 gg43), (q1, zO 7 6 gg5), ((u2 0), zI K 200 (fun _ => 0)), ((u2 1), zI K 200 (fun _ => 0)), ((u2 2), zI K 200 (fun _ => 0)), ((u2 3), zI K 200 (fun _ => 0)), ((u2 4), zI K 600 (fun _ => 0)), (q9, zI K 200 (fun _ => 0)), (q12, zI K 200 (fun _ => 0)), ((u16 0), zO 7 6 gg21), ((u16 1), zI K 645 (fun _ => 0)), ((u16 2), zI K 645 (fun _ => 0)), ((u16 3), zI K 645 (fun _ => 0)), ((u16 4), zI K 645 (fun _ => 0)), ((u16 5), zI K 1935 (fun _ => 0)), ((u16 6), zI K 8 (fun _ => 0)), ((u16 7), zI K 8 (fun _ => 0)), ((u16 8), zJ K 8 (fun _ => 0)), ((u16 9), zI K 240 (fun _ => 0)), ((u16 10), zI K 240 (fun _ => 0)), (q25, zO 4 6 gg29), ((u26 0), zO 7 6 gg31), ((u26 1), zI K 645 (fun _ => 0)), ((u26 2), zI K 645 (fun _ => 0)), ((u26 3), zI K 645 (fun _ => 0)), ((u26 4), zI K 645 (fun _ => 0)), ((u26 5), zI K 1935 (fun _ => 0)), ((u26 6), zI K 8 (fun _ => 0)), ((u26 7), zI K 8 (fun _ => 0)), ((u26 8), zJ K 8 (fun _ => 0)), ((u26 9), zI K 240 (fun _ => 0)), ((u26 10), zI K 240 (fun _ => 0)), (q35, zO 0 8 gg39), (q15, zO 4 6 gg19), ((u36 0), zO 8 6 gg41), ((u36 1), zI K 400 (fun _ => 0)), ((u36 2), zI K 400 (fun _ => 0)), ((u36 3), zZ K 400 (fun _ => 0)), ((u36 4), zZ K 400 (fun _ => 0)), ((u36 5), zI K 645 (fun _ => 0)), ((u36 6), zI K 8 (fun _ => 0)), ((u36 7), zI K 8 (fun _ => 0)), ((u36 8), zI K 8 (fun _ => 0)), ((u36 9), zZ K 640 (fun _ => 0))] := hD
  refine lv_aload_n hx hb dX11_init_73 rfl (lv_at hl 0 rfl) ?_
  refine z_new (ci := 5) hx hb hg hown hK hP hD hS hA i_X6 rfl tyX6_ok mt150 mt151 mt6 44 14800 rfl rfl (Nat.le_of_ble_eq_true rfl) (Nat.le_of_ble_eq_true rfl) dX11_init_74 (fun q45 H hP hD hS => ?_)
  have hP : va_P K.1 classes [(a0, zO 9 9 gg43), (q1, zO 7 6 gg5), ((u2 0), zI K 200 (fun _ => 0)), ((u2 1), zI K 200 (fun _ => 0)), ((u2 2), zI K 200 (fun _ => 0)), ((u2 3), zI K 200 (fun _ => 0)), ((u2 4), zI K 600 (fun _ => 0)), (q9, zI K 200 (fun _ => 0)), (q12, zI K 200 (fun _ => 0)), ((u16 0), zO 7 6 gg21), ((u16 1), zI K 645 (fun _ => 0)), ((u16 2), zI K 645 (fun _ => 0)), ((u16 3), zI K 645 (fun _ => 0)), ((u16 4), zI K 645 (fun _ => 0)), ((u16 5), zI K 1935 (fun _ => 0)), ((u16 6), zI K 8 (fun _ => 0)), ((u16 7), zI K 8 (fun _ => 0)), ((u16 8), zJ K 8 (fun _ => 0)), ((u16 9), zI K 240 (fun _ => 0)), ((u16 10), zI K 240 (fun _ => 0)), (q25, zO 4 6 gg29), ((u26 0), zO 7 6 gg31), ((u26 1), zI K 645 (fun _ => 0)), ((u26 2), zI K 645 (fun _ => 0)), ((u26 3), zI K 645 (fun _ => 0)), ((u26 4), zI K 645 (fun _ => 0)), ((u26 5), zI K 1935 (fun _ => 0)), ((u26 6), zI K 8 (fun _ => 0)), ((u26 7), zI K 8 (fun _ => 0)), ((u26 8), zJ K 8 (fun _ => 0)), ((u26 9), zI K 240 (fun _ => 0)), ((u26 10), zI K 240 (fun _ => 0)), (q35, zO 0 8 gg39), (q15, zO 4 6 gg19), ((u36 0), zO 8 6 gg41), ((u36 1), zI K 400 (fun _ => 0)), ((u36 2), zI K 400 (fun _ => 0)), ((u36 3), zZ K 400 (fun _ => 0)), ((u36 4), zZ K 400 (fun _ => 0)), ((u36 5), zI K 645 (fun _ => 0)), ((u36 6), zI K 8 (fun _ => 0)), ((u36 7), zI K 8 (fun _ => 0)), ((u36 8), zI K 8 (fun _ => 0)), ((u36 9), zZ K 640 (fun _ => 0)), (q45, zO 5 9 (fun k => defaultValue (tyX6 k)))] H := hP
  have hD : va_D A [(a0, zO 9 9 gg43), (q1, zO 7 6 gg5), ((u2 0), zI K 200 (fun _ => 0)), ((u2 1), zI K 200 (fun _ => 0)), ((u2 2), zI K 200 (fun _ => 0)), ((u2 3), zI K 200 (fun _ => 0)), ((u2 4), zI K 600 (fun _ => 0)), (q9, zI K 200 (fun _ => 0)), (q12, zI K 200 (fun _ => 0)), ((u16 0), zO 7 6 gg21), ((u16 1), zI K 645 (fun _ => 0)), ((u16 2), zI K 645 (fun _ => 0)), ((u16 3), zI K 645 (fun _ => 0)), ((u16 4), zI K 645 (fun _ => 0)), ((u16 5), zI K 1935 (fun _ => 0)), ((u16 6), zI K 8 (fun _ => 0)), ((u16 7), zI K 8 (fun _ => 0)), ((u16 8), zJ K 8 (fun _ => 0)), ((u16 9), zI K 240 (fun _ => 0)), ((u16 10), zI K 240 (fun _ => 0)), (q25, zO 4 6 gg29), ((u26 0), zO 7 6 gg31), ((u26 1), zI K 645 (fun _ => 0)), ((u26 2), zI K 645 (fun _ => 0)), ((u26 3), zI K 645 (fun _ => 0)), ((u26 4), zI K 645 (fun _ => 0)), ((u26 5), zI K 1935 (fun _ => 0)), ((u26 6), zI K 8 (fun _ => 0)), ((u26 7), zI K 8 (fun _ => 0)), ((u26 8), zJ K 8 (fun _ => 0)), ((u26 9), zI K 240 (fun _ => 0)), ((u26 10), zI K 240 (fun _ => 0)), (q35, zO 0 8 gg39), (q15, zO 4 6 gg19), ((u36 0), zO 8 6 gg41), ((u36 1), zI K 400 (fun _ => 0)), ((u36 2), zI K 400 (fun _ => 0)), ((u36 3), zZ K 400 (fun _ => 0)), ((u36 4), zZ K 400 (fun _ => 0)), ((u36 5), zI K 645 (fun _ => 0)), ((u36 6), zI K 8 (fun _ => 0)), ((u36 7), zI K 8 (fun _ => 0)), ((u36 8), zI K 8 (fun _ => 0)), ((u36 9), zZ K 640 (fun _ => 0)), (q45, zO 5 9 (fun k => defaultValue (tyX6 k)))] := hD
  refine lv_dup hx hb dX11_init_77 rfl ?_
  refine lv_aload_n hx hb dX11_init_78 rfl (lv_at hl 0 rfl) ?_
  refine z_get (v := .ref q15) hx hb hg hown hK hP i_X11 rfl 0 rfl 3 (by decide) mt307 (zu_of y44 (zu_ne (by decide) (zu_of y34 (zu_ne (by decide) (zu_of y24 zu_eq))))) dX11_init_79 ?_
  refine lv_aload_n hx hb dX11_init_82 rfl (lv_at hl 0 rfl) ?_
  refine z_get (v := .ref q35) hx hb hg hown hK hP i_X11 rfl 0 rfl 5 (by decide) mt309 (zu_of y44 zu_eq) dX11_init_83 ?_
  refine z_callv [(q45, zO 5 9 (fun k => defaultValue (tyX6 k)))] [(a0, zO 9 9 gg43), (q1, zO 7 6 gg5), ((u2 0), zI K 200 (fun _ => 0)), ((u2 1), zI K 200 (fun _ => 0)), ((u2 2), zI K 200 (fun _ => 0)), ((u2 3), zI K 200 (fun _ => 0)), ((u2 4), zI K 600 (fun _ => 0)), (q9, zI K 200 (fun _ => 0)), (q12, zI K 200 (fun _ => 0)), ((u16 0), zO 7 6 gg21), ((u16 1), zI K 645 (fun _ => 0)), ((u16 2), zI K 645 (fun _ => 0)), ((u16 3), zI K 645 (fun _ => 0)), ((u16 4), zI K 645 (fun _ => 0)), ((u16 5), zI K 1935 (fun _ => 0)), ((u16 6), zI K 8 (fun _ => 0)), ((u16 7), zI K 8 (fun _ => 0)), ((u16 8), zJ K 8 (fun _ => 0)), ((u16 9), zI K 240 (fun _ => 0)), ((u16 10), zI K 240 (fun _ => 0)), (q25, zO 4 6 gg29), ((u26 0), zO 7 6 gg31), ((u26 1), zI K 645 (fun _ => 0)), ((u26 2), zI K 645 (fun _ => 0)), ((u26 3), zI K 645 (fun _ => 0)), ((u26 4), zI K 645 (fun _ => 0)), ((u26 5), zI K 1935 (fun _ => 0)), ((u26 6), zI K 8 (fun _ => 0)), ((u26 7), zI K 8 (fun _ => 0)), ((u26 8), zJ K 8 (fun _ => 0)), ((u26 9), zI K 240 (fun _ => 0)), ((u26 10), zI K 240 (fun _ => 0)), (q35, zO 0 8 gg39), (q15, zO 4 6 gg19), ((u36 0), zO 8 6 gg41), ((u36 1), zI K 400 (fun _ => 0)), ((u36 2), zI K 400 (fun _ => 0)), ((u36 3), zZ K 400 (fun _ => 0)), ((u36 4), zZ K 400 (fun _ => 0)), ((u36 5), zI K 645 (fun _ => 0)), ((u36 6), zI K 8 (fun _ => 0)), ((u36 7), zI K 8 (fun _ => 0)), ((u36 8), zI K 8 (fun _ => 0)), ((u36 9), zZ K 640 (fun _ => 0))] [44] [0, 1, 2, 3, 4, 5, 6, 7, 8, 9, 10, 11, 12, 13, 14, 15, 16, 17, 18, 19, 20, 21, 22, 23, 24, 25, 26, 27, 28, 29, 30, 31, 32, 33, 34, 35, 36, 37, 38, 39, 40, 41, 42, 43] hP hD hS hA rfl rfl (by decide) (by decide) (by decide +kernel) 59 19244 rfl rfl (fun hPc hDc hF => z_runI (As := [.ref q15, .ref q35]) (rest := [.ref q45, .ref a0]) ⟨hx, hb, hml, hown, hg⟩ (cX6_init_1 l K H.size q45 q15 q35 (fun k => defaultValue (tyX6 k))) mt154 mt6 mt152 mt153 rfl hd_X6_init rfl rfl ⟨(Nat.le_of_ble_eq_true rfl), (Nat.le_of_ble_eq_true rfl)⟩ hK hS hZ hPc hDc hF rfl hl.1 rfl (Nat.le_of_ble_eq_true rfl) dX11_init_86 ⟨(Nat.le_of_ble_eq_true rfl), (Nat.le_of_ble_eq_true rfl)⟩) (fun u46 H locs w47 hP hD hS => ?_)
  have hP : va_P K.1 classes [(a0, zO 9 9 gg43), (q1, zO 7 6 gg5), ((u2 0), zI K 200 (fun _ => 0)), ((u2 1), zI K 200 (fun _ => 0)), ((u2 2), zI K 200 (fun _ => 0)), ((u2 3), zI K 200 (fun _ => 0)), ((u2 4), zI K 600 (fun _ => 0)), (q9, zI K 200 (fun _ => 0)), (q12, zI K 200 (fun _ => 0)), ((u16 0), zO 7 6 gg21), ((u16 1), zI K 645 (fun _ => 0)), ((u16 2), zI K 645 (fun _ => 0)), ((u16 3), zI K 645 (fun _ => 0)), ((u16 4), zI K 645 (fun _ => 0)), ((u16 5), zI K 1935 (fun _ => 0)), ((u16 6), zI K 8 (fun _ => 0)), ((u16 7), zI K 8 (fun _ => 0)), ((u16 8), zJ K 8 (fun _ => 0)), ((u16 9), zI K 240 (fun _ => 0)), ((u16 10), zI K 240 (fun _ => 0)), (q25, zO 4 6 gg29), ((u26 0), zO 7 6 gg31), ((u26 1), zI K 645 (fun _ => 0)), ((u26 2), zI K 645 (fun _ => 0)), ((u26 3), zI K 645 (fun _ => 0)), ((u26 4), zI K 645 (fun _ => 0)), ((u26 5), zI K 1935 (fun _ => 0)), ((u26 6), zI K 8 (fun _ => 0)), ((u26 7), zI K 8 (fun _ => 0)), ((u26 8), zJ K 8 (fun _ => 0)), ((u26 9), zI K 240 (fun _ => 0)), ((u26 10), zI K 240 (fun _ => 0)), (q35, zO 0 8 gg39), (q15, zO 4 6 gg19), ((u36 0), zO 8 6 gg41), ((u36 1), zI K 400 (fun _ => 0)), ((u36 2), zI K 400 (fun _ => 0)), ((u36 3), zZ K 400 (fun _ => 0)), ((u36 4), zZ K 400 (fun _ => 0)), ((u36 5), zI K 645 (fun _ => 0)), ((u36 6), zI K 8 (fun _ => 0)), ((u36 7), zI K 8 (fun _ => 0)), ((u36 8), zI K 8 (fun _ => 0)), ((u36 9), zZ K 640 (fun _ => 0)), (q45, zO 5 9 (va_up (va_up (va_up (va_up (va_up (va_up (va_up (va_up (va_up (fun k => defaultValue (tyX6 k)) 0 (.ref q15)) 1 (.ref q35)) 2 (.ref (u46 0))) 3 (.ref (u46 6))) 4 (.ref (u46 11))) 5 (.ref (u46 12))) 6 (.ref (u46 13))) 7 (.ref (u46 14))) 8 (.int 0))), ((u46 0), zO 7 6 (va_up (va_up (va_up (va_up (va_up (va_up (fun k => defaultValue (tyX9 k)) 0 (.ref (u46 1))) 1 (.ref (u46 2))) 2 (.ref (u46 3))) 3 (.ref (u46 4))) 4 (.ref (u46 5))) 5 (.int 0))), ((u46 1), zI K 400 (fun _ => 0)), ((u46 2), zI K 400 (fun _ => 0)), ((u46 3), zI K 400 (fun _ => 0)), ((u46 4), zI K 400 (fun _ => 0)), ((u46 5), zI K 1200 (fun _ => 0)), ((u46 6), zO 8 6 (va_up (va_up (va_up (va_up (va_up (va_up (fun k => defaultValue (tyX10 k)) 0 (.ref (u46 7))) 1 (.ref (u46 8))) 2 (.ref (u46 9))) 3 (.ref (u46 10))) 4 (.ref (u46 0))) 5 (.int 0))), ((u46 7), zI K 400 (fun _ => 0)), ((u46 8), zI K 400 (fun _ => 0)), ((u46 9), zZ K 400 (fun _ => 0)), ((u46 10), zZ K 400 (fun _ => 0)), ((u46 11), zI K 8 (fun _ => 0)), ((u46 12), zI K 8 (fun _ => 0)), ((u46 13), zI K 8 (fun _ => 0)), ((u46 14), zI K 8 (fun _ => 0))] H := hP
  have hD : va_D A [(a0, zO 9 9 gg43), (q1, zO 7 6 gg5), ((u2 0), zI K 200 (fun _ => 0)), ((u2 1), zI K 200 (fun _ => 0)), ((u2 2), zI K 200 (fun _ => 0)), ((u2 3), zI K 200 (fun _ => 0)), ((u2 4), zI K 600 (fun _ => 0)), (q9, zI K 200 (fun _ => 0)), (q12, zI K 200 (fun _ => 0)), ((u16 0), zO 7 6 gg21), ((u16 1), zI K 645 (fun _ => 0)), ((u16 2), zI K 645 (fun _ => 0)), ((u16 3), zI K 645 (fun _ => 0)), ((u16 4), zI K 645 (fun _ => 0)), ((u16 5), zI K 1935 (fun _ => 0)), ((u16 6), zI K 8 (fun _ => 0)), ((u16 7), zI K 8 (fun _ => 0)), ((u16 8), zJ K 8 (fun _ => 0)), ((u16 9), zI K 240 (fun _ => 0)), ((u16 10), zI K 240 (fun _ => 0)), (q25, zO 4 6 gg29), ((u26 0), zO 7 6 gg31), ((u26 1), zI K 645 (fun _ => 0)), ((u26 2), zI K 645 (fun _ => 0)), ((u26 3), zI K 645 (fun _ => 0)), ((u26 4), zI K 645 (fun _ => 0)), ((u26 5), zI K 1935 (fun _ => 0)), ((u26 6), zI K 8 (fun _ => 0)), ((u26 7), zI K 8 (fun _ => 0)), ((u26 8), zJ K 8 (fun _ => 0)), ((u26 9), zI K 240 (fun _ => 0)), ((u26 10), zI K 240 (fun _ => 0)), (q35, zO 0 8 gg39), (q15, zO 4 6 gg19), ((u36 0), zO 8 6 gg41), ((u36 1), zI K 400 (fun _ => 0)), ((u36 2), zI K 400 (fun _ => 0)), ((u36 3), zZ K 400 (fun _ => 0)), ((u36 4), zZ K 400 (fun _ => 0)), ((u36 5), zI K 645 (fun _ => 0)), ((u36 6), zI K 8 (fun _ => 0)), ((u36 7), zI K 8 (fun _ => 0)), ((u36 8), zI K 8 (fun _ => 0)), ((u36 9), zZ K 640 (fun _ => 0)), (q45, zO 5 9 (va_up (va_up (va_up (va_up (va_up (va_up (va_up (va_up (va_up (fun k => defaultValue (tyX6 k)) 0 (.ref q15)) 1 (.ref q35)) 2 (.ref (u46 0))) 3 (.ref (u46 6))) 4 (.ref (u46 11))) 5 (.ref (u46 12))) 6 (.ref (u46 13))) 7 (.ref (u46 14))) 8 (.int 0))), ((u46 0), zO 7 6 (va_up (va_up (va_up (va_up (va_up (va_up (fun k => defaultValue (tyX9 k)) 0 (.ref (u46 1))) 1 (.ref (u46 2))) 2 (.ref (u46 3))) 3 (.ref (u46 4))) 4 (.ref (u46 5))) 5 (.int 0))), ((u46 1), zI K 400 (fun _ => 0)), ((u46 2), zI K 400 (fun _ => 0)), ((u46 3), zI K 400 (fun _ => 0)), ((u46 4), zI K 400 (fun _ => 0)), ((u46 5), zI K 1200 (fun _ => 0)), ((u46 6), zO 8 6 (va_up (va_up (va_up (va_up (va_up (va_up (fun k => defaultValue (tyX10 k)) 0 (.ref (u46 7))) 1 (.ref (u46 8))) 2 (.ref (u46 9))) 3 (.ref (u46 10))) 4 (.ref (u46 0))) 5 (.int 0))), ((u46 7), zI K 400 (fun _ => 0)), ((u46 8), zI K 400 (fun _ => 0)), ((u46 9), zZ K 400 (fun _ => 0)), ((u46 10), zZ K 400 (fun _ => 0)), ((u46 11), zI K 8 (fun _ => 0)), ((u46 12), zI K 8 (fun _ => 0)), ((u46 13), zI K 8 (fun _ => 0)), ((u46 14), zI K 8 (fun _ => 0))] := hD
  obtain ⟨gg49, y50⟩ : ∃ z, z = ((va_up (va_up (va_up (va_up (va_up (va_up (va_up (va_up (va_up (fun k => defaultValue (tyX6 k)) 0 (.ref q15)) 1 (.ref q35)) 2 (.ref (u46 0))) 3 (.ref (u46 6))) 4 (.ref (u46 11))) 5 (.ref (u46 12))) 6 (.ref (u46 13))) 7 (.ref (u46 14))) 8 (.int 0)) : Nat → Value) := ⟨_, rfl⟩
  rw [← y50] at hP hD
  obtain ⟨gg51, y52⟩ : ∃ z, z = ((va_up (va_up (va_up (va_up (va_up (va_up (fun k => defaultValue (tyX9 k)) 0 (.ref (u46 1))) 1 (.ref (u46 2))) 2 (.ref (u46 3))) 3 (.ref (u46 4))) 4 (.ref (u46 5))) 5 (.int 0)) : Nat → Value) := ⟨_, rfl⟩
  rw [← y52] at hP hD
  obtain ⟨gg53, y54⟩ : ∃ z, z = ((va_up (va_up (va_up (va_up (va_up (va_up (fun k => defaultValue (tyX10 k)) 0 (.ref (u46 7))) 1 (.ref (u46 8))) 2 (.ref (u46 9))) 3 (.ref (u46 10))) 4 (.ref (u46 0))) 5 (.int 0)) : Nat → Value) := ⟨_, rfl⟩
  rw [← y54] at hP hD
  refine z_putF hx hb hg hown hK hP hD hS i_X11 rfl tyX11_ok nmX11 hin 0 rfl 6 (by decide) mt310 rfl rfl rfl rfl dX11_init_89 (fun gg55 H locs y56 hP hD hS => ?_)
  have hP : va_P K.1 classes [(a0, zO 9 9 gg55), (q1, zO 7 6 gg5), ((u2 0), zI K 200 (fun _ => 0)), ((u2 1), zI K 200 (fun _ => 0)), ((u2 2), zI K 200 (fun _ => 0)), ((u2 3), zI K 200 (fun _ => 0)), ((u2 4), zI K 600 (fun _ => 0)), (q9, zI K 200 (fun _ => 0)), (q12, zI K 200 (fun _ => 0)), ((u16 0), zO 7 6 gg21), ((u16 1), zI K 645 (fun _ => 0)), ((u16 2), zI K 645 (fun _ => 0)), ((u16 3), zI K 645 (fun _ => 0)), ((u16 4), zI K 645 (fun _ => 0)), ((u16 5), zI K 1935 (fun _ => 0)), ((u16 6), zI K 8 (fun _ => 0)), ((u16 7), zI K 8 (fun _ => 0)), ((u16 8), zJ K 8 (fun _ => 0)), ((u16 9), zI K 240 (fun _ => 0)), ((u16 10), zI K 240 (fun _ => 0)), (q25, zO 4 6 gg29), ((u26 0), zO 7 6 gg31), ((u26 1), zI K 645 (fun _ => 0)), ((u26 2), zI K 645 (fun _ => 0)), ((u26 3), zI K 645 (fun _ => 0)), ((u26 4), zI K 645 (fun _ => 0)), ((u26 5), zI K 1935 (fun _ => 0)), ((u26 6), zI K 8 (fun _ => 0)), ((u26 7), zI K 8 (fun _ => 0)), ((u26 8), zJ K 8 (fun _ => 0)), ((u26 9), zI K 240 (fun _ => 0)), ((u26 10), zI K 240 (fun _ => 0)), (q35, zO 0 8 gg39), (q15, zO 4 6 gg19), ((u36 0), zO 8 6 gg41), ((u36 1), zI K 400 (fun _ => 0)), ((u36 2), zI K 400 (fun _ => 0)), ((u36 3), zZ K 400 (fun _ => 0)), ((u36 4), zZ K 400 (fun _ => 0)), ((u36 5), zI K 645 (fun _ => 0)), ((u36 6), zI K 8 (fun _ => 0)), ((u36 7), zI K 8 (fun _ => 0)), ((u36 8), zI K 8 (fun _ => 0)), ((u36 9), zZ K 640 (fun _ => 0)), (q45, zO 5 9 gg49), ((u46 0), zO 7 6 gg51), ((u46 1), zI K 400 (fun _ => 0)), ((u46 2), zI K 400 (fun _ => 0)), ((u46 3), zI K 400 (fun _ => 0)), ((u46 4), zI K 400 (fun _ => 0)), ((u46 5), zI K 1200 (fun _ => 0)), ((u46 6), zO 8 6 gg53), ((u46 7), zI K 400 (fun _ => 0)), ((u46 8), zI K 400 (fun _ => 0)), ((u46 9), zZ K 400 (fun _ => 0)), ((u46 10), zZ K 400 (fun _ => 0)), ((u46 11), zI K 8 (fun _ => 0)), ((u46 12), zI K 8 (fun _ => 0)), ((u46 13), zI K 8 (fun _ => 0)), ((u46 14), zI K 8 (fun _ => 0))] H := hP
  have hD : va_D A [(a0, zO 9 9 gg55), (q1, zO 7 6 gg5), ((u2 0), zI K 200 (fun _ => 0)), ((u2 1), zI K 200 (fun _ => 0)), ((u2 2), zI K 200 (fun _ => 0)), ((u2 3), zI K 200 (fun _ => 0)), ((u2 4), zI K 600 (fun _ => 0)), (q9, zI K 200 (fun _ => 0)), (q12, zI K 200 (fun _ => 0)), ((u16 0), zO 7 6 gg21), ((u16 1), zI K 645 (fun _ => 0)), ((u16 2), zI K 645 (fun _ => 0)), ((u16 3), zI K 645 (fun _ => 0)), ((u16 4), zI K 645 (fun _ => 0)), ((u16 5), zI K 1935 (fun _ => 0)), ((u16 6), zI K 8 (fun _ => 0)), ((u16 7), zI K 8 (fun _ => 0)), ((u16 8), zJ K 8 (fun _ => 0)), ((u16 9), zI K 240 (fun _ => 0)), ((u16 10), zI K 240 (fun _ => 0)), (q25, zO 4 6 gg29), ((u26 0), zO 7 6 gg31), ((u26 1), zI K 645 (fun _ => 0)), ((u26 2), zI K 645 (fun _ => 0)), ((u26 3), zI K 645 (fun _ => 0)), ((u26 4), zI K 645 (fun _ => 0)), ((u26 5), zI K 1935 (fun _ => 0)), ((u26 6), zI K 8 (fun _ => 0)), ((u26 7), zI K 8 (fun _ => 0)), ((u26 8), zJ K 8 (fun _ => 0)), ((u26 9), zI K 240 (fun _ => 0)), ((u26 10), zI K 240 (fun _ => 0)), (q35, zO 0 8 gg39), (q15, zO 4 6 gg19), ((u36 0), zO 8 6 gg41), ((u36 1), zI K 400 (fun _ => 0)), ((u36 2), zI K 400 (fun _ => 0)), ((u36 3), zZ K 400 (fun _ => 0)), ((u36 4), zZ K 400 (fun _ => 0)), ((u36 5), zI K 645 (fun _ => 0)), ((u36 6), zI K 8 (fun _ => 0)), ((u36 7), zI K 8 (fun _ => 0)), ((u36 8), zI K 8 (fun _ => 0)), ((u36 9), zZ K 640 (fun _ => 0)), (q45, zO 5 9 gg49), ((u46 0), zO 7 6 gg51), ((u46 1), zI K 400 (fun _ => 0)), ((u46 2), zI K 400 (fun _ => 0)), ((u46 3), zI K 400 (fun _ => 0)), ((u46 4), zI K 400 (fun _ => 0)), ((u46 5), zI K 1200 (fun _ => 0)), ((u46 6), zO 8 6 gg53), ((u46 7), zI K 400 (fun _ => 0)), ((u46 8), zI K 400 (fun _ => 0)), ((u46 9), zZ K 400 (fun _ => 0)), ((u46 10), zZ K 400 (fun _ => 0)), ((u46 11), zI K 8 (fun _ => 0)), ((u46 12), zI K 8 (fun _ => 0)), ((u46 13), zI K 8 (fun _ => 0)), ((u46 14), zI K 8 (fun _ => 0))] := hD
  refine lv_aload_n hx hb dX11_init_92 rfl (lv_at hl 0 rfl) ?_
  refine z_new (ci := 1) hx hb hg hown hK hP hD hS hA i_X1 rfl tyX1_ok mt188 mt189 mt7 60 19262 rfl rfl (Nat.le_of_ble_eq_true rfl) (Nat.le_of_ble_eq_true rfl) dX11_init_93 (fun q57 H hP hD hS => ?_)
  have hP : va_P K.1 classes [(a0, zO 9 9 gg55), (q1, zO 7 6 gg5), ((u2 0), zI K 200 (fun _ => 0)), ((u2 1), zI K 200 (fun _ => 0)), ((u2 2), zI K 200 (fun _ => 0)), ((u2 3), zI K 200 (fun _ => 0)), ((u2 4), zI K 600 (fun _ => 0)), (q9, zI K 200 (fun _ => 0)), (q12, zI K 200 (fun _ => 0)), ((u16 0), zO 7 6 gg21), ((u16 1), zI K 645 (fun _ => 0)), ((u16 2), zI K 645 (fun _ => 0)), ((u16 3), zI K 645 (fun _ => 0)), ((u16 4), zI K 645 (fun _ => 0)), ((u16 5), zI K 1935 (fun _ => 0)), ((u16 6), zI K 8 (fun _ => 0)), ((u16 7), zI K 8 (fun _ => 0)), ((u16 8), zJ K 8 (fun _ => 0)), ((u16 9), zI K 240 (fun _ => 0)), ((u16 10), zI K 240 (fun _ => 0)), (q25, zO 4 6 gg29), ((u26 0), zO 7 6 gg31), ((u26 1), zI K 645 (fun _ => 0)), ((u26 2), zI K 645 (fun _ => 0)), ((u26 3), zI K 645 (fun _ => 0)), ((u26 4), zI K 645 (fun _ => 0)), ((u26 5), zI K 1935 (fun _ => 0)), ((u26 6), zI K 8 (fun _ => 0)), ((u26 7), zI K 8 (fun _ => 0)), ((u26 8), zJ K 8 (fun _ => 0)), ((u26 9), zI K 240 (fun _ => 0)), ((u26 10), zI K 240 (fun _ => 0)), (q35, zO 0 8 gg39), (q15, zO 4 6 gg19), ((u36 0), zO 8 6 gg41), ((u36 1), zI K 400 (fun _ => 0)), ((u36 2), zI K 400 (fun _ => 0)), ((u36 3), zZ K 400 (fun _ => 0)), ((u36 4), zZ K 400 (fun _ => 0)), ((u36 5), zI K 645 (fun _ => 0)), ((u36 6), zI K 8 (fun _ => 0)), ((u36 7), zI K 8 (fun _ => 0)), ((u36 8), zI K 8 (fun _ => 0)), ((u36 9), zZ K 640 (fun _ => 0)), (q45, zO 5 9 gg49), ((u46 0), zO 7 6 gg51), ((u46 1), zI K 400 (fun _ => 0)), ((u46 2), zI K 400 (fun _ => 0)), ((u46 3), zI K 400 (fun _ => 0)), ((u46 4), zI K 400 (fun _ => 0)), ((u46 5), zI K 1200 (fun _ => 0)), ((u46 6), zO 8 6 gg53), ((u46 7), zI K 400 (fun _ => 0)), ((u46 8), zI K 400 (fun _ => 0)), ((u46 9), zZ K 400 (fun _ => 0)), ((u46 10), zZ K 400 (fun _ => 0)), ((u46 11), zI K 8 (fun _ => 0)), ((u46 12), zI K 8 (fun _ => 0)), ((u46 13), zI K 8 (fun _ => 0)), ((u46 14), zI K 8 (fun _ => 0)), (q57, zO 1 18 (fun k => defaultValue (tyX1 k)))] H := hP
  have hD : va_D A [(a0, zO 9 9 gg55), (q1, zO 7 6 gg5), ((u2 0), zI K 200 (fun _ => 0)), ((u2 1), zI K 200 (fun _ => 0)), ((u2 2), zI K 200 (fun _ => 0)), ((u2 3), zI K 200 (fun _ => 0)), ((u2 4), zI K 600 (fun _ => 0)), (q9, zI K 200 (fun _ => 0)), (q12, zI K 200 (fun _ => 0)), ((u16 0), zO 7 6 gg21), ((u16 1), zI K 645 (fun _ => 0)), ((u16 2), zI K 645 (fun _ => 0)), ((u16 3), zI K 645 (fun _ => 0)), ((u16 4), zI K 645 (fun _ => 0)), ((u16 5), zI K 1935 (fun _ => 0)), ((u16 6), zI K 8 (fun _ => 0)), ((u16 7), zI K 8 (fun _ => 0)), ((u16 8), zJ K 8 (fun _ => 0)), ((u16 9), zI K 240 (fun _ => 0)), ((u16 10), zI K 240 (fun _ => 0)), (q25, zO 4 6 gg29), ((u26 0), zO 7 6 gg31), ((u26 1), zI K 645 (fun _ => 0)), ((u26 2), zI K 645 (fun _ => 0)), ((u26 3), zI K 645 (fun _ => 0)), ((u26 4), zI K 645 (fun _ => 0)), ((u26 5), zI K 1935 (fun _ => 0)), ((u26 6), zI K 8 (fun _ => 0)), ((u26 7), zI K 8 (fun _ => 0)), ((u26 8), zJ K 8 (fun _ => 0)), ((u26 9), zI K 240 (fun _ => 0)), ((u26 10), zI K 240 (fun _ => 0)), (q35, zO 0 8 gg39), (q15, zO 4 6 gg19), ((u36 0), zO 8 6 gg41), ((u36 1), zI K 400 (fun _ => 0)), ((u36 2), zI K 400 (fun _ => 0)), ((u36 3), zZ K 400 (fun _ => 0)), ((u36 4), zZ K 400 (fun _ => 0)), ((u36 5), zI K 645 (fun _ => 0)), ((u36 6), zI K 8 (fun _ => 0)), ((u36 7), zI K 8 (fun _ => 0)), ((u36 8), zI K 8 (fun _ => 0)), ((u36 9), zZ K 640 (fun _ => 0)), (q45, zO 5 9 gg49), ((u46 0), zO 7 6 gg51), ((u46 1), zI K 400 (fun _ => 0)), ((u46 2), zI K 400 (fun _ => 0)), ((u46 3), zI K 400 (fun _ => 0)), ((u46 4), zI K 400 (fun _ => 0)), ((u46 5), zI K 1200 (fun _ => 0)), ((u46 6), zO 8 6 gg53), ((u46 7), zI K 400 (fun _ => 0)), ((u46 8), zI K 400 (fun _ => 0)), ((u46 9), zZ K 400 (fun _ => 0)), ((u46 10), zZ K 400 (fun _ => 0)), ((u46 11), zI K 8 (fun _ => 0)), ((u46 12), zI K 8 (fun _ => 0)), ((u46 13), zI K 8 (fun _ => 0)), ((u46 14), zI K 8 (fun _ => 0)), (q57, zO 1 18 (fun k => defaultValue (tyX1 k)))] := hD
  refine lv_dup hx hb dX11_init_96 rfl ?_
  refine lv_aload_n hx hb dX11_init_97 rfl (lv_at hl 0 rfl) ?_
  refine z_get (v := .ref q15) hx hb hg hown hK hP i_X11 rfl 0 rfl 3 (by decide) mt307 (zu_of y56 (zu_ne (by decide) (zu_of y44 (zu_ne (by decide) (zu_of y34 (zu_ne (by decide) (zu_of y24 zu_eq))))))) dX11_init_98 ?_
  refine lv_aload_n hx hb dX11_init_101 rfl (lv_at hl 0 rfl) ?_
  refine z_get (v := .ref q25) hx hb hg hown hK hP i_X11 rfl 0 rfl 4 (by decide) mt308 (zu_of y56 (zu_ne (by decide) (zu_of y44 (zu_ne (by decide) (zu_of y34 zu_eq))))) dX11_init_102 ?_
  refine z_callv [(q57, zO 1 18 (fun k => defaultValue (tyX1 k)))] [(a0, zO 9 9 gg55), (q1, zO 7 6 gg5), ((u2 0), zI K 200 (fun _ => 0)), ((u2 1), zI K 200 (fun _ => 0)), ((u2 2), zI K 200 (fun _ => 0)), ((u2 3), zI K 200 (fun _ => 0)), ((u2 4), zI K 600 (fun _ => 0)), (q9, zI K 200 (fun _ => 0)), (q12, zI K 200 (fun _ => 0)), ((u16 0), zO 7 6 gg21), ((u16 1), zI K 645 (fun _ => 0)), ((u16 2), zI K 645 (fun _ => 0)), ((u16 3), zI K 645 (fun _ => 0)), ((u16 4), zI K 645 (fun _ => 0)), ((u16 5), zI K 1935 (fun _ => 0)), ((u16 6), zI K 8 (fun _ => 0)), ((u16 7), zI K 8 (fun _ => 0)), ((u16 8), zJ K 8 (fun _ => 0)), ((u16 9), zI K 240 (fun _ => 0)), ((u16 10), zI K 240 (fun _ => 0)), (q25, zO 4 6 gg29), ((u26 0), zO 7 6 gg31), ((u26 1), zI K 645 (fun _ => 0)), ((u26 2), zI K 645 (fun _ => 0)), ((u26 3), zI K 645 (fun _ => 0)), ((u26 4), zI K 645 (fun _ => 0)), ((u26 5), zI K 1935 (fun _ => 0)), ((u26 6), zI K 8 (fun _ => 0)), ((u26 7), zI K 8 (fun _ => 0)), ((u26 8), zJ K 8 (fun _ => 0)), ((u26 9), zI K 240 (fun _ => 0)), ((u26 10), zI K 240 (fun _ => 0)), (q35, zO 0 8 gg39), (q15, zO 4 6 gg19), ((u36 0), zO 8 6 gg41), ((u36 1), zI K 400 (fun _ => 0)), ((u36 2), zI K 400 (fun _ => 0)), ((u36 3), zZ K 400 (fun _ => 0)), ((u36 4), zZ K 400 (fun _ => 0)), ((u36 5), zI K 645 (fun _ => 0)), ((u36 6), zI K 8 (fun _ => 0)), ((u36 7), zI K 8 (fun _ => 0)), ((u36 8), zI K 8 (fun _ => 0)), ((u36 9), zZ K 640 (fun _ => 0)), (q45, zO 5 9 gg49), ((u46 0), zO 7 6 gg51), ((u46 1), zI K 400 (fun _ => 0)), ((u46 2), zI K 400 (fun _ => 0)), ((u46 3), zI K 400 (fun _ => 0)), ((u46 4), zI K 400 (fun _ => 0)), ((u46 5), zI K 1200 (fun _ => 0)), ((u46 6), zO 8 6 gg53), ((u46 7), zI K 400 (fun _ => 0)), ((u46 8), zI K 400 (fun _ => 0)), ((u46 9), zZ K 400 (fun _ => 0)), ((u46 10), zZ K 400 (fun _ => 0)), ((u46 11), zI K 8 (fun _ => 0)), ((u46 12), zI K 8 (fun _ => 0)), ((u46 13), zI K 8 (fun _ => 0)), ((u46 14), zI K 8 (fun _ => 0))] [60] [0, 1, 2, 3, 4, 5, 6, 7, 8, 9, 10, 11, 12, 13, 14, 15, 16, 17, 18, 19, 20, 21, 22, 23, 24, 25, 26, 27, 28, 29, 30, 31, 32, 33, 34, 35, 36, 37, 38, 39, 40, 41, 42, 43, 44, 45, 46, 47, 48, 49, 50, 51, 52, 53, 54, 55, 56, 57, 58, 59] hP hD hS hA rfl rfl (by decide) (by decide) (by decide +kernel) 70 22841 rfl rfl (fun hPc hDc hF => z_runI (As := [.ref q15, .ref q25]) (rest := [.ref q57, .ref a0]) ⟨hx, hb, hml, hown, hg⟩ (cX1_init_1 l K H.size q57 q15 q25 (fun k => defaultValue (tyX1 k))) mt192 mt7 mt190 mt191 rfl hd_X1_init rfl rfl ⟨(Nat.le_of_ble_eq_true rfl), (Nat.le_of_ble_eq_true rfl)⟩ hK hS hZ hPc hDc hF rfl hl.1 rfl (Nat.le_of_ble_eq_true rfl) dX11_init_105 ⟨(Nat.le_of_ble_eq_true rfl), (Nat.le_of_ble_eq_true rfl)⟩) (fun u58 H locs w59 hP hD hS => ?_)
  have hP : va_P K.1 classes [(a0, zO 9 9 gg55), (q1, zO 7 6 gg5), ((u2 0), zI K 200 (fun _ => 0)), ((u2 1), zI K 200 (fun _ => 0)), ((u2 2), zI K 200 (fun _ => 0)), ((u2 3), zI K 200 (fun _ => 0)), ((u2 4), zI K 600 (fun _ => 0)), (q9, zI K 200 (fun _ => 0)), (q12, zI K 200 (fun _ => 0)), ((u16 0), zO 7 6 gg21), ((u16 1), zI K 645 (fun _ => 0)), ((u16 2), zI K 645 (fun _ => 0)), ((u16 3), zI K 645 (fun _ => 0)), ((u16 4), zI K 645 (fun _ => 0)), ((u16 5), zI K 1935 (fun _ => 0)), ((u16 6), zI K 8 (fun _ => 0)), ((u16 7), zI K 8 (fun _ => 0)), ((u16 8), zJ K 8 (fun _ => 0)), ((u16 9), zI K 240 (fun _ => 0)), ((u16 10), zI K 240 (fun _ => 0)), (q25, zO 4 6 gg29), ((u26 0), zO 7 6 gg31), ((u26 1), zI K 645 (fun _ => 0)), ((u26 2), zI K 645 (fun _ => 0)), ((u26 3), zI K 645 (fun _ => 0)), ((u26 4), zI K 645 (fun _ => 0)), ((u26 5), zI K 1935 (fun _ => 0)), ((u26 6), zI K 8 (fun _ => 0)), ((u26 7), zI K 8 (fun _ => 0)), ((u26 8), zJ K 8 (fun _ => 0)), ((u26 9), zI K 240 (fun _ => 0)), ((u26 10), zI K 240 (fun _ => 0)), (q35, zO 0 8 gg39), (q15, zO 4 6 gg19), ((u36 0), zO 8 6 gg41), ((u36 1), zI K 400 (fun _ => 0)), ((u36 2), zI K 400 (fun _ => 0)), ((u36 3), zZ K 400 (fun _ => 0)), ((u36 4), zZ K 400 (fun _ => 0)), ((u36 5), zI K 645 (fun _ => 0)), ((u36 6), zI K 8 (fun _ => 0)), ((u36 7), zI K 8 (fun _ => 0)), ((u36 8), zI K 8 (fun _ => 0)), ((u36 9), zZ K 640 (fun _ => 0)), (q45, zO 5 9 gg49), ((u46 0), zO 7 6 gg51), ((u46 1), zI K 400 (fun _ => 0)), ((u46 2), zI K 400 (fun _ => 0)), ((u46 3), zI K 400 (fun _ => 0)), ((u46 4), zI K 400 (fun _ => 0)), ((u46 5), zI K 1200 (fun _ => 0)), ((u46 6), zO 8 6 gg53), ((u46 7), zI K 400 (fun _ => 0)), ((u46 8), zI K 400 (fun _ => 0)), ((u46 9), zZ K 400 (fun _ => 0)), ((u46 10), zZ K 400 (fun _ => 0)), ((u46 11), zI K 8 (fun _ => 0)), ((u46 12), zI K 8 (fun _ => 0)), ((u46 13), zI K 8 (fun _ => 0)), ((u46 14), zI K 8 (fun _ => 0)), (q57, zO 1 18 (va_up (va_up (va_up (va_up (va_up (va_up (va_up (fun k => defaultValue (tyX1 k)) 0 (.ref (u58 0))) 1 (.ref (u58 2))) 2 (.ref (u58 8))) 3 (.ref (u58 9))) 6 (.ref q15)) 11 (.int 6)) 17 (.int 0))), ((u58 0), zO 3 7 (va_up (va_up (va_up (va_up (va_up (va_up (va_up (fun k => defaultValue (tyX3 k)) 0 (.ref q15)) 1 (.ref q25)) 2 (.ref (u58 1))) 3 (.int 0)) 4 (.int 0)) 5 (.int 0)) 6 (.int 0))), ((u58 1), zR K 512 (fun _ => none)), ((u58 2), zO 2 6 (va_up (va_up (va_up (va_up (va_up (va_up (fun k => defaultValue (tyX2 k)) 0 (.ref (u58 3))) 1 (.ref (u58 4))) 2 (.ref (u58 5))) 3 (.ref (u58 6))) 4 (.ref (u58 7))) 5 (.int 0))), ((u58 3), zI K 608 (fun _ => 0)), ((u58 4), zI K 608 (fun _ => 0)), ((u58 5), zI K 608 (fun _ => 0)), ((u58 6), zI K 608 (fun _ => 0)), ((u58 7), zI K 608 (fun _ => 0)), ((u58 8), zI K 10 (fun _ => 0)), ((u58 9), zJ K 4 (fun _ => 0))] H := hP
  have hD : va_D A [(a0, zO 9 9 gg55), (q1, zO 7 6 gg5), ((u2 0), zI K 200 (fun _ => 0)), ((u2 1), zI K 200 (fun _ => 0)), ((u2 2), zI K 200 (fun _ => 0)), ((u2 3), zI K 200 (fun _ => 0)), ((u2 4), zI K 600 (fun _ => 0)), (q9, zI K 200 (fun _ => 0)), (q12, zI K 200 (fun _ => 0)), ((u16 0), zO 7 6 gg21), ((u16 1), zI K 645 (fun _ => 0)), ((u16 2), zI K 645 (fun _ => 0)), ((u16 3), zI K 645 (fun _ => 0)), ((u16 4), zI K 645 (fun _ => 0)), ((u16 5), zI K 1935 (fun _ => 0)), ((u16 6), zI K 8 (fun _ => 0)), ((u16 7), zI K 8 (fun _ => 0)), ((u16 8), zJ K 8 (fun _ => 0)), ((u16 9), zI K 240 (fun _ => 0)), ((u16 10), zI K 240 (fun _ => 0)), (q25, zO 4 6 gg29), ((u26 0), zO 7 6 gg31), ((u26 1), zI K 645 (fun _ => 0)), ((u26 2), zI K 645 (fun _ => 0)), ((u26 3), zI K 645 (fun _ => 0)), ((u26 4), zI K 645 (fun _ => 0)), ((u26 5), zI K 1935 (fun _ => 0)), ((u26 6), zI K 8 (fun _ => 0)), ((u26 7), zI K 8 (fun _ => 0)), ((u26 8), zJ K 8 (fun _ => 0)), ((u26 9), zI K 240 (fun _ => 0)), ((u26 10), zI K 240 (fun _ => 0)), (q35, zO 0 8 gg39), (q15, zO 4 6 gg19), ((u36 0), zO 8 6 gg41), ((u36 1), zI K 400 (fun _ => 0)), ((u36 2), zI K 400 (fun _ => 0)), ((u36 3), zZ K 400 (fun _ => 0)), ((u36 4), zZ K 400 (fun _ => 0)), ((u36 5), zI K 645 (fun _ => 0)), ((u36 6), zI K 8 (fun _ => 0)), ((u36 7), zI K 8 (fun _ => 0)), ((u36 8), zI K 8 (fun _ => 0)), ((u36 9), zZ K 640 (fun _ => 0)), (q45, zO 5 9 gg49), ((u46 0), zO 7 6 gg51), ((u46 1), zI K 400 (fun _ => 0)), ((u46 2), zI K 400 (fun _ => 0)), ((u46 3), zI K 400 (fun _ => 0)), ((u46 4), zI K 400 (fun _ => 0)), ((u46 5), zI K 1200 (fun _ => 0)), ((u46 6), zO 8 6 gg53), ((u46 7), zI K 400 (fun _ => 0)), ((u46 8), zI K 400 (fun _ => 0)), ((u46 9), zZ K 400 (fun _ => 0)), ((u46 10), zZ K 400 (fun _ => 0)), ((u46 11), zI K 8 (fun _ => 0)), ((u46 12), zI K 8 (fun _ => 0)), ((u46 13), zI K 8 (fun _ => 0)), ((u46 14), zI K 8 (fun _ => 0)), (q57, zO 1 18 (va_up (va_up (va_up (va_up (va_up (va_up (va_up (fun k => defaultValue (tyX1 k)) 0 (.ref (u58 0))) 1 (.ref (u58 2))) 2 (.ref (u58 8))) 3 (.ref (u58 9))) 6 (.ref q15)) 11 (.int 6)) 17 (.int 0))), ((u58 0), zO 3 7 (va_up (va_up (va_up (va_up (va_up (va_up (va_up (fun k => defaultValue (tyX3 k)) 0 (.ref q15)) 1 (.ref q25)) 2 (.ref (u58 1))) 3 (.int 0)) 4 (.int 0)) 5 (.int 0)) 6 (.int 0))), ((u58 1), zR K 512 (fun _ => none)), ((u58 2), zO 2 6 (va_up (va_up (va_up (va_up (va_up (va_up (fun k => defaultValue (tyX2 k)) 0 (.ref (u58 3))) 1 (.ref (u58 4))) 2 (.ref (u58 5))) 3 (.ref (u58 6))) 4 (.ref (u58 7))) 5 (.int 0))), ((u58 3), zI K 608 (fun _ => 0)), ((u58 4), zI K 608 (fun _ => 0)), ((u58 5), zI K 608 (fun _ => 0)), ((u58 6), zI K 608 (fun _ => 0)), ((u58 7), zI K 608 (fun _ => 0)), ((u58 8), zI K 10 (fun _ => 0)), ((u58 9), zJ K 4 (fun _ => 0))] := hD
  obtain ⟨gg61, y62⟩ : ∃ z, z = ((va_up (va_up (va_up (va_up (va_up (va_up (va_up (fun k => defaultValue (tyX1 k)) 0 (.ref (u58 0))) 1 (.ref (u58 2))) 2 (.ref (u58 8))) 3 (.ref (u58 9))) 6 (.ref q15)) 11 (.int 6)) 17 (.int 0)) : Nat → Value) := ⟨_, rfl⟩
  rw [← y62] at hP hD
  obtain ⟨gg63, y64⟩ : ∃ z, z = ((va_up (va_up (va_up (va_up (va_up (va_up (va_up (fun k => defaultValue (tyX3 k)) 0 (.ref q15)) 1 (.ref q25)) 2 (.ref (u58 1))) 3 (.int 0)) 4 (.int 0)) 5 (.int 0)) 6 (.int 0)) : Nat → Value) := ⟨_, rfl⟩
  rw [← y64] at hP hD
  obtain ⟨gg65, y66⟩ : ∃ z, z = ((va_up (va_up (va_up (va_up (va_up (va_up (fun k => defaultValue (tyX2 k)) 0 (.ref (u58 3))) 1 (.ref (u58 4))) 2 (.ref (u58 5))) 3 (.ref (u58 6))) 4 (.ref (u58 7))) 5 (.int 0)) : Nat → Value) := ⟨_, rfl⟩
  rw [← y66] at hP hD
  refine z_putF hx hb hg hown hK hP hD hS i_X11 rfl tyX11_ok nmX11 hin 0 rfl 7 (by decide) mt311 rfl rfl rfl rfl dX11_init_108 (fun gg67 H locs y68 hP hD hS => ?_)
  have hP : va_P K.1 classes [(a0, zO 9 9 gg67), (q1, zO 7 6 gg5), ((u2 0), zI K 200 (fun _ => 0)), ((u2 1), zI K 200 (fun _ => 0)), ((u2 2), zI K 200 (fun _ => 0)), ((u2 3), zI K 200 (fun _ => 0)), ((u2 4), zI K 600 (fun _ => 0)), (q9, zI K 200 (fun _ => 0)), (q12, zI K 200 (fun _ => 0)), ((u16 0), zO 7 6 gg21), ((u16 1), zI K 645 (fun _ => 0)), ((u16 2), zI K 645 (fun _ => 0)), ((u16 3), zI K 645 (fun _ => 0)), ((u16 4), zI K 645 (fun _ => 0)), ((u16 5), zI K 1935 (fun _ => 0)), ((u16 6), zI K 8 (fun _ => 0)), ((u16 7), zI K 8 (fun _ => 0)), ((u16 8), zJ K 8 (fun _ => 0)), ((u16 9), zI K 240 (fun _ => 0)), ((u16 10), zI K 240 (fun _ => 0)), (q25, zO 4 6 gg29), ((u26 0), zO 7 6 gg31), ((u26 1), zI K 645 (fun _ => 0)), ((u26 2), zI K 645 (fun _ => 0)), ((u26 3), zI K 645 (fun _ => 0)), ((u26 4), zI K 645 (fun _ => 0)), ((u26 5), zI K 1935 (fun _ => 0)), ((u26 6), zI K 8 (fun _ => 0)), ((u26 7), zI K 8 (fun _ => 0)), ((u26 8), zJ K 8 (fun _ => 0)), ((u26 9), zI K 240 (fun _ => 0)), ((u26 10), zI K 240 (fun _ => 0)), (q35, zO 0 8 gg39), (q15, zO 4 6 gg19), ((u36 0), zO 8 6 gg41), ((u36 1), zI K 400 (fun _ => 0)), ((u36 2), zI K 400 (fun _ => 0)), ((u36 3), zZ K 400 (fun _ => 0)), ((u36 4), zZ K 400 (fun _ => 0)), ((u36 5), zI K 645 (fun _ => 0)), ((u36 6), zI K 8 (fun _ => 0)), ((u36 7), zI K 8 (fun _ => 0)), ((u36 8), zI K 8 (fun _ => 0)), ((u36 9), zZ K 640 (fun _ => 0)), (q45, zO 5 9 gg49), ((u46 0), zO 7 6 gg51), ((u46 1), zI K 400 (fun _ => 0)), ((u46 2), zI K 400 (fun _ => 0)), ((u46 3), zI K 400 (fun _ => 0)), ((u46 4), zI K 400 (fun _ => 0)), ((u46 5), zI K 1200 (fun _ => 0)), ((u46 6), zO 8 6 gg53), ((u46 7), zI K 400 (fun _ => 0)), ((u46 8), zI K 400 (fun _ => 0)), ((u46 9), zZ K 400 (fun _ => 0)), ((u46 10), zZ K 400 (fun _ => 0)), ((u46 11), zI K 8 (fun _ => 0)), ((u46 12), zI K 8 (fun _ => 0)), ((u46 13), zI K 8 (fun _ => 0)), ((u46 14), zI K 8 (fun _ => 0)), (q57, zO 1 18 gg61), ((u58 0), zO 3 7 gg63), ((u58 1), zR K 512 (fun _ => none)), ((u58 2), zO 2 6 gg65), ((u58 3), zI K 608 (fun _ => 0)), ((u58 4), zI K 608 (fun _ => 0)), ((u58 5), zI K 608 (fun _ => 0)), ((u58 6), zI K 608 (fun _ => 0)), ((u58 7), zI K 608 (fun _ => 0)), ((u58 8), zI K 10 (fun _ => 0)), ((u58 9), zJ K 4 (fun _ => 0))] H := hP
  have hD : va_D A [(a0, zO 9 9 gg67), (q1, zO 7 6 gg5), ((u2 0), zI K 200 (fun _ => 0)), ((u2 1), zI K 200 (fun _ => 0)), ((u2 2), zI K 200 (fun _ => 0)), ((u2 3), zI K 200 (fun _ => 0)), ((u2 4), zI K 600 (fun _ => 0)), (q9, zI K 200 (fun _ => 0)), (q12, zI K 200 (fun _ => 0)), ((u16 0), zO 7 6 gg21), ((u16 1), zI K 645 (fun _ => 0)), ((u16 2), zI K 645 (fun _ => 0)), ((u16 3), zI K 645 (fun _ => 0)), ((u16 4), zI K 645 (fun _ => 0)), ((u16 5), zI K 1935 (fun _ => 0)), ((u16 6), zI K 8 (fun _ => 0)), ((u16 7), zI K 8 (fun _ => 0)), ((u16 8), zJ K 8 (fun _ => 0)), ((u16 9), zI K 240 (fun _ => 0)), ((u16 10), zI K 240 (fun _ => 0)), (q25, zO 4 6 gg29), ((u26 0), zO 7 6 gg31), ((u26 1), zI K 645 (fun _ => 0)), ((u26 2), zI K 645 (fun _ => 0)), ((u26 3), zI K 645 (fun _ => 0)), ((u26 4), zI K 645 (fun _ => 0)), ((u26 5), zI K 1935 (fun _ => 0)), ((u26 6), zI K 8 (fun _ => 0)), ((u26 7), zI K 8 (fun _ => 0)), ((u26 8), zJ K 8 (fun _ => 0)), ((u26 9), zI K 240 (fun _ => 0)), ((u26 10), zI K 240 (fun _ => 0)), (q35, zO 0 8 gg39), (q15, zO 4 6 gg19), ((u36 0), zO 8 6 gg41), ((u36 1), zI K 400 (fun _ => 0)), ((u36 2), zI K 400 (fun _ => 0)), ((u36 3), zZ K 400 (fun _ => 0)), ((u36 4), zZ K 400 (fun _ => 0)), ((u36 5), zI K 645 (fun _ => 0)), ((u36 6), zI K 8 (fun _ => 0)), ((u36 7), zI K 8 (fun _ => 0)), ((u36 8), zI K 8 (fun _ => 0)), ((u36 9), zZ K 640 (fun _ => 0)), (q45, zO 5 9 gg49), ((u46 0), zO 7 6 gg51), ((u46 1), zI K 400 (fun _ => 0)), ((u46 2), zI K 400 (fun _ => 0)), ((u46 3), zI K 400 (fun _ => 0)), ((u46 4), zI K 400 (fun _ => 0)), ((u46 5), zI K 1200 (fun _ => 0)), ((u46 6), zO 8 6 gg53), ((u46 7), zI K 400 (fun _ => 0)), ((u46 8), zI K 400 (fun _ => 0)), ((u46 9), zZ K 400 (fun _ => 0)), ((u46 10), zZ K 400 (fun _ => 0)), ((u46 11), zI K 8 (fun _ => 0)), ((u46 12), zI K 8 (fun _ => 0)), ((u46 13), zI K 8 (fun _ => 0)), ((u46 14), zI K 8 (fun _ => 0)), (q57, zO 1 18 gg61), ((u58 0), zO 3 7 gg63), ((u58 1), zR K 512 (fun _ => none)), ((u58 2), zO 2 6 gg65), ((u58 3), zI K 608 (fun _ => 0)), ((u58 4), zI K 608 (fun _ => 0)), ((u58 5), zI K 608 (fun _ => 0)), ((u58 6), zI K 608 (fun _ => 0)), ((u58 7), zI K 608 (fun _ => 0)), ((u58 8), zI K 10 (fun _ => 0)), ((u58 9), zJ K 4 (fun _ => 0))] := hD
  refine lv_aload_n hx hb dX11_init_111 rfl (lv_at hl 0 rfl) ?_
  refine lv_iconst (v := 0) hx hb dX11_init_112 (by decide) ?_
  refine z_put hx hb hg hown hK hP hD hS i_X11 rfl tyX11_ok nmX11 0 rfl 8 (by decide) mt312 rfl rfl rfl dX11_init_113 (fun gg69 H locs y70 hP hD hS => ?_)
  have hP : va_P K.1 classes [(a0, zO 9 9 gg69), (q1, zO 7 6 gg5), ((u2 0), zI K 200 (fun _ => 0)), ((u2 1), zI K 200 (fun _ => 0)), ((u2 2), zI K 200 (fun _ => 0)), ((u2 3), zI K 200 (fun _ => 0)), ((u2 4), zI K 600 (fun _ => 0)), (q9, zI K 200 (fun _ => 0)), (q12, zI K 200 (fun _ => 0)), ((u16 0), zO 7 6 gg21), ((u16 1), zI K 645 (fun _ => 0)), ((u16 2), zI K 645 (fun _ => 0)), ((u16 3), zI K 645 (fun _ => 0)), ((u16 4), zI K 645 (fun _ => 0)), ((u16 5), zI K 1935 (fun _ => 0)), ((u16 6), zI K 8 (fun _ => 0)), ((u16 7), zI K 8 (fun _ => 0)), ((u16 8), zJ K 8 (fun _ => 0)), ((u16 9), zI K 240 (fun _ => 0)), ((u16 10), zI K 240 (fun _ => 0)), (q25, zO 4 6 gg29), ((u26 0), zO 7 6 gg31), ((u26 1), zI K 645 (fun _ => 0)), ((u26 2), zI K 645 (fun _ => 0)), ((u26 3), zI K 645 (fun _ => 0)), ((u26 4), zI K 645 (fun _ => 0)), ((u26 5), zI K 1935 (fun _ => 0)), ((u26 6), zI K 8 (fun _ => 0)), ((u26 7), zI K 8 (fun _ => 0)), ((u26 8), zJ K 8 (fun _ => 0)), ((u26 9), zI K 240 (fun _ => 0)), ((u26 10), zI K 240 (fun _ => 0)), (q35, zO 0 8 gg39), (q15, zO 4 6 gg19), ((u36 0), zO 8 6 gg41), ((u36 1), zI K 400 (fun _ => 0)), ((u36 2), zI K 400 (fun _ => 0)), ((u36 3), zZ K 400 (fun _ => 0)), ((u36 4), zZ K 400 (fun _ => 0)), ((u36 5), zI K 645 (fun _ => 0)), ((u36 6), zI K 8 (fun _ => 0)), ((u36 7), zI K 8 (fun _ => 0)), ((u36 8), zI K 8 (fun _ => 0)), ((u36 9), zZ K 640 (fun _ => 0)), (q45, zO 5 9 gg49), ((u46 0), zO 7 6 gg51), ((u46 1), zI K 400 (fun _ => 0)), ((u46 2), zI K 400 (fun _ => 0)), ((u46 3), zI K 400 (fun _ => 0)), ((u46 4), zI K 400 (fun _ => 0)), ((u46 5), zI K 1200 (fun _ => 0)), ((u46 6), zO 8 6 gg53), ((u46 7), zI K 400 (fun _ => 0)), ((u46 8), zI K 400 (fun _ => 0)), ((u46 9), zZ K 400 (fun _ => 0)), ((u46 10), zZ K 400 (fun _ => 0)), ((u46 11), zI K 8 (fun _ => 0)), ((u46 12), zI K 8 (fun _ => 0)), ((u46 13), zI K 8 (fun _ => 0)), ((u46 14), zI K 8 (fun _ => 0)), (q57, zO 1 18 gg61), ((u58 0), zO 3 7 gg63), ((u58 1), zR K 512 (fun _ => none)), ((u58 2), zO 2 6 gg65), ((u58 3), zI K 608 (fun _ => 0)), ((u58 4), zI K 608 (fun _ => 0)), ((u58 5), zI K 608 (fun _ => 0)), ((u58 6), zI K 608 (fun _ => 0)), ((u58 7), zI K 608 (fun _ => 0)), ((u58 8), zI K 10 (fun _ => 0)), ((u58 9), zJ K 4 (fun _ => 0))] H := hP
  have hD : va_D A [(a0, zO 9 9 gg69), (q1, zO 7 6 gg5), ((u2 0), zI K 200 (fun _ => 0)), ((u2 1), zI K 200 (fun _ => 0)), ((u2 2), zI K 200 (fun _ => 0)), ((u2 3), zI K 200 (fun _ => 0)), ((u2 4), zI K 600 (fun _ => 0)), (q9, zI K 200 (fun _ => 0)), (q12, zI K 200 (fun _ => 0)), ((u16 0), zO 7 6 gg21), ((u16 1), zI K 645 (fun _ => 0)), ((u16 2), zI K 645 (fun _ => 0)), ((u16 3), zI K 645 (fun _ => 0)), ((u16 4), zI K 645 (fun _ => 0)), ((u16 5), zI K 1935 (fun _ => 0)), ((u16 6), zI K 8 (fun _ => 0)), ((u16 7), zI K 8 (fun _ => 0)), ((u16 8), zJ K 8 (fun _ => 0)), ((u16 9), zI K 240 (fun _ => 0)), ((u16 10), zI K 240 (fun _ => 0)), (q25, zO 4 6 gg29), ((u26 0), zO 7 6 gg31), ((u26 1), zI K 645 (fun _ => 0)), ((u26 2), zI K 645 (fun _ => 0)), ((u26 3), zI K 645 (fun _ => 0)), ((u26 4), zI K 645 (fun _ => 0)), ((u26 5), zI K 1935 (fun _ => 0)), ((u26 6), zI K 8 (fun _ => 0)), ((u26 7), zI K 8 (fun _ => 0)), ((u26 8), zJ K 8 (fun _ => 0)), ((u26 9), zI K 240 (fun _ => 0)), ((u26 10), zI K 240 (fun _ => 0)), (q35, zO 0 8 gg39), (q15, zO 4 6 gg19), ((u36 0), zO 8 6 gg41), ((u36 1), zI K 400 (fun _ => 0)), ((u36 2), zI K 400 (fun _ => 0)), ((u36 3), zZ K 400 (fun _ => 0)), ((u36 4), zZ K 400 (fun _ => 0)), ((u36 5), zI K 645 (fun _ => 0)), ((u36 6), zI K 8 (fun _ => 0)), ((u36 7), zI K 8 (fun _ => 0)), ((u36 8), zI K 8 (fun _ => 0)), ((u36 9), zZ K 640 (fun _ => 0)), (q45, zO 5 9 gg49), ((u46 0), zO 7 6 gg51), ((u46 1), zI K 400 (fun _ => 0)), ((u46 2), zI K 400 (fun _ => 0)), ((u46 3), zI K 400 (fun _ => 0)), ((u46 4), zI K 400 (fun _ => 0)), ((u46 5), zI K 1200 (fun _ => 0)), ((u46 6), zO 8 6 gg53), ((u46 7), zI K 400 (fun _ => 0)), ((u46 8), zI K 400 (fun _ => 0)), ((u46 9), zZ K 400 (fun _ => 0)), ((u46 10), zZ K 400 (fun _ => 0)), ((u46 11), zI K 8 (fun _ => 0)), ((u46 12), zI K 8 (fun _ => 0)), ((u46 13), zI K 8 (fun _ => 0)), ((u46 14), zI K 8 (fun _ => 0)), (q57, zO 1 18 gg61), ((u58 0), zO 3 7 gg63), ((u58 1), zR K 512 (fun _ => none)), ((u58 2), zO 2 6 gg65), ((u58 3), zI K 608 (fun _ => 0)), ((u58 4), zI K 608 (fun _ => 0)), ((u58 5), zI K 608 (fun _ => 0)), ((u58 6), zI K 608 (fun _ => 0)), ((u58 7), zI K 608 (fun _ => 0)), ((u58 8), zI K 10 (fun _ => 0)), ((u58 9), zJ K 4 (fun _ => 0))] := hD
  subst y70
  subst y68
  subst y66
  subst y64
  subst y62
  subst y56
  subst y54
  subst y52
  subst y50
  subst y44
  subst y42
  subst y40
  subst y34
  subst y32
  subst y30
  subst y24
  subst y22
  subst y20
  subst y14
  subst y11
  subst y8
  subst y6
  have hP9 : va_P K.1 classes [(a0, zO 9 9 (va_up (va_up (va_up (va_up (va_up (va_up (va_up (va_up (va_up g0 0 (.ref q1)) 1 (.ref q9)) 2 (.ref q12)) 3 (.ref q15)) 4 (.ref q25)) 5 (.ref q35)) 6 (.ref q45)) 7 (.ref q57)) 8 (.int 0))), (q1, zO 7 6 (va_up (va_up (va_up (va_up (va_up (va_up (fun k => defaultValue (tyX9 k)) 0 (.ref (u2 0))) 1 (.ref (u2 1))) 2 (.ref (u2 2))) 3 (.ref (u2 3))) 4 (.ref (u2 4))) 5 (.int 0))), ((u2 0), zI K 200 (fun _ => 0)), ((u2 1), zI K 200 (fun _ => 0)), ((u2 2), zI K 200 (fun _ => 0)), ((u2 3), zI K 200 (fun _ => 0)), ((u2 4), zI K 600 (fun _ => 0)), (q9, zI K 200 (fun _ => 0)), (q12, zI K 200 (fun _ => 0)), (q15, zO 4 6 (va_up (va_up (va_up (va_up (va_up (va_up (fun k => defaultValue (tyX5 k)) 0 (.ref (u16 0))) 1 (.ref (u16 6))) 2 (.ref (u16 7))) 3 (.ref (u16 8))) 4 (.ref (u16 9))) 5 (.ref (u16 10)))), ((u16 0), zO 7 6 (va_up (va_up (va_up (va_up (va_up (va_up (va_up (fun k => defaultValue (tyX9 k)) 0 (.ref (u16 1))) 1 (.ref (u16 2))) 2 (.ref (u16 3))) 3 (.ref (u16 4))) 4 (.ref (u16 5))) 5 (.int 0)) 5 (.int 645))), ((u16 1), zI K 645 (fun _ => 0)), ((u16 2), zI K 645 (fun _ => 0)), ((u16 3), zI K 645 (fun _ => 0)), ((u16 4), zI K 645 (fun _ => 0)), ((u16 5), zI K 1935 (fun _ => 0)), ((u16 6), zI K 8 (fun _ => 0)), ((u16 7), zI K 8 (fun _ => 0)), ((u16 8), zJ K 8 (fun _ => 0)), ((u16 9), zI K 240 (fun _ => 0)), ((u16 10), zI K 240 (fun _ => 0)), (q25, zO 4 6 (va_up (va_up (va_up (va_up (va_up (va_up (fun k => defaultValue (tyX5 k)) 0 (.ref (u26 0))) 1 (.ref (u26 6))) 2 (.ref (u26 7))) 3 (.ref (u26 8))) 4 (.ref (u26 9))) 5 (.ref (u26 10)))), ((u26 0), zO 7 6 (va_up (va_up (va_up (va_up (va_up (va_up (va_up (fun k => defaultValue (tyX9 k)) 0 (.ref (u26 1))) 1 (.ref (u26 2))) 2 (.ref (u26 3))) 3 (.ref (u26 4))) 4 (.ref (u26 5))) 5 (.int 0)) 5 (.int 645))), ((u26 1), zI K 645 (fun _ => 0)), ((u26 2), zI K 645 (fun _ => 0)), ((u26 3), zI K 645 (fun _ => 0)), ((u26 4), zI K 645 (fun _ => 0)), ((u26 5), zI K 1935 (fun _ => 0)), ((u26 6), zI K 8 (fun _ => 0)), ((u26 7), zI K 8 (fun _ => 0)), ((u26 8), zJ K 8 (fun _ => 0)), ((u26 9), zI K 240 (fun _ => 0)), ((u26 10), zI K 240 (fun _ => 0)), (q35, zO 0 8 (va_up (va_up (va_up (va_up (va_up (va_up (va_up (va_up (fun k => defaultValue (tyX0 k)) 0 (.ref q15)) 1 (.ref (u36 0))) 2 (.ref (u36 5))) 3 (.ref (u36 6))) 4 (.ref (u36 7))) 5 (.ref (u36 8))) 6 (.ref (u36 9))) 7 (.int 0))), ((u36 0), zO 8 6 (va_up (va_up (va_up (va_up (va_up (va_up (fun k => defaultValue (tyX10 k)) 0 (.ref (u36 1))) 1 (.ref (u36 2))) 2 (.ref (u36 3))) 3 (.ref (u36 4))) 4 (.ref (u16 0))) 5 (.int 0))), ((u36 1), zI K 400 (fun _ => 0)), ((u36 2), zI K 400 (fun _ => 0)), ((u36 3), zZ K 400 (fun _ => 0)), ((u36 4), zZ K 400 (fun _ => 0)), ((u36 5), zI K 645 (fun _ => 0)), ((u36 6), zI K 8 (fun _ => 0)), ((u36 7), zI K 8 (fun _ => 0)), ((u36 8), zI K 8 (fun _ => 0)), ((u36 9), zZ K 640 (fun _ => 0)), (q45, zO 5 9 (va_up (va_up (va_up (va_up (va_up (va_up (va_up (va_up (va_up (fun k => defaultValue (tyX6 k)) 0 (.ref q15)) 1 (.ref q35)) 2 (.ref (u46 0))) 3 (.ref (u46 6))) 4 (.ref (u46 11))) 5 (.ref (u46 12))) 6 (.ref (u46 13))) 7 (.ref (u46 14))) 8 (.int 0))), ((u46 0), zO 7 6 (va_up (va_up (va_up (va_up (va_up (va_up (fun k => defaultValue (tyX9 k)) 0 (.ref (u46 1))) 1 (.ref (u46 2))) 2 (.ref (u46 3))) 3 (.ref (u46 4))) 4 (.ref (u46 5))) 5 (.int 0))), ((u46 1), zI K 400 (fun _ => 0)), ((u46 2), zI K 400 (fun _ => 0)), ((u46 3), zI K 400 (fun _ => 0)), ((u46 4), zI K 400 (fun _ => 0)), ((u46 5), zI K 1200 (fun _ => 0)), ((u46 6), zO 8 6 (va_up (va_up (va_up (va_up (va_up (va_up (fun k => defaultValue (tyX10 k)) 0 (.ref (u46 7))) 1 (.ref (u46 8))) 2 (.ref (u46 9))) 3 (.ref (u46 10))) 4 (.ref (u46 0))) 5 (.int 0))), ((u46 7), zI K 400 (fun _ => 0)), ((u46 8), zI K 400 (fun _ => 0)), ((u46 9), zZ K 400 (fun _ => 0)), ((u46 10), zZ K 400 (fun _ => 0)), ((u46 11), zI K 8 (fun _ => 0)), ((u46 12), zI K 8 (fun _ => 0)), ((u46 13), zI K 8 (fun _ => 0)), ((u46 14), zI K 8 (fun _ => 0)), (q57, zO 1 18 (va_up (va_up (va_up (va_up (va_up (va_up (va_up (fun k => defaultValue (tyX1 k)) 0 (.ref (u58 0))) 1 (.ref (u58 2))) 2 (.ref (u58 8))) 3 (.ref (u58 9))) 6 (.ref q15)) 11 (.int 6)) 17 (.int 0))), ((u58 0), zO 3 7 (va_up (va_up (va_up (va_up (va_up (va_up (va_up (fun k => defaultValue (tyX3 k)) 0 (.ref q15)) 1 (.ref q25)) 2 (.ref (u58 1))) 3 (.int 0)) 4 (.int 0)) 5 (.int 0)) 6 (.int 0))), ((u58 1), zR K 512 (fun _ => none)), ((u58 2), zO 2 6 (va_up (va_up (va_up (va_up (va_up (va_up (fun k => defaultValue (tyX2 k)) 0 (.ref (u58 3))) 1 (.ref (u58 4))) 2 (.ref (u58 5))) 3 (.ref (u58 6))) 4 (.ref (u58 7))) 5 (.int 0))), ((u58 3), zI K 608 (fun _ => 0)), ((u58 4), zI K 608 (fun _ => 0)), ((u58 5), zI K 608 (fun _ => 0)), ((u58 6), zI K 608 (fun _ => 0)), ((u58 7), zI K 608 (fun _ => 0)), ((u58 8), zI K 10 (fun _ => 0)), ((u58 9), zJ K 4 (fun _ => 0))] H := hP.sub [0, 1, 2, 3, 4, 5, 6, 7, 8, 33, 9, 10, 11, 12, 13, 14, 15, 16, 17, 18, 19, 20, 21, 22, 23, 24, 25, 26, 27, 28, 29, 30, 31, 32, 34, 35, 36, 37, 38, 39, 40, 41, 42, 43, 44, 45, 46, 47, 48, 49, 50, 51, 52, 53, 54, 55, 56, 57, 58, 59, 60, 61, 62, 63, 64, 65, 66, 67, 68, 69, 70] rfl
  have hD9 : va_D A [(a0, zO 9 9 (va_up (va_up (va_up (va_up (va_up (va_up (va_up (va_up (va_up g0 0 (.ref q1)) 1 (.ref q9)) 2 (.ref q12)) 3 (.ref q15)) 4 (.ref q25)) 5 (.ref q35)) 6 (.ref q45)) 7 (.ref q57)) 8 (.int 0))), (q1, zO 7 6 (va_up (va_up (va_up (va_up (va_up (va_up (fun k => defaultValue (tyX9 k)) 0 (.ref (u2 0))) 1 (.ref (u2 1))) 2 (.ref (u2 2))) 3 (.ref (u2 3))) 4 (.ref (u2 4))) 5 (.int 0))), ((u2 0), zI K 200 (fun _ => 0)), ((u2 1), zI K 200 (fun _ => 0)), ((u2 2), zI K 200 (fun _ => 0)), ((u2 3), zI K 200 (fun _ => 0)), ((u2 4), zI K 600 (fun _ => 0)), (q9, zI K 200 (fun _ => 0)), (q12, zI K 200 (fun _ => 0)), (q15, zO 4 6 (va_up (va_up (va_up (va_up (va_up (va_up (fun k => defaultValue (tyX5 k)) 0 (.ref (u16 0))) 1 (.ref (u16 6))) 2 (.ref (u16 7))) 3 (.ref (u16 8))) 4 (.ref (u16 9))) 5 (.ref (u16 10)))), ((u16 0), zO 7 6 (va_up (va_up (va_up (va_up (va_up (va_up (va_up (fun k => defaultValue (tyX9 k)) 0 (.ref (u16 1))) 1 (.ref (u16 2))) 2 (.ref (u16 3))) 3 (.ref (u16 4))) 4 (.ref (u16 5))) 5 (.int 0)) 5 (.int 645))), ((u16 1), zI K 645 (fun _ => 0)), ((u16 2), zI K 645 (fun _ => 0)), ((u16 3), zI K 645 (fun _ => 0)), ((u16 4), zI K 645 (fun _ => 0)), ((u16 5), zI K 1935 (fun _ => 0)), ((u16 6), zI K 8 (fun _ => 0)), ((u16 7), zI K 8 (fun _ => 0)), ((u16 8), zJ K 8 (fun _ => 0)), ((u16 9), zI K 240 (fun _ => 0)), ((u16 10), zI K 240 (fun _ => 0)), (q25, zO 4 6 (va_up (va_up (va_up (va_up (va_up (va_up (fun k => defaultValue (tyX5 k)) 0 (.ref (u26 0))) 1 (.ref (u26 6))) 2 (.ref (u26 7))) 3 (.ref (u26 8))) 4 (.ref (u26 9))) 5 (.ref (u26 10)))), ((u26 0), zO 7 6 (va_up (va_up (va_up (va_up (va_up (va_up (va_up (fun k => defaultValue (tyX9 k)) 0 (.ref (u26 1))) 1 (.ref (u26 2))) 2 (.ref (u26 3))) 3 (.ref (u26 4))) 4 (.ref (u26 5))) 5 (.int 0)) 5 (.int 645))), ((u26 1), zI K 645 (fun _ => 0)), ((u26 2), zI K 645 (fun _ => 0)), ((u26 3), zI K 645 (fun _ => 0)), ((u26 4), zI K 645 (fun _ => 0)), ((u26 5), zI K 1935 (fun _ => 0)), ((u26 6), zI K 8 (fun _ => 0)), ((u26 7), zI K 8 (fun _ => 0)), ((u26 8), zJ K 8 (fun _ => 0)), ((u26 9), zI K 240 (fun _ => 0)), ((u26 10), zI K 240 (fun _ => 0)), (q35, zO 0 8 (va_up (va_up (va_up (va_up (va_up (va_up (va_up (va_up (fun k => defaultValue (tyX0 k)) 0 (.ref q15)) 1 (.ref (u36 0))) 2 (.ref (u36 5))) 3 (.ref (u36 6))) 4 (.ref (u36 7))) 5 (.ref (u36 8))) 6 (.ref (u36 9))) 7 (.int 0))), ((u36 0), zO 8 6 (va_up (va_up (va_up (va_up (va_up (va_up (fun k => defaultValue (tyX10 k)) 0 (.ref (u36 1))) 1 (.ref (u36 2))) 2 (.ref (u36 3))) 3 (.ref (u36 4))) 4 (.ref (u16 0))) 5 (.int 0))), ((u36 1), zI K 400 (fun _ => 0)), ((u36 2), zI K 400 (fun _ => 0)), ((u36 3), zZ K 400 (fun _ => 0)), ((u36 4), zZ K 400 (fun _ => 0)), ((u36 5), zI K 645 (fun _ => 0)), ((u36 6), zI K 8 (fun _ => 0)), ((u36 7), zI K 8 (fun _ => 0)), ((u36 8), zI K 8 (fun _ => 0)), ((u36 9), zZ K 640 (fun _ => 0)), (q45, zO 5 9 (va_up (va_up (va_up (va_up (va_up (va_up (va_up (va_up (va_up (fun k => defaultValue (tyX6 k)) 0 (.ref q15)) 1 (.ref q35)) 2 (.ref (u46 0))) 3 (.ref (u46 6))) 4 (.ref (u46 11))) 5 (.ref (u46 12))) 6 (.ref (u46 13))) 7 (.ref (u46 14))) 8 (.int 0))), ((u46 0), zO 7 6 (va_up (va_up (va_up (va_up (va_up (va_up (fun k => defaultValue (tyX9 k)) 0 (.ref (u46 1))) 1 (.ref (u46 2))) 2 (.ref (u46 3))) 3 (.ref (u46 4))) 4 (.ref (u46 5))) 5 (.int 0))), ((u46 1), zI K 400 (fun _ => 0)), ((u46 2), zI K 400 (fun _ => 0)), ((u46 3), zI K 400 (fun _ => 0)), ((u46 4), zI K 400 (fun _ => 0)), ((u46 5), zI K 1200 (fun _ => 0)), ((u46 6), zO 8 6 (va_up (va_up (va_up (va_up (va_up (va_up (fun k => defaultValue (tyX10 k)) 0 (.ref (u46 7))) 1 (.ref (u46 8))) 2 (.ref (u46 9))) 3 (.ref (u46 10))) 4 (.ref (u46 0))) 5 (.int 0))), ((u46 7), zI K 400 (fun _ => 0)), ((u46 8), zI K 400 (fun _ => 0)), ((u46 9), zZ K 400 (fun _ => 0)), ((u46 10), zZ K 400 (fun _ => 0)), ((u46 11), zI K 8 (fun _ => 0)), ((u46 12), zI K 8 (fun _ => 0)), ((u46 13), zI K 8 (fun _ => 0)), ((u46 14), zI K 8 (fun _ => 0)), (q57, zO 1 18 (va_up (va_up (va_up (va_up (va_up (va_up (va_up (fun k => defaultValue (tyX1 k)) 0 (.ref (u58 0))) 1 (.ref (u58 2))) 2 (.ref (u58 8))) 3 (.ref (u58 9))) 6 (.ref q15)) 11 (.int 6)) 17 (.int 0))), ((u58 0), zO 3 7 (va_up (va_up (va_up (va_up (va_up (va_up (va_up (fun k => defaultValue (tyX3 k)) 0 (.ref q15)) 1 (.ref q25)) 2 (.ref (u58 1))) 3 (.int 0)) 4 (.int 0)) 5 (.int 0)) 6 (.int 0))), ((u58 1), zR K 512 (fun _ => none)), ((u58 2), zO 2 6 (va_up (va_up (va_up (va_up (va_up (va_up (fun k => defaultValue (tyX2 k)) 0 (.ref (u58 3))) 1 (.ref (u58 4))) 2 (.ref (u58 5))) 3 (.ref (u58 6))) 4 (.ref (u58 7))) 5 (.int 0))), ((u58 3), zI K 608 (fun _ => 0)), ((u58 4), zI K 608 (fun _ => 0)), ((u58 5), zI K 608 (fun _ => 0)), ((u58 6), zI K 608 (fun _ => 0)), ((u58 7), zI K 608 (fun _ => 0)), ((u58 8), zI K 10 (fun _ => 0)), ((u58 9), zJ K 4 (fun _ => 0))] := hD.sub [0, 1, 2, 3, 4, 5, 6, 7, 8, 33, 9, 10, 11, 12, 13, 14, 15, 16, 17, 18, 19, 20, 21, 22, 23, 24, 25, 26, 27, 28, 29, 30, 31, 32, 34, 35, 36, 37, 38, 39, 40, 41, 42, 43, 44, 45, 46, 47, 48, 49, 50, 51, 52, 53, 54, 55, 56, 57, 58, 59, 60, 61, 62, 63, 64, 65, 66, 67, 68, 69, 70] (by decide) rfl
  exact z_vret hx hb hr (fun k => ([q1, (u2 0), (u2 1), (u2 2), (u2 3), (u2 4), q9, q12, q15, (u16 0), (u16 1), (u16 2), (u16 3), (u16 4), (u16 5), (u16 6), (u16 7), (u16 8), (u16 9), (u16 10), q25, (u26 0), (u26 1), (u26 2), (u26 3), (u26 4), (u26 5), (u26 6), (u26 7), (u26 8), (u26 9), (u26 10), q35, (u36 0), (u36 1), (u36 2), (u36 3), (u36 4), (u36 5), (u36 6), (u36 7), (u36 8), (u36 9), q45, (u46 0), (u46 1), (u46 2), (u46 3), (u46 4), (u46 5), (u46 6), (u46 7), (u46 8), (u46 9), (u46 10), (u46 11), (u46 12), (u46 13), (u46 14), q57, (u58 0), (u58 1), (u58 2), (u58 3), (u58 4), (u58 5), (u58 6), (u58 7), (u58 8), (u58 9)] : List Nat).getD k 0) trivial hP9 hD9 hS (Nat.le_of_ble_eq_true rfl) (Nat.le_of_ble_eq_true rfl) hlocks dX11_init_116
