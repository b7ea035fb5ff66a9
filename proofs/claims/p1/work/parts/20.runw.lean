/-! words and sites of the law's cases [19] (printed by wip/p1/walk.py) -/
theorem mt898 : Cond.methodLink RL 73 yX11_run ∈ WG := zt (List.mem_of_getElem? (i := 898) (by decide +kernel)) rfl
theorem mt899 : Cond.instanceMethod yX11_run ∈ WG := zt (List.mem_of_getElem? (i := 899) (by decide +kernel)) rfl
theorem mt900 : Cond.selects RX11 yX11_run yX11_run ∈ WG := zt (List.mem_of_getElem? (i := 900) (by decide +kernel)) rfl
theorem mt901 : Cond.code yX11_run cX11_run 9 (some .int) ∈ WG := zt (List.mem_of_getElem? (i := 901) (by decide +kernel)) rfl
theorem mt895 : Cond.methodLink RL 166 yL_run ∈ WG := zt (List.mem_of_getElem? (i := 895) (by decide +kernel)) rfl
theorem mt896 : Cond.static yL_run ∈ WG := zt (List.mem_of_getElem? (i := 896) (by decide +kernel)) rfl
theorem mt897 : Cond.codeWith yL_run cL_run 9 (some .int) [(0, 18, 21, 18), (0, 18, 25, 13)] ∈ WG := zt (List.mem_of_getElem? (i := 897) (by decide +kernel)) rfl
theorem mt1802 : Cond.methodLink RX12 492 yX12_mayRun ∈ WG := zt (List.mem_of_getElem? (i := 1802) (by decide +kernel)) rfl
theorem mt1804 : Cond.instanceMethod yX12_mayRun ∈ WG := zt (List.mem_of_getElem? (i := 1804) (by decide +kernel)) rfl
theorem ms109 : Cond.selects RX12 yX12_mayRun yX12_mayRun ∈ WG := zs (List.mem_of_getElem? (i := 109) (by decide +kernel)) rfl
theorem mt1805 : Cond.code yX12_mayRun cX12_mayRun 5 (some .boolean) ∈ WG := zt (List.mem_of_getElem? (i := 1805) (by decide +kernel)) rfl
theorem mt1798 : Cond.methodLink RL 169 yX12_run ∈ WG := zt (List.mem_of_getElem? (i := 1798) (by decide +kernel)) rfl
theorem mt1799 : Cond.instanceMethod yX12_run ∈ WG := zt (List.mem_of_getElem? (i := 1799) (by decide +kernel)) rfl
theorem mt1800 : Cond.selects RX12 yX12_run yX12_run ∈ WG := zt (List.mem_of_getElem? (i := 1800) (by decide +kernel)) rfl
theorem mt1801 : Cond.code yX12_run cX12_run 7 (some .int) ∈ WG := zt (List.mem_of_getElem? (i := 1801) (by decide +kernel)) rfl
theorem mt902 : Cond.methodLink RX11 130 yX11_programToRun ∈ WG := zt (List.mem_of_getElem? (i := 902) (by decide +kernel)) rfl
theorem mt904 : Cond.instanceMethod yX11_programToRun ∈ WG := zt (List.mem_of_getElem? (i := 904) (by decide +kernel)) rfl
theorem ms32 : Cond.selects RX11 yX11_programToRun yX11_programToRun ∈ WG := zs (List.mem_of_getElem? (i := 32) (by decide +kernel)) rfl
theorem mt905 : Cond.code yX11_programToRun cX11_programToRun 4 (some (.object "LazyLoom$Program")) ∈ WG := zt (List.mem_of_getElem? (i := 905) (by decide +kernel)) rfl
theorem mt906 : Cond.methodLink RX11 157 yX11_programOf ∈ WG := zt (List.mem_of_getElem? (i := 906) (by decide +kernel)) rfl
theorem mt908 : Cond.instanceMethod yX11_programOf ∈ WG := zt (List.mem_of_getElem? (i := 908) (by decide +kernel)) rfl
theorem ms33 : Cond.selects RX11 yX11_programOf yX11_programOf ∈ WG := zs (List.mem_of_getElem? (i := 33) (by decide +kernel)) rfl
theorem mt909 : Cond.code yX11_programOf cX11_programOf 2 (some (.object "LazyLoom$Program")) ∈ WG := zt (List.mem_of_getElem? (i := 909) (by decide +kernel)) rfl
theorem mt915 : Cond.methodLink RX5 81 yX9_set ∈ WG := zt (List.mem_of_getElem? (i := 915) (by decide +kernel)) rfl
theorem mt916 : Cond.methodLink RX5 85 yX9_join ∈ WG := zt (List.mem_of_getElem? (i := 916) (by decide +kernel)) rfl
theorem mt911 : Cond.methodLink RX11 134 yX5_call ∈ WG := zt (List.mem_of_getElem? (i := 911) (by decide +kernel)) rfl
theorem mt912 : Cond.instanceMethod yX5_call ∈ WG := zt (List.mem_of_getElem? (i := 912) (by decide +kernel)) rfl
theorem mt913 : Cond.selects RX5 yX5_call yX5_call ∈ WG := zt (List.mem_of_getElem? (i := 913) (by decide +kernel)) rfl
theorem mt914 : Cond.code yX5_call cX5_call 5 (some .int) ∈ WG := zt (List.mem_of_getElem? (i := 914) (by decide +kernel)) rfl
theorem mt925 : Cond.methodLink RX3 38 yX5_hasFound ∈ WG := zt (List.mem_of_getElem? (i := 925) (by decide +kernel)) rfl
theorem mt926 : Cond.instanceMethod yX5_hasFound ∈ WG := zt (List.mem_of_getElem? (i := 926) (by decide +kernel)) rfl
theorem mt927 : Cond.selects RX5 yX5_hasFound yX5_hasFound ∈ WG := zt (List.mem_of_getElem? (i := 927) (by decide +kernel)) rfl
theorem mt928 : Cond.code yX5_hasFound cX5_hasFound 2 (some .boolean) ∈ WG := zt (List.mem_of_getElem? (i := 928) (by decide +kernel)) rfl
theorem mt933 : Cond.instantiable RX7 3 ∈ WG := zt (List.mem_of_getElem? (i := 933) (by decide +kernel)) rfl
theorem mt21 : Cond.initialized RX7 ∈ WG := zt (List.mem_of_getElem? (i := 21) (by decide +kernel)) rfl
theorem mt937 : Cond.methodLink RX7 3 objectInit ∈ WG := zt (List.mem_of_getElem? (i := 937) (by decide +kernel)) rfl
theorem mt938 : Cond.fieldLink RX7 11 "LazyLoom$Row" "abouts" "[J" ∈ WG := zt (List.mem_of_getElem? (i := 938) (by decide +kernel)) rfl
theorem mt940 : Cond.fieldLink RX7 15 "LazyLoom$Row" "ones" "[J" ∈ WG := zt (List.mem_of_getElem? (i := 940) (by decide +kernel)) rfl
theorem mt942 : Cond.fieldLink RX7 18 "LazyLoom$Row" "twos" "[J" ∈ WG := zt (List.mem_of_getElem? (i := 942) (by decide +kernel)) rfl
theorem mt936 : Cond.code yX7_init cX7_init 1 none ∈ WG := zt (List.mem_of_getElem? (i := 936) (by decide +kernel)) rfl
theorem mt934 : Cond.methodLink RX3 47 yX7_init ∈ WG := zt (List.mem_of_getElem? (i := 934) (by decide +kernel)) rfl
theorem mt935 : Cond.instanceMethod yX7_init ∈ WG := zt (List.mem_of_getElem? (i := 935) (by decide +kernel)) rfl
theorem mt929 : Cond.methodLink RX3 44 yX3_makeRow ∈ WG := zt (List.mem_of_getElem? (i := 929) (by decide +kernel)) rfl
theorem mt931 : Cond.instanceMethod yX3_makeRow ∈ WG := zt (List.mem_of_getElem? (i := 931) (by decide +kernel)) rfl
theorem ms34 : Cond.selects RX3 yX3_makeRow yX3_makeRow ∈ WG := zs (List.mem_of_getElem? (i := 34) (by decide +kernel)) rfl
theorem mt932 : Cond.code yX3_makeRow cX3_makeRow 1 none ∈ WG := zt (List.mem_of_getElem? (i := 932) (by decide +kernel)) rfl
theorem mt921 : Cond.methodLink RX1 46 yX3_prepare ∈ WG := zt (List.mem_of_getElem? (i := 921) (by decide +kernel)) rfl
theorem mt922 : Cond.instanceMethod yX3_prepare ∈ WG := zt (List.mem_of_getElem? (i := 922) (by decide +kernel)) rfl
theorem mt923 : Cond.selects RX3 yX3_prepare yX3_prepare ∈ WG := zt (List.mem_of_getElem? (i := 923) (by decide +kernel)) rfl
theorem mt924 : Cond.code yX3_prepare cX3_prepare 1 none ∈ WG := zt (List.mem_of_getElem? (i := 924) (by decide +kernel)) rfl
theorem mt952 : Cond.methodLink RX1 49 yX2_clear ∈ WG := zt (List.mem_of_getElem? (i := 952) (by decide +kernel)) rfl
theorem mt953 : Cond.instanceMethod yX2_clear ∈ WG := zt (List.mem_of_getElem? (i := 953) (by decide +kernel)) rfl
theorem mt954 : Cond.selects RX2 yX2_clear yX2_clear ∈ WG := zt (List.mem_of_getElem? (i := 954) (by decide +kernel)) rfl
theorem mt955 : Cond.code yX2_clear cX2_clear 1 none ∈ WG := zt (List.mem_of_getElem? (i := 955) (by decide +kernel)) rfl
theorem mt956 : Cond.methodLink RX1 52 yJ7_fill_53178 ∈ WG := zt (List.mem_of_getElem? (i := 956) (by decide +kernel)) rfl
theorem mt373 : Cond.static yJ7_fill_53178 ∈ WG := zt (List.mem_of_getElem? (i := 373) (by decide +kernel)) rfl
theorem mt19 : Cond.initialized "java/util/Arrays" ∈ WG := zt (List.mem_of_getElem? (i := 19) (by decide +kernel)) rfl
theorem mt374 : Cond.code yJ7_fill_53178 cJ7_fill_53178 4 none ∈ WG := zt (List.mem_of_getElem? (i := 374) (by decide +kernel)) rfl
theorem mt256 : Cond.fieldLink RX1 58 "LazyLoom$Finder" "isShared" "Z" ∈ WG := zt (List.mem_of_getElem? (i := 256) (by decide +kernel)) rfl
theorem mt258 : Cond.fieldLink RX1 62 "LazyLoom$Finder" "interrupt" "I" ∈ WG := zt (List.mem_of_getElem? (i := 258) (by decide +kernel)) rfl
theorem mt253 : Cond.fieldLink RX1 65 "LazyLoom$Finder" "manySparks" "I" ∈ WG := zt (List.mem_of_getElem? (i := 253) (by decide +kernel)) rfl
theorem mt254 : Cond.fieldLink RX1 68 "LazyLoom$Finder" "nextSpark" "I" ∈ WG := zt (List.mem_of_getElem? (i := 254) (by decide +kernel)) rfl
theorem mt257 : Cond.fieldLink RX1 71 "LazyLoom$Finder" "isSpark" "Z" ∈ WG := zt (List.mem_of_getElem? (i := 257) (by decide +kernel)) rfl
theorem mt259 : Cond.fieldLink RX1 74 "LazyLoom$Finder" "steps" "I" ∈ WG := zt (List.mem_of_getElem? (i := 259) (by decide +kernel)) rfl
theorem mt262 : Cond.fieldLink RX1 77 "LazyLoom$Finder" "env" "I" ∈ WG := zt (List.mem_of_getElem? (i := 262) (by decide +kernel)) rfl
theorem mt263 : Cond.fieldLink RX1 80 "LazyLoom$Finder" "centre" "I" ∈ WG := zt (List.mem_of_getElem? (i := 263) (by decide +kernel)) rfl
theorem mt265 : Cond.fieldLink RX1 83 "LazyLoom$Finder" "result" "I" ∈ WG := zt (List.mem_of_getElem? (i := 265) (by decide +kernel)) rfl
theorem mt261 : Cond.fieldLink RX1 114 "LazyLoom$Finder" "node" "I" ∈ WG := zt (List.mem_of_getElem? (i := 261) (by decide +kernel)) rfl
theorem mt957 : Cond.methodLink RX1 86 yX1_goTo ∈ WG := zt (List.mem_of_getElem? (i := 957) (by decide +kernel)) rfl
theorem mt959 : Cond.instanceMethod yX1_goTo ∈ WG := zt (List.mem_of_getElem? (i := 959) (by decide +kernel)) rfl
theorem ms35 : Cond.selects RX1 yX1_goTo yX1_goTo ∈ WG := zs (List.mem_of_getElem? (i := 35) (by decide +kernel)) rfl
theorem mt960 : Cond.code yX1_goTo cX1_goTo 2 none ∈ WG := zt (List.mem_of_getElem? (i := 960) (by decide +kernel)) rfl
theorem mt961 : Cond.constant RX1 90 (1000000) ∈ WG := zt (List.mem_of_getElem? (i := 961) (by decide +kernel)) rfl
theorem mt966 : Cond.methodLink RX1 119 yX1_stop ∈ WG := zt (List.mem_of_getElem? (i := 966) (by decide +kernel)) rfl
theorem mt968 : Cond.instanceMethod yX1_stop ∈ WG := zt (List.mem_of_getElem? (i := 968) (by decide +kernel)) rfl
theorem ms37 : Cond.selects RX1 yX1_stop yX1_stop ∈ WG := zs (List.mem_of_getElem? (i := 37) (by decide +kernel)) rfl
theorem mt969 : Cond.code yX1_stop cX1_stop 2 none ∈ WG := zt (List.mem_of_getElem? (i := 969) (by decide +kernel)) rfl
theorem mt962 : Cond.methodLink RX1 91 yX1_step ∈ WG := zt (List.mem_of_getElem? (i := 962) (by decide +kernel)) rfl
theorem mt964 : Cond.instanceMethod yX1_step ∈ WG := zt (List.mem_of_getElem? (i := 964) (by decide +kernel)) rfl
theorem ms36 : Cond.selects RX1 yX1_step yX1_step ∈ WG := zs (List.mem_of_getElem? (i := 36) (by decide +kernel)) rfl
theorem mt965 : Cond.code yX1_step cX1_step 2 none ∈ WG := zt (List.mem_of_getElem? (i := 965) (by decide +kernel)) rfl
theorem mt1136 : Cond.methodLink RX1 244 yX2_pop ∈ WG := zt (List.mem_of_getElem? (i := 1136) (by decide +kernel)) rfl
theorem mt1137 : Cond.instanceMethod yX2_pop ∈ WG := zt (List.mem_of_getElem? (i := 1137) (by decide +kernel)) rfl
theorem mt1138 : Cond.selects RX2 yX2_pop yX2_pop ∈ WG := zt (List.mem_of_getElem? (i := 1138) (by decide +kernel)) rfl
theorem mt1139 : Cond.code yX2_pop cX2_pop 1 (some .boolean) ∈ WG := zt (List.mem_of_getElem? (i := 1139) (by decide +kernel)) rfl
theorem mt1207 : Cond.methodLink RX1 108 yX1_leave ∈ WG := zt (List.mem_of_getElem? (i := 1207) (by decide +kernel)) rfl
theorem mt1209 : Cond.instanceMethod yX1_leave ∈ WG := zt (List.mem_of_getElem? (i := 1209) (by decide +kernel)) rfl
theorem ms64 : Cond.selects RX1 yX1_leave yX1_leave ∈ WG := zs (List.mem_of_getElem? (i := 64) (by decide +kernel)) rfl
theorem mt1210 : Cond.code yX1_leave cX1_leave 1 none ∈ WG := zt (List.mem_of_getElem? (i := 1210) (by decide +kernel)) rfl
theorem mt1211 : Cond.methodLink RX1 111 yX1_rest ∈ WG := zt (List.mem_of_getElem? (i := 1211) (by decide +kernel)) rfl
theorem mt1213 : Cond.instanceMethod yX1_rest ∈ WG := zt (List.mem_of_getElem? (i := 1213) (by decide +kernel)) rfl
theorem ms65 : Cond.selects RX1 yX1_rest yX1_rest ∈ WG := zs (List.mem_of_getElem? (i := 65) (by decide +kernel)) rfl
theorem mt1214 : Cond.code yX1_rest cX1_rest 4 none ∈ WG := zt (List.mem_of_getElem? (i := 1214) (by decide +kernel)) rfl
theorem mt917 : Cond.methodLink RX11 138 yX1_find ∈ WG := zt (List.mem_of_getElem? (i := 917) (by decide +kernel)) rfl
theorem mt918 : Cond.instanceMethod yX1_find ∈ WG := zt (List.mem_of_getElem? (i := 918) (by decide +kernel)) rfl
theorem mt919 : Cond.selects RX1 yX1_find yX1_find ∈ WG := zt (List.mem_of_getElem? (i := 919) (by decide +kernel)) rfl
theorem mt920 : Cond.code yX1_find cX1_find 6 (some .int) ∈ WG := zt (List.mem_of_getElem? (i := 920) (by decide +kernel)) rfl
theorem mt1336 : Cond.fieldLink RX12 431 "LazyLoomModel" "isPlain" "Z" ∈ WG := zt (List.mem_of_getElem? (i := 1336) (by decide +kernel)) rfl
theorem mt1340 : Cond.fieldLink RX12 449 "LazyLoomModel" "interrupt" "I" ∈ WG := zt (List.mem_of_getElem? (i := 1340) (by decide +kernel)) rfl
theorem mt1359 : Cond.fieldLink RX12 410 "LazyLoomModel" "told" "I" ∈ WG := zt (List.mem_of_getElem? (i := 1359) (by decide +kernel)) rfl
theorem mt1335 : Cond.fieldLink RX12 371 "LazyLoomModel" "program" "I" ∈ WG := zt (List.mem_of_getElem? (i := 1335) (by decide +kernel)) rfl
theorem mt1810 : Cond.methodLink RX12 482 yX12_laysRun ∈ WG := zt (List.mem_of_getElem? (i := 1810) (by decide +kernel)) rfl
theorem mt1812 : Cond.instanceMethod yX12_laysRun ∈ WG := zt (List.mem_of_getElem? (i := 1812) (by decide +kernel)) rfl
theorem ms111 : Cond.selects RX12 yX12_laysRun yX12_laysRun ∈ WG := zs (List.mem_of_getElem? (i := 111) (by decide +kernel)) rfl
theorem mt1813 : Cond.code yX12_laysRun cX12_laysRun 7 none ∈ WG := zt (List.mem_of_getElem? (i := 1813) (by decide +kernel)) rfl
theorem mt1338 : Cond.fieldLink RX12 443 "LazyLoomModel" "used" "I" ∈ WG := zt (List.mem_of_getElem? (i := 1338) (by decide +kernel)) rfl
theorem mt1339 : Cond.fieldLink RX12 446 "LazyLoomModel" "most" "I" ∈ WG := zt (List.mem_of_getElem? (i := 1339) (by decide +kernel)) rfl
theorem mt1352 : Cond.fieldLink RX12 398 "LazyLoomModel" "deep" "I" ∈ WG := zt (List.mem_of_getElem? (i := 1352) (by decide +kernel)) rfl
theorem mt1357 : Cond.fieldLink RX12 440 "LazyLoomModel" "sparks" "I" ∈ WG := zt (List.mem_of_getElem? (i := 1357) (by decide +kernel)) rfl
theorem mt1342 : Cond.fieldLink RX12 413 "LazyLoomModel" "atNode" "I" ∈ WG := zt (List.mem_of_getElem? (i := 1342) (by decide +kernel)) rfl
theorem mt1343 : Cond.fieldLink RX12 416 "LazyLoomModel" "atAround" "I" ∈ WG := zt (List.mem_of_getElem? (i := 1343) (by decide +kernel)) rfl
theorem mt1344 : Cond.fieldLink RX12 419 "LazyLoomModel" "atCentre" "I" ∈ WG := zt (List.mem_of_getElem? (i := 1344) (by decide +kernel)) rfl
theorem mt1345 : Cond.fieldLink RX12 383 "LazyLoomModel" "isBack" "Z" ∈ WG := zt (List.mem_of_getElem? (i := 1345) (by decide +kernel)) rfl
theorem mt1814 : Cond.methodLink RX12 404 yX12_goesOn ∈ WG := zt (List.mem_of_getElem? (i := 1814) (by decide +kernel)) rfl
theorem mt1816 : Cond.instanceMethod yX12_goesOn ∈ WG := zt (List.mem_of_getElem? (i := 1816) (by decide +kernel)) rfl
theorem ms112 : Cond.selects RX12 yX12_goesOn yX12_goesOn ∈ WG := zs (List.mem_of_getElem? (i := 112) (by decide +kernel)) rfl
theorem mt1817 : Cond.code yX12_goesOn cX12_goesOn 4 none ∈ WG := zt (List.mem_of_getElem? (i := 1817) (by decide +kernel)) rfl
theorem mt1341 : Cond.fieldLink RX12 395 "LazyLoomModel" "ended" "I" ∈ WG := zt (List.mem_of_getElem? (i := 1341) (by decide +kernel)) rfl
theorem mt1337 : Cond.fieldLink RX12 407 "LazyLoomModel" "isSpark" "Z" ∈ WG := zt (List.mem_of_getElem? (i := 1337) (by decide +kernel)) rfl
theorem mt1826 : Cond.methodLink RX12 434 yX12_stops ∈ WG := zt (List.mem_of_getElem? (i := 1826) (by decide +kernel)) rfl
theorem mt1828 : Cond.instanceMethod yX12_stops ∈ WG := zt (List.mem_of_getElem? (i := 1828) (by decide +kernel)) rfl
theorem ms115 : Cond.selects RX12 yX12_stops yX12_stops ∈ WG := zs (List.mem_of_getElem? (i := 115) (by decide +kernel)) rfl
theorem mt1829 : Cond.code yX12_stops cX12_stops 2 none ∈ WG := zt (List.mem_of_getElem? (i := 1829) (by decide +kernel)) rfl
theorem mt1874 : Cond.methodLink RX12 476 yX12_steps ∈ WG := zt (List.mem_of_getElem? (i := 1874) (by decide +kernel)) rfl
theorem mt1876 : Cond.instanceMethod yX12_steps ∈ WG := zt (List.mem_of_getElem? (i := 1876) (by decide +kernel)) rfl
theorem ms127 : Cond.selects RX12 yX12_steps yX12_steps ∈ WG := zs (List.mem_of_getElem? (i := 127) (by decide +kernel)) rfl
theorem mt1877 : Cond.code yX12_steps cX12_steps 1 none ∈ WG := zt (List.mem_of_getElem? (i := 1877) (by decide +kernel)) rfl
theorem mt1818 : Cond.methodLink RX12 479 yX12_finds ∈ WG := zt (List.mem_of_getElem? (i := 1818) (by decide +kernel)) rfl
theorem mt1820 : Cond.instanceMethod yX12_finds ∈ WG := zt (List.mem_of_getElem? (i := 1820) (by decide +kernel)) rfl
theorem ms113 : Cond.selects RX12 yX12_finds yX12_finds ∈ WG := zs (List.mem_of_getElem? (i := 113) (by decide +kernel)) rfl
theorem mt1821 : Cond.code yX12_finds cX12_finds 1 none ∈ WG := zt (List.mem_of_getElem? (i := 1821) (by decide +kernel)) rfl
theorem mt1320 : Cond.fieldLink RX12 353 "LazyLoomModel" "arounds" "I" ∈ WG := zt (List.mem_of_getElem? (i := 1320) (by decide +kernel)) rfl
theorem mt1326 : Cond.fieldLink RX12 389 "LazyLoomModel" "datas" "I" ∈ WG := zt (List.mem_of_getElem? (i := 1326) (by decide +kernel)) rfl
theorem mt1334 : Cond.fieldLink RX12 501 "LazyLoomModel" "many" "I" ∈ WG := zt (List.mem_of_getElem? (i := 1334) (by decide +kernel)) rfl
theorem mt1907 : Cond.methodLink RX12 507 yX12_reaches ∈ WG := zt (List.mem_of_getElem? (i := 1907) (by decide +kernel)) rfl
theorem mt1909 : Cond.instanceMethod yX12_reaches ∈ WG := zt (List.mem_of_getElem? (i := 1909) (by decide +kernel)) rfl
theorem ms135 : Cond.selects RX12 yX12_reaches yX12_reaches ∈ WG := zs (List.mem_of_getElem? (i := 135) (by decide +kernel)) rfl
theorem mt1910 : Cond.code yX12_reaches cX12_reaches 2 none ∈ WG := zt (List.mem_of_getElem? (i := 1910) (by decide +kernel)) rfl
theorem mt1911 : Cond.methodLink RX12 513 yX12_follows ∈ WG := zt (List.mem_of_getElem? (i := 1911) (by decide +kernel)) rfl
theorem mt1913 : Cond.instanceMethod yX12_follows ∈ WG := zt (List.mem_of_getElem? (i := 1913) (by decide +kernel)) rfl
theorem ms136 : Cond.selects RX12 yX12_follows yX12_follows ∈ WG := zs (List.mem_of_getElem? (i := 136) (by decide +kernel)) rfl
theorem mt1914 : Cond.code yX12_follows cX12_follows 4 none ∈ WG := zt (List.mem_of_getElem? (i := 1914) (by decide +kernel)) rfl
theorem mt1918 : Cond.methodLink RX12 516 yX12_places ∈ WG := zt (List.mem_of_getElem? (i := 1918) (by decide +kernel)) rfl
theorem mt1920 : Cond.instanceMethod yX12_places ∈ WG := zt (List.mem_of_getElem? (i := 1920) (by decide +kernel)) rfl
theorem ms137 : Cond.selects RX12 yX12_places yX12_places ∈ WG := zs (List.mem_of_getElem? (i := 137) (by decide +kernel)) rfl
theorem mt1921 : Cond.code yX12_places cX12_places 5 (some .int) ∈ WG := zt (List.mem_of_getElem? (i := 1921) (by decide +kernel)) rfl
theorem mt1906 : Cond.constant RX12 500 (150000) ∈ WG := zt (List.mem_of_getElem? (i := 1906) (by decide +kernel)) rfl
theorem mt1922 : Cond.methodLink RX12 519 yX12_movesCells ∈ WG := zt (List.mem_of_getElem? (i := 1922) (by decide +kernel)) rfl
theorem mt1924 : Cond.instanceMethod yX12_movesCells ∈ WG := zt (List.mem_of_getElem? (i := 1924) (by decide +kernel)) rfl
theorem ms138 : Cond.selects RX12 yX12_movesCells yX12_movesCells ∈ WG := zs (List.mem_of_getElem? (i := 138) (by decide +kernel)) rfl
theorem mt1925 : Cond.code yX12_movesCells cX12_movesCells 4 none ∈ WG := zt (List.mem_of_getElem? (i := 1925) (by decide +kernel)) rfl
theorem mt1938 : Cond.methodLink RX12 522 yX12_movesArounds ∈ WG := zt (List.mem_of_getElem? (i := 1938) (by decide +kernel)) rfl
theorem mt1940 : Cond.instanceMethod yX12_movesArounds ∈ WG := zt (List.mem_of_getElem? (i := 1940) (by decide +kernel)) rfl
theorem ms142 : Cond.selects RX12 yX12_movesArounds yX12_movesArounds ∈ WG := zs (List.mem_of_getElem? (i := 142) (by decide +kernel)) rfl
theorem mt1941 : Cond.code yX12_movesArounds cX12_movesArounds 3 none ∈ WG := zt (List.mem_of_getElem? (i := 1941) (by decide +kernel)) rfl
theorem mt1942 : Cond.methodLink RX12 525 yX12_movesDatas ∈ WG := zt (List.mem_of_getElem? (i := 1942) (by decide +kernel)) rfl
theorem mt1944 : Cond.instanceMethod yX12_movesDatas ∈ WG := zt (List.mem_of_getElem? (i := 1944) (by decide +kernel)) rfl
theorem ms143 : Cond.selects RX12 yX12_movesDatas yX12_movesDatas ∈ WG := zs (List.mem_of_getElem? (i := 143) (by decide +kernel)) rfl
theorem mt1945 : Cond.code yX12_movesDatas cX12_movesDatas 5 none ∈ WG := zt (List.mem_of_getElem? (i := 1945) (by decide +kernel)) rfl
theorem mt1902 : Cond.methodLink RX12 489 yX12_sweeps ∈ WG := zt (List.mem_of_getElem? (i := 1902) (by decide +kernel)) rfl
theorem mt1904 : Cond.instanceMethod yX12_sweeps ∈ WG := zt (List.mem_of_getElem? (i := 1904) (by decide +kernel)) rfl
theorem ms134 : Cond.selects RX12 yX12_sweeps yX12_sweeps ∈ WG := zs (List.mem_of_getElem? (i := 134) (by decide +kernel)) rfl
theorem mt1905 : Cond.code yX12_sweeps cX12_sweeps 4 none ∈ WG := zt (List.mem_of_getElem? (i := 1905) (by decide +kernel)) rfl
theorem mt1806 : Cond.methodLink RX12 496 yX12_begins ∈ WG := zt (List.mem_of_getElem? (i := 1806) (by decide +kernel)) rfl
theorem mt1808 : Cond.instanceMethod yX12_begins ∈ WG := zt (List.mem_of_getElem? (i := 1808) (by decide +kernel)) rfl
theorem ms110 : Cond.selects RX12 yX12_begins yX12_begins ∈ WG := zs (List.mem_of_getElem? (i := 110) (by decide +kernel)) rfl
theorem mt1809 : Cond.code yX12_begins cX12_begins 7 (some .int) ∈ WG := zt (List.mem_of_getElem? (i := 1809) (by decide +kernel)) rfl
theorem mt970 : Cond.methodLink RX1 126 yX1_countStep ∈ WG := zt (List.mem_of_getElem? (i := 970) (by decide +kernel)) rfl
theorem mt972 : Cond.instanceMethod yX1_countStep ∈ WG := zt (List.mem_of_getElem? (i := 972) (by decide +kernel)) rfl
theorem ms38 : Cond.selects RX1 yX1_countStep yX1_countStep ∈ WG := zs (List.mem_of_getElem? (i := 38) (by decide +kernel)) rfl
theorem mt973 : Cond.code yX1_countStep cX1_countStep 1 none ∈ WG := zt (List.mem_of_getElem? (i := 973) (by decide +kernel)) rfl
theorem mt72 : Cond.fieldLink RX1 129 "LazyLoom$Program" "code" "LLazyLoom$Tree;" ∈ WG := zt (List.mem_of_getElem? (i := 72) (by decide +kernel)) rfl
theorem mt974 : Cond.methodLink RX1 135 yX9_kindOf ∈ WG := zt (List.mem_of_getElem? (i := 974) (by decide +kernel)) rfl
theorem mt482 : Cond.instanceMethod yX9_kindOf ∈ WG := zt (List.mem_of_getElem? (i := 482) (by decide +kernel)) rfl
theorem mt483 : Cond.selects RX9 yX9_kindOf yX9_kindOf ∈ WG := zt (List.mem_of_getElem? (i := 483) (by decide +kernel)) rfl
theorem mt484 : Cond.code yX9_kindOf cX9_kindOf 2 (some .int) ∈ WG := zt (List.mem_of_getElem? (i := 484) (by decide +kernel)) rfl
theorem mt979 : Cond.methodLink RX1 157 yX9_numberOf ∈ WG := zt (List.mem_of_getElem? (i := 979) (by decide +kernel)) rfl
theorem mt758 : Cond.instanceMethod yX9_numberOf ∈ WG := zt (List.mem_of_getElem? (i := 758) (by decide +kernel)) rfl
theorem mt759 : Cond.selects RX9 yX9_numberOf yX9_numberOf ∈ WG := zt (List.mem_of_getElem? (i := 759) (by decide +kernel)) rfl
theorem mt760 : Cond.code yX9_numberOf cX9_numberOf 2 (some .int) ∈ WG := zt (List.mem_of_getElem? (i := 760) (by decide +kernel)) rfl
theorem mt983 : Cond.constantLong RX8 9 (4294967295) ∈ WG := zt (List.mem_of_getElem? (i := 983) (by decide +kernel)) rfl
theorem mt980 : Cond.methodLink RX1 122 yX8_of ∈ WG := zt (List.mem_of_getElem? (i := 980) (by decide +kernel)) rfl
theorem mt981 : Cond.static yX8_of ∈ WG := zt (List.mem_of_getElem? (i := 981) (by decide +kernel)) rfl
theorem mt22 : Cond.initialized RX8 ∈ WG := zt (List.mem_of_getElem? (i := 22) (by decide +kernel)) rfl
theorem mt982 : Cond.code yX8_of cX8_of 2 (some .long) ∈ WG := zt (List.mem_of_getElem? (i := 982) (by decide +kernel)) rfl
theorem mt264 : Cond.fieldLink RX1 94 "LazyLoom$Finder" "found" "J" ∈ WG := zt (List.mem_of_getElem? (i := 264) (by decide +kernel)) rfl
theorem mt1032 : Cond.methodLink RX1 154 yX1_goToThing ∈ WG := zt (List.mem_of_getElem? (i := 1032) (by decide +kernel)) rfl
theorem mt1034 : Cond.instanceMethod yX1_goToThing ∈ WG := zt (List.mem_of_getElem? (i := 1034) (by decide +kernel)) rfl
theorem ms46 : Cond.selects RX1 yX1_goToThing yX1_goToThing ∈ WG := zs (List.mem_of_getElem? (i := 46) (by decide +kernel)) rfl
theorem mt1035 : Cond.code yX1_goToThing cX1_goToThing 3 none ∈ WG := zt (List.mem_of_getElem? (i := 1035) (by decide +kernel)) rfl
theorem mt1063 : Cond.methodLink RX1 189 yX8_sort ∈ WG := zt (List.mem_of_getElem? (i := 1063) (by decide +kernel)) rfl
theorem mt1054 : Cond.static yX8_sort ∈ WG := zt (List.mem_of_getElem? (i := 1054) (by decide +kernel)) rfl
theorem mt1055 : Cond.code yX8_sort cX8_sort 2 (some .int) ∈ WG := zt (List.mem_of_getElem? (i := 1055) (by decide +kernel)) rfl
theorem mt1072 : Cond.methodLink RX1 193 yX8_low ∈ WG := zt (List.mem_of_getElem? (i := 1072) (by decide +kernel)) rfl
theorem mt1057 : Cond.static yX8_low ∈ WG := zt (List.mem_of_getElem? (i := 1057) (by decide +kernel)) rfl
theorem mt1058 : Cond.code yX8_low cX8_low 2 (some .int) ∈ WG := zt (List.mem_of_getElem? (i := 1058) (by decide +kernel)) rfl
theorem mt1118 : Cond.methodLink RX1 222 yX5_rootOf ∈ WG := zt (List.mem_of_getElem? (i := 1118) (by decide +kernel)) rfl
theorem mt341 : Cond.instanceMethod yX5_rootOf ∈ WG := zt (List.mem_of_getElem? (i := 341) (by decide +kernel)) rfl
theorem mt342 : Cond.selects RX5 yX5_rootOf yX5_rootOf ∈ WG := zt (List.mem_of_getElem? (i := 342) (by decide +kernel)) rfl
theorem mt343 : Cond.code yX5_rootOf cX5_rootOf 2 (some .int) ∈ WG := zt (List.mem_of_getElem? (i := 343) (by decide +kernel)) rfl
theorem mt1119 : Cond.methodLink RX1 225 yX5_stateOf ∈ WG := zt (List.mem_of_getElem? (i := 1119) (by decide +kernel)) rfl
theorem mt1120 : Cond.instanceMethod yX5_stateOf ∈ WG := zt (List.mem_of_getElem? (i := 1120) (by decide +kernel)) rfl
theorem mt1121 : Cond.selects RX5 yX5_stateOf yX5_stateOf ∈ WG := zt (List.mem_of_getElem? (i := 1121) (by decide +kernel)) rfl
theorem mt1122 : Cond.code yX5_stateOf cX5_stateOf 2 (some .int) ∈ WG := zt (List.mem_of_getElem? (i := 1122) (by decide +kernel)) rfl
theorem mt1123 : Cond.methodLink RX1 226 yX5_sizeOf ∈ WG := zt (List.mem_of_getElem? (i := 1123) (by decide +kernel)) rfl
theorem mt1114 : Cond.methodLink RX1 199 yX1_lookAtOwn ∈ WG := zt (List.mem_of_getElem? (i := 1114) (by decide +kernel)) rfl
theorem mt1116 : Cond.instanceMethod yX1_lookAtOwn ∈ WG := zt (List.mem_of_getElem? (i := 1116) (by decide +kernel)) rfl
theorem ms54 : Cond.selects RX1 yX1_lookAtOwn yX1_lookAtOwn ∈ WG := zs (List.mem_of_getElem? (i := 54) (by decide +kernel)) rfl
theorem mt1117 : Cond.code yX1_lookAtOwn cX1_lookAtOwn 4 none ∈ WG := zt (List.mem_of_getElem? (i := 1117) (by decide +kernel)) rfl
theorem mt1068 : Cond.methodLink RX1 98 yX1_lookAt ∈ WG := zt (List.mem_of_getElem? (i := 1068) (by decide +kernel)) rfl
theorem mt1070 : Cond.instanceMethod yX1_lookAt ∈ WG := zt (List.mem_of_getElem? (i := 1070) (by decide +kernel)) rfl
theorem ms49 : Cond.selects RX1 yX1_lookAt yX1_lookAt ∈ WG := zs (List.mem_of_getElem? (i := 49) (by decide +kernel)) rfl
theorem mt1071 : Cond.code yX1_lookAt cX1_lookAt 3 none ∈ WG := zt (List.mem_of_getElem? (i := 1071) (by decide +kernel)) rfl
theorem mt1886 : Cond.methodLink RX12 428 yX12_settles ∈ WG := zt (List.mem_of_getElem? (i := 1886) (by decide +kernel)) rfl
theorem mt1888 : Cond.instanceMethod yX12_settles ∈ WG := zt (List.mem_of_getElem? (i := 1888) (by decide +kernel)) rfl
theorem ms130 : Cond.selects RX12 yX12_settles yX12_settles ∈ WG := zs (List.mem_of_getElem? (i := 130) (by decide +kernel)) rfl
theorem mt1889 : Cond.code yX12_settles cX12_settles 3 none ∈ WG := zt (List.mem_of_getElem? (i := 1889) (by decide +kernel)) rfl
theorem mt1882 : Cond.methodLink RX12 452 yX12_findsCell ∈ WG := zt (List.mem_of_getElem? (i := 1882) (by decide +kernel)) rfl
theorem mt1884 : Cond.instanceMethod yX12_findsCell ∈ WG := zt (List.mem_of_getElem? (i := 1884) (by decide +kernel)) rfl
theorem ms129 : Cond.selects RX12 yX12_findsCell yX12_findsCell ∈ WG := zs (List.mem_of_getElem? (i := 129) (by decide +kernel)) rfl
theorem mt1885 : Cond.code yX12_findsCell cX12_findsCell 4 none ∈ WG := zt (List.mem_of_getElem? (i := 1885) (by decide +kernel)) rfl
theorem mt1064 : Cond.methodLink RX1 170 yX2_push ∈ WG := zt (List.mem_of_getElem? (i := 1064) (by decide +kernel)) rfl
theorem mt1065 : Cond.instanceMethod yX2_push ∈ WG := zt (List.mem_of_getElem? (i := 1065) (by decide +kernel)) rfl
theorem mt1066 : Cond.selects RX2 yX2_push yX2_push ∈ WG := zt (List.mem_of_getElem? (i := 1066) (by decide +kernel)) rfl
theorem mt1067 : Cond.code yX2_push cX2_push 6 none ∈ WG := zt (List.mem_of_getElem? (i := 1067) (by decide +kernel)) rfl
theorem mt993 : Cond.methodLink RX1 166 yX9_part ∈ WG := zt (List.mem_of_getElem? (i := 993) (by decide +kernel)) rfl
theorem mt1156 : Cond.methodLink RX1 260 yX2_what ∈ WG := zt (List.mem_of_getElem? (i := 1156) (by decide +kernel)) rfl
theorem mt1157 : Cond.instanceMethod yX2_what ∈ WG := zt (List.mem_of_getElem? (i := 1157) (by decide +kernel)) rfl
theorem mt1158 : Cond.selects RX2 yX2_what yX2_what ∈ WG := zt (List.mem_of_getElem? (i := 1158) (by decide +kernel)) rfl
theorem mt1159 : Cond.code yX2_what cX2_what 1 (some .int) ∈ WG := zt (List.mem_of_getElem? (i := 1159) (by decide +kernel)) rfl
theorem mt1203 : Cond.methodLink RX1 304 yX1_uncolour ∈ WG := zt (List.mem_of_getElem? (i := 1203) (by decide +kernel)) rfl
theorem mt1205 : Cond.instanceMethod yX1_uncolour ∈ WG := zt (List.mem_of_getElem? (i := 1205) (by decide +kernel)) rfl
theorem ms63 : Cond.selects RX1 yX1_uncolour yX1_uncolour ∈ WG := zs (List.mem_of_getElem? (i := 63) (by decide +kernel)) rfl
theorem mt1206 : Cond.code yX1_uncolour cX1_uncolour 1 none ∈ WG := zt (List.mem_of_getElem? (i := 1206) (by decide +kernel)) rfl
theorem mt1858 : Cond.methodLink RX12 437 yX12_waits ∈ WG := zt (List.mem_of_getElem? (i := 1858) (by decide +kernel)) rfl
theorem mt1860 : Cond.instanceMethod yX12_waits ∈ WG := zt (List.mem_of_getElem? (i := 1860) (by decide +kernel)) rfl
theorem ms123 : Cond.selects RX12 yX12_waits yX12_waits ∈ WG := zs (List.mem_of_getElem? (i := 123) (by decide +kernel)) rfl
theorem mt1861 : Cond.code yX12_waits cX12_waits 3 none ∈ WG := zt (List.mem_of_getElem? (i := 1861) (by decide +kernel)) rfl
theorem mt1295 : Cond.fieldLink RX12 261 "LazyLoomModel" "hasBegun" "Z" ∈ WG := zt (List.mem_of_getElem? (i := 1295) (by decide +kernel)) rfl
theorem dL_law_1471 : decode cL_law 1471 = .ok (.aload_n 1, 1) := by decide +kernel
theorem dL_law_1472 : decode cL_law 1472 = .ok (.aload_n 0, 1) := by decide +kernel
theorem dL_law_1473 : decode cL_law 1473 = .ok (.iload 4, 2) := by decide +kernel
theorem dL_law_1475 : decode cL_law 1475 = .ok (.iconst 1, 1) := by decide +kernel
theorem dL_law_1476 : decode cL_law 1476 = .ok (.iadd, 1) := by decide +kernel
theorem dL_law_1477 : decode cL_law 1477 = .ok (.iaload, 1) := by decide +kernel
theorem dL_law_1478 : decode cL_law 1478 = .ok (.aload_n 0, 1) := by decide +kernel
theorem dL_law_1479 : decode cL_law 1479 = .ok (.iload 4, 2) := by decide +kernel
theorem dL_law_1481 : decode cL_law 1481 = .ok (.iconst 2, 1) := by decide +kernel
theorem dL_law_1482 : decode cL_law 1482 = .ok (.iadd, 1) := by decide +kernel
theorem dL_law_1483 : decode cL_law 1483 = .ok (.iaload, 1) := by decide +kernel
theorem dL_law_1484 : decode cL_law 1484 = .ok (.aload_n 0, 1) := by decide +kernel
theorem dL_law_1485 : decode cL_law 1485 = .ok (.iload 4, 2) := by decide +kernel
theorem dL_law_1487 : decode cL_law 1487 = .ok (.iconst 3, 1) := by decide +kernel
theorem dL_law_1488 : decode cL_law 1488 = .ok (.iadd, 1) := by decide +kernel
theorem dL_law_1489 : decode cL_law 1489 = .ok (.iaload, 1) := by decide +kernel
theorem dL_law_1490 : decode cL_law 1490 = .ok (.aload_n 0, 1) := by decide +kernel
theorem dL_law_1491 : decode cL_law 1491 = .ok (.iload 4, 2) := by decide +kernel
theorem dL_law_1493 : decode cL_law 1493 = .ok (.iconst 4, 1) := by decide +kernel
theorem dL_law_1494 : decode cL_law 1494 = .ok (.iadd, 1) := by decide +kernel
theorem dL_law_1495 : decode cL_law 1495 = .ok (.iaload, 1) := by decide +kernel
theorem dL_law_1496 : decode cL_law 1496 = .ok (.aload_n 0, 1) := by decide +kernel
theorem dL_law_1497 : decode cL_law 1497 = .ok (.iload 4, 2) := by decide +kernel
theorem dL_law_1499 : decode cL_law 1499 = .ok (.iconst 5, 1) := by decide +kernel
theorem dL_law_1500 : decode cL_law 1500 = .ok (.iadd, 1) := by decide +kernel
theorem dL_law_1501 : decode cL_law 1501 = .ok (.iaload, 1) := by decide +kernel
theorem dL_law_1502 : decode cL_law 1502 = .ok (.aload_n 0, 1) := by decide +kernel
theorem dL_law_1503 : decode cL_law 1503 = .ok (.iload 4, 2) := by decide +kernel
theorem dL_law_1505 : decode cL_law 1505 = .ok (.bipush 6, 2) := by decide +kernel
theorem dL_law_1507 : decode cL_law 1507 = .ok (.iadd, 1) := by decide +kernel
theorem dL_law_1508 : decode cL_law 1508 = .ok (.iaload, 1) := by decide +kernel
theorem dL_law_1509 : decode cL_law 1509 = .ok (.ifCond .eq 7, 3) := by decide +kernel
theorem dL_law_1512 : decode cL_law 1512 = .ok (.iconst 1, 1) := by decide +kernel
theorem dL_law_1513 : decode cL_law 1513 = .ok (.goto 4, 3) := by decide +kernel
theorem dL_law_1516 : decode cL_law 1516 = .ok (.iconst 0, 1) := by decide +kernel
theorem dL_law_1517 : decode cL_law 1517 = .ok (.aload_n 3, 1) := by decide +kernel
theorem dL_law_1518 : decode cL_law 1518 = .ok (.invokestatic 166, 3) := by decide +kernel
theorem dL_law_1521 : decode cL_law 1521 = .ok (.istore 5, 2) := by decide +kernel
theorem dL_law_1523 : decode cL_law 1523 = .ok (.aload_n 2, 1) := by decide +kernel
theorem dL_law_1524 : decode cL_law 1524 = .ok (.aload_n 0, 1) := by decide +kernel
theorem dL_law_1525 : decode cL_law 1525 = .ok (.iload 4, 2) := by decide +kernel
theorem dL_law_1527 : decode cL_law 1527 = .ok (.iconst 1, 1) := by decide +kernel
theorem dL_law_1528 : decode cL_law 1528 = .ok (.iadd, 1) := by decide +kernel
theorem dL_law_1529 : decode cL_law 1529 = .ok (.iaload, 1) := by decide +kernel
theorem dL_law_1530 : decode cL_law 1530 = .ok (.aload_n 0, 1) := by decide +kernel
theorem dL_law_1531 : decode cL_law 1531 = .ok (.iload 4, 2) := by decide +kernel
theorem dL_law_1533 : decode cL_law 1533 = .ok (.iconst 2, 1) := by decide +kernel
theorem dL_law_1534 : decode cL_law 1534 = .ok (.iadd, 1) := by decide +kernel
theorem dL_law_1535 : decode cL_law 1535 = .ok (.iaload, 1) := by decide +kernel
theorem dL_law_1536 : decode cL_law 1536 = .ok (.aload_n 0, 1) := by decide +kernel
theorem dL_law_1537 : decode cL_law 1537 = .ok (.iload 4, 2) := by decide +kernel
theorem dL_law_1539 : decode cL_law 1539 = .ok (.iconst 3, 1) := by decide +kernel
theorem dL_law_1540 : decode cL_law 1540 = .ok (.iadd, 1) := by decide +kernel
theorem dL_law_1541 : decode cL_law 1541 = .ok (.iaload, 1) := by decide +kernel
theorem dL_law_1542 : decode cL_law 1542 = .ok (.aload_n 0, 1) := by decide +kernel
theorem dL_law_1543 : decode cL_law 1543 = .ok (.iload 4, 2) := by decide +kernel
theorem dL_law_1545 : decode cL_law 1545 = .ok (.iconst 4, 1) := by decide +kernel
theorem dL_law_1546 : decode cL_law 1546 = .ok (.iadd, 1) := by decide +kernel
theorem dL_law_1547 : decode cL_law 1547 = .ok (.iaload, 1) := by decide +kernel
theorem dL_law_1548 : decode cL_law 1548 = .ok (.aload_n 0, 1) := by decide +kernel
theorem dL_law_1549 : decode cL_law 1549 = .ok (.iload 4, 2) := by decide +kernel
theorem dL_law_1551 : decode cL_law 1551 = .ok (.iconst 5, 1) := by decide +kernel
theorem dL_law_1552 : decode cL_law 1552 = .ok (.iadd, 1) := by decide +kernel
theorem dL_law_1553 : decode cL_law 1553 = .ok (.iaload, 1) := by decide +kernel
theorem dL_law_1554 : decode cL_law 1554 = .ok (.aload_n 0, 1) := by decide +kernel
theorem dL_law_1555 : decode cL_law 1555 = .ok (.iload 4, 2) := by decide +kernel
theorem dL_law_1557 : decode cL_law 1557 = .ok (.bipush 6, 2) := by decide +kernel
theorem dL_law_1559 : decode cL_law 1559 = .ok (.iadd, 1) := by decide +kernel
theorem dL_law_1560 : decode cL_law 1560 = .ok (.iaload, 1) := by decide +kernel
theorem dL_law_1561 : decode cL_law 1561 = .ok (.ifCond .eq 7, 3) := by decide +kernel
theorem dL_law_1564 : decode cL_law 1564 = .ok (.iconst 1, 1) := by decide +kernel
theorem dL_law_1565 : decode cL_law 1565 = .ok (.goto 4, 3) := by decide +kernel
theorem dL_law_1568 : decode cL_law 1568 = .ok (.iconst 0, 1) := by decide +kernel
theorem dL_law_1569 : decode cL_law 1569 = .ok (.invokevirtual 169, 3) := by decide +kernel
theorem dL_law_1572 : decode cL_law 1572 = .ok (.istore 6, 2) := by decide +kernel
theorem dL_law_1574 : decode cL_law 1574 = .ok (.aload_n 2, 1) := by decide +kernel
theorem dL_law_1575 : decode cL_law 1575 = .ok (.invokevirtual 104, 3) := by decide +kernel
theorem dL_law_1578 : decode cL_law 1578 = .ok (.iload 5, 2) := by decide +kernel
theorem dL_law_1580 : decode cL_law 1580 = .ok (.if_icmp .eq 5, 3) := by decide +kernel
theorem dL_law_1585 : decode cL_law 1585 = .ok (.iload 5, 2) := by decide +kernel
theorem dL_law_1587 : decode cL_law 1587 = .ok (.ifCond .ne 15, 3) := by decide +kernel
theorem dL_law_1590 : decode cL_law 1590 = .ok (.aload_n 3, 1) := by decide +kernel
theorem dL_law_1591 : decode cL_law 1591 = .ok (.iconst 0, 1) := by decide +kernel
theorem dL_law_1592 : decode cL_law 1592 = .ok (.laload, 1) := by decide +kernel
theorem dL_law_1593 : decode cL_law 1593 = .ok (.iload 6, 2) := by decide +kernel
theorem dL_law_1595 : decode cL_law 1595 = .ok (.i2l, 1) := by decide +kernel
theorem dL_law_1596 : decode cL_law 1596 = .ok (.lcmp, 1) := by decide +kernel
theorem dL_law_1597 : decode cL_law 1597 = .ok (.ifCond .eq 5, 3) := by decide +kernel
theorem dL_law_1602 : decode cL_law 1602 = .ok (.goto 424, 3) := by decide +kernel
theorem dL_run_0 : decode cL_run 0 = .ok (.aload 7, 2) := by decide +kernel
theorem dL_run_2 : decode cL_run 2 = .ok (.iconst 0, 1) := by decide +kernel
theorem dL_run_3 : decode cL_run 3 = .ok (.aload_n 0, 1) := by decide +kernel
theorem dL_run_4 : decode cL_run 4 = .ok (.iload_n 1, 1) := by decide +kernel
theorem dL_run_5 : decode cL_run 5 = .ok (.iload_n 2, 1) := by decide +kernel
theorem dL_run_6 : decode cL_run 6 = .ok (.iload_n 3, 1) := by decide +kernel
theorem dL_run_7 : decode cL_run 7 = .ok (.iload 4, 2) := by decide +kernel
theorem dL_run_9 : decode cL_run 9 = .ok (.iload 5, 2) := by decide +kernel
theorem dL_run_11 : decode cL_run 11 = .ok (.iload 6, 2) := by decide +kernel
theorem dL_run_13 : decode cL_run 13 = .ok (.invokevirtual 73, 3) := by decide +kernel
theorem dL_run_16 : decode cL_run 16 = .ok (.i2l, 1) := by decide +kernel
theorem dL_run_17 : decode cL_run 17 = .ok (.lastore, 1) := by decide +kernel
theorem dL_run_18 : decode cL_run 18 = .ok (.goto 11, 3) := by decide +kernel
theorem dL_run_21 : decode cL_run 21 = .ok (.astore 8, 2) := by decide +kernel
theorem dL_run_23 : decode cL_run 23 = .ok (.iconst 1, 1) := by decide +kernel
theorem dL_run_24 : decode cL_run 24 = .ok (.ireturn, 1) := by decide +kernel
theorem dL_run_25 : decode cL_run 25 = .ok (.astore 8, 2) := by decide +kernel
theorem dL_run_27 : decode cL_run 27 = .ok (.iconst 2, 1) := by decide +kernel
theorem dL_run_28 : decode cL_run 28 = .ok (.ireturn, 1) := by decide +kernel
theorem dL_run_29 : decode cL_run 29 = .ok (.iconst 0, 1) := by decide +kernel
theorem dL_run_30 : decode cL_run 30 = .ok (.ireturn, 1) := by decide +kernel
theorem dX11_run_0 : decode cX11_run 0 = .ok (.aload_n 0, 1) := by decide +kernel
theorem dX11_run_1 : decode cX11_run 1 = .ok (.iload 5, 2) := by decide +kernel
theorem dX11_run_3 : decode cX11_run 3 = .ok (.sipush 601, 3) := by decide +kernel
theorem dX11_run_6 : decode cX11_run 6 = .ok (.invokevirtual 72, 3) := by decide +kernel
theorem dX11_run_9 : decode cX11_run 9 = .ok (.aload_n 0, 1) := by decide +kernel
theorem dX11_run_10 : decode cX11_run 10 = .ok (.iload_n 1, 1) := by decide +kernel
theorem dX11_run_11 : decode cX11_run 11 = .ok (.iload_n 2, 1) := by decide +kernel
theorem dX11_run_12 : decode cX11_run 12 = .ok (.iload 6, 2) := by decide +kernel
theorem dX11_run_14 : decode cX11_run 14 = .ok (.invokevirtual 130, 3) := by decide +kernel
theorem dX11_run_17 : decode cX11_run 17 = .ok (.astore 7, 2) := by decide +kernel
theorem dX11_run_19 : decode cX11_run 19 = .ok (.aload 7, 2) := by decide +kernel
theorem dX11_run_21 : decode cX11_run 21 = .ok (.iload_n 1, 1) := by decide +kernel
theorem dX11_run_22 : decode cX11_run 22 = .ok (.iload_n 2, 1) := by decide +kernel
theorem dX11_run_23 : decode cX11_run 23 = .ok (.iload_n 3, 1) := by decide +kernel
theorem dX11_run_24 : decode cX11_run 24 = .ok (.iload 4, 2) := by decide +kernel
theorem dX11_run_26 : decode cX11_run 26 = .ok (.invokevirtual 134, 3) := by decide +kernel
theorem dX11_run_29 : decode cX11_run 29 = .ok (.istore 8, 2) := by decide +kernel
theorem dX11_run_31 : decode cX11_run 31 = .ok (.aload_n 0, 1) := by decide +kernel
theorem dX11_run_32 : decode cX11_run 32 = .ok (.getfield 58, 3) := by decide +kernel
theorem dX11_run_35 : decode cX11_run 35 = .ok (.aload 7, 2) := by decide +kernel
theorem dX11_run_37 : decode cX11_run 37 = .ok (.iload 8, 2) := by decide +kernel
theorem dX11_run_39 : decode cX11_run 39 = .ok (.iconst 1, 1) := by decide +kernel
theorem dX11_run_40 : decode cX11_run 40 = .ok (.iload 5, 2) := by decide +kernel
theorem dX11_run_42 : decode cX11_run 42 = .ok (.invokevirtual 138, 3) := by decide +kernel
theorem dX11_run_45 : decode cX11_run 45 = .ok (.ireturn, 1) := by decide +kernel
theorem dX12_run_0 : decode cX12_run 0 = .ok (.aload_n 0, 1) := by decide +kernel
theorem dX12_run_1 : decode cX12_run 1 = .ok (.iload_n 1, 1) := by decide +kernel
theorem dX12_run_2 : decode cX12_run 2 = .ok (.iload_n 2, 1) := by decide +kernel
theorem dX12_run_3 : decode cX12_run 3 = .ok (.iload 5, 2) := by decide +kernel
theorem dX12_run_5 : decode cX12_run 5 = .ok (.iconst 0, 1) := by decide +kernel
theorem dX12_run_6 : decode cX12_run 6 = .ok (.sipush 600, 3) := by decide +kernel
theorem dX12_run_9 : decode cX12_run 9 = .ok (.invokestatic 175, 3) := by decide +kernel
theorem dX12_run_12 : decode cX12_run 12 = .ok (.iload 6, 2) := by decide +kernel
theorem dX12_run_14 : decode cX12_run 14 = .ok (.invokevirtual 492, 3) := by decide +kernel
theorem dX12_run_17 : decode cX12_run 17 = .ok (.ifCond .ne 5, 3) := by decide +kernel
theorem dX12_run_20 : decode cX12_run 20 = .ok (.iconst 0, 1) := by decide +kernel
theorem dX12_run_21 : decode cX12_run 21 = .ok (.ireturn, 1) := by decide +kernel
theorem dX12_run_22 : decode cX12_run 22 = .ok (.aload_n 0, 1) := by decide +kernel
theorem dX12_run_23 : decode cX12_run 23 = .ok (.iconst 0, 1) := by decide +kernel
theorem dX12_run_24 : decode cX12_run 24 = .ok (.putfield 431, 3) := by decide +kernel
theorem dX12_run_27 : decode cX12_run 27 = .ok (.aload_n 0, 1) := by decide +kernel
theorem dX12_run_28 : decode cX12_run 28 = .ok (.iload 5, 2) := by decide +kernel
theorem dX12_run_30 : decode cX12_run 30 = .ok (.putfield 449, 3) := by decide +kernel
theorem dX12_run_33 : decode cX12_run 33 = .ok (.aload_n 0, 1) := by decide +kernel
theorem dX12_run_34 : decode cX12_run 34 = .ok (.iload_n 1, 1) := by decide +kernel
theorem dX12_run_35 : decode cX12_run 35 = .ok (.iload_n 2, 1) := by decide +kernel
theorem dX12_run_36 : decode cX12_run 36 = .ok (.iload_n 3, 1) := by decide +kernel
theorem dX12_run_37 : decode cX12_run 37 = .ok (.iload 4, 2) := by decide +kernel
theorem dX12_run_39 : decode cX12_run 39 = .ok (.iload 6, 2) := by decide +kernel
theorem dX12_run_41 : decode cX12_run 41 = .ok (.invokevirtual 496, 3) := by decide +kernel
theorem dX12_run_44 : decode cX12_run 44 = .ok (.ireturn, 1) := by decide +kernel
theorem dX12_mayRun_0 : decode cX12_mayRun 0 = .ok (.aload_n 0, 1) := by decide +kernel
theorem dX12_mayRun_1 : decode cX12_mayRun 1 = .ok (.iload_n 1, 1) := by decide +kernel
theorem dX12_mayRun_2 : decode cX12_mayRun 2 = .ok (.invokestatic 197, 3) := by decide +kernel
theorem dX12_mayRun_5 : decode cX12_mayRun 5 = .ok (.ifCond .eq 16, 3) := by decide +kernel
theorem dX12_mayRun_8 : decode cX12_mayRun 8 = .ok (.iload_n 2, 1) := by decide +kernel
theorem dX12_mayRun_9 : decode cX12_mayRun 9 = .ok (.iconst 0, 1) := by decide +kernel
theorem dX12_mayRun_10 : decode cX12_mayRun 10 = .ok (.iconst 2, 1) := by decide +kernel
theorem dX12_mayRun_11 : decode cX12_mayRun 11 = .ok (.invokestatic 175, 3) := by decide +kernel
theorem dX12_mayRun_14 : decode cX12_mayRun 14 = .ok (.ifCond .eq 7, 3) := by decide +kernel
theorem dX12_mayRun_17 : decode cX12_mayRun 17 = .ok (.iload_n 3, 1) := by decide +kernel
theorem dX12_mayRun_18 : decode cX12_mayRun 18 = .ok (.ifCond .ne 7, 3) := by decide +kernel
theorem dX12_mayRun_21 : decode cX12_mayRun 21 = .ok (.iconst 1, 1) := by decide +kernel
theorem dX12_mayRun_22 : decode cX12_mayRun 22 = .ok (.goto 20, 3) := by decide +kernel
theorem dX12_mayRun_25 : decode cX12_mayRun 25 = .ok (.iload 4, 2) := by decide +kernel
theorem dX12_mayRun_27 : decode cX12_mayRun 27 = .ok (.ifCond .eq 14, 3) := by decide +kernel
theorem dX12_mayRun_30 : decode cX12_mayRun 30 = .ok (.aload_n 0, 1) := by decide +kernel
theorem dX12_mayRun_31 : decode cX12_mayRun 31 = .ok (.getfield 261, 3) := by decide +kernel
theorem dX12_mayRun_34 : decode cX12_mayRun 34 = .ok (.ifCond .ne 7, 3) := by decide +kernel
theorem dX12_mayRun_37 : decode cX12_mayRun 37 = .ok (.iconst 2, 1) := by decide +kernel
theorem dX12_mayRun_38 : decode cX12_mayRun 38 = .ok (.goto 4, 3) := by decide +kernel
theorem dX12_mayRun_41 : decode cX12_mayRun 41 = .ok (.iconst 0, 1) := by decide +kernel
theorem dX12_mayRun_42 : decode cX12_mayRun 42 = .ok (.invokevirtual 182, 3) := by decide +kernel
theorem dX12_mayRun_45 : decode cX12_mayRun 45 = .ok (.ireturn, 1) := by decide +kernel
theorem dX11_programToRun_0 : decode cX11_programToRun 0 = .ok (.aload_n 0, 1) := by decide +kernel
theorem dX11_programToRun_1 : decode cX11_programToRun 1 = .ok (.iload_n 1, 1) := by decide +kernel
theorem dX11_programToRun_2 : decode cX11_programToRun 2 = .ok (.bipush 8, 2) := by decide +kernel
theorem dX11_programToRun_4 : decode cX11_programToRun 4 = .ok (.invokevirtual 72, 3) := by decide +kernel
theorem dX11_programToRun_7 : decode cX11_programToRun 7 = .ok (.aload_n 0, 1) := by decide +kernel
theorem dX11_programToRun_8 : decode cX11_programToRun 8 = .ok (.iload_n 2, 1) := by decide +kernel
theorem dX11_programToRun_9 : decode cX11_programToRun 9 = .ok (.iconst 3, 1) := by decide +kernel
theorem dX11_programToRun_10 : decode cX11_programToRun 10 = .ok (.invokevirtual 72, 3) := by decide +kernel
theorem dX11_programToRun_13 : decode cX11_programToRun 13 = .ok (.aload_n 0, 1) := by decide +kernel
theorem dX11_programToRun_14 : decode cX11_programToRun 14 = .ok (.iload_n 3, 1) := by decide +kernel
theorem dX11_programToRun_15 : decode cX11_programToRun 15 = .ok (.invokevirtual 157, 3) := by decide +kernel
theorem dX11_programToRun_18 : decode cX11_programToRun 18 = .ok (.areturn, 1) := by decide +kernel
theorem dX11_programOf_0 : decode cX11_programOf 0 = .ok (.iload_n 1, 1) := by decide +kernel
theorem dX11_programOf_1 : decode cX11_programOf 1 = .ok (.ifCond .ne 8, 3) := by decide +kernel
theorem dX11_programOf_4 : decode cX11_programOf 4 = .ok (.aload_n 0, 1) := by decide +kernel
theorem dX11_programOf_5 : decode cX11_programOf 5 = .ok (.getfield 28, 3) := by decide +kernel
theorem dX11_programOf_8 : decode cX11_programOf 8 = .ok (.areturn, 1) := by decide +kernel
theorem dX11_programOf_9 : decode cX11_programOf 9 = .ok (.aload_n 0, 1) := by decide +kernel
theorem dX11_programOf_10 : decode cX11_programOf 10 = .ok (.getfield 62, 3) := by decide +kernel
theorem dX11_programOf_13 : decode cX11_programOf 13 = .ok (.ifCond .ne 13, 3) := by decide +kernel
theorem dX11_programOf_16 : decode cX11_programOf 16 = .ok (.new 89, 3) := by decide +kernel
theorem dX11_programOf_19 : decode cX11_programOf 19 = .ok (.dup, 1) := by decide +kernel
theorem dX11_programOf_20 : decode cX11_programOf 20 = .ok (.ldc 196, 2) := by decide +kernel
theorem dX11_programOf_22 : decode cX11_programOf 22 = .ok (.invokespecial 93, 3) := by decide +kernel
theorem dX11_programOf_25 : decode cX11_programOf 25 = .ok (.athrow, 1) := by decide +kernel
theorem dX5_call_0 : decode cX5_call 0 = .ok (.aload_n 0, 1) := by decide +kernel
theorem dX5_call_1 : decode cX5_call 1 = .ok (.getfield 16, 3) := by decide +kernel
theorem dX5_call_4 : decode cX5_call 4 = .ok (.sipush 640, 3) := by decide +kernel
theorem dX5_call_7 : decode cX5_call 7 = .ok (.iconst 2, 1) := by decide +kernel
theorem dX5_call_8 : decode cX5_call 8 = .ok (.iload_n 1, 1) := by decide +kernel
theorem dX5_call_9 : decode cX5_call 9 = .ok (.iconst 0, 1) := by decide +kernel
theorem dX5_call_10 : decode cX5_call 10 = .ok (.iconst 0, 1) := by decide +kernel
theorem dX5_call_11 : decode cX5_call 11 = .ok (.invokevirtual 81, 3) := by decide +kernel
theorem dX5_call_14 : decode cX5_call 14 = .ok (.aload_n 0, 1) := by decide +kernel
theorem dX5_call_15 : decode cX5_call 15 = .ok (.getfield 16, 3) := by decide +kernel
theorem dX5_call_18 : decode cX5_call 18 = .ok (.sipush 641, 3) := by decide +kernel
theorem dX5_call_21 : decode cX5_call 21 = .ok (.iconst 0, 1) := by decide +kernel
theorem dX5_call_22 : decode cX5_call 22 = .ok (.iload_n 3, 1) := by decide +kernel
theorem dX5_call_23 : decode cX5_call 23 = .ok (.iconst 0, 1) := by decide +kernel
theorem dX5_call_24 : decode cX5_call 24 = .ok (.iconst 0, 1) := by decide +kernel
theorem dX5_call_25 : decode cX5_call 25 = .ok (.invokevirtual 81, 3) := by decide +kernel
theorem dX5_call_28 : decode cX5_call 28 = .ok (.aload_n 0, 1) := by decide +kernel
theorem dX5_call_29 : decode cX5_call 29 = .ok (.getfield 16, 3) := by decide +kernel
theorem dX5_call_32 : decode cX5_call 32 = .ok (.sipush 642, 3) := by decide +kernel
theorem dX5_call_35 : decode cX5_call 35 = .ok (.iconst 4, 1) := by decide +kernel
theorem dX5_call_36 : decode cX5_call 36 = .ok (.iconst 0, 1) := by decide +kernel
theorem dX5_call_37 : decode cX5_call 37 = .ok (.iconst 0, 1) := by decide +kernel
theorem dX5_call_38 : decode cX5_call 38 = .ok (.iconst 0, 1) := by decide +kernel
theorem dX5_call_39 : decode cX5_call 39 = .ok (.invokevirtual 81, 3) := by decide +kernel
theorem dX5_call_42 : decode cX5_call 42 = .ok (.aload_n 0, 1) := by decide +kernel
theorem dX5_call_43 : decode cX5_call 43 = .ok (.getfield 16, 3) := by decide +kernel
theorem dX5_call_46 : decode cX5_call 46 = .ok (.sipush 642, 3) := by decide +kernel
theorem dX5_call_49 : decode cX5_call 49 = .ok (.sipush 640, 3) := by decide +kernel
theorem dX5_call_52 : decode cX5_call 52 = .ok (.sipush 641, 3) := by decide +kernel
theorem dX5_call_55 : decode cX5_call 55 = .ok (.iconst (-1), 1) := by decide +kernel
theorem dX5_call_56 : decode cX5_call 56 = .ok (.invokevirtual 85, 3) := by decide +kernel
theorem dX5_call_59 : decode cX5_call 59 = .ok (.aload_n 0, 1) := by decide +kernel
theorem dX5_call_60 : decode cX5_call 60 = .ok (.getfield 16, 3) := by decide +kernel
theorem dX5_call_63 : decode cX5_call 63 = .ok (.sipush 643, 3) := by decide +kernel
theorem dX5_call_66 : decode cX5_call 66 = .ok (.iconst 0, 1) := by decide +kernel
theorem dX5_call_67 : decode cX5_call 67 = .ok (.iload 4, 2) := by decide +kernel
theorem dX5_call_69 : decode cX5_call 69 = .ok (.iconst 0, 1) := by decide +kernel
theorem dX5_call_70 : decode cX5_call 70 = .ok (.iconst 0, 1) := by decide +kernel
theorem dX5_call_71 : decode cX5_call 71 = .ok (.invokevirtual 81, 3) := by decide +kernel
theorem dX5_call_74 : decode cX5_call 74 = .ok (.aload_n 0, 1) := by decide +kernel
theorem dX5_call_75 : decode cX5_call 75 = .ok (.getfield 16, 3) := by decide +kernel
theorem dX5_call_78 : decode cX5_call 78 = .ok (.sipush 644, 3) := by decide +kernel
theorem dX5_call_81 : decode cX5_call 81 = .ok (.iconst 4, 1) := by decide +kernel
theorem dX5_call_82 : decode cX5_call 82 = .ok (.iconst 0, 1) := by decide +kernel
theorem dX5_call_83 : decode cX5_call 83 = .ok (.iconst 0, 1) := by decide +kernel
theorem dX5_call_84 : decode cX5_call 84 = .ok (.iconst 0, 1) := by decide +kernel
theorem dX5_call_85 : decode cX5_call 85 = .ok (.invokevirtual 81, 3) := by decide +kernel
theorem dX5_call_88 : decode cX5_call 88 = .ok (.aload_n 0, 1) := by decide +kernel
theorem dX5_call_89 : decode cX5_call 89 = .ok (.getfield 16, 3) := by decide +kernel
theorem dX5_call_92 : decode cX5_call 92 = .ok (.sipush 644, 3) := by decide +kernel
theorem dX5_call_95 : decode cX5_call 95 = .ok (.sipush 642, 3) := by decide +kernel
theorem dX5_call_98 : decode cX5_call 98 = .ok (.sipush 643, 3) := by decide +kernel
theorem dX5_call_101 : decode cX5_call 101 = .ok (.iconst (-1), 1) := by decide +kernel
theorem dX5_call_102 : decode cX5_call 102 = .ok (.invokevirtual 85, 3) := by decide +kernel
theorem dX5_call_105 : decode cX5_call 105 = .ok (.sipush 640, 3) := by decide +kernel
theorem dX5_call_108 : decode cX5_call 108 = .ok (.iconst 2, 1) := by decide +kernel
theorem dX5_call_109 : decode cX5_call 109 = .ok (.iload_n 2, 1) := by decide +kernel
theorem dX5_call_110 : decode cX5_call 110 = .ok (.imul, 1) := by decide +kernel
theorem dX5_call_111 : decode cX5_call 111 = .ok (.iadd, 1) := by decide +kernel
theorem dX5_call_112 : decode cX5_call 112 = .ok (.ireturn, 1) := by decide +kernel
theorem dX1_find_0 : decode cX1_find 0 = .ok (.aload_n 0, 1) := by decide +kernel
theorem dX1_find_1 : decode cX1_find 1 = .ok (.getfield 14, 3) := by decide +kernel
theorem dX1_find_4 : decode cX1_find 4 = .ok (.invokevirtual 46, 3) := by decide +kernel
theorem dX1_find_7 : decode cX1_find 7 = .ok (.aload_n 0, 1) := by decide +kernel
theorem dX1_find_8 : decode cX1_find 8 = .ok (.getfield 23, 3) := by decide +kernel
theorem dX1_find_11 : decode cX1_find 11 = .ok (.invokevirtual 49, 3) := by decide +kernel
theorem dX1_find_14 : decode cX1_find 14 = .ok (.aload_n 0, 1) := by decide +kernel
theorem dX1_find_15 : decode cX1_find 15 = .ok (.getfield 27, 3) := by decide +kernel
theorem dX1_find_18 : decode cX1_find 18 = .ok (.iconst 0, 1) := by decide +kernel
theorem dX1_find_19 : decode cX1_find 19 = .ok (.invokestatic 52, 3) := by decide +kernel
theorem dX1_find_22 : decode cX1_find 22 = .ok (.aload_n 0, 1) := by decide +kernel
theorem dX1_find_23 : decode cX1_find 23 = .ok (.aload_n 1, 1) := by decide +kernel
theorem dX1_find_24 : decode cX1_find 24 = .ok (.putfield 35, 3) := by decide +kernel
theorem dX1_find_27 : decode cX1_find 27 = .ok (.aload_n 0, 1) := by decide +kernel
theorem dX1_find_28 : decode cX1_find 28 = .ok (.iload_n 3, 1) := by decide +kernel
theorem dX1_find_29 : decode cX1_find 29 = .ok (.putfield 58, 3) := by decide +kernel
theorem dX1_find_32 : decode cX1_find 32 = .ok (.aload_n 0, 1) := by decide +kernel
theorem dX1_find_33 : decode cX1_find 33 = .ok (.iload 4, 2) := by decide +kernel
theorem dX1_find_35 : decode cX1_find 35 = .ok (.putfield 62, 3) := by decide +kernel
theorem dX1_find_38 : decode cX1_find 38 = .ok (.aload_n 0, 1) := by decide +kernel
theorem dX1_find_39 : decode cX1_find 39 = .ok (.iconst 0, 1) := by decide +kernel
theorem dX1_find_40 : decode cX1_find 40 = .ok (.putfield 65, 3) := by decide +kernel
theorem dX1_find_43 : decode cX1_find 43 = .ok (.aload_n 0, 1) := by decide +kernel
theorem dX1_find_44 : decode cX1_find 44 = .ok (.iconst 0, 1) := by decide +kernel
theorem dX1_find_45 : decode cX1_find 45 = .ok (.putfield 68, 3) := by decide +kernel
theorem dX1_find_48 : decode cX1_find 48 = .ok (.aload_n 0, 1) := by decide +kernel
theorem dX1_find_49 : decode cX1_find 49 = .ok (.iconst 0, 1) := by decide +kernel
theorem dX1_find_50 : decode cX1_find 50 = .ok (.putfield 71, 3) := by decide +kernel
theorem dX1_find_53 : decode cX1_find 53 = .ok (.aload_n 0, 1) := by decide +kernel
theorem dX1_find_54 : decode cX1_find 54 = .ok (.iconst 0, 1) := by decide +kernel
theorem dX1_find_55 : decode cX1_find 55 = .ok (.putfield 74, 3) := by decide +kernel
theorem dX1_find_58 : decode cX1_find 58 = .ok (.aload_n 0, 1) := by decide +kernel
theorem dX1_find_59 : decode cX1_find 59 = .ok (.iconst (-1), 1) := by decide +kernel
theorem dX1_find_60 : decode cX1_find 60 = .ok (.putfield 77, 3) := by decide +kernel
theorem dX1_find_63 : decode cX1_find 63 = .ok (.aload_n 0, 1) := by decide +kernel
theorem dX1_find_64 : decode cX1_find 64 = .ok (.iconst 0, 1) := by decide +kernel
theorem dX1_find_65 : decode cX1_find 65 = .ok (.putfield 80, 3) := by decide +kernel
theorem dX1_find_68 : decode cX1_find 68 = .ok (.aload_n 0, 1) := by decide +kernel
theorem dX1_find_69 : decode cX1_find 69 = .ok (.bipush 6, 2) := by decide +kernel
theorem dX1_find_71 : decode cX1_find 71 = .ok (.putfield 83, 3) := by decide +kernel
theorem dX1_find_74 : decode cX1_find 74 = .ok (.aload_n 0, 1) := by decide +kernel
theorem dX1_find_75 : decode cX1_find 75 = .ok (.iconst 0, 1) := by decide +kernel
theorem dX1_find_76 : decode cX1_find 76 = .ok (.putfield 43, 3) := by decide +kernel
theorem dX1_find_79 : decode cX1_find 79 = .ok (.aload_n 0, 1) := by decide +kernel
theorem dX1_find_80 : decode cX1_find 80 = .ok (.iload_n 2, 1) := by decide +kernel
theorem dX1_find_81 : decode cX1_find 81 = .ok (.invokevirtual 86, 3) := by decide +kernel
theorem dX1_find_84 : decode cX1_find 84 = .ok (.iconst 0, 1) := by decide +kernel
theorem dX1_find_85 : decode cX1_find 85 = .ok (.istore 5, 2) := by decide +kernel
theorem dX1_find_87 : decode cX1_find 87 = .ok (.iload 5, 2) := by decide +kernel
theorem dX1_find_89 : decode cX1_find 89 = .ok (.ldc 90, 2) := by decide +kernel
theorem dX1_find_91 : decode cX1_find 91 = .ok (.if_icmp .ge 98, 3) := by decide +kernel
theorem dX1_find_94 : decode cX1_find 94 = .ok (.aload_n 0, 1) := by decide +kernel
theorem dX1_find_95 : decode cX1_find 95 = .ok (.getfield 39, 3) := by decide +kernel
theorem dX1_find_98 : decode cX1_find 98 = .ok (.bipush 6, 2) := by decide +kernel
theorem dX1_find_100 : decode cX1_find 100 = .ok (.if_icmp .eq 89, 3) := by decide +kernel
theorem dX1_find_103 : decode cX1_find 103 = .ok (.aload_n 0, 1) := by decide +kernel
theorem dX1_find_104 : decode cX1_find 104 = .ok (.getfield 39, 3) := by decide +kernel
theorem dX1_find_107 : decode cX1_find 107 = .ok (.tableswitch 72 0 4 #[33, 40, 51, 58, 65], 33) := by decide +kernel
theorem dX1_find_140 : decode cX1_find 140 = .ok (.aload_n 0, 1) := by decide +kernel
theorem dX1_find_141 : decode cX1_find 141 = .ok (.invokevirtual 91, 3) := by decide +kernel
theorem dX1_find_144 : decode cX1_find 144 = .ok (.goto 39, 3) := by decide +kernel
theorem dX1_find_147 : decode cX1_find 147 = .ok (.aload_n 0, 1) := by decide +kernel
theorem dX1_find_148 : decode cX1_find 148 = .ok (.aload_n 0, 1) := by decide +kernel
theorem dX1_find_149 : decode cX1_find 149 = .ok (.getfield 94, 3) := by decide +kernel
theorem dX1_find_152 : decode cX1_find 152 = .ok (.invokevirtual 98, 3) := by decide +kernel
theorem dX1_find_155 : decode cX1_find 155 = .ok (.goto 28, 3) := by decide +kernel
theorem dX1_find_172 : decode cX1_find 172 = .ok (.aload_n 0, 1) := by decide +kernel
theorem dX1_find_173 : decode cX1_find 173 = .ok (.invokevirtual 108, 3) := by decide +kernel
theorem dX1_find_176 : decode cX1_find 176 = .ok (.goto 7, 3) := by decide +kernel
theorem dX1_find_179 : decode cX1_find 179 = .ok (.aload_n 0, 1) := by decide +kernel
theorem dX1_find_180 : decode cX1_find 180 = .ok (.invokevirtual 111, 3) := by decide +kernel
theorem dX1_find_183 : decode cX1_find 183 = .ok (.iinc 5 1, 3) := by decide +kernel
theorem dX1_find_186 : decode cX1_find 186 = .ok (.goto (-99), 3) := by decide +kernel
theorem dX1_find_189 : decode cX1_find 189 = .ok (.aload_n 0, 1) := by decide +kernel
theorem dX1_find_190 : decode cX1_find 190 = .ok (.getfield 83, 3) := by decide +kernel
theorem dX1_find_193 : decode cX1_find 193 = .ok (.ireturn, 1) := by decide +kernel
theorem dX3_prepare_0 : decode cX3_prepare 0 = .ok (.aload_n 0, 1) := by decide +kernel
theorem dX3_prepare_1 : decode cX3_prepare 1 = .ok (.getfield 34, 3) := by decide +kernel
theorem dX3_prepare_4 : decode cX3_prepare 4 = .ok (.ifCond .ne 11, 3) := by decide +kernel
theorem dX3_prepare_7 : decode cX3_prepare 7 = .ok (.aload_n 0, 1) := by decide +kernel
theorem dX3_prepare_8 : decode cX3_prepare 8 = .ok (.aload_n 0, 1) := by decide +kernel
theorem dX3_prepare_9 : decode cX3_prepare 9 = .ok (.getfield 28, 3) := by decide +kernel
theorem dX3_prepare_12 : decode cX3_prepare 12 = .ok (.putfield 31, 3) := by decide +kernel
theorem dX3_prepare_15 : decode cX3_prepare 15 = .ok (.aload_n 0, 1) := by decide +kernel
theorem dX3_prepare_16 : decode cX3_prepare 16 = .ok (.getfield 9, 3) := by decide +kernel
theorem dX3_prepare_19 : decode cX3_prepare 19 = .ok (.invokevirtual 38, 3) := by decide +kernel
theorem dX3_prepare_22 : decode cX3_prepare 22 = .ok (.ifCond .ne 18, 3) := by decide +kernel
theorem dX3_prepare_25 : decode cX3_prepare 25 = .ok (.aload_n 0, 1) := by decide +kernel
theorem dX3_prepare_26 : decode cX3_prepare 26 = .ok (.getfield 15, 3) := by decide +kernel
theorem dX3_prepare_29 : decode cX3_prepare 29 = .ok (.invokevirtual 38, 3) := by decide +kernel
theorem dX3_prepare_32 : decode cX3_prepare 32 = .ok (.ifCond .ne 8, 3) := by decide +kernel
theorem dX3_prepare_35 : decode cX3_prepare 35 = .ok (.aload_n 0, 1) := by decide +kernel
theorem dX3_prepare_36 : decode cX3_prepare 36 = .ok (.iconst 0, 1) := by decide +kernel
theorem dX3_prepare_37 : decode cX3_prepare 37 = .ok (.putfield 31, 3) := by decide +kernel
theorem dX3_prepare_40 : decode cX3_prepare 40 = .ok (.aload_n 0, 1) := by decide +kernel
theorem dX3_prepare_41 : decode cX3_prepare 41 = .ok (.getfield 24, 3) := by decide +kernel
theorem dX3_prepare_44 : decode cX3_prepare 44 = .ok (.sipush 1400, 3) := by decide +kernel
theorem dX3_prepare_47 : decode cX3_prepare 47 = .ok (.imul, 1) := by decide +kernel
theorem dX3_prepare_48 : decode cX3_prepare 48 = .ok (.aload_n 0, 1) := by decide +kernel
theorem dX3_prepare_49 : decode cX3_prepare 49 = .ok (.getfield 31, 3) := by decide +kernel
theorem dX3_prepare_52 : decode cX3_prepare 52 = .ok (.isub, 1) := by decide +kernel
theorem dX3_prepare_53 : decode cX3_prepare 53 = .ok (.sipush 1400, 3) := by decide +kernel
theorem dX3_prepare_56 : decode cX3_prepare 56 = .ok (.if_icmp .ge 7, 3) := by decide +kernel
theorem dX3_prepare_59 : decode cX3_prepare 59 = .ok (.aload_n 0, 1) := by decide +kernel
theorem dX3_prepare_60 : decode cX3_prepare 60 = .ok (.invokevirtual 44, 3) := by decide +kernel
theorem dX3_prepare_63 : decode cX3_prepare 63 = .ok (.aload_n 0, 1) := by decide +kernel
theorem dX3_prepare_64 : decode cX3_prepare 64 = .ok (.aload_n 0, 1) := by decide +kernel
theorem dX3_prepare_65 : decode cX3_prepare 65 = .ok (.getfield 31, 3) := by decide +kernel
theorem dX3_prepare_68 : decode cX3_prepare 68 = .ok (.putfield 28, 3) := by decide +kernel
theorem dX3_prepare_71 : decode cX3_prepare 71 = .ok (.aload_n 0, 1) := by decide +kernel
theorem dX3_prepare_72 : decode cX3_prepare 72 = .ok (.iconst 0, 1) := by decide +kernel
theorem dX3_prepare_73 : decode cX3_prepare 73 = .ok (.putfield 34, 3) := by decide +kernel
theorem dX3_prepare_76 : decode cX3_prepare 76 = .ok (.return_, 1) := by decide +kernel
theorem dX5_hasFound_0 : decode cX5_hasFound 0 = .ok (.iconst 0, 1) := by decide +kernel
theorem dX5_hasFound_1 : decode cX5_hasFound 1 = .ok (.istore_n 1, 1) := by decide +kernel
theorem dX5_hasFound_2 : decode cX5_hasFound 2 = .ok (.iload_n 1, 1) := by decide +kernel
theorem dX5_hasFound_3 : decode cX5_hasFound 3 = .ok (.bipush 8, 2) := by decide +kernel
theorem dX5_hasFound_5 : decode cX5_hasFound 5 = .ok (.if_icmp .ge 21, 3) := by decide +kernel
theorem dX5_hasFound_8 : decode cX5_hasFound 8 = .ok (.aload_n 0, 1) := by decide +kernel
theorem dX5_hasFound_9 : decode cX5_hasFound 9 = .ok (.getfield 28, 3) := by decide +kernel
theorem dX5_hasFound_12 : decode cX5_hasFound 12 = .ok (.iload_n 1, 1) := by decide +kernel
theorem dX5_hasFound_13 : decode cX5_hasFound 13 = .ok (.iaload, 1) := by decide +kernel
theorem dX5_hasFound_14 : decode cX5_hasFound 14 = .ok (.iconst 2, 1) := by decide +kernel
theorem dX5_hasFound_15 : decode cX5_hasFound 15 = .ok (.if_icmp .ne 5, 3) := by decide +kernel
theorem dX5_hasFound_20 : decode cX5_hasFound 20 = .ok (.iinc 1 1, 3) := by decide +kernel
theorem dX5_hasFound_23 : decode cX5_hasFound 23 = .ok (.goto (-21), 3) := by decide +kernel
theorem dX5_hasFound_26 : decode cX5_hasFound 26 = .ok (.iconst 0, 1) := by decide +kernel
theorem dX5_hasFound_27 : decode cX5_hasFound 27 = .ok (.ireturn, 1) := by decide +kernel
theorem dX3_makeRow_0 : decode cX3_makeRow 0 = .ok (.aload_n 0, 1) := by decide +kernel
theorem dX3_makeRow_1 : decode cX3_makeRow 1 = .ok (.getfield 24, 3) := by decide +kernel
theorem dX3_makeRow_4 : decode cX3_makeRow 4 = .ok (.aload_n 0, 1) := by decide +kernel
theorem dX3_makeRow_5 : decode cX3_makeRow 5 = .ok (.getfield 20, 3) := by decide +kernel
theorem dX3_makeRow_8 : decode cX3_makeRow 8 = .ok (.arraylength, 1) := by decide +kernel
theorem dX3_makeRow_9 : decode cX3_makeRow 9 = .ok (.if_icmp .ge 32, 3) := by decide +kernel
theorem dX3_makeRow_12 : decode cX3_makeRow 12 = .ok (.aload_n 0, 1) := by decide +kernel
theorem dX3_makeRow_13 : decode cX3_makeRow 13 = .ok (.getfield 20, 3) := by decide +kernel
theorem dX3_makeRow_16 : decode cX3_makeRow 16 = .ok (.aload_n 0, 1) := by decide +kernel
theorem dX3_makeRow_17 : decode cX3_makeRow 17 = .ok (.getfield 24, 3) := by decide +kernel
theorem dX3_makeRow_20 : decode cX3_makeRow 20 = .ok (.new 18, 3) := by decide +kernel
theorem dX3_makeRow_23 : decode cX3_makeRow 23 = .ok (.dup, 1) := by decide +kernel
theorem dX3_makeRow_24 : decode cX3_makeRow 24 = .ok (.invokespecial 47, 3) := by decide +kernel
theorem dX3_makeRow_27 : decode cX3_makeRow 27 = .ok (.aastore, 1) := by decide +kernel
theorem dX3_makeRow_28 : decode cX3_makeRow 28 = .ok (.aload_n 0, 1) := by decide +kernel
theorem dX3_makeRow_29 : decode cX3_makeRow 29 = .ok (.dup, 1) := by decide +kernel
theorem dX3_makeRow_30 : decode cX3_makeRow 30 = .ok (.getfield 24, 3) := by decide +kernel
theorem dX3_makeRow_33 : decode cX3_makeRow 33 = .ok (.iconst 1, 1) := by decide +kernel
theorem dX3_makeRow_34 : decode cX3_makeRow 34 = .ok (.iadd, 1) := by decide +kernel
theorem dX3_makeRow_35 : decode cX3_makeRow 35 = .ok (.putfield 24, 3) := by decide +kernel
theorem dX3_makeRow_38 : decode cX3_makeRow 38 = .ok (.goto 22, 3) := by decide +kernel
theorem dX3_makeRow_60 : decode cX3_makeRow 60 = .ok (.return_, 1) := by decide +kernel
theorem dX7_init_0 : decode cX7_init 0 = .ok (.aload_n 0, 1) := by decide +kernel
theorem dX7_init_1 : decode cX7_init 1 = .ok (.invokespecial 3, 3) := by decide +kernel
theorem dX7_init_4 : decode cX7_init 4 = .ok (.aload_n 0, 1) := by decide +kernel
theorem dX7_init_5 : decode cX7_init 5 = .ok (.sipush 1400, 3) := by decide +kernel
theorem dX7_init_8 : decode cX7_init 8 = .ok (.newarray .long, 2) := by decide +kernel
theorem dX7_init_10 : decode cX7_init 10 = .ok (.putfield 11, 3) := by decide +kernel
theorem dX7_init_13 : decode cX7_init 13 = .ok (.aload_n 0, 1) := by decide +kernel
theorem dX7_init_14 : decode cX7_init 14 = .ok (.sipush 1400, 3) := by decide +kernel
theorem dX7_init_17 : decode cX7_init 17 = .ok (.newarray .long, 2) := by decide +kernel
theorem dX7_init_19 : decode cX7_init 19 = .ok (.putfield 15, 3) := by decide +kernel
theorem dX7_init_22 : decode cX7_init 22 = .ok (.aload_n 0, 1) := by decide +kernel
theorem dX7_init_23 : decode cX7_init 23 = .ok (.sipush 1400, 3) := by decide +kernel
theorem dX7_init_26 : decode cX7_init 26 = .ok (.newarray .long, 2) := by decide +kernel
theorem dX7_init_28 : decode cX7_init 28 = .ok (.putfield 18, 3) := by decide +kernel
theorem dX7_init_31 : decode cX7_init 31 = .ok (.return_, 1) := by decide +kernel
theorem dX2_clear_0 : decode cX2_clear 0 = .ok (.aload_n 0, 1) := by decide +kernel
theorem dX2_clear_1 : decode cX2_clear 1 = .ok (.iconst 0, 1) := by decide +kernel
theorem dX2_clear_2 : decode cX2_clear 2 = .ok (.putfield 27, 3) := by decide +kernel
theorem dX2_clear_5 : decode cX2_clear 5 = .ok (.return_, 1) := by decide +kernel
theorem dJ7_fill_53178_0 : decode cJ7_fill_53178 0 = .ok (.iconst 0, 1) := by decide +kernel
theorem dJ7_fill_53178_1 : decode cJ7_fill_53178 1 = .ok (.istore_n 2, 1) := by decide +kernel
theorem dJ7_fill_53178_2 : decode cJ7_fill_53178 2 = .ok (.aload_n 0, 1) := by decide +kernel
theorem dJ7_fill_53178_3 : decode cJ7_fill_53178 3 = .ok (.arraylength, 1) := by decide +kernel
theorem dJ7_fill_53178_4 : decode cJ7_fill_53178 4 = .ok (.istore_n 3, 1) := by decide +kernel
theorem dJ7_fill_53178_5 : decode cJ7_fill_53178 5 = .ok (.iload_n 2, 1) := by decide +kernel
theorem dJ7_fill_53178_6 : decode cJ7_fill_53178 6 = .ok (.iload_n 3, 1) := by decide +kernel
theorem dJ7_fill_53178_7 : decode cJ7_fill_53178 7 = .ok (.if_icmp .ge 13, 3) := by decide +kernel
theorem dJ7_fill_53178_10 : decode cJ7_fill_53178 10 = .ok (.aload_n 0, 1) := by decide +kernel
theorem dJ7_fill_53178_11 : decode cJ7_fill_53178 11 = .ok (.iload_n 2, 1) := by decide +kernel
theorem dJ7_fill_53178_12 : decode cJ7_fill_53178 12 = .ok (.iload_n 1, 1) := by decide +kernel
theorem dJ7_fill_53178_13 : decode cJ7_fill_53178 13 = .ok (.iastore, 1) := by decide +kernel
theorem dJ7_fill_53178_14 : decode cJ7_fill_53178 14 = .ok (.iinc 2 1, 3) := by decide +kernel
theorem dJ7_fill_53178_17 : decode cJ7_fill_53178 17 = .ok (.goto (-12), 3) := by decide +kernel
theorem dJ7_fill_53178_20 : decode cJ7_fill_53178 20 = .ok (.return_, 1) := by decide +kernel
theorem dX1_goTo_0 : decode cX1_goTo 0 = .ok (.aload_n 0, 1) := by decide +kernel
theorem dX1_goTo_1 : decode cX1_goTo 1 = .ok (.iload_n 1, 1) := by decide +kernel
theorem dX1_goTo_2 : decode cX1_goTo 2 = .ok (.putfield 114, 3) := by decide +kernel
theorem dX1_goTo_5 : decode cX1_goTo 5 = .ok (.aload_n 0, 1) := by decide +kernel
theorem dX1_goTo_6 : decode cX1_goTo 6 = .ok (.iconst 0, 1) := by decide +kernel
theorem dX1_goTo_7 : decode cX1_goTo 7 = .ok (.putfield 39, 3) := by decide +kernel
theorem dX1_goTo_10 : decode cX1_goTo 10 = .ok (.return_, 1) := by decide +kernel
theorem dX1_step_0 : decode cX1_step 0 = .ok (.aload_n 0, 1) := by decide +kernel
theorem dX1_step_1 : decode cX1_step 1 = .ok (.getfield 74, 3) := by decide +kernel
theorem dX1_step_4 : decode cX1_step 4 = .ok (.aload_n 0, 1) := by decide +kernel
theorem dX1_step_5 : decode cX1_step 5 = .ok (.getfield 71, 3) := by decide +kernel
theorem dX1_step_8 : decode cX1_step 8 = .ok (.ifCond .eq 9, 3) := by decide +kernel
theorem dX1_step_17 : decode cX1_step 17 = .ok (.sipush 600, 3) := by decide +kernel
theorem dX1_step_20 : decode cX1_step 20 = .ok (.if_icmp .lt 10, 3) := by decide +kernel
theorem dX1_step_30 : decode cX1_step 30 = .ok (.aload_n 0, 1) := by decide +kernel
theorem dX1_step_31 : decode cX1_step 31 = .ok (.getfield 71, 3) := by decide +kernel
theorem dX1_step_34 : decode cX1_step 34 = .ok (.ifCond .ne 23, 3) := by decide +kernel
theorem dX1_step_37 : decode cX1_step 37 = .ok (.aload_n 0, 1) := by decide +kernel
theorem dX1_step_38 : decode cX1_step 38 = .ok (.getfield 74, 3) := by decide +kernel
theorem dX1_step_41 : decode cX1_step 41 = .ok (.iconst 1, 1) := by decide +kernel
theorem dX1_step_42 : decode cX1_step 42 = .ok (.iadd, 1) := by decide +kernel
theorem dX1_step_43 : decode cX1_step 43 = .ok (.aload_n 0, 1) := by decide +kernel
theorem dX1_step_44 : decode cX1_step 44 = .ok (.getfield 62, 3) := by decide +kernel
theorem dX1_step_47 : decode cX1_step 47 = .ok (.if_icmp .ne 10, 3) := by decide +kernel
theorem dX1_step_50 : decode cX1_step 50 = .ok (.aload_n 0, 1) := by decide +kernel
theorem dX1_step_51 : decode cX1_step 51 = .ok (.bipush 7, 2) := by decide +kernel
theorem dX1_step_53 : decode cX1_step 53 = .ok (.invokevirtual 119, 3) := by decide +kernel
theorem dX1_step_56 : decode cX1_step 56 = .ok (.return_, 1) := by decide +kernel
theorem dX1_step_57 : decode cX1_step 57 = .ok (.aload_n 0, 1) := by decide +kernel
theorem dX1_step_58 : decode cX1_step 58 = .ok (.invokevirtual 126, 3) := by decide +kernel
theorem dX1_step_61 : decode cX1_step 61 = .ok (.aload_n 0, 1) := by decide +kernel
theorem dX1_step_62 : decode cX1_step 62 = .ok (.getfield 35, 3) := by decide +kernel
theorem dX1_step_65 : decode cX1_step 65 = .ok (.getfield 129, 3) := by decide +kernel
theorem dX1_step_68 : decode cX1_step 68 = .ok (.aload_n 0, 1) := by decide +kernel
theorem dX1_step_69 : decode cX1_step 69 = .ok (.getfield 114, 3) := by decide +kernel
theorem dX1_step_72 : decode cX1_step 72 = .ok (.invokevirtual 135, 3) := by decide +kernel
theorem dX1_step_75 : decode cX1_step 75 = .ok (.istore_n 1, 1) := by decide +kernel
theorem dX1_step_76 : decode cX1_step 76 = .ok (.iload_n 1, 1) := by decide +kernel
theorem dX1_step_77 : decode cX1_step 77 = .ok (.tableswitch 210 0 15 #[79, 99, 131, 79, 210, 156, 210, 79, 210, 210, 210, 210, 210, 210, 163, 170], 79) := by decide +kernel
theorem dX1_step_208 : decode cX1_step 208 = .ok (.aload_n 0, 1) := by decide +kernel
theorem dX1_step_209 : decode cX1_step 209 = .ok (.iconst 5, 1) := by decide +kernel
theorem dX1_step_210 : decode cX1_step 210 = .ok (.aload_n 0, 1) := by decide +kernel
theorem dX1_step_211 : decode cX1_step 211 = .ok (.getfield 35, 3) := by decide +kernel
theorem dX1_step_214 : decode cX1_step 214 = .ok (.getfield 129, 3) := by decide +kernel
theorem dX1_step_217 : decode cX1_step 217 = .ok (.aload_n 0, 1) := by decide +kernel
theorem dX1_step_218 : decode cX1_step 218 = .ok (.getfield 114, 3) := by decide +kernel
theorem dX1_step_221 : decode cX1_step 221 = .ok (.invokevirtual 157, 3) := by decide +kernel
theorem dX1_step_224 : decode cX1_step 224 = .ok (.invokestatic 122, 3) := by decide +kernel
theorem dX1_step_227 : decode cX1_step 227 = .ok (.invokevirtual 154, 3) := by decide +kernel
theorem dX1_step_230 : decode cX1_step 230 = .ok (.goto 97, 3) := by decide +kernel
theorem dX1_step_287 : decode cX1_step 287 = .ok (.aload_n 0, 1) := by decide +kernel
theorem dX1_step_288 : decode cX1_step 288 = .ok (.getfield 23, 3) := by decide +kernel
theorem dX1_step_291 : decode cX1_step 291 = .ok (.iload_n 1, 1) := by decide +kernel
theorem dX1_step_292 : decode cX1_step 292 = .ok (.aload_n 0, 1) := by decide +kernel
theorem dX1_step_293 : decode cX1_step 293 = .ok (.getfield 114, 3) := by decide +kernel
theorem dX1_step_296 : decode cX1_step 296 = .ok (.aload_n 0, 1) := by decide +kernel
theorem dX1_step_297 : decode cX1_step 297 = .ok (.getfield 77, 3) := by decide +kernel
theorem dX1_step_300 : decode cX1_step 300 = .ok (.aload_n 0, 1) := by decide +kernel
theorem dX1_step_301 : decode cX1_step 301 = .ok (.getfield 80, 3) := by decide +kernel
theorem dX1_step_304 : decode cX1_step 304 = .ok (.iconst 0, 1) := by decide +kernel
theorem dX1_step_305 : decode cX1_step 305 = .ok (.invokevirtual 170, 3) := by decide +kernel
theorem dX1_step_308 : decode cX1_step 308 = .ok (.aload_n 0, 1) := by decide +kernel
theorem dX1_step_309 : decode cX1_step 309 = .ok (.aload_n 0, 1) := by decide +kernel
theorem dX1_step_310 : decode cX1_step 310 = .ok (.getfield 35, 3) := by decide +kernel
theorem dX1_step_313 : decode cX1_step 313 = .ok (.getfield 129, 3) := by decide +kernel
theorem dX1_step_316 : decode cX1_step 316 = .ok (.aload_n 0, 1) := by decide +kernel
theorem dX1_step_317 : decode cX1_step 317 = .ok (.getfield 114, 3) := by decide +kernel
theorem dX1_step_320 : decode cX1_step 320 = .ok (.iconst 0, 1) := by decide +kernel
theorem dX1_step_321 : decode cX1_step 321 = .ok (.invokevirtual 166, 3) := by decide +kernel
theorem dX1_step_324 : decode cX1_step 324 = .ok (.invokevirtual 86, 3) := by decide +kernel
theorem dX1_step_327 : decode cX1_step 327 = .ok (.return_, 1) := by decide +kernel
theorem dX1_stop_0 : decode cX1_stop 0 = .ok (.aload_n 0, 1) := by decide +kernel
theorem dX1_stop_1 : decode cX1_stop 1 = .ok (.getfield 71, 3) := by decide +kernel
theorem dX1_stop_4 : decode cX1_stop 4 = .ok (.ifCond .ne 8, 3) := by decide +kernel
theorem dX1_stop_7 : decode cX1_stop 7 = .ok (.aload_n 0, 1) := by decide +kernel
theorem dX1_stop_8 : decode cX1_stop 8 = .ok (.iload_n 1, 1) := by decide +kernel
theorem dX1_stop_9 : decode cX1_stop 9 = .ok (.putfield 83, 3) := by decide +kernel
theorem dX1_stop_12 : decode cX1_stop 12 = .ok (.aload_n 0, 1) := by decide +kernel
theorem dX1_stop_13 : decode cX1_stop 13 = .ok (.iconst 4, 1) := by decide +kernel
theorem dX1_stop_14 : decode cX1_stop 14 = .ok (.putfield 39, 3) := by decide +kernel
theorem dX1_stop_17 : decode cX1_stop 17 = .ok (.return_, 1) := by decide +kernel
theorem dX1_leave_0 : decode cX1_leave 0 = .ok (.aload_n 0, 1) := by decide +kernel
theorem dX1_leave_1 : decode cX1_leave 1 = .ok (.getfield 23, 3) := by decide +kernel
theorem dX1_leave_4 : decode cX1_leave 4 = .ok (.invokevirtual 244, 3) := by decide +kernel
theorem dX1_leave_7 : decode cX1_leave 7 = .ok (.ifCond .eq 10, 3) := by decide +kernel
theorem dX1_leave_10 : decode cX1_leave 10 = .ok (.aload_n 0, 1) := by decide +kernel
theorem dX1_leave_11 : decode cX1_leave 11 = .ok (.invokevirtual 304, 3) := by decide +kernel
theorem dX1_leave_14 : decode cX1_leave 14 = .ok (.goto 8, 3) := by decide +kernel
theorem dX1_leave_17 : decode cX1_leave 17 = .ok (.aload_n 0, 1) := by decide +kernel
theorem dX1_leave_18 : decode cX1_leave 18 = .ok (.iconst 5, 1) := by decide +kernel
theorem dX1_leave_19 : decode cX1_leave 19 = .ok (.putfield 39, 3) := by decide +kernel
theorem dX1_leave_22 : decode cX1_leave 22 = .ok (.return_, 1) := by decide +kernel
theorem dX2_pop_0 : decode cX2_pop 0 = .ok (.aload_n 0, 1) := by decide +kernel
theorem dX2_pop_1 : decode cX2_pop 1 = .ok (.getfield 27, 3) := by decide +kernel
theorem dX2_pop_4 : decode cX2_pop 4 = .ok (.ifCond .gt 5, 3) := by decide +kernel
theorem dX2_pop_7 : decode cX2_pop 7 = .ok (.iconst 0, 1) := by decide +kernel
theorem dX2_pop_8 : decode cX2_pop 8 = .ok (.ireturn, 1) := by decide +kernel
theorem dX2_pop_9 : decode cX2_pop 9 = .ok (.aload_n 0, 1) := by decide +kernel
theorem dX2_pop_10 : decode cX2_pop 10 = .ok (.dup, 1) := by decide +kernel
theorem dX2_pop_11 : decode cX2_pop 11 = .ok (.getfield 27, 3) := by decide +kernel
theorem dX2_pop_14 : decode cX2_pop 14 = .ok (.iconst 1, 1) := by decide +kernel
theorem dX2_pop_15 : decode cX2_pop 15 = .ok (.isub, 1) := by decide +kernel
theorem dX2_pop_16 : decode cX2_pop 16 = .ok (.putfield 27, 3) := by decide +kernel
theorem dX2_pop_19 : decode cX2_pop 19 = .ok (.iconst 1, 1) := by decide +kernel
theorem dX2_pop_20 : decode cX2_pop 20 = .ok (.ireturn, 1) := by decide +kernel
theorem dX1_rest_0 : decode cX1_rest 0 = .ok (.aload_n 0, 1) := by decide +kernel
theorem dX1_rest_1 : decode cX1_rest 1 = .ok (.getfield 83, 3) := by decide +kernel
theorem dX1_rest_4 : decode cX1_rest 4 = .ok (.ifCond .eq 19, 3) := by decide +kernel
theorem dX1_rest_7 : decode cX1_rest 7 = .ok (.aload_n 0, 1) := by decide +kernel
theorem dX1_rest_8 : decode cX1_rest 8 = .ok (.getfield 83, 3) := by decide +kernel
theorem dX1_rest_11 : decode cX1_rest 11 = .ok (.iconst 1, 1) := by decide +kernel
theorem dX1_rest_12 : decode cX1_rest 12 = .ok (.if_icmp .eq 11, 3) := by decide +kernel
theorem dX1_rest_15 : decode cX1_rest 15 = .ok (.aload_n 0, 1) := by decide +kernel
theorem dX1_rest_16 : decode cX1_rest 16 = .ok (.getfield 83, 3) := by decide +kernel
theorem dX1_rest_19 : decode cX1_rest 19 = .ok (.iconst 2, 1) := by decide +kernel
theorem dX1_rest_20 : decode cX1_rest 20 = .ok (.if_icmp .ne 7, 3) := by decide +kernel
theorem dX1_rest_27 : decode cX1_rest 27 = .ok (.iconst 0, 1) := by decide +kernel
theorem dX1_rest_28 : decode cX1_rest 28 = .ok (.istore_n 1, 1) := by decide +kernel
theorem dX1_rest_29 : decode cX1_rest 29 = .ok (.iload_n 1, 1) := by decide +kernel
theorem dX1_rest_30 : decode cX1_rest 30 = .ok (.ifCond .eq 22, 3) := by decide +kernel
theorem dX1_rest_52 : decode cX1_rest 52 = .ok (.aload_n 0, 1) := by decide +kernel
theorem dX1_rest_53 : decode cX1_rest 53 = .ok (.bipush 6, 2) := by decide +kernel
theorem dX1_rest_55 : decode cX1_rest 55 = .ok (.putfield 39, 3) := by decide +kernel
theorem dX1_rest_58 : decode cX1_rest 58 = .ok (.return_, 1) := by decide +kernel
theorem dX12_begins_0 : decode cX12_begins 0 = .ok (.iconst 0, 1) := by decide +kernel
theorem dX12_begins_1 : decode cX12_begins 1 = .ok (.istore 6, 2) := by decide +kernel
theorem dX12_begins_3 : decode cX12_begins 3 = .ok (.iload 6, 2) := by decide +kernel
theorem dX12_begins_5 : decode cX12_begins 5 = .ok (.bipush 10, 2) := by decide +kernel
theorem dX12_begins_7 : decode cX12_begins 7 = .ok (.if_icmp .ge 17, 3) := by decide +kernel
theorem dX12_begins_10 : decode cX12_begins 10 = .ok (.aload_n 0, 1) := by decide +kernel
theorem dX12_begins_11 : decode cX12_begins 11 = .ok (.getfield 166, 3) := by decide +kernel
theorem dX12_begins_14 : decode cX12_begins 14 = .ok (.iload 6, 2) := by decide +kernel
theorem dX12_begins_16 : decode cX12_begins 16 = .ok (.iconst 0, 1) := by decide +kernel
theorem dX12_begins_17 : decode cX12_begins 17 = .ok (.iastore, 1) := by decide +kernel
theorem dX12_begins_18 : decode cX12_begins 18 = .ok (.iinc 6 1, 3) := by decide +kernel
theorem dX12_begins_21 : decode cX12_begins 21 = .ok (.goto (-18), 3) := by decide +kernel
theorem dX12_begins_24 : decode cX12_begins 24 = .ok (.aload_n 0, 1) := by decide +kernel
theorem dX12_begins_25 : decode cX12_begins 25 = .ok (.iconst 0, 1) := by decide +kernel
theorem dX12_begins_26 : decode cX12_begins 26 = .ok (.putfield 410, 3) := by decide +kernel
theorem dX12_begins_29 : decode cX12_begins 29 = .ok (.aload_n 0, 1) := by decide +kernel
theorem dX12_begins_30 : decode cX12_begins 30 = .ok (.iload 5, 2) := by decide +kernel
theorem dX12_begins_32 : decode cX12_begins 32 = .ok (.ifCond .eq 7, 3) := by decide +kernel
theorem dX12_begins_39 : decode cX12_begins 39 = .ok (.iconst 0, 1) := by decide +kernel
theorem dX12_begins_40 : decode cX12_begins 40 = .ok (.putfield 371, 3) := by decide +kernel
theorem dX12_begins_43 : decode cX12_begins 43 = .ok (.aload_n 0, 1) := by decide +kernel
theorem dX12_begins_44 : decode cX12_begins 44 = .ok (.iload_n 1, 1) := by decide +kernel
theorem dX12_begins_45 : decode cX12_begins 45 = .ok (.iload_n 2, 1) := by decide +kernel
theorem dX12_begins_46 : decode cX12_begins 46 = .ok (.iload_n 3, 1) := by decide +kernel
theorem dX12_begins_47 : decode cX12_begins 47 = .ok (.iload 4, 2) := by decide +kernel
theorem dX12_begins_49 : decode cX12_begins 49 = .ok (.invokevirtual 482, 3) := by decide +kernel
theorem dX12_begins_52 : decode cX12_begins 52 = .ok (.aload_n 0, 1) := by decide +kernel
theorem dX12_begins_53 : decode cX12_begins 53 = .ok (.iconst 0, 1) := by decide +kernel
theorem dX12_begins_54 : decode cX12_begins 54 = .ok (.putfield 443, 3) := by decide +kernel
theorem dX12_begins_57 : decode cX12_begins 57 = .ok (.aload_n 0, 1) := by decide +kernel
theorem dX12_begins_58 : decode cX12_begins 58 = .ok (.sipush 600, 3) := by decide +kernel
theorem dX12_begins_61 : decode cX12_begins 61 = .ok (.putfield 446, 3) := by decide +kernel
theorem dX12_begins_64 : decode cX12_begins 64 = .ok (.aload_n 0, 1) := by decide +kernel
theorem dX12_begins_65 : decode cX12_begins 65 = .ok (.iconst 0, 1) := by decide +kernel
theorem dX12_begins_66 : decode cX12_begins 66 = .ok (.putfield 398, 3) := by decide +kernel
theorem dX12_begins_69 : decode cX12_begins 69 = .ok (.aload_n 0, 1) := by decide +kernel
theorem dX12_begins_70 : decode cX12_begins 70 = .ok (.iconst 0, 1) := by decide +kernel
theorem dX12_begins_71 : decode cX12_begins 71 = .ok (.putfield 440, 3) := by decide +kernel
theorem dX12_begins_74 : decode cX12_begins 74 = .ok (.aload_n 0, 1) := by decide +kernel
theorem dX12_begins_75 : decode cX12_begins 75 = .ok (.sipush 1280, 3) := by decide +kernel
theorem dX12_begins_78 : decode cX12_begins 78 = .ok (.iconst (-1), 1) := by decide +kernel
theorem dX12_begins_79 : decode cX12_begins 79 = .ok (.iconst 0, 1) := by decide +kernel
theorem dX12_begins_80 : decode cX12_begins 80 = .ok (.invokevirtual 404, 3) := by decide +kernel
theorem dX12_begins_83 : decode cX12_begins 83 = .ok (.aload_n 0, 1) := by decide +kernel
theorem dX12_begins_84 : decode cX12_begins 84 = .ok (.invokevirtual 479, 3) := by decide +kernel
theorem dX12_begins_87 : decode cX12_begins 87 = .ok (.aload_n 0, 1) := by decide +kernel
theorem dX12_begins_88 : decode cX12_begins 88 = .ok (.getfield 166, 3) := by decide +kernel
theorem dX12_begins_91 : decode cX12_begins 91 = .ok (.iconst 0, 1) := by decide +kernel
theorem dX12_begins_92 : decode cX12_begins 92 = .ok (.aload_n 0, 1) := by decide +kernel
theorem dX12_begins_93 : decode cX12_begins 93 = .ok (.getfield 443, 3) := by decide +kernel
theorem dX12_begins_96 : decode cX12_begins 96 = .ok (.iastore, 1) := by decide +kernel
theorem dX12_begins_97 : decode cX12_begins 97 = .ok (.aload_n 0, 1) := by decide +kernel
theorem dX12_begins_98 : decode cX12_begins 98 = .ok (.getfield 395, 3) := by decide +kernel
theorem dX12_begins_101 : decode cX12_begins 101 = .ok (.iconst (-1), 1) := by decide +kernel
theorem dX12_begins_102 : decode cX12_begins 102 = .ok (.if_icmp .ne 10, 3) := by decide +kernel
theorem dX12_begins_112 : decode cX12_begins 112 = .ok (.aload_n 0, 1) := by decide +kernel
theorem dX12_begins_113 : decode cX12_begins 113 = .ok (.getfield 395, 3) := by decide +kernel
theorem dX12_begins_116 : decode cX12_begins 116 = .ok (.istore 6, 2) := by decide +kernel
theorem dX12_begins_118 : decode cX12_begins 118 = .ok (.aload_n 0, 1) := by decide +kernel
theorem dX12_begins_119 : decode cX12_begins 119 = .ok (.getfield 395, 3) := by decide +kernel
theorem dX12_begins_122 : decode cX12_begins 122 = .ok (.iconst (-1), 1) := by decide +kernel
theorem dX12_begins_123 : decode cX12_begins 123 = .ok (.if_icmp .ne 59, 3) := by decide +kernel
theorem dX12_begins_182 : decode cX12_begins 182 = .ok (.aload_n 0, 1) := by decide +kernel
theorem dX12_begins_183 : decode cX12_begins 183 = .ok (.invokevirtual 489, 3) := by decide +kernel
theorem dX12_begins_186 : decode cX12_begins 186 = .ok (.iload 6, 2) := by decide +kernel
theorem dX12_begins_188 : decode cX12_begins 188 = .ok (.ireturn, 1) := by decide +kernel
theorem dX12_laysRun_0 : decode cX12_laysRun 0 = .ok (.sipush 1280, 3) := by decide +kernel
theorem dX12_laysRun_3 : decode cX12_laysRun 3 = .ok (.istore 5, 2) := by decide +kernel
theorem dX12_laysRun_5 : decode cX12_laysRun 5 = .ok (.iconst 0, 1) := by decide +kernel
theorem dX12_laysRun_6 : decode cX12_laysRun 6 = .ok (.istore 6, 2) := by decide +kernel
theorem dX12_laysRun_8 : decode cX12_laysRun 8 = .ok (.iload 6, 2) := by decide +kernel
theorem dX12_laysRun_10 : decode cX12_laysRun 10 = .ok (.iload_n 2, 1) := by decide +kernel
theorem dX12_laysRun_11 : decode cX12_laysRun 11 = .ok (.if_icmp .ge 20, 3) := by decide +kernel
theorem dX12_laysRun_14 : decode cX12_laysRun 14 = .ok (.aload_n 0, 1) := by decide +kernel
theorem dX12_laysRun_15 : decode cX12_laysRun 15 = .ok (.getfield 31, 3) := by decide +kernel
theorem dX12_laysRun_18 : decode cX12_laysRun 18 = .ok (.iload 5, 2) := by decide +kernel
theorem dX12_laysRun_20 : decode cX12_laysRun 20 = .ok (.iconst 4, 1) := by decide +kernel
theorem dX12_laysRun_21 : decode cX12_laysRun 21 = .ok (.iastore, 1) := by decide +kernel
theorem dX12_laysRun_22 : decode cX12_laysRun 22 = .ok (.iinc 5 1, 3) := by decide +kernel
theorem dX12_laysRun_25 : decode cX12_laysRun 25 = .ok (.iinc 6 1, 3) := by decide +kernel
theorem dX12_laysRun_28 : decode cX12_laysRun 28 = .ok (.goto (-20), 3) := by decide +kernel
theorem dX12_laysRun_31 : decode cX12_laysRun 31 = .ok (.aload_n 0, 1) := by decide +kernel
theorem dX12_laysRun_32 : decode cX12_laysRun 32 = .ok (.getfield 31, 3) := by decide +kernel
theorem dX12_laysRun_35 : decode cX12_laysRun 35 = .ok (.iload 5, 2) := by decide +kernel
theorem dX12_laysRun_37 : decode cX12_laysRun 37 = .ok (.iconst 2, 1) := by decide +kernel
theorem dX12_laysRun_38 : decode cX12_laysRun 38 = .ok (.iastore, 1) := by decide +kernel
theorem dX12_laysRun_39 : decode cX12_laysRun 39 = .ok (.aload_n 0, 1) := by decide +kernel
theorem dX12_laysRun_40 : decode cX12_laysRun 40 = .ok (.getfield 34, 3) := by decide +kernel
theorem dX12_laysRun_43 : decode cX12_laysRun 43 = .ok (.iload 5, 2) := by decide +kernel
theorem dX12_laysRun_45 : decode cX12_laysRun 45 = .ok (.iload_n 1, 1) := by decide +kernel
theorem dX12_laysRun_46 : decode cX12_laysRun 46 = .ok (.iastore, 1) := by decide +kernel
theorem dX12_laysRun_47 : decode cX12_laysRun 47 = .ok (.aload_n 0, 1) := by decide +kernel
theorem dX12_laysRun_48 : decode cX12_laysRun 48 = .ok (.getfield 46, 3) := by decide +kernel
theorem dX12_laysRun_51 : decode cX12_laysRun 51 = .ok (.iload 5, 2) := by decide +kernel
theorem dX12_laysRun_53 : decode cX12_laysRun 53 = .ok (.iload 5, 2) := by decide +kernel
theorem dX12_laysRun_55 : decode cX12_laysRun 55 = .ok (.iconst 1, 1) := by decide +kernel
theorem dX12_laysRun_56 : decode cX12_laysRun 56 = .ok (.iadd, 1) := by decide +kernel
theorem dX12_laysRun_57 : decode cX12_laysRun 57 = .ok (.iastore, 1) := by decide +kernel
theorem dX12_laysRun_58 : decode cX12_laysRun 58 = .ok (.iconst 0, 1) := by decide +kernel
theorem dX12_laysRun_59 : decode cX12_laysRun 59 = .ok (.istore 6, 2) := by decide +kernel
theorem dX12_laysRun_61 : decode cX12_laysRun 61 = .ok (.iload 6, 2) := by decide +kernel
theorem dX12_laysRun_63 : decode cX12_laysRun 63 = .ok (.iload_n 2, 1) := by decide +kernel
theorem dX12_laysRun_64 : decode cX12_laysRun 64 = .ok (.if_icmp .ge 68, 3) := by decide +kernel
theorem dX12_laysRun_67 : decode cX12_laysRun 67 = .ok (.iinc 5 1, 3) := by decide +kernel
theorem dX12_laysRun_70 : decode cX12_laysRun 70 = .ok (.aload_n 0, 1) := by decide +kernel
theorem dX12_laysRun_71 : decode cX12_laysRun 71 = .ok (.getfield 31, 3) := by decide +kernel
theorem dX12_laysRun_74 : decode cX12_laysRun 74 = .ok (.iload 5, 2) := by decide +kernel
theorem dX12_laysRun_76 : decode cX12_laysRun 76 = .ok (.iconst 0, 1) := by decide +kernel
theorem dX12_laysRun_77 : decode cX12_laysRun 77 = .ok (.iastore, 1) := by decide +kernel
theorem dX12_laysRun_78 : decode cX12_laysRun 78 = .ok (.aload_n 0, 1) := by decide +kernel
theorem dX12_laysRun_79 : decode cX12_laysRun 79 = .ok (.getfield 34, 3) := by decide +kernel
theorem dX12_laysRun_82 : decode cX12_laysRun 82 = .ok (.iload 5, 2) := by decide +kernel
theorem dX12_laysRun_84 : decode cX12_laysRun 84 = .ok (.iload 6, 2) := by decide +kernel
theorem dX12_laysRun_86 : decode cX12_laysRun 86 = .ok (.ifCond .ne 7, 3) := by decide +kernel
theorem dX12_laysRun_89 : decode cX12_laysRun 89 = .ok (.iload_n 3, 1) := by decide +kernel
theorem dX12_laysRun_90 : decode cX12_laysRun 90 = .ok (.goto 5, 3) := by decide +kernel
theorem dX12_laysRun_93 : decode cX12_laysRun 93 = .ok (.iload 4, 2) := by decide +kernel
theorem dX12_laysRun_95 : decode cX12_laysRun 95 = .ok (.iastore, 1) := by decide +kernel
theorem dX12_laysRun_96 : decode cX12_laysRun 96 = .ok (.aload_n 0, 1) := by decide +kernel
theorem dX12_laysRun_97 : decode cX12_laysRun 97 = .ok (.getfield 46, 3) := by decide +kernel
theorem dX12_laysRun_100 : decode cX12_laysRun 100 = .ok (.iload 5, 2) := by decide +kernel
theorem dX12_laysRun_102 : decode cX12_laysRun 102 = .ok (.iload 5, 2) := by decide +kernel
theorem dX12_laysRun_104 : decode cX12_laysRun 104 = .ok (.iconst 1, 1) := by decide +kernel
theorem dX12_laysRun_105 : decode cX12_laysRun 105 = .ok (.iadd, 1) := by decide +kernel
theorem dX12_laysRun_106 : decode cX12_laysRun 106 = .ok (.iastore, 1) := by decide +kernel
theorem dX12_laysRun_107 : decode cX12_laysRun 107 = .ok (.aload_n 0, 1) := by decide +kernel
theorem dX12_laysRun_108 : decode cX12_laysRun 108 = .ok (.getfield 46, 3) := by decide +kernel
theorem dX12_laysRun_111 : decode cX12_laysRun 111 = .ok (.sipush 1280, 3) := by decide +kernel
theorem dX12_laysRun_114 : decode cX12_laysRun 114 = .ok (.iload_n 2, 1) := by decide +kernel
theorem dX12_laysRun_115 : decode cX12_laysRun 115 = .ok (.iadd, 1) := by decide +kernel
theorem dX12_laysRun_116 : decode cX12_laysRun 116 = .ok (.iconst 1, 1) := by decide +kernel
theorem dX12_laysRun_117 : decode cX12_laysRun 117 = .ok (.isub, 1) := by decide +kernel
theorem dX12_laysRun_118 : decode cX12_laysRun 118 = .ok (.iload 6, 2) := by decide +kernel
theorem dX12_laysRun_120 : decode cX12_laysRun 120 = .ok (.isub, 1) := by decide +kernel
theorem dX12_laysRun_121 : decode cX12_laysRun 121 = .ok (.iload 5, 2) := by decide +kernel
theorem dX12_laysRun_123 : decode cX12_laysRun 123 = .ok (.iconst 1, 1) := by decide +kernel
theorem dX12_laysRun_124 : decode cX12_laysRun 124 = .ok (.iadd, 1) := by decide +kernel
theorem dX12_laysRun_125 : decode cX12_laysRun 125 = .ok (.iastore, 1) := by decide +kernel
theorem dX12_laysRun_126 : decode cX12_laysRun 126 = .ok (.iinc 6 1, 3) := by decide +kernel
theorem dX12_laysRun_129 : decode cX12_laysRun 129 = .ok (.goto (-68), 3) := by decide +kernel
theorem dX12_laysRun_132 : decode cX12_laysRun 132 = .ok (.return_, 1) := by decide +kernel
theorem dX12_goesOn_0 : decode cX12_goesOn 0 = .ok (.aload_n 0, 1) := by decide +kernel
theorem dX12_goesOn_1 : decode cX12_goesOn 1 = .ok (.iload_n 1, 1) := by decide +kernel
theorem dX12_goesOn_2 : decode cX12_goesOn 2 = .ok (.putfield 413, 3) := by decide +kernel
theorem dX12_goesOn_5 : decode cX12_goesOn 5 = .ok (.aload_n 0, 1) := by decide +kernel
theorem dX12_goesOn_6 : decode cX12_goesOn 6 = .ok (.iload_n 2, 1) := by decide +kernel
theorem dX12_goesOn_7 : decode cX12_goesOn 7 = .ok (.putfield 416, 3) := by decide +kernel
theorem dX12_goesOn_10 : decode cX12_goesOn 10 = .ok (.aload_n 0, 1) := by decide +kernel
theorem dX12_goesOn_11 : decode cX12_goesOn 11 = .ok (.iload_n 3, 1) := by decide +kernel
theorem dX12_goesOn_12 : decode cX12_goesOn 12 = .ok (.putfield 419, 3) := by decide +kernel
theorem dX12_goesOn_15 : decode cX12_goesOn 15 = .ok (.aload_n 0, 1) := by decide +kernel
theorem dX12_goesOn_16 : decode cX12_goesOn 16 = .ok (.iconst 0, 1) := by decide +kernel
theorem dX12_goesOn_17 : decode cX12_goesOn 17 = .ok (.putfield 383, 3) := by decide +kernel
theorem dX12_goesOn_20 : decode cX12_goesOn 20 = .ok (.return_, 1) := by decide +kernel
theorem dX12_finds_0 : decode cX12_finds 0 = .ok (.aload_n 0, 1) := by decide +kernel
theorem dX12_finds_1 : decode cX12_finds 1 = .ok (.iconst (-1), 1) := by decide +kernel
theorem dX12_finds_2 : decode cX12_finds 2 = .ok (.putfield 395, 3) := by decide +kernel
theorem dX12_finds_5 : decode cX12_finds 5 = .ok (.aload_n 0, 1) := by decide +kernel
theorem dX12_finds_6 : decode cX12_finds 6 = .ok (.getfield 395, 3) := by decide +kernel
theorem dX12_finds_9 : decode cX12_finds 9 = .ok (.iconst (-1), 1) := by decide +kernel
theorem dX12_finds_10 : decode cX12_finds 10 = .ok (.if_icmp .ne 38, 3) := by decide +kernel
theorem dX12_finds_13 : decode cX12_finds 13 = .ok (.aload_n 0, 1) := by decide +kernel
theorem dX12_finds_14 : decode cX12_finds 14 = .ok (.getfield 398, 3) := by decide +kernel
theorem dX12_finds_17 : decode cX12_finds 17 = .ok (.ifCond .gt 10, 3) := by decide +kernel
theorem dX12_finds_20 : decode cX12_finds 20 = .ok (.aload_n 0, 1) := by decide +kernel
theorem dX12_finds_21 : decode cX12_finds 21 = .ok (.getfield 383, 3) := by decide +kernel
theorem dX12_finds_24 : decode cX12_finds 24 = .ok (.ifCond .ne 24, 3) := by decide +kernel
theorem dX12_finds_27 : decode cX12_finds 27 = .ok (.aload_n 0, 1) := by decide +kernel
theorem dX12_finds_28 : decode cX12_finds 28 = .ok (.getfield 383, 3) := by decide +kernel
theorem dX12_finds_31 : decode cX12_finds 31 = .ok (.ifCond .eq 10, 3) := by decide +kernel
theorem dX12_finds_41 : decode cX12_finds 41 = .ok (.aload_n 0, 1) := by decide +kernel
theorem dX12_finds_42 : decode cX12_finds 42 = .ok (.invokevirtual 476, 3) := by decide +kernel
theorem dX12_finds_45 : decode cX12_finds 45 = .ok (.goto (-40), 3) := by decide +kernel
theorem dX12_finds_48 : decode cX12_finds 48 = .ok (.return_, 1) := by decide +kernel
theorem dX12_steps_0 : decode cX12_steps 0 = .ok (.aload_n 0, 1) := by decide +kernel
theorem dX12_steps_1 : decode cX12_steps 1 = .ok (.getfield 443, 3) := by decide +kernel
theorem dX12_steps_4 : decode cX12_steps 4 = .ok (.aload_n 0, 1) := by decide +kernel
theorem dX12_steps_5 : decode cX12_steps 5 = .ok (.getfield 446, 3) := by decide +kernel
theorem dX12_steps_8 : decode cX12_steps 8 = .ok (.if_icmp .ne 10, 3) := by decide +kernel
theorem dX12_steps_18 : decode cX12_steps 18 = .ok (.aload_n 0, 1) := by decide +kernel
theorem dX12_steps_19 : decode cX12_steps 19 = .ok (.getfield 407, 3) := by decide +kernel
theorem dX12_steps_22 : decode cX12_steps 22 = .ok (.ifCond .ne 23, 3) := by decide +kernel
theorem dX12_steps_25 : decode cX12_steps 25 = .ok (.aload_n 0, 1) := by decide +kernel
theorem dX12_steps_26 : decode cX12_steps 26 = .ok (.getfield 443, 3) := by decide +kernel
theorem dX12_steps_29 : decode cX12_steps 29 = .ok (.iconst 1, 1) := by decide +kernel
theorem dX12_steps_30 : decode cX12_steps 30 = .ok (.iadd, 1) := by decide +kernel
theorem dX12_steps_31 : decode cX12_steps 31 = .ok (.aload_n 0, 1) := by decide +kernel
theorem dX12_steps_32 : decode cX12_steps 32 = .ok (.getfield 449, 3) := by decide +kernel
theorem dX12_steps_35 : decode cX12_steps 35 = .ok (.if_icmp .ne 10, 3) := by decide +kernel
theorem dX12_steps_38 : decode cX12_steps 38 = .ok (.aload_n 0, 1) := by decide +kernel
theorem dX12_steps_39 : decode cX12_steps 39 = .ok (.bipush 7, 2) := by decide +kernel
theorem dX12_steps_41 : decode cX12_steps 41 = .ok (.invokevirtual 434, 3) := by decide +kernel
theorem dX12_steps_44 : decode cX12_steps 44 = .ok (.return_, 1) := by decide +kernel
theorem dX12_steps_45 : decode cX12_steps 45 = .ok (.aload_n 0, 1) := by decide +kernel
theorem dX12_steps_46 : decode cX12_steps 46 = .ok (.dup, 1) := by decide +kernel
theorem dX12_steps_47 : decode cX12_steps 47 = .ok (.getfield 443, 3) := by decide +kernel
theorem dX12_steps_50 : decode cX12_steps 50 = .ok (.iconst 1, 1) := by decide +kernel
theorem dX12_steps_51 : decode cX12_steps 51 = .ok (.iadd, 1) := by decide +kernel
theorem dX12_steps_52 : decode cX12_steps 52 = .ok (.putfield 443, 3) := by decide +kernel
theorem dX12_steps_55 : decode cX12_steps 55 = .ok (.aload_n 0, 1) := by decide +kernel
theorem dX12_steps_56 : decode cX12_steps 56 = .ok (.getfield 166, 3) := by decide +kernel
theorem dX12_steps_59 : decode cX12_steps 59 = .ok (.bipush 6, 2) := by decide +kernel
theorem dX12_steps_61 : decode cX12_steps 61 = .ok (.aload_n 0, 1) := by decide +kernel
theorem dX12_steps_62 : decode cX12_steps 62 = .ok (.getfield 419, 3) := by decide +kernel
theorem dX12_steps_65 : decode cX12_steps 65 = .ok (.iadd, 1) := by decide +kernel
theorem dX12_steps_66 : decode cX12_steps 66 = .ok (.dup2, 1) := by decide +kernel
theorem dX12_steps_67 : decode cX12_steps 67 = .ok (.iaload, 1) := by decide +kernel
theorem dX12_steps_68 : decode cX12_steps 68 = .ok (.aload_n 0, 1) := by decide +kernel
theorem dX12_steps_69 : decode cX12_steps 69 = .ok (.getfield 407, 3) := by decide +kernel
theorem dX12_steps_72 : decode cX12_steps 72 = .ok (.ifCond .eq 7, 3) := by decide +kernel
theorem dX12_steps_79 : decode cX12_steps 79 = .ok (.iconst 1, 1) := by decide +kernel
theorem dX12_steps_80 : decode cX12_steps 80 = .ok (.iadd, 1) := by decide +kernel
theorem dX12_steps_81 : decode cX12_steps 81 = .ok (.iastore, 1) := by decide +kernel
theorem dX12_steps_82 : decode cX12_steps 82 = .ok (.aload_n 0, 1) := by decide +kernel
theorem dX12_steps_83 : decode cX12_steps 83 = .ok (.getfield 31, 3) := by decide +kernel
theorem dX12_steps_86 : decode cX12_steps 86 = .ok (.aload_n 0, 1) := by decide +kernel
theorem dX12_steps_87 : decode cX12_steps 87 = .ok (.getfield 413, 3) := by decide +kernel
theorem dX12_steps_90 : decode cX12_steps 90 = .ok (.iaload, 1) := by decide +kernel
theorem dX12_steps_91 : decode cX12_steps 91 = .ok (.tableswitch 235 0 15 #[77, 100, 171, 77, 235, 195, 235, 77, 235, 235, 235, 235, 235, 235, 202, 209], 77) := by decide +kernel
theorem dX12_steps_262 : decode cX12_steps 262 = .ok (.aload_n 0, 1) := by decide +kernel
theorem dX12_steps_263 : decode cX12_steps 263 = .ok (.bipush 8, 2) := by decide +kernel
theorem dX12_steps_265 : decode cX12_steps 265 = .ok (.aload_n 0, 1) := by decide +kernel
theorem dX12_steps_266 : decode cX12_steps 266 = .ok (.getfield 371, 3) := by decide +kernel
theorem dX12_steps_269 : decode cX12_steps 269 = .ok (.imul, 1) := by decide +kernel
theorem dX12_steps_270 : decode cX12_steps 270 = .ok (.aload_n 0, 1) := by decide +kernel
theorem dX12_steps_271 : decode cX12_steps 271 = .ok (.getfield 34, 3) := by decide +kernel
theorem dX12_steps_274 : decode cX12_steps 274 = .ok (.aload_n 0, 1) := by decide +kernel
theorem dX12_steps_275 : decode cX12_steps 275 = .ok (.getfield 413, 3) := by decide +kernel
theorem dX12_steps_278 : decode cX12_steps 278 = .ok (.iaload, 1) := by decide +kernel
theorem dX12_steps_279 : decode cX12_steps 279 = .ok (.iadd, 1) := by decide +kernel
theorem dX12_steps_280 : decode cX12_steps 280 = .ok (.invokevirtual 452, 3) := by decide +kernel
theorem dX12_steps_283 : decode cX12_steps 283 = .ok (.goto 78, 3) := by decide +kernel
theorem dX12_steps_326 : decode cX12_steps 326 = .ok (.aload_n 0, 1) := by decide +kernel
theorem dX12_steps_327 : decode cX12_steps 327 = .ok (.aload_n 0, 1) := by decide +kernel
theorem dX12_steps_328 : decode cX12_steps 328 = .ok (.getfield 31, 3) := by decide +kernel
theorem dX12_steps_331 : decode cX12_steps 331 = .ok (.aload_n 0, 1) := by decide +kernel
theorem dX12_steps_332 : decode cX12_steps 332 = .ok (.getfield 413, 3) := by decide +kernel
theorem dX12_steps_335 : decode cX12_steps 335 = .ok (.iaload, 1) := by decide +kernel
theorem dX12_steps_336 : decode cX12_steps 336 = .ok (.aload_n 0, 1) := by decide +kernel
theorem dX12_steps_337 : decode cX12_steps 337 = .ok (.getfield 413, 3) := by decide +kernel
theorem dX12_steps_340 : decode cX12_steps 340 = .ok (.invokevirtual 437, 3) := by decide +kernel
theorem dX12_steps_343 : decode cX12_steps 343 = .ok (.aload_n 0, 1) := by decide +kernel
theorem dX12_steps_344 : decode cX12_steps 344 = .ok (.aload_n 0, 1) := by decide +kernel
theorem dX12_steps_345 : decode cX12_steps 345 = .ok (.getfield 413, 3) := by decide +kernel
theorem dX12_steps_348 : decode cX12_steps 348 = .ok (.iconst 1, 1) := by decide +kernel
theorem dX12_steps_349 : decode cX12_steps 349 = .ok (.iadd, 1) := by decide +kernel
theorem dX12_steps_350 : decode cX12_steps 350 = .ok (.aload_n 0, 1) := by decide +kernel
theorem dX12_steps_351 : decode cX12_steps 351 = .ok (.getfield 416, 3) := by decide +kernel
theorem dX12_steps_354 : decode cX12_steps 354 = .ok (.aload_n 0, 1) := by decide +kernel
theorem dX12_steps_355 : decode cX12_steps 355 = .ok (.getfield 419, 3) := by decide +kernel
theorem dX12_steps_358 : decode cX12_steps 358 = .ok (.invokevirtual 404, 3) := by decide +kernel
theorem dX12_steps_361 : decode cX12_steps 361 = .ok (.return_, 1) := by decide +kernel
theorem dX12_stops_0 : decode cX12_stops 0 = .ok (.aload_n 0, 1) := by decide +kernel
theorem dX12_stops_1 : decode cX12_stops 1 = .ok (.iload_n 1, 1) := by decide +kernel
theorem dX12_stops_2 : decode cX12_stops 2 = .ok (.putfield 395, 3) := by decide +kernel
theorem dX12_stops_5 : decode cX12_stops 5 = .ok (.aload_n 0, 1) := by decide +kernel
theorem dX12_stops_6 : decode cX12_stops 6 = .ok (.getfield 398, 3) := by decide +kernel
theorem dX12_stops_9 : decode cX12_stops 9 = .ok (.ifCond .le 45, 3) := by decide +kernel
theorem dX12_stops_12 : decode cX12_stops 12 = .ok (.aload_n 0, 1) := by decide +kernel
theorem dX12_stops_13 : decode cX12_stops 13 = .ok (.dup, 1) := by decide +kernel
theorem dX12_stops_14 : decode cX12_stops 14 = .ok (.getfield 398, 3) := by decide +kernel
theorem dX12_stops_17 : decode cX12_stops 17 = .ok (.iconst 1, 1) := by decide +kernel
theorem dX12_stops_18 : decode cX12_stops 18 = .ok (.isub, 1) := by decide +kernel
theorem dX12_stops_19 : decode cX12_stops 19 = .ok (.putfield 398, 3) := by decide +kernel
theorem dX12_stops_22 : decode cX12_stops 22 = .ok (.aload_n 0, 1) := by decide +kernel
theorem dX12_stops_23 : decode cX12_stops 23 = .ok (.getfield 151, 3) := by decide +kernel
theorem dX12_stops_26 : decode cX12_stops 26 = .ok (.aload_n 0, 1) := by decide +kernel
theorem dX12_stops_27 : decode cX12_stops 27 = .ok (.getfield 398, 3) := by decide +kernel
theorem dX12_stops_30 : decode cX12_stops 30 = .ok (.iaload, 1) := by decide +kernel
theorem dX12_stops_31 : decode cX12_stops 31 = .ok (.bipush 16, 2) := by decide +kernel
theorem dX12_stops_33 : decode cX12_stops 33 = .ok (.if_icmp .ne (-28), 3) := by decide +kernel
theorem dX12_stops_54 : decode cX12_stops 54 = .ok (.return_, 1) := by decide +kernel
theorem dX12_sweeps_0 : decode cX12_sweeps 0 = .ok (.iconst 0, 1) := by decide +kernel
theorem dX12_sweeps_1 : decode cX12_sweeps 1 = .ok (.istore_n 1, 1) := by decide +kernel
theorem dX12_sweeps_2 : decode cX12_sweeps 2 = .ok (.iload_n 1, 1) := by decide +kernel
theorem dX12_sweeps_3 : decode cX12_sweeps 3 = .ok (.aload_n 0, 1) := by decide +kernel
theorem dX12_sweeps_4 : decode cX12_sweeps 4 = .ok (.getfield 86, 3) := by decide +kernel
theorem dX12_sweeps_7 : decode cX12_sweeps 7 = .ok (.if_icmp .ge 16, 3) := by decide +kernel
theorem dX12_sweeps_10 : decode cX12_sweeps 10 = .ok (.aload_n 0, 1) := by decide +kernel
theorem dX12_sweeps_11 : decode cX12_sweeps 11 = .ok (.getfield 145, 3) := by decide +kernel
theorem dX12_sweeps_14 : decode cX12_sweeps 14 = .ok (.iload_n 1, 1) := by decide +kernel
theorem dX12_sweeps_15 : decode cX12_sweeps 15 = .ok (.iconst (-1), 1) := by decide +kernel
theorem dX12_sweeps_16 : decode cX12_sweeps 16 = .ok (.iastore, 1) := by decide +kernel
theorem dX12_sweeps_17 : decode cX12_sweeps 17 = .ok (.iinc 1 1, 3) := by decide +kernel
theorem dX12_sweeps_20 : decode cX12_sweeps 20 = .ok (.goto (-18), 3) := by decide +kernel
theorem dX12_sweeps_23 : decode cX12_sweeps 23 = .ok (.iconst 0, 1) := by decide +kernel
theorem dX12_sweeps_24 : decode cX12_sweeps 24 = .ok (.istore_n 1, 1) := by decide +kernel
theorem dX12_sweeps_25 : decode cX12_sweeps 25 = .ok (.iload_n 1, 1) := by decide +kernel
theorem dX12_sweeps_26 : decode cX12_sweeps 26 = .ok (.aload_n 0, 1) := by decide +kernel
theorem dX12_sweeps_27 : decode cX12_sweeps 27 = .ok (.getfield 353, 3) := by decide +kernel
theorem dX12_sweeps_30 : decode cX12_sweeps 30 = .ok (.if_icmp .ge 19, 3) := by decide +kernel
theorem dX12_sweeps_49 : decode cX12_sweeps 49 = .ok (.iconst 0, 1) := by decide +kernel
theorem dX12_sweeps_50 : decode cX12_sweeps 50 = .ok (.istore_n 1, 1) := by decide +kernel
theorem dX12_sweeps_51 : decode cX12_sweeps 51 = .ok (.iload_n 1, 1) := by decide +kernel
theorem dX12_sweeps_52 : decode cX12_sweeps 52 = .ok (.aload_n 0, 1) := by decide +kernel
theorem dX12_sweeps_53 : decode cX12_sweeps 53 = .ok (.getfield 389, 3) := by decide +kernel
theorem dX12_sweeps_56 : decode cX12_sweeps 56 = .ok (.if_icmp .ge 20, 3) := by decide +kernel
theorem dX12_sweeps_76 : decode cX12_sweeps 76 = .ok (.aload_n 0, 1) := by decide +kernel
theorem dX12_sweeps_77 : decode cX12_sweeps 77 = .ok (.iconst 0, 1) := by decide +kernel
theorem dX12_sweeps_78 : decode cX12_sweeps 78 = .ok (.putfield 501, 3) := by decide +kernel
theorem dX12_sweeps_81 : decode cX12_sweeps 81 = .ok (.iconst 0, 1) := by decide +kernel
theorem dX12_sweeps_82 : decode cX12_sweeps 82 = .ok (.istore_n 1, 1) := by decide +kernel
theorem dX12_sweeps_83 : decode cX12_sweeps 83 = .ok (.iload_n 1, 1) := by decide +kernel
theorem dX12_sweeps_84 : decode cX12_sweeps 84 = .ok (.bipush 16, 2) := by decide +kernel
theorem dX12_sweeps_86 : decode cX12_sweeps 86 = .ok (.if_icmp .ge 14, 3) := by decide +kernel
theorem dX12_sweeps_89 : decode cX12_sweeps 89 = .ok (.aload_n 0, 1) := by decide +kernel
theorem dX12_sweeps_90 : decode cX12_sweeps 90 = .ok (.iload_n 1, 1) := by decide +kernel
theorem dX12_sweeps_91 : decode cX12_sweeps 91 = .ok (.invokevirtual 507, 3) := by decide +kernel
theorem dX12_sweeps_94 : decode cX12_sweeps 94 = .ok (.iinc 1 1, 3) := by decide +kernel
theorem dX12_sweeps_97 : decode cX12_sweeps 97 = .ok (.goto (-14), 3) := by decide +kernel
theorem dX12_sweeps_100 : decode cX12_sweeps 100 = .ok (.aload_n 0, 1) := by decide +kernel
theorem dX12_sweeps_101 : decode cX12_sweeps 101 = .ok (.getfield 501, 3) := by decide +kernel
theorem dX12_sweeps_104 : decode cX12_sweeps 104 = .ok (.ifCond .le 29, 3) := by decide +kernel
theorem dX12_sweeps_107 : decode cX12_sweeps 107 = .ok (.aload_n 0, 1) := by decide +kernel
theorem dX12_sweeps_108 : decode cX12_sweeps 108 = .ok (.dup, 1) := by decide +kernel
theorem dX12_sweeps_109 : decode cX12_sweeps 109 = .ok (.getfield 501, 3) := by decide +kernel
theorem dX12_sweeps_112 : decode cX12_sweeps 112 = .ok (.iconst 1, 1) := by decide +kernel
theorem dX12_sweeps_113 : decode cX12_sweeps 113 = .ok (.isub, 1) := by decide +kernel
theorem dX12_sweeps_114 : decode cX12_sweeps 114 = .ok (.putfield 501, 3) := by decide +kernel
theorem dX12_sweeps_117 : decode cX12_sweeps 117 = .ok (.aload_n 0, 1) := by decide +kernel
theorem dX12_sweeps_118 : decode cX12_sweeps 118 = .ok (.aload_n 0, 1) := by decide +kernel
theorem dX12_sweeps_119 : decode cX12_sweeps 119 = .ok (.getfield 148, 3) := by decide +kernel
theorem dX12_sweeps_122 : decode cX12_sweeps 122 = .ok (.aload_n 0, 1) := by decide +kernel
theorem dX12_sweeps_123 : decode cX12_sweeps 123 = .ok (.getfield 501, 3) := by decide +kernel
theorem dX12_sweeps_126 : decode cX12_sweeps 126 = .ok (.iaload, 1) := by decide +kernel
theorem dX12_sweeps_127 : decode cX12_sweeps 127 = .ok (.invokevirtual 513, 3) := by decide +kernel
theorem dX12_sweeps_130 : decode cX12_sweeps 130 = .ok (.goto (-30), 3) := by decide +kernel
theorem dX12_sweeps_133 : decode cX12_sweeps 133 = .ok (.aload_n 0, 1) := by decide +kernel
theorem dX12_sweeps_134 : decode cX12_sweeps 134 = .ok (.iconst 0, 1) := by decide +kernel
theorem dX12_sweeps_135 : decode cX12_sweeps 135 = .ok (.aload_n 0, 1) := by decide +kernel
theorem dX12_sweeps_136 : decode cX12_sweeps 136 = .ok (.getfield 86, 3) := by decide +kernel
theorem dX12_sweeps_139 : decode cX12_sweeps 139 = .ok (.invokevirtual 516, 3) := by decide +kernel
theorem dX12_sweeps_142 : decode cX12_sweeps 142 = .ok (.istore_n 1, 1) := by decide +kernel
theorem dX12_sweeps_143 : decode cX12_sweeps 143 = .ok (.aload_n 0, 1) := by decide +kernel
theorem dX12_sweeps_144 : decode cX12_sweeps 144 = .ok (.ldc 90, 2) := by decide +kernel
theorem dX12_sweeps_146 : decode cX12_sweeps 146 = .ok (.aload_n 0, 1) := by decide +kernel
theorem dX12_sweeps_147 : decode cX12_sweeps 147 = .ok (.getfield 353, 3) := by decide +kernel
theorem dX12_sweeps_150 : decode cX12_sweeps 150 = .ok (.invokevirtual 516, 3) := by decide +kernel
theorem dX12_sweeps_153 : decode cX12_sweeps 153 = .ok (.istore_n 2, 1) := by decide +kernel
theorem dX12_sweeps_154 : decode cX12_sweeps 154 = .ok (.aload_n 0, 1) := by decide +kernel
theorem dX12_sweeps_155 : decode cX12_sweeps 155 = .ok (.ldc_w 500, 3) := by decide +kernel
theorem dX12_sweeps_158 : decode cX12_sweeps 158 = .ok (.aload_n 0, 1) := by decide +kernel
theorem dX12_sweeps_159 : decode cX12_sweeps 159 = .ok (.getfield 389, 3) := by decide +kernel
theorem dX12_sweeps_162 : decode cX12_sweeps 162 = .ok (.invokevirtual 516, 3) := by decide +kernel
theorem dX12_sweeps_165 : decode cX12_sweeps 165 = .ok (.istore_n 3, 1) := by decide +kernel
theorem dX12_sweeps_166 : decode cX12_sweeps 166 = .ok (.aload_n 0, 1) := by decide +kernel
theorem dX12_sweeps_167 : decode cX12_sweeps 167 = .ok (.invokevirtual 519, 3) := by decide +kernel
theorem dX12_sweeps_170 : decode cX12_sweeps 170 = .ok (.aload_n 0, 1) := by decide +kernel
theorem dX12_sweeps_171 : decode cX12_sweeps 171 = .ok (.invokevirtual 522, 3) := by decide +kernel
theorem dX12_sweeps_174 : decode cX12_sweeps 174 = .ok (.aload_n 0, 1) := by decide +kernel
theorem dX12_sweeps_175 : decode cX12_sweeps 175 = .ok (.invokevirtual 525, 3) := by decide +kernel
theorem dX12_sweeps_178 : decode cX12_sweeps 178 = .ok (.aload_n 0, 1) := by decide +kernel
theorem dX12_sweeps_179 : decode cX12_sweeps 179 = .ok (.iload_n 1, 1) := by decide +kernel
theorem dX12_sweeps_180 : decode cX12_sweeps 180 = .ok (.putfield 86, 3) := by decide +kernel
theorem dX12_sweeps_183 : decode cX12_sweeps 183 = .ok (.aload_n 0, 1) := by decide +kernel
theorem dX12_sweeps_184 : decode cX12_sweeps 184 = .ok (.iload_n 2, 1) := by decide +kernel
theorem dX12_sweeps_185 : decode cX12_sweeps 185 = .ok (.putfield 353, 3) := by decide +kernel
theorem dX12_sweeps_188 : decode cX12_sweeps 188 = .ok (.aload_n 0, 1) := by decide +kernel
theorem dX12_sweeps_189 : decode cX12_sweeps 189 = .ok (.iload_n 3, 1) := by decide +kernel
theorem dX12_sweeps_190 : decode cX12_sweeps 190 = .ok (.putfield 389, 3) := by decide +kernel
theorem dX12_sweeps_193 : decode cX12_sweeps 193 = .ok (.return_, 1) := by decide +kernel
theorem dX12_reaches_0 : decode cX12_reaches 0 = .ok (.iload_n 1, 1) := by decide +kernel
theorem dX12_reaches_1 : decode cX12_reaches 1 = .ok (.iconst (-1), 1) := by decide +kernel
theorem dX12_reaches_2 : decode cX12_reaches 2 = .ok (.if_icmp .eq 40, 3) := by decide +kernel
theorem dX12_reaches_5 : decode cX12_reaches 5 = .ok (.aload_n 0, 1) := by decide +kernel
theorem dX12_reaches_6 : decode cX12_reaches 6 = .ok (.getfield 145, 3) := by decide +kernel
theorem dX12_reaches_9 : decode cX12_reaches 9 = .ok (.iload_n 1, 1) := by decide +kernel
theorem dX12_reaches_10 : decode cX12_reaches 10 = .ok (.iaload, 1) := by decide +kernel
theorem dX12_reaches_11 : decode cX12_reaches 11 = .ok (.iconst (-1), 1) := by decide +kernel
theorem dX12_reaches_12 : decode cX12_reaches 12 = .ok (.if_icmp .ne 30, 3) := by decide +kernel
theorem dX12_reaches_15 : decode cX12_reaches 15 = .ok (.aload_n 0, 1) := by decide +kernel
theorem dX12_reaches_16 : decode cX12_reaches 16 = .ok (.getfield 145, 3) := by decide +kernel
theorem dX12_reaches_19 : decode cX12_reaches 19 = .ok (.iload_n 1, 1) := by decide +kernel
theorem dX12_reaches_20 : decode cX12_reaches 20 = .ok (.iconst 0, 1) := by decide +kernel
theorem dX12_reaches_21 : decode cX12_reaches 21 = .ok (.iastore, 1) := by decide +kernel
theorem dX12_reaches_22 : decode cX12_reaches 22 = .ok (.aload_n 0, 1) := by decide +kernel
theorem dX12_reaches_23 : decode cX12_reaches 23 = .ok (.getfield 148, 3) := by decide +kernel
theorem dX12_reaches_26 : decode cX12_reaches 26 = .ok (.aload_n 0, 1) := by decide +kernel
theorem dX12_reaches_27 : decode cX12_reaches 27 = .ok (.getfield 501, 3) := by decide +kernel
theorem dX12_reaches_30 : decode cX12_reaches 30 = .ok (.iload_n 1, 1) := by decide +kernel
theorem dX12_reaches_31 : decode cX12_reaches 31 = .ok (.iastore, 1) := by decide +kernel
theorem dX12_reaches_32 : decode cX12_reaches 32 = .ok (.aload_n 0, 1) := by decide +kernel
theorem dX12_reaches_33 : decode cX12_reaches 33 = .ok (.dup, 1) := by decide +kernel
theorem dX12_reaches_34 : decode cX12_reaches 34 = .ok (.getfield 501, 3) := by decide +kernel
theorem dX12_reaches_37 : decode cX12_reaches 37 = .ok (.iconst 1, 1) := by decide +kernel
theorem dX12_reaches_38 : decode cX12_reaches 38 = .ok (.iadd, 1) := by decide +kernel
theorem dX12_reaches_39 : decode cX12_reaches 39 = .ok (.putfield 501, 3) := by decide +kernel
theorem dX12_reaches_42 : decode cX12_reaches 42 = .ok (.return_, 1) := by decide +kernel
theorem dX12_follows_0 : decode cX12_follows 0 = .ok (.iload_n 1, 1) := by decide +kernel
theorem dX12_follows_1 : decode cX12_follows 1 = .ok (.ldc 90, 2) := by decide +kernel
theorem dX12_follows_3 : decode cX12_follows 3 = .ok (.if_icmp .ge 77, 3) := by decide +kernel
theorem dX12_follows_6 : decode cX12_follows 6 = .ok (.aload_n 0, 1) := by decide +kernel
theorem dX12_follows_7 : decode cX12_follows 7 = .ok (.getfield 91, 3) := by decide +kernel
theorem dX12_follows_10 : decode cX12_follows 10 = .ok (.iload_n 1, 1) := by decide +kernel
theorem dX12_follows_11 : decode cX12_follows 11 = .ok (.iaload, 1) := by decide +kernel
theorem dX12_follows_12 : decode cX12_follows 12 = .ok (.iconst 2, 1) := by decide +kernel
theorem dX12_follows_13 : decode cX12_follows 13 = .ok (.if_icmp .ne 31, 3) := by decide +kernel
theorem dX12_follows_44 : decode cX12_follows 44 = .ok (.iload_n 1, 1) := by decide +kernel
theorem dX12_follows_45 : decode cX12_follows 45 = .ok (.bipush 16, 2) := by decide +kernel
theorem dX12_follows_47 : decode cX12_follows 47 = .ok (.if_icmp .lt 155, 3) := by decide +kernel
theorem dX12_follows_202 : decode cX12_follows 202 = .ok (.return_, 1) := by decide +kernel
theorem dX12_places_0 : decode cX12_places 0 = .ok (.iconst 0, 1) := by decide +kernel
theorem dX12_places_1 : decode cX12_places 1 = .ok (.istore_n 3, 1) := by decide +kernel
theorem dX12_places_2 : decode cX12_places 2 = .ok (.iconst 0, 1) := by decide +kernel
theorem dX12_places_3 : decode cX12_places 3 = .ok (.istore 4, 2) := by decide +kernel
theorem dX12_places_5 : decode cX12_places 5 = .ok (.iload 4, 2) := by decide +kernel
theorem dX12_places_7 : decode cX12_places 7 = .ok (.iload_n 2, 1) := by decide +kernel
theorem dX12_places_8 : decode cX12_places 8 = .ok (.if_icmp .ge 35, 3) := by decide +kernel
theorem dX12_places_11 : decode cX12_places 11 = .ok (.aload_n 0, 1) := by decide +kernel
theorem dX12_places_12 : decode cX12_places 12 = .ok (.getfield 145, 3) := by decide +kernel
theorem dX12_places_15 : decode cX12_places 15 = .ok (.iload_n 1, 1) := by decide +kernel
theorem dX12_places_16 : decode cX12_places 16 = .ok (.iload 4, 2) := by decide +kernel
theorem dX12_places_18 : decode cX12_places 18 = .ok (.iadd, 1) := by decide +kernel
theorem dX12_places_19 : decode cX12_places 19 = .ok (.iaload, 1) := by decide +kernel
theorem dX12_places_20 : decode cX12_places 20 = .ok (.iconst (-1), 1) := by decide +kernel
theorem dX12_places_21 : decode cX12_places 21 = .ok (.if_icmp .eq 16, 3) := by decide +kernel
theorem dX12_places_24 : decode cX12_places 24 = .ok (.aload_n 0, 1) := by decide +kernel
theorem dX12_places_25 : decode cX12_places 25 = .ok (.getfield 145, 3) := by decide +kernel
theorem dX12_places_28 : decode cX12_places 28 = .ok (.iload_n 1, 1) := by decide +kernel
theorem dX12_places_29 : decode cX12_places 29 = .ok (.iload 4, 2) := by decide +kernel
theorem dX12_places_31 : decode cX12_places 31 = .ok (.iadd, 1) := by decide +kernel
theorem dX12_places_32 : decode cX12_places 32 = .ok (.iload_n 3, 1) := by decide +kernel
theorem dX12_places_33 : decode cX12_places 33 = .ok (.iastore, 1) := by decide +kernel
theorem dX12_places_34 : decode cX12_places 34 = .ok (.iinc 3 1, 3) := by decide +kernel
theorem dX12_places_37 : decode cX12_places 37 = .ok (.iinc 4 1, 3) := by decide +kernel
theorem dX12_places_40 : decode cX12_places 40 = .ok (.goto (-35), 3) := by decide +kernel
theorem dX12_places_43 : decode cX12_places 43 = .ok (.iload_n 3, 1) := by decide +kernel
theorem dX12_places_44 : decode cX12_places 44 = .ok (.ireturn, 1) := by decide +kernel
theorem dX12_movesCells_0 : decode cX12_movesCells 0 = .ok (.iconst 0, 1) := by decide +kernel
theorem dX12_movesCells_1 : decode cX12_movesCells 1 = .ok (.istore_n 1, 1) := by decide +kernel
theorem dX12_movesCells_2 : decode cX12_movesCells 2 = .ok (.iload_n 1, 1) := by decide +kernel
theorem dX12_movesCells_3 : decode cX12_movesCells 3 = .ok (.aload_n 0, 1) := by decide +kernel
theorem dX12_movesCells_4 : decode cX12_movesCells 4 = .ok (.getfield 86, 3) := by decide +kernel
theorem dX12_movesCells_7 : decode cX12_movesCells 7 = .ok (.if_icmp .ge 175, 3) := by decide +kernel
theorem dX12_movesCells_10 : decode cX12_movesCells 10 = .ok (.aload_n 0, 1) := by decide +kernel
theorem dX12_movesCells_11 : decode cX12_movesCells 11 = .ok (.getfield 145, 3) := by decide +kernel
theorem dX12_movesCells_14 : decode cX12_movesCells 14 = .ok (.iload_n 1, 1) := by decide +kernel
theorem dX12_movesCells_15 : decode cX12_movesCells 15 = .ok (.iaload, 1) := by decide +kernel
theorem dX12_movesCells_16 : decode cX12_movesCells 16 = .ok (.istore_n 2, 1) := by decide +kernel
theorem dX12_movesCells_17 : decode cX12_movesCells 17 = .ok (.iload_n 2, 1) := by decide +kernel
theorem dX12_movesCells_18 : decode cX12_movesCells 18 = .ok (.iconst (-1), 1) := by decide +kernel
theorem dX12_movesCells_19 : decode cX12_movesCells 19 = .ok (.if_icmp .eq 157, 3) := by decide +kernel
theorem dX12_movesCells_22 : decode cX12_movesCells 22 = .ok (.aload_n 0, 1) := by decide +kernel
theorem dX12_movesCells_23 : decode cX12_movesCells 23 = .ok (.getfield 91, 3) := by decide +kernel
theorem dX12_movesCells_26 : decode cX12_movesCells 26 = .ok (.iload_n 1, 1) := by decide +kernel
theorem dX12_movesCells_27 : decode cX12_movesCells 27 = .ok (.iaload, 1) := by decide +kernel
theorem dX12_movesCells_28 : decode cX12_movesCells 28 = .ok (.iconst 2, 1) := by decide +kernel
theorem dX12_movesCells_29 : decode cX12_movesCells 29 = .ok (.if_icmp .ne 7, 3) := by decide +kernel
theorem dX12_movesCells_36 : decode cX12_movesCells 36 = .ok (.iconst 0, 1) := by decide +kernel
theorem dX12_movesCells_37 : decode cX12_movesCells 37 = .ok (.istore_n 3, 1) := by decide +kernel
theorem dX12_movesCells_38 : decode cX12_movesCells 38 = .ok (.aload_n 0, 1) := by decide +kernel
theorem dX12_movesCells_39 : decode cX12_movesCells 39 = .ok (.getfield 91, 3) := by decide +kernel
theorem dX12_movesCells_42 : decode cX12_movesCells 42 = .ok (.iload_n 2, 1) := by decide +kernel
theorem dX12_movesCells_43 : decode cX12_movesCells 43 = .ok (.aload_n 0, 1) := by decide +kernel
theorem dX12_movesCells_44 : decode cX12_movesCells 44 = .ok (.getfield 91, 3) := by decide +kernel
theorem dX12_movesCells_47 : decode cX12_movesCells 47 = .ok (.iload_n 1, 1) := by decide +kernel
theorem dX12_movesCells_48 : decode cX12_movesCells 48 = .ok (.iaload, 1) := by decide +kernel
theorem dX12_movesCells_49 : decode cX12_movesCells 49 = .ok (.iastore, 1) := by decide +kernel
theorem dX12_movesCells_50 : decode cX12_movesCells 50 = .ok (.aload_n 0, 1) := by decide +kernel
theorem dX12_movesCells_51 : decode cX12_movesCells 51 = .ok (.getfield 94, 3) := by decide +kernel
theorem dX12_movesCells_54 : decode cX12_movesCells 54 = .ok (.iload_n 2, 1) := by decide +kernel
theorem dX12_movesCells_55 : decode cX12_movesCells 55 = .ok (.aload_n 0, 1) := by decide +kernel
theorem dX12_movesCells_56 : decode cX12_movesCells 56 = .ok (.getfield 94, 3) := by decide +kernel
theorem dX12_movesCells_59 : decode cX12_movesCells 59 = .ok (.iload_n 1, 1) := by decide +kernel
theorem dX12_movesCells_60 : decode cX12_movesCells 60 = .ok (.iaload, 1) := by decide +kernel
theorem dX12_movesCells_61 : decode cX12_movesCells 61 = .ok (.iastore, 1) := by decide +kernel
theorem dX12_movesCells_62 : decode cX12_movesCells 62 = .ok (.aload_n 0, 1) := by decide +kernel
theorem dX12_movesCells_63 : decode cX12_movesCells 63 = .ok (.getfield 97, 3) := by decide +kernel
theorem dX12_movesCells_66 : decode cX12_movesCells 66 = .ok (.iload_n 2, 1) := by decide +kernel
theorem dX12_movesCells_67 : decode cX12_movesCells 67 = .ok (.iload_n 3, 1) := by decide +kernel
theorem dX12_movesCells_68 : decode cX12_movesCells 68 = .ok (.ifCond .eq 22, 3) := by decide +kernel
theorem dX12_movesCells_90 : decode cX12_movesCells 90 = .ok (.iconst 0, 1) := by decide +kernel
theorem dX12_movesCells_91 : decode cX12_movesCells 91 = .ok (.iastore, 1) := by decide +kernel
theorem dX12_movesCells_92 : decode cX12_movesCells 92 = .ok (.aload_n 0, 1) := by decide +kernel
theorem dX12_movesCells_93 : decode cX12_movesCells 93 = .ok (.getfield 100, 3) := by decide +kernel
theorem dX12_movesCells_96 : decode cX12_movesCells 96 = .ok (.iload_n 2, 1) := by decide +kernel
theorem dX12_movesCells_97 : decode cX12_movesCells 97 = .ok (.iload_n 3, 1) := by decide +kernel
theorem dX12_movesCells_98 : decode cX12_movesCells 98 = .ok (.ifCond .eq 22, 3) := by decide +kernel
theorem dX12_movesCells_120 : decode cX12_movesCells 120 = .ok (.iconst 0, 1) := by decide +kernel
theorem dX12_movesCells_121 : decode cX12_movesCells 121 = .ok (.iastore, 1) := by decide +kernel
theorem dX12_movesCells_122 : decode cX12_movesCells 122 = .ok (.aload_n 0, 1) := by decide +kernel
theorem dX12_movesCells_123 : decode cX12_movesCells 123 = .ok (.getfield 103, 3) := by decide +kernel
theorem dX12_movesCells_126 : decode cX12_movesCells 126 = .ok (.iload_n 2, 1) := by decide +kernel
theorem dX12_movesCells_127 : decode cX12_movesCells 127 = .ok (.aload_n 0, 1) := by decide +kernel
theorem dX12_movesCells_128 : decode cX12_movesCells 128 = .ok (.getfield 103, 3) := by decide +kernel
theorem dX12_movesCells_131 : decode cX12_movesCells 131 = .ok (.iload_n 1, 1) := by decide +kernel
theorem dX12_movesCells_132 : decode cX12_movesCells 132 = .ok (.iaload, 1) := by decide +kernel
theorem dX12_movesCells_133 : decode cX12_movesCells 133 = .ok (.iastore, 1) := by decide +kernel
theorem dX12_movesCells_134 : decode cX12_movesCells 134 = .ok (.aload_n 0, 1) := by decide +kernel
theorem dX12_movesCells_135 : decode cX12_movesCells 135 = .ok (.getfield 106, 3) := by decide +kernel
theorem dX12_movesCells_138 : decode cX12_movesCells 138 = .ok (.iload_n 2, 1) := by decide +kernel
theorem dX12_movesCells_139 : decode cX12_movesCells 139 = .ok (.iload_n 3, 1) := by decide +kernel
theorem dX12_movesCells_140 : decode cX12_movesCells 140 = .ok (.ifCond .ne 9, 3) := by decide +kernel
theorem dX12_movesCells_143 : decode cX12_movesCells 143 = .ok (.iload_n 1, 1) := by decide +kernel
theorem dX12_movesCells_144 : decode cX12_movesCells 144 = .ok (.bipush 16, 2) := by decide +kernel
theorem dX12_movesCells_146 : decode cX12_movesCells 146 = .ok (.if_icmp .ge 7, 3) := by decide +kernel
theorem dX12_movesCells_149 : decode cX12_movesCells 149 = .ok (.iconst (-1), 1) := by decide +kernel
theorem dX12_movesCells_150 : decode cX12_movesCells 150 = .ok (.goto 13, 3) := by decide +kernel
theorem dX12_movesCells_163 : decode cX12_movesCells 163 = .ok (.iastore, 1) := by decide +kernel
theorem dX12_movesCells_164 : decode cX12_movesCells 164 = .ok (.aload_n 0, 1) := by decide +kernel
theorem dX12_movesCells_165 : decode cX12_movesCells 165 = .ok (.getfield 109, 3) := by decide +kernel
theorem dX12_movesCells_168 : decode cX12_movesCells 168 = .ok (.iload_n 2, 1) := by decide +kernel
theorem dX12_movesCells_169 : decode cX12_movesCells 169 = .ok (.aload_n 0, 1) := by decide +kernel
theorem dX12_movesCells_170 : decode cX12_movesCells 170 = .ok (.getfield 109, 3) := by decide +kernel
theorem dX12_movesCells_173 : decode cX12_movesCells 173 = .ok (.iload_n 1, 1) := by decide +kernel
theorem dX12_movesCells_174 : decode cX12_movesCells 174 = .ok (.iaload, 1) := by decide +kernel
theorem dX12_movesCells_175 : decode cX12_movesCells 175 = .ok (.iastore, 1) := by decide +kernel
theorem dX12_movesCells_176 : decode cX12_movesCells 176 = .ok (.iinc 1 1, 3) := by decide +kernel
theorem dX12_movesCells_179 : decode cX12_movesCells 179 = .ok (.goto (-177), 3) := by decide +kernel
theorem dX12_movesCells_182 : decode cX12_movesCells 182 = .ok (.return_, 1) := by decide +kernel
theorem dX12_movesArounds_0 : decode cX12_movesArounds 0 = .ok (.iconst 0, 1) := by decide +kernel
theorem dX12_movesArounds_1 : decode cX12_movesArounds 1 = .ok (.istore_n 1, 1) := by decide +kernel
theorem dX12_movesArounds_2 : decode cX12_movesArounds 2 = .ok (.iload_n 1, 1) := by decide +kernel
theorem dX12_movesArounds_3 : decode cX12_movesArounds 3 = .ok (.aload_n 0, 1) := by decide +kernel
theorem dX12_movesArounds_4 : decode cX12_movesArounds 4 = .ok (.getfield 353, 3) := by decide +kernel
theorem dX12_movesArounds_7 : decode cX12_movesArounds 7 = .ok (.if_icmp .ge 108, 3) := by decide +kernel
theorem dX12_movesArounds_115 : decode cX12_movesArounds 115 = .ok (.return_, 1) := by decide +kernel
theorem dX12_movesDatas_0 : decode cX12_movesDatas 0 = .ok (.iconst 0, 1) := by decide +kernel
theorem dX12_movesDatas_1 : decode cX12_movesDatas 1 = .ok (.istore_n 1, 1) := by decide +kernel
theorem dX12_movesDatas_2 : decode cX12_movesDatas 2 = .ok (.iload_n 1, 1) := by decide +kernel
theorem dX12_movesDatas_3 : decode cX12_movesDatas 3 = .ok (.aload_n 0, 1) := by decide +kernel
theorem dX12_movesDatas_4 : decode cX12_movesDatas 4 = .ok (.getfield 389, 3) := by decide +kernel
theorem dX12_movesDatas_7 : decode cX12_movesDatas 7 = .ok (.if_icmp .ge 147, 3) := by decide +kernel
theorem dX12_movesDatas_154 : decode cX12_movesDatas 154 = .ok (.return_, 1) := by decide +kernel
theorem dX1_countStep_0 : decode cX1_countStep 0 = .ok (.aload_n 0, 1) := by decide +kernel
theorem dX1_countStep_1 : decode cX1_countStep 1 = .ok (.dup, 1) := by decide +kernel
theorem dX1_countStep_2 : decode cX1_countStep 2 = .ok (.getfield 74, 3) := by decide +kernel
theorem dX1_countStep_5 : decode cX1_countStep 5 = .ok (.iconst 1, 1) := by decide +kernel
theorem dX1_countStep_6 : decode cX1_countStep 6 = .ok (.iadd, 1) := by decide +kernel
theorem dX1_countStep_7 : decode cX1_countStep 7 = .ok (.putfield 74, 3) := by decide +kernel
theorem dX1_countStep_10 : decode cX1_countStep 10 = .ok (.aload_n 0, 1) := by decide +kernel
theorem dX1_countStep_11 : decode cX1_countStep 11 = .ok (.getfield 71, 3) := by decide +kernel
theorem dX1_countStep_14 : decode cX1_countStep 14 = .ok (.ifCond .eq 14, 3) := by decide +kernel
theorem dX1_countStep_28 : decode cX1_countStep 28 = .ok (.aload_n 0, 1) := by decide +kernel
theorem dX1_countStep_29 : decode cX1_countStep 29 = .ok (.getfield 27, 3) := by decide +kernel
theorem dX1_countStep_32 : decode cX1_countStep 32 = .ok (.iconst 0, 1) := by decide +kernel
theorem dX1_countStep_33 : decode cX1_countStep 33 = .ok (.dup2, 1) := by decide +kernel
theorem dX1_countStep_34 : decode cX1_countStep 34 = .ok (.iaload, 1) := by decide +kernel
theorem dX1_countStep_35 : decode cX1_countStep 35 = .ok (.iconst 1, 1) := by decide +kernel
theorem dX1_countStep_36 : decode cX1_countStep 36 = .ok (.iadd, 1) := by decide +kernel
theorem dX1_countStep_37 : decode cX1_countStep 37 = .ok (.iastore, 1) := by decide +kernel
theorem dX1_countStep_38 : decode cX1_countStep 38 = .ok (.aload_n 0, 1) := by decide +kernel
theorem dX1_countStep_39 : decode cX1_countStep 39 = .ok (.getfield 80, 3) := by decide +kernel
theorem dX1_countStep_42 : decode cX1_countStep 42 = .ok (.ifCond .lt 27, 3) := by decide +kernel
theorem dX1_countStep_45 : decode cX1_countStep 45 = .ok (.aload_n 0, 1) := by decide +kernel
theorem dX1_countStep_46 : decode cX1_countStep 46 = .ok (.getfield 80, 3) := by decide +kernel
theorem dX1_countStep_49 : decode cX1_countStep 49 = .ok (.iconst 4, 1) := by decide +kernel
theorem dX1_countStep_50 : decode cX1_countStep 50 = .ok (.if_icmp .ge 19, 3) := by decide +kernel
theorem dX1_countStep_53 : decode cX1_countStep 53 = .ok (.aload_n 0, 1) := by decide +kernel
theorem dX1_countStep_54 : decode cX1_countStep 54 = .ok (.getfield 27, 3) := by decide +kernel
theorem dX1_countStep_57 : decode cX1_countStep 57 = .ok (.bipush 6, 2) := by decide +kernel
theorem dX1_countStep_59 : decode cX1_countStep 59 = .ok (.aload_n 0, 1) := by decide +kernel
theorem dX1_countStep_60 : decode cX1_countStep 60 = .ok (.getfield 80, 3) := by decide +kernel
theorem dX1_countStep_63 : decode cX1_countStep 63 = .ok (.iadd, 1) := by decide +kernel
theorem dX1_countStep_64 : decode cX1_countStep 64 = .ok (.dup2, 1) := by decide +kernel
theorem dX1_countStep_65 : decode cX1_countStep 65 = .ok (.iaload, 1) := by decide +kernel
theorem dX1_countStep_66 : decode cX1_countStep 66 = .ok (.iconst 1, 1) := by decide +kernel
theorem dX1_countStep_67 : decode cX1_countStep 67 = .ok (.iadd, 1) := by decide +kernel
theorem dX1_countStep_68 : decode cX1_countStep 68 = .ok (.iastore, 1) := by decide +kernel
theorem dX1_countStep_69 : decode cX1_countStep 69 = .ok (.return_, 1) := by decide +kernel
theorem dX9_kindOf_0 : decode cX9_kindOf 0 = .ok (.iload_n 1, 1) := by decide +kernel
theorem dX9_kindOf_1 : decode cX9_kindOf 1 = .ok (.ifCond .lt 20, 3) := by decide +kernel
theorem dX9_kindOf_4 : decode cX9_kindOf 4 = .ok (.iload_n 1, 1) := by decide +kernel
theorem dX9_kindOf_5 : decode cX9_kindOf 5 = .ok (.aload_n 0, 1) := by decide +kernel
theorem dX9_kindOf_6 : decode cX9_kindOf 6 = .ok (.getfield 27, 3) := by decide +kernel
theorem dX9_kindOf_9 : decode cX9_kindOf 9 = .ok (.if_icmp .ge 12, 3) := by decide +kernel
theorem dX9_kindOf_12 : decode cX9_kindOf 12 = .ok (.aload_n 0, 1) := by decide +kernel
theorem dX9_kindOf_13 : decode cX9_kindOf 13 = .ok (.getfield 9, 3) := by decide +kernel
theorem dX9_kindOf_16 : decode cX9_kindOf 16 = .ok (.iload_n 1, 1) := by decide +kernel
theorem dX9_kindOf_17 : decode cX9_kindOf 17 = .ok (.iaload, 1) := by decide +kernel
theorem dX9_kindOf_18 : decode cX9_kindOf 18 = .ok (.goto 4, 3) := by decide +kernel
theorem dX9_kindOf_22 : decode cX9_kindOf 22 = .ok (.ireturn, 1) := by decide +kernel
theorem dX9_numberOf_0 : decode cX9_numberOf 0 = .ok (.iload_n 1, 1) := by decide +kernel
theorem dX9_numberOf_1 : decode cX9_numberOf 1 = .ok (.ifCond .lt 20, 3) := by decide +kernel
theorem dX9_numberOf_4 : decode cX9_numberOf 4 = .ok (.iload_n 1, 1) := by decide +kernel
theorem dX9_numberOf_5 : decode cX9_numberOf 5 = .ok (.aload_n 0, 1) := by decide +kernel
theorem dX9_numberOf_6 : decode cX9_numberOf 6 = .ok (.getfield 27, 3) := by decide +kernel
theorem dX9_numberOf_9 : decode cX9_numberOf 9 = .ok (.if_icmp .ge 12, 3) := by decide +kernel
theorem dX9_numberOf_12 : decode cX9_numberOf 12 = .ok (.aload_n 0, 1) := by decide +kernel
theorem dX9_numberOf_13 : decode cX9_numberOf 13 = .ok (.getfield 15, 3) := by decide +kernel
theorem dX9_numberOf_16 : decode cX9_numberOf 16 = .ok (.iload_n 1, 1) := by decide +kernel
theorem dX9_numberOf_17 : decode cX9_numberOf 17 = .ok (.iaload, 1) := by decide +kernel
theorem dX9_numberOf_18 : decode cX9_numberOf 18 = .ok (.goto 4, 3) := by decide +kernel
theorem dX9_numberOf_22 : decode cX9_numberOf 22 = .ok (.ireturn, 1) := by decide +kernel
theorem dX8_of_0 : decode cX8_of 0 = .ok (.iload_n 0, 1) := by decide +kernel
theorem dX8_of_1 : decode cX8_of 1 = .ok (.i2l, 1) := by decide +kernel
theorem dX8_of_2 : decode cX8_of 2 = .ok (.bipush 48, 2) := by decide +kernel
theorem dX8_of_4 : decode cX8_of 4 = .ok (.lshl, 1) := by decide +kernel
theorem dX8_of_5 : decode cX8_of 5 = .ok (.iload_n 1, 1) := by decide +kernel
theorem dX8_of_6 : decode cX8_of 6 = .ok (.i2l, 1) := by decide +kernel
theorem dX8_of_7 : decode cX8_of 7 = .ok (.ldc2_w 9, 3) := by decide +kernel
theorem dX8_of_10 : decode cX8_of 10 = .ok (.land, 1) := by decide +kernel
theorem dX8_of_11 : decode cX8_of 11 = .ok (.lor, 1) := by decide +kernel
theorem dX8_of_12 : decode cX8_of 12 = .ok (.lreturn, 1) := by decide +kernel
theorem dX1_goToThing_0 : decode cX1_goToThing 0 = .ok (.aload_n 0, 1) := by decide +kernel
theorem dX1_goToThing_1 : decode cX1_goToThing 1 = .ok (.lload_n 1, 1) := by decide +kernel
theorem dX1_goToThing_2 : decode cX1_goToThing 2 = .ok (.putfield 94, 3) := by decide +kernel
theorem dX1_goToThing_5 : decode cX1_goToThing 5 = .ok (.aload_n 0, 1) := by decide +kernel
theorem dX1_goToThing_6 : decode cX1_goToThing 6 = .ok (.iconst 1, 1) := by decide +kernel
theorem dX1_goToThing_7 : decode cX1_goToThing 7 = .ok (.putfield 39, 3) := by decide +kernel
theorem dX1_goToThing_10 : decode cX1_goToThing 10 = .ok (.return_, 1) := by decide +kernel
theorem dX1_lookAt_0 : decode cX1_lookAt 0 = .ok (.lload_n 1, 1) := by decide +kernel
theorem dX1_lookAt_1 : decode cX1_lookAt 1 = .ok (.invokestatic 189, 3) := by decide +kernel
theorem dX1_lookAt_4 : decode cX1_lookAt 4 = .ok (.lookupswitch 50 #[(4, 28), (5, 39)], 28) := by decide +kernel
theorem dX1_lookAt_43 : decode cX1_lookAt 43 = .ok (.aload_n 0, 1) := by decide +kernel
theorem dX1_lookAt_44 : decode cX1_lookAt 44 = .ok (.lload_n 1, 1) := by decide +kernel
theorem dX1_lookAt_45 : decode cX1_lookAt 45 = .ok (.invokestatic 193, 3) := by decide +kernel
theorem dX1_lookAt_48 : decode cX1_lookAt 48 = .ok (.invokevirtual 199, 3) := by decide +kernel
theorem dX1_lookAt_51 : decode cX1_lookAt 51 = .ok (.goto 8, 3) := by decide +kernel
theorem dX1_lookAt_59 : decode cX1_lookAt 59 = .ok (.return_, 1) := by decide +kernel
theorem dX8_sort_0 : decode cX8_sort 0 = .ok (.lload_n 0, 1) := by decide +kernel
theorem dX8_sort_1 : decode cX8_sort 1 = .ok (.bipush 48, 2) := by decide +kernel
theorem dX8_sort_3 : decode cX8_sort 3 = .ok (.lshr, 1) := by decide +kernel
theorem dX8_sort_4 : decode cX8_sort 4 = .ok (.l2i, 1) := by decide +kernel
theorem dX8_sort_5 : decode cX8_sort 5 = .ok (.ireturn, 1) := by decide +kernel
theorem dX8_low_0 : decode cX8_low 0 = .ok (.lload_n 0, 1) := by decide +kernel
theorem dX8_low_1 : decode cX8_low 1 = .ok (.l2i, 1) := by decide +kernel
theorem dX8_low_2 : decode cX8_low 2 = .ok (.ireturn, 1) := by decide +kernel
theorem dX1_lookAtOwn_0 : decode cX1_lookAtOwn 0 = .ok (.aload_n 0, 1) := by decide +kernel
theorem dX1_lookAtOwn_1 : decode cX1_lookAtOwn 1 = .ok (.getfield 35, 3) := by decide +kernel
theorem dX1_lookAtOwn_4 : decode cX1_lookAtOwn 4 = .ok (.iload_n 1, 1) := by decide +kernel
theorem dX1_lookAtOwn_5 : decode cX1_lookAtOwn 5 = .ok (.invokevirtual 222, 3) := by decide +kernel
theorem dX1_lookAtOwn_8 : decode cX1_lookAtOwn 8 = .ok (.istore_n 2, 1) := by decide +kernel
theorem dX1_lookAtOwn_9 : decode cX1_lookAtOwn 9 = .ok (.aload_n 0, 1) := by decide +kernel
theorem dX1_lookAtOwn_10 : decode cX1_lookAtOwn 10 = .ok (.getfield 58, 3) := by decide +kernel
theorem dX1_lookAtOwn_13 : decode cX1_lookAtOwn 13 = .ok (.ifCond .eq 14, 3) := by decide +kernel
theorem dX1_lookAtOwn_16 : decode cX1_lookAtOwn 16 = .ok (.aload_n 0, 1) := by decide +kernel
theorem dX1_lookAtOwn_17 : decode cX1_lookAtOwn 17 = .ok (.getfield 35, 3) := by decide +kernel
theorem dX1_lookAtOwn_20 : decode cX1_lookAtOwn 20 = .ok (.iload_n 1, 1) := by decide +kernel
theorem dX1_lookAtOwn_21 : decode cX1_lookAtOwn 21 = .ok (.invokevirtual 225, 3) := by decide +kernel
theorem dX1_lookAtOwn_24 : decode cX1_lookAtOwn 24 = .ok (.goto 4, 3) := by decide +kernel
theorem dX1_lookAtOwn_28 : decode cX1_lookAtOwn 28 = .ok (.istore_n 3, 1) := by decide +kernel
theorem dX1_lookAtOwn_29 : decode cX1_lookAtOwn 29 = .ok (.aload_n 0, 1) := by decide +kernel
theorem dX1_lookAtOwn_30 : decode cX1_lookAtOwn 30 = .ok (.getfield 35, 3) := by decide +kernel
theorem dX1_lookAtOwn_33 : decode cX1_lookAtOwn 33 = .ok (.iload_n 1, 1) := by decide +kernel
theorem dX1_lookAtOwn_34 : decode cX1_lookAtOwn 34 = .ok (.invokevirtual 226, 3) := by decide +kernel
theorem dX1_lookAtOwn_37 : decode cX1_lookAtOwn 37 = .ok (.ifCond .ne 11, 3) := by decide +kernel
theorem dX1_lookAtOwn_40 : decode cX1_lookAtOwn 40 = .ok (.aload_n 0, 1) := by decide +kernel
theorem dX1_lookAtOwn_41 : decode cX1_lookAtOwn 41 = .ok (.iconst 5, 1) := by decide +kernel
theorem dX1_lookAtOwn_42 : decode cX1_lookAtOwn 42 = .ok (.invokevirtual 119, 3) := by decide +kernel
theorem dX1_lookAtOwn_45 : decode cX1_lookAtOwn 45 = .ok (.goto 112, 3) := by decide +kernel
theorem dX1_lookAtOwn_157 : decode cX1_lookAtOwn 157 = .ok (.return_, 1) := by decide +kernel
theorem dX5_rootOf_0 : decode cX5_rootOf 0 = .ok (.iload_n 1, 1) := by decide +kernel
theorem dX5_rootOf_1 : decode cX5_rootOf 1 = .ok (.bipush 80, 2) := by decide +kernel
theorem dX5_rootOf_3 : decode cX5_rootOf 3 = .ok (.imul, 1) := by decide +kernel
theorem dX5_rootOf_4 : decode cX5_rootOf 4 = .ok (.ireturn, 1) := by decide +kernel
theorem dX5_stateOf_0 : decode cX5_stateOf 0 = .ok (.iload_n 1, 1) := by decide +kernel
theorem dX5_stateOf_1 : decode cX5_stateOf 1 = .ok (.ifCond .lt 18, 3) := by decide +kernel
theorem dX5_stateOf_4 : decode cX5_stateOf 4 = .ok (.iload_n 1, 1) := by decide +kernel
theorem dX5_stateOf_5 : decode cX5_stateOf 5 = .ok (.bipush 8, 2) := by decide +kernel
theorem dX5_stateOf_7 : decode cX5_stateOf 7 = .ok (.if_icmp .ge 12, 3) := by decide +kernel
theorem dX5_stateOf_10 : decode cX5_stateOf 10 = .ok (.aload_n 0, 1) := by decide +kernel
theorem dX5_stateOf_11 : decode cX5_stateOf 11 = .ok (.getfield 28, 3) := by decide +kernel
theorem dX5_stateOf_14 : decode cX5_stateOf 14 = .ok (.iload_n 1, 1) := by decide +kernel
theorem dX5_stateOf_15 : decode cX5_stateOf 15 = .ok (.iaload, 1) := by decide +kernel
theorem dX5_stateOf_16 : decode cX5_stateOf 16 = .ok (.goto 4, 3) := by decide +kernel
theorem dX5_stateOf_20 : decode cX5_stateOf 20 = .ok (.ireturn, 1) := by decide +kernel
theorem dX12_findsCell_0 : decode cX12_findsCell 0 = .ok (.aload_n 0, 1) := by decide +kernel
theorem dX12_findsCell_1 : decode cX12_findsCell 1 = .ok (.iload_n 1, 1) := by decide +kernel
theorem dX12_findsCell_2 : decode cX12_findsCell 2 = .ok (.invokevirtual 428, 3) := by decide +kernel
theorem dX12_findsCell_5 : decode cX12_findsCell 5 = .ok (.iload_n 1, 1) := by decide +kernel
theorem dX12_findsCell_6 : decode cX12_findsCell 6 = .ok (.bipush 16, 2) := by decide +kernel
theorem dX12_findsCell_8 : decode cX12_findsCell 8 = .ok (.if_icmp .ge 7, 3) := by decide +kernel
theorem dX12_findsCell_11 : decode cX12_findsCell 11 = .ok (.iconst 1, 1) := by decide +kernel
theorem dX12_findsCell_12 : decode cX12_findsCell 12 = .ok (.goto 4, 3) := by decide +kernel
theorem dX12_findsCell_16 : decode cX12_findsCell 16 = .ok (.istore_n 2, 1) := by decide +kernel
theorem dX12_findsCell_17 : decode cX12_findsCell 17 = .ok (.iload_n 2, 1) := by decide +kernel
theorem dX12_findsCell_18 : decode cX12_findsCell 18 = .ok (.ifCond .eq 31, 3) := by decide +kernel
theorem dX12_findsCell_21 : decode cX12_findsCell 21 = .ok (.aload_n 0, 1) := by decide +kernel
theorem dX12_findsCell_22 : decode cX12_findsCell 22 = .ok (.getfield 49, 3) := by decide +kernel
theorem dX12_findsCell_25 : decode cX12_findsCell 25 = .ok (.iload_n 1, 1) := by decide +kernel
theorem dX12_findsCell_26 : decode cX12_findsCell 26 = .ok (.iaload, 1) := by decide +kernel
theorem dX12_findsCell_27 : decode cX12_findsCell 27 = .ok (.ifCond .le 22, 3) := by decide +kernel
theorem dX12_findsCell_49 : decode cX12_findsCell 49 = .ok (.iconst 0, 1) := by decide +kernel
theorem dX12_findsCell_50 : decode cX12_findsCell 50 = .ok (.istore_n 3, 1) := by decide +kernel
theorem dX12_findsCell_51 : decode cX12_findsCell 51 = .ok (.aload_n 0, 1) := by decide +kernel
theorem dX12_findsCell_52 : decode cX12_findsCell 52 = .ok (.getfield 91, 3) := by decide +kernel
theorem dX12_findsCell_55 : decode cX12_findsCell 55 = .ok (.iload_n 1, 1) := by decide +kernel
theorem dX12_findsCell_56 : decode cX12_findsCell 56 = .ok (.iaload, 1) := by decide +kernel
theorem dX12_findsCell_57 : decode cX12_findsCell 57 = .ok (.iconst 2, 1) := by decide +kernel
theorem dX12_findsCell_58 : decode cX12_findsCell 58 = .ok (.if_icmp .ne 43, 3) := by decide +kernel
theorem dX12_findsCell_101 : decode cX12_findsCell 101 = .ok (.aload_n 0, 1) := by decide +kernel
theorem dX12_findsCell_102 : decode cX12_findsCell 102 = .ok (.getfield 91, 3) := by decide +kernel
theorem dX12_findsCell_105 : decode cX12_findsCell 105 = .ok (.iload_n 1, 1) := by decide +kernel
theorem dX12_findsCell_106 : decode cX12_findsCell 106 = .ok (.iaload, 1) := by decide +kernel
theorem dX12_findsCell_107 : decode cX12_findsCell 107 = .ok (.iconst 1, 1) := by decide +kernel
theorem dX12_findsCell_108 : decode cX12_findsCell 108 = .ok (.if_icmp .ne 11, 3) := by decide +kernel
theorem dX12_findsCell_119 : decode cX12_findsCell 119 = .ok (.iload_n 2, 1) := by decide +kernel
theorem dX12_findsCell_120 : decode cX12_findsCell 120 = .ok (.ifCond .eq 20, 3) := by decide +kernel
theorem dX12_findsCell_123 : decode cX12_findsCell 123 = .ok (.aload_n 0, 1) := by decide +kernel
theorem dX12_findsCell_124 : decode cX12_findsCell 124 = .ok (.getfield 49, 3) := by decide +kernel
theorem dX12_findsCell_127 : decode cX12_findsCell 127 = .ok (.iload_n 1, 1) := by decide +kernel
theorem dX12_findsCell_128 : decode cX12_findsCell 128 = .ok (.iaload, 1) := by decide +kernel
theorem dX12_findsCell_129 : decode cX12_findsCell 129 = .ok (.ifCond .ne 11, 3) := by decide +kernel
theorem dX12_findsCell_132 : decode cX12_findsCell 132 = .ok (.aload_n 0, 1) := by decide +kernel
theorem dX12_findsCell_133 : decode cX12_findsCell 133 = .ok (.iconst 5, 1) := by decide +kernel
theorem dX12_findsCell_134 : decode cX12_findsCell 134 = .ok (.invokevirtual 434, 3) := by decide +kernel
theorem dX12_findsCell_137 : decode cX12_findsCell 137 = .ok (.goto 73, 3) := by decide +kernel
theorem dX12_findsCell_210 : decode cX12_findsCell 210 = .ok (.return_, 1) := by decide +kernel
theorem dX12_settles_0 : decode cX12_settles 0 = .ok (.iload_n 1, 1) := by decide +kernel
theorem dX12_settles_1 : decode cX12_settles 1 = .ok (.bipush 16, 2) := by decide +kernel
theorem dX12_settles_3 : decode cX12_settles 3 = .ok (.if_icmp .ge 51, 3) := by decide +kernel
theorem dX12_settles_6 : decode cX12_settles 6 = .ok (.aload_n 0, 1) := by decide +kernel
theorem dX12_settles_7 : decode cX12_settles 7 = .ok (.getfield 91, 3) := by decide +kernel
theorem dX12_settles_10 : decode cX12_settles 10 = .ok (.iload_n 1, 1) := by decide +kernel
theorem dX12_settles_11 : decode cX12_settles 11 = .ok (.iaload, 1) := by decide +kernel
theorem dX12_settles_12 : decode cX12_settles 12 = .ok (.ifCond .ne 42, 3) := by decide +kernel
theorem dX12_settles_15 : decode cX12_settles 15 = .ok (.aload_n 0, 1) := by decide +kernel
theorem dX12_settles_16 : decode cX12_settles 16 = .ok (.getfield 49, 3) := by decide +kernel
theorem dX12_settles_19 : decode cX12_settles 19 = .ok (.iload_n 1, 1) := by decide +kernel
theorem dX12_settles_20 : decode cX12_settles 20 = .ok (.iaload, 1) := by decide +kernel
theorem dX12_settles_21 : decode cX12_settles 21 = .ok (.ifCond .le 33, 3) := by decide +kernel
theorem dX12_settles_54 : decode cX12_settles 54 = .ok (.return_, 1) := by decide +kernel
theorem dX2_push_0 : decode cX2_push 0 = .ok (.aload_n 0, 1) := by decide +kernel
theorem dX2_push_1 : decode cX2_push 1 = .ok (.getfield 27, 3) := by decide +kernel
theorem dX2_push_4 : decode cX2_push 4 = .ok (.sipush 608, 3) := by decide +kernel
theorem dX2_push_7 : decode cX2_push 7 = .ok (.if_icmp .ge 65, 3) := by decide +kernel
theorem dX2_push_10 : decode cX2_push 10 = .ok (.aload_n 0, 1) := by decide +kernel
theorem dX2_push_11 : decode cX2_push 11 = .ok (.getfield 11, 3) := by decide +kernel
theorem dX2_push_14 : decode cX2_push 14 = .ok (.aload_n 0, 1) := by decide +kernel
theorem dX2_push_15 : decode cX2_push 15 = .ok (.getfield 27, 3) := by decide +kernel
theorem dX2_push_18 : decode cX2_push 18 = .ok (.iload_n 1, 1) := by decide +kernel
theorem dX2_push_19 : decode cX2_push 19 = .ok (.iastore, 1) := by decide +kernel
theorem dX2_push_20 : decode cX2_push 20 = .ok (.aload_n 0, 1) := by decide +kernel
theorem dX2_push_21 : decode cX2_push 21 = .ok (.getfield 15, 3) := by decide +kernel
theorem dX2_push_24 : decode cX2_push 24 = .ok (.aload_n 0, 1) := by decide +kernel
theorem dX2_push_25 : decode cX2_push 25 = .ok (.getfield 27, 3) := by decide +kernel
theorem dX2_push_28 : decode cX2_push 28 = .ok (.iload_n 2, 1) := by decide +kernel
theorem dX2_push_29 : decode cX2_push 29 = .ok (.iastore, 1) := by decide +kernel
theorem dX2_push_30 : decode cX2_push 30 = .ok (.aload_n 0, 1) := by decide +kernel
theorem dX2_push_31 : decode cX2_push 31 = .ok (.getfield 18, 3) := by decide +kernel
theorem dX2_push_34 : decode cX2_push 34 = .ok (.aload_n 0, 1) := by decide +kernel
theorem dX2_push_35 : decode cX2_push 35 = .ok (.getfield 27, 3) := by decide +kernel
theorem dX2_push_38 : decode cX2_push 38 = .ok (.iload_n 3, 1) := by decide +kernel
theorem dX2_push_39 : decode cX2_push 39 = .ok (.iastore, 1) := by decide +kernel
theorem dX2_push_40 : decode cX2_push 40 = .ok (.aload_n 0, 1) := by decide +kernel
theorem dX2_push_41 : decode cX2_push 41 = .ok (.getfield 21, 3) := by decide +kernel
theorem dX2_push_44 : decode cX2_push 44 = .ok (.aload_n 0, 1) := by decide +kernel
theorem dX2_push_45 : decode cX2_push 45 = .ok (.getfield 27, 3) := by decide +kernel
theorem dX2_push_48 : decode cX2_push 48 = .ok (.iload 4, 2) := by decide +kernel
theorem dX2_push_50 : decode cX2_push 50 = .ok (.iastore, 1) := by decide +kernel
theorem dX2_push_51 : decode cX2_push 51 = .ok (.aload_n 0, 1) := by decide +kernel
theorem dX2_push_52 : decode cX2_push 52 = .ok (.getfield 24, 3) := by decide +kernel
theorem dX2_push_55 : decode cX2_push 55 = .ok (.aload_n 0, 1) := by decide +kernel
theorem dX2_push_56 : decode cX2_push 56 = .ok (.getfield 27, 3) := by decide +kernel
theorem dX2_push_59 : decode cX2_push 59 = .ok (.iload 5, 2) := by decide +kernel
theorem dX2_push_61 : decode cX2_push 61 = .ok (.iastore, 1) := by decide +kernel
theorem dX2_push_62 : decode cX2_push 62 = .ok (.aload_n 0, 1) := by decide +kernel
theorem dX2_push_63 : decode cX2_push 63 = .ok (.dup, 1) := by decide +kernel
theorem dX2_push_64 : decode cX2_push 64 = .ok (.getfield 27, 3) := by decide +kernel
theorem dX2_push_67 : decode cX2_push 67 = .ok (.iconst 1, 1) := by decide +kernel
theorem dX2_push_68 : decode cX2_push 68 = .ok (.iadd, 1) := by decide +kernel
theorem dX2_push_69 : decode cX2_push 69 = .ok (.putfield 27, 3) := by decide +kernel
theorem dX2_push_72 : decode cX2_push 72 = .ok (.return_, 1) := by decide +kernel
theorem dX1_uncolour_0 : decode cX1_uncolour 0 = .ok (.aload_n 0, 1) := by decide +kernel
theorem dX1_uncolour_1 : decode cX1_uncolour 1 = .ok (.getfield 23, 3) := by decide +kernel
theorem dX1_uncolour_4 : decode cX1_uncolour 4 = .ok (.invokevirtual 260, 3) := by decide +kernel
theorem dX1_uncolour_7 : decode cX1_uncolour 7 = .ok (.bipush 16, 2) := by decide +kernel
theorem dX1_uncolour_9 : decode cX1_uncolour 9 = .ok (.if_icmp .ne 21, 3) := by decide +kernel
theorem dX1_uncolour_30 : decode cX1_uncolour 30 = .ok (.aload_n 0, 1) := by decide +kernel
theorem dX1_uncolour_31 : decode cX1_uncolour 31 = .ok (.getfield 23, 3) := by decide +kernel
theorem dX1_uncolour_34 : decode cX1_uncolour 34 = .ok (.invokevirtual 260, 3) := by decide +kernel
theorem dX1_uncolour_37 : decode cX1_uncolour 37 = .ok (.bipush 17, 2) := by decide +kernel
theorem dX1_uncolour_39 : decode cX1_uncolour 39 = .ok (.if_icmp .ne 19, 3) := by decide +kernel
theorem dX1_uncolour_58 : decode cX1_uncolour 58 = .ok (.return_, 1) := by decide +kernel
theorem dX2_what_0 : decode cX2_what 0 = .ok (.aload_n 0, 1) := by decide +kernel
theorem dX2_what_1 : decode cX2_what 1 = .ok (.getfield 27, 3) := by decide +kernel
theorem dX2_what_4 : decode cX2_what 4 = .ok (.sipush 608, 3) := by decide +kernel
theorem dX2_what_7 : decode cX2_what 7 = .ok (.if_icmp .ge 15, 3) := by decide +kernel
theorem dX2_what_10 : decode cX2_what 10 = .ok (.aload_n 0, 1) := by decide +kernel
theorem dX2_what_11 : decode cX2_what 11 = .ok (.getfield 11, 3) := by decide +kernel
theorem dX2_what_14 : decode cX2_what 14 = .ok (.aload_n 0, 1) := by decide +kernel
theorem dX2_what_15 : decode cX2_what 15 = .ok (.getfield 27, 3) := by decide +kernel
theorem dX2_what_18 : decode cX2_what 18 = .ok (.iaload, 1) := by decide +kernel
theorem dX2_what_19 : decode cX2_what 19 = .ok (.goto 4, 3) := by decide +kernel
theorem dX2_what_23 : decode cX2_what 23 = .ok (.ireturn, 1) := by decide +kernel
theorem dX12_waits_0 : decode cX12_waits 0 = .ok (.aload_n 0, 1) := by decide +kernel
theorem dX12_waits_1 : decode cX12_waits 1 = .ok (.getfield 151, 3) := by decide +kernel
theorem dX12_waits_4 : decode cX12_waits 4 = .ok (.aload_n 0, 1) := by decide +kernel
theorem dX12_waits_5 : decode cX12_waits 5 = .ok (.getfield 398, 3) := by decide +kernel
theorem dX12_waits_8 : decode cX12_waits 8 = .ok (.iload_n 1, 1) := by decide +kernel
theorem dX12_waits_9 : decode cX12_waits 9 = .ok (.iastore, 1) := by decide +kernel
theorem dX12_waits_10 : decode cX12_waits 10 = .ok (.aload_n 0, 1) := by decide +kernel
theorem dX12_waits_11 : decode cX12_waits 11 = .ok (.getfield 154, 3) := by decide +kernel
theorem dX12_waits_14 : decode cX12_waits 14 = .ok (.aload_n 0, 1) := by decide +kernel
theorem dX12_waits_15 : decode cX12_waits 15 = .ok (.getfield 398, 3) := by decide +kernel
theorem dX12_waits_18 : decode cX12_waits 18 = .ok (.iload_n 2, 1) := by decide +kernel
theorem dX12_waits_19 : decode cX12_waits 19 = .ok (.iastore, 1) := by decide +kernel
theorem dX12_waits_20 : decode cX12_waits 20 = .ok (.aload_n 0, 1) := by decide +kernel
theorem dX12_waits_21 : decode cX12_waits 21 = .ok (.getfield 157, 3) := by decide +kernel
theorem dX12_waits_24 : decode cX12_waits 24 = .ok (.aload_n 0, 1) := by decide +kernel
theorem dX12_waits_25 : decode cX12_waits 25 = .ok (.getfield 398, 3) := by decide +kernel
theorem dX12_waits_28 : decode cX12_waits 28 = .ok (.aload_n 0, 1) := by decide +kernel
theorem dX12_waits_29 : decode cX12_waits 29 = .ok (.getfield 416, 3) := by decide +kernel
theorem dX12_waits_32 : decode cX12_waits 32 = .ok (.iastore, 1) := by decide +kernel
theorem dX12_waits_33 : decode cX12_waits 33 = .ok (.aload_n 0, 1) := by decide +kernel
theorem dX12_waits_34 : decode cX12_waits 34 = .ok (.getfield 160, 3) := by decide +kernel
theorem dX12_waits_37 : decode cX12_waits 37 = .ok (.aload_n 0, 1) := by decide +kernel
theorem dX12_waits_38 : decode cX12_waits 38 = .ok (.getfield 398, 3) := by decide +kernel
theorem dX12_waits_41 : decode cX12_waits 41 = .ok (.aload_n 0, 1) := by decide +kernel
theorem dX12_waits_42 : decode cX12_waits 42 = .ok (.getfield 419, 3) := by decide +kernel
theorem dX12_waits_45 : decode cX12_waits 45 = .ok (.iastore, 1) := by decide +kernel
theorem dX12_waits_46 : decode cX12_waits 46 = .ok (.aload_n 0, 1) := by decide +kernel
theorem dX12_waits_47 : decode cX12_waits 47 = .ok (.dup, 1) := by decide +kernel
theorem dX12_waits_48 : decode cX12_waits 48 = .ok (.getfield 398, 3) := by decide +kernel
theorem dX12_waits_51 : decode cX12_waits 51 = .ok (.iconst 1, 1) := by decide +kernel
theorem dX12_waits_52 : decode cX12_waits 52 = .ok (.iadd, 1) := by decide +kernel
theorem dX12_waits_53 : decode cX12_waits 53 = .ok (.putfield 398, 3) := by decide +kernel
theorem dX12_waits_56 : decode cX12_waits 56 = .ok (.return_, 1) := by decide +kernel
set_option maxRecDepth 20000 in
theorem kV_RL_73 : GoodIn WG (wsV RL 73 RX11 yX11_run (Cond.code yX11_run cX11_run 9 (some .int) :: WG)) := zGV mt898 mt899 mt900 mt1 mt901
set_option maxRecDepth 20000 in
theorem kS_RL_166 : GoodIn WG (va_wsS RL 166 yL_run (Cond.codeWith yL_run cL_run 9 (some .int) [(0, 18, 21, 18), (0, 18, 25, 13)] :: WG)) := zGS mt895 mt896 mt0 mt897
set_option maxRecDepth 20000 in
theorem kV_RX12_492 : GoodIn WG (wsV RX12 492 RX12 yX12_mayRun (Cond.code yX12_mayRun cX12_mayRun 5 (some .boolean) :: WG)) := zGV mt1802 mt1804 ms109 mt10 mt1805
set_option maxRecDepth 20000 in
theorem kV_RL_169 : GoodIn WG (wsV RL 169 RX12 yX12_run (Cond.code yX12_run cX12_run 7 (some .int) :: WG)) := zGV mt1798 mt1799 mt1800 mt10 mt1801
set_option maxRecDepth 20000 in
theorem kV_RX11_130 : GoodIn WG (wsV RX11 130 RX11 yX11_programToRun (Cond.code yX11_programToRun cX11_programToRun 4 (some (.object "LazyLoom$Program")) :: WG)) := zGV mt902 mt904 ms32 mt1 mt905
set_option maxRecDepth 20000 in
theorem kV_RX11_157 : GoodIn WG (wsV RX11 157 RX11 yX11_programOf (Cond.code yX11_programOf cX11_programOf 2 (some (.object "LazyLoom$Program")) :: WG)) := zGV mt906 mt908 ms33 mt1 mt909
set_option maxRecDepth 20000 in
theorem kV_RX5_81 : GoodIn WG (wsV RX5 81 RX9 yX9_set (Cond.code yX9_set cX9_set 6 none :: WG)) := zGV mt915 mt357 mt358 mt2 mt359
set_option maxRecDepth 20000 in
theorem kV_RX5_85 : GoodIn WG (wsV RX5 85 RX9 yX9_join (Cond.code yX9_join cX9_join 5 none :: WG)) := zGV mt916 mt473 mt474 mt2 mt475
set_option maxRecDepth 20000 in
theorem kV_RX11_134 : GoodIn WG (wsV RX11 134 RX5 yX5_call (Cond.code yX5_call cX5_call 5 (some .int) :: WG)) := zGV mt911 mt912 mt913 mt3 mt914
set_option maxRecDepth 20000 in
theorem kV_RX3_38 : GoodIn WG (wsV RX3 38 RX5 yX5_hasFound (Cond.code yX5_hasFound cX5_hasFound 2 (some .boolean) :: WG)) := zGV mt925 mt926 mt927 mt3 mt928
set_option maxRecDepth 20000 in
theorem kV_RX3_44 : GoodIn WG (wsV RX3 44 RX3 yX3_makeRow (Cond.code yX3_makeRow cX3_makeRow 1 none :: WG)) := zGV mt929 mt931 ms34 mt8 mt932
set_option maxRecDepth 20000 in
theorem kV_RX1_46 : GoodIn WG (wsV RX1 46 RX3 yX3_prepare (Cond.code yX3_prepare cX3_prepare 1 none :: WG)) := zGV mt921 mt922 mt923 mt8 mt924
set_option maxRecDepth 20000 in
theorem kV_RX1_49 : GoodIn WG (wsV RX1 49 RX2 yX2_clear (Cond.code yX2_clear cX2_clear 1 none :: WG)) := zGV mt952 mt953 mt954 mt9 mt955
set_option maxRecDepth 20000 in
theorem kS_RX1_52 : GoodIn WG (va_wsS RX1 52 yJ7_fill_53178 (Cond.code yJ7_fill_53178 cJ7_fill_53178 4 none :: WG)) := zGS mt956 mt373 mt19 mt374
set_option maxRecDepth 20000 in
theorem kV_RX1_86 : GoodIn WG (wsV RX1 86 RX1 yX1_goTo (Cond.code yX1_goTo cX1_goTo 2 none :: WG)) := zGV mt957 mt959 ms35 mt7 mt960
set_option maxRecDepth 20000 in
theorem kV_RX1_119 : GoodIn WG (wsV RX1 119 RX1 yX1_stop (Cond.code yX1_stop cX1_stop 2 none :: WG)) := zGV mt966 mt968 ms37 mt7 mt969
set_option maxRecDepth 20000 in
theorem kV_RX1_91 : GoodIn WG (wsV RX1 91 RX1 yX1_step (Cond.code yX1_step cX1_step 2 none :: WG)) := zGV mt962 mt964 ms36 mt7 mt965
set_option maxRecDepth 20000 in
theorem kV_RX1_244 : GoodIn WG (wsV RX1 244 RX2 yX2_pop (Cond.code yX2_pop cX2_pop 1 (some .boolean) :: WG)) := zGV mt1136 mt1137 mt1138 mt9 mt1139
set_option maxRecDepth 20000 in
theorem kV_RX1_108 : GoodIn WG (wsV RX1 108 RX1 yX1_leave (Cond.code yX1_leave cX1_leave 1 none :: WG)) := zGV mt1207 mt1209 ms64 mt7 mt1210
set_option maxRecDepth 20000 in
theorem kV_RX1_111 : GoodIn WG (wsV RX1 111 RX1 yX1_rest (Cond.code yX1_rest cX1_rest 4 none :: WG)) := zGV mt1211 mt1213 ms65 mt7 mt1214
set_option maxRecDepth 20000 in
theorem kV_RX11_138 : GoodIn WG (wsV RX11 138 RX1 yX1_find (Cond.code yX1_find cX1_find 6 (some .int) :: WG)) := zGV mt917 mt918 mt919 mt7 mt920
set_option maxRecDepth 20000 in
theorem kV_RX12_482 : GoodIn WG (wsV RX12 482 RX12 yX12_laysRun (Cond.code yX12_laysRun cX12_laysRun 7 none :: WG)) := zGV mt1810 mt1812 ms111 mt10 mt1813
set_option maxRecDepth 20000 in
theorem kV_RX12_404 : GoodIn WG (wsV RX12 404 RX12 yX12_goesOn (Cond.code yX12_goesOn cX12_goesOn 4 none :: WG)) := zGV mt1814 mt1816 ms112 mt10 mt1817
set_option maxRecDepth 20000 in
theorem kV_RX12_434 : GoodIn WG (wsV RX12 434 RX12 yX12_stops (Cond.code yX12_stops cX12_stops 2 none :: WG)) := zGV mt1826 mt1828 ms115 mt10 mt1829
set_option maxRecDepth 20000 in
theorem kV_RX12_476 : GoodIn WG (wsV RX12 476 RX12 yX12_steps (Cond.code yX12_steps cX12_steps 1 none :: WG)) := zGV mt1874 mt1876 ms127 mt10 mt1877
set_option maxRecDepth 20000 in
theorem kV_RX12_479 : GoodIn WG (wsV RX12 479 RX12 yX12_finds (Cond.code yX12_finds cX12_finds 1 none :: WG)) := zGV mt1818 mt1820 ms113 mt10 mt1821
set_option maxRecDepth 20000 in
theorem kV_RX12_507 : GoodIn WG (wsV RX12 507 RX12 yX12_reaches (Cond.code yX12_reaches cX12_reaches 2 none :: WG)) := zGV mt1907 mt1909 ms135 mt10 mt1910
set_option maxRecDepth 20000 in
theorem kV_RX12_513 : GoodIn WG (wsV RX12 513 RX12 yX12_follows (Cond.code yX12_follows cX12_follows 4 none :: WG)) := zGV mt1911 mt1913 ms136 mt10 mt1914
set_option maxRecDepth 20000 in
theorem kV_RX12_516 : GoodIn WG (wsV RX12 516 RX12 yX12_places (Cond.code yX12_places cX12_places 5 (some .int) :: WG)) := zGV mt1918 mt1920 ms137 mt10 mt1921
set_option maxRecDepth 20000 in
theorem kV_RX12_519 : GoodIn WG (wsV RX12 519 RX12 yX12_movesCells (Cond.code yX12_movesCells cX12_movesCells 4 none :: WG)) := zGV mt1922 mt1924 ms138 mt10 mt1925
set_option maxRecDepth 20000 in
theorem kV_RX12_522 : GoodIn WG (wsV RX12 522 RX12 yX12_movesArounds (Cond.code yX12_movesArounds cX12_movesArounds 3 none :: WG)) := zGV mt1938 mt1940 ms142 mt10 mt1941
set_option maxRecDepth 20000 in
theorem kV_RX12_525 : GoodIn WG (wsV RX12 525 RX12 yX12_movesDatas (Cond.code yX12_movesDatas cX12_movesDatas 5 none :: WG)) := zGV mt1942 mt1944 ms143 mt10 mt1945
set_option maxRecDepth 20000 in
theorem kV_RX12_489 : GoodIn WG (wsV RX12 489 RX12 yX12_sweeps (Cond.code yX12_sweeps cX12_sweeps 4 none :: WG)) := zGV mt1902 mt1904 ms134 mt10 mt1905
set_option maxRecDepth 20000 in
theorem kV_RX12_496 : GoodIn WG (wsV RX12 496 RX12 yX12_begins (Cond.code yX12_begins cX12_begins 7 (some .int) :: WG)) := zGV mt1806 mt1808 ms110 mt10 mt1809
set_option maxRecDepth 20000 in
theorem kV_RX1_126 : GoodIn WG (wsV RX1 126 RX1 yX1_countStep (Cond.code yX1_countStep cX1_countStep 1 none :: WG)) := zGV mt970 mt972 ms38 mt7 mt973
set_option maxRecDepth 20000 in
theorem kV_RX1_135 : GoodIn WG (wsV RX1 135 RX9 yX9_kindOf (Cond.code yX9_kindOf cX9_kindOf 2 (some .int) :: WG)) := zGV mt974 mt482 mt483 mt2 mt484
set_option maxRecDepth 20000 in
theorem kV_RX1_157 : GoodIn WG (wsV RX1 157 RX9 yX9_numberOf (Cond.code yX9_numberOf cX9_numberOf 2 (some .int) :: WG)) := zGV mt979 mt758 mt759 mt2 mt760
set_option maxRecDepth 20000 in
theorem kS_RX1_122 : GoodIn WG (va_wsS RX1 122 yX8_of (Cond.code yX8_of cX8_of 2 (some .long) :: WG)) := zGS mt980 mt981 mt22 mt982
set_option maxRecDepth 20000 in
theorem kV_RX1_154 : GoodIn WG (wsV RX1 154 RX1 yX1_goToThing (Cond.code yX1_goToThing cX1_goToThing 3 none :: WG)) := zGV mt1032 mt1034 ms46 mt7 mt1035
set_option maxRecDepth 20000 in
theorem kS_RX1_189 : GoodIn WG (va_wsS RX1 189 yX8_sort (Cond.code yX8_sort cX8_sort 2 (some .int) :: WG)) := zGS mt1063 mt1054 mt22 mt1055
set_option maxRecDepth 20000 in
theorem kS_RX1_193 : GoodIn WG (va_wsS RX1 193 yX8_low (Cond.code yX8_low cX8_low 2 (some .int) :: WG)) := zGS mt1072 mt1057 mt22 mt1058
set_option maxRecDepth 20000 in
theorem kV_RX1_222 : GoodIn WG (wsV RX1 222 RX5 yX5_rootOf (Cond.code yX5_rootOf cX5_rootOf 2 (some .int) :: WG)) := zGV mt1118 mt341 mt342 mt3 mt343
set_option maxRecDepth 20000 in
theorem kV_RX1_225 : GoodIn WG (wsV RX1 225 RX5 yX5_stateOf (Cond.code yX5_stateOf cX5_stateOf 2 (some .int) :: WG)) := zGV mt1119 mt1120 mt1121 mt3 mt1122
set_option maxRecDepth 20000 in
theorem kV_RX1_226 : GoodIn WG (wsV RX1 226 RX5 yX5_sizeOf (Cond.code yX5_sizeOf cX5_sizeOf 2 (some .int) :: WG)) := zGV mt1123 mt654 mt655 mt3 mt656
set_option maxRecDepth 20000 in
theorem kV_RX1_199 : GoodIn WG (wsV RX1 199 RX1 yX1_lookAtOwn (Cond.code yX1_lookAtOwn cX1_lookAtOwn 4 none :: WG)) := zGV mt1114 mt1116 ms54 mt7 mt1117
set_option maxRecDepth 20000 in
theorem kV_RX1_98 : GoodIn WG (wsV RX1 98 RX1 yX1_lookAt (Cond.code yX1_lookAt cX1_lookAt 3 none :: WG)) := zGV mt1068 mt1070 ms49 mt7 mt1071
set_option maxRecDepth 20000 in
theorem kV_RX12_428 : GoodIn WG (wsV RX12 428 RX12 yX12_settles (Cond.code yX12_settles cX12_settles 3 none :: WG)) := zGV mt1886 mt1888 ms130 mt10 mt1889
set_option maxRecDepth 20000 in
theorem kV_RX12_452 : GoodIn WG (wsV RX12 452 RX12 yX12_findsCell (Cond.code yX12_findsCell cX12_findsCell 4 none :: WG)) := zGV mt1882 mt1884 ms129 mt10 mt1885
set_option maxRecDepth 20000 in
theorem kV_RX1_170 : GoodIn WG (wsV RX1 170 RX2 yX2_push (Cond.code yX2_push cX2_push 6 none :: WG)) := zGV mt1064 mt1065 mt1066 mt9 mt1067
set_option maxRecDepth 20000 in
theorem kV_RX1_166 : GoodIn WG (wsV RX1 166 RX9 yX9_part (Cond.code yX9_part cX9_part 3 (some .int) :: WG)) := zGV mt993 mt365 mt366 mt2 mt367
set_option maxRecDepth 20000 in
theorem kV_RX1_260 : GoodIn WG (wsV RX1 260 RX2 yX2_what (Cond.code yX2_what cX2_what 1 (some .int) :: WG)) := zGV mt1156 mt1157 mt1158 mt9 mt1159
set_option maxRecDepth 20000 in
theorem kV_RX1_304 : GoodIn WG (wsV RX1 304 RX1 yX1_uncolour (Cond.code yX1_uncolour cX1_uncolour 1 none :: WG)) := zGV mt1203 mt1205 ms63 mt7 mt1206
set_option maxRecDepth 20000 in
theorem kV_RX12_437 : GoodIn WG (wsV RX12 437 RX12 yX12_waits (Cond.code yX12_waits cX12_waits 3 none :: WG)) := zGV mt1858 mt1860 ms123 mt10 mt1861
theorem hd_X11_run : z_hd yX11_run RX11 6 := by decide +kernel
theorem hd_L_run : z_hd yL_run RL 8 := by decide +kernel
theorem hd_X12_mayRun : z_hd yX12_mayRun RX12 4 := by decide +kernel
theorem hd_X12_run : z_hd yX12_run RX12 6 := by decide +kernel
theorem hd_X11_programToRun : z_hd yX11_programToRun RX11 3 := by decide +kernel
theorem hd_X11_programOf : z_hd yX11_programOf RX11 1 := by decide +kernel
theorem hd_X5_call : z_hd yX5_call RX5 4 := by decide +kernel
theorem hd_X5_hasFound : z_hd yX5_hasFound RX5 0 := by decide +kernel
theorem hd_X7_init : z_hd yX7_init RX7 0 := by decide +kernel
theorem hd_X3_makeRow : z_hd yX3_makeRow RX3 0 := by decide +kernel
theorem hd_X3_prepare : z_hd yX3_prepare RX3 0 := by decide +kernel
theorem hd_X2_clear : z_hd yX2_clear RX2 0 := by decide +kernel
theorem hd_J7_fill_53178 : z_hd yJ7_fill_53178 "java/util/Arrays" 2 := by decide +kernel
theorem hd_X1_goTo : z_hd yX1_goTo RX1 1 := by decide +kernel
theorem hd_X1_stop : z_hd yX1_stop RX1 1 := by decide +kernel
theorem hd_X1_step : z_hd yX1_step RX1 0 := by decide +kernel
theorem hd_X2_pop : z_hd yX2_pop RX2 0 := by decide +kernel
theorem hd_X1_leave : z_hd yX1_leave RX1 0 := by decide +kernel
theorem hd_X1_rest : z_hd yX1_rest RX1 0 := by decide +kernel
theorem hd_X1_find : z_hd yX1_find RX1 4 := by decide +kernel
theorem hd_X12_laysRun : z_hd yX12_laysRun RX12 4 := by decide +kernel
theorem hd_X12_goesOn : z_hd yX12_goesOn RX12 3 := by decide +kernel
theorem hd_X12_stops : z_hd yX12_stops RX12 1 := by decide +kernel
theorem hd_X12_steps : z_hd yX12_steps RX12 0 := by decide +kernel
theorem hd_X12_finds : z_hd yX12_finds RX12 0 := by decide +kernel
theorem hd_X12_reaches : z_hd yX12_reaches RX12 1 := by decide +kernel
theorem hd_X12_follows : z_hd yX12_follows RX12 1 := by decide +kernel
theorem hd_X12_places : z_hd yX12_places RX12 2 := by decide +kernel
theorem hd_X12_movesCells : z_hd yX12_movesCells RX12 0 := by decide +kernel
theorem hd_X12_movesArounds : z_hd yX12_movesArounds RX12 0 := by decide +kernel
theorem hd_X12_movesDatas : z_hd yX12_movesDatas RX12 0 := by decide +kernel
theorem hd_X12_sweeps : z_hd yX12_sweeps RX12 0 := by decide +kernel
theorem hd_X12_begins : z_hd yX12_begins RX12 5 := by decide +kernel
theorem hd_X1_countStep : z_hd yX1_countStep RX1 0 := by decide +kernel
theorem hd_X9_kindOf : z_hd yX9_kindOf RX9 1 := by decide +kernel
theorem hd_X9_numberOf : z_hd yX9_numberOf RX9 1 := by decide +kernel
theorem hd_X8_of : z_hd yX8_of RX8 2 := by decide +kernel
theorem hd_X1_goToThing : z_hd yX1_goToThing RX1 1 := by decide +kernel
theorem hd_X8_sort : z_hd yX8_sort RX8 1 := by decide +kernel
theorem hd_X8_low : z_hd yX8_low RX8 1 := by decide +kernel
theorem hd_X5_rootOf : z_hd yX5_rootOf RX5 1 := by decide +kernel
theorem hd_X5_stateOf : z_hd yX5_stateOf RX5 1 := by decide +kernel
theorem hd_X1_lookAtOwn : z_hd yX1_lookAtOwn RX1 1 := by decide +kernel
theorem hd_X1_lookAt : z_hd yX1_lookAt RX1 1 := by decide +kernel
theorem hd_X12_settles : z_hd yX12_settles RX12 1 := by decide +kernel
theorem hd_X12_findsCell : z_hd yX12_findsCell RX12 1 := by decide +kernel
theorem hd_X2_push : z_hd yX2_push RX2 5 := by decide +kernel
theorem hd_X2_what : z_hd yX2_what RX2 0 := by decide +kernel
theorem hd_X1_uncolour : z_hd yX1_uncolour RX1 0 := by decide +kernel
theorem hd_X12_waits : z_hd yX12_waits RX12 2 := by decide +kernel
