/-! words and sites of the law's cases [0, 1, 2, 3, 4, 5, 6, 7, 8, 9, 10, 11, 12, 13, 14, 15, 16, 18] (printed by wip/p1/walk.py) -/
theorem mt23 : Cond.classLink RL 8 RX11 ∈ WG := zt (List.mem_of_getElem? (i := 23) (by decide +kernel)) rfl
theorem mt24 : Cond.instantiable RX11 9 ∈ WG := zt (List.mem_of_getElem? (i := 24) (by decide +kernel)) rfl
theorem mt1 : Cond.initialized RX11 ∈ WG := zt (List.mem_of_getElem? (i := 1) (by decide +kernel)) rfl
theorem mt27 : Cond.code yX11_init cX11_init 1 none ∈ WG := zt (List.mem_of_getElem? (i := 27) (by decide +kernel)) rfl
theorem mt25 : Cond.methodLink RL 94 yX11_init ∈ WG := zt (List.mem_of_getElem? (i := 25) (by decide +kernel)) rfl
theorem mt26 : Cond.instanceMethod yX11_init ∈ WG := zt (List.mem_of_getElem? (i := 26) (by decide +kernel)) rfl
theorem mt1270 : Cond.classLink RL 95 RX12 ∈ WG := zt (List.mem_of_getElem? (i := 1270) (by decide +kernel)) rfl
theorem mt1271 : Cond.instantiable RX12 83 ∈ WG := zt (List.mem_of_getElem? (i := 1271) (by decide +kernel)) rfl
theorem mt10 : Cond.initialized RX12 ∈ WG := zt (List.mem_of_getElem? (i := 10) (by decide +kernel)) rfl
theorem mt1274 : Cond.code yX12_init cX12_init 1 none ∈ WG := zt (List.mem_of_getElem? (i := 1274) (by decide +kernel)) rfl
theorem mt1272 : Cond.methodLink RL 97 yX12_init ∈ WG := zt (List.mem_of_getElem? (i := 1272) (by decide +kernel)) rfl
theorem mt1273 : Cond.instanceMethod yX12_init ∈ WG := zt (List.mem_of_getElem? (i := 1273) (by decide +kernel)) rfl
theorem mt402 : Cond.methodLink RX11 198 yX9_reserve ∈ WG := zt (List.mem_of_getElem? (i := 402) (by decide +kernel)) rfl
theorem mt352 : Cond.methodLink RX9 31 yX9_has ∈ WG := zt (List.mem_of_getElem? (i := 352) (by decide +kernel)) rfl
theorem mt353 : Cond.instanceMethod yX9_has ∈ WG := zt (List.mem_of_getElem? (i := 353) (by decide +kernel)) rfl
theorem mt354 : Cond.selects RX9 yX9_has yX9_has ∈ WG := zt (List.mem_of_getElem? (i := 354) (by decide +kernel)) rfl
theorem mt355 : Cond.code yX9_has cX9_has 2 (some .boolean) ∈ WG := zt (List.mem_of_getElem? (i := 355) (by decide +kernel)) rfl
theorem mt471 : Cond.methodLink RX11 203 yX9_set ∈ WG := zt (List.mem_of_getElem? (i := 471) (by decide +kernel)) rfl
theorem mt357 : Cond.instanceMethod yX9_set ∈ WG := zt (List.mem_of_getElem? (i := 357) (by decide +kernel)) rfl
theorem mt358 : Cond.selects RX9 yX9_set yX9_set ∈ WG := zt (List.mem_of_getElem? (i := 358) (by decide +kernel)) rfl
theorem mt359 : Cond.code yX9_set cX9_set 6 none ∈ WG := zt (List.mem_of_getElem? (i := 359) (by decide +kernel)) rfl
theorem mt472 : Cond.methodLink RX11 207 yX9_join ∈ WG := zt (List.mem_of_getElem? (i := 472) (by decide +kernel)) rfl
theorem mt473 : Cond.instanceMethod yX9_join ∈ WG := zt (List.mem_of_getElem? (i := 473) (by decide +kernel)) rfl
theorem mt474 : Cond.selects RX9 yX9_join yX9_join ∈ WG := zt (List.mem_of_getElem? (i := 474) (by decide +kernel)) rfl
theorem mt475 : Cond.code yX9_join cX9_join 5 none ∈ WG := zt (List.mem_of_getElem? (i := 475) (by decide +kernel)) rfl
theorem mt476 : Cond.methodLink RX11 211 yX9_part ∈ WG := zt (List.mem_of_getElem? (i := 476) (by decide +kernel)) rfl
theorem mt365 : Cond.instanceMethod yX9_part ∈ WG := zt (List.mem_of_getElem? (i := 365) (by decide +kernel)) rfl
theorem mt366 : Cond.selects RX9 yX9_part yX9_part ∈ WG := zt (List.mem_of_getElem? (i := 366) (by decide +kernel)) rfl
theorem mt367 : Cond.code yX9_part cX9_part 3 (some .int) ∈ WG := zt (List.mem_of_getElem? (i := 367) (by decide +kernel)) rfl
theorem mt485 : Cond.methodLink RX11 217 Lib.Math.min.name ∈ WG := zt (List.mem_of_getElem? (i := 485) (by decide +kernel)) rfl
theorem mt486 : Cond.static Lib.Math.min.name ∈ WG := zt (List.mem_of_getElem? (i := 486) (by decide +kernel)) rfl
theorem mt15 : Cond.initialized "java/lang/Math" ∈ WG := zt (List.mem_of_getElem? (i := 15) (by decide +kernel)) rfl
theorem mt487 : Cond.code Lib.Math.min.name Lib.Math.min.code 2 (some .int) ∈ WG := zt (List.mem_of_getElem? (i := 487) (by decide +kernel)) rfl
theorem mt398 : Cond.methodLink RX11 68 yX11_tell ∈ WG := zt (List.mem_of_getElem? (i := 398) (by decide +kernel)) rfl
theorem mt400 : Cond.instanceMethod yX11_tell ∈ WG := zt (List.mem_of_getElem? (i := 400) (by decide +kernel)) rfl
theorem ms0 : Cond.selects RX11 yX11_tell yX11_tell ∈ WG := zs (List.mem_of_getElem? (i := 0) (by decide +kernel)) rfl
theorem mt401 : Cond.code yX11_tell cX11_tell 13 (some .int) ∈ WG := zt (List.mem_of_getElem? (i := 401) (by decide +kernel)) rfl
theorem mt394 : Cond.methodLink RL 7 yX11_num ∈ WG := zt (List.mem_of_getElem? (i := 394) (by decide +kernel)) rfl
theorem mt395 : Cond.instanceMethod yX11_num ∈ WG := zt (List.mem_of_getElem? (i := 395) (by decide +kernel)) rfl
theorem mt396 : Cond.selects RX11 yX11_num yX11_num ∈ WG := zt (List.mem_of_getElem? (i := 396) (by decide +kernel)) rfl
theorem mt397 : Cond.code yX11_num cX11_num 2 (some .int) ∈ WG := zt (List.mem_of_getElem? (i := 397) (by decide +kernel)) rfl
theorem mt390 : Cond.methodLink RL 98 yL_num ∈ WG := zt (List.mem_of_getElem? (i := 390) (by decide +kernel)) rfl
theorem mt391 : Cond.static yL_num ∈ WG := zt (List.mem_of_getElem? (i := 391) (by decide +kernel)) rfl
theorem mt0 : Cond.initialized RL ∈ WG := zt (List.mem_of_getElem? (i := 0) (by decide +kernel)) rfl
theorem mt392 : Cond.codeWith yL_num cL_num 4 (some .int) [(0, 9, 12, 13)] ∈ WG := zt (List.mem_of_getElem? (i := 392) (by decide +kernel)) rfl
theorem mt1280 : Cond.fieldLink RX12 179 "LazyLoomModel" "nodes" "I" ∈ WG := zt (List.mem_of_getElem? (i := 1280) (by decide +kernel)) rfl
theorem mt1361 : Cond.fieldLink RX12 172 "LazyLoomModel" "thrown" "I" ∈ WG := zt (List.mem_of_getElem? (i := 1361) (by decide +kernel)) rfl
theorem mt1538 : Cond.methodLink RX12 182 yX12_can ∈ WG := zt (List.mem_of_getElem? (i := 1538) (by decide +kernel)) rfl
theorem mt1540 : Cond.instanceMethod yX12_can ∈ WG := zt (List.mem_of_getElem? (i := 1540) (by decide +kernel)) rfl
theorem ms67 : Cond.selects RX12 yX12_can yX12_can ∈ WG := zs (List.mem_of_getElem? (i := 67) (by decide +kernel)) rfl
theorem mt1541 : Cond.code yX12_can cX12_can 2 (some .boolean) ∈ WG := zt (List.mem_of_getElem? (i := 1541) (by decide +kernel)) rfl
theorem mt1542 : Cond.methodLink RX12 186 yX12_tells ∈ WG := zt (List.mem_of_getElem? (i := 1542) (by decide +kernel)) rfl
theorem mt1544 : Cond.instanceMethod yX12_tells ∈ WG := zt (List.mem_of_getElem? (i := 1544) (by decide +kernel)) rfl
theorem ms68 : Cond.selects RX12 yX12_tells yX12_tells ∈ WG := zs (List.mem_of_getElem? (i := 68) (by decide +kernel)) rfl
theorem mt1545 : Cond.code yX12_tells cX12_tells 11 (some .int) ∈ WG := zt (List.mem_of_getElem? (i := 1545) (by decide +kernel)) rfl
theorem mt1534 : Cond.methodLink RL 103 yX12_num ∈ WG := zt (List.mem_of_getElem? (i := 1534) (by decide +kernel)) rfl
theorem mt1535 : Cond.instanceMethod yX12_num ∈ WG := zt (List.mem_of_getElem? (i := 1535) (by decide +kernel)) rfl
theorem mt1536 : Cond.selects RX12 yX12_num yX12_num ∈ WG := zt (List.mem_of_getElem? (i := 1536) (by decide +kernel)) rfl
theorem mt1537 : Cond.code yX12_num cX12_num 2 (some .int) ∈ WG := zt (List.mem_of_getElem? (i := 1537) (by decide +kernel)) rfl
theorem mt1530 : Cond.methodLink RL 104 yX12_thrown ∈ WG := zt (List.mem_of_getElem? (i := 1530) (by decide +kernel)) rfl
theorem mt1531 : Cond.instanceMethod yX12_thrown ∈ WG := zt (List.mem_of_getElem? (i := 1531) (by decide +kernel)) rfl
theorem mt1532 : Cond.selects RX12 yX12_thrown yX12_thrown ∈ WG := zt (List.mem_of_getElem? (i := 1532) (by decide +kernel)) rfl
theorem mt1533 : Cond.code yX12_thrown cX12_thrown 1 (some .int) ∈ WG := zt (List.mem_of_getElem? (i := 1533) (by decide +kernel)) rfl
theorem mt500 : Cond.classLink RX11 82 "java/lang/IllegalArgumentException" ∈ WG := zt (List.mem_of_getElem? (i := 500) (by decide +kernel)) rfl
theorem mt16 : Cond.initialized "java/lang/IllegalArgumentException" ∈ WG := zt (List.mem_of_getElem? (i := 16) (by decide +kernel)) rfl
theorem mt496 : Cond.methodLink RX11 72 yX11_checkRange ∈ WG := zt (List.mem_of_getElem? (i := 496) (by decide +kernel)) rfl
theorem mt498 : Cond.instanceMethod yX11_checkRange ∈ WG := zt (List.mem_of_getElem? (i := 498) (by decide +kernel)) rfl
theorem ms2 : Cond.selects RX11 yX11_checkRange yX11_checkRange ∈ WG := zs (List.mem_of_getElem? (i := 2) (by decide +kernel)) rfl
theorem mt499 : Cond.code yX11_checkRange cX11_checkRange 3 none ∈ WG := zt (List.mem_of_getElem? (i := 499) (by decide +kernel)) rfl
theorem mt492 : Cond.methodLink RL 15 yX11_var ∈ WG := zt (List.mem_of_getElem? (i := 492) (by decide +kernel)) rfl
theorem mt493 : Cond.instanceMethod yX11_var ∈ WG := zt (List.mem_of_getElem? (i := 493) (by decide +kernel)) rfl
theorem mt494 : Cond.selects RX11 yX11_var yX11_var ∈ WG := zt (List.mem_of_getElem? (i := 494) (by decide +kernel)) rfl
theorem mt495 : Cond.code yX11_var cX11_var 2 (some .int) ∈ WG := zt (List.mem_of_getElem? (i := 495) (by decide +kernel)) rfl
theorem mt491 : Cond.classLink RL 18 "java/lang/IllegalArgumentException" ∈ WG := zt (List.mem_of_getElem? (i := 491) (by decide +kernel)) rfl
theorem mt488 : Cond.methodLink RL 108 yL_var ∈ WG := zt (List.mem_of_getElem? (i := 488) (by decide +kernel)) rfl
theorem mt489 : Cond.static yL_var ∈ WG := zt (List.mem_of_getElem? (i := 489) (by decide +kernel)) rfl
theorem mt490 : Cond.codeWith yL_var cL_var 4 (some .int) [(0, 9, 12, 18), (0, 9, 15, 13)] ∈ WG := zt (List.mem_of_getElem? (i := 490) (by decide +kernel)) rfl
theorem mt1553 : Cond.methodLink RX12 175 yX12_isIn ∈ WG := zt (List.mem_of_getElem? (i := 1553) (by decide +kernel)) rfl
theorem mt1554 : Cond.static yX12_isIn ∈ WG := zt (List.mem_of_getElem? (i := 1554) (by decide +kernel)) rfl
theorem mt1555 : Cond.code yX12_isIn cX12_isIn 3 (some .boolean) ∈ WG := zt (List.mem_of_getElem? (i := 1555) (by decide +kernel)) rfl
theorem mt1550 : Cond.methodLink RX12 190 yX12_isName ∈ WG := zt (List.mem_of_getElem? (i := 1550) (by decide +kernel)) rfl
theorem mt1551 : Cond.static yX12_isName ∈ WG := zt (List.mem_of_getElem? (i := 1551) (by decide +kernel)) rfl
theorem mt1552 : Cond.code yX12_isName cX12_isName 1 (some .boolean) ∈ WG := zt (List.mem_of_getElem? (i := 1552) (by decide +kernel)) rfl
theorem mt1556 : Cond.methodLink RX12 193 yX12_mayTellAlone ∈ WG := zt (List.mem_of_getElem? (i := 1556) (by decide +kernel)) rfl
theorem mt1558 : Cond.instanceMethod yX12_mayTellAlone ∈ WG := zt (List.mem_of_getElem? (i := 1558) (by decide +kernel)) rfl
theorem ms69 : Cond.selects RX12 yX12_mayTellAlone yX12_mayTellAlone ∈ WG := zs (List.mem_of_getElem? (i := 69) (by decide +kernel)) rfl
theorem mt1559 : Cond.code yX12_mayTellAlone cX12_mayTellAlone 2 (some .boolean) ∈ WG := zt (List.mem_of_getElem? (i := 1559) (by decide +kernel)) rfl
theorem mt1546 : Cond.methodLink RL 110 yX12_var ∈ WG := zt (List.mem_of_getElem? (i := 1546) (by decide +kernel)) rfl
theorem mt1547 : Cond.instanceMethod yX12_var ∈ WG := zt (List.mem_of_getElem? (i := 1547) (by decide +kernel)) rfl
theorem mt1548 : Cond.selects RX12 yX12_var yX12_var ∈ WG := zt (List.mem_of_getElem? (i := 1548) (by decide +kernel)) rfl
theorem mt1549 : Cond.code yX12_var cX12_var 2 (some .int) ∈ WG := zt (List.mem_of_getElem? (i := 1549) (by decide +kernel)) rfl
theorem mt519 : Cond.methodLink RL 20 yX11_global ∈ WG := zt (List.mem_of_getElem? (i := 519) (by decide +kernel)) rfl
theorem mt520 : Cond.instanceMethod yX11_global ∈ WG := zt (List.mem_of_getElem? (i := 520) (by decide +kernel)) rfl
theorem mt521 : Cond.selects RX11 yX11_global yX11_global ∈ WG := zt (List.mem_of_getElem? (i := 521) (by decide +kernel)) rfl
theorem mt522 : Cond.code yX11_global cX11_global 2 (some .int) ∈ WG := zt (List.mem_of_getElem? (i := 522) (by decide +kernel)) rfl
theorem mt516 : Cond.methodLink RL 111 yL_global ∈ WG := zt (List.mem_of_getElem? (i := 516) (by decide +kernel)) rfl
theorem mt517 : Cond.static yL_global ∈ WG := zt (List.mem_of_getElem? (i := 517) (by decide +kernel)) rfl
theorem mt518 : Cond.codeWith yL_global cL_global 4 (some .int) [(0, 9, 12, 18), (0, 9, 15, 13)] ∈ WG := zt (List.mem_of_getElem? (i := 518) (by decide +kernel)) rfl
theorem mt1564 : Cond.methodLink RX12 197 yX12_isGlobal ∈ WG := zt (List.mem_of_getElem? (i := 1564) (by decide +kernel)) rfl
theorem mt1565 : Cond.static yX12_isGlobal ∈ WG := zt (List.mem_of_getElem? (i := 1565) (by decide +kernel)) rfl
theorem mt1566 : Cond.code yX12_isGlobal cX12_isGlobal 1 (some .boolean) ∈ WG := zt (List.mem_of_getElem? (i := 1566) (by decide +kernel)) rfl
theorem mt1560 : Cond.methodLink RL 113 yX12_global ∈ WG := zt (List.mem_of_getElem? (i := 1560) (by decide +kernel)) rfl
theorem mt1561 : Cond.instanceMethod yX12_global ∈ WG := zt (List.mem_of_getElem? (i := 1561) (by decide +kernel)) rfl
theorem mt1562 : Cond.selects RX12 yX12_global yX12_global ∈ WG := zt (List.mem_of_getElem? (i := 1562) (by decide +kernel)) rfl
theorem mt1563 : Cond.code yX12_global cX12_global 2 (some .int) ∈ WG := zt (List.mem_of_getElem? (i := 1563) (by decide +kernel)) rfl
theorem mt535 : Cond.methodLink RX11 185 yX9_has ∈ WG := zt (List.mem_of_getElem? (i := 535) (by decide +kernel)) rfl
theorem mt536 : Cond.classLink RX11 161 "java/lang/IndexOutOfBoundsException" ∈ WG := zt (List.mem_of_getElem? (i := 536) (by decide +kernel)) rfl
theorem mt17 : Cond.initialized "java/lang/IndexOutOfBoundsException" ∈ WG := zt (List.mem_of_getElem? (i := 17) (by decide +kernel)) rfl
theorem mt531 : Cond.methodLink RX11 76 yX11_checkTold ∈ WG := zt (List.mem_of_getElem? (i := 531) (by decide +kernel)) rfl
theorem mt533 : Cond.instanceMethod yX11_checkTold ∈ WG := zt (List.mem_of_getElem? (i := 533) (by decide +kernel)) rfl
theorem ms3 : Cond.selects RX11 yX11_checkTold yX11_checkTold ∈ WG := zs (List.mem_of_getElem? (i := 3) (by decide +kernel)) rfl
theorem mt534 : Cond.code yX11_checkTold cX11_checkTold 2 none ∈ WG := zt (List.mem_of_getElem? (i := 534) (by decide +kernel)) rfl
theorem mt527 : Cond.methodLink RL 23 yX11_lam ∈ WG := zt (List.mem_of_getElem? (i := 527) (by decide +kernel)) rfl
theorem mt528 : Cond.instanceMethod yX11_lam ∈ WG := zt (List.mem_of_getElem? (i := 528) (by decide +kernel)) rfl
theorem mt529 : Cond.selects RX11 yX11_lam yX11_lam ∈ WG := zt (List.mem_of_getElem? (i := 529) (by decide +kernel)) rfl
theorem mt530 : Cond.code yX11_lam cX11_lam 3 (some .int) ∈ WG := zt (List.mem_of_getElem? (i := 530) (by decide +kernel)) rfl
theorem mt526 : Cond.classLink RL 27 "java/lang/IndexOutOfBoundsException" ∈ WG := zt (List.mem_of_getElem? (i := 526) (by decide +kernel)) rfl
theorem mt523 : Cond.methodLink RL 114 yL_lam ∈ WG := zt (List.mem_of_getElem? (i := 523) (by decide +kernel)) rfl
theorem mt524 : Cond.static yL_lam ∈ WG := zt (List.mem_of_getElem? (i := 524) (by decide +kernel)) rfl
theorem mt525 : Cond.codeWith yL_lam cL_lam 5 (some .int) [(0, 10, 13, 27), (0, 10, 17, 18), (0, 10, 21, 13)] ∈ WG := zt (List.mem_of_getElem? (i := 525) (by decide +kernel)) rfl
theorem mt1571 : Cond.methodLink RX12 200 yX12_isNode ∈ WG := zt (List.mem_of_getElem? (i := 1571) (by decide +kernel)) rfl
theorem mt1573 : Cond.instanceMethod yX12_isNode ∈ WG := zt (List.mem_of_getElem? (i := 1573) (by decide +kernel)) rfl
theorem ms70 : Cond.selects RX12 yX12_isNode yX12_isNode ∈ WG := zs (List.mem_of_getElem? (i := 70) (by decide +kernel)) rfl
theorem mt1574 : Cond.code yX12_isNode cX12_isNode 2 (some .boolean) ∈ WG := zt (List.mem_of_getElem? (i := 1574) (by decide +kernel)) rfl
theorem mt1575 : Cond.methodLink RX12 203 yX12_mayTell ∈ WG := zt (List.mem_of_getElem? (i := 1575) (by decide +kernel)) rfl
theorem mt1577 : Cond.instanceMethod yX12_mayTell ∈ WG := zt (List.mem_of_getElem? (i := 1577) (by decide +kernel)) rfl
theorem ms71 : Cond.selects RX12 yX12_mayTell yX12_mayTell ∈ WG := zs (List.mem_of_getElem? (i := 71) (by decide +kernel)) rfl
theorem mt1578 : Cond.code yX12_mayTell cX12_mayTell 3 (some .boolean) ∈ WG := zt (List.mem_of_getElem? (i := 1578) (by decide +kernel)) rfl
theorem mt1567 : Cond.methodLink RL 117 yX12_lam ∈ WG := zt (List.mem_of_getElem? (i := 1567) (by decide +kernel)) rfl
theorem mt1568 : Cond.instanceMethod yX12_lam ∈ WG := zt (List.mem_of_getElem? (i := 1568) (by decide +kernel)) rfl
theorem mt1569 : Cond.selects RX12 yX12_lam yX12_lam ∈ WG := zt (List.mem_of_getElem? (i := 1569) (by decide +kernel)) rfl
theorem mt1570 : Cond.code yX12_lam cX12_lam 3 (some .int) ∈ WG := zt (List.mem_of_getElem? (i := 1570) (by decide +kernel)) rfl
theorem mt555 : Cond.methodLink RL 29 yX11_app ∈ WG := zt (List.mem_of_getElem? (i := 555) (by decide +kernel)) rfl
theorem mt556 : Cond.instanceMethod yX11_app ∈ WG := zt (List.mem_of_getElem? (i := 556) (by decide +kernel)) rfl
theorem mt557 : Cond.selects RX11 yX11_app yX11_app ∈ WG := zt (List.mem_of_getElem? (i := 557) (by decide +kernel)) rfl
theorem mt558 : Cond.code yX11_app cX11_app 3 (some .int) ∈ WG := zt (List.mem_of_getElem? (i := 558) (by decide +kernel)) rfl
theorem mt552 : Cond.methodLink RL 118 yL_app ∈ WG := zt (List.mem_of_getElem? (i := 552) (by decide +kernel)) rfl
theorem mt553 : Cond.static yL_app ∈ WG := zt (List.mem_of_getElem? (i := 553) (by decide +kernel)) rfl
theorem mt554 : Cond.codeWith yL_app cL_app 5 (some .int) [(0, 10, 13, 27), (0, 10, 17, 18), (0, 10, 21, 13)] ∈ WG := zt (List.mem_of_getElem? (i := 554) (by decide +kernel)) rfl
theorem mt1579 : Cond.methodLink RL 120 yX12_app ∈ WG := zt (List.mem_of_getElem? (i := 1579) (by decide +kernel)) rfl
theorem mt1580 : Cond.instanceMethod yX12_app ∈ WG := zt (List.mem_of_getElem? (i := 1580) (by decide +kernel)) rfl
theorem mt1581 : Cond.selects RX12 yX12_app yX12_app ∈ WG := zt (List.mem_of_getElem? (i := 1581) (by decide +kernel)) rfl
theorem mt1582 : Cond.code yX12_app cX12_app 4 (some .int) ∈ WG := zt (List.mem_of_getElem? (i := 1582) (by decide +kernel)) rfl
theorem mt571 : Cond.methodLink RL 32 yX11_let ∈ WG := zt (List.mem_of_getElem? (i := 571) (by decide +kernel)) rfl
theorem mt572 : Cond.instanceMethod yX11_let ∈ WG := zt (List.mem_of_getElem? (i := 572) (by decide +kernel)) rfl
theorem mt573 : Cond.selects RX11 yX11_let yX11_let ∈ WG := zt (List.mem_of_getElem? (i := 573) (by decide +kernel)) rfl
theorem mt574 : Cond.code yX11_let cX11_let 4 (some .int) ∈ WG := zt (List.mem_of_getElem? (i := 574) (by decide +kernel)) rfl
theorem mt568 : Cond.methodLink RL 121 yL_let ∈ WG := zt (List.mem_of_getElem? (i := 568) (by decide +kernel)) rfl
theorem mt569 : Cond.static yL_let ∈ WG := zt (List.mem_of_getElem? (i := 569) (by decide +kernel)) rfl
theorem mt570 : Cond.codeWith yL_let cL_let 6 (some .int) [(0, 12, 15, 27), (0, 12, 19, 18), (0, 12, 23, 13)] ∈ WG := zt (List.mem_of_getElem? (i := 570) (by decide +kernel)) rfl
theorem mt1587 : Cond.methodLink RL 124 yX12_let ∈ WG := zt (List.mem_of_getElem? (i := 1587) (by decide +kernel)) rfl
theorem mt1588 : Cond.instanceMethod yX12_let ∈ WG := zt (List.mem_of_getElem? (i := 1588) (by decide +kernel)) rfl
theorem mt1589 : Cond.selects RX12 yX12_let yX12_let ∈ WG := zt (List.mem_of_getElem? (i := 1589) (by decide +kernel)) rfl
theorem mt1590 : Cond.code yX12_let cX12_let 4 (some .int) ∈ WG := zt (List.mem_of_getElem? (i := 1590) (by decide +kernel)) rfl
theorem mt578 : Cond.methodLink RL 36 yX11_con ∈ WG := zt (List.mem_of_getElem? (i := 578) (by decide +kernel)) rfl
theorem mt579 : Cond.instanceMethod yX11_con ∈ WG := zt (List.mem_of_getElem? (i := 579) (by decide +kernel)) rfl
theorem mt580 : Cond.selects RX11 yX11_con yX11_con ∈ WG := zt (List.mem_of_getElem? (i := 580) (by decide +kernel)) rfl
theorem mt581 : Cond.code yX11_con cX11_con 4 (some .int) ∈ WG := zt (List.mem_of_getElem? (i := 581) (by decide +kernel)) rfl
theorem mt575 : Cond.methodLink RL 125 yL_con ∈ WG := zt (List.mem_of_getElem? (i := 575) (by decide +kernel)) rfl
theorem mt576 : Cond.static yL_con ∈ WG := zt (List.mem_of_getElem? (i := 576) (by decide +kernel)) rfl
theorem mt577 : Cond.codeWith yL_con cL_con 6 (some .int) [(0, 12, 15, 27), (0, 12, 19, 18), (0, 12, 23, 13)] ∈ WG := zt (List.mem_of_getElem? (i := 577) (by decide +kernel)) rfl
theorem mt1591 : Cond.methodLink RL 127 yX12_con ∈ WG := zt (List.mem_of_getElem? (i := 1591) (by decide +kernel)) rfl
theorem mt1592 : Cond.instanceMethod yX12_con ∈ WG := zt (List.mem_of_getElem? (i := 1592) (by decide +kernel)) rfl
theorem mt1593 : Cond.selects RX12 yX12_con yX12_con ∈ WG := zt (List.mem_of_getElem? (i := 1593) (by decide +kernel)) rfl
theorem mt1594 : Cond.code yX12_con cX12_con 6 (some .int) ∈ WG := zt (List.mem_of_getElem? (i := 1594) (by decide +kernel)) rfl
theorem mt586 : Cond.methodLink RL 39 yX11_match ∈ WG := zt (List.mem_of_getElem? (i := 586) (by decide +kernel)) rfl
theorem mt587 : Cond.instanceMethod yX11_match ∈ WG := zt (List.mem_of_getElem? (i := 587) (by decide +kernel)) rfl
theorem mt588 : Cond.selects RX11 yX11_match yX11_match ∈ WG := zt (List.mem_of_getElem? (i := 588) (by decide +kernel)) rfl
theorem mt589 : Cond.code yX11_match cX11_match 7 (some .int) ∈ WG := zt (List.mem_of_getElem? (i := 589) (by decide +kernel)) rfl
theorem mt583 : Cond.methodLink RL 128 yL_match ∈ WG := zt (List.mem_of_getElem? (i := 583) (by decide +kernel)) rfl
theorem mt584 : Cond.static yL_match ∈ WG := zt (List.mem_of_getElem? (i := 584) (by decide +kernel)) rfl
theorem mt585 : Cond.codeWith yL_match cL_match 9 (some .int) [(0, 18, 21, 27), (0, 18, 25, 18), (0, 18, 29, 13)] ∈ WG := zt (List.mem_of_getElem? (i := 585) (by decide +kernel)) rfl
theorem mt1595 : Cond.methodLink RL 131 yX12_match ∈ WG := zt (List.mem_of_getElem? (i := 1595) (by decide +kernel)) rfl
theorem mt1596 : Cond.instanceMethod yX12_match ∈ WG := zt (List.mem_of_getElem? (i := 1596) (by decide +kernel)) rfl
theorem mt1597 : Cond.selects RX12 yX12_match yX12_match ∈ WG := zt (List.mem_of_getElem? (i := 1597) (by decide +kernel)) rfl
theorem mt1598 : Cond.code yX12_match cX12_match 8 (some .int) ∈ WG := zt (List.mem_of_getElem? (i := 1598) (by decide +kernel)) rfl
theorem mt593 : Cond.methodLink RL 43 yX11_choose ∈ WG := zt (List.mem_of_getElem? (i := 593) (by decide +kernel)) rfl
theorem mt594 : Cond.instanceMethod yX11_choose ∈ WG := zt (List.mem_of_getElem? (i := 594) (by decide +kernel)) rfl
theorem mt595 : Cond.selects RX11 yX11_choose yX11_choose ∈ WG := zt (List.mem_of_getElem? (i := 595) (by decide +kernel)) rfl
theorem mt596 : Cond.code yX11_choose cX11_choose 4 (some .int) ∈ WG := zt (List.mem_of_getElem? (i := 596) (by decide +kernel)) rfl
theorem mt590 : Cond.methodLink RL 132 yL_choose ∈ WG := zt (List.mem_of_getElem? (i := 590) (by decide +kernel)) rfl
theorem mt591 : Cond.static yL_choose ∈ WG := zt (List.mem_of_getElem? (i := 591) (by decide +kernel)) rfl
theorem mt592 : Cond.codeWith yL_choose cL_choose 6 (some .int) [(0, 12, 15, 27), (0, 12, 19, 13)] ∈ WG := zt (List.mem_of_getElem? (i := 592) (by decide +kernel)) rfl
theorem mt1599 : Cond.methodLink RL 134 yX12_choose ∈ WG := zt (List.mem_of_getElem? (i := 1599) (by decide +kernel)) rfl
theorem mt1600 : Cond.instanceMethod yX12_choose ∈ WG := zt (List.mem_of_getElem? (i := 1600) (by decide +kernel)) rfl
theorem mt1601 : Cond.selects RX12 yX12_choose yX12_choose ∈ WG := zt (List.mem_of_getElem? (i := 1601) (by decide +kernel)) rfl
theorem mt1602 : Cond.code yX12_choose cX12_choose 4 (some .int) ∈ WG := zt (List.mem_of_getElem? (i := 1602) (by decide +kernel)) rfl
theorem mt600 : Cond.methodLink RL 46 yX11_prim ∈ WG := zt (List.mem_of_getElem? (i := 600) (by decide +kernel)) rfl
theorem mt601 : Cond.instanceMethod yX11_prim ∈ WG := zt (List.mem_of_getElem? (i := 601) (by decide +kernel)) rfl
theorem mt602 : Cond.selects RX11 yX11_prim yX11_prim ∈ WG := zt (List.mem_of_getElem? (i := 602) (by decide +kernel)) rfl
theorem mt603 : Cond.code yX11_prim cX11_prim 4 (some .int) ∈ WG := zt (List.mem_of_getElem? (i := 603) (by decide +kernel)) rfl
theorem mt597 : Cond.methodLink RL 135 yL_prim ∈ WG := zt (List.mem_of_getElem? (i := 597) (by decide +kernel)) rfl
theorem mt598 : Cond.static yL_prim ∈ WG := zt (List.mem_of_getElem? (i := 598) (by decide +kernel)) rfl
theorem mt599 : Cond.codeWith yL_prim cL_prim 6 (some .int) [(0, 12, 15, 27), (0, 12, 19, 18), (0, 12, 23, 13)] ∈ WG := zt (List.mem_of_getElem? (i := 599) (by decide +kernel)) rfl
theorem mt1603 : Cond.methodLink RL 137 yX12_prim ∈ WG := zt (List.mem_of_getElem? (i := 1603) (by decide +kernel)) rfl
theorem mt1604 : Cond.instanceMethod yX12_prim ∈ WG := zt (List.mem_of_getElem? (i := 1604) (by decide +kernel)) rfl
theorem mt1605 : Cond.selects RX12 yX12_prim yX12_prim ∈ WG := zt (List.mem_of_getElem? (i := 1605) (by decide +kernel)) rfl
theorem mt1606 : Cond.code yX12_prim cX12_prim 4 (some .int) ∈ WG := zt (List.mem_of_getElem? (i := 1606) (by decide +kernel)) rfl
theorem mt607 : Cond.methodLink RL 49 yX11_seq ∈ WG := zt (List.mem_of_getElem? (i := 607) (by decide +kernel)) rfl
theorem mt608 : Cond.instanceMethod yX11_seq ∈ WG := zt (List.mem_of_getElem? (i := 608) (by decide +kernel)) rfl
theorem mt609 : Cond.selects RX11 yX11_seq yX11_seq ∈ WG := zt (List.mem_of_getElem? (i := 609) (by decide +kernel)) rfl
theorem mt610 : Cond.code yX11_seq cX11_seq 3 (some .int) ∈ WG := zt (List.mem_of_getElem? (i := 610) (by decide +kernel)) rfl
theorem mt604 : Cond.methodLink RL 138 yL_seq ∈ WG := zt (List.mem_of_getElem? (i := 604) (by decide +kernel)) rfl
theorem mt605 : Cond.static yL_seq ∈ WG := zt (List.mem_of_getElem? (i := 605) (by decide +kernel)) rfl
theorem mt606 : Cond.codeWith yL_seq cL_seq 5 (some .int) [(0, 10, 13, 27), (0, 10, 17, 13)] ∈ WG := zt (List.mem_of_getElem? (i := 606) (by decide +kernel)) rfl
theorem mt1607 : Cond.methodLink RL 140 yX12_seq ∈ WG := zt (List.mem_of_getElem? (i := 1607) (by decide +kernel)) rfl
theorem mt1608 : Cond.instanceMethod yX12_seq ∈ WG := zt (List.mem_of_getElem? (i := 1608) (by decide +kernel)) rfl
theorem mt1609 : Cond.selects RX12 yX12_seq yX12_seq ∈ WG := zt (List.mem_of_getElem? (i := 1609) (by decide +kernel)) rfl
theorem mt1610 : Cond.code yX12_seq cX12_seq 3 (some .int) ∈ WG := zt (List.mem_of_getElem? (i := 1610) (by decide +kernel)) rfl
theorem mt614 : Cond.methodLink RL 52 yX11_raise ∈ WG := zt (List.mem_of_getElem? (i := 614) (by decide +kernel)) rfl
theorem mt615 : Cond.instanceMethod yX11_raise ∈ WG := zt (List.mem_of_getElem? (i := 615) (by decide +kernel)) rfl
theorem mt616 : Cond.selects RX11 yX11_raise yX11_raise ∈ WG := zt (List.mem_of_getElem? (i := 616) (by decide +kernel)) rfl
theorem mt617 : Cond.code yX11_raise cX11_raise 2 (some .int) ∈ WG := zt (List.mem_of_getElem? (i := 617) (by decide +kernel)) rfl
theorem mt611 : Cond.methodLink RL 141 yL_raise ∈ WG := zt (List.mem_of_getElem? (i := 611) (by decide +kernel)) rfl
theorem mt612 : Cond.static yL_raise ∈ WG := zt (List.mem_of_getElem? (i := 612) (by decide +kernel)) rfl
theorem mt613 : Cond.codeWith yL_raise cL_raise 4 (some .int) [(0, 9, 12, 27), (0, 9, 15, 13)] ∈ WG := zt (List.mem_of_getElem? (i := 613) (by decide +kernel)) rfl
theorem mt1611 : Cond.methodLink RL 143 yX12_raise ∈ WG := zt (List.mem_of_getElem? (i := 1611) (by decide +kernel)) rfl
theorem mt1612 : Cond.instanceMethod yX12_raise ∈ WG := zt (List.mem_of_getElem? (i := 1612) (by decide +kernel)) rfl
theorem mt1613 : Cond.selects RX12 yX12_raise yX12_raise ∈ WG := zt (List.mem_of_getElem? (i := 1613) (by decide +kernel)) rfl
theorem mt1614 : Cond.code yX12_raise cX12_raise 2 (some .int) ∈ WG := zt (List.mem_of_getElem? (i := 1614) (by decide +kernel)) rfl
theorem mt621 : Cond.methodLink RL 55 yX11_hold ∈ WG := zt (List.mem_of_getElem? (i := 621) (by decide +kernel)) rfl
theorem mt622 : Cond.instanceMethod yX11_hold ∈ WG := zt (List.mem_of_getElem? (i := 622) (by decide +kernel)) rfl
theorem mt623 : Cond.selects RX11 yX11_hold yX11_hold ∈ WG := zt (List.mem_of_getElem? (i := 623) (by decide +kernel)) rfl
theorem mt624 : Cond.code yX11_hold cX11_hold 4 (some .int) ∈ WG := zt (List.mem_of_getElem? (i := 624) (by decide +kernel)) rfl
theorem mt618 : Cond.methodLink RL 144 yL_hold ∈ WG := zt (List.mem_of_getElem? (i := 618) (by decide +kernel)) rfl
theorem mt619 : Cond.static yL_hold ∈ WG := zt (List.mem_of_getElem? (i := 619) (by decide +kernel)) rfl
theorem mt620 : Cond.codeWith yL_hold cL_hold 6 (some .int) [(0, 12, 15, 27), (0, 12, 19, 18), (0, 12, 23, 13)] ∈ WG := zt (List.mem_of_getElem? (i := 620) (by decide +kernel)) rfl
theorem mt1615 : Cond.methodLink RL 146 yX12_hold ∈ WG := zt (List.mem_of_getElem? (i := 1615) (by decide +kernel)) rfl
theorem mt1616 : Cond.instanceMethod yX12_hold ∈ WG := zt (List.mem_of_getElem? (i := 1616) (by decide +kernel)) rfl
theorem mt1617 : Cond.selects RX12 yX12_hold yX12_hold ∈ WG := zt (List.mem_of_getElem? (i := 1617) (by decide +kernel)) rfl
theorem mt1618 : Cond.code yX12_hold cX12_hold 4 (some .int) ∈ WG := zt (List.mem_of_getElem? (i := 1618) (by decide +kernel)) rfl
theorem mt628 : Cond.methodLink RL 58 yX11_par ∈ WG := zt (List.mem_of_getElem? (i := 628) (by decide +kernel)) rfl
theorem mt629 : Cond.instanceMethod yX11_par ∈ WG := zt (List.mem_of_getElem? (i := 629) (by decide +kernel)) rfl
theorem mt630 : Cond.selects RX11 yX11_par yX11_par ∈ WG := zt (List.mem_of_getElem? (i := 630) (by decide +kernel)) rfl
theorem mt631 : Cond.code yX11_par cX11_par 3 (some .int) ∈ WG := zt (List.mem_of_getElem? (i := 631) (by decide +kernel)) rfl
theorem mt625 : Cond.methodLink RL 147 yL_par ∈ WG := zt (List.mem_of_getElem? (i := 625) (by decide +kernel)) rfl
theorem mt626 : Cond.static yL_par ∈ WG := zt (List.mem_of_getElem? (i := 626) (by decide +kernel)) rfl
theorem mt627 : Cond.codeWith yL_par cL_par 5 (some .int) [(0, 10, 13, 27), (0, 10, 17, 18), (0, 10, 21, 13)] ∈ WG := zt (List.mem_of_getElem? (i := 627) (by decide +kernel)) rfl
theorem mt1619 : Cond.methodLink RL 149 yX12_par ∈ WG := zt (List.mem_of_getElem? (i := 1619) (by decide +kernel)) rfl
theorem mt1620 : Cond.instanceMethod yX12_par ∈ WG := zt (List.mem_of_getElem? (i := 1620) (by decide +kernel)) rfl
theorem mt1621 : Cond.selects RX12 yX12_par yX12_par ∈ WG := zt (List.mem_of_getElem? (i := 1621) (by decide +kernel)) rfl
theorem mt1622 : Cond.code yX12_par cX12_par 3 (some .int) ∈ WG := zt (List.mem_of_getElem? (i := 1622) (by decide +kernel)) rfl
theorem mt635 : Cond.methodLink RL 61 yX11_centre ∈ WG := zt (List.mem_of_getElem? (i := 635) (by decide +kernel)) rfl
theorem mt636 : Cond.instanceMethod yX11_centre ∈ WG := zt (List.mem_of_getElem? (i := 636) (by decide +kernel)) rfl
theorem mt637 : Cond.selects RX11 yX11_centre yX11_centre ∈ WG := zt (List.mem_of_getElem? (i := 637) (by decide +kernel)) rfl
theorem mt638 : Cond.code yX11_centre cX11_centre 3 (some .int) ∈ WG := zt (List.mem_of_getElem? (i := 638) (by decide +kernel)) rfl
theorem mt632 : Cond.methodLink RL 150 yL_centre ∈ WG := zt (List.mem_of_getElem? (i := 632) (by decide +kernel)) rfl
theorem mt633 : Cond.static yL_centre ∈ WG := zt (List.mem_of_getElem? (i := 633) (by decide +kernel)) rfl
theorem mt634 : Cond.codeWith yL_centre cL_centre 5 (some .int) [(0, 10, 13, 27), (0, 10, 17, 18), (0, 10, 21, 13)] ∈ WG := zt (List.mem_of_getElem? (i := 634) (by decide +kernel)) rfl
theorem mt1623 : Cond.methodLink RL 152 yX12_centre ∈ WG := zt (List.mem_of_getElem? (i := 1623) (by decide +kernel)) rfl
theorem mt1624 : Cond.instanceMethod yX12_centre ∈ WG := zt (List.mem_of_getElem? (i := 1624) (by decide +kernel)) rfl
theorem mt1625 : Cond.selects RX12 yX12_centre yX12_centre ∈ WG := zt (List.mem_of_getElem? (i := 1625) (by decide +kernel)) rfl
theorem mt1626 : Cond.code yX12_centre cX12_centre 3 (some .int) ∈ WG := zt (List.mem_of_getElem? (i := 1626) (by decide +kernel)) rfl
theorem mt642 : Cond.methodLink RL 64 yX11_define ∈ WG := zt (List.mem_of_getElem? (i := 642) (by decide +kernel)) rfl
theorem mt643 : Cond.instanceMethod yX11_define ∈ WG := zt (List.mem_of_getElem? (i := 643) (by decide +kernel)) rfl
theorem mt644 : Cond.selects RX11 yX11_define yX11_define ∈ WG := zt (List.mem_of_getElem? (i := 644) (by decide +kernel)) rfl
theorem mt645 : Cond.code yX11_define cX11_define 3 (some .int) ∈ WG := zt (List.mem_of_getElem? (i := 645) (by decide +kernel)) rfl
theorem mt639 : Cond.methodLink RL 153 yL_define ∈ WG := zt (List.mem_of_getElem? (i := 639) (by decide +kernel)) rfl
theorem mt640 : Cond.static yL_define ∈ WG := zt (List.mem_of_getElem? (i := 640) (by decide +kernel)) rfl
theorem mt641 : Cond.codeWith yL_define cL_define 5 (some .int) [(0, 10, 13, 27), (0, 10, 17, 18), (0, 10, 21, 13)] ∈ WG := zt (List.mem_of_getElem? (i := 641) (by decide +kernel)) rfl
theorem mt1627 : Cond.methodLink RL 155 yX12_define ∈ WG := zt (List.mem_of_getElem? (i := 1627) (by decide +kernel)) rfl
theorem mt1628 : Cond.instanceMethod yX12_define ∈ WG := zt (List.mem_of_getElem? (i := 1628) (by decide +kernel)) rfl
theorem mt1629 : Cond.selects RX12 yX12_define yX12_define ∈ WG := zt (List.mem_of_getElem? (i := 1629) (by decide +kernel)) rfl
theorem mt1630 : Cond.code yX12_define cX12_define 5 (some .int) ∈ WG := zt (List.mem_of_getElem? (i := 1630) (by decide +kernel)) rfl
theorem mt660 : Cond.methodLink RL 67 yX11_rule ∈ WG := zt (List.mem_of_getElem? (i := 660) (by decide +kernel)) rfl
theorem mt661 : Cond.instanceMethod yX11_rule ∈ WG := zt (List.mem_of_getElem? (i := 661) (by decide +kernel)) rfl
theorem mt662 : Cond.selects RX11 yX11_rule yX11_rule ∈ WG := zt (List.mem_of_getElem? (i := 662) (by decide +kernel)) rfl
theorem mt663 : Cond.code yX11_rule cX11_rule 4 (some .int) ∈ WG := zt (List.mem_of_getElem? (i := 663) (by decide +kernel)) rfl
theorem mt657 : Cond.methodLink RL 156 yL_rule ∈ WG := zt (List.mem_of_getElem? (i := 657) (by decide +kernel)) rfl
theorem mt658 : Cond.static yL_rule ∈ WG := zt (List.mem_of_getElem? (i := 658) (by decide +kernel)) rfl
theorem mt659 : Cond.codeWith yL_rule cL_rule 6 (some .int) [(0, 12, 15, 18), (0, 12, 19, 13)] ∈ WG := zt (List.mem_of_getElem? (i := 659) (by decide +kernel)) rfl
theorem mt1679 : Cond.methodLink RL 158 yX12_rule ∈ WG := zt (List.mem_of_getElem? (i := 1679) (by decide +kernel)) rfl
theorem mt1680 : Cond.instanceMethod yX12_rule ∈ WG := zt (List.mem_of_getElem? (i := 1680) (by decide +kernel)) rfl
theorem mt1681 : Cond.selects RX12 yX12_rule yX12_rule ∈ WG := zt (List.mem_of_getElem? (i := 1681) (by decide +kernel)) rfl
theorem mt1682 : Cond.code yX12_rule cX12_rule 4 (some .int) ∈ WG := zt (List.mem_of_getElem? (i := 1682) (by decide +kernel)) rfl
theorem mt664 : Cond.methodLink RX11 107 yX6_hasAllRules ∈ WG := zt (List.mem_of_getElem? (i := 664) (by decide +kernel)) rfl
theorem mt665 : Cond.instanceMethod yX6_hasAllRules ∈ WG := zt (List.mem_of_getElem? (i := 665) (by decide +kernel)) rfl
theorem mt666 : Cond.selects RX6 yX6_hasAllRules yX6_hasAllRules ∈ WG := zt (List.mem_of_getElem? (i := 666) (by decide +kernel)) rfl
theorem mt667 : Cond.code yX6_hasAllRules cX6_hasAllRules 1 (some .boolean) ∈ WG := zt (List.mem_of_getElem? (i := 667) (by decide +kernel)) rfl
theorem mt669 : Cond.methodLink RX11 113 yX6_addRule ∈ WG := zt (List.mem_of_getElem? (i := 669) (by decide +kernel)) rfl
theorem mt670 : Cond.instanceMethod yX6_addRule ∈ WG := zt (List.mem_of_getElem? (i := 670) (by decide +kernel)) rfl
theorem mt671 : Cond.selects RX6 yX6_addRule yX6_addRule ∈ WG := zt (List.mem_of_getElem? (i := 671) (by decide +kernel)) rfl
theorem mt672 : Cond.code yX6_addRule cX6_addRule 4 (some .int) ∈ WG := zt (List.mem_of_getElem? (i := 672) (by decide +kernel)) rfl
theorem mt1296 : Cond.fieldLink RX12 258 "LazyLoomModel" "rules" "I" ∈ WG := zt (List.mem_of_getElem? (i := 1296) (by decide +kernel)) rfl
theorem mt676 : Cond.methodLink RL 70 yX11_pass ∈ WG := zt (List.mem_of_getElem? (i := 676) (by decide +kernel)) rfl
theorem mt677 : Cond.instanceMethod yX11_pass ∈ WG := zt (List.mem_of_getElem? (i := 677) (by decide +kernel)) rfl
theorem mt678 : Cond.selects RX11 yX11_pass yX11_pass ∈ WG := zt (List.mem_of_getElem? (i := 678) (by decide +kernel)) rfl
theorem mt679 : Cond.code yX11_pass cX11_pass 3 (some .int) ∈ WG := zt (List.mem_of_getElem? (i := 679) (by decide +kernel)) rfl
theorem mt673 : Cond.methodLink RL 163 yL_pass ∈ WG := zt (List.mem_of_getElem? (i := 673) (by decide +kernel)) rfl
theorem mt674 : Cond.static yL_pass ∈ WG := zt (List.mem_of_getElem? (i := 674) (by decide +kernel)) rfl
theorem mt675 : Cond.codeWith yL_pass cL_pass 5 (some .int) [(0, 10, 13, 18), (0, 10, 17, 13)] ∈ WG := zt (List.mem_of_getElem? (i := 675) (by decide +kernel)) rfl
theorem mt1716 : Cond.methodLink RL 165 yX12_pass ∈ WG := zt (List.mem_of_getElem? (i := 1716) (by decide +kernel)) rfl
theorem mt1717 : Cond.instanceMethod yX12_pass ∈ WG := zt (List.mem_of_getElem? (i := 1717) (by decide +kernel)) rfl
theorem mt1718 : Cond.selects RX12 yX12_pass yX12_pass ∈ WG := zt (List.mem_of_getElem? (i := 1718) (by decide +kernel)) rfl
theorem mt1719 : Cond.code yX12_pass cX12_pass 6 (some .int) ∈ WG := zt (List.mem_of_getElem? (i := 1719) (by decide +kernel)) rfl
theorem mt653 : Cond.methodLink RX11 103 yX5_sizeOf ∈ WG := zt (List.mem_of_getElem? (i := 653) (by decide +kernel)) rfl
theorem mt654 : Cond.instanceMethod yX5_sizeOf ∈ WG := zt (List.mem_of_getElem? (i := 654) (by decide +kernel)) rfl
theorem mt655 : Cond.selects RX5 yX5_sizeOf yX5_sizeOf ∈ WG := zt (List.mem_of_getElem? (i := 655) (by decide +kernel)) rfl
theorem mt656 : Cond.code yX5_sizeOf cX5_sizeOf 2 (some .int) ∈ WG := zt (List.mem_of_getElem? (i := 656) (by decide +kernel)) rfl
theorem mt403 : Cond.classLink RX11 89 "java/lang/IllegalStateException" ∈ WG := zt (List.mem_of_getElem? (i := 403) (by decide +kernel)) rfl
theorem mt14 : Cond.initialized "java/lang/IllegalStateException" ∈ WG := zt (List.mem_of_getElem? (i := 14) (by decide +kernel)) rfl
theorem mt393 : Cond.classLink RL 13 "java/lang/IllegalStateException" ∈ WG := zt (List.mem_of_getElem? (i := 393) (by decide +kernel)) rfl
theorem dL_law_0 : decode cL_law 0 = .ok (.new 8, 3) := by decide +kernel
theorem dL_law_3 : decode cL_law 3 = .ok (.dup, 1) := by decide +kernel
theorem dL_law_4 : decode cL_law 4 = .ok (.invokespecial 94, 3) := by decide +kernel
theorem dL_law_7 : decode cL_law 7 = .ok (.astore_n 1, 1) := by decide +kernel
theorem dL_law_8 : decode cL_law 8 = .ok (.new 95, 3) := by decide +kernel
theorem dL_law_11 : decode cL_law 11 = .ok (.dup, 1) := by decide +kernel
theorem dL_law_12 : decode cL_law 12 = .ok (.invokespecial 97, 3) := by decide +kernel
theorem dL_law_15 : decode cL_law 15 = .ok (.astore_n 2, 1) := by decide +kernel
theorem dL_law_16 : decode cL_law 16 = .ok (.iconst 1, 1) := by decide +kernel
theorem dL_law_17 : decode cL_law 17 = .ok (.newarray .long, 2) := by decide +kernel
theorem dL_law_19 : decode cL_law 19 = .ok (.astore_n 3, 1) := by decide +kernel
theorem dL_law_20 : decode cL_law 20 = .ok (.iconst 0, 1) := by decide +kernel
theorem dL_law_21 : decode cL_law 21 = .ok (.istore 4, 2) := by decide +kernel
theorem dL_law_160 : decode cL_law 160 = .ok (.aload_n 1, 1) := by decide +kernel
theorem dL_law_161 : decode cL_law 161 = .ok (.aload_n 0, 1) := by decide +kernel
theorem dL_law_162 : decode cL_law 162 = .ok (.iload 4, 2) := by decide +kernel
theorem dL_law_164 : decode cL_law 164 = .ok (.iconst 1, 1) := by decide +kernel
theorem dL_law_165 : decode cL_law 165 = .ok (.iadd, 1) := by decide +kernel
theorem dL_law_166 : decode cL_law 166 = .ok (.iaload, 1) := by decide +kernel
theorem dL_law_167 : decode cL_law 167 = .ok (.aload_n 3, 1) := by decide +kernel
theorem dL_law_168 : decode cL_law 168 = .ok (.invokestatic 98, 3) := by decide +kernel
theorem dL_law_171 : decode cL_law 171 = .ok (.istore 5, 2) := by decide +kernel
theorem dL_law_173 : decode cL_law 173 = .ok (.aload_n 2, 1) := by decide +kernel
theorem dL_law_174 : decode cL_law 174 = .ok (.aload_n 0, 1) := by decide +kernel
theorem dL_law_175 : decode cL_law 175 = .ok (.iload 4, 2) := by decide +kernel
theorem dL_law_177 : decode cL_law 177 = .ok (.iconst 1, 1) := by decide +kernel
theorem dL_law_178 : decode cL_law 178 = .ok (.iadd, 1) := by decide +kernel
theorem dL_law_179 : decode cL_law 179 = .ok (.iaload, 1) := by decide +kernel
theorem dL_law_180 : decode cL_law 180 = .ok (.invokevirtual 103, 3) := by decide +kernel
theorem dL_law_183 : decode cL_law 183 = .ok (.istore 6, 2) := by decide +kernel
theorem dL_law_185 : decode cL_law 185 = .ok (.aload_n 2, 1) := by decide +kernel
theorem dL_law_186 : decode cL_law 186 = .ok (.invokevirtual 104, 3) := by decide +kernel
theorem dL_law_189 : decode cL_law 189 = .ok (.iload 5, 2) := by decide +kernel
theorem dL_law_191 : decode cL_law 191 = .ok (.if_icmp .eq 5, 3) := by decide +kernel
theorem dL_law_196 : decode cL_law 196 = .ok (.iload 5, 2) := by decide +kernel
theorem dL_law_198 : decode cL_law 198 = .ok (.ifCond .ne 15, 3) := by decide +kernel
theorem dL_law_201 : decode cL_law 201 = .ok (.aload_n 3, 1) := by decide +kernel
theorem dL_law_202 : decode cL_law 202 = .ok (.iconst 0, 1) := by decide +kernel
theorem dL_law_203 : decode cL_law 203 = .ok (.laload, 1) := by decide +kernel
theorem dL_law_204 : decode cL_law 204 = .ok (.iload 6, 2) := by decide +kernel
theorem dL_law_206 : decode cL_law 206 = .ok (.i2l, 1) := by decide +kernel
theorem dL_law_207 : decode cL_law 207 = .ok (.lcmp, 1) := by decide +kernel
theorem dL_law_208 : decode cL_law 208 = .ok (.ifCond .eq 5, 3) := by decide +kernel
theorem dL_law_213 : decode cL_law 213 = .ok (.goto 1813, 3) := by decide +kernel
theorem dL_law_216 : decode cL_law 216 = .ok (.aload_n 1, 1) := by decide +kernel
theorem dL_law_217 : decode cL_law 217 = .ok (.aload_n 0, 1) := by decide +kernel
theorem dL_law_218 : decode cL_law 218 = .ok (.iload 4, 2) := by decide +kernel
theorem dL_law_220 : decode cL_law 220 = .ok (.iconst 1, 1) := by decide +kernel
theorem dL_law_221 : decode cL_law 221 = .ok (.iadd, 1) := by decide +kernel
theorem dL_law_222 : decode cL_law 222 = .ok (.iaload, 1) := by decide +kernel
theorem dL_law_223 : decode cL_law 223 = .ok (.aload_n 3, 1) := by decide +kernel
theorem dL_law_224 : decode cL_law 224 = .ok (.invokestatic 108, 3) := by decide +kernel
theorem dL_law_227 : decode cL_law 227 = .ok (.istore 5, 2) := by decide +kernel
theorem dL_law_229 : decode cL_law 229 = .ok (.aload_n 2, 1) := by decide +kernel
theorem dL_law_230 : decode cL_law 230 = .ok (.aload_n 0, 1) := by decide +kernel
theorem dL_law_231 : decode cL_law 231 = .ok (.iload 4, 2) := by decide +kernel
theorem dL_law_233 : decode cL_law 233 = .ok (.iconst 1, 1) := by decide +kernel
theorem dL_law_234 : decode cL_law 234 = .ok (.iadd, 1) := by decide +kernel
theorem dL_law_235 : decode cL_law 235 = .ok (.iaload, 1) := by decide +kernel
theorem dL_law_236 : decode cL_law 236 = .ok (.invokevirtual 110, 3) := by decide +kernel
theorem dL_law_239 : decode cL_law 239 = .ok (.istore 6, 2) := by decide +kernel
theorem dL_law_241 : decode cL_law 241 = .ok (.aload_n 2, 1) := by decide +kernel
theorem dL_law_242 : decode cL_law 242 = .ok (.invokevirtual 104, 3) := by decide +kernel
theorem dL_law_245 : decode cL_law 245 = .ok (.iload 5, 2) := by decide +kernel
theorem dL_law_247 : decode cL_law 247 = .ok (.if_icmp .eq 5, 3) := by decide +kernel
theorem dL_law_252 : decode cL_law 252 = .ok (.iload 5, 2) := by decide +kernel
theorem dL_law_254 : decode cL_law 254 = .ok (.ifCond .ne 15, 3) := by decide +kernel
theorem dL_law_257 : decode cL_law 257 = .ok (.aload_n 3, 1) := by decide +kernel
theorem dL_law_258 : decode cL_law 258 = .ok (.iconst 0, 1) := by decide +kernel
theorem dL_law_259 : decode cL_law 259 = .ok (.laload, 1) := by decide +kernel
theorem dL_law_260 : decode cL_law 260 = .ok (.iload 6, 2) := by decide +kernel
theorem dL_law_262 : decode cL_law 262 = .ok (.i2l, 1) := by decide +kernel
theorem dL_law_263 : decode cL_law 263 = .ok (.lcmp, 1) := by decide +kernel
theorem dL_law_264 : decode cL_law 264 = .ok (.ifCond .eq 5, 3) := by decide +kernel
theorem dL_law_269 : decode cL_law 269 = .ok (.goto 1757, 3) := by decide +kernel
theorem dL_law_272 : decode cL_law 272 = .ok (.aload_n 1, 1) := by decide +kernel
theorem dL_law_273 : decode cL_law 273 = .ok (.aload_n 0, 1) := by decide +kernel
theorem dL_law_274 : decode cL_law 274 = .ok (.iload 4, 2) := by decide +kernel
theorem dL_law_276 : decode cL_law 276 = .ok (.iconst 1, 1) := by decide +kernel
theorem dL_law_277 : decode cL_law 277 = .ok (.iadd, 1) := by decide +kernel
theorem dL_law_278 : decode cL_law 278 = .ok (.iaload, 1) := by decide +kernel
theorem dL_law_279 : decode cL_law 279 = .ok (.aload_n 3, 1) := by decide +kernel
theorem dL_law_280 : decode cL_law 280 = .ok (.invokestatic 111, 3) := by decide +kernel
theorem dL_law_283 : decode cL_law 283 = .ok (.istore 5, 2) := by decide +kernel
theorem dL_law_285 : decode cL_law 285 = .ok (.aload_n 2, 1) := by decide +kernel
theorem dL_law_286 : decode cL_law 286 = .ok (.aload_n 0, 1) := by decide +kernel
theorem dL_law_287 : decode cL_law 287 = .ok (.iload 4, 2) := by decide +kernel
theorem dL_law_289 : decode cL_law 289 = .ok (.iconst 1, 1) := by decide +kernel
theorem dL_law_290 : decode cL_law 290 = .ok (.iadd, 1) := by decide +kernel
theorem dL_law_291 : decode cL_law 291 = .ok (.iaload, 1) := by decide +kernel
theorem dL_law_292 : decode cL_law 292 = .ok (.invokevirtual 113, 3) := by decide +kernel
theorem dL_law_295 : decode cL_law 295 = .ok (.istore 6, 2) := by decide +kernel
theorem dL_law_297 : decode cL_law 297 = .ok (.aload_n 2, 1) := by decide +kernel
theorem dL_law_298 : decode cL_law 298 = .ok (.invokevirtual 104, 3) := by decide +kernel
theorem dL_law_301 : decode cL_law 301 = .ok (.iload 5, 2) := by decide +kernel
theorem dL_law_303 : decode cL_law 303 = .ok (.if_icmp .eq 5, 3) := by decide +kernel
theorem dL_law_308 : decode cL_law 308 = .ok (.iload 5, 2) := by decide +kernel
theorem dL_law_310 : decode cL_law 310 = .ok (.ifCond .ne 15, 3) := by decide +kernel
theorem dL_law_313 : decode cL_law 313 = .ok (.aload_n 3, 1) := by decide +kernel
theorem dL_law_314 : decode cL_law 314 = .ok (.iconst 0, 1) := by decide +kernel
theorem dL_law_315 : decode cL_law 315 = .ok (.laload, 1) := by decide +kernel
theorem dL_law_316 : decode cL_law 316 = .ok (.iload 6, 2) := by decide +kernel
theorem dL_law_318 : decode cL_law 318 = .ok (.i2l, 1) := by decide +kernel
theorem dL_law_319 : decode cL_law 319 = .ok (.lcmp, 1) := by decide +kernel
theorem dL_law_320 : decode cL_law 320 = .ok (.ifCond .eq 5, 3) := by decide +kernel
theorem dL_law_325 : decode cL_law 325 = .ok (.goto 1701, 3) := by decide +kernel
theorem dL_law_328 : decode cL_law 328 = .ok (.aload_n 1, 1) := by decide +kernel
theorem dL_law_329 : decode cL_law 329 = .ok (.aload_n 0, 1) := by decide +kernel
theorem dL_law_330 : decode cL_law 330 = .ok (.iload 4, 2) := by decide +kernel
theorem dL_law_332 : decode cL_law 332 = .ok (.iconst 1, 1) := by decide +kernel
theorem dL_law_333 : decode cL_law 333 = .ok (.iadd, 1) := by decide +kernel
theorem dL_law_334 : decode cL_law 334 = .ok (.iaload, 1) := by decide +kernel
theorem dL_law_335 : decode cL_law 335 = .ok (.aload_n 0, 1) := by decide +kernel
theorem dL_law_336 : decode cL_law 336 = .ok (.iload 4, 2) := by decide +kernel
theorem dL_law_338 : decode cL_law 338 = .ok (.iconst 2, 1) := by decide +kernel
theorem dL_law_339 : decode cL_law 339 = .ok (.iadd, 1) := by decide +kernel
theorem dL_law_340 : decode cL_law 340 = .ok (.iaload, 1) := by decide +kernel
theorem dL_law_341 : decode cL_law 341 = .ok (.aload_n 3, 1) := by decide +kernel
theorem dL_law_342 : decode cL_law 342 = .ok (.invokestatic 114, 3) := by decide +kernel
theorem dL_law_345 : decode cL_law 345 = .ok (.istore 5, 2) := by decide +kernel
theorem dL_law_347 : decode cL_law 347 = .ok (.aload_n 2, 1) := by decide +kernel
theorem dL_law_348 : decode cL_law 348 = .ok (.aload_n 0, 1) := by decide +kernel
theorem dL_law_349 : decode cL_law 349 = .ok (.iload 4, 2) := by decide +kernel
theorem dL_law_351 : decode cL_law 351 = .ok (.iconst 1, 1) := by decide +kernel
theorem dL_law_352 : decode cL_law 352 = .ok (.iadd, 1) := by decide +kernel
theorem dL_law_353 : decode cL_law 353 = .ok (.iaload, 1) := by decide +kernel
theorem dL_law_354 : decode cL_law 354 = .ok (.aload_n 0, 1) := by decide +kernel
theorem dL_law_355 : decode cL_law 355 = .ok (.iload 4, 2) := by decide +kernel
theorem dL_law_357 : decode cL_law 357 = .ok (.iconst 2, 1) := by decide +kernel
theorem dL_law_358 : decode cL_law 358 = .ok (.iadd, 1) := by decide +kernel
theorem dL_law_359 : decode cL_law 359 = .ok (.iaload, 1) := by decide +kernel
theorem dL_law_360 : decode cL_law 360 = .ok (.invokevirtual 117, 3) := by decide +kernel
theorem dL_law_363 : decode cL_law 363 = .ok (.istore 6, 2) := by decide +kernel
theorem dL_law_365 : decode cL_law 365 = .ok (.aload_n 2, 1) := by decide +kernel
theorem dL_law_366 : decode cL_law 366 = .ok (.invokevirtual 104, 3) := by decide +kernel
theorem dL_law_369 : decode cL_law 369 = .ok (.iload 5, 2) := by decide +kernel
theorem dL_law_371 : decode cL_law 371 = .ok (.if_icmp .eq 5, 3) := by decide +kernel
theorem dL_law_376 : decode cL_law 376 = .ok (.iload 5, 2) := by decide +kernel
theorem dL_law_378 : decode cL_law 378 = .ok (.ifCond .ne 15, 3) := by decide +kernel
theorem dL_law_393 : decode cL_law 393 = .ok (.goto 1633, 3) := by decide +kernel
theorem dL_law_396 : decode cL_law 396 = .ok (.aload_n 1, 1) := by decide +kernel
theorem dL_law_397 : decode cL_law 397 = .ok (.aload_n 0, 1) := by decide +kernel
theorem dL_law_398 : decode cL_law 398 = .ok (.iload 4, 2) := by decide +kernel
theorem dL_law_400 : decode cL_law 400 = .ok (.iconst 1, 1) := by decide +kernel
theorem dL_law_401 : decode cL_law 401 = .ok (.iadd, 1) := by decide +kernel
theorem dL_law_402 : decode cL_law 402 = .ok (.iaload, 1) := by decide +kernel
theorem dL_law_403 : decode cL_law 403 = .ok (.aload_n 0, 1) := by decide +kernel
theorem dL_law_404 : decode cL_law 404 = .ok (.iload 4, 2) := by decide +kernel
theorem dL_law_406 : decode cL_law 406 = .ok (.iconst 2, 1) := by decide +kernel
theorem dL_law_407 : decode cL_law 407 = .ok (.iadd, 1) := by decide +kernel
theorem dL_law_408 : decode cL_law 408 = .ok (.iaload, 1) := by decide +kernel
theorem dL_law_409 : decode cL_law 409 = .ok (.aload_n 3, 1) := by decide +kernel
theorem dL_law_410 : decode cL_law 410 = .ok (.invokestatic 118, 3) := by decide +kernel
theorem dL_law_413 : decode cL_law 413 = .ok (.istore 5, 2) := by decide +kernel
theorem dL_law_415 : decode cL_law 415 = .ok (.aload_n 2, 1) := by decide +kernel
theorem dL_law_416 : decode cL_law 416 = .ok (.aload_n 0, 1) := by decide +kernel
theorem dL_law_417 : decode cL_law 417 = .ok (.iload 4, 2) := by decide +kernel
theorem dL_law_419 : decode cL_law 419 = .ok (.iconst 1, 1) := by decide +kernel
theorem dL_law_420 : decode cL_law 420 = .ok (.iadd, 1) := by decide +kernel
theorem dL_law_421 : decode cL_law 421 = .ok (.iaload, 1) := by decide +kernel
theorem dL_law_422 : decode cL_law 422 = .ok (.aload_n 0, 1) := by decide +kernel
theorem dL_law_423 : decode cL_law 423 = .ok (.iload 4, 2) := by decide +kernel
theorem dL_law_425 : decode cL_law 425 = .ok (.iconst 2, 1) := by decide +kernel
theorem dL_law_426 : decode cL_law 426 = .ok (.iadd, 1) := by decide +kernel
theorem dL_law_427 : decode cL_law 427 = .ok (.iaload, 1) := by decide +kernel
theorem dL_law_428 : decode cL_law 428 = .ok (.invokevirtual 120, 3) := by decide +kernel
theorem dL_law_431 : decode cL_law 431 = .ok (.istore 6, 2) := by decide +kernel
theorem dL_law_433 : decode cL_law 433 = .ok (.aload_n 2, 1) := by decide +kernel
theorem dL_law_434 : decode cL_law 434 = .ok (.invokevirtual 104, 3) := by decide +kernel
theorem dL_law_437 : decode cL_law 437 = .ok (.iload 5, 2) := by decide +kernel
theorem dL_law_439 : decode cL_law 439 = .ok (.if_icmp .eq 5, 3) := by decide +kernel
theorem dL_law_444 : decode cL_law 444 = .ok (.iload 5, 2) := by decide +kernel
theorem dL_law_446 : decode cL_law 446 = .ok (.ifCond .ne 15, 3) := by decide +kernel
theorem dL_law_461 : decode cL_law 461 = .ok (.goto 1565, 3) := by decide +kernel
theorem dL_law_464 : decode cL_law 464 = .ok (.aload_n 1, 1) := by decide +kernel
theorem dL_law_465 : decode cL_law 465 = .ok (.aload_n 0, 1) := by decide +kernel
theorem dL_law_466 : decode cL_law 466 = .ok (.iload 4, 2) := by decide +kernel
theorem dL_law_468 : decode cL_law 468 = .ok (.iconst 1, 1) := by decide +kernel
theorem dL_law_469 : decode cL_law 469 = .ok (.iadd, 1) := by decide +kernel
theorem dL_law_470 : decode cL_law 470 = .ok (.iaload, 1) := by decide +kernel
theorem dL_law_471 : decode cL_law 471 = .ok (.aload_n 0, 1) := by decide +kernel
theorem dL_law_472 : decode cL_law 472 = .ok (.iload 4, 2) := by decide +kernel
theorem dL_law_474 : decode cL_law 474 = .ok (.iconst 2, 1) := by decide +kernel
theorem dL_law_475 : decode cL_law 475 = .ok (.iadd, 1) := by decide +kernel
theorem dL_law_476 : decode cL_law 476 = .ok (.iaload, 1) := by decide +kernel
theorem dL_law_477 : decode cL_law 477 = .ok (.aload_n 0, 1) := by decide +kernel
theorem dL_law_478 : decode cL_law 478 = .ok (.iload 4, 2) := by decide +kernel
theorem dL_law_480 : decode cL_law 480 = .ok (.iconst 3, 1) := by decide +kernel
theorem dL_law_481 : decode cL_law 481 = .ok (.iadd, 1) := by decide +kernel
theorem dL_law_482 : decode cL_law 482 = .ok (.iaload, 1) := by decide +kernel
theorem dL_law_483 : decode cL_law 483 = .ok (.aload_n 3, 1) := by decide +kernel
theorem dL_law_484 : decode cL_law 484 = .ok (.invokestatic 121, 3) := by decide +kernel
theorem dL_law_487 : decode cL_law 487 = .ok (.istore 5, 2) := by decide +kernel
theorem dL_law_489 : decode cL_law 489 = .ok (.aload_n 2, 1) := by decide +kernel
theorem dL_law_490 : decode cL_law 490 = .ok (.aload_n 0, 1) := by decide +kernel
theorem dL_law_491 : decode cL_law 491 = .ok (.iload 4, 2) := by decide +kernel
theorem dL_law_493 : decode cL_law 493 = .ok (.iconst 1, 1) := by decide +kernel
theorem dL_law_494 : decode cL_law 494 = .ok (.iadd, 1) := by decide +kernel
theorem dL_law_495 : decode cL_law 495 = .ok (.iaload, 1) := by decide +kernel
theorem dL_law_496 : decode cL_law 496 = .ok (.aload_n 0, 1) := by decide +kernel
theorem dL_law_497 : decode cL_law 497 = .ok (.iload 4, 2) := by decide +kernel
theorem dL_law_499 : decode cL_law 499 = .ok (.iconst 2, 1) := by decide +kernel
theorem dL_law_500 : decode cL_law 500 = .ok (.iadd, 1) := by decide +kernel
theorem dL_law_501 : decode cL_law 501 = .ok (.iaload, 1) := by decide +kernel
theorem dL_law_502 : decode cL_law 502 = .ok (.aload_n 0, 1) := by decide +kernel
theorem dL_law_503 : decode cL_law 503 = .ok (.iload 4, 2) := by decide +kernel
theorem dL_law_505 : decode cL_law 505 = .ok (.iconst 3, 1) := by decide +kernel
theorem dL_law_506 : decode cL_law 506 = .ok (.iadd, 1) := by decide +kernel
theorem dL_law_507 : decode cL_law 507 = .ok (.iaload, 1) := by decide +kernel
theorem dL_law_508 : decode cL_law 508 = .ok (.invokevirtual 124, 3) := by decide +kernel
theorem dL_law_511 : decode cL_law 511 = .ok (.istore 6, 2) := by decide +kernel
theorem dL_law_513 : decode cL_law 513 = .ok (.aload_n 2, 1) := by decide +kernel
theorem dL_law_514 : decode cL_law 514 = .ok (.invokevirtual 104, 3) := by decide +kernel
theorem dL_law_517 : decode cL_law 517 = .ok (.iload 5, 2) := by decide +kernel
theorem dL_law_519 : decode cL_law 519 = .ok (.if_icmp .eq 5, 3) := by decide +kernel
theorem dL_law_524 : decode cL_law 524 = .ok (.iload 5, 2) := by decide +kernel
theorem dL_law_526 : decode cL_law 526 = .ok (.ifCond .ne 15, 3) := by decide +kernel
theorem dL_law_541 : decode cL_law 541 = .ok (.goto 1485, 3) := by decide +kernel
theorem dL_law_544 : decode cL_law 544 = .ok (.aload_n 1, 1) := by decide +kernel
theorem dL_law_545 : decode cL_law 545 = .ok (.aload_n 0, 1) := by decide +kernel
theorem dL_law_546 : decode cL_law 546 = .ok (.iload 4, 2) := by decide +kernel
theorem dL_law_548 : decode cL_law 548 = .ok (.iconst 1, 1) := by decide +kernel
theorem dL_law_549 : decode cL_law 549 = .ok (.iadd, 1) := by decide +kernel
theorem dL_law_550 : decode cL_law 550 = .ok (.iaload, 1) := by decide +kernel
theorem dL_law_551 : decode cL_law 551 = .ok (.aload_n 0, 1) := by decide +kernel
theorem dL_law_552 : decode cL_law 552 = .ok (.iload 4, 2) := by decide +kernel
theorem dL_law_554 : decode cL_law 554 = .ok (.iconst 2, 1) := by decide +kernel
theorem dL_law_555 : decode cL_law 555 = .ok (.iadd, 1) := by decide +kernel
theorem dL_law_556 : decode cL_law 556 = .ok (.iaload, 1) := by decide +kernel
theorem dL_law_557 : decode cL_law 557 = .ok (.aload_n 0, 1) := by decide +kernel
theorem dL_law_558 : decode cL_law 558 = .ok (.iload 4, 2) := by decide +kernel
theorem dL_law_560 : decode cL_law 560 = .ok (.iconst 3, 1) := by decide +kernel
theorem dL_law_561 : decode cL_law 561 = .ok (.iadd, 1) := by decide +kernel
theorem dL_law_562 : decode cL_law 562 = .ok (.iaload, 1) := by decide +kernel
theorem dL_law_563 : decode cL_law 563 = .ok (.aload_n 3, 1) := by decide +kernel
theorem dL_law_564 : decode cL_law 564 = .ok (.invokestatic 125, 3) := by decide +kernel
theorem dL_law_567 : decode cL_law 567 = .ok (.istore 5, 2) := by decide +kernel
theorem dL_law_569 : decode cL_law 569 = .ok (.aload_n 2, 1) := by decide +kernel
theorem dL_law_570 : decode cL_law 570 = .ok (.aload_n 0, 1) := by decide +kernel
theorem dL_law_571 : decode cL_law 571 = .ok (.iload 4, 2) := by decide +kernel
theorem dL_law_573 : decode cL_law 573 = .ok (.iconst 1, 1) := by decide +kernel
theorem dL_law_574 : decode cL_law 574 = .ok (.iadd, 1) := by decide +kernel
theorem dL_law_575 : decode cL_law 575 = .ok (.iaload, 1) := by decide +kernel
theorem dL_law_576 : decode cL_law 576 = .ok (.aload_n 0, 1) := by decide +kernel
theorem dL_law_577 : decode cL_law 577 = .ok (.iload 4, 2) := by decide +kernel
theorem dL_law_579 : decode cL_law 579 = .ok (.iconst 2, 1) := by decide +kernel
theorem dL_law_580 : decode cL_law 580 = .ok (.iadd, 1) := by decide +kernel
theorem dL_law_581 : decode cL_law 581 = .ok (.iaload, 1) := by decide +kernel
theorem dL_law_582 : decode cL_law 582 = .ok (.aload_n 0, 1) := by decide +kernel
theorem dL_law_583 : decode cL_law 583 = .ok (.iload 4, 2) := by decide +kernel
theorem dL_law_585 : decode cL_law 585 = .ok (.iconst 3, 1) := by decide +kernel
theorem dL_law_586 : decode cL_law 586 = .ok (.iadd, 1) := by decide +kernel
theorem dL_law_587 : decode cL_law 587 = .ok (.iaload, 1) := by decide +kernel
theorem dL_law_588 : decode cL_law 588 = .ok (.invokevirtual 127, 3) := by decide +kernel
theorem dL_law_591 : decode cL_law 591 = .ok (.istore 6, 2) := by decide +kernel
theorem dL_law_593 : decode cL_law 593 = .ok (.aload_n 2, 1) := by decide +kernel
theorem dL_law_594 : decode cL_law 594 = .ok (.invokevirtual 104, 3) := by decide +kernel
theorem dL_law_597 : decode cL_law 597 = .ok (.iload 5, 2) := by decide +kernel
theorem dL_law_599 : decode cL_law 599 = .ok (.if_icmp .eq 5, 3) := by decide +kernel
theorem dL_law_604 : decode cL_law 604 = .ok (.iload 5, 2) := by decide +kernel
theorem dL_law_606 : decode cL_law 606 = .ok (.ifCond .ne 15, 3) := by decide +kernel
theorem dL_law_609 : decode cL_law 609 = .ok (.aload_n 3, 1) := by decide +kernel
theorem dL_law_610 : decode cL_law 610 = .ok (.iconst 0, 1) := by decide +kernel
theorem dL_law_611 : decode cL_law 611 = .ok (.laload, 1) := by decide +kernel
theorem dL_law_612 : decode cL_law 612 = .ok (.iload 6, 2) := by decide +kernel
theorem dL_law_614 : decode cL_law 614 = .ok (.i2l, 1) := by decide +kernel
theorem dL_law_615 : decode cL_law 615 = .ok (.lcmp, 1) := by decide +kernel
theorem dL_law_616 : decode cL_law 616 = .ok (.ifCond .eq 5, 3) := by decide +kernel
theorem dL_law_621 : decode cL_law 621 = .ok (.goto 1405, 3) := by decide +kernel
theorem dL_law_624 : decode cL_law 624 = .ok (.aload_n 1, 1) := by decide +kernel
theorem dL_law_625 : decode cL_law 625 = .ok (.aload_n 0, 1) := by decide +kernel
theorem dL_law_626 : decode cL_law 626 = .ok (.iload 4, 2) := by decide +kernel
theorem dL_law_628 : decode cL_law 628 = .ok (.iconst 1, 1) := by decide +kernel
theorem dL_law_629 : decode cL_law 629 = .ok (.iadd, 1) := by decide +kernel
theorem dL_law_630 : decode cL_law 630 = .ok (.iaload, 1) := by decide +kernel
theorem dL_law_631 : decode cL_law 631 = .ok (.aload_n 0, 1) := by decide +kernel
theorem dL_law_632 : decode cL_law 632 = .ok (.iload 4, 2) := by decide +kernel
theorem dL_law_634 : decode cL_law 634 = .ok (.iconst 2, 1) := by decide +kernel
theorem dL_law_635 : decode cL_law 635 = .ok (.iadd, 1) := by decide +kernel
theorem dL_law_636 : decode cL_law 636 = .ok (.iaload, 1) := by decide +kernel
theorem dL_law_637 : decode cL_law 637 = .ok (.aload_n 0, 1) := by decide +kernel
theorem dL_law_638 : decode cL_law 638 = .ok (.iload 4, 2) := by decide +kernel
theorem dL_law_640 : decode cL_law 640 = .ok (.iconst 3, 1) := by decide +kernel
theorem dL_law_641 : decode cL_law 641 = .ok (.iadd, 1) := by decide +kernel
theorem dL_law_642 : decode cL_law 642 = .ok (.iaload, 1) := by decide +kernel
theorem dL_law_643 : decode cL_law 643 = .ok (.aload_n 0, 1) := by decide +kernel
theorem dL_law_644 : decode cL_law 644 = .ok (.iload 4, 2) := by decide +kernel
theorem dL_law_646 : decode cL_law 646 = .ok (.iconst 4, 1) := by decide +kernel
theorem dL_law_647 : decode cL_law 647 = .ok (.iadd, 1) := by decide +kernel
theorem dL_law_648 : decode cL_law 648 = .ok (.iaload, 1) := by decide +kernel
theorem dL_law_649 : decode cL_law 649 = .ok (.aload_n 0, 1) := by decide +kernel
theorem dL_law_650 : decode cL_law 650 = .ok (.iload 4, 2) := by decide +kernel
theorem dL_law_652 : decode cL_law 652 = .ok (.iconst 5, 1) := by decide +kernel
theorem dL_law_653 : decode cL_law 653 = .ok (.iadd, 1) := by decide +kernel
theorem dL_law_654 : decode cL_law 654 = .ok (.iaload, 1) := by decide +kernel
theorem dL_law_655 : decode cL_law 655 = .ok (.aload_n 0, 1) := by decide +kernel
theorem dL_law_656 : decode cL_law 656 = .ok (.iload 4, 2) := by decide +kernel
theorem dL_law_658 : decode cL_law 658 = .ok (.bipush 6, 2) := by decide +kernel
theorem dL_law_660 : decode cL_law 660 = .ok (.iadd, 1) := by decide +kernel
theorem dL_law_661 : decode cL_law 661 = .ok (.iaload, 1) := by decide +kernel
theorem dL_law_662 : decode cL_law 662 = .ok (.aload_n 3, 1) := by decide +kernel
theorem dL_law_663 : decode cL_law 663 = .ok (.invokestatic 128, 3) := by decide +kernel
theorem dL_law_666 : decode cL_law 666 = .ok (.istore 5, 2) := by decide +kernel
theorem dL_law_668 : decode cL_law 668 = .ok (.aload_n 2, 1) := by decide +kernel
theorem dL_law_669 : decode cL_law 669 = .ok (.aload_n 0, 1) := by decide +kernel
theorem dL_law_670 : decode cL_law 670 = .ok (.iload 4, 2) := by decide +kernel
theorem dL_law_672 : decode cL_law 672 = .ok (.iconst 1, 1) := by decide +kernel
theorem dL_law_673 : decode cL_law 673 = .ok (.iadd, 1) := by decide +kernel
theorem dL_law_674 : decode cL_law 674 = .ok (.iaload, 1) := by decide +kernel
theorem dL_law_675 : decode cL_law 675 = .ok (.aload_n 0, 1) := by decide +kernel
theorem dL_law_676 : decode cL_law 676 = .ok (.iload 4, 2) := by decide +kernel
theorem dL_law_678 : decode cL_law 678 = .ok (.iconst 2, 1) := by decide +kernel
theorem dL_law_679 : decode cL_law 679 = .ok (.iadd, 1) := by decide +kernel
theorem dL_law_680 : decode cL_law 680 = .ok (.iaload, 1) := by decide +kernel
theorem dL_law_681 : decode cL_law 681 = .ok (.aload_n 0, 1) := by decide +kernel
theorem dL_law_682 : decode cL_law 682 = .ok (.iload 4, 2) := by decide +kernel
theorem dL_law_684 : decode cL_law 684 = .ok (.iconst 3, 1) := by decide +kernel
theorem dL_law_685 : decode cL_law 685 = .ok (.iadd, 1) := by decide +kernel
theorem dL_law_686 : decode cL_law 686 = .ok (.iaload, 1) := by decide +kernel
theorem dL_law_687 : decode cL_law 687 = .ok (.aload_n 0, 1) := by decide +kernel
theorem dL_law_688 : decode cL_law 688 = .ok (.iload 4, 2) := by decide +kernel
theorem dL_law_690 : decode cL_law 690 = .ok (.iconst 4, 1) := by decide +kernel
theorem dL_law_691 : decode cL_law 691 = .ok (.iadd, 1) := by decide +kernel
theorem dL_law_692 : decode cL_law 692 = .ok (.iaload, 1) := by decide +kernel
theorem dL_law_693 : decode cL_law 693 = .ok (.aload_n 0, 1) := by decide +kernel
theorem dL_law_694 : decode cL_law 694 = .ok (.iload 4, 2) := by decide +kernel
theorem dL_law_696 : decode cL_law 696 = .ok (.iconst 5, 1) := by decide +kernel
theorem dL_law_697 : decode cL_law 697 = .ok (.iadd, 1) := by decide +kernel
theorem dL_law_698 : decode cL_law 698 = .ok (.iaload, 1) := by decide +kernel
theorem dL_law_699 : decode cL_law 699 = .ok (.aload_n 0, 1) := by decide +kernel
theorem dL_law_700 : decode cL_law 700 = .ok (.iload 4, 2) := by decide +kernel
theorem dL_law_702 : decode cL_law 702 = .ok (.bipush 6, 2) := by decide +kernel
theorem dL_law_704 : decode cL_law 704 = .ok (.iadd, 1) := by decide +kernel
theorem dL_law_705 : decode cL_law 705 = .ok (.iaload, 1) := by decide +kernel
theorem dL_law_706 : decode cL_law 706 = .ok (.invokevirtual 131, 3) := by decide +kernel
theorem dL_law_709 : decode cL_law 709 = .ok (.istore 6, 2) := by decide +kernel
theorem dL_law_711 : decode cL_law 711 = .ok (.aload_n 2, 1) := by decide +kernel
theorem dL_law_712 : decode cL_law 712 = .ok (.invokevirtual 104, 3) := by decide +kernel
theorem dL_law_715 : decode cL_law 715 = .ok (.iload 5, 2) := by decide +kernel
theorem dL_law_717 : decode cL_law 717 = .ok (.if_icmp .eq 5, 3) := by decide +kernel
theorem dL_law_722 : decode cL_law 722 = .ok (.iload 5, 2) := by decide +kernel
theorem dL_law_724 : decode cL_law 724 = .ok (.ifCond .ne 15, 3) := by decide +kernel
theorem dL_law_739 : decode cL_law 739 = .ok (.goto 1287, 3) := by decide +kernel
theorem dL_law_742 : decode cL_law 742 = .ok (.aload_n 1, 1) := by decide +kernel
theorem dL_law_743 : decode cL_law 743 = .ok (.aload_n 0, 1) := by decide +kernel
theorem dL_law_744 : decode cL_law 744 = .ok (.iload 4, 2) := by decide +kernel
theorem dL_law_746 : decode cL_law 746 = .ok (.iconst 1, 1) := by decide +kernel
theorem dL_law_747 : decode cL_law 747 = .ok (.iadd, 1) := by decide +kernel
theorem dL_law_748 : decode cL_law 748 = .ok (.iaload, 1) := by decide +kernel
theorem dL_law_749 : decode cL_law 749 = .ok (.aload_n 0, 1) := by decide +kernel
theorem dL_law_750 : decode cL_law 750 = .ok (.iload 4, 2) := by decide +kernel
theorem dL_law_752 : decode cL_law 752 = .ok (.iconst 2, 1) := by decide +kernel
theorem dL_law_753 : decode cL_law 753 = .ok (.iadd, 1) := by decide +kernel
theorem dL_law_754 : decode cL_law 754 = .ok (.iaload, 1) := by decide +kernel
theorem dL_law_755 : decode cL_law 755 = .ok (.aload_n 0, 1) := by decide +kernel
theorem dL_law_756 : decode cL_law 756 = .ok (.iload 4, 2) := by decide +kernel
theorem dL_law_758 : decode cL_law 758 = .ok (.iconst 3, 1) := by decide +kernel
theorem dL_law_759 : decode cL_law 759 = .ok (.iadd, 1) := by decide +kernel
theorem dL_law_760 : decode cL_law 760 = .ok (.iaload, 1) := by decide +kernel
theorem dL_law_761 : decode cL_law 761 = .ok (.aload_n 3, 1) := by decide +kernel
theorem dL_law_762 : decode cL_law 762 = .ok (.invokestatic 132, 3) := by decide +kernel
theorem dL_law_765 : decode cL_law 765 = .ok (.istore 5, 2) := by decide +kernel
theorem dL_law_767 : decode cL_law 767 = .ok (.aload_n 2, 1) := by decide +kernel
theorem dL_law_768 : decode cL_law 768 = .ok (.aload_n 0, 1) := by decide +kernel
theorem dL_law_769 : decode cL_law 769 = .ok (.iload 4, 2) := by decide +kernel
theorem dL_law_771 : decode cL_law 771 = .ok (.iconst 1, 1) := by decide +kernel
theorem dL_law_772 : decode cL_law 772 = .ok (.iadd, 1) := by decide +kernel
theorem dL_law_773 : decode cL_law 773 = .ok (.iaload, 1) := by decide +kernel
theorem dL_law_774 : decode cL_law 774 = .ok (.aload_n 0, 1) := by decide +kernel
theorem dL_law_775 : decode cL_law 775 = .ok (.iload 4, 2) := by decide +kernel
theorem dL_law_777 : decode cL_law 777 = .ok (.iconst 2, 1) := by decide +kernel
theorem dL_law_778 : decode cL_law 778 = .ok (.iadd, 1) := by decide +kernel
theorem dL_law_779 : decode cL_law 779 = .ok (.iaload, 1) := by decide +kernel
theorem dL_law_780 : decode cL_law 780 = .ok (.aload_n 0, 1) := by decide +kernel
theorem dL_law_781 : decode cL_law 781 = .ok (.iload 4, 2) := by decide +kernel
theorem dL_law_783 : decode cL_law 783 = .ok (.iconst 3, 1) := by decide +kernel
theorem dL_law_784 : decode cL_law 784 = .ok (.iadd, 1) := by decide +kernel
theorem dL_law_785 : decode cL_law 785 = .ok (.iaload, 1) := by decide +kernel
theorem dL_law_786 : decode cL_law 786 = .ok (.invokevirtual 134, 3) := by decide +kernel
theorem dL_law_789 : decode cL_law 789 = .ok (.istore 6, 2) := by decide +kernel
theorem dL_law_791 : decode cL_law 791 = .ok (.aload_n 2, 1) := by decide +kernel
theorem dL_law_792 : decode cL_law 792 = .ok (.invokevirtual 104, 3) := by decide +kernel
theorem dL_law_795 : decode cL_law 795 = .ok (.iload 5, 2) := by decide +kernel
theorem dL_law_797 : decode cL_law 797 = .ok (.if_icmp .eq 5, 3) := by decide +kernel
theorem dL_law_802 : decode cL_law 802 = .ok (.iload 5, 2) := by decide +kernel
theorem dL_law_804 : decode cL_law 804 = .ok (.ifCond .ne 15, 3) := by decide +kernel
theorem dL_law_819 : decode cL_law 819 = .ok (.goto 1207, 3) := by decide +kernel
theorem dL_law_822 : decode cL_law 822 = .ok (.aload_n 1, 1) := by decide +kernel
theorem dL_law_823 : decode cL_law 823 = .ok (.aload_n 0, 1) := by decide +kernel
theorem dL_law_824 : decode cL_law 824 = .ok (.iload 4, 2) := by decide +kernel
theorem dL_law_826 : decode cL_law 826 = .ok (.iconst 1, 1) := by decide +kernel
theorem dL_law_827 : decode cL_law 827 = .ok (.iadd, 1) := by decide +kernel
theorem dL_law_828 : decode cL_law 828 = .ok (.iaload, 1) := by decide +kernel
theorem dL_law_829 : decode cL_law 829 = .ok (.aload_n 0, 1) := by decide +kernel
theorem dL_law_830 : decode cL_law 830 = .ok (.iload 4, 2) := by decide +kernel
theorem dL_law_832 : decode cL_law 832 = .ok (.iconst 2, 1) := by decide +kernel
theorem dL_law_833 : decode cL_law 833 = .ok (.iadd, 1) := by decide +kernel
theorem dL_law_834 : decode cL_law 834 = .ok (.iaload, 1) := by decide +kernel
theorem dL_law_835 : decode cL_law 835 = .ok (.aload_n 0, 1) := by decide +kernel
theorem dL_law_836 : decode cL_law 836 = .ok (.iload 4, 2) := by decide +kernel
theorem dL_law_838 : decode cL_law 838 = .ok (.iconst 3, 1) := by decide +kernel
theorem dL_law_839 : decode cL_law 839 = .ok (.iadd, 1) := by decide +kernel
theorem dL_law_840 : decode cL_law 840 = .ok (.iaload, 1) := by decide +kernel
theorem dL_law_841 : decode cL_law 841 = .ok (.aload_n 3, 1) := by decide +kernel
theorem dL_law_842 : decode cL_law 842 = .ok (.invokestatic 135, 3) := by decide +kernel
theorem dL_law_845 : decode cL_law 845 = .ok (.istore 5, 2) := by decide +kernel
theorem dL_law_847 : decode cL_law 847 = .ok (.aload_n 2, 1) := by decide +kernel
theorem dL_law_848 : decode cL_law 848 = .ok (.aload_n 0, 1) := by decide +kernel
theorem dL_law_849 : decode cL_law 849 = .ok (.iload 4, 2) := by decide +kernel
theorem dL_law_851 : decode cL_law 851 = .ok (.iconst 1, 1) := by decide +kernel
theorem dL_law_852 : decode cL_law 852 = .ok (.iadd, 1) := by decide +kernel
theorem dL_law_853 : decode cL_law 853 = .ok (.iaload, 1) := by decide +kernel
theorem dL_law_854 : decode cL_law 854 = .ok (.aload_n 0, 1) := by decide +kernel
theorem dL_law_855 : decode cL_law 855 = .ok (.iload 4, 2) := by decide +kernel
theorem dL_law_857 : decode cL_law 857 = .ok (.iconst 2, 1) := by decide +kernel
theorem dL_law_858 : decode cL_law 858 = .ok (.iadd, 1) := by decide +kernel
theorem dL_law_859 : decode cL_law 859 = .ok (.iaload, 1) := by decide +kernel
theorem dL_law_860 : decode cL_law 860 = .ok (.aload_n 0, 1) := by decide +kernel
theorem dL_law_861 : decode cL_law 861 = .ok (.iload 4, 2) := by decide +kernel
theorem dL_law_863 : decode cL_law 863 = .ok (.iconst 3, 1) := by decide +kernel
theorem dL_law_864 : decode cL_law 864 = .ok (.iadd, 1) := by decide +kernel
theorem dL_law_865 : decode cL_law 865 = .ok (.iaload, 1) := by decide +kernel
theorem dL_law_866 : decode cL_law 866 = .ok (.invokevirtual 137, 3) := by decide +kernel
theorem dL_law_869 : decode cL_law 869 = .ok (.istore 6, 2) := by decide +kernel
theorem dL_law_871 : decode cL_law 871 = .ok (.aload_n 2, 1) := by decide +kernel
theorem dL_law_872 : decode cL_law 872 = .ok (.invokevirtual 104, 3) := by decide +kernel
theorem dL_law_875 : decode cL_law 875 = .ok (.iload 5, 2) := by decide +kernel
theorem dL_law_877 : decode cL_law 877 = .ok (.if_icmp .eq 5, 3) := by decide +kernel
theorem dL_law_882 : decode cL_law 882 = .ok (.iload 5, 2) := by decide +kernel
theorem dL_law_884 : decode cL_law 884 = .ok (.ifCond .ne 15, 3) := by decide +kernel
theorem dL_law_899 : decode cL_law 899 = .ok (.goto 1127, 3) := by decide +kernel
theorem dL_law_902 : decode cL_law 902 = .ok (.aload_n 1, 1) := by decide +kernel
theorem dL_law_903 : decode cL_law 903 = .ok (.aload_n 0, 1) := by decide +kernel
theorem dL_law_904 : decode cL_law 904 = .ok (.iload 4, 2) := by decide +kernel
theorem dL_law_906 : decode cL_law 906 = .ok (.iconst 1, 1) := by decide +kernel
theorem dL_law_907 : decode cL_law 907 = .ok (.iadd, 1) := by decide +kernel
theorem dL_law_908 : decode cL_law 908 = .ok (.iaload, 1) := by decide +kernel
theorem dL_law_909 : decode cL_law 909 = .ok (.aload_n 0, 1) := by decide +kernel
theorem dL_law_910 : decode cL_law 910 = .ok (.iload 4, 2) := by decide +kernel
theorem dL_law_912 : decode cL_law 912 = .ok (.iconst 2, 1) := by decide +kernel
theorem dL_law_913 : decode cL_law 913 = .ok (.iadd, 1) := by decide +kernel
theorem dL_law_914 : decode cL_law 914 = .ok (.iaload, 1) := by decide +kernel
theorem dL_law_915 : decode cL_law 915 = .ok (.aload_n 3, 1) := by decide +kernel
theorem dL_law_916 : decode cL_law 916 = .ok (.invokestatic 138, 3) := by decide +kernel
theorem dL_law_919 : decode cL_law 919 = .ok (.istore 5, 2) := by decide +kernel
theorem dL_law_921 : decode cL_law 921 = .ok (.aload_n 2, 1) := by decide +kernel
theorem dL_law_922 : decode cL_law 922 = .ok (.aload_n 0, 1) := by decide +kernel
theorem dL_law_923 : decode cL_law 923 = .ok (.iload 4, 2) := by decide +kernel
theorem dL_law_925 : decode cL_law 925 = .ok (.iconst 1, 1) := by decide +kernel
theorem dL_law_926 : decode cL_law 926 = .ok (.iadd, 1) := by decide +kernel
theorem dL_law_927 : decode cL_law 927 = .ok (.iaload, 1) := by decide +kernel
theorem dL_law_928 : decode cL_law 928 = .ok (.aload_n 0, 1) := by decide +kernel
theorem dL_law_929 : decode cL_law 929 = .ok (.iload 4, 2) := by decide +kernel
theorem dL_law_931 : decode cL_law 931 = .ok (.iconst 2, 1) := by decide +kernel
theorem dL_law_932 : decode cL_law 932 = .ok (.iadd, 1) := by decide +kernel
theorem dL_law_933 : decode cL_law 933 = .ok (.iaload, 1) := by decide +kernel
theorem dL_law_934 : decode cL_law 934 = .ok (.invokevirtual 140, 3) := by decide +kernel
theorem dL_law_937 : decode cL_law 937 = .ok (.istore 6, 2) := by decide +kernel
theorem dL_law_939 : decode cL_law 939 = .ok (.aload_n 2, 1) := by decide +kernel
theorem dL_law_940 : decode cL_law 940 = .ok (.invokevirtual 104, 3) := by decide +kernel
theorem dL_law_943 : decode cL_law 943 = .ok (.iload 5, 2) := by decide +kernel
theorem dL_law_945 : decode cL_law 945 = .ok (.if_icmp .eq 5, 3) := by decide +kernel
theorem dL_law_950 : decode cL_law 950 = .ok (.iload 5, 2) := by decide +kernel
theorem dL_law_952 : decode cL_law 952 = .ok (.ifCond .ne 15, 3) := by decide +kernel
theorem dL_law_967 : decode cL_law 967 = .ok (.goto 1059, 3) := by decide +kernel
theorem dL_law_970 : decode cL_law 970 = .ok (.aload_n 1, 1) := by decide +kernel
theorem dL_law_971 : decode cL_law 971 = .ok (.aload_n 0, 1) := by decide +kernel
theorem dL_law_972 : decode cL_law 972 = .ok (.iload 4, 2) := by decide +kernel
theorem dL_law_974 : decode cL_law 974 = .ok (.iconst 1, 1) := by decide +kernel
theorem dL_law_975 : decode cL_law 975 = .ok (.iadd, 1) := by decide +kernel
theorem dL_law_976 : decode cL_law 976 = .ok (.iaload, 1) := by decide +kernel
theorem dL_law_977 : decode cL_law 977 = .ok (.aload_n 3, 1) := by decide +kernel
theorem dL_law_978 : decode cL_law 978 = .ok (.invokestatic 141, 3) := by decide +kernel
theorem dL_law_981 : decode cL_law 981 = .ok (.istore 5, 2) := by decide +kernel
theorem dL_law_983 : decode cL_law 983 = .ok (.aload_n 2, 1) := by decide +kernel
theorem dL_law_984 : decode cL_law 984 = .ok (.aload_n 0, 1) := by decide +kernel
theorem dL_law_985 : decode cL_law 985 = .ok (.iload 4, 2) := by decide +kernel
theorem dL_law_987 : decode cL_law 987 = .ok (.iconst 1, 1) := by decide +kernel
theorem dL_law_988 : decode cL_law 988 = .ok (.iadd, 1) := by decide +kernel
theorem dL_law_989 : decode cL_law 989 = .ok (.iaload, 1) := by decide +kernel
theorem dL_law_990 : decode cL_law 990 = .ok (.invokevirtual 143, 3) := by decide +kernel
theorem dL_law_993 : decode cL_law 993 = .ok (.istore 6, 2) := by decide +kernel
theorem dL_law_995 : decode cL_law 995 = .ok (.aload_n 2, 1) := by decide +kernel
theorem dL_law_996 : decode cL_law 996 = .ok (.invokevirtual 104, 3) := by decide +kernel
theorem dL_law_999 : decode cL_law 999 = .ok (.iload 5, 2) := by decide +kernel
theorem dL_law_1001 : decode cL_law 1001 = .ok (.if_icmp .eq 5, 3) := by decide +kernel
theorem dL_law_1006 : decode cL_law 1006 = .ok (.iload 5, 2) := by decide +kernel
theorem dL_law_1008 : decode cL_law 1008 = .ok (.ifCond .ne 15, 3) := by decide +kernel
theorem dL_law_1023 : decode cL_law 1023 = .ok (.goto 1003, 3) := by decide +kernel
theorem dL_law_1026 : decode cL_law 1026 = .ok (.aload_n 1, 1) := by decide +kernel
theorem dL_law_1027 : decode cL_law 1027 = .ok (.aload_n 0, 1) := by decide +kernel
theorem dL_law_1028 : decode cL_law 1028 = .ok (.iload 4, 2) := by decide +kernel
theorem dL_law_1030 : decode cL_law 1030 = .ok (.iconst 1, 1) := by decide +kernel
theorem dL_law_1031 : decode cL_law 1031 = .ok (.iadd, 1) := by decide +kernel
theorem dL_law_1032 : decode cL_law 1032 = .ok (.iaload, 1) := by decide +kernel
theorem dL_law_1033 : decode cL_law 1033 = .ok (.aload_n 0, 1) := by decide +kernel
theorem dL_law_1034 : decode cL_law 1034 = .ok (.iload 4, 2) := by decide +kernel
theorem dL_law_1036 : decode cL_law 1036 = .ok (.iconst 2, 1) := by decide +kernel
theorem dL_law_1037 : decode cL_law 1037 = .ok (.iadd, 1) := by decide +kernel
theorem dL_law_1038 : decode cL_law 1038 = .ok (.iaload, 1) := by decide +kernel
theorem dL_law_1039 : decode cL_law 1039 = .ok (.aload_n 0, 1) := by decide +kernel
theorem dL_law_1040 : decode cL_law 1040 = .ok (.iload 4, 2) := by decide +kernel
theorem dL_law_1042 : decode cL_law 1042 = .ok (.iconst 3, 1) := by decide +kernel
theorem dL_law_1043 : decode cL_law 1043 = .ok (.iadd, 1) := by decide +kernel
theorem dL_law_1044 : decode cL_law 1044 = .ok (.iaload, 1) := by decide +kernel
theorem dL_law_1045 : decode cL_law 1045 = .ok (.aload_n 3, 1) := by decide +kernel
theorem dL_law_1046 : decode cL_law 1046 = .ok (.invokestatic 144, 3) := by decide +kernel
theorem dL_law_1049 : decode cL_law 1049 = .ok (.istore 5, 2) := by decide +kernel
theorem dL_law_1051 : decode cL_law 1051 = .ok (.aload_n 2, 1) := by decide +kernel
theorem dL_law_1052 : decode cL_law 1052 = .ok (.aload_n 0, 1) := by decide +kernel
theorem dL_law_1053 : decode cL_law 1053 = .ok (.iload 4, 2) := by decide +kernel
theorem dL_law_1055 : decode cL_law 1055 = .ok (.iconst 1, 1) := by decide +kernel
theorem dL_law_1056 : decode cL_law 1056 = .ok (.iadd, 1) := by decide +kernel
theorem dL_law_1057 : decode cL_law 1057 = .ok (.iaload, 1) := by decide +kernel
theorem dL_law_1058 : decode cL_law 1058 = .ok (.aload_n 0, 1) := by decide +kernel
theorem dL_law_1059 : decode cL_law 1059 = .ok (.iload 4, 2) := by decide +kernel
theorem dL_law_1061 : decode cL_law 1061 = .ok (.iconst 2, 1) := by decide +kernel
theorem dL_law_1062 : decode cL_law 1062 = .ok (.iadd, 1) := by decide +kernel
theorem dL_law_1063 : decode cL_law 1063 = .ok (.iaload, 1) := by decide +kernel
theorem dL_law_1064 : decode cL_law 1064 = .ok (.aload_n 0, 1) := by decide +kernel
theorem dL_law_1065 : decode cL_law 1065 = .ok (.iload 4, 2) := by decide +kernel
theorem dL_law_1067 : decode cL_law 1067 = .ok (.iconst 3, 1) := by decide +kernel
theorem dL_law_1068 : decode cL_law 1068 = .ok (.iadd, 1) := by decide +kernel
theorem dL_law_1069 : decode cL_law 1069 = .ok (.iaload, 1) := by decide +kernel
theorem dL_law_1070 : decode cL_law 1070 = .ok (.invokevirtual 146, 3) := by decide +kernel
theorem dL_law_1073 : decode cL_law 1073 = .ok (.istore 6, 2) := by decide +kernel
theorem dL_law_1075 : decode cL_law 1075 = .ok (.aload_n 2, 1) := by decide +kernel
theorem dL_law_1076 : decode cL_law 1076 = .ok (.invokevirtual 104, 3) := by decide +kernel
theorem dL_law_1079 : decode cL_law 1079 = .ok (.iload 5, 2) := by decide +kernel
theorem dL_law_1081 : decode cL_law 1081 = .ok (.if_icmp .eq 5, 3) := by decide +kernel
theorem dL_law_1086 : decode cL_law 1086 = .ok (.iload 5, 2) := by decide +kernel
theorem dL_law_1088 : decode cL_law 1088 = .ok (.ifCond .ne 15, 3) := by decide +kernel
theorem dL_law_1103 : decode cL_law 1103 = .ok (.goto 923, 3) := by decide +kernel
theorem dL_law_1106 : decode cL_law 1106 = .ok (.aload_n 1, 1) := by decide +kernel
theorem dL_law_1107 : decode cL_law 1107 = .ok (.aload_n 0, 1) := by decide +kernel
theorem dL_law_1108 : decode cL_law 1108 = .ok (.iload 4, 2) := by decide +kernel
theorem dL_law_1110 : decode cL_law 1110 = .ok (.iconst 1, 1) := by decide +kernel
theorem dL_law_1111 : decode cL_law 1111 = .ok (.iadd, 1) := by decide +kernel
theorem dL_law_1112 : decode cL_law 1112 = .ok (.iaload, 1) := by decide +kernel
theorem dL_law_1113 : decode cL_law 1113 = .ok (.aload_n 0, 1) := by decide +kernel
theorem dL_law_1114 : decode cL_law 1114 = .ok (.iload 4, 2) := by decide +kernel
theorem dL_law_1116 : decode cL_law 1116 = .ok (.iconst 2, 1) := by decide +kernel
theorem dL_law_1117 : decode cL_law 1117 = .ok (.iadd, 1) := by decide +kernel
theorem dL_law_1118 : decode cL_law 1118 = .ok (.iaload, 1) := by decide +kernel
theorem dL_law_1119 : decode cL_law 1119 = .ok (.aload_n 3, 1) := by decide +kernel
theorem dL_law_1120 : decode cL_law 1120 = .ok (.invokestatic 147, 3) := by decide +kernel
theorem dL_law_1123 : decode cL_law 1123 = .ok (.istore 5, 2) := by decide +kernel
theorem dL_law_1125 : decode cL_law 1125 = .ok (.aload_n 2, 1) := by decide +kernel
theorem dL_law_1126 : decode cL_law 1126 = .ok (.aload_n 0, 1) := by decide +kernel
theorem dL_law_1127 : decode cL_law 1127 = .ok (.iload 4, 2) := by decide +kernel
theorem dL_law_1129 : decode cL_law 1129 = .ok (.iconst 1, 1) := by decide +kernel
theorem dL_law_1130 : decode cL_law 1130 = .ok (.iadd, 1) := by decide +kernel
theorem dL_law_1131 : decode cL_law 1131 = .ok (.iaload, 1) := by decide +kernel
theorem dL_law_1132 : decode cL_law 1132 = .ok (.aload_n 0, 1) := by decide +kernel
theorem dL_law_1133 : decode cL_law 1133 = .ok (.iload 4, 2) := by decide +kernel
theorem dL_law_1135 : decode cL_law 1135 = .ok (.iconst 2, 1) := by decide +kernel
theorem dL_law_1136 : decode cL_law 1136 = .ok (.iadd, 1) := by decide +kernel
theorem dL_law_1137 : decode cL_law 1137 = .ok (.iaload, 1) := by decide +kernel
theorem dL_law_1138 : decode cL_law 1138 = .ok (.invokevirtual 149, 3) := by decide +kernel
theorem dL_law_1141 : decode cL_law 1141 = .ok (.istore 6, 2) := by decide +kernel
theorem dL_law_1143 : decode cL_law 1143 = .ok (.aload_n 2, 1) := by decide +kernel
theorem dL_law_1144 : decode cL_law 1144 = .ok (.invokevirtual 104, 3) := by decide +kernel
theorem dL_law_1147 : decode cL_law 1147 = .ok (.iload 5, 2) := by decide +kernel
theorem dL_law_1149 : decode cL_law 1149 = .ok (.if_icmp .eq 5, 3) := by decide +kernel
theorem dL_law_1154 : decode cL_law 1154 = .ok (.iload 5, 2) := by decide +kernel
theorem dL_law_1156 : decode cL_law 1156 = .ok (.ifCond .ne 15, 3) := by decide +kernel
theorem dL_law_1171 : decode cL_law 1171 = .ok (.goto 855, 3) := by decide +kernel
theorem dL_law_1174 : decode cL_law 1174 = .ok (.aload_n 1, 1) := by decide +kernel
theorem dL_law_1175 : decode cL_law 1175 = .ok (.aload_n 0, 1) := by decide +kernel
theorem dL_law_1176 : decode cL_law 1176 = .ok (.iload 4, 2) := by decide +kernel
theorem dL_law_1178 : decode cL_law 1178 = .ok (.iconst 1, 1) := by decide +kernel
theorem dL_law_1179 : decode cL_law 1179 = .ok (.iadd, 1) := by decide +kernel
theorem dL_law_1180 : decode cL_law 1180 = .ok (.iaload, 1) := by decide +kernel
theorem dL_law_1181 : decode cL_law 1181 = .ok (.aload_n 0, 1) := by decide +kernel
theorem dL_law_1182 : decode cL_law 1182 = .ok (.iload 4, 2) := by decide +kernel
theorem dL_law_1184 : decode cL_law 1184 = .ok (.iconst 2, 1) := by decide +kernel
theorem dL_law_1185 : decode cL_law 1185 = .ok (.iadd, 1) := by decide +kernel
theorem dL_law_1186 : decode cL_law 1186 = .ok (.iaload, 1) := by decide +kernel
theorem dL_law_1187 : decode cL_law 1187 = .ok (.aload_n 3, 1) := by decide +kernel
theorem dL_law_1188 : decode cL_law 1188 = .ok (.invokestatic 150, 3) := by decide +kernel
theorem dL_law_1191 : decode cL_law 1191 = .ok (.istore 5, 2) := by decide +kernel
theorem dL_law_1193 : decode cL_law 1193 = .ok (.aload_n 2, 1) := by decide +kernel
theorem dL_law_1194 : decode cL_law 1194 = .ok (.aload_n 0, 1) := by decide +kernel
theorem dL_law_1195 : decode cL_law 1195 = .ok (.iload 4, 2) := by decide +kernel
theorem dL_law_1197 : decode cL_law 1197 = .ok (.iconst 1, 1) := by decide +kernel
theorem dL_law_1198 : decode cL_law 1198 = .ok (.iadd, 1) := by decide +kernel
theorem dL_law_1199 : decode cL_law 1199 = .ok (.iaload, 1) := by decide +kernel
theorem dL_law_1200 : decode cL_law 1200 = .ok (.aload_n 0, 1) := by decide +kernel
theorem dL_law_1201 : decode cL_law 1201 = .ok (.iload 4, 2) := by decide +kernel
theorem dL_law_1203 : decode cL_law 1203 = .ok (.iconst 2, 1) := by decide +kernel
theorem dL_law_1204 : decode cL_law 1204 = .ok (.iadd, 1) := by decide +kernel
theorem dL_law_1205 : decode cL_law 1205 = .ok (.iaload, 1) := by decide +kernel
theorem dL_law_1206 : decode cL_law 1206 = .ok (.invokevirtual 152, 3) := by decide +kernel
theorem dL_law_1209 : decode cL_law 1209 = .ok (.istore 6, 2) := by decide +kernel
theorem dL_law_1211 : decode cL_law 1211 = .ok (.aload_n 2, 1) := by decide +kernel
theorem dL_law_1212 : decode cL_law 1212 = .ok (.invokevirtual 104, 3) := by decide +kernel
theorem dL_law_1215 : decode cL_law 1215 = .ok (.iload 5, 2) := by decide +kernel
theorem dL_law_1217 : decode cL_law 1217 = .ok (.if_icmp .eq 5, 3) := by decide +kernel
theorem dL_law_1222 : decode cL_law 1222 = .ok (.iload 5, 2) := by decide +kernel
theorem dL_law_1224 : decode cL_law 1224 = .ok (.ifCond .ne 15, 3) := by decide +kernel
theorem dL_law_1239 : decode cL_law 1239 = .ok (.goto 787, 3) := by decide +kernel
theorem dL_law_1242 : decode cL_law 1242 = .ok (.aload_n 1, 1) := by decide +kernel
theorem dL_law_1243 : decode cL_law 1243 = .ok (.aload_n 0, 1) := by decide +kernel
theorem dL_law_1244 : decode cL_law 1244 = .ok (.iload 4, 2) := by decide +kernel
theorem dL_law_1246 : decode cL_law 1246 = .ok (.iconst 1, 1) := by decide +kernel
theorem dL_law_1247 : decode cL_law 1247 = .ok (.iadd, 1) := by decide +kernel
theorem dL_law_1248 : decode cL_law 1248 = .ok (.iaload, 1) := by decide +kernel
theorem dL_law_1249 : decode cL_law 1249 = .ok (.aload_n 0, 1) := by decide +kernel
theorem dL_law_1250 : decode cL_law 1250 = .ok (.iload 4, 2) := by decide +kernel
theorem dL_law_1252 : decode cL_law 1252 = .ok (.iconst 2, 1) := by decide +kernel
theorem dL_law_1253 : decode cL_law 1253 = .ok (.iadd, 1) := by decide +kernel
theorem dL_law_1254 : decode cL_law 1254 = .ok (.iaload, 1) := by decide +kernel
theorem dL_law_1255 : decode cL_law 1255 = .ok (.aload_n 3, 1) := by decide +kernel
theorem dL_law_1256 : decode cL_law 1256 = .ok (.invokestatic 153, 3) := by decide +kernel
theorem dL_law_1259 : decode cL_law 1259 = .ok (.istore 5, 2) := by decide +kernel
theorem dL_law_1261 : decode cL_law 1261 = .ok (.aload_n 2, 1) := by decide +kernel
theorem dL_law_1262 : decode cL_law 1262 = .ok (.aload_n 0, 1) := by decide +kernel
theorem dL_law_1263 : decode cL_law 1263 = .ok (.iload 4, 2) := by decide +kernel
theorem dL_law_1265 : decode cL_law 1265 = .ok (.iconst 1, 1) := by decide +kernel
theorem dL_law_1266 : decode cL_law 1266 = .ok (.iadd, 1) := by decide +kernel
theorem dL_law_1267 : decode cL_law 1267 = .ok (.iaload, 1) := by decide +kernel
theorem dL_law_1268 : decode cL_law 1268 = .ok (.aload_n 0, 1) := by decide +kernel
theorem dL_law_1269 : decode cL_law 1269 = .ok (.iload 4, 2) := by decide +kernel
theorem dL_law_1271 : decode cL_law 1271 = .ok (.iconst 2, 1) := by decide +kernel
theorem dL_law_1272 : decode cL_law 1272 = .ok (.iadd, 1) := by decide +kernel
theorem dL_law_1273 : decode cL_law 1273 = .ok (.iaload, 1) := by decide +kernel
theorem dL_law_1274 : decode cL_law 1274 = .ok (.invokevirtual 155, 3) := by decide +kernel
theorem dL_law_1277 : decode cL_law 1277 = .ok (.istore 6, 2) := by decide +kernel
theorem dL_law_1279 : decode cL_law 1279 = .ok (.aload_n 2, 1) := by decide +kernel
theorem dL_law_1280 : decode cL_law 1280 = .ok (.invokevirtual 104, 3) := by decide +kernel
theorem dL_law_1283 : decode cL_law 1283 = .ok (.iload 5, 2) := by decide +kernel
theorem dL_law_1285 : decode cL_law 1285 = .ok (.if_icmp .eq 5, 3) := by decide +kernel
theorem dL_law_1290 : decode cL_law 1290 = .ok (.iload 5, 2) := by decide +kernel
theorem dL_law_1292 : decode cL_law 1292 = .ok (.ifCond .ne 15, 3) := by decide +kernel
theorem dL_law_1307 : decode cL_law 1307 = .ok (.goto 719, 3) := by decide +kernel
theorem dL_law_1310 : decode cL_law 1310 = .ok (.aload_n 1, 1) := by decide +kernel
theorem dL_law_1311 : decode cL_law 1311 = .ok (.aload_n 0, 1) := by decide +kernel
theorem dL_law_1312 : decode cL_law 1312 = .ok (.iload 4, 2) := by decide +kernel
theorem dL_law_1314 : decode cL_law 1314 = .ok (.iconst 1, 1) := by decide +kernel
theorem dL_law_1315 : decode cL_law 1315 = .ok (.iadd, 1) := by decide +kernel
theorem dL_law_1316 : decode cL_law 1316 = .ok (.iaload, 1) := by decide +kernel
theorem dL_law_1317 : decode cL_law 1317 = .ok (.aload_n 0, 1) := by decide +kernel
theorem dL_law_1318 : decode cL_law 1318 = .ok (.iload 4, 2) := by decide +kernel
theorem dL_law_1320 : decode cL_law 1320 = .ok (.iconst 2, 1) := by decide +kernel
theorem dL_law_1321 : decode cL_law 1321 = .ok (.iadd, 1) := by decide +kernel
theorem dL_law_1322 : decode cL_law 1322 = .ok (.iaload, 1) := by decide +kernel
theorem dL_law_1323 : decode cL_law 1323 = .ok (.aload_n 0, 1) := by decide +kernel
theorem dL_law_1324 : decode cL_law 1324 = .ok (.iload 4, 2) := by decide +kernel
theorem dL_law_1326 : decode cL_law 1326 = .ok (.iconst 3, 1) := by decide +kernel
theorem dL_law_1327 : decode cL_law 1327 = .ok (.iadd, 1) := by decide +kernel
theorem dL_law_1328 : decode cL_law 1328 = .ok (.iaload, 1) := by decide +kernel
theorem dL_law_1329 : decode cL_law 1329 = .ok (.aload_n 3, 1) := by decide +kernel
theorem dL_law_1330 : decode cL_law 1330 = .ok (.invokestatic 156, 3) := by decide +kernel
theorem dL_law_1333 : decode cL_law 1333 = .ok (.istore 5, 2) := by decide +kernel
theorem dL_law_1335 : decode cL_law 1335 = .ok (.aload_n 2, 1) := by decide +kernel
theorem dL_law_1336 : decode cL_law 1336 = .ok (.aload_n 0, 1) := by decide +kernel
theorem dL_law_1337 : decode cL_law 1337 = .ok (.iload 4, 2) := by decide +kernel
theorem dL_law_1339 : decode cL_law 1339 = .ok (.iconst 1, 1) := by decide +kernel
theorem dL_law_1340 : decode cL_law 1340 = .ok (.iadd, 1) := by decide +kernel
theorem dL_law_1341 : decode cL_law 1341 = .ok (.iaload, 1) := by decide +kernel
theorem dL_law_1342 : decode cL_law 1342 = .ok (.aload_n 0, 1) := by decide +kernel
theorem dL_law_1343 : decode cL_law 1343 = .ok (.iload 4, 2) := by decide +kernel
theorem dL_law_1345 : decode cL_law 1345 = .ok (.iconst 2, 1) := by decide +kernel
theorem dL_law_1346 : decode cL_law 1346 = .ok (.iadd, 1) := by decide +kernel
theorem dL_law_1347 : decode cL_law 1347 = .ok (.iaload, 1) := by decide +kernel
theorem dL_law_1348 : decode cL_law 1348 = .ok (.aload_n 0, 1) := by decide +kernel
theorem dL_law_1349 : decode cL_law 1349 = .ok (.iload 4, 2) := by decide +kernel
theorem dL_law_1351 : decode cL_law 1351 = .ok (.iconst 3, 1) := by decide +kernel
theorem dL_law_1352 : decode cL_law 1352 = .ok (.iadd, 1) := by decide +kernel
theorem dL_law_1353 : decode cL_law 1353 = .ok (.iaload, 1) := by decide +kernel
theorem dL_law_1354 : decode cL_law 1354 = .ok (.invokevirtual 158, 3) := by decide +kernel
theorem dL_law_1357 : decode cL_law 1357 = .ok (.istore 6, 2) := by decide +kernel
theorem dL_law_1359 : decode cL_law 1359 = .ok (.aload_n 2, 1) := by decide +kernel
theorem dL_law_1360 : decode cL_law 1360 = .ok (.invokevirtual 104, 3) := by decide +kernel
theorem dL_law_1363 : decode cL_law 1363 = .ok (.iload 5, 2) := by decide +kernel
theorem dL_law_1365 : decode cL_law 1365 = .ok (.if_icmp .eq 5, 3) := by decide +kernel
theorem dL_law_1370 : decode cL_law 1370 = .ok (.iload 5, 2) := by decide +kernel
theorem dL_law_1372 : decode cL_law 1372 = .ok (.ifCond .ne 15, 3) := by decide +kernel
theorem dL_law_1375 : decode cL_law 1375 = .ok (.aload_n 3, 1) := by decide +kernel
theorem dL_law_1376 : decode cL_law 1376 = .ok (.iconst 0, 1) := by decide +kernel
theorem dL_law_1377 : decode cL_law 1377 = .ok (.laload, 1) := by decide +kernel
theorem dL_law_1378 : decode cL_law 1378 = .ok (.iload 6, 2) := by decide +kernel
theorem dL_law_1380 : decode cL_law 1380 = .ok (.i2l, 1) := by decide +kernel
theorem dL_law_1381 : decode cL_law 1381 = .ok (.lcmp, 1) := by decide +kernel
theorem dL_law_1382 : decode cL_law 1382 = .ok (.ifCond .eq 5, 3) := by decide +kernel
theorem dL_law_1387 : decode cL_law 1387 = .ok (.goto 639, 3) := by decide +kernel
theorem dL_law_1403 : decode cL_law 1403 = .ok (.aload_n 1, 1) := by decide +kernel
theorem dL_law_1404 : decode cL_law 1404 = .ok (.aload_n 0, 1) := by decide +kernel
theorem dL_law_1405 : decode cL_law 1405 = .ok (.iload 4, 2) := by decide +kernel
theorem dL_law_1407 : decode cL_law 1407 = .ok (.iconst 1, 1) := by decide +kernel
theorem dL_law_1408 : decode cL_law 1408 = .ok (.iadd, 1) := by decide +kernel
theorem dL_law_1409 : decode cL_law 1409 = .ok (.iaload, 1) := by decide +kernel
theorem dL_law_1410 : decode cL_law 1410 = .ok (.aload_n 0, 1) := by decide +kernel
theorem dL_law_1411 : decode cL_law 1411 = .ok (.iload 4, 2) := by decide +kernel
theorem dL_law_1413 : decode cL_law 1413 = .ok (.iconst 2, 1) := by decide +kernel
theorem dL_law_1414 : decode cL_law 1414 = .ok (.iadd, 1) := by decide +kernel
theorem dL_law_1415 : decode cL_law 1415 = .ok (.iaload, 1) := by decide +kernel
theorem dL_law_1416 : decode cL_law 1416 = .ok (.aload_n 3, 1) := by decide +kernel
theorem dL_law_1417 : decode cL_law 1417 = .ok (.invokestatic 163, 3) := by decide +kernel
theorem dL_law_1420 : decode cL_law 1420 = .ok (.istore 5, 2) := by decide +kernel
theorem dL_law_1422 : decode cL_law 1422 = .ok (.aload_n 2, 1) := by decide +kernel
theorem dL_law_1423 : decode cL_law 1423 = .ok (.aload_n 0, 1) := by decide +kernel
theorem dL_law_1424 : decode cL_law 1424 = .ok (.iload 4, 2) := by decide +kernel
theorem dL_law_1426 : decode cL_law 1426 = .ok (.iconst 1, 1) := by decide +kernel
theorem dL_law_1427 : decode cL_law 1427 = .ok (.iadd, 1) := by decide +kernel
theorem dL_law_1428 : decode cL_law 1428 = .ok (.iaload, 1) := by decide +kernel
theorem dL_law_1429 : decode cL_law 1429 = .ok (.aload_n 0, 1) := by decide +kernel
theorem dL_law_1430 : decode cL_law 1430 = .ok (.iload 4, 2) := by decide +kernel
theorem dL_law_1432 : decode cL_law 1432 = .ok (.iconst 2, 1) := by decide +kernel
theorem dL_law_1433 : decode cL_law 1433 = .ok (.iadd, 1) := by decide +kernel
theorem dL_law_1434 : decode cL_law 1434 = .ok (.iaload, 1) := by decide +kernel
theorem dL_law_1435 : decode cL_law 1435 = .ok (.invokevirtual 165, 3) := by decide +kernel
theorem dL_law_1438 : decode cL_law 1438 = .ok (.istore 6, 2) := by decide +kernel
theorem dL_law_1440 : decode cL_law 1440 = .ok (.aload_n 2, 1) := by decide +kernel
theorem dL_law_1441 : decode cL_law 1441 = .ok (.invokevirtual 104, 3) := by decide +kernel
theorem dL_law_1444 : decode cL_law 1444 = .ok (.iload 5, 2) := by decide +kernel
theorem dL_law_1446 : decode cL_law 1446 = .ok (.if_icmp .eq 5, 3) := by decide +kernel
theorem dL_law_1451 : decode cL_law 1451 = .ok (.iload 5, 2) := by decide +kernel
theorem dL_law_1453 : decode cL_law 1453 = .ok (.ifCond .ne 15, 3) := by decide +kernel
theorem dL_law_1468 : decode cL_law 1468 = .ok (.goto 558, 3) := by decide +kernel
theorem dL_law_2026 : decode cL_law 2026 = .ok (.iinc 4 7, 3) := by decide +kernel
theorem dL_num_0 : decode cL_num 0 = .ok (.aload_n 2, 1) := by decide +kernel
theorem dL_num_1 : decode cL_num 1 = .ok (.iconst 0, 1) := by decide +kernel
theorem dL_num_2 : decode cL_num 2 = .ok (.aload_n 0, 1) := by decide +kernel
theorem dL_num_3 : decode cL_num 3 = .ok (.iload_n 1, 1) := by decide +kernel
theorem dL_num_4 : decode cL_num 4 = .ok (.invokevirtual 7, 3) := by decide +kernel
theorem dL_num_7 : decode cL_num 7 = .ok (.i2l, 1) := by decide +kernel
theorem dL_num_8 : decode cL_num 8 = .ok (.lastore, 1) := by decide +kernel
theorem dL_num_9 : decode cL_num 9 = .ok (.goto 6, 3) := by decide +kernel
theorem dL_num_15 : decode cL_num 15 = .ok (.iconst 0, 1) := by decide +kernel
theorem dL_num_16 : decode cL_num 16 = .ok (.ireturn, 1) := by decide +kernel
theorem dX11_num_0 : decode cX11_num 0 = .ok (.aload_n 0, 1) := by decide +kernel
theorem dX11_num_1 : decode cX11_num 1 = .ok (.iconst 0, 1) := by decide +kernel
theorem dX11_num_2 : decode cX11_num 2 = .ok (.iload_n 1, 1) := by decide +kernel
theorem dX11_num_3 : decode cX11_num 3 = .ok (.iconst 0, 1) := by decide +kernel
theorem dX11_num_4 : decode cX11_num 4 = .ok (.iconst 0, 1) := by decide +kernel
theorem dX11_num_5 : decode cX11_num 5 = .ok (.iconst (-1), 1) := by decide +kernel
theorem dX11_num_6 : decode cX11_num 6 = .ok (.iconst (-1), 1) := by decide +kernel
theorem dX11_num_7 : decode cX11_num 7 = .ok (.iconst (-1), 1) := by decide +kernel
theorem dX11_num_8 : decode cX11_num 8 = .ok (.invokevirtual 68, 3) := by decide +kernel
theorem dX11_num_11 : decode cX11_num 11 = .ok (.ireturn, 1) := by decide +kernel
theorem dX11_tell_0 : decode cX11_tell 0 = .ok (.aload_n 0, 1) := by decide +kernel
theorem dX11_tell_1 : decode cX11_tell 1 = .ok (.getfield 14, 3) := by decide +kernel
theorem dX11_tell_4 : decode cX11_tell 4 = .ok (.iconst 1, 1) := by decide +kernel
theorem dX11_tell_5 : decode cX11_tell 5 = .ok (.invokevirtual 198, 3) := by decide +kernel
theorem dX11_tell_8 : decode cX11_tell 8 = .ok (.istore 8, 2) := by decide +kernel
theorem dX11_tell_10 : decode cX11_tell 10 = .ok (.iload 8, 2) := by decide +kernel
theorem dX11_tell_12 : decode cX11_tell 12 = .ok (.iconst (-1), 1) := by decide +kernel
theorem dX11_tell_13 : decode cX11_tell 13 = .ok (.if_icmp .ne 13, 3) := by decide +kernel
theorem dX11_tell_26 : decode cX11_tell 26 = .ok (.aload_n 0, 1) := by decide +kernel
theorem dX11_tell_27 : decode cX11_tell 27 = .ok (.getfield 14, 3) := by decide +kernel
theorem dX11_tell_30 : decode cX11_tell 30 = .ok (.iload 8, 2) := by decide +kernel
theorem dX11_tell_32 : decode cX11_tell 32 = .ok (.iload_n 1, 1) := by decide +kernel
theorem dX11_tell_33 : decode cX11_tell 33 = .ok (.iload_n 2, 1) := by decide +kernel
theorem dX11_tell_34 : decode cX11_tell 34 = .ok (.iload_n 3, 1) := by decide +kernel
theorem dX11_tell_35 : decode cX11_tell 35 = .ok (.iload 4, 2) := by decide +kernel
theorem dX11_tell_37 : decode cX11_tell 37 = .ok (.invokevirtual 203, 3) := by decide +kernel
theorem dX11_tell_40 : decode cX11_tell 40 = .ok (.aload_n 0, 1) := by decide +kernel
theorem dX11_tell_41 : decode cX11_tell 41 = .ok (.getfield 14, 3) := by decide +kernel
theorem dX11_tell_44 : decode cX11_tell 44 = .ok (.iload 8, 2) := by decide +kernel
theorem dX11_tell_46 : decode cX11_tell 46 = .ok (.iload 5, 2) := by decide +kernel
theorem dX11_tell_48 : decode cX11_tell 48 = .ok (.iload 6, 2) := by decide +kernel
theorem dX11_tell_50 : decode cX11_tell 50 = .ok (.iload 7, 2) := by decide +kernel
theorem dX11_tell_52 : decode cX11_tell 52 = .ok (.invokevirtual 207, 3) := by decide +kernel
theorem dX11_tell_55 : decode cX11_tell 55 = .ok (.iconst 1, 1) := by decide +kernel
theorem dX11_tell_56 : decode cX11_tell 56 = .ok (.istore 9, 2) := by decide +kernel
theorem dX11_tell_58 : decode cX11_tell 58 = .ok (.iload_n 1, 1) := by decide +kernel
theorem dX11_tell_59 : decode cX11_tell 59 = .ok (.iconst 1, 1) := by decide +kernel
theorem dX11_tell_60 : decode cX11_tell 60 = .ok (.if_icmp .eq 9, 3) := by decide +kernel
theorem dX11_tell_63 : decode cX11_tell 63 = .ok (.iload_n 1, 1) := by decide +kernel
theorem dX11_tell_64 : decode cX11_tell 64 = .ok (.bipush 14, 2) := by decide +kernel
theorem dX11_tell_66 : decode cX11_tell 66 = .ok (.if_icmp .ne 9, 3) := by decide +kernel
theorem dX11_tell_69 : decode cX11_tell 69 = .ok (.iconst 1, 1) := by decide +kernel
theorem dX11_tell_70 : decode cX11_tell 70 = .ok (.iload_n 3, 1) := by decide +kernel
theorem dX11_tell_71 : decode cX11_tell 71 = .ok (.ishl, 1) := by decide +kernel
theorem dX11_tell_72 : decode cX11_tell 72 = .ok (.goto 4, 3) := by decide +kernel
theorem dX11_tell_75 : decode cX11_tell 75 = .ok (.iconst 0, 1) := by decide +kernel
theorem dX11_tell_76 : decode cX11_tell 76 = .ok (.istore 10, 2) := by decide +kernel
theorem dX11_tell_78 : decode cX11_tell 78 = .ok (.iconst 0, 1) := by decide +kernel
theorem dX11_tell_79 : decode cX11_tell 79 = .ok (.istore 11, 2) := by decide +kernel
theorem dX11_tell_81 : decode cX11_tell 81 = .ok (.iload 11, 2) := by decide +kernel
theorem dX11_tell_83 : decode cX11_tell 83 = .ok (.iconst 3, 1) := by decide +kernel
theorem dX11_tell_84 : decode cX11_tell 84 = .ok (.if_icmp .ge 72, 3) := by decide +kernel
theorem dX11_tell_87 : decode cX11_tell 87 = .ok (.aload_n 0, 1) := by decide +kernel
theorem dX11_tell_88 : decode cX11_tell 88 = .ok (.getfield 14, 3) := by decide +kernel
theorem dX11_tell_91 : decode cX11_tell 91 = .ok (.iload 8, 2) := by decide +kernel
theorem dX11_tell_93 : decode cX11_tell 93 = .ok (.iload 11, 2) := by decide +kernel
theorem dX11_tell_95 : decode cX11_tell 95 = .ok (.invokevirtual 211, 3) := by decide +kernel
theorem dX11_tell_98 : decode cX11_tell 98 = .ok (.istore 12, 2) := by decide +kernel
theorem dX11_tell_100 : decode cX11_tell 100 = .ok (.iload 12, 2) := by decide +kernel
theorem dX11_tell_102 : decode cX11_tell 102 = .ok (.ifCond .lt 48, 3) := by decide +kernel
theorem dX11_tell_150 : decode cX11_tell 150 = .ok (.iinc 11 1, 3) := by decide +kernel
theorem dX11_tell_153 : decode cX11_tell 153 = .ok (.goto (-72), 3) := by decide +kernel
theorem dX11_tell_156 : decode cX11_tell 156 = .ok (.aload_n 0, 1) := by decide +kernel
theorem dX11_tell_157 : decode cX11_tell 157 = .ok (.getfield 18, 3) := by decide +kernel
theorem dX11_tell_160 : decode cX11_tell 160 = .ok (.iload 8, 2) := by decide +kernel
theorem dX11_tell_162 : decode cX11_tell 162 = .ok (.iload 9, 2) := by decide +kernel
theorem dX11_tell_164 : decode cX11_tell 164 = .ok (.bipush 81, 2) := by decide +kernel
theorem dX11_tell_166 : decode cX11_tell 166 = .ok (.invokestatic 217, 3) := by decide +kernel
theorem dX11_tell_169 : decode cX11_tell 169 = .ok (.iastore, 1) := by decide +kernel
theorem dX11_tell_170 : decode cX11_tell 170 = .ok (.aload_n 0, 1) := by decide +kernel
theorem dX11_tell_171 : decode cX11_tell 171 = .ok (.getfield 22, 3) := by decide +kernel
theorem dX11_tell_174 : decode cX11_tell 174 = .ok (.iload 8, 2) := by decide +kernel
theorem dX11_tell_176 : decode cX11_tell 176 = .ok (.iload 10, 2) := by decide +kernel
theorem dX11_tell_178 : decode cX11_tell 178 = .ok (.iastore, 1) := by decide +kernel
theorem dX11_tell_179 : decode cX11_tell 179 = .ok (.iload 8, 2) := by decide +kernel
theorem dX11_tell_181 : decode cX11_tell 181 = .ok (.ireturn, 1) := by decide +kernel
theorem dX9_set_0 : decode cX9_set 0 = .ok (.aload_n 0, 1) := by decide +kernel
theorem dX9_set_1 : decode cX9_set 1 = .ok (.iload_n 1, 1) := by decide +kernel
theorem dX9_set_2 : decode cX9_set 2 = .ok (.invokevirtual 31, 3) := by decide +kernel
theorem dX9_set_5 : decode cX9_set 5 = .ok (.ifCond .eq 64, 3) := by decide +kernel
theorem dX9_set_8 : decode cX9_set 8 = .ok (.aload_n 0, 1) := by decide +kernel
theorem dX9_set_9 : decode cX9_set 9 = .ok (.getfield 9, 3) := by decide +kernel
theorem dX9_set_12 : decode cX9_set 12 = .ok (.iload_n 1, 1) := by decide +kernel
theorem dX9_set_13 : decode cX9_set 13 = .ok (.iload_n 2, 1) := by decide +kernel
theorem dX9_set_14 : decode cX9_set 14 = .ok (.iastore, 1) := by decide +kernel
theorem dX9_set_15 : decode cX9_set 15 = .ok (.aload_n 0, 1) := by decide +kernel
theorem dX9_set_16 : decode cX9_set 16 = .ok (.getfield 15, 3) := by decide +kernel
theorem dX9_set_19 : decode cX9_set 19 = .ok (.iload_n 1, 1) := by decide +kernel
theorem dX9_set_20 : decode cX9_set 20 = .ok (.iload_n 3, 1) := by decide +kernel
theorem dX9_set_21 : decode cX9_set 21 = .ok (.iastore, 1) := by decide +kernel
theorem dX9_set_22 : decode cX9_set 22 = .ok (.aload_n 0, 1) := by decide +kernel
theorem dX9_set_23 : decode cX9_set 23 = .ok (.getfield 18, 3) := by decide +kernel
theorem dX9_set_26 : decode cX9_set 26 = .ok (.iload_n 1, 1) := by decide +kernel
theorem dX9_set_27 : decode cX9_set 27 = .ok (.iload 4, 2) := by decide +kernel
theorem dX9_set_29 : decode cX9_set 29 = .ok (.iastore, 1) := by decide +kernel
theorem dX9_set_30 : decode cX9_set 30 = .ok (.aload_n 0, 1) := by decide +kernel
theorem dX9_set_31 : decode cX9_set 31 = .ok (.getfield 21, 3) := by decide +kernel
theorem dX9_set_34 : decode cX9_set 34 = .ok (.iload_n 1, 1) := by decide +kernel
theorem dX9_set_35 : decode cX9_set 35 = .ok (.iload 5, 2) := by decide +kernel
theorem dX9_set_37 : decode cX9_set 37 = .ok (.iastore, 1) := by decide +kernel
theorem dX9_set_38 : decode cX9_set 38 = .ok (.aload_n 0, 1) := by decide +kernel
theorem dX9_set_39 : decode cX9_set 39 = .ok (.getfield 24, 3) := by decide +kernel
theorem dX9_set_42 : decode cX9_set 42 = .ok (.iconst 3, 1) := by decide +kernel
theorem dX9_set_43 : decode cX9_set 43 = .ok (.iload_n 1, 1) := by decide +kernel
theorem dX9_set_44 : decode cX9_set 44 = .ok (.imul, 1) := by decide +kernel
theorem dX9_set_45 : decode cX9_set 45 = .ok (.iconst (-1), 1) := by decide +kernel
theorem dX9_set_46 : decode cX9_set 46 = .ok (.iastore, 1) := by decide +kernel
theorem dX9_set_47 : decode cX9_set 47 = .ok (.aload_n 0, 1) := by decide +kernel
theorem dX9_set_48 : decode cX9_set 48 = .ok (.getfield 24, 3) := by decide +kernel
theorem dX9_set_51 : decode cX9_set 51 = .ok (.iconst 3, 1) := by decide +kernel
theorem dX9_set_52 : decode cX9_set 52 = .ok (.iload_n 1, 1) := by decide +kernel
theorem dX9_set_53 : decode cX9_set 53 = .ok (.imul, 1) := by decide +kernel
theorem dX9_set_54 : decode cX9_set 54 = .ok (.iconst 1, 1) := by decide +kernel
theorem dX9_set_55 : decode cX9_set 55 = .ok (.iadd, 1) := by decide +kernel
theorem dX9_set_56 : decode cX9_set 56 = .ok (.iconst (-1), 1) := by decide +kernel
theorem dX9_set_57 : decode cX9_set 57 = .ok (.iastore, 1) := by decide +kernel
theorem dX9_set_58 : decode cX9_set 58 = .ok (.aload_n 0, 1) := by decide +kernel
theorem dX9_set_59 : decode cX9_set 59 = .ok (.getfield 24, 3) := by decide +kernel
theorem dX9_set_62 : decode cX9_set 62 = .ok (.iconst 3, 1) := by decide +kernel
theorem dX9_set_63 : decode cX9_set 63 = .ok (.iload_n 1, 1) := by decide +kernel
theorem dX9_set_64 : decode cX9_set 64 = .ok (.imul, 1) := by decide +kernel
theorem dX9_set_65 : decode cX9_set 65 = .ok (.iconst 2, 1) := by decide +kernel
theorem dX9_set_66 : decode cX9_set 66 = .ok (.iadd, 1) := by decide +kernel
theorem dX9_set_67 : decode cX9_set 67 = .ok (.iconst (-1), 1) := by decide +kernel
theorem dX9_set_68 : decode cX9_set 68 = .ok (.iastore, 1) := by decide +kernel
theorem dX9_set_69 : decode cX9_set 69 = .ok (.return_, 1) := by decide +kernel
theorem dX9_has_0 : decode cX9_has 0 = .ok (.iload_n 1, 1) := by decide +kernel
theorem dX9_has_1 : decode cX9_has 1 = .ok (.ifCond .lt 15, 3) := by decide +kernel
theorem dX9_has_4 : decode cX9_has 4 = .ok (.iload_n 1, 1) := by decide +kernel
theorem dX9_has_5 : decode cX9_has 5 = .ok (.aload_n 0, 1) := by decide +kernel
theorem dX9_has_6 : decode cX9_has 6 = .ok (.getfield 27, 3) := by decide +kernel
theorem dX9_has_9 : decode cX9_has 9 = .ok (.if_icmp .ge 7, 3) := by decide +kernel
theorem dX9_has_12 : decode cX9_has 12 = .ok (.iconst 1, 1) := by decide +kernel
theorem dX9_has_13 : decode cX9_has 13 = .ok (.goto 4, 3) := by decide +kernel
theorem dX9_has_16 : decode cX9_has 16 = .ok (.iconst 0, 1) := by decide +kernel
theorem dX9_has_17 : decode cX9_has 17 = .ok (.ireturn, 1) := by decide +kernel
theorem dX9_join_0 : decode cX9_join 0 = .ok (.aload_n 0, 1) := by decide +kernel
theorem dX9_join_1 : decode cX9_join 1 = .ok (.iload_n 1, 1) := by decide +kernel
theorem dX9_join_2 : decode cX9_join 2 = .ok (.invokevirtual 31, 3) := by decide +kernel
theorem dX9_join_5 : decode cX9_join 5 = .ok (.ifCond .eq 35, 3) := by decide +kernel
theorem dX9_join_8 : decode cX9_join 8 = .ok (.aload_n 0, 1) := by decide +kernel
theorem dX9_join_9 : decode cX9_join 9 = .ok (.getfield 24, 3) := by decide +kernel
theorem dX9_join_12 : decode cX9_join 12 = .ok (.iconst 3, 1) := by decide +kernel
theorem dX9_join_13 : decode cX9_join 13 = .ok (.iload_n 1, 1) := by decide +kernel
theorem dX9_join_14 : decode cX9_join 14 = .ok (.imul, 1) := by decide +kernel
theorem dX9_join_15 : decode cX9_join 15 = .ok (.iload_n 2, 1) := by decide +kernel
theorem dX9_join_16 : decode cX9_join 16 = .ok (.iastore, 1) := by decide +kernel
theorem dX9_join_17 : decode cX9_join 17 = .ok (.aload_n 0, 1) := by decide +kernel
theorem dX9_join_18 : decode cX9_join 18 = .ok (.getfield 24, 3) := by decide +kernel
theorem dX9_join_21 : decode cX9_join 21 = .ok (.iconst 3, 1) := by decide +kernel
theorem dX9_join_22 : decode cX9_join 22 = .ok (.iload_n 1, 1) := by decide +kernel
theorem dX9_join_23 : decode cX9_join 23 = .ok (.imul, 1) := by decide +kernel
theorem dX9_join_24 : decode cX9_join 24 = .ok (.iconst 1, 1) := by decide +kernel
theorem dX9_join_25 : decode cX9_join 25 = .ok (.iadd, 1) := by decide +kernel
theorem dX9_join_26 : decode cX9_join 26 = .ok (.iload_n 3, 1) := by decide +kernel
theorem dX9_join_27 : decode cX9_join 27 = .ok (.iastore, 1) := by decide +kernel
theorem dX9_join_28 : decode cX9_join 28 = .ok (.aload_n 0, 1) := by decide +kernel
theorem dX9_join_29 : decode cX9_join 29 = .ok (.getfield 24, 3) := by decide +kernel
theorem dX9_join_32 : decode cX9_join 32 = .ok (.iconst 3, 1) := by decide +kernel
theorem dX9_join_33 : decode cX9_join 33 = .ok (.iload_n 1, 1) := by decide +kernel
theorem dX9_join_34 : decode cX9_join 34 = .ok (.imul, 1) := by decide +kernel
theorem dX9_join_35 : decode cX9_join 35 = .ok (.iconst 2, 1) := by decide +kernel
theorem dX9_join_36 : decode cX9_join 36 = .ok (.iadd, 1) := by decide +kernel
theorem dX9_join_37 : decode cX9_join 37 = .ok (.iload 4, 2) := by decide +kernel
theorem dX9_join_39 : decode cX9_join 39 = .ok (.iastore, 1) := by decide +kernel
theorem dX9_join_40 : decode cX9_join 40 = .ok (.return_, 1) := by decide +kernel
theorem dX9_part_0 : decode cX9_part 0 = .ok (.iload_n 1, 1) := by decide +kernel
theorem dX9_part_1 : decode cX9_part 1 = .ok (.ifCond .lt 33, 3) := by decide +kernel
theorem dX9_part_4 : decode cX9_part 4 = .ok (.iload_n 1, 1) := by decide +kernel
theorem dX9_part_5 : decode cX9_part 5 = .ok (.aload_n 0, 1) := by decide +kernel
theorem dX9_part_6 : decode cX9_part 6 = .ok (.getfield 27, 3) := by decide +kernel
theorem dX9_part_9 : decode cX9_part 9 = .ok (.if_icmp .ge 25, 3) := by decide +kernel
theorem dX9_part_12 : decode cX9_part 12 = .ok (.iload_n 2, 1) := by decide +kernel
theorem dX9_part_13 : decode cX9_part 13 = .ok (.ifCond .lt 21, 3) := by decide +kernel
theorem dX9_part_16 : decode cX9_part 16 = .ok (.iload_n 2, 1) := by decide +kernel
theorem dX9_part_17 : decode cX9_part 17 = .ok (.iconst 3, 1) := by decide +kernel
theorem dX9_part_18 : decode cX9_part 18 = .ok (.if_icmp .ge 16, 3) := by decide +kernel
theorem dX9_part_21 : decode cX9_part 21 = .ok (.aload_n 0, 1) := by decide +kernel
theorem dX9_part_22 : decode cX9_part 22 = .ok (.getfield 24, 3) := by decide +kernel
theorem dX9_part_25 : decode cX9_part 25 = .ok (.iconst 3, 1) := by decide +kernel
theorem dX9_part_26 : decode cX9_part 26 = .ok (.iload_n 1, 1) := by decide +kernel
theorem dX9_part_27 : decode cX9_part 27 = .ok (.imul, 1) := by decide +kernel
theorem dX9_part_28 : decode cX9_part 28 = .ok (.iload_n 2, 1) := by decide +kernel
theorem dX9_part_29 : decode cX9_part 29 = .ok (.iadd, 1) := by decide +kernel
theorem dX9_part_30 : decode cX9_part 30 = .ok (.iaload, 1) := by decide +kernel
theorem dX9_part_31 : decode cX9_part 31 = .ok (.goto 4, 3) := by decide +kernel
theorem dX9_part_35 : decode cX9_part 35 = .ok (.ireturn, 1) := by decide +kernel
theorem dX12_num_0 : decode cX12_num 0 = .ok (.aload_n 0, 1) := by decide +kernel
theorem dX12_num_1 : decode cX12_num 1 = .ok (.aload_n 0, 1) := by decide +kernel
theorem dX12_num_2 : decode cX12_num 2 = .ok (.getfield 179, 3) := by decide +kernel
theorem dX12_num_5 : decode cX12_num 5 = .ok (.sipush 200, 3) := by decide +kernel
theorem dX12_num_8 : decode cX12_num 8 = .ok (.if_icmp .ne 7, 3) := by decide +kernel
theorem dX12_num_15 : decode cX12_num 15 = .ok (.iconst 0, 1) := by decide +kernel
theorem dX12_num_16 : decode cX12_num 16 = .ok (.invokevirtual 182, 3) := by decide +kernel
theorem dX12_num_19 : decode cX12_num 19 = .ok (.ifCond .eq 16, 3) := by decide +kernel
theorem dX12_num_22 : decode cX12_num 22 = .ok (.aload_n 0, 1) := by decide +kernel
theorem dX12_num_23 : decode cX12_num 23 = .ok (.iconst 0, 1) := by decide +kernel
theorem dX12_num_24 : decode cX12_num 24 = .ok (.iload_n 1, 1) := by decide +kernel
theorem dX12_num_25 : decode cX12_num 25 = .ok (.iconst 0, 1) := by decide +kernel
theorem dX12_num_26 : decode cX12_num 26 = .ok (.iconst (-1), 1) := by decide +kernel
theorem dX12_num_27 : decode cX12_num 27 = .ok (.iconst (-1), 1) := by decide +kernel
theorem dX12_num_28 : decode cX12_num 28 = .ok (.iconst (-1), 1) := by decide +kernel
theorem dX12_num_29 : decode cX12_num 29 = .ok (.invokevirtual 186, 3) := by decide +kernel
theorem dX12_num_32 : decode cX12_num 32 = .ok (.goto 4, 3) := by decide +kernel
theorem dX12_num_36 : decode cX12_num 36 = .ok (.ireturn, 1) := by decide +kernel
theorem dX12_can_0 : decode cX12_can 0 = .ok (.aload_n 0, 1) := by decide +kernel
theorem dX12_can_1 : decode cX12_can 1 = .ok (.iload_n 1, 1) := by decide +kernel
theorem dX12_can_2 : decode cX12_can 2 = .ok (.putfield 172, 3) := by decide +kernel
theorem dX12_can_5 : decode cX12_can 5 = .ok (.iload_n 1, 1) := by decide +kernel
theorem dX12_can_6 : decode cX12_can 6 = .ok (.ifCond .ne 7, 3) := by decide +kernel
theorem dX12_can_9 : decode cX12_can 9 = .ok (.iconst 1, 1) := by decide +kernel
theorem dX12_can_10 : decode cX12_can 10 = .ok (.goto 4, 3) := by decide +kernel
theorem dX12_can_13 : decode cX12_can 13 = .ok (.iconst 0, 1) := by decide +kernel
theorem dX12_can_14 : decode cX12_can 14 = .ok (.ireturn, 1) := by decide +kernel
theorem dX12_tells_0 : decode cX12_tells 0 = .ok (.aload_n 0, 1) := by decide +kernel
theorem dX12_tells_1 : decode cX12_tells 1 = .ok (.getfield 7, 3) := by decide +kernel
theorem dX12_tells_4 : decode cX12_tells 4 = .ok (.aload_n 0, 1) := by decide +kernel
theorem dX12_tells_5 : decode cX12_tells 5 = .ok (.getfield 179, 3) := by decide +kernel
theorem dX12_tells_8 : decode cX12_tells 8 = .ok (.iload_n 1, 1) := by decide +kernel
theorem dX12_tells_9 : decode cX12_tells 9 = .ok (.iastore, 1) := by decide +kernel
theorem dX12_tells_10 : decode cX12_tells 10 = .ok (.aload_n 0, 1) := by decide +kernel
theorem dX12_tells_11 : decode cX12_tells 11 = .ok (.getfield 13, 3) := by decide +kernel
theorem dX12_tells_14 : decode cX12_tells 14 = .ok (.aload_n 0, 1) := by decide +kernel
theorem dX12_tells_15 : decode cX12_tells 15 = .ok (.getfield 179, 3) := by decide +kernel
theorem dX12_tells_18 : decode cX12_tells 18 = .ok (.iload_n 2, 1) := by decide +kernel
theorem dX12_tells_19 : decode cX12_tells 19 = .ok (.iastore, 1) := by decide +kernel
theorem dX12_tells_20 : decode cX12_tells 20 = .ok (.aload_n 0, 1) := by decide +kernel
theorem dX12_tells_21 : decode cX12_tells 21 = .ok (.getfield 16, 3) := by decide +kernel
theorem dX12_tells_24 : decode cX12_tells 24 = .ok (.aload_n 0, 1) := by decide +kernel
theorem dX12_tells_25 : decode cX12_tells 25 = .ok (.getfield 179, 3) := by decide +kernel
theorem dX12_tells_28 : decode cX12_tells 28 = .ok (.iload_n 3, 1) := by decide +kernel
theorem dX12_tells_29 : decode cX12_tells 29 = .ok (.iastore, 1) := by decide +kernel
theorem dX12_tells_30 : decode cX12_tells 30 = .ok (.aload_n 0, 1) := by decide +kernel
theorem dX12_tells_31 : decode cX12_tells 31 = .ok (.getfield 19, 3) := by decide +kernel
theorem dX12_tells_34 : decode cX12_tells 34 = .ok (.aload_n 0, 1) := by decide +kernel
theorem dX12_tells_35 : decode cX12_tells 35 = .ok (.getfield 179, 3) := by decide +kernel
theorem dX12_tells_38 : decode cX12_tells 38 = .ok (.iconst 0, 1) := by decide +kernel
theorem dX12_tells_39 : decode cX12_tells 39 = .ok (.iastore, 1) := by decide +kernel
theorem dX12_tells_40 : decode cX12_tells 40 = .ok (.aload_n 0, 1) := by decide +kernel
theorem dX12_tells_41 : decode cX12_tells 41 = .ok (.getfield 25, 3) := by decide +kernel
theorem dX12_tells_44 : decode cX12_tells 44 = .ok (.iconst 3, 1) := by decide +kernel
theorem dX12_tells_45 : decode cX12_tells 45 = .ok (.aload_n 0, 1) := by decide +kernel
theorem dX12_tells_46 : decode cX12_tells 46 = .ok (.getfield 179, 3) := by decide +kernel
theorem dX12_tells_49 : decode cX12_tells 49 = .ok (.imul, 1) := by decide +kernel
theorem dX12_tells_50 : decode cX12_tells 50 = .ok (.iload 4, 2) := by decide +kernel
theorem dX12_tells_52 : decode cX12_tells 52 = .ok (.iastore, 1) := by decide +kernel
theorem dX12_tells_53 : decode cX12_tells 53 = .ok (.aload_n 0, 1) := by decide +kernel
theorem dX12_tells_54 : decode cX12_tells 54 = .ok (.getfield 25, 3) := by decide +kernel
theorem dX12_tells_57 : decode cX12_tells 57 = .ok (.iconst 3, 1) := by decide +kernel
theorem dX12_tells_58 : decode cX12_tells 58 = .ok (.aload_n 0, 1) := by decide +kernel
theorem dX12_tells_59 : decode cX12_tells 59 = .ok (.getfield 179, 3) := by decide +kernel
theorem dX12_tells_62 : decode cX12_tells 62 = .ok (.imul, 1) := by decide +kernel
theorem dX12_tells_63 : decode cX12_tells 63 = .ok (.iconst 1, 1) := by decide +kernel
theorem dX12_tells_64 : decode cX12_tells 64 = .ok (.iadd, 1) := by decide +kernel
theorem dX12_tells_65 : decode cX12_tells 65 = .ok (.iload 5, 2) := by decide +kernel
theorem dX12_tells_67 : decode cX12_tells 67 = .ok (.iastore, 1) := by decide +kernel
theorem dX12_tells_68 : decode cX12_tells 68 = .ok (.aload_n 0, 1) := by decide +kernel
theorem dX12_tells_69 : decode cX12_tells 69 = .ok (.getfield 25, 3) := by decide +kernel
theorem dX12_tells_72 : decode cX12_tells 72 = .ok (.iconst 3, 1) := by decide +kernel
theorem dX12_tells_73 : decode cX12_tells 73 = .ok (.aload_n 0, 1) := by decide +kernel
theorem dX12_tells_74 : decode cX12_tells 74 = .ok (.getfield 179, 3) := by decide +kernel
theorem dX12_tells_77 : decode cX12_tells 77 = .ok (.imul, 1) := by decide +kernel
theorem dX12_tells_78 : decode cX12_tells 78 = .ok (.iconst 2, 1) := by decide +kernel
theorem dX12_tells_79 : decode cX12_tells 79 = .ok (.iadd, 1) := by decide +kernel
theorem dX12_tells_80 : decode cX12_tells 80 = .ok (.iload 6, 2) := by decide +kernel
theorem dX12_tells_82 : decode cX12_tells 82 = .ok (.iastore, 1) := by decide +kernel
theorem dX12_tells_83 : decode cX12_tells 83 = .ok (.iconst 1, 1) := by decide +kernel
theorem dX12_tells_84 : decode cX12_tells 84 = .ok (.istore 7, 2) := by decide +kernel
theorem dX12_tells_86 : decode cX12_tells 86 = .ok (.iconst 0, 1) := by decide +kernel
theorem dX12_tells_87 : decode cX12_tells 87 = .ok (.istore 8, 2) := by decide +kernel
theorem dX12_tells_89 : decode cX12_tells 89 = .ok (.iconst 0, 1) := by decide +kernel
theorem dX12_tells_90 : decode cX12_tells 90 = .ok (.istore 9, 2) := by decide +kernel
theorem dX12_tells_92 : decode cX12_tells 92 = .ok (.iload 9, 2) := by decide +kernel
theorem dX12_tells_94 : decode cX12_tells 94 = .ok (.iconst 3, 1) := by decide +kernel
theorem dX12_tells_95 : decode cX12_tells 95 = .ok (.if_icmp .ge 63, 3) := by decide +kernel
theorem dX12_tells_98 : decode cX12_tells 98 = .ok (.aload_n 0, 1) := by decide +kernel
theorem dX12_tells_99 : decode cX12_tells 99 = .ok (.getfield 25, 3) := by decide +kernel
theorem dX12_tells_102 : decode cX12_tells 102 = .ok (.iconst 3, 1) := by decide +kernel
theorem dX12_tells_103 : decode cX12_tells 103 = .ok (.aload_n 0, 1) := by decide +kernel
theorem dX12_tells_104 : decode cX12_tells 104 = .ok (.getfield 179, 3) := by decide +kernel
theorem dX12_tells_107 : decode cX12_tells 107 = .ok (.imul, 1) := by decide +kernel
theorem dX12_tells_108 : decode cX12_tells 108 = .ok (.iload 9, 2) := by decide +kernel
theorem dX12_tells_110 : decode cX12_tells 110 = .ok (.iadd, 1) := by decide +kernel
theorem dX12_tells_111 : decode cX12_tells 111 = .ok (.iaload, 1) := by decide +kernel
theorem dX12_tells_112 : decode cX12_tells 112 = .ok (.istore 10, 2) := by decide +kernel
theorem dX12_tells_114 : decode cX12_tells 114 = .ok (.iload 8, 2) := by decide +kernel
theorem dX12_tells_116 : decode cX12_tells 116 = .ok (.iload 10, 2) := by decide +kernel
theorem dX12_tells_118 : decode cX12_tells 118 = .ok (.iconst (-1), 1) := by decide +kernel
theorem dX12_tells_119 : decode cX12_tells 119 = .ok (.if_icmp .ne 7, 3) := by decide +kernel
theorem dX12_tells_122 : decode cX12_tells 122 = .ok (.iconst 0, 1) := by decide +kernel
theorem dX12_tells_123 : decode cX12_tells 123 = .ok (.goto 4, 3) := by decide +kernel
theorem dX12_tells_127 : decode cX12_tells 127 = .ok (.iadd, 1) := by decide +kernel
theorem dX12_tells_128 : decode cX12_tells 128 = .ok (.istore 8, 2) := by decide +kernel
theorem dX12_tells_130 : decode cX12_tells 130 = .ok (.iload 7, 2) := by decide +kernel
theorem dX12_tells_132 : decode cX12_tells 132 = .ok (.iload 10, 2) := by decide +kernel
theorem dX12_tells_134 : decode cX12_tells 134 = .ok (.iconst (-1), 1) := by decide +kernel
theorem dX12_tells_135 : decode cX12_tells 135 = .ok (.if_icmp .ne 7, 3) := by decide +kernel
theorem dX12_tells_138 : decode cX12_tells 138 = .ok (.iconst 0, 1) := by decide +kernel
theorem dX12_tells_139 : decode cX12_tells 139 = .ok (.goto 10, 3) := by decide +kernel
theorem dX12_tells_149 : decode cX12_tells 149 = .ok (.iadd, 1) := by decide +kernel
theorem dX12_tells_150 : decode cX12_tells 150 = .ok (.istore 7, 2) := by decide +kernel
theorem dX12_tells_152 : decode cX12_tells 152 = .ok (.iinc 9 1, 3) := by decide +kernel
theorem dX12_tells_155 : decode cX12_tells 155 = .ok (.goto (-63), 3) := by decide +kernel
theorem dX12_tells_158 : decode cX12_tells 158 = .ok (.aload_n 0, 1) := by decide +kernel
theorem dX12_tells_159 : decode cX12_tells 159 = .ok (.getfield 22, 3) := by decide +kernel
theorem dX12_tells_162 : decode cX12_tells 162 = .ok (.aload_n 0, 1) := by decide +kernel
theorem dX12_tells_163 : decode cX12_tells 163 = .ok (.getfield 179, 3) := by decide +kernel
theorem dX12_tells_166 : decode cX12_tells 166 = .ok (.iload 8, 2) := by decide +kernel
theorem dX12_tells_168 : decode cX12_tells 168 = .ok (.iastore, 1) := by decide +kernel
theorem dX12_tells_169 : decode cX12_tells 169 = .ok (.aload_n 0, 1) := by decide +kernel
theorem dX12_tells_170 : decode cX12_tells 170 = .ok (.getfield 28, 3) := by decide +kernel
theorem dX12_tells_173 : decode cX12_tells 173 = .ok (.aload_n 0, 1) := by decide +kernel
theorem dX12_tells_174 : decode cX12_tells 174 = .ok (.getfield 179, 3) := by decide +kernel
theorem dX12_tells_177 : decode cX12_tells 177 = .ok (.iload 7, 2) := by decide +kernel
theorem dX12_tells_179 : decode cX12_tells 179 = .ok (.sipush 1000, 3) := by decide +kernel
theorem dX12_tells_182 : decode cX12_tells 182 = .ok (.if_icmp .le 9, 3) := by decide +kernel
theorem dX12_tells_191 : decode cX12_tells 191 = .ok (.iload 7, 2) := by decide +kernel
theorem dX12_tells_193 : decode cX12_tells 193 = .ok (.iastore, 1) := by decide +kernel
theorem dX12_tells_194 : decode cX12_tells 194 = .ok (.aload_n 0, 1) := by decide +kernel
theorem dX12_tells_195 : decode cX12_tells 195 = .ok (.dup, 1) := by decide +kernel
theorem dX12_tells_196 : decode cX12_tells 196 = .ok (.getfield 179, 3) := by decide +kernel
theorem dX12_tells_199 : decode cX12_tells 199 = .ok (.iconst 1, 1) := by decide +kernel
theorem dX12_tells_200 : decode cX12_tells 200 = .ok (.iadd, 1) := by decide +kernel
theorem dX12_tells_201 : decode cX12_tells 201 = .ok (.putfield 179, 3) := by decide +kernel
theorem dX12_tells_204 : decode cX12_tells 204 = .ok (.aload_n 0, 1) := by decide +kernel
theorem dX12_tells_205 : decode cX12_tells 205 = .ok (.getfield 179, 3) := by decide +kernel
theorem dX12_tells_208 : decode cX12_tells 208 = .ok (.iconst 1, 1) := by decide +kernel
theorem dX12_tells_209 : decode cX12_tells 209 = .ok (.isub, 1) := by decide +kernel
theorem dX12_tells_210 : decode cX12_tells 210 = .ok (.ireturn, 1) := by decide +kernel
theorem dX12_thrown_0 : decode cX12_thrown 0 = .ok (.aload_n 0, 1) := by decide +kernel
theorem dX12_thrown_1 : decode cX12_thrown 1 = .ok (.getfield 172, 3) := by decide +kernel
theorem dX12_thrown_4 : decode cX12_thrown 4 = .ok (.ireturn, 1) := by decide +kernel
theorem dL_var_0 : decode cL_var 0 = .ok (.aload_n 2, 1) := by decide +kernel
theorem dL_var_1 : decode cL_var 1 = .ok (.iconst 0, 1) := by decide +kernel
theorem dL_var_2 : decode cL_var 2 = .ok (.aload_n 0, 1) := by decide +kernel
theorem dL_var_3 : decode cL_var 3 = .ok (.iload_n 1, 1) := by decide +kernel
theorem dL_var_4 : decode cL_var 4 = .ok (.invokevirtual 15, 3) := by decide +kernel
theorem dL_var_7 : decode cL_var 7 = .ok (.i2l, 1) := by decide +kernel
theorem dL_var_8 : decode cL_var 8 = .ok (.lastore, 1) := by decide +kernel
theorem dL_var_9 : decode cL_var 9 = .ok (.goto 9, 3) := by decide +kernel
theorem dL_var_12 : decode cL_var 12 = .ok (.astore_n 3, 1) := by decide +kernel
theorem dL_var_13 : decode cL_var 13 = .ok (.iconst 1, 1) := by decide +kernel
theorem dL_var_14 : decode cL_var 14 = .ok (.ireturn, 1) := by decide +kernel
theorem dL_var_18 : decode cL_var 18 = .ok (.iconst 0, 1) := by decide +kernel
theorem dL_var_19 : decode cL_var 19 = .ok (.ireturn, 1) := by decide +kernel
theorem dX11_var_0 : decode cX11_var 0 = .ok (.aload_n 0, 1) := by decide +kernel
theorem dX11_var_1 : decode cX11_var 1 = .ok (.iload_n 1, 1) := by decide +kernel
theorem dX11_var_2 : decode cX11_var 2 = .ok (.bipush 16, 2) := by decide +kernel
theorem dX11_var_4 : decode cX11_var 4 = .ok (.invokevirtual 72, 3) := by decide +kernel
theorem dX11_var_7 : decode cX11_var 7 = .ok (.aload_n 0, 1) := by decide +kernel
theorem dX11_var_8 : decode cX11_var 8 = .ok (.iconst 1, 1) := by decide +kernel
theorem dX11_var_9 : decode cX11_var 9 = .ok (.iconst 0, 1) := by decide +kernel
theorem dX11_var_10 : decode cX11_var 10 = .ok (.iload_n 1, 1) := by decide +kernel
theorem dX11_var_11 : decode cX11_var 11 = .ok (.iconst 0, 1) := by decide +kernel
theorem dX11_var_12 : decode cX11_var 12 = .ok (.iconst (-1), 1) := by decide +kernel
theorem dX11_var_13 : decode cX11_var 13 = .ok (.iconst (-1), 1) := by decide +kernel
theorem dX11_var_14 : decode cX11_var 14 = .ok (.iconst (-1), 1) := by decide +kernel
theorem dX11_var_15 : decode cX11_var 15 = .ok (.invokevirtual 68, 3) := by decide +kernel
theorem dX11_var_18 : decode cX11_var 18 = .ok (.ireturn, 1) := by decide +kernel
theorem dX11_checkRange_0 : decode cX11_checkRange 0 = .ok (.iload_n 1, 1) := by decide +kernel
theorem dX11_checkRange_1 : decode cX11_checkRange 1 = .ok (.ifCond .lt 8, 3) := by decide +kernel
theorem dX11_checkRange_4 : decode cX11_checkRange 4 = .ok (.iload_n 1, 1) := by decide +kernel
theorem dX11_checkRange_5 : decode cX11_checkRange 5 = .ok (.iload_n 2, 1) := by decide +kernel
theorem dX11_checkRange_6 : decode cX11_checkRange 6 = .ok (.if_icmp .lt 13, 3) := by decide +kernel
theorem dX11_checkRange_9 : decode cX11_checkRange 9 = .ok (.new 82, 3) := by decide +kernel
theorem dX11_checkRange_12 : decode cX11_checkRange 12 = .ok (.dup, 1) := by decide +kernel
theorem dX11_checkRange_13 : decode cX11_checkRange 13 = .ok (.ldc 183, 2) := by decide +kernel
theorem dX11_checkRange_15 : decode cX11_checkRange 15 = .ok (.invokespecial 86, 3) := by decide +kernel
theorem dX11_checkRange_18 : decode cX11_checkRange 18 = .ok (.athrow, 1) := by decide +kernel
theorem dX11_checkRange_19 : decode cX11_checkRange 19 = .ok (.return_, 1) := by decide +kernel
theorem dX12_var_0 : decode cX12_var 0 = .ok (.aload_n 0, 1) := by decide +kernel
theorem dX12_var_1 : decode cX12_var 1 = .ok (.iload_n 1, 1) := by decide +kernel
theorem dX12_var_2 : decode cX12_var 2 = .ok (.invokestatic 190, 3) := by decide +kernel
theorem dX12_var_5 : decode cX12_var 5 = .ok (.invokevirtual 193, 3) := by decide +kernel
theorem dX12_var_8 : decode cX12_var 8 = .ok (.ifCond .eq 16, 3) := by decide +kernel
theorem dX12_var_11 : decode cX12_var 11 = .ok (.aload_n 0, 1) := by decide +kernel
theorem dX12_var_12 : decode cX12_var 12 = .ok (.iconst 1, 1) := by decide +kernel
theorem dX12_var_13 : decode cX12_var 13 = .ok (.iconst 0, 1) := by decide +kernel
theorem dX12_var_14 : decode cX12_var 14 = .ok (.iload_n 1, 1) := by decide +kernel
theorem dX12_var_15 : decode cX12_var 15 = .ok (.iconst (-1), 1) := by decide +kernel
theorem dX12_var_16 : decode cX12_var 16 = .ok (.iconst (-1), 1) := by decide +kernel
theorem dX12_var_17 : decode cX12_var 17 = .ok (.iconst (-1), 1) := by decide +kernel
theorem dX12_var_18 : decode cX12_var 18 = .ok (.invokevirtual 186, 3) := by decide +kernel
theorem dX12_var_21 : decode cX12_var 21 = .ok (.goto 4, 3) := by decide +kernel
theorem dX12_var_24 : decode cX12_var 24 = .ok (.iconst 0, 1) := by decide +kernel
theorem dX12_var_25 : decode cX12_var 25 = .ok (.ireturn, 1) := by decide +kernel
theorem dX12_isName_0 : decode cX12_isName 0 = .ok (.iload_n 0, 1) := by decide +kernel
theorem dX12_isName_1 : decode cX12_isName 1 = .ok (.iconst 0, 1) := by decide +kernel
theorem dX12_isName_2 : decode cX12_isName 2 = .ok (.bipush 15, 2) := by decide +kernel
theorem dX12_isName_4 : decode cX12_isName 4 = .ok (.invokestatic 175, 3) := by decide +kernel
theorem dX12_isName_7 : decode cX12_isName 7 = .ok (.ireturn, 1) := by decide +kernel
theorem dX12_isIn_0 : decode cX12_isIn 0 = .ok (.iload_n 0, 1) := by decide +kernel
theorem dX12_isIn_1 : decode cX12_isIn 1 = .ok (.iload_n 1, 1) := by decide +kernel
theorem dX12_isIn_2 : decode cX12_isIn 2 = .ok (.if_icmp .lt 12, 3) := by decide +kernel
theorem dX12_isIn_5 : decode cX12_isIn 5 = .ok (.iload_n 0, 1) := by decide +kernel
theorem dX12_isIn_6 : decode cX12_isIn 6 = .ok (.iload_n 2, 1) := by decide +kernel
theorem dX12_isIn_7 : decode cX12_isIn 7 = .ok (.if_icmp .gt 7, 3) := by decide +kernel
theorem dX12_isIn_10 : decode cX12_isIn 10 = .ok (.iconst 1, 1) := by decide +kernel
theorem dX12_isIn_11 : decode cX12_isIn 11 = .ok (.goto 4, 3) := by decide +kernel
theorem dX12_isIn_14 : decode cX12_isIn 14 = .ok (.iconst 0, 1) := by decide +kernel
theorem dX12_isIn_15 : decode cX12_isIn 15 = .ok (.ireturn, 1) := by decide +kernel
theorem dX12_mayTellAlone_0 : decode cX12_mayTellAlone 0 = .ok (.aload_n 0, 1) := by decide +kernel
theorem dX12_mayTellAlone_1 : decode cX12_mayTellAlone 1 = .ok (.iload_n 1, 1) := by decide +kernel
theorem dX12_mayTellAlone_2 : decode cX12_mayTellAlone 2 = .ok (.ifCond .ne 7, 3) := by decide +kernel
theorem dX12_mayTellAlone_5 : decode cX12_mayTellAlone 5 = .ok (.iconst 1, 1) := by decide +kernel
theorem dX12_mayTellAlone_6 : decode cX12_mayTellAlone 6 = .ok (.goto 18, 3) := by decide +kernel
theorem dX12_mayTellAlone_9 : decode cX12_mayTellAlone 9 = .ok (.aload_n 0, 1) := by decide +kernel
theorem dX12_mayTellAlone_10 : decode cX12_mayTellAlone 10 = .ok (.getfield 179, 3) := by decide +kernel
theorem dX12_mayTellAlone_13 : decode cX12_mayTellAlone 13 = .ok (.sipush 200, 3) := by decide +kernel
theorem dX12_mayTellAlone_16 : decode cX12_mayTellAlone 16 = .ok (.if_icmp .ne 7, 3) := by decide +kernel
theorem dX12_mayTellAlone_23 : decode cX12_mayTellAlone 23 = .ok (.iconst 0, 1) := by decide +kernel
theorem dX12_mayTellAlone_24 : decode cX12_mayTellAlone 24 = .ok (.invokevirtual 182, 3) := by decide +kernel
theorem dX12_mayTellAlone_27 : decode cX12_mayTellAlone 27 = .ok (.ireturn, 1) := by decide +kernel
theorem dL_global_0 : decode cL_global 0 = .ok (.aload_n 2, 1) := by decide +kernel
theorem dL_global_1 : decode cL_global 1 = .ok (.iconst 0, 1) := by decide +kernel
theorem dL_global_2 : decode cL_global 2 = .ok (.aload_n 0, 1) := by decide +kernel
theorem dL_global_3 : decode cL_global 3 = .ok (.iload_n 1, 1) := by decide +kernel
theorem dL_global_4 : decode cL_global 4 = .ok (.invokevirtual 20, 3) := by decide +kernel
theorem dL_global_7 : decode cL_global 7 = .ok (.i2l, 1) := by decide +kernel
theorem dL_global_8 : decode cL_global 8 = .ok (.lastore, 1) := by decide +kernel
theorem dL_global_9 : decode cL_global 9 = .ok (.goto 9, 3) := by decide +kernel
theorem dL_global_12 : decode cL_global 12 = .ok (.astore_n 3, 1) := by decide +kernel
theorem dL_global_13 : decode cL_global 13 = .ok (.iconst 1, 1) := by decide +kernel
theorem dL_global_14 : decode cL_global 14 = .ok (.ireturn, 1) := by decide +kernel
theorem dL_global_18 : decode cL_global 18 = .ok (.iconst 0, 1) := by decide +kernel
theorem dL_global_19 : decode cL_global 19 = .ok (.ireturn, 1) := by decide +kernel
theorem dX11_global_0 : decode cX11_global 0 = .ok (.aload_n 0, 1) := by decide +kernel
theorem dX11_global_1 : decode cX11_global 1 = .ok (.iload_n 1, 1) := by decide +kernel
theorem dX11_global_2 : decode cX11_global 2 = .ok (.bipush 8, 2) := by decide +kernel
theorem dX11_global_4 : decode cX11_global 4 = .ok (.invokevirtual 72, 3) := by decide +kernel
theorem dX11_global_7 : decode cX11_global 7 = .ok (.aload_n 0, 1) := by decide +kernel
theorem dX11_global_8 : decode cX11_global 8 = .ok (.iconst 2, 1) := by decide +kernel
theorem dX11_global_9 : decode cX11_global 9 = .ok (.iload_n 1, 1) := by decide +kernel
theorem dX11_global_10 : decode cX11_global 10 = .ok (.iconst 0, 1) := by decide +kernel
theorem dX11_global_11 : decode cX11_global 11 = .ok (.iconst 0, 1) := by decide +kernel
theorem dX11_global_12 : decode cX11_global 12 = .ok (.iconst (-1), 1) := by decide +kernel
theorem dX11_global_13 : decode cX11_global 13 = .ok (.iconst (-1), 1) := by decide +kernel
theorem dX11_global_14 : decode cX11_global 14 = .ok (.iconst (-1), 1) := by decide +kernel
theorem dX11_global_15 : decode cX11_global 15 = .ok (.invokevirtual 68, 3) := by decide +kernel
theorem dX11_global_18 : decode cX11_global 18 = .ok (.ireturn, 1) := by decide +kernel
theorem dX12_global_0 : decode cX12_global 0 = .ok (.aload_n 0, 1) := by decide +kernel
theorem dX12_global_1 : decode cX12_global 1 = .ok (.iload_n 1, 1) := by decide +kernel
theorem dX12_global_2 : decode cX12_global 2 = .ok (.invokestatic 197, 3) := by decide +kernel
theorem dX12_global_5 : decode cX12_global 5 = .ok (.invokevirtual 193, 3) := by decide +kernel
theorem dX12_global_8 : decode cX12_global 8 = .ok (.ifCond .eq 16, 3) := by decide +kernel
theorem dX12_global_11 : decode cX12_global 11 = .ok (.aload_n 0, 1) := by decide +kernel
theorem dX12_global_12 : decode cX12_global 12 = .ok (.iconst 2, 1) := by decide +kernel
theorem dX12_global_13 : decode cX12_global 13 = .ok (.iload_n 1, 1) := by decide +kernel
theorem dX12_global_14 : decode cX12_global 14 = .ok (.iconst 0, 1) := by decide +kernel
theorem dX12_global_15 : decode cX12_global 15 = .ok (.iconst (-1), 1) := by decide +kernel
theorem dX12_global_16 : decode cX12_global 16 = .ok (.iconst (-1), 1) := by decide +kernel
theorem dX12_global_17 : decode cX12_global 17 = .ok (.iconst (-1), 1) := by decide +kernel
theorem dX12_global_18 : decode cX12_global 18 = .ok (.invokevirtual 186, 3) := by decide +kernel
theorem dX12_global_21 : decode cX12_global 21 = .ok (.goto 4, 3) := by decide +kernel
theorem dX12_global_24 : decode cX12_global 24 = .ok (.iconst 0, 1) := by decide +kernel
theorem dX12_global_25 : decode cX12_global 25 = .ok (.ireturn, 1) := by decide +kernel
theorem dX12_isGlobal_0 : decode cX12_isGlobal 0 = .ok (.iload_n 0, 1) := by decide +kernel
theorem dX12_isGlobal_1 : decode cX12_isGlobal 1 = .ok (.iconst 0, 1) := by decide +kernel
theorem dX12_isGlobal_2 : decode cX12_isGlobal 2 = .ok (.bipush 7, 2) := by decide +kernel
theorem dX12_isGlobal_4 : decode cX12_isGlobal 4 = .ok (.invokestatic 175, 3) := by decide +kernel
theorem dX12_isGlobal_7 : decode cX12_isGlobal 7 = .ok (.ireturn, 1) := by decide +kernel
theorem dL_lam_0 : decode cL_lam 0 = .ok (.aload_n 3, 1) := by decide +kernel
theorem dL_lam_1 : decode cL_lam 1 = .ok (.iconst 0, 1) := by decide +kernel
theorem dL_lam_2 : decode cL_lam 2 = .ok (.aload_n 0, 1) := by decide +kernel
theorem dL_lam_3 : decode cL_lam 3 = .ok (.iload_n 1, 1) := by decide +kernel
theorem dL_lam_4 : decode cL_lam 4 = .ok (.iload_n 2, 1) := by decide +kernel
theorem dL_lam_5 : decode cL_lam 5 = .ok (.invokevirtual 23, 3) := by decide +kernel
theorem dL_lam_13 : decode cL_lam 13 = .ok (.astore 4, 2) := by decide +kernel
theorem dL_lam_15 : decode cL_lam 15 = .ok (.iconst 1, 1) := by decide +kernel
theorem dL_lam_16 : decode cL_lam 16 = .ok (.ireturn, 1) := by decide +kernel
theorem dX11_lam_0 : decode cX11_lam 0 = .ok (.aload_n 0, 1) := by decide +kernel
theorem dX11_lam_1 : decode cX11_lam 1 = .ok (.iload_n 2, 1) := by decide +kernel
theorem dX11_lam_2 : decode cX11_lam 2 = .ok (.invokevirtual 76, 3) := by decide +kernel
theorem dX11_checkTold_0 : decode cX11_checkTold 0 = .ok (.aload_n 0, 1) := by decide +kernel
theorem dX11_checkTold_1 : decode cX11_checkTold 1 = .ok (.getfield 14, 3) := by decide +kernel
theorem dX11_checkTold_4 : decode cX11_checkTold 4 = .ok (.iload_n 1, 1) := by decide +kernel
theorem dX11_checkTold_5 : decode cX11_checkTold 5 = .ok (.invokevirtual 185, 3) := by decide +kernel
theorem dX11_checkTold_8 : decode cX11_checkTold 8 = .ok (.ifCond .ne 13, 3) := by decide +kernel
theorem dX11_checkTold_11 : decode cX11_checkTold 11 = .ok (.new 161, 3) := by decide +kernel
theorem dX11_checkTold_14 : decode cX11_checkTold 14 = .ok (.dup, 1) := by decide +kernel
theorem dX11_checkTold_15 : decode cX11_checkTold 15 = .ok (.ldc 189, 2) := by decide +kernel
theorem dX11_checkTold_17 : decode cX11_checkTold 17 = .ok (.invokespecial 165, 3) := by decide +kernel
theorem dX11_checkTold_20 : decode cX11_checkTold 20 = .ok (.athrow, 1) := by decide +kernel
theorem dX12_lam_0 : decode cX12_lam 0 = .ok (.aload_n 0, 1) := by decide +kernel
theorem dX12_lam_1 : decode cX12_lam 1 = .ok (.aload_n 0, 1) := by decide +kernel
theorem dX12_lam_2 : decode cX12_lam 2 = .ok (.iload_n 2, 1) := by decide +kernel
theorem dX12_lam_3 : decode cX12_lam 3 = .ok (.invokevirtual 200, 3) := by decide +kernel
theorem dX12_lam_6 : decode cX12_lam 6 = .ok (.iload_n 1, 1) := by decide +kernel
theorem dX12_lam_7 : decode cX12_lam 7 = .ok (.invokestatic 190, 3) := by decide +kernel
theorem dX12_lam_10 : decode cX12_lam 10 = .ok (.invokevirtual 203, 3) := by decide +kernel
theorem dX12_lam_13 : decode cX12_lam 13 = .ok (.ifCond .eq 16, 3) := by decide +kernel
theorem dX12_lam_29 : decode cX12_lam 29 = .ok (.iconst 0, 1) := by decide +kernel
theorem dX12_lam_30 : decode cX12_lam 30 = .ok (.ireturn, 1) := by decide +kernel
theorem dX12_isNode_0 : decode cX12_isNode 0 = .ok (.iload_n 1, 1) := by decide +kernel
theorem dX12_isNode_1 : decode cX12_isNode 1 = .ok (.iconst 0, 1) := by decide +kernel
theorem dX12_isNode_2 : decode cX12_isNode 2 = .ok (.aload_n 0, 1) := by decide +kernel
theorem dX12_isNode_3 : decode cX12_isNode 3 = .ok (.getfield 179, 3) := by decide +kernel
theorem dX12_isNode_6 : decode cX12_isNode 6 = .ok (.iconst 1, 1) := by decide +kernel
theorem dX12_isNode_7 : decode cX12_isNode 7 = .ok (.isub, 1) := by decide +kernel
theorem dX12_isNode_8 : decode cX12_isNode 8 = .ok (.invokestatic 175, 3) := by decide +kernel
theorem dX12_isNode_11 : decode cX12_isNode 11 = .ok (.ireturn, 1) := by decide +kernel
theorem dX12_mayTell_0 : decode cX12_mayTell 0 = .ok (.aload_n 0, 1) := by decide +kernel
theorem dX12_mayTell_1 : decode cX12_mayTell 1 = .ok (.iload_n 1, 1) := by decide +kernel
theorem dX12_mayTell_2 : decode cX12_mayTell 2 = .ok (.ifCond .ne 7, 3) := by decide +kernel
theorem dX12_mayTell_5 : decode cX12_mayTell 5 = .ok (.iconst 1, 1) := by decide +kernel
theorem dX12_mayTell_6 : decode cX12_mayTell 6 = .ok (.goto 26, 3) := by decide +kernel
theorem dX12_mayTell_9 : decode cX12_mayTell 9 = .ok (.iload_n 2, 1) := by decide +kernel
theorem dX12_mayTell_10 : decode cX12_mayTell 10 = .ok (.ifCond .ne 7, 3) := by decide +kernel
theorem dX12_mayTell_13 : decode cX12_mayTell 13 = .ok (.iconst 2, 1) := by decide +kernel
theorem dX12_mayTell_14 : decode cX12_mayTell 14 = .ok (.goto 18, 3) := by decide +kernel
theorem dX12_mayTell_17 : decode cX12_mayTell 17 = .ok (.aload_n 0, 1) := by decide +kernel
theorem dX12_mayTell_18 : decode cX12_mayTell 18 = .ok (.getfield 179, 3) := by decide +kernel
theorem dX12_mayTell_21 : decode cX12_mayTell 21 = .ok (.sipush 200, 3) := by decide +kernel
theorem dX12_mayTell_24 : decode cX12_mayTell 24 = .ok (.if_icmp .ne 7, 3) := by decide +kernel
theorem dX12_mayTell_31 : decode cX12_mayTell 31 = .ok (.iconst 0, 1) := by decide +kernel
theorem dX12_mayTell_32 : decode cX12_mayTell 32 = .ok (.invokevirtual 182, 3) := by decide +kernel
theorem dX12_mayTell_35 : decode cX12_mayTell 35 = .ok (.ireturn, 1) := by decide +kernel
theorem dL_app_0 : decode cL_app 0 = .ok (.aload_n 3, 1) := by decide +kernel
theorem dL_app_1 : decode cL_app 1 = .ok (.iconst 0, 1) := by decide +kernel
theorem dL_app_2 : decode cL_app 2 = .ok (.aload_n 0, 1) := by decide +kernel
theorem dL_app_3 : decode cL_app 3 = .ok (.iload_n 1, 1) := by decide +kernel
theorem dL_app_4 : decode cL_app 4 = .ok (.iload_n 2, 1) := by decide +kernel
theorem dL_app_5 : decode cL_app 5 = .ok (.invokevirtual 29, 3) := by decide +kernel
theorem dL_app_13 : decode cL_app 13 = .ok (.astore 4, 2) := by decide +kernel
theorem dL_app_15 : decode cL_app 15 = .ok (.iconst 1, 1) := by decide +kernel
theorem dL_app_16 : decode cL_app 16 = .ok (.ireturn, 1) := by decide +kernel
theorem dX11_app_0 : decode cX11_app 0 = .ok (.aload_n 0, 1) := by decide +kernel
theorem dX11_app_1 : decode cX11_app 1 = .ok (.iload_n 1, 1) := by decide +kernel
theorem dX11_app_2 : decode cX11_app 2 = .ok (.invokevirtual 76, 3) := by decide +kernel
theorem dX12_app_0 : decode cX12_app 0 = .ok (.aload_n 0, 1) := by decide +kernel
theorem dX12_app_1 : decode cX12_app 1 = .ok (.iload_n 1, 1) := by decide +kernel
theorem dX12_app_2 : decode cX12_app 2 = .ok (.invokevirtual 200, 3) := by decide +kernel
theorem dX12_app_5 : decode cX12_app 5 = .ok (.ifCond .eq 15, 3) := by decide +kernel
theorem dX12_app_20 : decode cX12_app 20 = .ok (.iconst 0, 1) := by decide +kernel
theorem dX12_app_21 : decode cX12_app 21 = .ok (.istore_n 3, 1) := by decide +kernel
theorem dX12_app_22 : decode cX12_app 22 = .ok (.aload_n 0, 1) := by decide +kernel
theorem dX12_app_23 : decode cX12_app 23 = .ok (.iload_n 3, 1) := by decide +kernel
theorem dX12_app_24 : decode cX12_app 24 = .ok (.iload_n 3, 1) := by decide +kernel
theorem dX12_app_25 : decode cX12_app 25 = .ok (.ifCond .eq 15, 3) := by decide +kernel
theorem dX12_app_40 : decode cX12_app 40 = .ok (.iconst 0, 1) := by decide +kernel
theorem dX12_app_41 : decode cX12_app 41 = .ok (.invokevirtual 203, 3) := by decide +kernel
theorem dX12_app_44 : decode cX12_app 44 = .ok (.ifCond .eq 16, 3) := by decide +kernel
theorem dX12_app_60 : decode cX12_app 60 = .ok (.iconst 0, 1) := by decide +kernel
theorem dX12_app_61 : decode cX12_app 61 = .ok (.ireturn, 1) := by decide +kernel
theorem dL_let_0 : decode cL_let 0 = .ok (.aload 4, 2) := by decide +kernel
theorem dL_let_2 : decode cL_let 2 = .ok (.iconst 0, 1) := by decide +kernel
theorem dL_let_3 : decode cL_let 3 = .ok (.aload_n 0, 1) := by decide +kernel
theorem dL_let_4 : decode cL_let 4 = .ok (.iload_n 1, 1) := by decide +kernel
theorem dL_let_5 : decode cL_let 5 = .ok (.iload_n 2, 1) := by decide +kernel
theorem dL_let_6 : decode cL_let 6 = .ok (.iload_n 3, 1) := by decide +kernel
theorem dL_let_7 : decode cL_let 7 = .ok (.invokevirtual 32, 3) := by decide +kernel
theorem dL_let_15 : decode cL_let 15 = .ok (.astore 5, 2) := by decide +kernel
theorem dL_let_17 : decode cL_let 17 = .ok (.iconst 1, 1) := by decide +kernel
theorem dL_let_18 : decode cL_let 18 = .ok (.ireturn, 1) := by decide +kernel
theorem dX11_let_0 : decode cX11_let 0 = .ok (.aload_n 0, 1) := by decide +kernel
theorem dX11_let_1 : decode cX11_let 1 = .ok (.iload_n 2, 1) := by decide +kernel
theorem dX11_let_2 : decode cX11_let 2 = .ok (.invokevirtual 76, 3) := by decide +kernel
theorem dX12_let_0 : decode cX12_let 0 = .ok (.aload_n 0, 1) := by decide +kernel
theorem dX12_let_1 : decode cX12_let 1 = .ok (.aload_n 0, 1) := by decide +kernel
theorem dX12_let_2 : decode cX12_let 2 = .ok (.iload_n 2, 1) := by decide +kernel
theorem dX12_let_3 : decode cX12_let 3 = .ok (.invokevirtual 200, 3) := by decide +kernel
theorem dX12_let_6 : decode cX12_let 6 = .ok (.ifCond .eq 15, 3) := by decide +kernel
theorem dX12_let_21 : decode cX12_let 21 = .ok (.iconst 0, 1) := by decide +kernel
theorem dX12_let_22 : decode cX12_let 22 = .ok (.iload_n 1, 1) := by decide +kernel
theorem dX12_let_23 : decode cX12_let 23 = .ok (.invokestatic 190, 3) := by decide +kernel
theorem dX12_let_26 : decode cX12_let 26 = .ok (.invokevirtual 203, 3) := by decide +kernel
theorem dX12_let_29 : decode cX12_let 29 = .ok (.ifCond .eq 16, 3) := by decide +kernel
theorem dX12_let_45 : decode cX12_let 45 = .ok (.iconst 0, 1) := by decide +kernel
theorem dX12_let_46 : decode cX12_let 46 = .ok (.ireturn, 1) := by decide +kernel
theorem dL_con_0 : decode cL_con 0 = .ok (.aload 4, 2) := by decide +kernel
theorem dL_con_2 : decode cL_con 2 = .ok (.iconst 0, 1) := by decide +kernel
theorem dL_con_3 : decode cL_con 3 = .ok (.aload_n 0, 1) := by decide +kernel
theorem dL_con_4 : decode cL_con 4 = .ok (.iload_n 1, 1) := by decide +kernel
theorem dL_con_5 : decode cL_con 5 = .ok (.iload_n 2, 1) := by decide +kernel
theorem dL_con_6 : decode cL_con 6 = .ok (.iload_n 3, 1) := by decide +kernel
theorem dL_con_7 : decode cL_con 7 = .ok (.invokevirtual 36, 3) := by decide +kernel
theorem dL_con_10 : decode cL_con 10 = .ok (.i2l, 1) := by decide +kernel
theorem dL_con_11 : decode cL_con 11 = .ok (.lastore, 1) := by decide +kernel
theorem dL_con_12 : decode cL_con 12 = .ok (.goto 15, 3) := by decide +kernel
theorem dL_con_15 : decode cL_con 15 = .ok (.astore 5, 2) := by decide +kernel
theorem dL_con_17 : decode cL_con 17 = .ok (.iconst 1, 1) := by decide +kernel
theorem dL_con_18 : decode cL_con 18 = .ok (.ireturn, 1) := by decide +kernel
theorem dL_con_19 : decode cL_con 19 = .ok (.astore 5, 2) := by decide +kernel
theorem dL_con_21 : decode cL_con 21 = .ok (.iconst 2, 1) := by decide +kernel
theorem dL_con_22 : decode cL_con 22 = .ok (.ireturn, 1) := by decide +kernel
theorem dL_con_27 : decode cL_con 27 = .ok (.iconst 0, 1) := by decide +kernel
theorem dL_con_28 : decode cL_con 28 = .ok (.ireturn, 1) := by decide +kernel
theorem dX11_con_0 : decode cX11_con 0 = .ok (.iload_n 2, 1) := by decide +kernel
theorem dX11_con_1 : decode cX11_con 1 = .ok (.iconst (-1), 1) := by decide +kernel
theorem dX11_con_2 : decode cX11_con 2 = .ok (.if_icmp .eq 8, 3) := by decide +kernel
theorem dX11_con_5 : decode cX11_con 5 = .ok (.aload_n 0, 1) := by decide +kernel
theorem dX11_con_6 : decode cX11_con 6 = .ok (.iload_n 2, 1) := by decide +kernel
theorem dX11_con_7 : decode cX11_con 7 = .ok (.invokevirtual 76, 3) := by decide +kernel
theorem dX11_con_10 : decode cX11_con 10 = .ok (.iload_n 3, 1) := by decide +kernel
theorem dX11_con_11 : decode cX11_con 11 = .ok (.iconst (-1), 1) := by decide +kernel
theorem dX11_con_12 : decode cX11_con 12 = .ok (.if_icmp .eq 8, 3) := by decide +kernel
theorem dX11_con_15 : decode cX11_con 15 = .ok (.aload_n 0, 1) := by decide +kernel
theorem dX11_con_16 : decode cX11_con 16 = .ok (.iload_n 3, 1) := by decide +kernel
theorem dX11_con_17 : decode cX11_con 17 = .ok (.invokevirtual 76, 3) := by decide +kernel
theorem dX11_con_20 : decode cX11_con 20 = .ok (.aload_n 0, 1) := by decide +kernel
theorem dX11_con_21 : decode cX11_con 21 = .ok (.iload_n 1, 1) := by decide +kernel
theorem dX11_con_22 : decode cX11_con 22 = .ok (.iconst 4, 1) := by decide +kernel
theorem dX11_con_23 : decode cX11_con 23 = .ok (.invokevirtual 72, 3) := by decide +kernel
theorem dX11_con_26 : decode cX11_con 26 = .ok (.iload_n 2, 1) := by decide +kernel
theorem dX11_con_27 : decode cX11_con 27 = .ok (.iconst (-1), 1) := by decide +kernel
theorem dX11_con_28 : decode cX11_con 28 = .ok (.if_icmp .eq 8, 3) := by decide +kernel
theorem dX11_con_36 : decode cX11_con 36 = .ok (.iload_n 3, 1) := by decide +kernel
theorem dX11_con_37 : decode cX11_con 37 = .ok (.iconst (-1), 1) := by decide +kernel
theorem dX11_con_38 : decode cX11_con 38 = .ok (.if_icmp .eq 8, 3) := by decide +kernel
theorem dX11_con_46 : decode cX11_con 46 = .ok (.iload_n 2, 1) := by decide +kernel
theorem dX11_con_47 : decode cX11_con 47 = .ok (.iconst (-1), 1) := by decide +kernel
theorem dX11_con_48 : decode cX11_con 48 = .ok (.if_icmp .ne 18, 3) := by decide +kernel
theorem dX11_con_51 : decode cX11_con 51 = .ok (.iload_n 3, 1) := by decide +kernel
theorem dX11_con_52 : decode cX11_con 52 = .ok (.iconst (-1), 1) := by decide +kernel
theorem dX11_con_53 : decode cX11_con 53 = .ok (.if_icmp .eq 13, 3) := by decide +kernel
theorem dX11_con_66 : decode cX11_con 66 = .ok (.aload_n 0, 1) := by decide +kernel
theorem dX11_con_67 : decode cX11_con 67 = .ok (.bipush 7, 2) := by decide +kernel
theorem dX11_con_69 : decode cX11_con 69 = .ok (.iload_n 1, 1) := by decide +kernel
theorem dX11_con_70 : decode cX11_con 70 = .ok (.iconst 0, 1) := by decide +kernel
theorem dX11_con_71 : decode cX11_con 71 = .ok (.iconst 0, 1) := by decide +kernel
theorem dX11_con_72 : decode cX11_con 72 = .ok (.iload_n 2, 1) := by decide +kernel
theorem dX11_con_73 : decode cX11_con 73 = .ok (.iload_n 3, 1) := by decide +kernel
theorem dX11_con_74 : decode cX11_con 74 = .ok (.iconst (-1), 1) := by decide +kernel
theorem dX11_con_75 : decode cX11_con 75 = .ok (.invokevirtual 68, 3) := by decide +kernel
theorem dX11_con_78 : decode cX11_con 78 = .ok (.ireturn, 1) := by decide +kernel
theorem dX12_con_0 : decode cX12_con 0 = .ok (.iload_n 2, 1) := by decide +kernel
theorem dX12_con_1 : decode cX12_con 1 = .ok (.iconst (-1), 1) := by decide +kernel
theorem dX12_con_2 : decode cX12_con 2 = .ok (.if_icmp .eq 11, 3) := by decide +kernel
theorem dX12_con_5 : decode cX12_con 5 = .ok (.aload_n 0, 1) := by decide +kernel
theorem dX12_con_6 : decode cX12_con 6 = .ok (.iload_n 2, 1) := by decide +kernel
theorem dX12_con_7 : decode cX12_con 7 = .ok (.invokevirtual 200, 3) := by decide +kernel
theorem dX12_con_10 : decode cX12_con 10 = .ok (.ifCond .eq 20, 3) := by decide +kernel
theorem dX12_con_13 : decode cX12_con 13 = .ok (.iload_n 3, 1) := by decide +kernel
theorem dX12_con_14 : decode cX12_con 14 = .ok (.iconst (-1), 1) := by decide +kernel
theorem dX12_con_15 : decode cX12_con 15 = .ok (.if_icmp .eq 11, 3) := by decide +kernel
theorem dX12_con_18 : decode cX12_con 18 = .ok (.aload_n 0, 1) := by decide +kernel
theorem dX12_con_19 : decode cX12_con 19 = .ok (.iload_n 3, 1) := by decide +kernel
theorem dX12_con_20 : decode cX12_con 20 = .ok (.invokevirtual 200, 3) := by decide +kernel
theorem dX12_con_23 : decode cX12_con 23 = .ok (.ifCond .eq 7, 3) := by decide +kernel
theorem dX12_con_26 : decode cX12_con 26 = .ok (.iconst 1, 1) := by decide +kernel
theorem dX12_con_27 : decode cX12_con 27 = .ok (.goto 4, 3) := by decide +kernel
theorem dX12_con_30 : decode cX12_con 30 = .ok (.iconst 0, 1) := by decide +kernel
theorem dX12_con_31 : decode cX12_con 31 = .ok (.istore 4, 2) := by decide +kernel
theorem dX12_con_33 : decode cX12_con 33 = .ok (.iload 4, 2) := by decide +kernel
theorem dX12_con_35 : decode cX12_con 35 = .ok (.ifCond .eq 50, 3) := by decide +kernel
theorem dX12_con_38 : decode cX12_con 38 = .ok (.iload_n 1, 1) := by decide +kernel
theorem dX12_con_39 : decode cX12_con 39 = .ok (.iconst 0, 1) := by decide +kernel
theorem dX12_con_40 : decode cX12_con 40 = .ok (.iconst 3, 1) := by decide +kernel
theorem dX12_con_41 : decode cX12_con 41 = .ok (.invokestatic 175, 3) := by decide +kernel
theorem dX12_con_44 : decode cX12_con 44 = .ok (.ifCond .eq 41, 3) := by decide +kernel
theorem dX12_con_47 : decode cX12_con 47 = .ok (.iload_n 2, 1) := by decide +kernel
theorem dX12_con_48 : decode cX12_con 48 = .ok (.iconst (-1), 1) := by decide +kernel
theorem dX12_con_49 : decode cX12_con 49 = .ok (.if_icmp .ne 11, 3) := by decide +kernel
theorem dX12_con_52 : decode cX12_con 52 = .ok (.iload_n 3, 1) := by decide +kernel
theorem dX12_con_53 : decode cX12_con 53 = .ok (.iconst (-1), 1) := by decide +kernel
theorem dX12_con_54 : decode cX12_con 54 = .ok (.if_icmp .ne 31, 3) := by decide +kernel
theorem dX12_con_57 : decode cX12_con 57 = .ok (.goto 24, 3) := by decide +kernel
theorem dX12_con_81 : decode cX12_con 81 = .ok (.iconst 1, 1) := by decide +kernel
theorem dX12_con_82 : decode cX12_con 82 = .ok (.goto 4, 3) := by decide +kernel
theorem dX12_con_85 : decode cX12_con 85 = .ok (.iconst 0, 1) := by decide +kernel
theorem dX12_con_86 : decode cX12_con 86 = .ok (.istore 5, 2) := by decide +kernel
theorem dX12_con_88 : decode cX12_con 88 = .ok (.aload_n 0, 1) := by decide +kernel
theorem dX12_con_89 : decode cX12_con 89 = .ok (.iload 4, 2) := by decide +kernel
theorem dX12_con_91 : decode cX12_con 91 = .ok (.iload 5, 2) := by decide +kernel
theorem dX12_con_93 : decode cX12_con 93 = .ok (.invokevirtual 203, 3) := by decide +kernel
theorem dX12_con_96 : decode cX12_con 96 = .ok (.ifCond .eq 17, 3) := by decide +kernel
theorem dX12_con_99 : decode cX12_con 99 = .ok (.aload_n 0, 1) := by decide +kernel
theorem dX12_con_100 : decode cX12_con 100 = .ok (.bipush 7, 2) := by decide +kernel
theorem dX12_con_102 : decode cX12_con 102 = .ok (.iload_n 1, 1) := by decide +kernel
theorem dX12_con_103 : decode cX12_con 103 = .ok (.iconst 0, 1) := by decide +kernel
theorem dX12_con_104 : decode cX12_con 104 = .ok (.iload_n 2, 1) := by decide +kernel
theorem dX12_con_105 : decode cX12_con 105 = .ok (.iload_n 3, 1) := by decide +kernel
theorem dX12_con_106 : decode cX12_con 106 = .ok (.iconst (-1), 1) := by decide +kernel
theorem dX12_con_107 : decode cX12_con 107 = .ok (.invokevirtual 186, 3) := by decide +kernel
theorem dX12_con_110 : decode cX12_con 110 = .ok (.goto 4, 3) := by decide +kernel
theorem dX12_con_113 : decode cX12_con 113 = .ok (.iconst 0, 1) := by decide +kernel
theorem dX12_con_114 : decode cX12_con 114 = .ok (.ireturn, 1) := by decide +kernel
theorem dL_match_0 : decode cL_match 0 = .ok (.aload 7, 2) := by decide +kernel
theorem dL_match_2 : decode cL_match 2 = .ok (.iconst 0, 1) := by decide +kernel
theorem dL_match_3 : decode cL_match 3 = .ok (.aload_n 0, 1) := by decide +kernel
theorem dL_match_4 : decode cL_match 4 = .ok (.iload_n 1, 1) := by decide +kernel
theorem dL_match_5 : decode cL_match 5 = .ok (.iload_n 2, 1) := by decide +kernel
theorem dL_match_6 : decode cL_match 6 = .ok (.iload_n 3, 1) := by decide +kernel
theorem dL_match_7 : decode cL_match 7 = .ok (.iload 4, 2) := by decide +kernel
theorem dL_match_9 : decode cL_match 9 = .ok (.iload 5, 2) := by decide +kernel
theorem dL_match_11 : decode cL_match 11 = .ok (.iload 6, 2) := by decide +kernel
theorem dL_match_13 : decode cL_match 13 = .ok (.invokevirtual 39, 3) := by decide +kernel
theorem dL_match_21 : decode cL_match 21 = .ok (.astore 8, 2) := by decide +kernel
theorem dL_match_23 : decode cL_match 23 = .ok (.iconst 1, 1) := by decide +kernel
theorem dL_match_24 : decode cL_match 24 = .ok (.ireturn, 1) := by decide +kernel
theorem dX11_match_0 : decode cX11_match 0 = .ok (.aload_n 0, 1) := by decide +kernel
theorem dX11_match_1 : decode cX11_match 1 = .ok (.iload_n 1, 1) := by decide +kernel
theorem dX11_match_2 : decode cX11_match 2 = .ok (.invokevirtual 76, 3) := by decide +kernel
theorem dX12_match_0 : decode cX12_match 0 = .ok (.aload_n 0, 1) := by decide +kernel
theorem dX12_match_1 : decode cX12_match 1 = .ok (.iload_n 1, 1) := by decide +kernel
theorem dX12_match_2 : decode cX12_match 2 = .ok (.invokevirtual 200, 3) := by decide +kernel
theorem dX12_match_5 : decode cX12_match 5 = .ok (.ifCond .eq 25, 3) := by decide +kernel
theorem dX12_match_30 : decode cX12_match 30 = .ok (.iconst 0, 1) := by decide +kernel
theorem dX12_match_31 : decode cX12_match 31 = .ok (.istore 7, 2) := by decide +kernel
theorem dX12_match_33 : decode cX12_match 33 = .ok (.aload_n 0, 1) := by decide +kernel
theorem dX12_match_34 : decode cX12_match 34 = .ok (.iload 7, 2) := by decide +kernel
theorem dX12_match_36 : decode cX12_match 36 = .ok (.iload_n 2, 1) := by decide +kernel
theorem dX12_match_37 : decode cX12_match 37 = .ok (.iconst 0, 1) := by decide +kernel
theorem dX12_match_38 : decode cX12_match 38 = .ok (.iconst 3, 1) := by decide +kernel
theorem dX12_match_39 : decode cX12_match 39 = .ok (.invokestatic 175, 3) := by decide +kernel
theorem dX12_match_42 : decode cX12_match 42 = .ok (.ifCond .eq 22, 3) := by decide +kernel
theorem dX12_match_45 : decode cX12_match 45 = .ok (.iload_n 3, 1) := by decide +kernel
theorem dX12_match_46 : decode cX12_match 46 = .ok (.invokestatic 190, 3) := by decide +kernel
theorem dX12_match_49 : decode cX12_match 49 = .ok (.ifCond .eq 15, 3) := by decide +kernel
theorem dX12_match_52 : decode cX12_match 52 = .ok (.iload 4, 2) := by decide +kernel
theorem dX12_match_54 : decode cX12_match 54 = .ok (.invokestatic 190, 3) := by decide +kernel
theorem dX12_match_57 : decode cX12_match 57 = .ok (.ifCond .eq 7, 3) := by decide +kernel
theorem dX12_match_60 : decode cX12_match 60 = .ok (.iconst 1, 1) := by decide +kernel
theorem dX12_match_61 : decode cX12_match 61 = .ok (.goto 4, 3) := by decide +kernel
theorem dX12_match_64 : decode cX12_match 64 = .ok (.iconst 0, 1) := by decide +kernel
theorem dX12_match_65 : decode cX12_match 65 = .ok (.invokevirtual 203, 3) := by decide +kernel
theorem dX12_match_68 : decode cX12_match 68 = .ok (.ifCond .ne 5, 3) := by decide +kernel
theorem dX12_match_71 : decode cX12_match 71 = .ok (.iconst 0, 1) := by decide +kernel
theorem dX12_match_72 : decode cX12_match 72 = .ok (.ireturn, 1) := by decide +kernel
theorem dL_choose_0 : decode cL_choose 0 = .ok (.aload 4, 2) := by decide +kernel
theorem dL_choose_2 : decode cL_choose 2 = .ok (.iconst 0, 1) := by decide +kernel
theorem dL_choose_3 : decode cL_choose 3 = .ok (.aload_n 0, 1) := by decide +kernel
theorem dL_choose_4 : decode cL_choose 4 = .ok (.iload_n 1, 1) := by decide +kernel
theorem dL_choose_5 : decode cL_choose 5 = .ok (.iload_n 2, 1) := by decide +kernel
theorem dL_choose_6 : decode cL_choose 6 = .ok (.iload_n 3, 1) := by decide +kernel
theorem dL_choose_7 : decode cL_choose 7 = .ok (.invokevirtual 43, 3) := by decide +kernel
theorem dL_choose_15 : decode cL_choose 15 = .ok (.astore 5, 2) := by decide +kernel
theorem dL_choose_17 : decode cL_choose 17 = .ok (.iconst 1, 1) := by decide +kernel
theorem dL_choose_18 : decode cL_choose 18 = .ok (.ireturn, 1) := by decide +kernel
theorem dX11_choose_0 : decode cX11_choose 0 = .ok (.aload_n 0, 1) := by decide +kernel
theorem dX11_choose_1 : decode cX11_choose 1 = .ok (.iload_n 1, 1) := by decide +kernel
theorem dX11_choose_2 : decode cX11_choose 2 = .ok (.invokevirtual 76, 3) := by decide +kernel
theorem dX12_choose_0 : decode cX12_choose 0 = .ok (.aload_n 0, 1) := by decide +kernel
theorem dX12_choose_1 : decode cX12_choose 1 = .ok (.aload_n 0, 1) := by decide +kernel
theorem dX12_choose_2 : decode cX12_choose 2 = .ok (.iload_n 1, 1) := by decide +kernel
theorem dX12_choose_3 : decode cX12_choose 3 = .ok (.invokevirtual 200, 3) := by decide +kernel
theorem dX12_choose_6 : decode cX12_choose 6 = .ok (.ifCond .eq 23, 3) := by decide +kernel
theorem dX12_choose_29 : decode cX12_choose 29 = .ok (.iconst 0, 1) := by decide +kernel
theorem dX12_choose_30 : decode cX12_choose 30 = .ok (.invokevirtual 193, 3) := by decide +kernel
theorem dX12_choose_33 : decode cX12_choose 33 = .ok (.ifCond .eq 17, 3) := by decide +kernel
theorem dX12_choose_50 : decode cX12_choose 50 = .ok (.iconst 0, 1) := by decide +kernel
theorem dX12_choose_51 : decode cX12_choose 51 = .ok (.ireturn, 1) := by decide +kernel
theorem dL_prim_0 : decode cL_prim 0 = .ok (.aload 4, 2) := by decide +kernel
theorem dL_prim_2 : decode cL_prim 2 = .ok (.iconst 0, 1) := by decide +kernel
theorem dL_prim_3 : decode cL_prim 3 = .ok (.aload_n 0, 1) := by decide +kernel
theorem dL_prim_4 : decode cL_prim 4 = .ok (.iload_n 1, 1) := by decide +kernel
theorem dL_prim_5 : decode cL_prim 5 = .ok (.iload_n 2, 1) := by decide +kernel
theorem dL_prim_6 : decode cL_prim 6 = .ok (.iload_n 3, 1) := by decide +kernel
theorem dL_prim_7 : decode cL_prim 7 = .ok (.invokevirtual 46, 3) := by decide +kernel
theorem dL_prim_15 : decode cL_prim 15 = .ok (.astore 5, 2) := by decide +kernel
theorem dL_prim_17 : decode cL_prim 17 = .ok (.iconst 1, 1) := by decide +kernel
theorem dL_prim_18 : decode cL_prim 18 = .ok (.ireturn, 1) := by decide +kernel
theorem dX11_prim_0 : decode cX11_prim 0 = .ok (.aload_n 0, 1) := by decide +kernel
theorem dX11_prim_1 : decode cX11_prim 1 = .ok (.iload_n 2, 1) := by decide +kernel
theorem dX11_prim_2 : decode cX11_prim 2 = .ok (.invokevirtual 76, 3) := by decide +kernel
theorem dX12_prim_0 : decode cX12_prim 0 = .ok (.aload_n 0, 1) := by decide +kernel
theorem dX12_prim_1 : decode cX12_prim 1 = .ok (.aload_n 0, 1) := by decide +kernel
theorem dX12_prim_2 : decode cX12_prim 2 = .ok (.iload_n 2, 1) := by decide +kernel
theorem dX12_prim_3 : decode cX12_prim 3 = .ok (.invokevirtual 200, 3) := by decide +kernel
theorem dX12_prim_6 : decode cX12_prim 6 = .ok (.ifCond .eq 15, 3) := by decide +kernel
theorem dX12_prim_21 : decode cX12_prim 21 = .ok (.iconst 0, 1) := by decide +kernel
theorem dX12_prim_22 : decode cX12_prim 22 = .ok (.iload_n 1, 1) := by decide +kernel
theorem dX12_prim_23 : decode cX12_prim 23 = .ok (.iconst 0, 1) := by decide +kernel
theorem dX12_prim_24 : decode cX12_prim 24 = .ok (.iconst 4, 1) := by decide +kernel
theorem dX12_prim_25 : decode cX12_prim 25 = .ok (.invokestatic 175, 3) := by decide +kernel
theorem dX12_prim_28 : decode cX12_prim 28 = .ok (.invokevirtual 203, 3) := by decide +kernel
theorem dX12_prim_31 : decode cX12_prim 31 = .ok (.ifCond .eq 17, 3) := by decide +kernel
theorem dX12_prim_48 : decode cX12_prim 48 = .ok (.iconst 0, 1) := by decide +kernel
theorem dX12_prim_49 : decode cX12_prim 49 = .ok (.ireturn, 1) := by decide +kernel
theorem dL_seq_0 : decode cL_seq 0 = .ok (.aload_n 3, 1) := by decide +kernel
theorem dL_seq_1 : decode cL_seq 1 = .ok (.iconst 0, 1) := by decide +kernel
theorem dL_seq_2 : decode cL_seq 2 = .ok (.aload_n 0, 1) := by decide +kernel
theorem dL_seq_3 : decode cL_seq 3 = .ok (.iload_n 1, 1) := by decide +kernel
theorem dL_seq_4 : decode cL_seq 4 = .ok (.iload_n 2, 1) := by decide +kernel
theorem dL_seq_5 : decode cL_seq 5 = .ok (.invokevirtual 49, 3) := by decide +kernel
theorem dL_seq_13 : decode cL_seq 13 = .ok (.astore 4, 2) := by decide +kernel
theorem dL_seq_15 : decode cL_seq 15 = .ok (.iconst 1, 1) := by decide +kernel
theorem dL_seq_16 : decode cL_seq 16 = .ok (.ireturn, 1) := by decide +kernel
theorem dX11_seq_0 : decode cX11_seq 0 = .ok (.aload_n 0, 1) := by decide +kernel
theorem dX11_seq_1 : decode cX11_seq 1 = .ok (.iload_n 1, 1) := by decide +kernel
theorem dX11_seq_2 : decode cX11_seq 2 = .ok (.invokevirtual 76, 3) := by decide +kernel
theorem dX12_seq_0 : decode cX12_seq 0 = .ok (.aload_n 0, 1) := by decide +kernel
theorem dX12_seq_1 : decode cX12_seq 1 = .ok (.aload_n 0, 1) := by decide +kernel
theorem dX12_seq_2 : decode cX12_seq 2 = .ok (.iload_n 1, 1) := by decide +kernel
theorem dX12_seq_3 : decode cX12_seq 3 = .ok (.invokevirtual 200, 3) := by decide +kernel
theorem dX12_seq_6 : decode cX12_seq 6 = .ok (.ifCond .eq 15, 3) := by decide +kernel
theorem dX12_seq_21 : decode cX12_seq 21 = .ok (.iconst 0, 1) := by decide +kernel
theorem dX12_seq_22 : decode cX12_seq 22 = .ok (.invokevirtual 193, 3) := by decide +kernel
theorem dX12_seq_25 : decode cX12_seq 25 = .ok (.ifCond .eq 17, 3) := by decide +kernel
theorem dX12_seq_42 : decode cX12_seq 42 = .ok (.iconst 0, 1) := by decide +kernel
theorem dX12_seq_43 : decode cX12_seq 43 = .ok (.ireturn, 1) := by decide +kernel
theorem dL_raise_0 : decode cL_raise 0 = .ok (.aload_n 2, 1) := by decide +kernel
theorem dL_raise_1 : decode cL_raise 1 = .ok (.iconst 0, 1) := by decide +kernel
theorem dL_raise_2 : decode cL_raise 2 = .ok (.aload_n 0, 1) := by decide +kernel
theorem dL_raise_3 : decode cL_raise 3 = .ok (.iload_n 1, 1) := by decide +kernel
theorem dL_raise_4 : decode cL_raise 4 = .ok (.invokevirtual 52, 3) := by decide +kernel
theorem dL_raise_12 : decode cL_raise 12 = .ok (.astore_n 3, 1) := by decide +kernel
theorem dL_raise_13 : decode cL_raise 13 = .ok (.iconst 1, 1) := by decide +kernel
theorem dL_raise_14 : decode cL_raise 14 = .ok (.ireturn, 1) := by decide +kernel
theorem dX11_raise_0 : decode cX11_raise 0 = .ok (.aload_n 0, 1) := by decide +kernel
theorem dX11_raise_1 : decode cX11_raise 1 = .ok (.iload_n 1, 1) := by decide +kernel
theorem dX11_raise_2 : decode cX11_raise 2 = .ok (.invokevirtual 76, 3) := by decide +kernel
theorem dX12_raise_0 : decode cX12_raise 0 = .ok (.aload_n 0, 1) := by decide +kernel
theorem dX12_raise_1 : decode cX12_raise 1 = .ok (.aload_n 0, 1) := by decide +kernel
theorem dX12_raise_2 : decode cX12_raise 2 = .ok (.iload_n 1, 1) := by decide +kernel
theorem dX12_raise_3 : decode cX12_raise 3 = .ok (.invokevirtual 200, 3) := by decide +kernel
theorem dX12_raise_6 : decode cX12_raise 6 = .ok (.invokevirtual 193, 3) := by decide +kernel
theorem dX12_raise_9 : decode cX12_raise 9 = .ok (.ifCond .eq 17, 3) := by decide +kernel
theorem dX12_raise_26 : decode cX12_raise 26 = .ok (.iconst 0, 1) := by decide +kernel
theorem dX12_raise_27 : decode cX12_raise 27 = .ok (.ireturn, 1) := by decide +kernel
theorem dL_hold_0 : decode cL_hold 0 = .ok (.aload 4, 2) := by decide +kernel
theorem dL_hold_2 : decode cL_hold 2 = .ok (.iconst 0, 1) := by decide +kernel
theorem dL_hold_3 : decode cL_hold 3 = .ok (.aload_n 0, 1) := by decide +kernel
theorem dL_hold_4 : decode cL_hold 4 = .ok (.iload_n 1, 1) := by decide +kernel
theorem dL_hold_5 : decode cL_hold 5 = .ok (.iload_n 2, 1) := by decide +kernel
theorem dL_hold_6 : decode cL_hold 6 = .ok (.iload_n 3, 1) := by decide +kernel
theorem dL_hold_7 : decode cL_hold 7 = .ok (.invokevirtual 55, 3) := by decide +kernel
theorem dL_hold_15 : decode cL_hold 15 = .ok (.astore 5, 2) := by decide +kernel
theorem dL_hold_17 : decode cL_hold 17 = .ok (.iconst 1, 1) := by decide +kernel
theorem dL_hold_18 : decode cL_hold 18 = .ok (.ireturn, 1) := by decide +kernel
theorem dX11_hold_0 : decode cX11_hold 0 = .ok (.aload_n 0, 1) := by decide +kernel
theorem dX11_hold_1 : decode cX11_hold 1 = .ok (.iload_n 1, 1) := by decide +kernel
theorem dX11_hold_2 : decode cX11_hold 2 = .ok (.invokevirtual 76, 3) := by decide +kernel
theorem dX12_hold_0 : decode cX12_hold 0 = .ok (.aload_n 0, 1) := by decide +kernel
theorem dX12_hold_1 : decode cX12_hold 1 = .ok (.aload_n 0, 1) := by decide +kernel
theorem dX12_hold_2 : decode cX12_hold 2 = .ok (.iload_n 1, 1) := by decide +kernel
theorem dX12_hold_3 : decode cX12_hold 3 = .ok (.invokevirtual 200, 3) := by decide +kernel
theorem dX12_hold_6 : decode cX12_hold 6 = .ok (.ifCond .eq 15, 3) := by decide +kernel
theorem dX12_hold_21 : decode cX12_hold 21 = .ok (.iconst 0, 1) := by decide +kernel
theorem dX12_hold_22 : decode cX12_hold 22 = .ok (.iload_n 2, 1) := by decide +kernel
theorem dX12_hold_23 : decode cX12_hold 23 = .ok (.invokestatic 190, 3) := by decide +kernel
theorem dX12_hold_26 : decode cX12_hold 26 = .ok (.invokevirtual 203, 3) := by decide +kernel
theorem dX12_hold_29 : decode cX12_hold 29 = .ok (.ifCond .eq 17, 3) := by decide +kernel
theorem dX12_hold_46 : decode cX12_hold 46 = .ok (.iconst 0, 1) := by decide +kernel
theorem dX12_hold_47 : decode cX12_hold 47 = .ok (.ireturn, 1) := by decide +kernel
theorem dL_par_0 : decode cL_par 0 = .ok (.aload_n 3, 1) := by decide +kernel
theorem dL_par_1 : decode cL_par 1 = .ok (.iconst 0, 1) := by decide +kernel
theorem dL_par_2 : decode cL_par 2 = .ok (.aload_n 0, 1) := by decide +kernel
theorem dL_par_3 : decode cL_par 3 = .ok (.iload_n 1, 1) := by decide +kernel
theorem dL_par_4 : decode cL_par 4 = .ok (.iload_n 2, 1) := by decide +kernel
theorem dL_par_5 : decode cL_par 5 = .ok (.invokevirtual 58, 3) := by decide +kernel
theorem dL_par_13 : decode cL_par 13 = .ok (.astore 4, 2) := by decide +kernel
theorem dL_par_15 : decode cL_par 15 = .ok (.iconst 1, 1) := by decide +kernel
theorem dL_par_16 : decode cL_par 16 = .ok (.ireturn, 1) := by decide +kernel
theorem dX11_par_0 : decode cX11_par 0 = .ok (.aload_n 0, 1) := by decide +kernel
theorem dX11_par_1 : decode cX11_par 1 = .ok (.iload_n 2, 1) := by decide +kernel
theorem dX11_par_2 : decode cX11_par 2 = .ok (.invokevirtual 76, 3) := by decide +kernel
theorem dX12_par_0 : decode cX12_par 0 = .ok (.aload_n 0, 1) := by decide +kernel
theorem dX12_par_1 : decode cX12_par 1 = .ok (.aload_n 0, 1) := by decide +kernel
theorem dX12_par_2 : decode cX12_par 2 = .ok (.iload_n 2, 1) := by decide +kernel
theorem dX12_par_3 : decode cX12_par 3 = .ok (.invokevirtual 200, 3) := by decide +kernel
theorem dX12_par_6 : decode cX12_par 6 = .ok (.iload_n 1, 1) := by decide +kernel
theorem dX12_par_7 : decode cX12_par 7 = .ok (.invokestatic 190, 3) := by decide +kernel
theorem dX12_par_10 : decode cX12_par 10 = .ok (.invokevirtual 203, 3) := by decide +kernel
theorem dX12_par_13 : decode cX12_par 13 = .ok (.ifCond .eq 17, 3) := by decide +kernel
theorem dX12_par_30 : decode cX12_par 30 = .ok (.iconst 0, 1) := by decide +kernel
theorem dX12_par_31 : decode cX12_par 31 = .ok (.ireturn, 1) := by decide +kernel
theorem dL_centre_0 : decode cL_centre 0 = .ok (.aload_n 3, 1) := by decide +kernel
theorem dL_centre_1 : decode cL_centre 1 = .ok (.iconst 0, 1) := by decide +kernel
theorem dL_centre_2 : decode cL_centre 2 = .ok (.aload_n 0, 1) := by decide +kernel
theorem dL_centre_3 : decode cL_centre 3 = .ok (.iload_n 1, 1) := by decide +kernel
theorem dL_centre_4 : decode cL_centre 4 = .ok (.iload_n 2, 1) := by decide +kernel
theorem dL_centre_5 : decode cL_centre 5 = .ok (.invokevirtual 61, 3) := by decide +kernel
theorem dL_centre_13 : decode cL_centre 13 = .ok (.astore 4, 2) := by decide +kernel
theorem dL_centre_15 : decode cL_centre 15 = .ok (.iconst 1, 1) := by decide +kernel
theorem dL_centre_16 : decode cL_centre 16 = .ok (.ireturn, 1) := by decide +kernel
theorem dX11_centre_0 : decode cX11_centre 0 = .ok (.aload_n 0, 1) := by decide +kernel
theorem dX11_centre_1 : decode cX11_centre 1 = .ok (.iload_n 2, 1) := by decide +kernel
theorem dX11_centre_2 : decode cX11_centre 2 = .ok (.invokevirtual 76, 3) := by decide +kernel
theorem dX12_centre_0 : decode cX12_centre 0 = .ok (.aload_n 0, 1) := by decide +kernel
theorem dX12_centre_1 : decode cX12_centre 1 = .ok (.aload_n 0, 1) := by decide +kernel
theorem dX12_centre_2 : decode cX12_centre 2 = .ok (.iload_n 2, 1) := by decide +kernel
theorem dX12_centre_3 : decode cX12_centre 3 = .ok (.invokevirtual 200, 3) := by decide +kernel
theorem dX12_centre_6 : decode cX12_centre 6 = .ok (.iload_n 1, 1) := by decide +kernel
theorem dX12_centre_7 : decode cX12_centre 7 = .ok (.iconst 0, 1) := by decide +kernel
theorem dX12_centre_8 : decode cX12_centre 8 = .ok (.iconst 3, 1) := by decide +kernel
theorem dX12_centre_9 : decode cX12_centre 9 = .ok (.invokestatic 175, 3) := by decide +kernel
theorem dX12_centre_12 : decode cX12_centre 12 = .ok (.invokevirtual 203, 3) := by decide +kernel
theorem dX12_centre_15 : decode cX12_centre 15 = .ok (.ifCond .eq 17, 3) := by decide +kernel
theorem dX12_centre_32 : decode cX12_centre 32 = .ok (.iconst 0, 1) := by decide +kernel
theorem dX12_centre_33 : decode cX12_centre 33 = .ok (.ireturn, 1) := by decide +kernel
theorem dL_define_0 : decode cL_define 0 = .ok (.aload_n 3, 1) := by decide +kernel
theorem dL_define_1 : decode cL_define 1 = .ok (.iconst 0, 1) := by decide +kernel
theorem dL_define_2 : decode cL_define 2 = .ok (.aload_n 0, 1) := by decide +kernel
theorem dL_define_3 : decode cL_define 3 = .ok (.iload_n 1, 1) := by decide +kernel
theorem dL_define_4 : decode cL_define 4 = .ok (.iload_n 2, 1) := by decide +kernel
theorem dL_define_5 : decode cL_define 5 = .ok (.invokevirtual 64, 3) := by decide +kernel
theorem dL_define_13 : decode cL_define 13 = .ok (.astore 4, 2) := by decide +kernel
theorem dL_define_15 : decode cL_define 15 = .ok (.iconst 1, 1) := by decide +kernel
theorem dL_define_16 : decode cL_define 16 = .ok (.ireturn, 1) := by decide +kernel
theorem dX11_define_0 : decode cX11_define 0 = .ok (.aload_n 0, 1) := by decide +kernel
theorem dX11_define_1 : decode cX11_define 1 = .ok (.iload_n 2, 1) := by decide +kernel
theorem dX11_define_2 : decode cX11_define 2 = .ok (.invokevirtual 76, 3) := by decide +kernel
theorem dX12_define_0 : decode cX12_define 0 = .ok (.aload_n 0, 1) := by decide +kernel
theorem dX12_define_1 : decode cX12_define 1 = .ok (.iload_n 2, 1) := by decide +kernel
theorem dX12_define_2 : decode cX12_define 2 = .ok (.invokevirtual 200, 3) := by decide +kernel
theorem dX12_define_5 : decode cX12_define 5 = .ok (.istore_n 3, 1) := by decide +kernel
theorem dX12_define_6 : decode cX12_define 6 = .ok (.iload_n 3, 1) := by decide +kernel
theorem dX12_define_7 : decode cX12_define 7 = .ok (.ifCond .eq 18, 3) := by decide +kernel
theorem dX12_define_25 : decode cX12_define 25 = .ok (.iconst 0, 1) := by decide +kernel
theorem dX12_define_26 : decode cX12_define 26 = .ok (.istore 4, 2) := by decide +kernel
theorem dX12_define_28 : decode cX12_define 28 = .ok (.iload 4, 2) := by decide +kernel
theorem dX12_define_30 : decode cX12_define 30 = .ok (.ifCond .eq 8, 3) := by decide +kernel
theorem dX12_define_38 : decode cX12_define 38 = .ok (.aload_n 0, 1) := by decide +kernel
theorem dX12_define_39 : decode cX12_define 39 = .ok (.iload_n 3, 1) := by decide +kernel
theorem dX12_define_40 : decode cX12_define 40 = .ok (.ifCond .ne 7, 3) := by decide +kernel
theorem dX12_define_43 : decode cX12_define 43 = .ok (.iconst 1, 1) := by decide +kernel
theorem dX12_define_44 : decode cX12_define 44 = .ok (.goto 36, 3) := by decide +kernel
theorem dX12_define_80 : decode cX12_define 80 = .ok (.invokevirtual 182, 3) := by decide +kernel
theorem dX12_define_83 : decode cX12_define 83 = .ok (.ifCond .ne 5, 3) := by decide +kernel
theorem dX12_define_86 : decode cX12_define 86 = .ok (.iconst 0, 1) := by decide +kernel
theorem dX12_define_87 : decode cX12_define 87 = .ok (.ireturn, 1) := by decide +kernel
theorem dL_rule_0 : decode cL_rule 0 = .ok (.aload 4, 2) := by decide +kernel
theorem dL_rule_2 : decode cL_rule 2 = .ok (.iconst 0, 1) := by decide +kernel
theorem dL_rule_3 : decode cL_rule 3 = .ok (.aload_n 0, 1) := by decide +kernel
theorem dL_rule_4 : decode cL_rule 4 = .ok (.iload_n 1, 1) := by decide +kernel
theorem dL_rule_5 : decode cL_rule 5 = .ok (.iload_n 2, 1) := by decide +kernel
theorem dL_rule_6 : decode cL_rule 6 = .ok (.iload_n 3, 1) := by decide +kernel
theorem dL_rule_7 : decode cL_rule 7 = .ok (.invokevirtual 67, 3) := by decide +kernel
theorem dL_rule_10 : decode cL_rule 10 = .ok (.i2l, 1) := by decide +kernel
theorem dL_rule_11 : decode cL_rule 11 = .ok (.lastore, 1) := by decide +kernel
theorem dL_rule_12 : decode cL_rule 12 = .ok (.goto 11, 3) := by decide +kernel
theorem dL_rule_15 : decode cL_rule 15 = .ok (.astore 5, 2) := by decide +kernel
theorem dL_rule_17 : decode cL_rule 17 = .ok (.iconst 1, 1) := by decide +kernel
theorem dL_rule_18 : decode cL_rule 18 = .ok (.ireturn, 1) := by decide +kernel
theorem dL_rule_23 : decode cL_rule 23 = .ok (.iconst 0, 1) := by decide +kernel
theorem dL_rule_24 : decode cL_rule 24 = .ok (.ireturn, 1) := by decide +kernel
theorem dX11_rule_0 : decode cX11_rule 0 = .ok (.aload_n 0, 1) := by decide +kernel
theorem dX11_rule_1 : decode cX11_rule 1 = .ok (.iload_n 1, 1) := by decide +kernel
theorem dX11_rule_2 : decode cX11_rule 2 = .ok (.bipush 8, 2) := by decide +kernel
theorem dX11_rule_4 : decode cX11_rule 4 = .ok (.invokevirtual 72, 3) := by decide +kernel
theorem dX11_rule_7 : decode cX11_rule 7 = .ok (.aload_n 0, 1) := by decide +kernel
theorem dX11_rule_8 : decode cX11_rule 8 = .ok (.iload_n 2, 1) := by decide +kernel
theorem dX11_rule_9 : decode cX11_rule 9 = .ok (.bipush 8, 2) := by decide +kernel
theorem dX11_rule_11 : decode cX11_rule 11 = .ok (.invokevirtual 72, 3) := by decide +kernel
theorem dX11_rule_14 : decode cX11_rule 14 = .ok (.aload_n 0, 1) := by decide +kernel
theorem dX11_rule_15 : decode cX11_rule 15 = .ok (.iload_n 3, 1) := by decide +kernel
theorem dX11_rule_16 : decode cX11_rule 16 = .ok (.bipush 8, 2) := by decide +kernel
theorem dX11_rule_18 : decode cX11_rule 18 = .ok (.invokevirtual 72, 3) := by decide +kernel
theorem dX11_rule_21 : decode cX11_rule 21 = .ok (.aload_n 0, 1) := by decide +kernel
theorem dX11_rule_22 : decode cX11_rule 22 = .ok (.getfield 49, 3) := by decide +kernel
theorem dX11_rule_25 : decode cX11_rule 25 = .ok (.invokevirtual 107, 3) := by decide +kernel
theorem dX11_rule_28 : decode cX11_rule 28 = .ok (.ifCond .eq 13, 3) := by decide +kernel
theorem dX11_rule_41 : decode cX11_rule 41 = .ok (.aload_n 0, 1) := by decide +kernel
theorem dX11_rule_42 : decode cX11_rule 42 = .ok (.getfield 49, 3) := by decide +kernel
theorem dX11_rule_45 : decode cX11_rule 45 = .ok (.iload_n 1, 1) := by decide +kernel
theorem dX11_rule_46 : decode cX11_rule 46 = .ok (.iload_n 2, 1) := by decide +kernel
theorem dX11_rule_47 : decode cX11_rule 47 = .ok (.iload_n 3, 1) := by decide +kernel
theorem dX11_rule_48 : decode cX11_rule 48 = .ok (.invokevirtual 113, 3) := by decide +kernel
theorem dX11_rule_51 : decode cX11_rule 51 = .ok (.ireturn, 1) := by decide +kernel
theorem dX12_rule_0 : decode cX12_rule 0 = .ok (.aload_n 0, 1) := by decide +kernel
theorem dX12_rule_1 : decode cX12_rule 1 = .ok (.iload_n 1, 1) := by decide +kernel
theorem dX12_rule_2 : decode cX12_rule 2 = .ok (.invokestatic 197, 3) := by decide +kernel
theorem dX12_rule_5 : decode cX12_rule 5 = .ok (.ifCond .eq 17, 3) := by decide +kernel
theorem dX12_rule_8 : decode cX12_rule 8 = .ok (.iload_n 2, 1) := by decide +kernel
theorem dX12_rule_9 : decode cX12_rule 9 = .ok (.invokestatic 197, 3) := by decide +kernel
theorem dX12_rule_12 : decode cX12_rule 12 = .ok (.ifCond .eq 10, 3) := by decide +kernel
theorem dX12_rule_15 : decode cX12_rule 15 = .ok (.iload_n 3, 1) := by decide +kernel
theorem dX12_rule_16 : decode cX12_rule 16 = .ok (.invokestatic 197, 3) := by decide +kernel
theorem dX12_rule_19 : decode cX12_rule 19 = .ok (.ifCond .ne 7, 3) := by decide +kernel
theorem dX12_rule_22 : decode cX12_rule 22 = .ok (.iconst 1, 1) := by decide +kernel
theorem dX12_rule_23 : decode cX12_rule 23 = .ok (.goto 17, 3) := by decide +kernel
theorem dX12_rule_26 : decode cX12_rule 26 = .ok (.aload_n 0, 1) := by decide +kernel
theorem dX12_rule_27 : decode cX12_rule 27 = .ok (.getfield 258, 3) := by decide +kernel
theorem dX12_rule_30 : decode cX12_rule 30 = .ok (.bipush 8, 2) := by decide +kernel
theorem dX12_rule_32 : decode cX12_rule 32 = .ok (.if_icmp .ne 7, 3) := by decide +kernel
theorem dX12_rule_39 : decode cX12_rule 39 = .ok (.iconst 0, 1) := by decide +kernel
theorem dX12_rule_40 : decode cX12_rule 40 = .ok (.invokevirtual 182, 3) := by decide +kernel
theorem dX12_rule_43 : decode cX12_rule 43 = .ok (.ifCond .ne 5, 3) := by decide +kernel
theorem dX12_rule_46 : decode cX12_rule 46 = .ok (.iconst 0, 1) := by decide +kernel
theorem dX12_rule_47 : decode cX12_rule 47 = .ok (.ireturn, 1) := by decide +kernel
theorem dX12_rule_48 : decode cX12_rule 48 = .ok (.aload_n 0, 1) := by decide +kernel
theorem dX12_rule_49 : decode cX12_rule 49 = .ok (.getfield 52, 3) := by decide +kernel
theorem dX12_rule_52 : decode cX12_rule 52 = .ok (.iconst 3, 1) := by decide +kernel
theorem dX12_rule_53 : decode cX12_rule 53 = .ok (.aload_n 0, 1) := by decide +kernel
theorem dX12_rule_54 : decode cX12_rule 54 = .ok (.getfield 258, 3) := by decide +kernel
theorem dX12_rule_57 : decode cX12_rule 57 = .ok (.imul, 1) := by decide +kernel
theorem dX12_rule_58 : decode cX12_rule 58 = .ok (.iload_n 1, 1) := by decide +kernel
theorem dX12_rule_59 : decode cX12_rule 59 = .ok (.iastore, 1) := by decide +kernel
theorem dX12_rule_60 : decode cX12_rule 60 = .ok (.aload_n 0, 1) := by decide +kernel
theorem dX12_rule_61 : decode cX12_rule 61 = .ok (.getfield 52, 3) := by decide +kernel
theorem dX12_rule_64 : decode cX12_rule 64 = .ok (.iconst 3, 1) := by decide +kernel
theorem dX12_rule_65 : decode cX12_rule 65 = .ok (.aload_n 0, 1) := by decide +kernel
theorem dX12_rule_66 : decode cX12_rule 66 = .ok (.getfield 258, 3) := by decide +kernel
theorem dX12_rule_69 : decode cX12_rule 69 = .ok (.imul, 1) := by decide +kernel
theorem dX12_rule_70 : decode cX12_rule 70 = .ok (.iconst 1, 1) := by decide +kernel
theorem dX12_rule_71 : decode cX12_rule 71 = .ok (.iadd, 1) := by decide +kernel
theorem dX12_rule_72 : decode cX12_rule 72 = .ok (.iload_n 2, 1) := by decide +kernel
theorem dX12_rule_73 : decode cX12_rule 73 = .ok (.iastore, 1) := by decide +kernel
theorem dX12_rule_74 : decode cX12_rule 74 = .ok (.aload_n 0, 1) := by decide +kernel
theorem dX12_rule_75 : decode cX12_rule 75 = .ok (.getfield 52, 3) := by decide +kernel
theorem dX12_rule_78 : decode cX12_rule 78 = .ok (.iconst 3, 1) := by decide +kernel
theorem dX12_rule_79 : decode cX12_rule 79 = .ok (.aload_n 0, 1) := by decide +kernel
theorem dX12_rule_80 : decode cX12_rule 80 = .ok (.getfield 258, 3) := by decide +kernel
theorem dX12_rule_83 : decode cX12_rule 83 = .ok (.imul, 1) := by decide +kernel
theorem dX12_rule_84 : decode cX12_rule 84 = .ok (.iconst 2, 1) := by decide +kernel
theorem dX12_rule_85 : decode cX12_rule 85 = .ok (.iadd, 1) := by decide +kernel
theorem dX12_rule_86 : decode cX12_rule 86 = .ok (.iload_n 3, 1) := by decide +kernel
theorem dX12_rule_87 : decode cX12_rule 87 = .ok (.iastore, 1) := by decide +kernel
theorem dX12_rule_88 : decode cX12_rule 88 = .ok (.aload_n 0, 1) := by decide +kernel
theorem dX12_rule_89 : decode cX12_rule 89 = .ok (.dup, 1) := by decide +kernel
theorem dX12_rule_90 : decode cX12_rule 90 = .ok (.getfield 258, 3) := by decide +kernel
theorem dX12_rule_93 : decode cX12_rule 93 = .ok (.iconst 1, 1) := by decide +kernel
theorem dX12_rule_94 : decode cX12_rule 94 = .ok (.iadd, 1) := by decide +kernel
theorem dX12_rule_95 : decode cX12_rule 95 = .ok (.putfield 258, 3) := by decide +kernel
theorem dX12_rule_98 : decode cX12_rule 98 = .ok (.aload_n 0, 1) := by decide +kernel
theorem dX12_rule_99 : decode cX12_rule 99 = .ok (.getfield 258, 3) := by decide +kernel
theorem dX12_rule_102 : decode cX12_rule 102 = .ok (.ireturn, 1) := by decide +kernel
theorem dX6_hasAllRules_0 : decode cX6_hasAllRules 0 = .ok (.aload_n 0, 1) := by decide +kernel
theorem dX6_hasAllRules_1 : decode cX6_hasAllRules 1 = .ok (.getfield 50, 3) := by decide +kernel
theorem dX6_hasAllRules_4 : decode cX6_hasAllRules 4 = .ok (.bipush 8, 2) := by decide +kernel
theorem dX6_hasAllRules_6 : decode cX6_hasAllRules 6 = .ok (.if_icmp .lt 7, 3) := by decide +kernel
theorem dX6_hasAllRules_13 : decode cX6_hasAllRules 13 = .ok (.iconst 0, 1) := by decide +kernel
theorem dX6_hasAllRules_14 : decode cX6_hasAllRules 14 = .ok (.ireturn, 1) := by decide +kernel
theorem dX6_addRule_0 : decode cX6_addRule 0 = .ok (.aload_n 0, 1) := by decide +kernel
theorem dX6_addRule_1 : decode cX6_addRule 1 = .ok (.getfield 50, 3) := by decide +kernel
theorem dX6_addRule_4 : decode cX6_addRule 4 = .ok (.bipush 8, 2) := by decide +kernel
theorem dX6_addRule_6 : decode cX6_addRule 6 = .ok (.if_icmp .ge 43, 3) := by decide +kernel
theorem dX6_addRule_9 : decode cX6_addRule 9 = .ok (.aload_n 0, 1) := by decide +kernel
theorem dX6_addRule_10 : decode cX6_addRule 10 = .ok (.getfield 41, 3) := by decide +kernel
theorem dX6_addRule_13 : decode cX6_addRule 13 = .ok (.aload_n 0, 1) := by decide +kernel
theorem dX6_addRule_14 : decode cX6_addRule 14 = .ok (.getfield 50, 3) := by decide +kernel
theorem dX6_addRule_17 : decode cX6_addRule 17 = .ok (.iload_n 1, 1) := by decide +kernel
theorem dX6_addRule_18 : decode cX6_addRule 18 = .ok (.iastore, 1) := by decide +kernel
theorem dX6_addRule_19 : decode cX6_addRule 19 = .ok (.aload_n 0, 1) := by decide +kernel
theorem dX6_addRule_20 : decode cX6_addRule 20 = .ok (.getfield 44, 3) := by decide +kernel
theorem dX6_addRule_23 : decode cX6_addRule 23 = .ok (.aload_n 0, 1) := by decide +kernel
theorem dX6_addRule_24 : decode cX6_addRule 24 = .ok (.getfield 50, 3) := by decide +kernel
theorem dX6_addRule_27 : decode cX6_addRule 27 = .ok (.iload_n 2, 1) := by decide +kernel
theorem dX6_addRule_28 : decode cX6_addRule 28 = .ok (.iastore, 1) := by decide +kernel
theorem dX6_addRule_29 : decode cX6_addRule 29 = .ok (.aload_n 0, 1) := by decide +kernel
theorem dX6_addRule_30 : decode cX6_addRule 30 = .ok (.getfield 47, 3) := by decide +kernel
theorem dX6_addRule_33 : decode cX6_addRule 33 = .ok (.aload_n 0, 1) := by decide +kernel
theorem dX6_addRule_34 : decode cX6_addRule 34 = .ok (.getfield 50, 3) := by decide +kernel
theorem dX6_addRule_37 : decode cX6_addRule 37 = .ok (.iload_n 3, 1) := by decide +kernel
theorem dX6_addRule_38 : decode cX6_addRule 38 = .ok (.iastore, 1) := by decide +kernel
theorem dX6_addRule_39 : decode cX6_addRule 39 = .ok (.aload_n 0, 1) := by decide +kernel
theorem dX6_addRule_40 : decode cX6_addRule 40 = .ok (.dup, 1) := by decide +kernel
theorem dX6_addRule_41 : decode cX6_addRule 41 = .ok (.getfield 50, 3) := by decide +kernel
theorem dX6_addRule_44 : decode cX6_addRule 44 = .ok (.iconst 1, 1) := by decide +kernel
theorem dX6_addRule_45 : decode cX6_addRule 45 = .ok (.iadd, 1) := by decide +kernel
theorem dX6_addRule_46 : decode cX6_addRule 46 = .ok (.putfield 50, 3) := by decide +kernel
theorem dX6_addRule_49 : decode cX6_addRule 49 = .ok (.aload_n 0, 1) := by decide +kernel
theorem dX6_addRule_50 : decode cX6_addRule 50 = .ok (.getfield 50, 3) := by decide +kernel
theorem dX6_addRule_53 : decode cX6_addRule 53 = .ok (.ireturn, 1) := by decide +kernel
theorem dL_pass_0 : decode cL_pass 0 = .ok (.aload_n 3, 1) := by decide +kernel
theorem dL_pass_1 : decode cL_pass 1 = .ok (.iconst 0, 1) := by decide +kernel
theorem dL_pass_2 : decode cL_pass 2 = .ok (.aload_n 0, 1) := by decide +kernel
theorem dL_pass_3 : decode cL_pass 3 = .ok (.iload_n 1, 1) := by decide +kernel
theorem dL_pass_4 : decode cL_pass 4 = .ok (.iload_n 2, 1) := by decide +kernel
theorem dL_pass_5 : decode cL_pass 5 = .ok (.invokevirtual 70, 3) := by decide +kernel
theorem dL_pass_13 : decode cL_pass 13 = .ok (.astore 4, 2) := by decide +kernel
theorem dL_pass_15 : decode cL_pass 15 = .ok (.iconst 1, 1) := by decide +kernel
theorem dL_pass_16 : decode cL_pass 16 = .ok (.ireturn, 1) := by decide +kernel
theorem dL_pass_17 : decode cL_pass 17 = .ok (.astore 4, 2) := by decide +kernel
theorem dL_pass_19 : decode cL_pass 19 = .ok (.iconst 2, 1) := by decide +kernel
theorem dL_pass_20 : decode cL_pass 20 = .ok (.ireturn, 1) := by decide +kernel
theorem dX11_pass_0 : decode cX11_pass 0 = .ok (.aload_n 0, 1) := by decide +kernel
theorem dX11_pass_1 : decode cX11_pass 1 = .ok (.iload_n 1, 1) := by decide +kernel
theorem dX11_pass_2 : decode cX11_pass 2 = .ok (.bipush 9, 2) := by decide +kernel
theorem dX11_pass_4 : decode cX11_pass 4 = .ok (.invokevirtual 72, 3) := by decide +kernel
theorem dX11_pass_7 : decode cX11_pass 7 = .ok (.aload_n 0, 1) := by decide +kernel
theorem dX11_pass_8 : decode cX11_pass 8 = .ok (.iload_n 2, 1) := by decide +kernel
theorem dX11_pass_9 : decode cX11_pass 9 = .ok (.bipush 8, 2) := by decide +kernel
theorem dX11_pass_11 : decode cX11_pass 11 = .ok (.invokevirtual 72, 3) := by decide +kernel
theorem dX11_pass_14 : decode cX11_pass 14 = .ok (.aload_n 0, 1) := by decide +kernel
theorem dX11_pass_15 : decode cX11_pass 15 = .ok (.getfield 28, 3) := by decide +kernel
theorem dX11_pass_18 : decode cX11_pass 18 = .ok (.iload_n 2, 1) := by decide +kernel
theorem dX11_pass_19 : decode cX11_pass 19 = .ok (.invokevirtual 103, 3) := by decide +kernel
theorem dX11_pass_22 : decode cX11_pass 22 = .ok (.ifCond .ne 13, 3) := by decide +kernel
theorem dX11_pass_25 : decode cX11_pass 25 = .ok (.new 89, 3) := by decide +kernel
theorem dX11_pass_28 : decode cX11_pass 28 = .ok (.dup, 1) := by decide +kernel
theorem dX11_pass_29 : decode cX11_pass 29 = .ok (.ldc 124, 2) := by decide +kernel
theorem dX11_pass_31 : decode cX11_pass 31 = .ok (.invokespecial 93, 3) := by decide +kernel
theorem dX11_pass_34 : decode cX11_pass 34 = .ok (.athrow, 1) := by decide +kernel
theorem dX12_pass_0 : decode cX12_pass 0 = .ok (.iload_n 1, 1) := by decide +kernel
theorem dX12_pass_1 : decode cX12_pass 1 = .ok (.iconst 0, 1) := by decide +kernel
theorem dX12_pass_2 : decode cX12_pass 2 = .ok (.bipush 8, 2) := by decide +kernel
theorem dX12_pass_4 : decode cX12_pass 4 = .ok (.invokestatic 175, 3) := by decide +kernel
theorem dX12_pass_7 : decode cX12_pass 7 = .ok (.ifCond .eq 14, 3) := by decide +kernel
theorem dX12_pass_10 : decode cX12_pass 10 = .ok (.iload_n 2, 1) := by decide +kernel
theorem dX12_pass_11 : decode cX12_pass 11 = .ok (.invokestatic 197, 3) := by decide +kernel
theorem dX12_pass_14 : decode cX12_pass 14 = .ok (.ifCond .eq 7, 3) := by decide +kernel
theorem dX12_pass_17 : decode cX12_pass 17 = .ok (.iconst 1, 1) := by decide +kernel
theorem dX12_pass_18 : decode cX12_pass 18 = .ok (.goto 4, 3) := by decide +kernel
theorem dX12_pass_21 : decode cX12_pass 21 = .ok (.iconst 0, 1) := by decide +kernel
theorem dX12_pass_22 : decode cX12_pass 22 = .ok (.istore_n 3, 1) := by decide +kernel
theorem dX12_pass_23 : decode cX12_pass 23 = .ok (.aload_n 0, 1) := by decide +kernel
theorem dX12_pass_24 : decode cX12_pass 24 = .ok (.iload_n 3, 1) := by decide +kernel
theorem dX12_pass_25 : decode cX12_pass 25 = .ok (.ifCond .ne 7, 3) := by decide +kernel
theorem dX12_pass_28 : decode cX12_pass 28 = .ok (.iconst 1, 1) := by decide +kernel
theorem dX12_pass_29 : decode cX12_pass 29 = .ok (.goto 17, 3) := by decide +kernel
theorem dX12_pass_32 : decode cX12_pass 32 = .ok (.aload_n 0, 1) := by decide +kernel
theorem dX12_pass_33 : decode cX12_pass 33 = .ok (.getfield 49, 3) := by decide +kernel
theorem dX12_pass_36 : decode cX12_pass 36 = .ok (.iload_n 2, 1) := by decide +kernel
theorem dX12_pass_37 : decode cX12_pass 37 = .ok (.iaload, 1) := by decide +kernel
theorem dX12_pass_38 : decode cX12_pass 38 = .ok (.ifCond .ne 7, 3) := by decide +kernel
theorem dX12_pass_41 : decode cX12_pass 41 = .ok (.iconst 2, 1) := by decide +kernel
theorem dX12_pass_42 : decode cX12_pass 42 = .ok (.goto 4, 3) := by decide +kernel
theorem dX12_pass_46 : decode cX12_pass 46 = .ok (.invokevirtual 182, 3) := by decide +kernel
theorem dX12_pass_49 : decode cX12_pass 49 = .ok (.ifCond .ne 5, 3) := by decide +kernel
theorem dX12_pass_52 : decode cX12_pass 52 = .ok (.iconst 0, 1) := by decide +kernel
theorem dX12_pass_53 : decode cX12_pass 53 = .ok (.ireturn, 1) := by decide +kernel
theorem dX5_sizeOf_0 : decode cX5_sizeOf 0 = .ok (.iload_n 1, 1) := by decide +kernel
theorem dX5_sizeOf_1 : decode cX5_sizeOf 1 = .ok (.ifCond .lt 18, 3) := by decide +kernel
theorem dX5_sizeOf_4 : decode cX5_sizeOf 4 = .ok (.iload_n 1, 1) := by decide +kernel
theorem dX5_sizeOf_5 : decode cX5_sizeOf 5 = .ok (.bipush 8, 2) := by decide +kernel
theorem dX5_sizeOf_7 : decode cX5_sizeOf 7 = .ok (.if_icmp .ge 12, 3) := by decide +kernel
theorem dX5_sizeOf_10 : decode cX5_sizeOf 10 = .ok (.aload_n 0, 1) := by decide +kernel
theorem dX5_sizeOf_11 : decode cX5_sizeOf 11 = .ok (.getfield 24, 3) := by decide +kernel
theorem dX5_sizeOf_14 : decode cX5_sizeOf 14 = .ok (.iload_n 1, 1) := by decide +kernel
theorem dX5_sizeOf_15 : decode cX5_sizeOf 15 = .ok (.iaload, 1) := by decide +kernel
theorem dX5_sizeOf_16 : decode cX5_sizeOf 16 = .ok (.goto 4, 3) := by decide +kernel
theorem dX5_sizeOf_20 : decode cX5_sizeOf 20 = .ok (.ireturn, 1) := by decide +kernel
set_option maxRecDepth 20000 in
theorem kV_RX11_198 : GoodIn WG (wsV RX11 198 RX9 yX9_reserve (Cond.code yX9_reserve cX9_reserve 3 (some .int) :: WG)) := zGV mt402 mt66 mt67 mt2 mt68
set_option maxRecDepth 20000 in
theorem kV_RX9_31 : GoodIn WG (wsV RX9 31 RX9 yX9_has (Cond.code yX9_has cX9_has 2 (some .boolean) :: WG)) := zGV mt352 mt353 mt354 mt2 mt355
set_option maxRecDepth 20000 in
theorem kV_RX11_203 : GoodIn WG (wsV RX11 203 RX9 yX9_set (Cond.code yX9_set cX9_set 6 none :: WG)) := zGV mt471 mt357 mt358 mt2 mt359
set_option maxRecDepth 20000 in
theorem kV_RX11_207 : GoodIn WG (wsV RX11 207 RX9 yX9_join (Cond.code yX9_join cX9_join 5 none :: WG)) := zGV mt472 mt473 mt474 mt2 mt475
set_option maxRecDepth 20000 in
theorem kV_RX11_211 : GoodIn WG (wsV RX11 211 RX9 yX9_part (Cond.code yX9_part cX9_part 3 (some .int) :: WG)) := zGV mt476 mt365 mt366 mt2 mt367
set_option maxRecDepth 20000 in
theorem kV_RX11_68 : GoodIn WG (wsV RX11 68 RX11 yX11_tell (Cond.code yX11_tell cX11_tell 13 (some .int) :: WG)) := zGV mt398 mt400 ms0 mt1 mt401
set_option maxRecDepth 20000 in
theorem kV_RL_7 : GoodIn WG (wsV RL 7 RX11 yX11_num (Cond.code yX11_num cX11_num 2 (some .int) :: WG)) := zGV mt394 mt395 mt396 mt1 mt397
set_option maxRecDepth 20000 in
theorem kS_RL_98 : GoodIn WG (va_wsS RL 98 yL_num (Cond.codeWith yL_num cL_num 4 (some .int) [(0, 9, 12, 13)] :: WG)) := zGS mt390 mt391 mt0 mt392
set_option maxRecDepth 20000 in
theorem kV_RX12_182 : GoodIn WG (wsV RX12 182 RX12 yX12_can (Cond.code yX12_can cX12_can 2 (some .boolean) :: WG)) := zGV mt1538 mt1540 ms67 mt10 mt1541
set_option maxRecDepth 20000 in
theorem kV_RX12_186 : GoodIn WG (wsV RX12 186 RX12 yX12_tells (Cond.code yX12_tells cX12_tells 11 (some .int) :: WG)) := zGV mt1542 mt1544 ms68 mt10 mt1545
set_option maxRecDepth 20000 in
theorem kV_RL_103 : GoodIn WG (wsV RL 103 RX12 yX12_num (Cond.code yX12_num cX12_num 2 (some .int) :: WG)) := zGV mt1534 mt1535 mt1536 mt10 mt1537
set_option maxRecDepth 20000 in
theorem kV_RL_104 : GoodIn WG (wsV RL 104 RX12 yX12_thrown (Cond.code yX12_thrown cX12_thrown 1 (some .int) :: WG)) := zGV mt1530 mt1531 mt1532 mt10 mt1533
set_option maxRecDepth 20000 in
theorem kV_RX11_72 : GoodIn WG (wsV RX11 72 RX11 yX11_checkRange (Cond.code yX11_checkRange cX11_checkRange 3 none :: WG)) := zGV mt496 mt498 ms2 mt1 mt499
set_option maxRecDepth 20000 in
theorem kV_RL_15 : GoodIn WG (wsV RL 15 RX11 yX11_var (Cond.code yX11_var cX11_var 2 (some .int) :: WG)) := zGV mt492 mt493 mt494 mt1 mt495
set_option maxRecDepth 20000 in
theorem kS_RL_108 : GoodIn WG (va_wsS RL 108 yL_var (Cond.codeWith yL_var cL_var 4 (some .int) [(0, 9, 12, 18), (0, 9, 15, 13)] :: WG)) := zGS mt488 mt489 mt0 mt490
set_option maxRecDepth 20000 in
theorem kS_RX12_175 : GoodIn WG (va_wsS RX12 175 yX12_isIn (Cond.code yX12_isIn cX12_isIn 3 (some .boolean) :: WG)) := zGS mt1553 mt1554 mt10 mt1555
set_option maxRecDepth 20000 in
theorem kS_RX12_190 : GoodIn WG (va_wsS RX12 190 yX12_isName (Cond.code yX12_isName cX12_isName 1 (some .boolean) :: WG)) := zGS mt1550 mt1551 mt10 mt1552
set_option maxRecDepth 20000 in
theorem kV_RX12_193 : GoodIn WG (wsV RX12 193 RX12 yX12_mayTellAlone (Cond.code yX12_mayTellAlone cX12_mayTellAlone 2 (some .boolean) :: WG)) := zGV mt1556 mt1558 ms69 mt10 mt1559
set_option maxRecDepth 20000 in
theorem kV_RL_110 : GoodIn WG (wsV RL 110 RX12 yX12_var (Cond.code yX12_var cX12_var 2 (some .int) :: WG)) := zGV mt1546 mt1547 mt1548 mt10 mt1549
set_option maxRecDepth 20000 in
theorem kV_RL_20 : GoodIn WG (wsV RL 20 RX11 yX11_global (Cond.code yX11_global cX11_global 2 (some .int) :: WG)) := zGV mt519 mt520 mt521 mt1 mt522
set_option maxRecDepth 20000 in
theorem kS_RL_111 : GoodIn WG (va_wsS RL 111 yL_global (Cond.codeWith yL_global cL_global 4 (some .int) [(0, 9, 12, 18), (0, 9, 15, 13)] :: WG)) := zGS mt516 mt517 mt0 mt518
set_option maxRecDepth 20000 in
theorem kS_RX12_197 : GoodIn WG (va_wsS RX12 197 yX12_isGlobal (Cond.code yX12_isGlobal cX12_isGlobal 1 (some .boolean) :: WG)) := zGS mt1564 mt1565 mt10 mt1566
set_option maxRecDepth 20000 in
theorem kV_RL_113 : GoodIn WG (wsV RL 113 RX12 yX12_global (Cond.code yX12_global cX12_global 2 (some .int) :: WG)) := zGV mt1560 mt1561 mt1562 mt10 mt1563
set_option maxRecDepth 20000 in
theorem kV_RX11_185 : GoodIn WG (wsV RX11 185 RX9 yX9_has (Cond.code yX9_has cX9_has 2 (some .boolean) :: WG)) := zGV mt535 mt353 mt354 mt2 mt355
set_option maxRecDepth 20000 in
theorem kV_RX11_76 : GoodIn WG (wsV RX11 76 RX11 yX11_checkTold (Cond.code yX11_checkTold cX11_checkTold 2 none :: WG)) := zGV mt531 mt533 ms3 mt1 mt534
set_option maxRecDepth 20000 in
theorem kV_RL_23 : GoodIn WG (wsV RL 23 RX11 yX11_lam (Cond.code yX11_lam cX11_lam 3 (some .int) :: WG)) := zGV mt527 mt528 mt529 mt1 mt530
set_option maxRecDepth 20000 in
theorem kS_RL_114 : GoodIn WG (va_wsS RL 114 yL_lam (Cond.codeWith yL_lam cL_lam 5 (some .int) [(0, 10, 13, 27), (0, 10, 17, 18), (0, 10, 21, 13)] :: WG)) := zGS mt523 mt524 mt0 mt525
set_option maxRecDepth 20000 in
theorem kV_RX12_200 : GoodIn WG (wsV RX12 200 RX12 yX12_isNode (Cond.code yX12_isNode cX12_isNode 2 (some .boolean) :: WG)) := zGV mt1571 mt1573 ms70 mt10 mt1574
set_option maxRecDepth 20000 in
theorem kV_RX12_203 : GoodIn WG (wsV RX12 203 RX12 yX12_mayTell (Cond.code yX12_mayTell cX12_mayTell 3 (some .boolean) :: WG)) := zGV mt1575 mt1577 ms71 mt10 mt1578
set_option maxRecDepth 20000 in
theorem kV_RL_117 : GoodIn WG (wsV RL 117 RX12 yX12_lam (Cond.code yX12_lam cX12_lam 3 (some .int) :: WG)) := zGV mt1567 mt1568 mt1569 mt10 mt1570
set_option maxRecDepth 20000 in
theorem kV_RL_29 : GoodIn WG (wsV RL 29 RX11 yX11_app (Cond.code yX11_app cX11_app 3 (some .int) :: WG)) := zGV mt555 mt556 mt557 mt1 mt558
set_option maxRecDepth 20000 in
theorem kS_RL_118 : GoodIn WG (va_wsS RL 118 yL_app (Cond.codeWith yL_app cL_app 5 (some .int) [(0, 10, 13, 27), (0, 10, 17, 18), (0, 10, 21, 13)] :: WG)) := zGS mt552 mt553 mt0 mt554
set_option maxRecDepth 20000 in
theorem kV_RL_120 : GoodIn WG (wsV RL 120 RX12 yX12_app (Cond.code yX12_app cX12_app 4 (some .int) :: WG)) := zGV mt1579 mt1580 mt1581 mt10 mt1582
set_option maxRecDepth 20000 in
theorem kV_RL_32 : GoodIn WG (wsV RL 32 RX11 yX11_let (Cond.code yX11_let cX11_let 4 (some .int) :: WG)) := zGV mt571 mt572 mt573 mt1 mt574
set_option maxRecDepth 20000 in
theorem kS_RL_121 : GoodIn WG (va_wsS RL 121 yL_let (Cond.codeWith yL_let cL_let 6 (some .int) [(0, 12, 15, 27), (0, 12, 19, 18), (0, 12, 23, 13)] :: WG)) := zGS mt568 mt569 mt0 mt570
set_option maxRecDepth 20000 in
theorem kV_RL_124 : GoodIn WG (wsV RL 124 RX12 yX12_let (Cond.code yX12_let cX12_let 4 (some .int) :: WG)) := zGV mt1587 mt1588 mt1589 mt10 mt1590
set_option maxRecDepth 20000 in
theorem kV_RL_36 : GoodIn WG (wsV RL 36 RX11 yX11_con (Cond.code yX11_con cX11_con 4 (some .int) :: WG)) := zGV mt578 mt579 mt580 mt1 mt581
set_option maxRecDepth 20000 in
theorem kS_RL_125 : GoodIn WG (va_wsS RL 125 yL_con (Cond.codeWith yL_con cL_con 6 (some .int) [(0, 12, 15, 27), (0, 12, 19, 18), (0, 12, 23, 13)] :: WG)) := zGS mt575 mt576 mt0 mt577
set_option maxRecDepth 20000 in
theorem kV_RL_127 : GoodIn WG (wsV RL 127 RX12 yX12_con (Cond.code yX12_con cX12_con 6 (some .int) :: WG)) := zGV mt1591 mt1592 mt1593 mt10 mt1594
set_option maxRecDepth 20000 in
theorem kV_RL_39 : GoodIn WG (wsV RL 39 RX11 yX11_match (Cond.code yX11_match cX11_match 7 (some .int) :: WG)) := zGV mt586 mt587 mt588 mt1 mt589
set_option maxRecDepth 20000 in
theorem kS_RL_128 : GoodIn WG (va_wsS RL 128 yL_match (Cond.codeWith yL_match cL_match 9 (some .int) [(0, 18, 21, 27), (0, 18, 25, 18), (0, 18, 29, 13)] :: WG)) := zGS mt583 mt584 mt0 mt585
set_option maxRecDepth 20000 in
theorem kV_RL_131 : GoodIn WG (wsV RL 131 RX12 yX12_match (Cond.code yX12_match cX12_match 8 (some .int) :: WG)) := zGV mt1595 mt1596 mt1597 mt10 mt1598
set_option maxRecDepth 20000 in
theorem kV_RL_43 : GoodIn WG (wsV RL 43 RX11 yX11_choose (Cond.code yX11_choose cX11_choose 4 (some .int) :: WG)) := zGV mt593 mt594 mt595 mt1 mt596
set_option maxRecDepth 20000 in
theorem kS_RL_132 : GoodIn WG (va_wsS RL 132 yL_choose (Cond.codeWith yL_choose cL_choose 6 (some .int) [(0, 12, 15, 27), (0, 12, 19, 13)] :: WG)) := zGS mt590 mt591 mt0 mt592
set_option maxRecDepth 20000 in
theorem kV_RL_134 : GoodIn WG (wsV RL 134 RX12 yX12_choose (Cond.code yX12_choose cX12_choose 4 (some .int) :: WG)) := zGV mt1599 mt1600 mt1601 mt10 mt1602
set_option maxRecDepth 20000 in
theorem kV_RL_46 : GoodIn WG (wsV RL 46 RX11 yX11_prim (Cond.code yX11_prim cX11_prim 4 (some .int) :: WG)) := zGV mt600 mt601 mt602 mt1 mt603
set_option maxRecDepth 20000 in
theorem kS_RL_135 : GoodIn WG (va_wsS RL 135 yL_prim (Cond.codeWith yL_prim cL_prim 6 (some .int) [(0, 12, 15, 27), (0, 12, 19, 18), (0, 12, 23, 13)] :: WG)) := zGS mt597 mt598 mt0 mt599
set_option maxRecDepth 20000 in
theorem kV_RL_137 : GoodIn WG (wsV RL 137 RX12 yX12_prim (Cond.code yX12_prim cX12_prim 4 (some .int) :: WG)) := zGV mt1603 mt1604 mt1605 mt10 mt1606
set_option maxRecDepth 20000 in
theorem kV_RL_49 : GoodIn WG (wsV RL 49 RX11 yX11_seq (Cond.code yX11_seq cX11_seq 3 (some .int) :: WG)) := zGV mt607 mt608 mt609 mt1 mt610
set_option maxRecDepth 20000 in
theorem kS_RL_138 : GoodIn WG (va_wsS RL 138 yL_seq (Cond.codeWith yL_seq cL_seq 5 (some .int) [(0, 10, 13, 27), (0, 10, 17, 13)] :: WG)) := zGS mt604 mt605 mt0 mt606
set_option maxRecDepth 20000 in
theorem kV_RL_140 : GoodIn WG (wsV RL 140 RX12 yX12_seq (Cond.code yX12_seq cX12_seq 3 (some .int) :: WG)) := zGV mt1607 mt1608 mt1609 mt10 mt1610
set_option maxRecDepth 20000 in
theorem kV_RL_52 : GoodIn WG (wsV RL 52 RX11 yX11_raise (Cond.code yX11_raise cX11_raise 2 (some .int) :: WG)) := zGV mt614 mt615 mt616 mt1 mt617
set_option maxRecDepth 20000 in
theorem kS_RL_141 : GoodIn WG (va_wsS RL 141 yL_raise (Cond.codeWith yL_raise cL_raise 4 (some .int) [(0, 9, 12, 27), (0, 9, 15, 13)] :: WG)) := zGS mt611 mt612 mt0 mt613
set_option maxRecDepth 20000 in
theorem kV_RL_143 : GoodIn WG (wsV RL 143 RX12 yX12_raise (Cond.code yX12_raise cX12_raise 2 (some .int) :: WG)) := zGV mt1611 mt1612 mt1613 mt10 mt1614
set_option maxRecDepth 20000 in
theorem kV_RL_55 : GoodIn WG (wsV RL 55 RX11 yX11_hold (Cond.code yX11_hold cX11_hold 4 (some .int) :: WG)) := zGV mt621 mt622 mt623 mt1 mt624
set_option maxRecDepth 20000 in
theorem kS_RL_144 : GoodIn WG (va_wsS RL 144 yL_hold (Cond.codeWith yL_hold cL_hold 6 (some .int) [(0, 12, 15, 27), (0, 12, 19, 18), (0, 12, 23, 13)] :: WG)) := zGS mt618 mt619 mt0 mt620
set_option maxRecDepth 20000 in
theorem kV_RL_146 : GoodIn WG (wsV RL 146 RX12 yX12_hold (Cond.code yX12_hold cX12_hold 4 (some .int) :: WG)) := zGV mt1615 mt1616 mt1617 mt10 mt1618
set_option maxRecDepth 20000 in
theorem kV_RL_58 : GoodIn WG (wsV RL 58 RX11 yX11_par (Cond.code yX11_par cX11_par 3 (some .int) :: WG)) := zGV mt628 mt629 mt630 mt1 mt631
set_option maxRecDepth 20000 in
theorem kS_RL_147 : GoodIn WG (va_wsS RL 147 yL_par (Cond.codeWith yL_par cL_par 5 (some .int) [(0, 10, 13, 27), (0, 10, 17, 18), (0, 10, 21, 13)] :: WG)) := zGS mt625 mt626 mt0 mt627
set_option maxRecDepth 20000 in
theorem kV_RL_149 : GoodIn WG (wsV RL 149 RX12 yX12_par (Cond.code yX12_par cX12_par 3 (some .int) :: WG)) := zGV mt1619 mt1620 mt1621 mt10 mt1622
set_option maxRecDepth 20000 in
theorem kV_RL_61 : GoodIn WG (wsV RL 61 RX11 yX11_centre (Cond.code yX11_centre cX11_centre 3 (some .int) :: WG)) := zGV mt635 mt636 mt637 mt1 mt638
set_option maxRecDepth 20000 in
theorem kS_RL_150 : GoodIn WG (va_wsS RL 150 yL_centre (Cond.codeWith yL_centre cL_centre 5 (some .int) [(0, 10, 13, 27), (0, 10, 17, 18), (0, 10, 21, 13)] :: WG)) := zGS mt632 mt633 mt0 mt634
set_option maxRecDepth 20000 in
theorem kV_RL_152 : GoodIn WG (wsV RL 152 RX12 yX12_centre (Cond.code yX12_centre cX12_centre 3 (some .int) :: WG)) := zGV mt1623 mt1624 mt1625 mt10 mt1626
set_option maxRecDepth 20000 in
theorem kV_RL_64 : GoodIn WG (wsV RL 64 RX11 yX11_define (Cond.code yX11_define cX11_define 3 (some .int) :: WG)) := zGV mt642 mt643 mt644 mt1 mt645
set_option maxRecDepth 20000 in
theorem kS_RL_153 : GoodIn WG (va_wsS RL 153 yL_define (Cond.codeWith yL_define cL_define 5 (some .int) [(0, 10, 13, 27), (0, 10, 17, 18), (0, 10, 21, 13)] :: WG)) := zGS mt639 mt640 mt0 mt641
set_option maxRecDepth 20000 in
theorem kV_RL_155 : GoodIn WG (wsV RL 155 RX12 yX12_define (Cond.code yX12_define cX12_define 5 (some .int) :: WG)) := zGV mt1627 mt1628 mt1629 mt10 mt1630
set_option maxRecDepth 20000 in
theorem kV_RL_67 : GoodIn WG (wsV RL 67 RX11 yX11_rule (Cond.code yX11_rule cX11_rule 4 (some .int) :: WG)) := zGV mt660 mt661 mt662 mt1 mt663
set_option maxRecDepth 20000 in
theorem kS_RL_156 : GoodIn WG (va_wsS RL 156 yL_rule (Cond.codeWith yL_rule cL_rule 6 (some .int) [(0, 12, 15, 18), (0, 12, 19, 13)] :: WG)) := zGS mt657 mt658 mt0 mt659
set_option maxRecDepth 20000 in
theorem kV_RL_158 : GoodIn WG (wsV RL 158 RX12 yX12_rule (Cond.code yX12_rule cX12_rule 4 (some .int) :: WG)) := zGV mt1679 mt1680 mt1681 mt10 mt1682
set_option maxRecDepth 20000 in
theorem kV_RX11_107 : GoodIn WG (wsV RX11 107 RX6 yX6_hasAllRules (Cond.code yX6_hasAllRules cX6_hasAllRules 1 (some .boolean) :: WG)) := zGV mt664 mt665 mt666 mt6 mt667
set_option maxRecDepth 20000 in
theorem kV_RX11_113 : GoodIn WG (wsV RX11 113 RX6 yX6_addRule (Cond.code yX6_addRule cX6_addRule 4 (some .int) :: WG)) := zGV mt669 mt670 mt671 mt6 mt672
set_option maxRecDepth 20000 in
theorem kV_RL_70 : GoodIn WG (wsV RL 70 RX11 yX11_pass (Cond.code yX11_pass cX11_pass 3 (some .int) :: WG)) := zGV mt676 mt677 mt678 mt1 mt679
set_option maxRecDepth 20000 in
theorem kS_RL_163 : GoodIn WG (va_wsS RL 163 yL_pass (Cond.codeWith yL_pass cL_pass 5 (some .int) [(0, 10, 13, 18), (0, 10, 17, 13)] :: WG)) := zGS mt673 mt674 mt0 mt675
set_option maxRecDepth 20000 in
theorem kV_RL_165 : GoodIn WG (wsV RL 165 RX12 yX12_pass (Cond.code yX12_pass cX12_pass 6 (some .int) :: WG)) := zGV mt1716 mt1717 mt1718 mt10 mt1719
set_option maxRecDepth 20000 in
theorem kV_RX11_103 : GoodIn WG (wsV RX11 103 RX5 yX5_sizeOf (Cond.code yX5_sizeOf cX5_sizeOf 2 (some .int) :: WG)) := zGV mt653 mt654 mt655 mt3 mt656
theorem hd_X11_init : z_hd yX11_init RX11 0 := by decide +kernel
theorem hd_X12_init : z_hd yX12_init RX12 0 := by decide +kernel
theorem hd_X9_has : z_hd yX9_has RX9 1 := by decide +kernel
theorem hd_X9_set : z_hd yX9_set RX9 5 := by decide +kernel
theorem hd_X9_join : z_hd yX9_join RX9 4 := by decide +kernel
theorem hd_X9_part : z_hd yX9_part RX9 2 := by decide +kernel
theorem hd_X11_tell : z_hd yX11_tell RX11 7 := by decide +kernel
theorem hd_X11_num : z_hd yX11_num RX11 1 := by decide +kernel
theorem hd_L_num : z_hd yL_num RL 3 := by decide +kernel
theorem hd_X12_can : z_hd yX12_can RX12 1 := by decide +kernel
theorem hd_X12_tells : z_hd yX12_tells RX12 6 := by decide +kernel
theorem hd_X12_num : z_hd yX12_num RX12 1 := by decide +kernel
theorem hd_X12_thrown : z_hd yX12_thrown RX12 0 := by decide +kernel
theorem hd_X11_checkRange : z_hd yX11_checkRange RX11 2 := by decide +kernel
theorem hd_X11_var : z_hd yX11_var RX11 1 := by decide +kernel
theorem hd_L_var : z_hd yL_var RL 3 := by decide +kernel
theorem hd_X12_isIn : z_hd yX12_isIn RX12 3 := by decide +kernel
theorem hd_X12_isName : z_hd yX12_isName RX12 1 := by decide +kernel
theorem hd_X12_mayTellAlone : z_hd yX12_mayTellAlone RX12 1 := by decide +kernel
theorem hd_X12_var : z_hd yX12_var RX12 1 := by decide +kernel
theorem hd_X11_global : z_hd yX11_global RX11 1 := by decide +kernel
theorem hd_L_global : z_hd yL_global RL 3 := by decide +kernel
theorem hd_X12_isGlobal : z_hd yX12_isGlobal RX12 1 := by decide +kernel
theorem hd_X12_global : z_hd yX12_global RX12 1 := by decide +kernel
theorem hd_X11_checkTold : z_hd yX11_checkTold RX11 1 := by decide +kernel
theorem hd_X11_lam : z_hd yX11_lam RX11 2 := by decide +kernel
theorem hd_L_lam : z_hd yL_lam RL 4 := by decide +kernel
theorem hd_X12_isNode : z_hd yX12_isNode RX12 1 := by decide +kernel
theorem hd_X12_mayTell : z_hd yX12_mayTell RX12 2 := by decide +kernel
theorem hd_X12_lam : z_hd yX12_lam RX12 2 := by decide +kernel
theorem hd_X11_app : z_hd yX11_app RX11 2 := by decide +kernel
theorem hd_L_app : z_hd yL_app RL 4 := by decide +kernel
theorem hd_X12_app : z_hd yX12_app RX12 2 := by decide +kernel
theorem hd_X11_let : z_hd yX11_let RX11 3 := by decide +kernel
theorem hd_L_let : z_hd yL_let RL 5 := by decide +kernel
theorem hd_X12_let : z_hd yX12_let RX12 3 := by decide +kernel
theorem hd_X11_con : z_hd yX11_con RX11 3 := by decide +kernel
theorem hd_L_con : z_hd yL_con RL 5 := by decide +kernel
theorem hd_X12_con : z_hd yX12_con RX12 3 := by decide +kernel
theorem hd_X11_match : z_hd yX11_match RX11 6 := by decide +kernel
theorem hd_L_match : z_hd yL_match RL 8 := by decide +kernel
theorem hd_X12_match : z_hd yX12_match RX12 6 := by decide +kernel
theorem hd_X11_choose : z_hd yX11_choose RX11 3 := by decide +kernel
theorem hd_L_choose : z_hd yL_choose RL 5 := by decide +kernel
theorem hd_X12_choose : z_hd yX12_choose RX12 3 := by decide +kernel
theorem hd_X11_prim : z_hd yX11_prim RX11 3 := by decide +kernel
theorem hd_L_prim : z_hd yL_prim RL 5 := by decide +kernel
theorem hd_X12_prim : z_hd yX12_prim RX12 3 := by decide +kernel
theorem hd_X11_seq : z_hd yX11_seq RX11 2 := by decide +kernel
theorem hd_L_seq : z_hd yL_seq RL 4 := by decide +kernel
theorem hd_X12_seq : z_hd yX12_seq RX12 2 := by decide +kernel
theorem hd_X11_raise : z_hd yX11_raise RX11 1 := by decide +kernel
theorem hd_L_raise : z_hd yL_raise RL 3 := by decide +kernel
theorem hd_X12_raise : z_hd yX12_raise RX12 1 := by decide +kernel
theorem hd_X11_hold : z_hd yX11_hold RX11 3 := by decide +kernel
theorem hd_L_hold : z_hd yL_hold RL 5 := by decide +kernel
theorem hd_X12_hold : z_hd yX12_hold RX12 3 := by decide +kernel
theorem hd_X11_par : z_hd yX11_par RX11 2 := by decide +kernel
theorem hd_L_par : z_hd yL_par RL 4 := by decide +kernel
theorem hd_X12_par : z_hd yX12_par RX12 2 := by decide +kernel
theorem hd_X11_centre : z_hd yX11_centre RX11 2 := by decide +kernel
theorem hd_L_centre : z_hd yL_centre RL 4 := by decide +kernel
theorem hd_X12_centre : z_hd yX12_centre RX12 2 := by decide +kernel
theorem hd_X11_define : z_hd yX11_define RX11 2 := by decide +kernel
theorem hd_L_define : z_hd yL_define RL 4 := by decide +kernel
theorem hd_X12_define : z_hd yX12_define RX12 2 := by decide +kernel
theorem hd_X11_rule : z_hd yX11_rule RX11 3 := by decide +kernel
theorem hd_L_rule : z_hd yL_rule RL 5 := by decide +kernel
theorem hd_X12_rule : z_hd yX12_rule RX12 3 := by decide +kernel
theorem hd_X6_hasAllRules : z_hd yX6_hasAllRules RX6 0 := by decide +kernel
theorem hd_X6_addRule : z_hd yX6_addRule RX6 3 := by decide +kernel
theorem hd_X11_pass : z_hd yX11_pass RX11 2 := by decide +kernel
theorem hd_L_pass : z_hd yL_pass RL 4 := by decide +kernel
theorem hd_X12_pass : z_hd yX12_pass RX12 2 := by decide +kernel
theorem hd_X5_sizeOf : z_hd yX5_sizeOf RX5 1 := by decide +kernel
