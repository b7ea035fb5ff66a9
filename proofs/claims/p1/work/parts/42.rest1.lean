/-! calls of the law's cases [20, 21, 22, 24, 25] (printed by wip/p1/walk.py) -/
set_option maxHeartbeats 4000000 in
set_option maxRecDepth 100000 in
theorem cX12_begins_12 (l : Launch) (K : zK) (sz : Nat) (a0 : Nat) (a1 : Nat) (a2 : Nat) (a3 : Nat) (a4 : Nat) (a5 : Nat) (a6 : Nat) (a7 : Nat) (a8 : Nat) (a9 : Nat) (a10 : Nat) (a11 : Nat) (a12 : Nat) (a13 : Nat) (a14 : Nat) (a15 : Nat) (a16 : Nat) (a17 : Nat) (a18 : Nat) (g0 : Nat → Value) (f1 : Nat → Int32) (f2 : Nat → Int32) (f3 : Nat → Int32) (f4 : Nat → Int32) (f5 : Nat → Int32) (f6 : Nat → Int32) (f7 : Nat → Int32) (f8 : Nat → Int32) (f9 : Nat → Int32) (f10 : Nat → Int32) (f11 : Nat → Int32) (f12 : Nat → Int32) (f13 : Nat → Int32) (f14 : Nat → Int32) (f15 : Nat → Int32) (f16 : Nat → Int32) (f17 : Nat → Int32) (f18 : Nat → Int32) (j0 : Nat) (hj0 : j0 < 8) (x1 : Int32) (x2 : Int32) (e0 : g0 80 = (.ref a1)) (e1 : g0 8 = (.ref a2)) (e2 : g0 9 = (.ref a3)) (e3 : g0 13 = (.ref a4)) (e4 : g0 57 = (.int 0)) (e5 : g0 60 = (.int 0)) (e6 : g0 73 = (.ref a5)) (e7 : g0 74 = (.ref a6)) (e8 : g0 75 = (.ref a7)) (e9 : g0 76 = (.ref a8)) (e10 : g0 33 = (.ref a9)) (e11 : ∀ j : Nat, f9 j = 0) (e12 : g0 14 = (.ref a10)) (e13 : ∀ j : Nat, f10 j = 0) (e14 : g0 32 = (.int 16)) (e15 : g0 52 = (.ref a11)) (e16 : g0 40 = (.int 0)) (e17 : g0 46 = (.int 0)) (e18 : g0 53 = (.ref a12)) (e19 : g0 34 = (.ref a13)) (e20 : f13 0 = 0) (e21 : g0 35 = (.ref a14)) (e22 : g0 36 = (.ref a15)) (e23 : g0 37 = (.ref a16)) (e24 : f16 0 = 0) (e25 : g0 38 = (.ref a17)) (e26 : g0 39 = (.ref a18)) (e27 : f18 0 = 0) (e28 : f13 1 = 0) (e29 : f16 1 = 0) (e30 : f18 1 = 0) (e31 : f13 2 = 0) (e32 : f16 2 = 0) (e33 : f18 2 = 0) (e34 : f13 3 = 0) (e35 : f16 3 = 0) (e36 : f18 3 = 0) (e37 : f13 4 = 0) (e38 : f16 4 = 0) (e39 : f18 4 = 0) (e40 : f13 5 = 0) (e41 : f16 5 = 0) (e42 : f18 5 = 0) (e43 : f13 6 = 0) (e44 : f16 6 = 0) (e45 : f18 6 = 0) (e46 : f13 7 = 0) (e47 : f16 7 = 0) (e48 : f18 7 = 0) (e49 : f13 8 = 0) (e50 : f16 8 = 0) (e51 : f18 8 = 0) (e52 : f13 9 = 0) (e53 : f16 9 = 0) (e54 : f18 9 = 0) (e55 : f13 10 = 0) (e56 : f16 10 = 0) (e57 : f18 10 = 0) (e58 : f13 11 = 0) (e59 : f16 11 = 0) (e60 : f18 11 = 0) (e61 : f13 12 = 0) (e62 : f16 12 = 0) (e63 : f18 12 = 0) (e64 : f13 13 = 0) (e65 : f16 13 = 0) (e66 : f18 13 = 0) (e67 : f13 14 = 0) (e68 : f16 14 = 0) (e69 : f18 14 = 0) (e70 : f13 15 = 0) (e71 : f16 15 = 0) (e72 : f18 15 = 0) : Met l yX12_begins (Cond.code yX12_begins cX12_begins 7 (some .int) :: WG) { frames := 4, cells := 0, slots := 0, locals := 85 } (zPre K [(a0, zO 10 83 g0), (a1, zI K 10 f1), (a2, zI K 1290 f2), (a3, zI K 1290 f3), (a4, zI K 1290 f4), (a5, zI K 900 f5), (a6, zI K 900 f6), (a7, zI K 900 f7), (a8, zI K 900 f8), (a9, zI K 60000 f9), (a10, zI K 16 f10), (a11, zI K 210000 f11), (a12, zI K 210000 f12), (a13, zI K 60000 f13), (a14, zI K 60000 f14), (a15, zI K 60000 f15), (a16, zI K 60000 f16), (a17, zI K 60000 f17), (a18, zI K 60000 f18)] sz [.ref a0, .int (nI j0), .int 2, .int x1, .int x2, .int 0]) (va_Qi (fun (r : Int32) (_ : Nat → Nat) => r = 5) (zB K (va_A [(a0, zO 10 83 g0), (a1, zI K 10 f1), (a2, zI K 1290 f2), (a3, zI K 1290 f3), (a4, zI K 1290 f4), (a5, zI K 900 f5), (a6, zI K 900 f6), (a7, zI K 900 f7), (a8, zI K 900 f8), (a9, zI K 60000 f9), (a10, zI K 16 f10), (a11, zI K 210000 f11), (a12, zI K 210000 f12), (a13, zI K 60000 f13), (a14, zI K 60000 f14), (a15, zI K 60000 f15), (a16, zI K 60000 f16), (a17, zI K 60000 f17), (a18, zI K 60000 f18)] sz) (fun u : Nat → Nat => [(a0, zO 10 83 (va_up (va_up (va_up (va_up (va_up (va_up (va_up (va_up (va_up (va_up (va_up (va_up (va_up (va_up (va_up (va_up (va_up (va_up (va_up (va_up (va_up (va_up (va_up (va_up (va_up (va_up (va_up (va_up (va_up (va_up (va_up (va_up (va_up (va_up (va_up (va_up (va_up (va_up (va_up (va_up (va_up (va_up (va_up (va_up (va_up (va_up (va_up (va_up (va_up (va_up (va_up (va_up (va_up (va_up (va_up (va_up (va_up (va_up (va_up (va_up (va_up (va_up (va_up g0 79 (.int 0)) 55 (.int 0)) 58 (.int 0)) 59 (.int 600)) 72 (.int 0)) 77 (.int 0)) 62 (.int 1280)) 63 (.int (-1))) 64 (.int 0)) 65 (.int 0)) 61 (.int (-1))) 58 (.int 1)) 72 (.int 1)) 62 (.int 1281)) 63 (.int (-1))) 64 (.int 0)) 65 (.int 0)) 58 (.int 2)) 72 (.int 2)) 62 (.int 1282)) 63 (.int (-1))) 64 (.int 0)) 65 (.int 0)) 58 (.int 3)) 61 (.int 5)) 72 (.int 1)) 72 (.int 0)) 54 (.int 0)) 54 (.int 1)) 54 (.int 2)) 54 (.int 3)) 54 (.int 4)) 54 (.int 5)) 54 (.int 6)) 54 (.int 7)) 54 (.int 8)) 54 (.int 9)) 54 (.int 10)) 54 (.int 11)) 54 (.int 12)) 54 (.int 13)) 54 (.int 14)) 54 (.int 15)) 54 (.int 16)) 54 (.int 15)) 54 (.int 14)) 54 (.int 13)) 54 (.int 12)) 54 (.int 11)) 54 (.int 10)) 54 (.int 9)) 54 (.int 8)) 54 (.int 7)) 54 (.int 6)) 54 (.int 5)) 54 (.int 4)) 54 (.int 3)) 54 (.int 2)) 54 (.int 1)) 54 (.int 0)) 32 (.int 16)) 40 (.int 0)) 46 (.int 0))), (a1, zI K 10 (va_up (va_up (va_up (va_up (va_up (va_up (va_up (va_up (va_up (va_up (va_up (va_up (va_up (va_up f1 0 0) 1 0) 2 0) 3 0) 4 0) 5 0) 6 0) 7 0) 8 0) 9 0) 6 1) 6 2) 6 3) 0 3)), (a2, zI K 1290 (va_up (va_up (va_up (va_up (va_up f2 1280 4) 1281 4) 1282 2) 1283 0) 1284 0)), (a3, zI K 1290 (va_up (va_up (va_up f3 1282 (nI j0)) 1283 x1) 1284 x2)), (a4, zI K 1290 (va_up (va_up (va_up (va_up (va_up f4 1282 1283) 1283 1284) 1281 1284) 1284 1285) 1280 1285)), (a5, zI K 900 (va_up (va_up f5 0 4) 1 4)), (a6, zI K 900 (va_up (va_up f6 0 1280) 1 1281)), (a7, zI K 900 (va_up (va_up f7 0 (-1)) 1 (-1))), (a8, zI K 900 (va_up (va_up f8 0 0) 1 0)), (a9, zI K 60000 (va_up (va_up (va_up (va_up (va_up (va_up (va_up (va_up (va_up (va_up (va_up (va_up (va_up (va_up (va_up (va_up f9 0 0) 1 0) 2 0) 3 0) 4 0) 5 0) 6 0) 7 0) 8 0) 9 0) 10 0) 11 0) 12 0) 13 0) 14 0) 15 0)), (a10, zI K 16 f10), (a11, zI K 210000 (va_up (va_up (va_up (va_up (va_up (va_up (va_up (va_up (va_up (va_up (va_up (va_up (va_up (va_up (va_up (va_up (va_up (va_up (va_up (va_up (va_up (va_up (va_up (va_up (va_up (va_up (va_up (va_up (va_up (va_up (va_up (va_up (va_up (va_up (va_up (va_up (va_up (va_up (va_up (va_up (va_up (va_up (va_up (va_up (va_up (va_up (va_up (va_up f11 0 (-1)) 1 (-1)) 2 (-1)) 3 (-1)) 4 (-1)) 5 (-1)) 6 (-1)) 7 (-1)) 8 (-1)) 9 (-1)) 10 (-1)) 11 (-1)) 12 (-1)) 13 (-1)) 14 (-1)) 15 (-1)) 0 0) 1 0) 2 0) 3 0) 4 0) 5 0) 6 0) 7 0) 8 0) 9 0) 10 0) 11 0) 12 0) 13 0) 14 0) 15 0) 0 0) 1 1) 2 2) 3 3) 4 4) 5 5) 6 6) 7 7) 8 8) 9 9) 10 10) 11 11) 12 12) 13 13) 14 14) 15 15)), (a12, zI K 210000 (va_up (va_up (va_up (va_up (va_up (va_up (va_up (va_up (va_up (va_up (va_up (va_up (va_up (va_up (va_up (va_up f12 0 0) 1 1) 2 2) 3 3) 4 4) 5 5) 6 6) 7 7) 8 8) 9 9) 10 10) 11 11) 12 12) 13 13) 14 14) 15 15)), (a13, zI K 60000 (va_up (va_up (va_up (va_up (va_up (va_up (va_up (va_up (va_up (va_up (va_up (va_up (va_up (va_up (va_up (va_up f13 0 0) 1 0) 2 0) 3 0) 4 0) 5 0) 6 0) 7 0) 8 0) 9 0) 10 0) 11 0) 12 0) 13 0) 14 0) 15 0)), (a14, zI K 60000 (va_up (va_up (va_up (va_up (va_up (va_up (va_up (va_up (va_up (va_up (va_up (va_up (va_up (va_up (va_up (va_up f14 0 0) 1 0) 2 0) 3 0) 4 0) 5 0) 6 0) 7 0) 8 0) 9 0) 10 0) 11 0) 12 0) 13 0) 14 0) 15 0)), (a15, zI K 60000 (va_up (va_up (va_up (va_up (va_up (va_up (va_up (va_up (va_up (va_up (va_up (va_up (va_up (va_up (va_up (va_up f15 0 0) 1 0) 2 0) 3 0) 4 0) 5 0) 6 0) 7 0) 8 0) 9 0) 10 0) 11 0) 12 0) 13 0) 14 0) 15 0)), (a16, zI K 60000 (va_up (va_up (va_up (va_up (va_up (va_up (va_up (va_up (va_up (va_up (va_up (va_up (va_up (va_up (va_up (va_up f16 0 0) 1 0) 2 0) 3 0) 4 0) 5 0) 6 0) 7 0) 8 0) 9 0) 10 0) 11 0) 12 0) 13 0) 14 0) 15 0)), (a17, zI K 60000 (va_up (va_up (va_up (va_up (va_up (va_up (va_up (va_up (va_up (va_up (va_up (va_up (va_up (va_up (va_up (va_up f17 0 (-1)) 1 (-1)) 2 (-1)) 3 (-1)) 4 (-1)) 5 (-1)) 6 (-1)) 7 (-1)) 8 (-1)) 9 (-1)) 10 (-1)) 11 (-1)) 12 (-1)) 13 (-1)) 14 (-1)) 15 (-1))), (a18, zI K 60000 (va_up (va_up (va_up (va_up (va_up (va_up (va_up (va_up (va_up (va_up (va_up (va_up (va_up (va_up (va_up (va_up f18 0 0) 1 0) 2 0) 3 0) 4 0) 5 0) 6 0) 7 0) 8 0) 9 0) 10 0) 11 0) 12 0) 13 0) 14 0) 15 0))])) (va_A [(a0, zO 10 83 g0), (a1, zI K 10 f1), (a2, zI K 1290 f2), (a3, zI K 1290 f3), (a4, zI K 1290 f4), (a5, zI K 900 f5), (a6, zI K 900 f6), (a7, zI K 900 f7), (a8, zI K 900 f8), (a9, zI K 60000 f9), (a10, zI K 16 f10), (a11, zI K 210000 f11), (a12, zI K 210000 f12), (a13, zI K 60000 f13), (a14, zI K 60000 f14), (a15, zI K 60000 f15), (a16, zI K 60000 f16), (a17, zI K 60000 f17), (a18, zI K 60000 f18)] sz)) 0 0 (va_A [(a0, zO 10 83 g0), (a1, zI K 10 f1), (a2, zI K 1290 f2), (a3, zI K 1290 f3), (a4, zI K 1290 f4), (a5, zI K 900 f5), (a6, zI K 900 f6), (a7, zI K 900 f7), (a8, zI K 900 f8), (a9, zI K 60000 f9), (a10, zI K 16 f10), (a11, zI K 210000 f11), (a12, zI K 210000 f12), (a13, zI K 60000 f13), (a14, zI K 60000 f14), (a15, zI K 60000 f15), (a16, zI K 60000 f16), (a17, zI K 60000 f17), (a18, zI K 60000 f18)] sz) := by
  refine z_met (Qc := fun A => (va_Qi (fun (r : Int32) (_ : Nat → Nat) => r = 5) (zB K A (fun u : Nat → Nat => [(a0, zO 10 83 (va_up (va_up (va_up (va_up (va_up (va_up (va_up (va_up (va_up (va_up (va_up (va_up (va_up (va_up (va_up (va_up (va_up (va_up (va_up (va_up (va_up (va_up (va_up (va_up (va_up (va_up (va_up (va_up (va_up (va_up (va_up (va_up (va_up (va_up (va_up (va_up (va_up (va_up (va_up (va_up (va_up (va_up (va_up (va_up (va_up (va_up (va_up (va_up (va_up (va_up (va_up (va_up (va_up (va_up (va_up (va_up (va_up (va_up (va_up (va_up (va_up (va_up (va_up g0 79 (.int 0)) 55 (.int 0)) 58 (.int 0)) 59 (.int 600)) 72 (.int 0)) 77 (.int 0)) 62 (.int 1280)) 63 (.int (-1))) 64 (.int 0)) 65 (.int 0)) 61 (.int (-1))) 58 (.int 1)) 72 (.int 1)) 62 (.int 1281)) 63 (.int (-1))) 64 (.int 0)) 65 (.int 0)) 58 (.int 2)) 72 (.int 2)) 62 (.int 1282)) 63 (.int (-1))) 64 (.int 0)) 65 (.int 0)) 58 (.int 3)) 61 (.int 5)) 72 (.int 1)) 72 (.int 0)) 54 (.int 0)) 54 (.int 1)) 54 (.int 2)) 54 (.int 3)) 54 (.int 4)) 54 (.int 5)) 54 (.int 6)) 54 (.int 7)) 54 (.int 8)) 54 (.int 9)) 54 (.int 10)) 54 (.int 11)) 54 (.int 12)) 54 (.int 13)) 54 (.int 14)) 54 (.int 15)) 54 (.int 16)) 54 (.int 15)) 54 (.int 14)) 54 (.int 13)) 54 (.int 12)) 54 (.int 11)) 54 (.int 10)) 54 (.int 9)) 54 (.int 8)) 54 (.int 7)) 54 (.int 6)) 54 (.int 5)) 54 (.int 4)) 54 (.int 3)) 54 (.int 2)) 54 (.int 1)) 54 (.int 0)) 32 (.int 16)) 40 (.int 0)) 46 (.int 0))), (a1, zI K 10 (va_up (va_up (va_up (va_up (va_up (va_up (va_up (va_up (va_up (va_up (va_up (va_up (va_up (va_up f1 0 0) 1 0) 2 0) 3 0) 4 0) 5 0) 6 0) 7 0) 8 0) 9 0) 6 1) 6 2) 6 3) 0 3)), (a2, zI K 1290 (va_up (va_up (va_up (va_up (va_up f2 1280 4) 1281 4) 1282 2) 1283 0) 1284 0)), (a3, zI K 1290 (va_up (va_up (va_up f3 1282 (nI j0)) 1283 x1) 1284 x2)), (a4, zI K 1290 (va_up (va_up (va_up (va_up (va_up f4 1282 1283) 1283 1284) 1281 1284) 1284 1285) 1280 1285)), (a5, zI K 900 (va_up (va_up f5 0 4) 1 4)), (a6, zI K 900 (va_up (va_up f6 0 1280) 1 1281)), (a7, zI K 900 (va_up (va_up f7 0 (-1)) 1 (-1))), (a8, zI K 900 (va_up (va_up f8 0 0) 1 0)), (a9, zI K 60000 (va_up (va_up (va_up (va_up (va_up (va_up (va_up (va_up (va_up (va_up (va_up (va_up (va_up (va_up (va_up (va_up f9 0 0) 1 0) 2 0) 3 0) 4 0) 5 0) 6 0) 7 0) 8 0) 9 0) 10 0) 11 0) 12 0) 13 0) 14 0) 15 0)), (a10, zI K 16 f10), (a11, zI K 210000 (va_up (va_up (va_up (va_up (va_up (va_up (va_up (va_up (va_up (va_up (va_up (va_up (va_up (va_up (va_up (va_up (va_up (va_up (va_up (va_up (va_up (va_up (va_up (va_up (va_up (va_up (va_up (va_up (va_up (va_up (va_up (va_up (va_up (va_up (va_up (va_up (va_up (va_up (va_up (va_up (va_up (va_up (va_up (va_up (va_up (va_up (va_up (va_up f11 0 (-1)) 1 (-1)) 2 (-1)) 3 (-1)) 4 (-1)) 5 (-1)) 6 (-1)) 7 (-1)) 8 (-1)) 9 (-1)) 10 (-1)) 11 (-1)) 12 (-1)) 13 (-1)) 14 (-1)) 15 (-1)) 0 0) 1 0) 2 0) 3 0) 4 0) 5 0) 6 0) 7 0) 8 0) 9 0) 10 0) 11 0) 12 0) 13 0) 14 0) 15 0) 0 0) 1 1) 2 2) 3 3) 4 4) 5 5) 6 6) 7 7) 8 8) 9 9) 10 10) 11 11) 12 12) 13 13) 14 14) 15 15)), (a12, zI K 210000 (va_up (va_up (va_up (va_up (va_up (va_up (va_up (va_up (va_up (va_up (va_up (va_up (va_up (va_up (va_up (va_up f12 0 0) 1 1) 2 2) 3 3) 4 4) 5 5) 6 6) 7 7) 8 8) 9 9) 10 10) 11 11) 12 12) 13 13) 14 14) 15 15)), (a13, zI K 60000 (va_up (va_up (va_up (va_up (va_up (va_up (va_up (va_up (va_up (va_up (va_up (va_up (va_up (va_up (va_up (va_up f13 0 0) 1 0) 2 0) 3 0) 4 0) 5 0) 6 0) 7 0) 8 0) 9 0) 10 0) 11 0) 12 0) 13 0) 14 0) 15 0)), (a14, zI K 60000 (va_up (va_up (va_up (va_up (va_up (va_up (va_up (va_up (va_up (va_up (va_up (va_up (va_up (va_up (va_up (va_up f14 0 0) 1 0) 2 0) 3 0) 4 0) 5 0) 6 0) 7 0) 8 0) 9 0) 10 0) 11 0) 12 0) 13 0) 14 0) 15 0)), (a15, zI K 60000 (va_up (va_up (va_up (va_up (va_up (va_up (va_up (va_up (va_up (va_up (va_up (va_up (va_up (va_up (va_up (va_up f15 0 0) 1 0) 2 0) 3 0) 4 0) 5 0) 6 0) 7 0) 8 0) 9 0) 10 0) 11 0) 12 0) 13 0) 14 0) 15 0)), (a16, zI K 60000 (va_up (va_up (va_up (va_up (va_up (va_up (va_up (va_up (va_up (va_up (va_up (va_up (va_up (va_up (va_up (va_up f16 0 0) 1 0) 2 0) 3 0) 4 0) 5 0) 6 0) 7 0) 8 0) 9 0) 10 0) 11 0) 12 0) 13 0) 14 0) 15 0)), (a17, zI K 60000 (va_up (va_up (va_up (va_up (va_up (va_up (va_up (va_up (va_up (va_up (va_up (va_up (va_up (va_up (va_up (va_up f17 0 (-1)) 1 (-1)) 2 (-1)) 3 (-1)) 4 (-1)) 5 (-1)) 6 (-1)) 7 (-1)) 8 (-1)) 9 (-1)) 10 (-1)) 11 (-1)) 12 (-1)) 13 (-1)) 14 (-1)) 15 (-1))), (a18, zI K 60000 (va_up (va_up (va_up (va_up (va_up (va_up (va_up (va_up (va_up (va_up (va_up (va_up (va_up (va_up (va_up (va_up f18 0 0) 1 0) 2 0) 3 0) 4 0) 5 0) 6 0) 7 0) 8 0) 9 0) 10 0) 11 0) 12 0) 13 0) 14 0) 15 0))])) A)) (by decide +kernel) (Nat.le_of_ble_eq_true rfl) ?_
  intro p e s m args below meth c A ls H hx hb hr hg hown hlocks hml hin hK hP hD hA hS hZ hl
  have hown : s.vm.findClass RX12 = some m.cls := hown
  have hl : lv_has ls 7 [(0, .ref a0), (1, .int (nI j0)), (2, .int 2), (3, .int x1), (4, .int x2), (5, .int 0)] := hl
  refine lv_iconst (v := 0) hx hb dX12_begins_0 (by decide) ?_
  refine lv_istore (lv' := [(6, .int 0), (0, .ref a0), (1, .int (nI j0)), (2, .int 2), (3, .int x1), (4, .int x2), (5, .int 0)]) hx hb dX12_begins_1 hl (by decide) rfl (fun ls hl => ?_)
  refine lv_iload hx hb dX12_begins_3 (lv_at hl 0 rfl) ?_
  refine lv_bipush (v := 10) hx hb dX12_begins_5 (by decide) ?_
  refine lv_icmp_ge (tgt := 24) hx hb dX12_begins_7 (by decide) (fun c => absurd c (by decide)) (fun _ => ?_)
  refine lv_aload_n hx hb dX12_begins_10 rfl (lv_at hl 1 rfl) ?_
  refine z_get (v := .ref a1) hx hb hg hown hK hP i_X12 rfl 0 rfl 80 (by decide) mt1360 e0 dX12_begins_11 ?_
  refine lv_iload hx hb dX12_begins_14 (lv_at hl 0 rfl) ?_
  refine lv_iconst (v := 0) hx hb dX12_begins_16 (by decide) ?_
  refine z_iast (j := 0) hx hb hK hP hD hS 1 rfl rfl (Nat.le_of_ble_eq_true rfl) (Nat.le_of_ble_eq_true rfl) dX12_begins_17 (fun ff1 H locs y2 hP hD hS => ?_)
  have hP : va_P K.1 classes [(a0, zO 10 83 g0), (a1, zI K 10 ff1), (a2, zI K 1290 f2), (a3, zI K 1290 f3), (a4, zI K 1290 f4), (a5, zI K 900 f5), (a6, zI K 900 f6), (a7, zI K 900 f7), (a8, zI K 900 f8), (a9, zI K 60000 f9), (a10, zI K 16 f10), (a11, zI K 210000 f11), (a12, zI K 210000 f12), (a13, zI K 60000 f13), (a14, zI K 60000 f14), (a15, zI K 60000 f15), (a16, zI K 60000 f16), (a17, zI K 60000 f17), (a18, zI K 60000 f18)] H := hP
  have hD : va_D A [(a0, zO 10 83 g0), (a1, zI K 10 ff1), (a2, zI K 1290 f2), (a3, zI K 1290 f3), (a4, zI K 1290 f4), (a5, zI K 900 f5), (a6, zI K 900 f6), (a7, zI K 900 f7), (a8, zI K 900 f8), (a9, zI K 60000 f9), (a10, zI K 16 f10), (a11, zI K 210000 f11), (a12, zI K 210000 f12), (a13, zI K 60000 f13), (a14, zI K 60000 f14), (a15, zI K 60000 f15), (a16, zI K 60000 f16), (a17, zI K 60000 f17), (a18, zI K 60000 f18)] := hD
  refine lv_iinc (v := 1) (lv' := [(6, .int 1), (0, .ref a0), (1, .int (nI j0)), (2, .int 2), (3, .int x1), (4, .int x2), (5, .int 0)]) hx hb dX12_begins_18 hl (k := 0) rfl (by decide +kernel) (by decide) rfl (fun ls hl => ?_)
  refine lv_goto (tgt := 3) hx hb dX12_begins_21 (by decide) ?_
  refine lv_iload hx hb dX12_begins_3 (lv_at hl 0 rfl) ?_
  refine lv_bipush (v := 10) hx hb dX12_begins_5 (by decide) ?_
  refine lv_icmp_ge (tgt := 24) hx hb dX12_begins_7 (by decide) (fun c => absurd c (by decide)) (fun _ => ?_)
  refine lv_aload_n hx hb dX12_begins_10 rfl (lv_at hl 1 rfl) ?_
  refine z_get (v := .ref a1) hx hb hg hown hK hP i_X12 rfl 0 rfl 80 (by decide) mt1360 e0 dX12_begins_11 ?_
  refine lv_iload hx hb dX12_begins_14 (lv_at hl 0 rfl) ?_
  refine lv_iconst (v := 0) hx hb dX12_begins_16 (by decide) ?_
  refine z_iast (j := 1) hx hb hK hP hD hS 1 rfl rfl (Nat.le_of_ble_eq_true rfl) (Nat.le_of_ble_eq_true rfl) dX12_begins_17 (fun ff3 H locs y4 hP hD hS => ?_)
  have hP : va_P K.1 classes [(a0, zO 10 83 g0), (a1, zI K 10 ff3), (a2, zI K 1290 f2), (a3, zI K 1290 f3), (a4, zI K 1290 f4), (a5, zI K 900 f5), (a6, zI K 900 f6), (a7, zI K 900 f7), (a8, zI K 900 f8), (a9, zI K 60000 f9), (a10, zI K 16 f10), (a11, zI K 210000 f11), (a12, zI K 210000 f12), (a13, zI K 60000 f13), (a14, zI K 60000 f14), (a15, zI K 60000 f15), (a16, zI K 60000 f16), (a17, zI K 60000 f17), (a18, zI K 60000 f18)] H := hP
  have hD : va_D A [(a0, zO 10 83 g0), (a1, zI K 10 ff3), (a2, zI K 1290 f2), (a3, zI K 1290 f3), (a4, zI K 1290 f4), (a5, zI K 900 f5), (a6, zI K 900 f6), (a7, zI K 900 f7), (a8, zI K 900 f8), (a9, zI K 60000 f9), (a10, zI K 16 f10), (a11, zI K 210000 f11), (a12, zI K 210000 f12), (a13, zI K 60000 f13), (a14, zI K 60000 f14), (a15, zI K 60000 f15), (a16, zI K 60000 f16), (a17, zI K 60000 f17), (a18, zI K 60000 f18)] := hD
  refine lv_iinc (v := 2) (lv' := [(6, .int 2), (0, .ref a0), (1, .int (nI j0)), (2, .int 2), (3, .int x1), (4, .int x2), (5, .int 0)]) hx hb dX12_begins_18 hl (k := 0) rfl (by decide +kernel) (by decide) rfl (fun ls hl => ?_)
  refine lv_goto (tgt := 3) hx hb dX12_begins_21 (by decide) ?_
  refine lv_iload hx hb dX12_begins_3 (lv_at hl 0 rfl) ?_
  refine lv_bipush (v := 10) hx hb dX12_begins_5 (by decide) ?_
  refine lv_icmp_ge (tgt := 24) hx hb dX12_begins_7 (by decide) (fun c => absurd c (by decide)) (fun _ => ?_)
  refine lv_aload_n hx hb dX12_begins_10 rfl (lv_at hl 1 rfl) ?_
  refine z_get (v := .ref a1) hx hb hg hown hK hP i_X12 rfl 0 rfl 80 (by decide) mt1360 e0 dX12_begins_11 ?_
  refine lv_iload hx hb dX12_begins_14 (lv_at hl 0 rfl) ?_
  refine lv_iconst (v := 0) hx hb dX12_begins_16 (by decide) ?_
  refine z_iast (j := 2) hx hb hK hP hD hS 1 rfl rfl (Nat.le_of_ble_eq_true rfl) (Nat.le_of_ble_eq_true rfl) dX12_begins_17 (fun ff5 H locs y6 hP hD hS => ?_)
  have hP : va_P K.1 classes [(a0, zO 10 83 g0), (a1, zI K 10 ff5), (a2, zI K 1290 f2), (a3, zI K 1290 f3), (a4, zI K 1290 f4), (a5, zI K 900 f5), (a6, zI K 900 f6), (a7, zI K 900 f7), (a8, zI K 900 f8), (a9, zI K 60000 f9), (a10, zI K 16 f10), (a11, zI K 210000 f11), (a12, zI K 210000 f12), (a13, zI K 60000 f13), (a14, zI K 60000 f14), (a15, zI K 60000 f15), (a16, zI K 60000 f16), (a17, zI K 60000 f17), (a18, zI K 60000 f18)] H := hP
  have hD : va_D A [(a0, zO 10 83 g0), (a1, zI K 10 ff5), (a2, zI K 1290 f2), (a3, zI K 1290 f3), (a4, zI K 1290 f4), (a5, zI K 900 f5), (a6, zI K 900 f6), (a7, zI K 900 f7), (a8, zI K 900 f8), (a9, zI K 60000 f9), (a10, zI K 16 f10), (a11, zI K 210000 f11), (a12, zI K 210000 f12), (a13, zI K 60000 f13), (a14, zI K 60000 f14), (a15, zI K 60000 f15), (a16, zI K 60000 f16), (a17, zI K 60000 f17), (a18, zI K 60000 f18)] := hD
  refine lv_iinc (v := 3) (lv' := [(6, .int 3), (0, .ref a0), (1, .int (nI j0)), (2, .int 2), (3, .int x1), (4, .int x2), (5, .int 0)]) hx hb dX12_begins_18 hl (k := 0) rfl (by decide +kernel) (by decide) rfl (fun ls hl => ?_)
  refine lv_goto (tgt := 3) hx hb dX12_begins_21 (by decide) ?_
  refine lv_iload hx hb dX12_begins_3 (lv_at hl 0 rfl) ?_
  refine lv_bipush (v := 10) hx hb dX12_begins_5 (by decide) ?_
  refine lv_icmp_ge (tgt := 24) hx hb dX12_begins_7 (by decide) (fun c => absurd c (by decide)) (fun _ => ?_)
  refine lv_aload_n hx hb dX12_begins_10 rfl (lv_at hl 1 rfl) ?_
  refine z_get (v := .ref a1) hx hb hg hown hK hP i_X12 rfl 0 rfl 80 (by decide) mt1360 e0 dX12_begins_11 ?_
  refine lv_iload hx hb dX12_begins_14 (lv_at hl 0 rfl) ?_
  refine lv_iconst (v := 0) hx hb dX12_begins_16 (by decide) ?_
  refine z_iast (j := 3) hx hb hK hP hD hS 1 rfl rfl (Nat.le_of_ble_eq_true rfl) (Nat.le_of_ble_eq_true rfl) dX12_begins_17 (fun ff7 H locs y8 hP hD hS => ?_)
  have hP : va_P K.1 classes [(a0, zO 10 83 g0), (a1, zI K 10 ff7), (a2, zI K 1290 f2), (a3, zI K 1290 f3), (a4, zI K 1290 f4), (a5, zI K 900 f5), (a6, zI K 900 f6), (a7, zI K 900 f7), (a8, zI K 900 f8), (a9, zI K 60000 f9), (a10, zI K 16 f10), (a11, zI K 210000 f11), (a12, zI K 210000 f12), (a13, zI K 60000 f13), (a14, zI K 60000 f14), (a15, zI K 60000 f15), (a16, zI K 60000 f16), (a17, zI K 60000 f17), (a18, zI K 60000 f18)] H := hP
  have hD : va_D A [(a0, zO 10 83 g0), (a1, zI K 10 ff7), (a2, zI K 1290 f2), (a3, zI K 1290 f3), (a4, zI K 1290 f4), (a5, zI K 900 f5), (a6, zI K 900 f6), (a7, zI K 900 f7), (a8, zI K 900 f8), (a9, zI K 60000 f9), (a10, zI K 16 f10), (a11, zI K 210000 f11), (a12, zI K 210000 f12), (a13, zI K 60000 f13), (a14, zI K 60000 f14), (a15, zI K 60000 f15), (a16, zI K 60000 f16), (a17, zI K 60000 f17), (a18, zI K 60000 f18)] := hD
  refine lv_iinc (v := 4) (lv' := [(6, .int 4), (0, .ref a0), (1, .int (nI j0)), (2, .int 2), (3, .int x1), (4, .int x2), (5, .int 0)]) hx hb dX12_begins_18 hl (k := 0) rfl (by decide +kernel) (by decide) rfl (fun ls hl => ?_)
  refine lv_goto (tgt := 3) hx hb dX12_begins_21 (by decide) ?_
  refine lv_iload hx hb dX12_begins_3 (lv_at hl 0 rfl) ?_
  refine lv_bipush (v := 10) hx hb dX12_begins_5 (by decide) ?_
  refine lv_icmp_ge (tgt := 24) hx hb dX12_begins_7 (by decide) (fun c => absurd c (by decide)) (fun _ => ?_)
  refine lv_aload_n hx hb dX12_begins_10 rfl (lv_at hl 1 rfl) ?_
  refine z_get (v := .ref a1) hx hb hg hown hK hP i_X12 rfl 0 rfl 80 (by decide) mt1360 e0 dX12_begins_11 ?_
  refine lv_iload hx hb dX12_begins_14 (lv_at hl 0 rfl) ?_
  refine lv_iconst (v := 0) hx hb dX12_begins_16 (by decide) ?_
  refine z_iast (j := 4) hx hb hK hP hD hS 1 rfl rfl (Nat.le_of_ble_eq_true rfl) (Nat.le_of_ble_eq_true rfl) dX12_begins_17 (fun ff9 H locs y10 hP hD hS => ?_)
  have hP : va_P K.1 classes [(a0, zO 10 83 g0), (a1, zI K 10 ff9), (a2, zI K 1290 f2), (a3, zI K 1290 f3), (a4, zI K 1290 f4), (a5, zI K 900 f5), (a6, zI K 900 f6), (a7, zI K 900 f7), (a8, zI K 900 f8), (a9, zI K 60000 f9), (a10, zI K 16 f10), (a11, zI K 210000 f11), (a12, zI K 210000 f12), (a13, zI K 60000 f13), (a14, zI K 60000 f14), (a15, zI K 60000 f15), (a16, zI K 60000 f16), (a17, zI K 60000 f17), (a18, zI K 60000 f18)] H := hP
  have hD : va_D A [(a0, zO 10 83 g0), (a1, zI K 10 ff9), (a2, zI K 1290 f2), (a3, zI K 1290 f3), (a4, zI K 1290 f4), (a5, zI K 900 f5), (a6, zI K 900 f6), (a7, zI K 900 f7), (a8, zI K 900 f8), (a9, zI K 60000 f9), (a10, zI K 16 f10), (a11, zI K 210000 f11), (a12, zI K 210000 f12), (a13, zI K 60000 f13), (a14, zI K 60000 f14), (a15, zI K 60000 f15), (a16, zI K 60000 f16), (a17, zI K 60000 f17), (a18, zI K 60000 f18)] := hD
  refine lv_iinc (v := 5) (lv' := [(6, .int 5), (0, .ref a0), (1, .int (nI j0)), (2, .int 2), (3, .int x1), (4, .int x2), (5, .int 0)]) hx hb dX12_begins_18 hl (k := 0) rfl (by decide +kernel) (by decide) rfl (fun ls hl => ?_)
  refine lv_goto (tgt := 3) hx hb dX12_begins_21 (by decide) ?_
  refine lv_iload hx hb dX12_begins_3 (lv_at hl 0 rfl) ?_
  refine lv_bipush (v := 10) hx hb dX12_begins_5 (by decide) ?_
  refine lv_icmp_ge (tgt := 24) hx hb dX12_begins_7 (by decide) (fun c => absurd c (by decide)) (fun _ => ?_)
  refine lv_aload_n hx hb dX12_begins_10 rfl (lv_at hl 1 rfl) ?_
  refine z_get (v := .ref a1) hx hb hg hown hK hP i_X12 rfl 0 rfl 80 (by decide) mt1360 e0 dX12_begins_11 ?_
  refine lv_iload hx hb dX12_begins_14 (lv_at hl 0 rfl) ?_
  refine lv_iconst (v := 0) hx hb dX12_begins_16 (by decide) ?_
  refine z_iast (j := 5) hx hb hK hP hD hS 1 rfl rfl (Nat.le_of_ble_eq_true rfl) (Nat.le_of_ble_eq_true rfl) dX12_begins_17 (fun ff11 H locs y12 hP hD hS => ?_)
  have hP : va_P K.1 classes [(a0, zO 10 83 g0), (a1, zI K 10 ff11), (a2, zI K 1290 f2), (a3, zI K 1290 f3), (a4, zI K 1290 f4), (a5, zI K 900 f5), (a6, zI K 900 f6), (a7, zI K 900 f7), (a8, zI K 900 f8), (a9, zI K 60000 f9), (a10, zI K 16 f10), (a11, zI K 210000 f11), (a12, zI K 210000 f12), (a13, zI K 60000 f13), (a14, zI K 60000 f14), (a15, zI K 60000 f15), (a16, zI K 60000 f16), (a17, zI K 60000 f17), (a18, zI K 60000 f18)] H := hP
  have hD : va_D A [(a0, zO 10 83 g0), (a1, zI K 10 ff11), (a2, zI K 1290 f2), (a3, zI K 1290 f3), (a4, zI K 1290 f4), (a5, zI K 900 f5), (a6, zI K 900 f6), (a7, zI K 900 f7), (a8, zI K 900 f8), (a9, zI K 60000 f9), (a10, zI K 16 f10), (a11, zI K 210000 f11), (a12, zI K 210000 f12), (a13, zI K 60000 f13), (a14, zI K 60000 f14), (a15, zI K 60000 f15), (a16, zI K 60000 f16), (a17, zI K 60000 f17), (a18, zI K 60000 f18)] := hD
  refine lv_iinc (v := 6) (lv' := [(6, .int 6), (0, .ref a0), (1, .int (nI j0)), (2, .int 2), (3, .int x1), (4, .int x2), (5, .int 0)]) hx hb dX12_begins_18 hl (k := 0) rfl (by decide +kernel) (by decide) rfl (fun ls hl => ?_)
  refine lv_goto (tgt := 3) hx hb dX12_begins_21 (by decide) ?_
  refine lv_iload hx hb dX12_begins_3 (lv_at hl 0 rfl) ?_
  refine lv_bipush (v := 10) hx hb dX12_begins_5 (by decide) ?_
  refine lv_icmp_ge (tgt := 24) hx hb dX12_begins_7 (by decide) (fun c => absurd c (by decide)) (fun _ => ?_)
  refine lv_aload_n hx hb dX12_begins_10 rfl (lv_at hl 1 rfl) ?_
  refine z_get (v := .ref a1) hx hb hg hown hK hP i_X12 rfl 0 rfl 80 (by decide) mt1360 e0 dX12_begins_11 ?_
  refine lv_iload hx hb dX12_begins_14 (lv_at hl 0 rfl) ?_
  refine lv_iconst (v := 0) hx hb dX12_begins_16 (by decide) ?_
  refine z_iast (j := 6) hx hb hK hP hD hS 1 rfl rfl (Nat.le_of_ble_eq_true rfl) (Nat.le_of_ble_eq_true rfl) dX12_begins_17 (fun ff13 H locs y14 hP hD hS => ?_)
  have hP : va_P K.1 classes [(a0, zO 10 83 g0), (a1, zI K 10 ff13), (a2, zI K 1290 f2), (a3, zI K 1290 f3), (a4, zI K 1290 f4), (a5, zI K 900 f5), (a6, zI K 900 f6), (a7, zI K 900 f7), (a8, zI K 900 f8), (a9, zI K 60000 f9), (a10, zI K 16 f10), (a11, zI K 210000 f11), (a12, zI K 210000 f12), (a13, zI K 60000 f13), (a14, zI K 60000 f14), (a15, zI K 60000 f15), (a16, zI K 60000 f16), (a17, zI K 60000 f17), (a18, zI K 60000 f18)] H := hP
  have hD : va_D A [(a0, zO 10 83 g0), (a1, zI K 10 ff13), (a2, zI K 1290 f2), (a3, zI K 1290 f3), (a4, zI K 1290 f4), (a5, zI K 900 f5), (a6, zI K 900 f6), (a7, zI K 900 f7), (a8, zI K 900 f8), (a9, zI K 60000 f9), (a10, zI K 16 f10), (a11, zI K 210000 f11), (a12, zI K 210000 f12), (a13, zI K 60000 f13), (a14, zI K 60000 f14), (a15, zI K 60000 f15), (a16, zI K 60000 f16), (a17, zI K 60000 f17), (a18, zI K 60000 f18)] := hD
  refine lv_iinc (v := 7) (lv' := [(6, .int 7), (0, .ref a0), (1, .int (nI j0)), (2, .int 2), (3, .int x1), (4, .int x2), (5, .int 0)]) hx hb dX12_begins_18 hl (k := 0) rfl (by decide +kernel) (by decide) rfl (fun ls hl => ?_)
  refine lv_goto (tgt := 3) hx hb dX12_begins_21 (by decide) ?_
  refine lv_iload hx hb dX12_begins_3 (lv_at hl 0 rfl) ?_
  refine lv_bipush (v := 10) hx hb dX12_begins_5 (by decide) ?_
  refine lv_icmp_ge (tgt := 24) hx hb dX12_begins_7 (by decide) (fun c => absurd c (by decide)) (fun _ => ?_)
  refine lv_aload_n hx hb dX12_begins_10 rfl (lv_at hl 1 rfl) ?_
  refine z_get (v := .ref a1) hx hb hg hown hK hP i_X12 rfl 0 rfl 80 (by decide) mt1360 e0 dX12_begins_11 ?_
  refine lv_iload hx hb dX12_begins_14 (lv_at hl 0 rfl) ?_
  refine lv_iconst (v := 0) hx hb dX12_begins_16 (by decide) ?_
  refine z_iast (j := 7) hx hb hK hP hD hS 1 rfl rfl (Nat.le_of_ble_eq_true rfl) (Nat.le_of_ble_eq_true rfl) dX12_begins_17 (fun ff15 H locs y16 hP hD hS => ?_)
  have hP : va_P K.1 classes [(a0, zO 10 83 g0), (a1, zI K 10 ff15), (a2, zI K 1290 f2), (a3, zI K 1290 f3), (a4, zI K 1290 f4), (a5, zI K 900 f5), (a6, zI K 900 f6), (a7, zI K 900 f7), (a8, zI K 900 f8), (a9, zI K 60000 f9), (a10, zI K 16 f10), (a11, zI K 210000 f11), (a12, zI K 210000 f12), (a13, zI K 60000 f13), (a14, zI K 60000 f14), (a15, zI K 60000 f15), (a16, zI K 60000 f16), (a17, zI K 60000 f17), (a18, zI K 60000 f18)] H := hP
  have hD : va_D A [(a0, zO 10 83 g0), (a1, zI K 10 ff15), (a2, zI K 1290 f2), (a3, zI K 1290 f3), (a4, zI K 1290 f4), (a5, zI K 900 f5), (a6, zI K 900 f6), (a7, zI K 900 f7), (a8, zI K 900 f8), (a9, zI K 60000 f9), (a10, zI K 16 f10), (a11, zI K 210000 f11), (a12, zI K 210000 f12), (a13, zI K 60000 f13), (a14, zI K 60000 f14), (a15, zI K 60000 f15), (a16, zI K 60000 f16), (a17, zI K 60000 f17), (a18, zI K 60000 f18)] := hD
  refine lv_iinc (v := 8) (lv' := [(6, .int 8), (0, .ref a0), (1, .int (nI j0)), (2, .int 2), (3, .int x1), (4, .int x2), (5, .int 0)]) hx hb dX12_begins_18 hl (k := 0) rfl (by decide +kernel) (by decide) rfl (fun ls hl => ?_)
  refine lv_goto (tgt := 3) hx hb dX12_begins_21 (by decide) ?_
  refine lv_iload hx hb dX12_begins_3 (lv_at hl 0 rfl) ?_
  refine lv_bipush (v := 10) hx hb dX12_begins_5 (by decide) ?_
  refine lv_icmp_ge (tgt := 24) hx hb dX12_begins_7 (by decide) (fun c => absurd c (by decide)) (fun _ => ?_)
  refine lv_aload_n hx hb dX12_begins_10 rfl (lv_at hl 1 rfl) ?_
  refine z_get (v := .ref a1) hx hb hg hown hK hP i_X12 rfl 0 rfl 80 (by decide) mt1360 e0 dX12_begins_11 ?_
  refine lv_iload hx hb dX12_begins_14 (lv_at hl 0 rfl) ?_
  refine lv_iconst (v := 0) hx hb dX12_begins_16 (by decide) ?_
  refine z_iast (j := 8) hx hb hK hP hD hS 1 rfl rfl (Nat.le_of_ble_eq_true rfl) (Nat.le_of_ble_eq_true rfl) dX12_begins_17 (fun ff17 H locs y18 hP hD hS => ?_)
  have hP : va_P K.1 classes [(a0, zO 10 83 g0), (a1, zI K 10 ff17), (a2, zI K 1290 f2), (a3, zI K 1290 f3), (a4, zI K 1290 f4), (a5, zI K 900 f5), (a6, zI K 900 f6), (a7, zI K 900 f7), (a8, zI K 900 f8), (a9, zI K 60000 f9), (a10, zI K 16 f10), (a11, zI K 210000 f11), (a12, zI K 210000 f12), (a13, zI K 60000 f13), (a14, zI K 60000 f14), (a15, zI K 60000 f15), (a16, zI K 60000 f16), (a17, zI K 60000 f17), (a18, zI K 60000 f18)] H := hP
  have hD : va_D A [(a0, zO 10 83 g0), (a1, zI K 10 ff17), (a2, zI K 1290 f2), (a3, zI K 1290 f3), (a4, zI K 1290 f4), (a5, zI K 900 f5), (a6, zI K 900 f6), (a7, zI K 900 f7), (a8, zI K 900 f8), (a9, zI K 60000 f9), (a10, zI K 16 f10), (a11, zI K 210000 f11), (a12, zI K 210000 f12), (a13, zI K 60000 f13), (a14, zI K 60000 f14), (a15, zI K 60000 f15), (a16, zI K 60000 f16), (a17, zI K 60000 f17), (a18, zI K 60000 f18)] := hD
  refine lv_iinc (v := 9) (lv' := [(6, .int 9), (0, .ref a0), (1, .int (nI j0)), (2, .int 2), (3, .int x1), (4, .int x2), (5, .int 0)]) hx hb dX12_begins_18 hl (k := 0) rfl (by decide +kernel) (by decide) rfl (fun ls hl => ?_)
  refine lv_goto (tgt := 3) hx hb dX12_begins_21 (by decide) ?_
  refine lv_iload hx hb dX12_begins_3 (lv_at hl 0 rfl) ?_
  refine lv_bipush (v := 10) hx hb dX12_begins_5 (by decide) ?_
  refine lv_icmp_ge (tgt := 24) hx hb dX12_begins_7 (by decide) (fun c => absurd c (by decide)) (fun _ => ?_)
  refine lv_aload_n hx hb dX12_begins_10 rfl (lv_at hl 1 rfl) ?_
  refine z_get (v := .ref a1) hx hb hg hown hK hP i_X12 rfl 0 rfl 80 (by decide) mt1360 e0 dX12_begins_11 ?_
  refine lv_iload hx hb dX12_begins_14 (lv_at hl 0 rfl) ?_
  refine lv_iconst (v := 0) hx hb dX12_begins_16 (by decide) ?_
  refine z_iast (j := 9) hx hb hK hP hD hS 1 rfl rfl (Nat.le_of_ble_eq_true rfl) (Nat.le_of_ble_eq_true rfl) dX12_begins_17 (fun ff19 H locs y20 hP hD hS => ?_)
  have hP : va_P K.1 classes [(a0, zO 10 83 g0), (a1, zI K 10 ff19), (a2, zI K 1290 f2), (a3, zI K 1290 f3), (a4, zI K 1290 f4), (a5, zI K 900 f5), (a6, zI K 900 f6), (a7, zI K 900 f7), (a8, zI K 900 f8), (a9, zI K 60000 f9), (a10, zI K 16 f10), (a11, zI K 210000 f11), (a12, zI K 210000 f12), (a13, zI K 60000 f13), (a14, zI K 60000 f14), (a15, zI K 60000 f15), (a16, zI K 60000 f16), (a17, zI K 60000 f17), (a18, zI K 60000 f18)] H := hP
  have hD : va_D A [(a0, zO 10 83 g0), (a1, zI K 10 ff19), (a2, zI K 1290 f2), (a3, zI K 1290 f3), (a4, zI K 1290 f4), (a5, zI K 900 f5), (a6, zI K 900 f6), (a7, zI K 900 f7), (a8, zI K 900 f8), (a9, zI K 60000 f9), (a10, zI K 16 f10), (a11, zI K 210000 f11), (a12, zI K 210000 f12), (a13, zI K 60000 f13), (a14, zI K 60000 f14), (a15, zI K 60000 f15), (a16, zI K 60000 f16), (a17, zI K 60000 f17), (a18, zI K 60000 f18)] := hD
  refine lv_iinc (v := 10) (lv' := [(6, .int 10), (0, .ref a0), (1, .int (nI j0)), (2, .int 2), (3, .int x1), (4, .int x2), (5, .int 0)]) hx hb dX12_begins_18 hl (k := 0) rfl (by decide +kernel) (by decide) rfl (fun ls hl => ?_)
  refine lv_goto (tgt := 3) hx hb dX12_begins_21 (by decide) ?_
  refine lv_iload hx hb dX12_begins_3 (lv_at hl 0 rfl) ?_
  refine lv_bipush (v := 10) hx hb dX12_begins_5 (by decide) ?_
  refine lv_icmp_ge (tgt := 24) hx hb dX12_begins_7 (by decide) (fun _ => ?_) (fun c => absurd (by decide) c)
  refine lv_aload_n hx hb dX12_begins_24 rfl (lv_at hl 1 rfl) ?_
  refine lv_iconst (v := 0) hx hb dX12_begins_25 (by decide) ?_
  refine z_put hx hb hg hown hK hP hD hS i_X12 rfl tyX12_ok nmX12 0 rfl 79 (by decide) mt1359 rfl rfl rfl dX12_begins_26 (fun gg21 H locs y22 hP hD hS => ?_)
  have hP : va_P K.1 classes [(a0, zO 10 83 gg21), (a1, zI K 10 ff19), (a2, zI K 1290 f2), (a3, zI K 1290 f3), (a4, zI K 1290 f4), (a5, zI K 900 f5), (a6, zI K 900 f6), (a7, zI K 900 f7), (a8, zI K 900 f8), (a9, zI K 60000 f9), (a10, zI K 16 f10), (a11, zI K 210000 f11), (a12, zI K 210000 f12), (a13, zI K 60000 f13), (a14, zI K 60000 f14), (a15, zI K 60000 f15), (a16, zI K 60000 f16), (a17, zI K 60000 f17), (a18, zI K 60000 f18)] H := hP
  have hD : va_D A [(a0, zO 10 83 gg21), (a1, zI K 10 ff19), (a2, zI K 1290 f2), (a3, zI K 1290 f3), (a4, zI K 1290 f4), (a5, zI K 900 f5), (a6, zI K 900 f6), (a7, zI K 900 f7), (a8, zI K 900 f8), (a9, zI K 60000 f9), (a10, zI K 16 f10), (a11, zI K 210000 f11), (a12, zI K 210000 f12), (a13, zI K 60000 f13), (a14, zI K 60000 f14), (a15, zI K 60000 f15), (a16, zI K 60000 f16), (a17, zI K 60000 f17), (a18, zI K 60000 f18)] := hD
  refine lv_aload_n hx hb dX12_begins_29 rfl (lv_at hl 1 rfl) ?_
  refine lv_iload hx hb dX12_begins_30 (lv_at hl 6 rfl) ?_
  refine lv_if_eq (tgt := 39) hx hb dX12_begins_32 (by decide) (fun _ => ?_) (fun c => absurd (by decide) c)
  refine lv_iconst (v := 0) hx hb dX12_begins_39 (by decide) ?_
  refine z_put hx hb hg hown hK hP hD hS i_X12 rfl tyX12_ok nmX12 0 rfl 55 (by decide) mt1335 rfl rfl rfl dX12_begins_40 (fun gg23 H locs y24 hP hD hS => ?_)
  have hP : va_P K.1 classes [(a0, zO 10 83 gg23), (a1, zI K 10 ff19), (a2, zI K 1290 f2), (a3, zI K 1290 f3), (a4, zI K 1290 f4), (a5, zI K 900 f5), (a6, zI K 900 f6), (a7, zI K 900 f7), (a8, zI K 900 f8), (a9, zI K 60000 f9), (a10, zI K 16 f10), (a11, zI K 210000 f11), (a12, zI K 210000 f12), (a13, zI K 60000 f13), (a14, zI K 60000 f14), (a15, zI K 60000 f15), (a16, zI K 60000 f16), (a17, zI K 60000 f17), (a18, zI K 60000 f18)] H := hP
  have hD : va_D A [(a0, zO 10 83 gg23), (a1, zI K 10 ff19), (a2, zI K 1290 f2), (a3, zI K 1290 f3), (a4, zI K 1290 f4), (a5, zI K 900 f5), (a6, zI K 900 f6), (a7, zI K 900 f7), (a8, zI K 900 f8), (a9, zI K 60000 f9), (a10, zI K 16 f10), (a11, zI K 210000 f11), (a12, zI K 210000 f12), (a13, zI K 60000 f13), (a14, zI K 60000 f14), (a15, zI K 60000 f15), (a16, zI K 60000 f16), (a17, zI K 60000 f17), (a18, zI K 60000 f18)] := hD
  refine lv_aload_n hx hb dX12_begins_43 rfl (lv_at hl 1 rfl) ?_
  refine lv_iload_n hx hb dX12_begins_44 rfl (lv_at hl 2 rfl) ?_
  refine lv_iload_n hx hb dX12_begins_45 rfl (lv_at hl 3 rfl) ?_
  refine lv_iload_n hx hb dX12_begins_46 rfl (lv_at hl 4 rfl) ?_
  refine lv_iload hx hb dX12_begins_47 (lv_at hl 5 rfl) ?_
  refine z_callv [(a0, zO 10 83 gg23), (a2, zI K 1290 f2), (a3, zI K 1290 f3), (a4, zI K 1290 f4)] [(a1, zI K 10 ff19), (a5, zI K 900 f5), (a6, zI K 900 f6), (a7, zI K 900 f7), (a8, zI K 900 f8), (a9, zI K 60000 f9), (a10, zI K 16 f10), (a11, zI K 210000 f11), (a12, zI K 210000 f12), (a13, zI K 60000 f13), (a14, zI K 60000 f14), (a15, zI K 60000 f15), (a16, zI K 60000 f16), (a17, zI K 60000 f17), (a18, zI K 60000 f18)] [0, 2, 3, 4] [1, 5, 6, 7, 8, 9, 10, 11, 12, 13, 14, 15, 16, 17, 18] hP hD hS hA rfl rfl (by decide) (by decide) (by decide +kernel) 0 0 rfl rfl (fun hPc hDc hF => z_runV (As := [.int (nI j0), .int 2, .int x1, .int x2]) (rest := []) ⟨hx, hb, hml, hown, hg⟩ (cX12_laysRun_3 l K H.size a0 a2 a3 a4 gg23 f2 f3 f4 j0 hj0 x1 x2 (zu_of y24 (zu_ne (by decide) (zu_of y22 (zu_ne (by decide) e1)))) (zu_of y24 (zu_ne (by decide) (zu_of y22 (zu_ne (by decide) e2)))) (zu_of y24 (zu_ne (by decide) (zu_of y22 (zu_ne (by decide) e3))))) kV_RX12_482 hd_X12_laysRun rfl rfl ⟨(Nat.le_of_ble_eq_true rfl), (Nat.le_of_ble_eq_true rfl)⟩ hK hS hZ hPc hDc hF 0 rfl rfl rfl hl.1 rfl (Nat.le_of_ble_eq_true rfl) dX12_begins_49 ⟨(Nat.le_of_ble_eq_true rfl), (Nat.le_of_ble_eq_true rfl)⟩) (fun u25 H locs w26 hP hD hS => ?_)
  have hP : va_P K.1 classes [(a1, zI K 10 ff19), (a5, zI K 900 f5), (a6, zI K 900 f6), (a7, zI K 900 f7), (a8, zI K 900 f8), (a9, zI K 60000 f9), (a10, zI K 16 f10), (a11, zI K 210000 f11), (a12, zI K 210000 f12), (a13, zI K 60000 f13), (a14, zI K 60000 f14), (a15, zI K 60000 f15), (a16, zI K 60000 f16), (a17, zI K 60000 f17), (a18, zI K 60000 f18), (a0, zO 10 83 gg23), (a2, zI K 1290 (va_up (va_up (va_up (va_up (va_up f2 1280 4) 1281 4) 1282 2) 1283 0) 1284 0)), (a3, zI K 1290 (va_up (va_up (va_up f3 1282 (nI j0)) 1283 x1) 1284 x2)), (a4, zI K 1290 (va_up (va_up (va_up (va_up (va_up f4 1282 1283) 1283 1284) 1281 1284) 1284 1285) 1280 1285))] H := hP
  have hD : va_D A [(a1, zI K 10 ff19), (a5, zI K 900 f5), (a6, zI K 900 f6), (a7, zI K 900 f7), (a8, zI K 900 f8), (a9, zI K 60000 f9), (a10, zI K 16 f10), (a11, zI K 210000 f11), (a12, zI K 210000 f12), (a13, zI K 60000 f13), (a14, zI K 60000 f14), (a15, zI K 60000 f15), (a16, zI K 60000 f16), (a17, zI K 60000 f17), (a18, zI K 60000 f18), (a0, zO 10 83 gg23), (a2, zI K 1290 (va_up (va_up (va_up (va_up (va_up f2 1280 4) 1281 4) 1282 2) 1283 0) 1284 0)), (a3, zI K 1290 (va_up (va_up (va_up f3 1282 (nI j0)) 1283 x1) 1284 x2)), (a4, zI K 1290 (va_up (va_up (va_up (va_up (va_up f4 1282 1283) 1283 1284) 1281 1284) 1284 1285) 1280 1285))] := hD
  obtain ⟨ff28, y29⟩ : ∃ z, z = ((va_up (va_up (va_up (va_up (va_up f2 1280 4) 1281 4) 1282 2) 1283 0) 1284 0) : Nat → Int32) := ⟨_, rfl⟩
  rw [← y29] at hP hD
  obtain ⟨ff30, y31⟩ : ∃ z, z = ((va_up (va_up (va_up f3 1282 (nI j0)) 1283 x1) 1284 x2) : Nat → Int32) := ⟨_, rfl⟩
  rw [← y31] at hP hD
  obtain ⟨ff32, y33⟩ : ∃ z, z = ((va_up (va_up (va_up (va_up (va_up f4 1282 1283) 1283 1284) 1281 1284) 1284 1285) 1280 1285) : Nat → Int32) := ⟨_, rfl⟩
  rw [← y33] at hP hD
  refine lv_aload_n hx hb dX12_begins_52 rfl (lv_at hl 1 rfl) ?_
  refine lv_iconst (v := 0) hx hb dX12_begins_53 (by decide) ?_
  refine z_put hx hb hg hown hK hP hD hS i_X12 rfl tyX12_ok nmX12 15 rfl 58 (by decide) mt1338 rfl rfl rfl dX12_begins_54 (fun gg34 H locs y35 hP hD hS => ?_)
  have hP : va_P K.1 classes [(a1, zI K 10 ff19), (a5, zI K 900 f5), (a6, zI K 900 f6), (a7, zI K 900 f7), (a8, zI K 900 f8), (a9, zI K 60000 f9), (a10, zI K 16 f10), (a11, zI K 210000 f11), (a12, zI K 210000 f12), (a13, zI K 60000 f13), (a14, zI K 60000 f14), (a15, zI K 60000 f15), (a16, zI K 60000 f16), (a17, zI K 60000 f17), (a18, zI K 60000 f18), (a0, zO 10 83 gg34), (a2, zI K 1290 ff28), (a3, zI K 1290 ff30), (a4, zI K 1290 ff32)] H := hP
  have hD : va_D A [(a1, zI K 10 ff19), (a5, zI K 900 f5), (a6, zI K 900 f6), (a7, zI K 900 f7), (a8, zI K 900 f8), (a9, zI K 60000 f9), (a10, zI K 16 f10), (a11, zI K 210000 f11), (a12, zI K 210000 f12), (a13, zI K 60000 f13), (a14, zI K 60000 f14), (a15, zI K 60000 f15), (a16, zI K 60000 f16), (a17, zI K 60000 f17), (a18, zI K 60000 f18), (a0, zO 10 83 gg34), (a2, zI K 1290 ff28), (a3, zI K 1290 ff30), (a4, zI K 1290 ff32)] := hD
  refine lv_aload_n hx hb dX12_begins_57 rfl (lv_at hl 1 rfl) ?_
  refine lv_sipush (v := 600) hx hb dX12_begins_58 (by decide) ?_
  refine z_put hx hb hg hown hK hP hD hS i_X12 rfl tyX12_ok nmX12 15 rfl 59 (by decide) mt1339 rfl rfl rfl dX12_begins_61 (fun gg36 H locs y37 hP hD hS => ?_)
  have hP : va_P K.1 classes [(a1, zI K 10 ff19), (a5, zI K 900 f5), (a6, zI K 900 f6), (a7, zI K 900 f7), (a8, zI K 900 f8), (a9, zI K 60000 f9), (a10, zI K 16 f10), (a11, zI K 210000 f11), (a12, zI K 210000 f12), (a13, zI K 60000 f13), (a14, zI K 60000 f14), (a15, zI K 60000 f15), (a16, zI K 60000 f16), (a17, zI K 60000 f17), (a18, zI K 60000 f18), (a0, zO 10 83 gg36), (a2, zI K 1290 ff28), (a3, zI K 1290 ff30), (a4, zI K 1290 ff32)] H := hP
  have hD : va_D A [(a1, zI K 10 ff19), (a5, zI K 900 f5), (a6, zI K 900 f6), (a7, zI K 900 f7), (a8, zI K 900 f8), (a9, zI K 60000 f9), (a10, zI K 16 f10), (a11, zI K 210000 f11), (a12, zI K 210000 f12), (a13, zI K 60000 f13), (a14, zI K 60000 f14), (a15, zI K 60000 f15), (a16, zI K 60000 f16), (a17, zI K 60000 f17), (a18, zI K 60000 f18), (a0, zO 10 83 gg36), (a2, zI K 1290 ff28), (a3, zI K 1290 ff30), (a4, zI K 1290 ff32)] := hD
  refine lv_aload_n hx hb dX12_begins_64 rfl (lv_at hl 1 rfl) ?_
  refine lv_iconst (v := 0) hx hb dX12_begins_65 (by decide) ?_
  refine z_put hx hb hg hown hK hP hD hS i_X12 rfl tyX12_ok nmX12 15 rfl 72 (by decide) mt1352 rfl rfl rfl dX12_begins_66 (fun gg38 H locs y39 hP hD hS => ?_)
  have hP : va_P K.1 classes [(a1, zI K 10 ff19), (a5, zI K 900 f5), (a6, zI K 900 f6), (a7, zI K 900 f7), (a8, zI K 900 f8), (a9, zI K 60000 f9), (a10, zI K 16 f10), (a11, zI K 210000 f11), (a12, zI K 210000 f12), (a13, zI K 60000 f13), (a14, zI K 60000 f14), (a15, zI K 60000 f15), (a16, zI K 60000 f16), (a17, zI K 60000 f17), (a18, zI K 60000 f18), (a0, zO 10 83 gg38), (a2, zI K 1290 ff28), (a3, zI K 1290 ff30), (a4, zI K 1290 ff32)] H := hP
  have hD : va_D A [(a1, zI K 10 ff19), (a5, zI K 900 f5), (a6, zI K 900 f6), (a7, zI K 900 f7), (a8, zI K 900 f8), (a9, zI K 60000 f9), (a10, zI K 16 f10), (a11, zI K 210000 f11), (a12, zI K 210000 f12), (a13, zI K 60000 f13), (a14, zI K 60000 f14), (a15, zI K 60000 f15), (a16, zI K 60000 f16), (a17, zI K 60000 f17), (a18, zI K 60000 f18), (a0, zO 10 83 gg38), (a2, zI K 1290 ff28), (a3, zI K 1290 ff30), (a4, zI K 1290 ff32)] := hD
  refine lv_aload_n hx hb dX12_begins_69 rfl (lv_at hl 1 rfl) ?_
  refine lv_iconst (v := 0) hx hb dX12_begins_70 (by decide) ?_
  refine z_put hx hb hg hown hK hP hD hS i_X12 rfl tyX12_ok nmX12 15 rfl 77 (by decide) mt1357 rfl rfl rfl dX12_begins_71 (fun gg40 H locs y41 hP hD hS => ?_)
  have hP : va_P K.1 classes [(a1, zI K 10 ff19), (a5, zI K 900 f5), (a6, zI K 900 f6), (a7, zI K 900 f7), (a8, zI K 900 f8), (a9, zI K 60000 f9), (a10, zI K 16 f10), (a11, zI K 210000 f11), (a12, zI K 210000 f12), (a13, zI K 60000 f13), (a14, zI K 60000 f14), (a15, zI K 60000 f15), (a16, zI K 60000 f16), (a17, zI K 60000 f17), (a18, zI K 60000 f18), (a0, zO 10 83 gg40), (a2, zI K 1290 ff28), (a3, zI K 1290 ff30), (a4, zI K 1290 ff32)] H := hP
  have hD : va_D A [(a1, zI K 10 ff19), (a5, zI K 900 f5), (a6, zI K 900 f6), (a7, zI K 900 f7), (a8, zI K 900 f8), (a9, zI K 60000 f9), (a10, zI K 16 f10), (a11, zI K 210000 f11), (a12, zI K 210000 f12), (a13, zI K 60000 f13), (a14, zI K 60000 f14), (a15, zI K 60000 f15), (a16, zI K 60000 f16), (a17, zI K 60000 f17), (a18, zI K 60000 f18), (a0, zO 10 83 gg40), (a2, zI K 1290 ff28), (a3, zI K 1290 ff30), (a4, zI K 1290 ff32)] := hD
  refine lv_aload_n hx hb dX12_begins_74 rfl (lv_at hl 1 rfl) ?_
  refine lv_sipush (v := 1280) hx hb dX12_begins_75 (by decide) ?_
  refine lv_iconst (v := (-1)) hx hb dX12_begins_78 (by decide) ?_
  refine lv_iconst (v := 0) hx hb dX12_begins_79 (by decide) ?_
  refine z_callv [(a0, zO 10 83 gg40)] [(a1, zI K 10 ff19), (a5, zI K 900 f5), (a6, zI K 900 f6), (a7, zI K 900 f7), (a8, zI K 900 f8), (a9, zI K 60000 f9), (a10, zI K 16 f10), (a11, zI K 210000 f11), (a12, zI K 210000 f12), (a13, zI K 60000 f13), (a14, zI K 60000 f14), (a15, zI K 60000 f15), (a16, zI K 60000 f16), (a17, zI K 60000 f17), (a18, zI K 60000 f18), (a2, zI K 1290 ff28), (a3, zI K 1290 ff30), (a4, zI K 1290 ff32)] [15] [0, 1, 2, 3, 4, 5, 6, 7, 8, 9, 10, 11, 12, 13, 14, 16, 17, 18] hP hD hS hA rfl rfl (by decide) (by decide) (by decide +kernel) 0 0 rfl rfl (fun hPc hDc hF => z_runV (As := [.int 1280, .int (-1), .int 0]) (rest := []) ⟨hx, hb, hml, hown, hg⟩ (cX12_goesOn_1 l K H.size a0 gg40) kV_RX12_404 hd_X12_goesOn rfl rfl ⟨(Nat.le_of_ble_eq_true rfl), (Nat.le_of_ble_eq_true rfl)⟩ hK hS hZ hPc hDc hF 0 rfl rfl rfl hl.1 rfl (Nat.le_of_ble_eq_true rfl) dX12_begins_80 ⟨(Nat.le_of_ble_eq_true rfl), (Nat.le_of_ble_eq_true rfl)⟩) (fun u42 H locs w43 hP hD hS => ?_)
  have hP : va_P K.1 classes [(a1, zI K 10 ff19), (a5, zI K 900 f5), (a6, zI K 900 f6), (a7, zI K 900 f7), (a8, zI K 900 f8), (a9, zI K 60000 f9), (a10, zI K 16 f10), (a11, zI K 210000 f11), (a12, zI K 210000 f12), (a13, zI K 60000 f13), (a14, zI K 60000 f14), (a15, zI K 60000 f15), (a16, zI K 60000 f16), (a17, zI K 60000 f17), (a18, zI K 60000 f18), (a2, zI K 1290 ff28), (a3, zI K 1290 ff30), (a4, zI K 1290 ff32), (a0, zO 10 83 (va_up (va_up (va_up (va_up gg40 62 (.int 1280)) 63 (.int (-1))) 64 (.int 0)) 65 (.int 0)))] H := hP
  have hD : va_D A [(a1, zI K 10 ff19), (a5, zI K 900 f5), (a6, zI K 900 f6), (a7, zI K 900 f7), (a8, zI K 900 f8), (a9, zI K 60000 f9), (a10, zI K 16 f10), (a11, zI K 210000 f11), (a12, zI K 210000 f12), (a13, zI K 60000 f13), (a14, zI K 60000 f14), (a15, zI K 60000 f15), (a16, zI K 60000 f16), (a17, zI K 60000 f17), (a18, zI K 60000 f18), (a2, zI K 1290 ff28), (a3, zI K 1290 ff30), (a4, zI K 1290 ff32), (a0, zO 10 83 (va_up (va_up (va_up (va_up gg40 62 (.int 1280)) 63 (.int (-1))) 64 (.int 0)) 65 (.int 0)))] := hD
  obtain ⟨gg45, y46⟩ : ∃ z, z = ((va_up (va_up (va_up (va_up gg40 62 (.int 1280)) 63 (.int (-1))) 64 (.int 0)) 65 (.int 0)) : Nat → Value) := ⟨_, rfl⟩
  rw [← y46] at hP hD
  refine lv_aload_n hx hb dX12_begins_83 rfl (lv_at hl 1 rfl) ?_
  refine z_callv [(a0, zO 10 83 gg45), (a1, zI K 10 ff19), (a2, zI K 1290 ff28), (a5, zI K 900 f5), (a6, zI K 900 f6), (a7, zI K 900 f7), (a8, zI K 900 f8), (a3, zI K 1290 ff30), (a9, zI K 60000 f9), (a10, zI K 16 f10)] [(a11, zI K 210000 f11), (a12, zI K 210000 f12), (a13, zI K 60000 f13), (a14, zI K 60000 f14), (a15, zI K 60000 f15), (a16, zI K 60000 f16), (a17, zI K 60000 f17), (a18, zI K 60000 f18), (a4, zI K 1290 ff32)] [18, 0, 15, 1, 2, 3, 4, 16, 5, 6] [7, 8, 9, 10, 11, 12, 13, 14, 17] hP hD hS hA rfl rfl (by decide) (by decide) (by decide +kernel) 0 0 rfl rfl (fun hPc hDc hF => z_runV (As := []) (rest := []) ⟨hx, hb, hml, hown, hg⟩ (cX12_finds_9 l K H.size a0 a1 a2 a5 a6 a7 a8 a3 a9 a10 gg45 ff19 ff28 f5 f6 f7 f8 ff30 f9 f10 j0 hj0 (zu_of y46 (zu_ne (by decide) (zu_ne (by decide) (zu_ne (by decide) (zu_ne (by decide) (zu_of y41 (zu_ne (by decide) (zu_of y39 zu_eq)))))))) (zu_of y46 zu_eq) (zu_of y46 (zu_ne (by decide) (zu_ne (by decide) (zu_ne (by decide) (zu_ne (by decide) (zu_of y41 (zu_ne (by decide) (zu_of y39 (zu_ne (by decide) (zu_of y37 (zu_ne (by decide) (zu_of y35 zu_eq)))))))))))) (zu_of y46 (zu_ne (by decide) (zu_ne (by decide) (zu_ne (by decide) (zu_ne (by decide) (zu_of y41 (zu_ne (by decide) (zu_of y39 (zu_ne (by decide) (zu_of y37 zu_eq)))))))))) (zu_of y46 (zu_ne (by decide) (zu_ne (by decide) (zu_ne (by decide) (zu_ne (by decide) (zu_of y41 (zu_ne (by decide) (zu_of y39 (zu_ne (by decide) (zu_of y37 (zu_ne (by decide) (zu_of y35 (zu_ne (by decide) (zu_of y24 (zu_ne (by decide) (zu_of y22 (zu_ne (by decide) e4))))))))))))))))) (zu_of y46 (zu_ne (by decide) (zu_ne (by decide) (zu_ne (by decide) (zu_ne (by decide) (zu_of y41 (zu_ne (by decide) (zu_of y39 (zu_ne (by decide) (zu_of y37 (zu_ne (by decide) (zu_of y35 (zu_ne (by decide) (zu_of y24 (zu_ne (by decide) (zu_of y22 (zu_ne (by decide) e5))))))))))))))))) (zu_of y46 (zu_ne (by decide) (zu_ne (by decide) (zu_ne (by decide) (zu_ne (by decide) (zu_of y41 (zu_ne (by decide) (zu_of y39 (zu_ne (by decide) (zu_of y37 (zu_ne (by decide) (zu_of y35 (zu_ne (by decide) (zu_of y24 (zu_ne (by decide) (zu_of y22 (zu_ne (by decide) e0))))))))))))))))) (zu_of y46 (zu_ne (by decide) zu_eq)) (zu_of y20 (zu_ne (by decide) (zu_of y18 (zu_ne (by decide) (zu_of y16 (zu_ne (by decide) (zu_of y14 zu_eq))))))) (zu_of y46 (zu_ne (by decide) (zu_ne (by decide) (zu_ne (by decide) (zu_ne (by decide) (zu_of y41 (zu_ne (by decide) (zu_of y39 (zu_ne (by decide) (zu_of y37 (zu_ne (by decide) (zu_of y35 (zu_ne (by decide) (zu_of y24 (zu_ne (by decide) (zu_of y22 (zu_ne (by decide) e1))))))))))))))))) (zu_of y46 (zu_ne (by decide) (zu_ne (by decide) (zu_ne (by decide) zu_eq)))) (zu_of y29 (zu_ne (by decide) (zu_ne (by decide) (zu_ne (by decide) (zu_ne (by decide) zu_eq))))) (zu_of y46 (zu_ne (by decide) (zu_ne (by decide) (zu_ne (by decide) (zu_ne (by decide) (zu_of y41 (zu_ne (by decide) (zu_of y39 (zu_ne (by decide) (zu_of y37 (zu_ne (by decide) (zu_of y35 (zu_ne (by decide) (zu_of y24 (zu_ne (by decide) (zu_of y22 (zu_ne (by decide) e6))))))))))))))))) (zu_of y46 (zu_ne (by decide) (zu_ne (by decide) (zu_ne (by decide) (zu_ne (by decide) (zu_of y41 (zu_ne (by decide) (zu_of y39 (zu_ne (by decide) (zu_of y37 (zu_ne (by decide) (zu_of y35 (zu_ne (by decide) (zu_of y24 (zu_ne (by decide) (zu_of y22 (zu_ne (by decide) e7))))))))))))))))) (zu_of y46 (zu_ne (by decide) (zu_ne (by decide) (zu_ne (by decide) (zu_ne (by decide) (zu_of y41 (zu_ne (by decide) (zu_of y39 (zu_ne (by decide) (zu_of y37 (zu_ne (by decide) (zu_of y35 (zu_ne (by decide) (zu_of y24 (zu_ne (by decide) (zu_of y22 (zu_ne (by decide) e8))))))))))))))))) (zu_of y46 (zu_ne (by decide) (zu_ne (by decide) zu_eq))) (zu_of y46 (zu_ne (by decide) (zu_ne (by decide) (zu_ne (by decide) (zu_ne (by decide) (zu_of y41 (zu_ne (by decide) (zu_of y39 (zu_ne (by decide) (zu_of y37 (zu_ne (by decide) (zu_of y35 (zu_ne (by decide) (zu_of y24 (zu_ne (by decide) (zu_of y22 (zu_ne (by decide) e9))))))))))))))))) (zu_of y29 (zu_ne (by decide) (zu_ne (by decide) (zu_ne (by decide) zu_eq)))) (zu_of y29 (zu_ne (by decide) (zu_ne (by decide) zu_eq))) (zu_of y46 (zu_ne (by decide) (zu_ne (by decide) (zu_ne (by decide) (zu_ne (by decide) (zu_of y41 (zu_ne (by decide) (zu_of y39 (zu_ne (by decide) (zu_of y37 (zu_ne (by decide) (zu_of y35 (zu_ne (by decide) (zu_of y24 zu_eq)))))))))))))) (zu_of y46 (zu_ne (by decide) (zu_ne (by decide) (zu_ne (by decide) (zu_ne (by decide) (zu_of y41 (zu_ne (by decide) (zu_of y39 (zu_ne (by decide) (zu_of y37 (zu_ne (by decide) (zu_of y35 (zu_ne (by decide) (zu_of y24 (zu_ne (by decide) (zu_of y22 (zu_ne (by decide) e2))))))))))))))))) (zu_of y31 (zu_ne (by decide) (zu_ne (by decide) zu_eq))) (zu_of y46 (zu_ne (by decide) (zu_ne (by decide) (zu_ne (by decide) (zu_ne (by decide) (zu_of y41 (zu_ne (by decide) (zu_of y39 (zu_ne (by decide) (zu_of y37 (zu_ne (by decide) (zu_of y35 (zu_ne (by decide) (zu_of y24 (zu_ne (by decide) (zu_of y22 (zu_ne (by decide) e10))))))))))))))))) e11 (zu_of y46 (zu_ne (by decide) (zu_ne (by decide) (zu_ne (by decide) (zu_ne (by decide) (zu_of y41 (zu_ne (by decide) (zu_of y39 (zu_ne (by decide) (zu_of y37 (zu_ne (by decide) (zu_of y35 (zu_ne (by decide) (zu_of y24 (zu_ne (by decide) (zu_of y22 (zu_ne (by decide) e12))))))))))))))))) e13) kV_RX12_479 hd_X12_finds rfl rfl ⟨(Nat.le_of_ble_eq_true rfl), (Nat.le_of_ble_eq_true rfl)⟩ hK hS hZ hPc hDc hF 0 rfl rfl rfl hl.1 rfl (Nat.le_of_ble_eq_true rfl) dX12_begins_84 ⟨(Nat.le_of_ble_eq_true rfl), (Nat.le_of_ble_eq_true rfl)⟩) (fun u47 H locs w48 hP hD hS => ?_)
  have hP : va_P K.1 classes [(a11, zI K 210000 f11), (a12, zI K 210000 f12), (a13, zI K 60000 f13), (a14, zI K 60000 f14), (a15, zI K 60000 f15), (a16, zI K 60000 f16), (a17, zI K 60000 f17), (a18, zI K 60000 f18), (a4, zI K 1290 ff32), (a0, zO 10 83 (va_up (va_up (va_up (va_up (va_up (va_up (va_up (va_up (va_up (va_up (va_up (va_up (va_up (va_up (va_up (va_up (va_up gg45 61 (.int (-1))) 58 (.int 1)) 72 (.int 1)) 62 (.int 1281)) 63 (.int (-1))) 64 (.int 0)) 65 (.int 0)) 58 (.int 2)) 72 (.int 2)) 62 (.int 1282)) 63 (.int (-1))) 64 (.int 0)) 65 (.int 0)) 58 (.int 3)) 61 (.int 5)) 72 (.int 1)) 72 (.int 0))), (a1, zI K 10 (va_up (va_up (va_up ff19 6 1) 6 2) 6 3)), (a2, zI K 1290 ff28), (a5, zI K 900 (va_up (va_up f5 0 4) 1 4)), (a6, zI K 900 (va_up (va_up f6 0 1280) 1 1281)), (a7, zI K 900 (va_up (va_up f7 0 (-1)) 1 (-1))), (a8, zI K 900 (va_up (va_up f8 0 0) 1 0)), (a3, zI K 1290 ff30), (a9, zI K 60000 f9), (a10, zI K 16 f10)] H := hP
  have hD : va_D A [(a11, zI K 210000 f11), (a12, zI K 210000 f12), (a13, zI K 60000 f13), (a14, zI K 60000 f14), (a15, zI K 60000 f15), (a16, zI K 60000 f16), (a17, zI K 60000 f17), (a18, zI K 60000 f18), (a4, zI K 1290 ff32), (a0, zO 10 83 (va_up (va_up (va_up (va_up (va_up (va_up (va_up (va_up (va_up (va_up (va_up (va_up (va_up (va_up (va_up (va_up (va_up gg45 61 (.int (-1))) 58 (.int 1)) 72 (.int 1)) 62 (.int 1281)) 63 (.int (-1))) 64 (.int 0)) 65 (.int 0)) 58 (.int 2)) 72 (.int 2)) 62 (.int 1282)) 63 (.int (-1))) 64 (.int 0)) 65 (.int 0)) 58 (.int 3)) 61 (.int 5)) 72 (.int 1)) 72 (.int 0))), (a1, zI K 10 (va_up (va_up (va_up ff19 6 1) 6 2) 6 3)), (a2, zI K 1290 ff28), (a5, zI K 900 (va_up (va_up f5 0 4) 1 4)), (a6, zI K 900 (va_up (va_up f6 0 1280) 1 1281)), (a7, zI K 900 (va_up (va_up f7 0 (-1)) 1 (-1))), (a8, zI K 900 (va_up (va_up f8 0 0) 1 0)), (a3, zI K 1290 ff30), (a9, zI K 60000 f9), (a10, zI K 16 f10)] := hD
  obtain ⟨gg50, y51⟩ : ∃ z, z = ((va_up (va_up (va_up (va_up (va_up (va_up (va_up (va_up (va_up (va_up (va_up (va_up (va_up (va_up (va_up (va_up (va_up gg45 61 (.int (-1))) 58 (.int 1)) 72 (.int 1)) 62 (.int 1281)) 63 (.int (-1))) 64 (.int 0)) 65 (.int 0)) 58 (.int 2)) 72 (.int 2)) 62 (.int 1282)) 63 (.int (-1))) 64 (.int 0)) 65 (.int 0)) 58 (.int 3)) 61 (.int 5)) 72 (.int 1)) 72 (.int 0)) : Nat → Value) := ⟨_, rfl⟩
  rw [← y51] at hP hD
  obtain ⟨ff52, y53⟩ : ∃ z, z = ((va_up (va_up (va_up ff19 6 1) 6 2) 6 3) : Nat → Int32) := ⟨_, rfl⟩
  rw [← y53] at hP hD
  obtain ⟨ff54, y55⟩ : ∃ z, z = ((va_up (va_up f5 0 4) 1 4) : Nat → Int32) := ⟨_, rfl⟩
  rw [← y55] at hP hD
  obtain ⟨ff56, y57⟩ : ∃ z, z = ((va_up (va_up f6 0 1280) 1 1281) : Nat → Int32) := ⟨_, rfl⟩
  rw [← y57] at hP hD
  obtain ⟨ff58, y59⟩ : ∃ z, z = ((va_up (va_up f7 0 (-1)) 1 (-1)) : Nat → Int32) := ⟨_, rfl⟩
  rw [← y59] at hP hD
  obtain ⟨ff60, y61⟩ : ∃ z, z = ((va_up (va_up f8 0 0) 1 0) : Nat → Int32) := ⟨_, rfl⟩
  rw [← y61] at hP hD
  refine lv_aload_n hx hb dX12_begins_87 rfl (lv_at hl 1 rfl) ?_
  refine z_get (v := .ref a1) hx hb hg hown hK hP i_X12 rfl 9 rfl 80 (by decide) mt1360 (zu_of y51 (zu_ne (by decide) (zu_ne (by decide) (zu_ne (by decide) (zu_ne (by decide) (zu_ne (by decide) (zu_ne (by decide) (zu_ne (by decide) (zu_ne (by decide) (zu_ne (by decide) (zu_ne (by decide) (zu_ne (by decide) (zu_ne (by decide) (zu_ne (by decide) (zu_ne (by decide) (zu_ne (by decide) (zu_ne (by decide) (zu_ne (by decide) (zu_of y46 (zu_ne (by decide) (zu_ne (by decide) (zu_ne (by decide) (zu_ne (by decide) (zu_of y41 (zu_ne (by decide) (zu_of y39 (zu_ne (by decide) (zu_of y37 (zu_ne (by decide) (zu_of y35 (zu_ne (by decide) (zu_of y24 (zu_ne (by decide) (zu_of y22 (zu_ne (by decide) e0))))))))))))))))))))))))))))))))))) dX12_begins_88 ?_
  refine lv_iconst (v := 0) hx hb dX12_begins_91 (by decide) ?_
  refine lv_aload_n hx hb dX12_begins_92 rfl (lv_at hl 1 rfl) ?_
  refine z_get (v := .int 3) hx hb hg hown hK hP i_X12 rfl 9 rfl 58 (by decide) mt1338 (zu_of y51 (zu_ne (by decide) (zu_ne (by decide) (zu_ne (by decide) zu_eq)))) dX12_begins_93 ?_
  refine z_iast (j := 0) hx hb hK hP hD hS 10 rfl rfl (Nat.le_of_ble_eq_true rfl) (Nat.le_of_ble_eq_true rfl) dX12_begins_96 (fun ff62 H locs y63 hP hD hS => ?_)
  have hP : va_P K.1 classes [(a11, zI K 210000 f11), (a12, zI K 210000 f12), (a13, zI K 60000 f13), (a14, zI K 60000 f14), (a15, zI K 60000 f15), (a16, zI K 60000 f16), (a17, zI K 60000 f17), (a18, zI K 60000 f18), (a4, zI K 1290 ff32), (a0, zO 10 83 gg50), (a1, zI K 10 ff62), (a2, zI K 1290 ff28), (a5, zI K 900 ff54), (a6, zI K 900 ff56), (a7, zI K 900 ff58), (a8, zI K 900 ff60), (a3, zI K 1290 ff30), (a9, zI K 60000 f9), (a10, zI K 16 f10)] H := hP
  have hD : va_D A [(a11, zI K 210000 f11), (a12, zI K 210000 f12), (a13, zI K 60000 f13), (a14, zI K 60000 f14), (a15, zI K 60000 f15), (a16, zI K 60000 f16), (a17, zI K 60000 f17), (a18, zI K 60000 f18), (a4, zI K 1290 ff32), (a0, zO 10 83 gg50), (a1, zI K 10 ff62), (a2, zI K 1290 ff28), (a5, zI K 900 ff54), (a6, zI K 900 ff56), (a7, zI K 900 ff58), (a8, zI K 900 ff60), (a3, zI K 1290 ff30), (a9, zI K 60000 f9), (a10, zI K 16 f10)] := hD
  refine lv_aload_n hx hb dX12_begins_97 rfl (lv_at hl 1 rfl) ?_
  refine z_get (v := .int 5) hx hb hg hown hK hP i_X12 rfl 9 rfl 61 (by decide) mt1341 (zu_of y51 (zu_ne (by decide) (zu_ne (by decide) zu_eq))) dX12_begins_98 ?_
  refine lv_iconst (v := (-1)) hx hb dX12_begins_101 (by decide) ?_
  refine lv_icmp_ne (tgt := 112) hx hb dX12_begins_102 (by decide) (fun _ => ?_) (fun c => absurd c (by decide))
  refine lv_aload_n hx hb dX12_begins_112 rfl (lv_at hl 1 rfl) ?_
  refine z_get (v := .int 5) hx hb hg hown hK hP i_X12 rfl 9 rfl 61 (by decide) mt1341 (zu_of y51 (zu_ne (by decide) (zu_ne (by decide) zu_eq))) dX12_begins_113 ?_
  refine lv_istore (lv' := [(6, .int 5), (0, .ref a0), (1, .int (nI j0)), (2, .int 2), (3, .int x1), (4, .int x2), (5, .int 0)]) hx hb dX12_begins_116 hl (by decide) rfl (fun ls hl => ?_)
  refine lv_aload_n hx hb dX12_begins_118 rfl (lv_at hl 1 rfl) ?_
  refine z_get (v := .int 5) hx hb hg hown hK hP i_X12 rfl 9 rfl 61 (by decide) mt1341 (zu_of y51 (zu_ne (by decide) (zu_ne (by decide) zu_eq))) dX12_begins_119 ?_
  refine lv_iconst (v := (-1)) hx hb dX12_begins_122 (by decide) ?_
  refine lv_icmp_ne (tgt := 182) hx hb dX12_begins_123 (by decide) (fun _ => ?_) (fun c => absurd c (by decide))
  refine lv_aload_n hx hb dX12_begins_182 rfl (lv_at hl 1 rfl) ?_
  refine z_callv [(a0, zO 10 83 gg50), (a11, zI K 210000 f11), (a12, zI K 210000 f12), (a9, zI K 60000 f9), (a13, zI K 60000 f13), (a14, zI K 60000 f14), (a15, zI K 60000 f15), (a16, zI K 60000 f16), (a17, zI K 60000 f17), (a18, zI K 60000 f18)] [(a4, zI K 1290 ff32), (a1, zI K 10 ff62), (a2, zI K 1290 ff28), (a5, zI K 900 ff54), (a6, zI K 900 ff56), (a7, zI K 900 ff58), (a8, zI K 900 ff60), (a3, zI K 1290 ff30), (a10, zI K 16 f10)] [9, 0, 1, 17, 2, 3, 4, 5, 6, 7] [8, 10, 11, 12, 13, 14, 15, 16, 18] hP hD hS hA rfl rfl (by decide) (by decide) (by decide +kernel) 0 0 rfl rfl (fun hPc hDc hF => z_runV (As := []) (rest := []) ⟨hx, hb, hml, hown, hg⟩ (cX12_sweeps_1 l K H.size a0 a11 a12 a9 a13 a14 a15 a16 a17 a18 gg50 f11 f12 f9 f13 f14 f15 f16 f17 f18 (zu_of y51 (zu_ne (by decide) (zu_ne (by decide) (zu_ne (by decide) (zu_ne (by decide) (zu_ne (by decide) (zu_ne (by decide) (zu_ne (by decide) (zu_ne (by decide) (zu_ne (by decide) (zu_ne (by decide) (zu_ne (by decide) (zu_ne (by decide) (zu_ne (by decide) (zu_ne (by decide) (zu_ne (by decide) (zu_ne (by decide) (zu_ne (by decide) (zu_of y46 (zu_ne (by decide) (zu_ne (by decide) (zu_ne (by decide) (zu_ne (by decide) (zu_of y41 (zu_ne (by decide) (zu_of y39 (zu_ne (by decide) (zu_of y37 (zu_ne (by decide) (zu_of y35 (zu_ne (by decide) (zu_of y24 (zu_ne (by decide) (zu_of y22 (zu_ne (by decide) e14))))))))))))))))))))))))))))))))))) (zu_of y51 (zu_ne (by decide) (zu_ne (by decide) (zu_ne (by decide) (zu_ne (by decide) (zu_ne (by decide) (zu_ne (by decide) (zu_ne (by decide) (zu_ne (by decide) (zu_ne (by decide) (zu_ne (by decide) (zu_ne (by decide) (zu_ne (by decide) (zu_ne (by decide) (zu_ne (by decide) (zu_ne (by decide) (zu_ne (by decide) (zu_ne (by decide) (zu_of y46 (zu_ne (by decide) (zu_ne (by decide) (zu_ne (by decide) (zu_ne (by decide) (zu_of y41 (zu_ne (by decide) (zu_of y39 (zu_ne (by decide) (zu_of y37 (zu_ne (by decide) (zu_of y35 (zu_ne (by decide) (zu_of y24 (zu_ne (by decide) (zu_of y22 (zu_ne (by decide) e15))))))))))))))))))))))))))))))))))) (zu_of y51 (zu_ne (by decide) (zu_ne (by decide) (zu_ne (by decide) (zu_ne (by decide) (zu_ne (by decide) (zu_ne (by decide) (zu_ne (by decide) (zu_ne (by decide) (zu_ne (by decide) (zu_ne (by decide) (zu_ne (by decide) (zu_ne (by decide) (zu_ne (by decide) (zu_ne (by decide) (zu_ne (by decide) (zu_ne (by decide) (zu_ne (by decide) (zu_of y46 (zu_ne (by decide) (zu_ne (by decide) (zu_ne (by decide) (zu_ne (by decide) (zu_of y41 (zu_ne (by decide) (zu_of y39 (zu_ne (by decide) (zu_of y37 (zu_ne (by decide) (zu_of y35 (zu_ne (by decide) (zu_of y24 (zu_ne (by decide) (zu_of y22 (zu_ne (by decide) e16))))))))))))))))))))))))))))))))))) (zu_of y51 (zu_ne (by decide) (zu_ne (by decide) (zu_ne (by decide) (zu_ne (by decide) (zu_ne (by decide) (zu_ne (by decide) (zu_ne (by decide) (zu_ne (by decide) (zu_ne (by decide) (zu_ne (by decide) (zu_ne (by decide) (zu_ne (by decide) (zu_ne (by decide) (zu_ne (by decide) (zu_ne (by decide) (zu_ne (by decide) (zu_ne (by decide) (zu_of y46 (zu_ne (by decide) (zu_ne (by decide) (zu_ne (by decide) (zu_ne (by decide) (zu_of y41 (zu_ne (by decide) (zu_of y39 (zu_ne (by decide) (zu_of y37 (zu_ne (by decide) (zu_of y35 (zu_ne (by decide) (zu_of y24 (zu_ne (by decide) (zu_of y22 (zu_ne (by decide) e17))))))))))))))))))))))))))))))))))) (zu_of y51 (zu_ne (by decide) (zu_ne (by decide) (zu_ne (by decide) (zu_ne (by decide) (zu_ne (by decide) (zu_ne (by decide) (zu_ne (by decide) (zu_ne (by decide) (zu_ne (by decide) (zu_ne (by decide) (zu_ne (by decide) (zu_ne (by decide) (zu_ne (by decide) (zu_ne (by decide) (zu_ne (by decide) (zu_ne (by decide) (zu_ne (by decide) (zu_of y46 (zu_ne (by decide) (zu_ne (by decide) (zu_ne (by decide) (zu_ne (by decide) (zu_of y41 (zu_ne (by decide) (zu_of y39 (zu_ne (by decide) (zu_of y37 (zu_ne (by decide) (zu_of y35 (zu_ne (by decide) (zu_of y24 (zu_ne (by decide) (zu_of y22 (zu_ne (by decide) e18))))))))))))))))))))))))))))))))))) (zu_of y51 (zu_ne (by decide) (zu_ne (by decide) (zu_ne (by decide) (zu_ne (by decide) (zu_ne (by decide) (zu_ne (by decide) (zu_ne (by decide) (zu_ne (by decide) (zu_ne (by decide) (zu_ne (by decide) (zu_ne (by decide) (zu_ne (by decide) (zu_ne (by decide) (zu_ne (by decide) (zu_ne (by decide) (zu_ne (by decide) (zu_ne (by decide) (zu_of y46 (zu_ne (by decide) (zu_ne (by decide) (zu_ne (by decide) (zu_ne (by decide) (zu_of y41 (zu_ne (by decide) (zu_of y39 (zu_ne (by decide) (zu_of y37 (zu_ne (by decide) (zu_of y35 (zu_ne (by decide) (zu_of y24 (zu_ne (by decide) (zu_of y22 (zu_ne (by decide) e10))))))))))))))))))))))))))))))))))) (e11 15) (e11 14) (e11 13) (e11 12) (e11 11) (e11 10) (e11 9) (e11 8) (e11 7) (e11 6) (e11 5) (e11 4) (e11 3) (e11 2) (e11 1) (e11 0) (zu_of y51 (zu_ne (by decide) (zu_ne (by decide) (zu_ne (by decide) (zu_ne (by decide) (zu_ne (by decide) (zu_ne (by decide) (zu_ne (by decide) (zu_ne (by decide) (zu_ne (by decide) (zu_ne (by decide) (zu_ne (by decide) (zu_ne (by decide) (zu_ne (by decide) (zu_ne (by decide) (zu_ne (by decide) (zu_ne (by decide) (zu_ne (by decide) (zu_of y46 (zu_ne (by decide) (zu_ne (by decide) (zu_ne (by decide) (zu_ne (by decide) (zu_of y41 (zu_ne (by decide) (zu_of y39 (zu_ne (by decide) (zu_of y37 (zu_ne (by decide) (zu_of y35 (zu_ne (by decide) (zu_of y24 (zu_ne (by decide) (zu_of y22 (zu_ne (by decide) e19))))))))))))))))))))))))))))))))))) e20 (zu_of y51 (zu_ne (by decide) (zu_ne (by decide) (zu_ne (by decide) (zu_ne (by decide) (zu_ne (by decide) (zu_ne (by decide) (zu_ne (by decide) (zu_ne (by decide) (zu_ne (by decide) (zu_ne (by decide) (zu_ne (by decide) (zu_ne (by decide) (zu_ne (by decide) (zu_ne (by decide) (zu_ne (by decide) (zu_ne (by decide) (zu_ne (by decide) (zu_of y46 (zu_ne (by decide) (zu_ne (by decide) (zu_ne (by decide) (zu_ne (by decide) (zu_of y41 (zu_ne (by decide) (zu_of y39 (zu_ne (by decide) (zu_of y37 (zu_ne (by decide) (zu_of y35 (zu_ne (by decide) (zu_of y24 (zu_ne (by decide) (zu_of y22 (zu_ne (by decide) e21))))))))))))))))))))))))))))))))))) (zu_of y51 (zu_ne (by decide) (zu_ne (by decide) (zu_ne (by decide) (zu_ne (by decide) (zu_ne (by decide) (zu_ne (by decide) (zu_ne (by decide) (zu_ne (by decide) (zu_ne (by decide) (zu_ne (by decide) (zu_ne (by decide) (zu_ne (by decide) (zu_ne (by decide) (zu_ne (by decide) (zu_ne (by decide) (zu_ne (by decide) (zu_ne (by decide) (zu_of y46 (zu_ne (by decide) (zu_ne (by decide) (zu_ne (by decide) (zu_ne (by decide) (zu_of y41 (zu_ne (by decide) (zu_of y39 (zu_ne (by decide) (zu_of y37 (zu_ne (by decide) (zu_of y35 (zu_ne (by decide) (zu_of y24 (zu_ne (by decide) (zu_of y22 (zu_ne (by decide) e22))))))))))))))))))))))))))))))))))) (zu_of y51 (zu_ne (by decide) (zu_ne (by decide) (zu_ne (by decide) (zu_ne (by decide) (zu_ne (by decide) (zu_ne (by decide) (zu_ne (by decide) (zu_ne (by decide) (zu_ne (by decide) (zu_ne (by decide) (zu_ne (by decide) (zu_ne (by decide) (zu_ne (by decide) (zu_ne (by decide) (zu_ne (by decide) (zu_ne (by decide) (zu_ne (by decide) (zu_of y46 (zu_ne (by decide) (zu_ne (by decide) (zu_ne (by decide) (zu_ne (by decide) (zu_of y41 (zu_ne (by decide) (zu_of y39 (zu_ne (by decide) (zu_of y37 (zu_ne (by decide) (zu_of y35 (zu_ne (by decide) (zu_of y24 (zu_ne (by decide) (zu_of y22 (zu_ne (by decide) e23))))))))))))))))))))))))))))))))))) e24 (zu_of y51 (zu_ne (by decide) (zu_ne (by decide) (zu_ne (by decide) (zu_ne (by decide) (zu_ne (by decide) (zu_ne (by decide) (zu_ne (by decide) (zu_ne (by decide) (zu_ne (by decide) (zu_ne (by decide) (zu_ne (by decide) (zu_ne (by decide) (zu_ne (by decide) (zu_ne (by decide) (zu_ne (by decide) (zu_ne (by decide) (zu_ne (by decide) (zu_of y46 (zu_ne (by decide) (zu_ne (by decide) (zu_ne (by decide) (zu_ne (by decide) (zu_of y41 (zu_ne (by decide) (zu_of y39 (zu_ne (by decide) (zu_of y37 (zu_ne (by decide) (zu_of y35 (zu_ne (by decide) (zu_of y24 (zu_ne (by decide) (zu_of y22 (zu_ne (by decide) e25))))))))))))))))))))))))))))))))))) (zu_of y51 (zu_ne (by decide) (zu_ne (by decide) (zu_ne (by decide) (zu_ne (by decide) (zu_ne (by decide) (zu_ne (by decide) (zu_ne (by decide) (zu_ne (by decide) (zu_ne (by decide) (zu_ne (by decide) (zu_ne (by decide) (zu_ne (by decide) (zu_ne (by decide) (zu_ne (by decide) (zu_ne (by decide) (zu_ne (by decide) (zu_ne (by decide) (zu_of y46 (zu_ne (by decide) (zu_ne (by decide) (zu_ne (by decide) (zu_ne (by decide) (zu_of y41 (zu_ne (by decide) (zu_of y39 (zu_ne (by decide) (zu_of y37 (zu_ne (by decide) (zu_of y35 (zu_ne (by decide) (zu_of y24 (zu_ne (by decide) (zu_of y22 (zu_ne (by decide) e26))))))))))))))))))))))))))))))))))) e27 e28 e29 e30 e31 e32 e33 e34 e35 e36 e37 e38 e39 e40 e41 e42 e43 e44 e45 e46 e47 e48 e49 e50 e51 e52 e53 e54 e55 e56 e57 e58 e59 e60 e61 e62 e63 e64 e65 e66 e67 e68 e69 e70 e71 e72) kV_RX12_489 hd_X12_sweeps rfl rfl ⟨(Nat.le_of_ble_eq_true rfl), (Nat.le_of_ble_eq_true rfl)⟩ hK hS hZ hPc hDc hF 0 rfl rfl rfl hl.1 rfl (Nat.le_of_ble_eq_true rfl) dX12_begins_183 ⟨(Nat.le_of_ble_eq_true rfl), (Nat.le_of_ble_eq_true rfl)⟩) (fun u64 H locs w65 hP hD hS => ?_)
  have hP : va_P K.1 classes [(a4, zI K 1290 ff32), (a1, zI K 10 ff62), (a2, zI K 1290 ff28), (a5, zI K 900 ff54), (a6, zI K 900 ff56), (a7, zI K 900 ff58), (a8, zI K 900 ff60), (a3, zI K 1290 ff30), (a10, zI K 16 f10), (a0, zO 10 83 (va_up (va_up (va_up (va_up (va_up (va_up (va_up (va_up (va_up (va_up (va_up (va_up (va_up (va_up (va_up (va_up (va_up (va_up (va_up (va_up (va_up (va_up (va_up (va_up (va_up (va_up (va_up (va_up (va_up (va_up (va_up (va_up (va_up (va_up (va_up (va_up gg50 54 (.int 0)) 54 (.int 1)) 54 (.int 2)) 54 (.int 3)) 54 (.int 4)) 54 (.int 5)) 54 (.int 6)) 54 (.int 7)) 54 (.int 8)) 54 (.int 9)) 54 (.int 10)) 54 (.int 11)) 54 (.int 12)) 54 (.int 13)) 54 (.int 14)) 54 (.int 15)) 54 (.int 16)) 54 (.int 15)) 54 (.int 14)) 54 (.int 13)) 54 (.int 12)) 54 (.int 11)) 54 (.int 10)) 54 (.int 9)) 54 (.int 8)) 54 (.int 7)) 54 (.int 6)) 54 (.int 5)) 54 (.int 4)) 54 (.int 3)) 54 (.int 2)) 54 (.int 1)) 54 (.int 0)) 32 (.int 16)) 40 (.int 0)) 46 (.int 0))), (a11, zI K 210000 (va_up (va_up (va_up (va_up (va_up (va_up (va_up (va_up (va_up (va_up (va_up (va_up (va_up (va_up (va_up (va_up (va_up (va_up (va_up (va_up (va_up (va_up (va_up (va_up (va_up (va_up (va_up (va_up (va_up (va_up (va_up (va_up (va_up (va_up (va_up (va_up (va_up (va_up (va_up (va_up (va_up (va_up (va_up (va_up (va_up (va_up (va_up (va_up f11 0 (-1)) 1 (-1)) 2 (-1)) 3 (-1)) 4 (-1)) 5 (-1)) 6 (-1)) 7 (-1)) 8 (-1)) 9 (-1)) 10 (-1)) 11 (-1)) 12 (-1)) 13 (-1)) 14 (-1)) 15 (-1)) 0 0) 1 0) 2 0) 3 0) 4 0) 5 0) 6 0) 7 0) 8 0) 9 0) 10 0) 11 0) 12 0) 13 0) 14 0) 15 0) 0 0) 1 1) 2 2) 3 3) 4 4) 5 5) 6 6) 7 7) 8 8) 9 9) 10 10) 11 11) 12 12) 13 13) 14 14) 15 15)), (a12, zI K 210000 (va_up (va_up (va_up (va_up (va_up (va_up (va_up (va_up (va_up (va_up (va_up (va_up (va_up (va_up (va_up (va_up f12 0 0) 1 1) 2 2) 3 3) 4 4) 5 5) 6 6) 7 7) 8 8) 9 9) 10 10) 11 11) 12 12) 13 13) 14 14) 15 15)), (a9, zI K 60000 (va_up (va_up (va_up (va_up (va_up (va_up (va_up (va_up (va_up (va_up (va_up (va_up (va_up (va_up (va_up (va_up f9 0 0) 1 0) 2 0) 3 0) 4 0) 5 0) 6 0) 7 0) 8 0) 9 0) 10 0) 11 0) 12 0) 13 0) 14 0) 15 0)), (a13, zI K 60000 (va_up (va_up (va_up (va_up (va_up (va_up (va_up (va_up (va_up (va_up (va_up (va_up (va_up (va_up (va_up (va_up f13 0 0) 1 0) 2 0) 3 0) 4 0) 5 0) 6 0) 7 0) 8 0) 9 0) 10 0) 11 0) 12 0) 13 0) 14 0) 15 0)), (a14, zI K 60000 (va_up (va_up (va_up (va_up (va_up (va_up (va_up (va_up (va_up (va_up (va_up (va_up (va_up (va_up (va_up (va_up f14 0 0) 1 0) 2 0) 3 0) 4 0) 5 0) 6 0) 7 0) 8 0) 9 0) 10 0) 11 0) 12 0) 13 0) 14 0) 15 0)), (a15, zI K 60000 (va_up (va_up (va_up (va_up (va_up (va_up (va_up (va_up (va_up (va_up (va_up (va_up (va_up (va_up (va_up (va_up f15 0 0) 1 0) 2 0) 3 0) 4 0) 5 0) 6 0) 7 0) 8 0) 9 0) 10 0) 11 0) 12 0) 13 0) 14 0) 15 0)), (a16, zI K 60000 (va_up (va_up (va_up (va_up (va_up (va_up (va_up (va_up (va_up (va_up (va_up (va_up (va_up (va_up (va_up (va_up f16 0 0) 1 0) 2 0) 3 0) 4 0) 5 0) 6 0) 7 0) 8 0) 9 0) 10 0) 11 0) 12 0) 13 0) 14 0) 15 0)), (a17, zI K 60000 (va_up (va_up (va_up (va_up (va_up (va_up (va_up (va_up (va_up (va_up (va_up (va_up (va_up (va_up (va_up (va_up f17 0 (-1)) 1 (-1)) 2 (-1)) 3 (-1)) 4 (-1)) 5 (-1)) 6 (-1)) 7 (-1)) 8 (-1)) 9 (-1)) 10 (-1)) 11 (-1)) 12 (-1)) 13 (-1)) 14 (-1)) 15 (-1))), (a18, zI K 60000 (va_up (va_up (va_up (va_up (va_up (va_up (va_up (va_up (va_up (va_up (va_up (va_up (va_up (va_up (va_up (va_up f18 0 0) 1 0) 2 0) 3 0) 4 0) 5 0) 6 0) 7 0) 8 0) 9 0) 10 0) 11 0) 12 0) 13 0) 14 0) 15 0))] H := hP
  have hD : va_D A [(a4, zI K 1290 ff32), (a1, zI K 10 ff62), (a2, zI K 1290 ff28), (a5, zI K 900 ff54), (a6, zI K 900 ff56), (a7, zI K 900 ff58), (a8, zI K 900 ff60), (a3, zI K 1290 ff30), (a10, zI K 16 f10), (a0, zO 10 83 (va_up (va_up (va_up (va_up (va_up (va_up (va_up (va_up (va_up (va_up (va_up (va_up (va_up (va_up (va_up (va_up (va_up (va_up (va_up (va_up (va_up (va_up (va_up (va_up (va_up (va_up (va_up (va_up (va_up (va_up (va_up (va_up (va_up (va_up (va_up (va_up gg50 54 (.int 0)) 54 (.int 1)) 54 (.int 2)) 54 (.int 3)) 54 (.int 4)) 54 (.int 5)) 54 (.int 6)) 54 (.int 7)) 54 (.int 8)) 54 (.int 9)) 54 (.int 10)) 54 (.int 11)) 54 (.int 12)) 54 (.int 13)) 54 (.int 14)) 54 (.int 15)) 54 (.int 16)) 54 (.int 15)) 54 (.int 14)) 54 (.int 13)) 54 (.int 12)) 54 (.int 11)) 54 (.int 10)) 54 (.int 9)) 54 (.int 8)) 54 (.int 7)) 54 (.int 6)) 54 (.int 5)) 54 (.int 4)) 54 (.int 3)) 54 (.int 2)) 54 (.int 1)) 54 (.int 0)) 32 (.int 16)) 40 (.int 0)) 46 (.int 0))), (a11, zI K 210000 (va_up (va_up (va_up (va_up (va_up (va_up (va_up (va_up (va_up (va_up (va_up (va_up (va_up (va_up (va_up (va_up (va_up (va_up (va_up (va_up (va_up (va_up (va_up (va_up (va_up (va_up (va_up (va_up (va_up (va_up (va_up (va_up (va_up (va_up (va_up (va_up (va_up (va_up (va_up (va_up (va_up (va_up (va_up (va_up (va_up (va_up (va_up (va_up f11 0 (-1)) 1 (-1)) 2 (-1)) 3 (-1)) 4 (-1)) 5 (-1)) 6 (-1)) 7 (-1)) 8 (-1)) 9 (-1)) 10 (-1)) 11 (-1)) 12 (-1)) 13 (-1)) 14 (-1)) 15 (-1)) 0 0) 1 0) 2 0) 3 0) 4 0) 5 0) 6 0) 7 0) 8 0) 9 0) 10 0) 11 0) 12 0) 13 0) 14 0) 15 0) 0 0) 1 1) 2 2) 3 3) 4 4) 5 5) 6 6) 7 7) 8 8) 9 9) 10 10) 11 11) 12 12) 13 13) 14 14) 15 15)), (a12, zI K 210000 (va_up (va_up (va_up (va_up (va_up (va_up (va_up (va_up (va_up (va_up (va_up (va_up (va_up (va_up (va_up (va_up f12 0 0) 1 1) 2 2) 3 3) 4 4) 5 5) 6 6) 7 7) 8 8) 9 9) 10 10) 11 11) 12 12) 13 13) 14 14) 15 15)), (a9, zI K 60000 (va_up (va_up (va_up (va_up (va_up (va_up (va_up (va_up (va_up (va_up (va_up (va_up (va_up (va_up (va_up (va_up f9 0 0) 1 0) 2 0) 3 0) 4 0) 5 0) 6 0) 7 0) 8 0) 9 0) 10 0) 11 0) 12 0) 13 0) 14 0) 15 0)), (a13, zI K 60000 (va_up (va_up (va_up (va_up (va_up (va_up (va_up (va_up (va_up (va_up (va_up (va_up (va_up (va_up (va_up (va_up f13 0 0) 1 0) 2 0) 3 0) 4 0) 5 0) 6 0) 7 0) 8 0) 9 0) 10 0) 11 0) 12 0) 13 0) 14 0) 15 0)), (a14, zI K 60000 (va_up (va_up (va_up (va_up (va_up (va_up (va_up (va_up (va_up (va_up (va_up (va_up (va_up (va_up (va_up (va_up f14 0 0) 1 0) 2 0) 3 0) 4 0) 5 0) 6 0) 7 0) 8 0) 9 0) 10 0) 11 0) 12 0) 13 0) 14 0) 15 0)), (a15, zI K 60000 (va_up (va_up (va_up (va_up (va_up (va_up (va_up (va_up (va_up (va_up (va_up (va_up (va_up (va_up (va_up (va_up f15 0 0) 1 0) 2 0) 3 0) 4 0) 5 0) 6 0) 7 0) 8 0) 9 0) 10 0) 11 0) 12 0) 13 0) 14 0) 15 0)), (a16, zI K 60000 (va_up (va_up (va_up (va_up (va_up (va_up (va_up (va_up (va_up (va_up (va_up (va_up (va_up (va_up (va_up (va_up f16 0 0) 1 0) 2 0) 3 0) 4 0) 5 0) 6 0) 7 0) 8 0) 9 0) 10 0) 11 0) 12 0) 13 0) 14 0) 15 0)), (a17, zI K 60000 (va_up (va_up (va_up (va_up (va_up (va_up (va_up (va_up (va_up (va_up (va_up (va_up (va_up (va_up (va_up (va_up f17 0 (-1)) 1 (-1)) 2 (-1)) 3 (-1)) 4 (-1)) 5 (-1)) 6 (-1)) 7 (-1)) 8 (-1)) 9 (-1)) 10 (-1)) 11 (-1)) 12 (-1)) 13 (-1)) 14 (-1)) 15 (-1))), (a18, zI K 60000 (va_up (va_up (va_up (va_up (va_up (va_up (va_up (va_up (va_up (va_up (va_up (va_up (va_up (va_up (va_up (va_up f18 0 0) 1 0) 2 0) 3 0) 4 0) 5 0) 6 0) 7 0) 8 0) 9 0) 10 0) 11 0) 12 0) 13 0) 14 0) 15 0))] := hD
  obtain ⟨gg67, y68⟩ : ∃ z, z = ((va_up (va_up (va_up (va_up (va_up (va_up (va_up (va_up (va_up (va_up (va_up (va_up (va_up (va_up (va_up (va_up (va_up (va_up (va_up (va_up (va_up (va_up (va_up (va_up (va_up (va_up (va_up (va_up (va_up (va_up (va_up (va_up (va_up (va_up (va_up (va_up gg50 54 (.int 0)) 54 (.int 1)) 54 (.int 2)) 54 (.int 3)) 54 (.int 4)) 54 (.int 5)) 54 (.int 6)) 54 (.int 7)) 54 (.int 8)) 54 (.int 9)) 54 (.int 10)) 54 (.int 11)) 54 (.int 12)) 54 (.int 13)) 54 (.int 14)) 54 (.int 15)) 54 (.int 16)) 54 (.int 15)) 54 (.int 14)) 54 (.int 13)) 54 (.int 12)) 54 (.int 11)) 54 (.int 10)) 54 (.int 9)) 54 (.int 8)) 54 (.int 7)) 54 (.int 6)) 54 (.int 5)) 54 (.int 4)) 54 (.int 3)) 54 (.int 2)) 54 (.int 1)) 54 (.int 0)) 32 (.int 16)) 40 (.int 0)) 46 (.int 0)) : Nat → Value) := ⟨_, rfl⟩
  rw [← y68] at hP hD
  obtain ⟨ff69, y70⟩ : ∃ z, z = ((va_up (va_up (va_up (va_up (va_up (va_up (va_up (va_up (va_up (va_up (va_up (va_up (va_up (va_up (va_up (va_up (va_up (va_up (va_up (va_up (va_up (va_up (va_up (va_up (va_up (va_up (va_up (va_up (va_up (va_up (va_up (va_up (va_up (va_up (va_up (va_up (va_up (va_up (va_up (va_up (va_up (va_up (va_up (va_up (va_up (va_up (va_up (va_up f11 0 (-1)) 1 (-1)) 2 (-1)) 3 (-1)) 4 (-1)) 5 (-1)) 6 (-1)) 7 (-1)) 8 (-1)) 9 (-1)) 10 (-1)) 11 (-1)) 12 (-1)) 13 (-1)) 14 (-1)) 15 (-1)) 0 0) 1 0) 2 0) 3 0) 4 0) 5 0) 6 0) 7 0) 8 0) 9 0) 10 0) 11 0) 12 0) 13 0) 14 0) 15 0) 0 0) 1 1) 2 2) 3 3) 4 4) 5 5) 6 6) 7 7) 8 8) 9 9) 10 10) 11 11) 12 12) 13 13) 14 14) 15 15) : Nat → Int32) := ⟨_, rfl⟩
  rw [← y70] at hP hD
  obtain ⟨ff71, y72⟩ : ∃ z, z = ((va_up (va_up (va_up (va_up (va_up (va_up (va_up (va_up (va_up (va_up (va_up (va_up (va_up (va_up (va_up (va_up f12 0 0) 1 1) 2 2) 3 3) 4 4) 5 5) 6 6) 7 7) 8 8) 9 9) 10 10) 11 11) 12 12) 13 13) 14 14) 15 15) : Nat → Int32) := ⟨_, rfl⟩
  rw [← y72] at hP hD
  obtain ⟨ff73, y74⟩ : ∃ z, z = ((va_up (va_up (va_up (va_up (va_up (va_up (va_up (va_up (va_up (va_up (va_up (va_up (va_up (va_up (va_up (va_up f9 0 0) 1 0) 2 0) 3 0) 4 0) 5 0) 6 0) 7 0) 8 0) 9 0) 10 0) 11 0) 12 0) 13 0) 14 0) 15 0) : Nat → Int32) := ⟨_, rfl⟩
  rw [← y74] at hP hD
  obtain ⟨ff75, y76⟩ : ∃ z, z = ((va_up (va_up (va_up (va_up (va_up (va_up (va_up (va_up (va_up (va_up (va_up (va_up (va_up (va_up (va_up (va_up f13 0 0) 1 0) 2 0) 3 0) 4 0) 5 0) 6 0) 7 0) 8 0) 9 0) 10 0) 11 0) 12 0) 13 0) 14 0) 15 0) : Nat → Int32) := ⟨_, rfl⟩
  rw [← y76] at hP hD
  obtain ⟨ff77, y78⟩ : ∃ z, z = ((va_up (va_up (va_up (va_up (va_up (va_up (va_up (va_up (va_up (va_up (va_up (va_up (va_up (va_up (va_up (va_up f14 0 0) 1 0) 2 0) 3 0) 4 0) 5 0) 6 0) 7 0) 8 0) 9 0) 10 0) 11 0) 12 0) 13 0) 14 0) 15 0) : Nat → Int32) := ⟨_, rfl⟩
  rw [← y78] at hP hD
  obtain ⟨ff79, y80⟩ : ∃ z, z = ((va_up (va_up (va_up (va_up (va_up (va_up (va_up (va_up (va_up (va_up (va_up (va_up (va_up (va_up (va_up (va_up f15 0 0) 1 0) 2 0) 3 0) 4 0) 5 0) 6 0) 7 0) 8 0) 9 0) 10 0) 11 0) 12 0) 13 0) 14 0) 15 0) : Nat → Int32) := ⟨_, rfl⟩
  rw [← y80] at hP hD
  obtain ⟨ff81, y82⟩ : ∃ z, z = ((va_up (va_up (va_up (va_up (va_up (va_up (va_up (va_up (va_up (va_up (va_up (va_up (va_up (va_up (va_up (va_up f16 0 0) 1 0) 2 0) 3 0) 4 0) 5 0) 6 0) 7 0) 8 0) 9 0) 10 0) 11 0) 12 0) 13 0) 14 0) 15 0) : Nat → Int32) := ⟨_, rfl⟩
  rw [← y82] at hP hD
  obtain ⟨ff83, y84⟩ : ∃ z, z = ((va_up (va_up (va_up (va_up (va_up (va_up (va_up (va_up (va_up (va_up (va_up (va_up (va_up (va_up (va_up (va_up f17 0 (-1)) 1 (-1)) 2 (-1)) 3 (-1)) 4 (-1)) 5 (-1)) 6 (-1)) 7 (-1)) 8 (-1)) 9 (-1)) 10 (-1)) 11 (-1)) 12 (-1)) 13 (-1)) 14 (-1)) 15 (-1)) : Nat → Int32) := ⟨_, rfl⟩
  rw [← y84] at hP hD
  obtain ⟨ff85, y86⟩ : ∃ z, z = ((va_up (va_up (va_up (va_up (va_up (va_up (va_up (va_up (va_up (va_up (va_up (va_up (va_up (va_up (va_up (va_up f18 0 0) 1 0) 2 0) 3 0) 4 0) 5 0) 6 0) 7 0) 8 0) 9 0) 10 0) 11 0) 12 0) 13 0) 14 0) 15 0) : Nat → Int32) := ⟨_, rfl⟩
  rw [← y86] at hP hD
  refine lv_iload hx hb dX12_begins_186 (lv_at hl 0 rfl) ?_
  subst y86
  subst y84
  subst y82
  subst y80
  subst y78
  subst y76
  subst y74
  subst y72
  subst y70
  subst y68
  subst y63
  subst y61
  subst y59
  subst y57
  subst y55
  subst y53
  subst y51
  subst y46
  subst y41
  subst y39
  subst y37
  subst y35
  subst y33
  subst y31
  subst y29
  subst y24
  subst y22
  subst y20
  subst y18
  subst y16
  subst y14
  subst y12
  subst y10
  subst y8
  subst y6
  subst y4
  subst y2
  have hP9 : va_P K.1 classes [(a0, zO 10 83 (va_up (va_up (va_up (va_up (va_up (va_up (va_up (va_up (va_up (va_up (va_up (va_up (va_up (va_up (va_up (va_up (va_up (va_up (va_up (va_up (va_up (va_up (va_up (va_up (va_up (va_up (va_up (va_up (va_up (va_up (va_up (va_up (va_up (va_up (va_up (va_up (va_up (va_up (va_up (va_up (va_up (va_up (va_up (va_up (va_up (va_up (va_up (va_up (va_up (va_up (va_up (va_up (va_up (va_up (va_up (va_up (va_up (va_up (va_up (va_up (va_up (va_up (va_up g0 79 (.int 0)) 55 (.int 0)) 58 (.int 0)) 59 (.int 600)) 72 (.int 0)) 77 (.int 0)) 62 (.int 1280)) 63 (.int (-1))) 64 (.int 0)) 65 (.int 0)) 61 (.int (-1))) 58 (.int 1)) 72 (.int 1)) 62 (.int 1281)) 63 (.int (-1))) 64 (.int 0)) 65 (.int 0)) 58 (.int 2)) 72 (.int 2)) 62 (.int 1282)) 63 (.int (-1))) 64 (.int 0)) 65 (.int 0)) 58 (.int 3)) 61 (.int 5)) 72 (.int 1)) 72 (.int 0)) 54 (.int 0)) 54 (.int 1)) 54 (.int 2)) 54 (.int 3)) 54 (.int 4)) 54 (.int 5)) 54 (.int 6)) 54 (.int 7)) 54 (.int 8)) 54 (.int 9)) 54 (.int 10)) 54 (.int 11)) 54 (.int 12)) 54 (.int 13)) 54 (.int 14)) 54 (.int 15)) 54 (.int 16)) 54 (.int 15)) 54 (.int 14)) 54 (.int 13)) 54 (.int 12)) 54 (.int 11)) 54 (.int 10)) 54 (.int 9)) 54 (.int 8)) 54 (.int 7)) 54 (.int 6)) 54 (.int 5)) 54 (.int 4)) 54 (.int 3)) 54 (.int 2)) 54 (.int 1)) 54 (.int 0)) 32 (.int 16)) 40 (.int 0)) 46 (.int 0))), (a1, zI K 10 (va_up (va_up (va_up (va_up (va_up (va_up (va_up (va_up (va_up (va_up (va_up (va_up (va_up (va_up f1 0 0) 1 0) 2 0) 3 0) 4 0) 5 0) 6 0) 7 0) 8 0) 9 0) 6 1) 6 2) 6 3) 0 3)), (a2, zI K 1290 (va_up (va_up (va_up (va_up (va_up f2 1280 4) 1281 4) 1282 2) 1283 0) 1284 0)), (a3, zI K 1290 (va_up (va_up (va_up f3 1282 (nI j0)) 1283 x1) 1284 x2)), (a4, zI K 1290 (va_up (va_up (va_up (va_up (va_up f4 1282 1283) 1283 1284) 1281 1284) 1284 1285) 1280 1285)), (a5, zI K 900 (va_up (va_up f5 0 4) 1 4)), (a6, zI K 900 (va_up (va_up f6 0 1280) 1 1281)), (a7, zI K 900 (va_up (va_up f7 0 (-1)) 1 (-1))), (a8, zI K 900 (va_up (va_up f8 0 0) 1 0)), (a9, zI K 60000 (va_up (va_up (va_up (va_up (va_up (va_up (va_up (va_up (va_up (va_up (va_up (va_up (va_up (va_up (va_up (va_up f9 0 0) 1 0) 2 0) 3 0) 4 0) 5 0) 6 0) 7 0) 8 0) 9 0) 10 0) 11 0) 12 0) 13 0) 14 0) 15 0)), (a10, zI K 16 f10), (a11, zI K 210000 (va_up (va_up (va_up (va_up (va_up (va_up (va_up (va_up (va_up (va_up (va_up (va_up (va_up (va_up (va_up (va_up (va_up (va_up (va_up (va_up (va_up (va_up (va_up (va_up (va_up (va_up (va_up (va_up (va_up (va_up (va_up (va_up (va_up (va_up (va_up (va_up (va_up (va_up (va_up (va_up (va_up (va_up (va_up (va_up (va_up (va_up (va_up (va_up f11 0 (-1)) 1 (-1)) 2 (-1)) 3 (-1)) 4 (-1)) 5 (-1)) 6 (-1)) 7 (-1)) 8 (-1)) 9 (-1)) 10 (-1)) 11 (-1)) 12 (-1)) 13 (-1)) 14 (-1)) 15 (-1)) 0 0) 1 0) 2 0) 3 0) 4 0) 5 0) 6 0) 7 0) 8 0) 9 0) 10 0) 11 0) 12 0) 13 0) 14 0) 15 0) 0 0) 1 1) 2 2) 3 3) 4 4) 5 5) 6 6) 7 7) 8 8) 9 9) 10 10) 11 11) 12 12) 13 13) 14 14) 15 15)), (a12, zI K 210000 (va_up (va_up (va_up (va_up (va_up (va_up (va_up (va_up (va_up (va_up (va_up (va_up (va_up (va_up (va_up (va_up f12 0 0) 1 1) 2 2) 3 3) 4 4) 5 5) 6 6) 7 7) 8 8) 9 9) 10 10) 11 11) 12 12) 13 13) 14 14) 15 15)), (a13, zI K 60000 (va_up (va_up (va_up (va_up (va_up (va_up (va_up (va_up (va_up (va_up (va_up (va_up (va_up (va_up (va_up (va_up f13 0 0) 1 0) 2 0) 3 0) 4 0) 5 0) 6 0) 7 0) 8 0) 9 0) 10 0) 11 0) 12 0) 13 0) 14 0) 15 0)), (a14, zI K 60000 (va_up (va_up (va_up (va_up (va_up (va_up (va_up (va_up (va_up (va_up (va_up (va_up (va_up (va_up (va_up (va_up f14 0 0) 1 0) 2 0) 3 0) 4 0) 5 0) 6 0) 7 0) 8 0) 9 0) 10 0) 11 0) 12 0) 13 0) 14 0) 15 0)), (a15, zI K 60000 (va_up (va_up (va_up (va_up (va_up (va_up (va_up (va_up (va_up (va_up (va_up (va_up (va_up (va_up (va_up (va_up f15 0 0) 1 0) 2 0) 3 0) 4 0) 5 0) 6 0) 7 0) 8 0) 9 0) 10 0) 11 0) 12 0) 13 0) 14 0) 15 0)), (a16, zI K 60000 (va_up (va_up (va_up (va_up (va_up (va_up (va_up (va_up (va_up (va_up (va_up (va_up (va_up (va_up (va_up (va_up f16 0 0) 1 0) 2 0) 3 0) 4 0) 5 0) 6 0) 7 0) 8 0) 9 0) 10 0) 11 0) 12 0) 13 0) 14 0) 15 0)), (a17, zI K 60000 (va_up (va_up (va_up (va_up (va_up (va_up (va_up (va_up (va_up (va_up (va_up (va_up (va_up (va_up (va_up (va_up f17 0 (-1)) 1 (-1)) 2 (-1)) 3 (-1)) 4 (-1)) 5 (-1)) 6 (-1)) 7 (-1)) 8 (-1)) 9 (-1)) 10 (-1)) 11 (-1)) 12 (-1)) 13 (-1)) 14 (-1)) 15 (-1))), (a18, zI K 60000 (va_up (va_up (va_up (va_up (va_up (va_up (va_up (va_up (va_up (va_up (va_up (va_up (va_up (va_up (va_up (va_up f18 0 0) 1 0) 2 0) 3 0) 4 0) 5 0) 6 0) 7 0) 8 0) 9 0) 10 0) 11 0) 12 0) 13 0) 14 0) 15 0))] H := hP.sub [9, 1, 2, 7, 0, 3, 4, 5, 6, 12, 8, 10, 11, 13, 14, 15, 16, 17, 18] rfl
  have hD9 : va_D A [(a0, zO 10 83 (va_up (va_up (va_up (va_up (va_up (va_up (va_up (va_up (va_up (va_up (va_up (va_up (va_up (va_up (va_up (va_up (va_up (va_up (va_up (va_up (va_up (va_up (va_up (va_up (va_up (va_up (va_up (va_up (va_up (va_up (va_up (va_up (va_up (va_up (va_up (va_up (va_up (va_up (va_up (va_up (va_up (va_up (va_up (va_up (va_up (va_up (va_up (va_up (va_up (va_up (va_up (va_up (va_up (va_up (va_up (va_up (va_up (va_up (va_up (va_up (va_up (va_up (va_up g0 79 (.int 0)) 55 (.int 0)) 58 (.int 0)) 59 (.int 600)) 72 (.int 0)) 77 (.int 0)) 62 (.int 1280)) 63 (.int (-1))) 64 (.int 0)) 65 (.int 0)) 61 (.int (-1))) 58 (.int 1)) 72 (.int 1)) 62 (.int 1281)) 63 (.int (-1))) 64 (.int 0)) 65 (.int 0)) 58 (.int 2)) 72 (.int 2)) 62 (.int 1282)) 63 (.int (-1))) 64 (.int 0)) 65 (.int 0)) 58 (.int 3)) 61 (.int 5)) 72 (.int 1)) 72 (.int 0)) 54 (.int 0)) 54 (.int 1)) 54 (.int 2)) 54 (.int 3)) 54 (.int 4)) 54 (.int 5)) 54 (.int 6)) 54 (.int 7)) 54 (.int 8)) 54 (.int 9)) 54 (.int 10)) 54 (.int 11)) 54 (.int 12)) 54 (.int 13)) 54 (.int 14)) 54 (.int 15)) 54 (.int 16)) 54 (.int 15)) 54 (.int 14)) 54 (.int 13)) 54 (.int 12)) 54 (.int 11)) 54 (.int 10)) 54 (.int 9)) 54 (.int 8)) 54 (.int 7)) 54 (.int 6)) 54 (.int 5)) 54 (.int 4)) 54 (.int 3)) 54 (.int 2)) 54 (.int 1)) 54 (.int 0)) 32 (.int 16)) 40 (.int 0)) 46 (.int 0))), (a1, zI K 10 (va_up (va_up (va_up (va_up (va_up (va_up (va_up (va_up (va_up (va_up (va_up (va_up (va_up (va_up f1 0 0) 1 0) 2 0) 3 0) 4 0) 5 0) 6 0) 7 0) 8 0) 9 0) 6 1) 6 2) 6 3) 0 3)), (a2, zI K 1290 (va_up (va_up (va_up (va_up (va_up f2 1280 4) 1281 4) 1282 2) 1283 0) 1284 0)), (a3, zI K 1290 (va_up (va_up (va_up f3 1282 (nI j0)) 1283 x1) 1284 x2)), (a4, zI K 1290 (va_up (va_up (va_up (va_up (va_up f4 1282 1283) 1283 1284) 1281 1284) 1284 1285) 1280 1285)), (a5, zI K 900 (va_up (va_up f5 0 4) 1 4)), (a6, zI K 900 (va_up (va_up f6 0 1280) 1 1281)), (a7, zI K 900 (va_up (va_up f7 0 (-1)) 1 (-1))), (a8, zI K 900 (va_up (va_up f8 0 0) 1 0)), (a9, zI K 60000 (va_up (va_up (va_up (va_up (va_up (va_up (va_up (va_up (va_up (va_up (va_up (va_up (va_up (va_up (va_up (va_up f9 0 0) 1 0) 2 0) 3 0) 4 0) 5 0) 6 0) 7 0) 8 0) 9 0) 10 0) 11 0) 12 0) 13 0) 14 0) 15 0)), (a10, zI K 16 f10), (a11, zI K 210000 (va_up (va_up (va_up (va_up (va_up (va_up (va_up (va_up (va_up (va_up (va_up (va_up (va_up (va_up (va_up (va_up (va_up (va_up (va_up (va_up (va_up (va_up (va_up (va_up (va_up (va_up (va_up (va_up (va_up (va_up (va_up (va_up (va_up (va_up (va_up (va_up (va_up (va_up (va_up (va_up (va_up (va_up (va_up (va_up (va_up (va_up (va_up (va_up f11 0 (-1)) 1 (-1)) 2 (-1)) 3 (-1)) 4 (-1)) 5 (-1)) 6 (-1)) 7 (-1)) 8 (-1)) 9 (-1)) 10 (-1)) 11 (-1)) 12 (-1)) 13 (-1)) 14 (-1)) 15 (-1)) 0 0) 1 0) 2 0) 3 0) 4 0) 5 0) 6 0) 7 0) 8 0) 9 0) 10 0) 11 0) 12 0) 13 0) 14 0) 15 0) 0 0) 1 1) 2 2) 3 3) 4 4) 5 5) 6 6) 7 7) 8 8) 9 9) 10 10) 11 11) 12 12) 13 13) 14 14) 15 15)), (a12, zI K 210000 (va_up (va_up (va_up (va_up (va_up (va_up (va_up (va_up (va_up (va_up (va_up (va_up (va_up (va_up (va_up (va_up f12 0 0) 1 1) 2 2) 3 3) 4 4) 5 5) 6 6) 7 7) 8 8) 9 9) 10 10) 11 11) 12 12) 13 13) 14 14) 15 15)), (a13, zI K 60000 (va_up (va_up (va_up (va_up (va_up (va_up (va_up (va_up (va_up (va_up (va_up (va_up (va_up (va_up (va_up (va_up f13 0 0) 1 0) 2 0) 3 0) 4 0) 5 0) 6 0) 7 0) 8 0) 9 0) 10 0) 11 0) 12 0) 13 0) 14 0) 15 0)), (a14, zI K 60000 (va_up (va_up (va_up (va_up (va_up (va_up (va_up (va_up (va_up (va_up (va_up (va_up (va_up (va_up (va_up (va_up f14 0 0) 1 0) 2 0) 3 0) 4 0) 5 0) 6 0) 7 0) 8 0) 9 0) 10 0) 11 0) 12 0) 13 0) 14 0) 15 0)), (a15, zI K 60000 (va_up (va_up (va_up (va_up (va_up (va_up (va_up (va_up (va_up (va_up (va_up (va_up (va_up (va_up (va_up (va_up f15 0 0) 1 0) 2 0) 3 0) 4 0) 5 0) 6 0) 7 0) 8 0) 9 0) 10 0) 11 0) 12 0) 13 0) 14 0) 15 0)), (a16, zI K 60000 (va_up (va_up (va_up (va_up (va_up (va_up (va_up (va_up (va_up (va_up (va_up (va_up (va_up (va_up (va_up (va_up f16 0 0) 1 0) 2 0) 3 0) 4 0) 5 0) 6 0) 7 0) 8 0) 9 0) 10 0) 11 0) 12 0) 13 0) 14 0) 15 0)), (a17, zI K 60000 (va_up (va_up (va_up (va_up (va_up (va_up (va_up (va_up (va_up (va_up (va_up (va_up (va_up (va_up (va_up (va_up f17 0 (-1)) 1 (-1)) 2 (-1)) 3 (-1)) 4 (-1)) 5 (-1)) 6 (-1)) 7 (-1)) 8 (-1)) 9 (-1)) 10 (-1)) 11 (-1)) 12 (-1)) 13 (-1)) 14 (-1)) 15 (-1))), (a18, zI K 60000 (va_up (va_up (va_up (va_up (va_up (va_up (va_up (va_up (va_up (va_up (va_up (va_up (va_up (va_up (va_up (va_up f18 0 0) 1 0) 2 0) 3 0) 4 0) 5 0) 6 0) 7 0) 8 0) 9 0) 10 0) 11 0) 12 0) 13 0) 14 0) 15 0))] := hD.sub [9, 1, 2, 7, 0, 3, 4, 5, 6, 12, 8, 10, 11, 13, 14, 15, 16, 17, 18] (by decide) rfl
  exact z_iret hx hb hr (fun _ => 0) rfl hP9 hD9 hS (Nat.le_of_ble_eq_true rfl) (Nat.le_of_ble_eq_true rfl) hlocks dX12_begins_188
set_option maxHeartbeats 4000000 in
set_option maxRecDepth 100000 in
theorem cX12_plainly_5 (l : Launch) (K : zK) (sz : Nat) (a0 : Nat) (a1 : Nat) (a2 : Nat) (a3 : Nat) (a4 : Nat) (a5 : Nat) (a6 : Nat) (a7 : Nat) (a8 : Nat) (a9 : Nat) (a10 : Nat) (a11 : Nat) (a12 : Nat) (a13 : Nat) (a14 : Nat) (a15 : Nat) (a16 : Nat) (a17 : Nat) (a18 : Nat) (g0 : Nat → Value) (f1 : Nat → Int32) (f2 : Nat → Int32) (f3 : Nat → Int32) (f4 : Nat → Int32) (f5 : Nat → Int32) (f6 : Nat → Int32) (f7 : Nat → Int32) (f8 : Nat → Int32) (f9 : Nat → Int32) (f10 : Nat → Int32) (f11 : Nat → Int32) (f12 : Nat → Int32) (f13 : Nat → Int32) (f14 : Nat → Int32) (f15 : Nat → Int32) (f16 : Nat → Int32) (f17 : Nat → Int32) (f18 : Nat → Int32) (j0 : Nat) (hj0 : j0 < 8) (x1 : Int32) (x2 : Int32) (e0 : g0 80 = (.ref a1)) (e1 : g0 8 = (.ref a2)) (e2 : g0 9 = (.ref a3)) (e3 : g0 13 = (.ref a4)) (e4 : g0 57 = (.int 0)) (e5 : g0 73 = (.ref a5)) (e6 : g0 74 = (.ref a6)) (e7 : g0 75 = (.ref a7)) (e8 : g0 76 = (.ref a8)) (e9 : g0 33 = (.ref a9)) (e10 : ∀ j : Nat, f9 j = 0) (e11 : g0 14 = (.ref a10)) (e12 : ∀ j : Nat, f10 j = 0) (e13 : g0 32 = (.int 16)) (e14 : g0 52 = (.ref a11)) (e15 : g0 40 = (.int 0)) (e16 : g0 46 = (.int 0)) (e17 : g0 53 = (.ref a12)) (e18 : g0 34 = (.ref a13)) (e19 : f13 0 = 0) (e20 : g0 35 = (.ref a14)) (e21 : g0 36 = (.ref a15)) (e22 : g0 37 = (.ref a16)) (e23 : f16 0 = 0) (e24 : g0 38 = (.ref a17)) (e25 : g0 39 = (.ref a18)) (e26 : f18 0 = 0) (e27 : f13 1 = 0) (e28 : f16 1 = 0) (e29 : f18 1 = 0) (e30 : f13 2 = 0) (e31 : f16 2 = 0) (e32 : f18 2 = 0) (e33 : f13 3 = 0) (e34 : f16 3 = 0) (e35 : f18 3 = 0) (e36 : f13 4 = 0) (e37 : f16 4 = 0) (e38 : f18 4 = 0) (e39 : f13 5 = 0) (e40 : f16 5 = 0) (e41 : f18 5 = 0) (e42 : f13 6 = 0) (e43 : f16 6 = 0) (e44 : f18 6 = 0) (e45 : f13 7 = 0) (e46 : f16 7 = 0) (e47 : f18 7 = 0) (e48 : f13 8 = 0) (e49 : f16 8 = 0) (e50 : f18 8 = 0) (e51 : f13 9 = 0) (e52 : f16 9 = 0) (e53 : f18 9 = 0) (e54 : f13 10 = 0) (e55 : f16 10 = 0) (e56 : f18 10 = 0) (e57 : f13 11 = 0) (e58 : f16 11 = 0) (e59 : f18 11 = 0) (e60 : f13 12 = 0) (e61 : f16 12 = 0) (e62 : f18 12 = 0) (e63 : f13 13 = 0) (e64 : f16 13 = 0) (e65 : f18 13 = 0) (e66 : f13 14 = 0) (e67 : f16 14 = 0) (e68 : f18 14 = 0) (e69 : f13 15 = 0) (e70 : f16 15 = 0) (e71 : f18 15 = 0) : Met l yX12_plainly (Cond.code yX12_plainly cX12_plainly 6 (some .int) :: WG) { frames := 5, cells := 0, slots := 0, locals := 111 } (zPre K [(a0, zO 10 83 g0), (a1, zI K 10 f1), (a2, zI K 1290 f2), (a3, zI K 1290 f3), (a4, zI K 1290 f4), (a5, zI K 900 f5), (a6, zI K 900 f6), (a7, zI K 900 f7), (a8, zI K 900 f8), (a9, zI K 60000 f9), (a10, zI K 16 f10), (a11, zI K 210000 f11), (a12, zI K 210000 f12), (a13, zI K 60000 f13), (a14, zI K 60000 f14), (a15, zI K 60000 f15), (a16, zI K 60000 f16), (a17, zI K 60000 f17), (a18, zI K 60000 f18)] sz [.ref a0, .int (nI j0), .int 2, .int x1, .int x2, .int 0]) (va_Qi (fun (r : Int32) (_ : Nat → Nat) => r = 5) (zB K (va_A [(a0, zO 10 83 g0), (a1, zI K 10 f1), (a2, zI K 1290 f2), (a3, zI K 1290 f3), (a4, zI K 1290 f4), (a5, zI K 900 f5), (a6, zI K 900 f6), (a7, zI K 900 f7), (a8, zI K 900 f8), (a9, zI K 60000 f9), (a10, zI K 16 f10), (a11, zI K 210000 f11), (a12, zI K 210000 f12), (a13, zI K 60000 f13), (a14, zI K 60000 f14), (a15, zI K 60000 f15), (a16, zI K 60000 f16), (a17, zI K 60000 f17), (a18, zI K 60000 f18)] sz) (fun u : Nat → Nat => [(a0, zO 10 83 (va_up (va_up (va_up (va_up (va_up (va_up (va_up (va_up (va_up (va_up (va_up (va_up (va_up (va_up (va_up (va_up (va_up (va_up (va_up (va_up (va_up (va_up (va_up (va_up (va_up (va_up (va_up (va_up (va_up (va_up (va_up (va_up (va_up (va_up (va_up (va_up (va_up (va_up (va_up (va_up (va_up (va_up (va_up (va_up (va_up (va_up (va_up (va_up (va_up (va_up (va_up (va_up (va_up (va_up (va_up (va_up (va_up (va_up (va_up (va_up (va_up (va_up (va_up (va_up (va_up (va_up g0 81 (.int 0)) 56 (.int 1)) 60 (.int 0)) 79 (.int 0)) 55 (.int 0)) 58 (.int 0)) 59 (.int 600)) 72 (.int 0)) 77 (.int 0)) 62 (.int 1280)) 63 (.int (-1))) 64 (.int 0)) 65 (.int 0)) 61 (.int (-1))) 58 (.int 1)) 72 (.int 1)) 62 (.int 1281)) 63 (.int (-1))) 64 (.int 0)) 65 (.int 0)) 58 (.int 2)) 72 (.int 2)) 62 (.int 1282)) 63 (.int (-1))) 64 (.int 0)) 65 (.int 0)) 58 (.int 3)) 61 (.int 5)) 72 (.int 1)) 72 (.int 0)) 54 (.int 0)) 54 (.int 1)) 54 (.int 2)) 54 (.int 3)) 54 (.int 4)) 54 (.int 5)) 54 (.int 6)) 54 (.int 7)) 54 (.int 8)) 54 (.int 9)) 54 (.int 10)) 54 (.int 11)) 54 (.int 12)) 54 (.int 13)) 54 (.int 14)) 54 (.int 15)) 54 (.int 16)) 54 (.int 15)) 54 (.int 14)) 54 (.int 13)) 54 (.int 12)) 54 (.int 11)) 54 (.int 10)) 54 (.int 9)) 54 (.int 8)) 54 (.int 7)) 54 (.int 6)) 54 (.int 5)) 54 (.int 4)) 54 (.int 3)) 54 (.int 2)) 54 (.int 1)) 54 (.int 0)) 32 (.int 16)) 40 (.int 0)) 46 (.int 0)))])) (va_A [(a0, zO 10 83 g0), (a1, zI K 10 f1), (a2, zI K 1290 f2), (a3, zI K 1290 f3), (a4, zI K 1290 f4), (a5, zI K 900 f5), (a6, zI K 900 f6), (a7, zI K 900 f7), (a8, zI K 900 f8), (a9, zI K 60000 f9), (a10, zI K 16 f10), (a11, zI K 210000 f11), (a12, zI K 210000 f12), (a13, zI K 60000 f13), (a14, zI K 60000 f14), (a15, zI K 60000 f15), (a16, zI K 60000 f16), (a17, zI K 60000 f17), (a18, zI K 60000 f18)] sz)) 0 0 (va_A [(a0, zO 10 83 g0), (a1, zI K 10 f1), (a2, zI K 1290 f2), (a3, zI K 1290 f3), (a4, zI K 1290 f4), (a5, zI K 900 f5), (a6, zI K 900 f6), (a7, zI K 900 f7), (a8, zI K 900 f8), (a9, zI K 60000 f9), (a10, zI K 16 f10), (a11, zI K 210000 f11), (a12, zI K 210000 f12), (a13, zI K 60000 f13), (a14, zI K 60000 f14), (a15, zI K 60000 f15), (a16, zI K 60000 f16), (a17, zI K 60000 f17), (a18, zI K 60000 f18)] sz) := by
  refine z_met (Qc := fun A => (va_Qi (fun (r : Int32) (_ : Nat → Nat) => r = 5) (zB K A (fun u : Nat → Nat => [(a0, zO 10 83 (va_up (va_up (va_up (va_up (va_up (va_up (va_up (va_up (va_up (va_up (va_up (va_up (va_up (va_up (va_up (va_up (va_up (va_up (va_up (va_up (va_up (va_up (va_up (va_up (va_up (va_up (va_up (va_up (va_up (va_up (va_up (va_up (va_up (va_up (va_up (va_up (va_up (va_up (va_up (va_up (va_up (va_up (va_up (va_up (va_up (va_up (va_up (va_up (va_up (va_up (va_up (va_up (va_up (va_up (va_up (va_up (va_up (va_up (va_up (va_up (va_up (va_up (va_up (va_up (va_up (va_up g0 81 (.int 0)) 56 (.int 1)) 60 (.int 0)) 79 (.int 0)) 55 (.int 0)) 58 (.int 0)) 59 (.int 600)) 72 (.int 0)) 77 (.int 0)) 62 (.int 1280)) 63 (.int (-1))) 64 (.int 0)) 65 (.int 0)) 61 (.int (-1))) 58 (.int 1)) 72 (.int 1)) 62 (.int 1281)) 63 (.int (-1))) 64 (.int 0)) 65 (.int 0)) 58 (.int 2)) 72 (.int 2)) 62 (.int 1282)) 63 (.int (-1))) 64 (.int 0)) 65 (.int 0)) 58 (.int 3)) 61 (.int 5)) 72 (.int 1)) 72 (.int 0)) 54 (.int 0)) 54 (.int 1)) 54 (.int 2)) 54 (.int 3)) 54 (.int 4)) 54 (.int 5)) 54 (.int 6)) 54 (.int 7)) 54 (.int 8)) 54 (.int 9)) 54 (.int 10)) 54 (.int 11)) 54 (.int 12)) 54 (.int 13)) 54 (.int 14)) 54 (.int 15)) 54 (.int 16)) 54 (.int 15)) 54 (.int 14)) 54 (.int 13)) 54 (.int 12)) 54 (.int 11)) 54 (.int 10)) 54 (.int 9)) 54 (.int 8)) 54 (.int 7)) 54 (.int 6)) 54 (.int 5)) 54 (.int 4)) 54 (.int 3)) 54 (.int 2)) 54 (.int 1)) 54 (.int 0)) 32 (.int 16)) 40 (.int 0)) 46 (.int 0)))])) A)) (by decide +kernel) (Nat.le_of_ble_eq_true rfl) ?_
  intro p e s m args below meth c A ls H hx hb hr hg hown hlocks hml hin hK hP hD hA hS hZ hl
  have hown : s.vm.findClass RX12 = some m.cls := hown
  have hl : lv_has ls 6 [(0, .ref a0), (1, .int (nI j0)), (2, .int 2), (3, .int x1), (4, .int x2), (5, .int 0)] := hl
  refine lv_aload_n hx hb dX12_plainly_0 rfl (lv_at hl 0 rfl) ?_
  refine lv_iload_n hx hb dX12_plainly_1 rfl (lv_at hl 1 rfl) ?_
  refine lv_iload_n hx hb dX12_plainly_2 rfl (lv_at hl 2 rfl) ?_
  refine lv_iconst (v := 1) hx hb dX12_plainly_3 (by decide) ?_
  refine lv_iload hx hb dX12_plainly_4 (lv_at hl 5 rfl) ?_
  refine z_calli [(a0, zO 10 83 g0)] [(a1, zI K 10 f1), (a2, zI K 1290 f2), (a3, zI K 1290 f3), (a4, zI K 1290 f4), (a5, zI K 900 f5), (a6, zI K 900 f6), (a7, zI K 900 f7), (a8, zI K 900 f8), (a9, zI K 60000 f9), (a10, zI K 16 f10), (a11, zI K 210000 f11), (a12, zI K 210000 f12), (a13, zI K 60000 f13), (a14, zI K 60000 f14), (a15, zI K 60000 f15), (a16, zI K 60000 f16), (a17, zI K 60000 f17), (a18, zI K 60000 f18)] [0] [1, 2, 3, 4, 5, 6, 7, 8, 9, 10, 11, 12, 13, 14, 15, 16, 17, 18] hP hD hS hA rfl rfl (by decide) (by decide) (by decide +kernel) 0 0 rfl rfl (fun hPc hDc hF => z_runV (As := [.int (nI j0), .int 2, .int 1, .int 0]) (rest := []) ⟨hx, hb, hml, hown, hg⟩ (cX12_mayRun_12 l K H.size a0 g0 j0 hj0) kV_RX12_492 hd_X12_mayRun rfl rfl ⟨(Nat.le_of_ble_eq_true rfl), (Nat.le_of_ble_eq_true rfl)⟩ hK hS hZ hPc hDc hF 0 rfl rfl rfl hl.1 rfl (Nat.le_of_ble_eq_true rfl) dX12_plainly_6 ⟨(Nat.le_of_ble_eq_true rfl), (Nat.le_of_ble_eq_true rfl)⟩) (fun r3 u1 H locs w2 hP hD hS => ?_)
  subst w2
  have hP : va_P K.1 classes [(a1, zI K 10 f1), (a2, zI K 1290 f2), (a3, zI K 1290 f3), (a4, zI K 1290 f4), (a5, zI K 900 f5), (a6, zI K 900 f6), (a7, zI K 900 f7), (a8, zI K 900 f8), (a9, zI K 60000 f9), (a10, zI K 16 f10), (a11, zI K 210000 f11), (a12, zI K 210000 f12), (a13, zI K 60000 f13), (a14, zI K 60000 f14), (a15, zI K 60000 f15), (a16, zI K 60000 f16), (a17, zI K 60000 f17), (a18, zI K 60000 f18), (a0, zO 10 83 (va_up g0 81 (.int 0)))] H := hP
  have hD : va_D A [(a1, zI K 10 f1), (a2, zI K 1290 f2), (a3, zI K 1290 f3), (a4, zI K 1290 f4), (a5, zI K 900 f5), (a6, zI K 900 f6), (a7, zI K 900 f7), (a8, zI K 900 f8), (a9, zI K 60000 f9), (a10, zI K 16 f10), (a11, zI K 210000 f11), (a12, zI K 210000 f12), (a13, zI K 60000 f13), (a14, zI K 60000 f14), (a15, zI K 60000 f15), (a16, zI K 60000 f16), (a17, zI K 60000 f17), (a18, zI K 60000 f18), (a0, zO 10 83 (va_up g0 81 (.int 0)))] := hD
  refine lv_if_ne (tgt := 14) hx hb dX12_plainly_9 (by decide) (fun _ => ?_) (fun c => absurd c (by decide))
  refine lv_aload_n hx hb dX12_plainly_14 rfl (lv_at hl 0 rfl) ?_
  refine lv_iconst (v := 1) hx hb dX12_plainly_15 (by decide) ?_
  refine z_put hx hb hg hown hK hP hD hS i_X12 rfl tyX12_ok nmX12 18 rfl 56 (by decide) mt1336 rfl rfl rfl dX12_plainly_16 (fun gg4 H locs y5 hP hD hS => ?_)
  have hP : va_P K.1 classes [(a1, zI K 10 f1), (a2, zI K 1290 f2), (a3, zI K 1290 f3), (a4, zI K 1290 f4), (a5, zI K 900 f5), (a6, zI K 900 f6), (a7, zI K 900 f7), (a8, zI K 900 f8), (a9, zI K 60000 f9), (a10, zI K 16 f10), (a11, zI K 210000 f11), (a12, zI K 210000 f12), (a13, zI K 60000 f13), (a14, zI K 60000 f14), (a15, zI K 60000 f15), (a16, zI K 60000 f16), (a17, zI K 60000 f17), (a18, zI K 60000 f18), (a0, zO 10 83 gg4)] H := hP
  have hD : va_D A [(a1, zI K 10 f1), (a2, zI K 1290 f2), (a3, zI K 1290 f3), (a4, zI K 1290 f4), (a5, zI K 900 f5), (a6, zI K 900 f6), (a7, zI K 900 f7), (a8, zI K 900 f8), (a9, zI K 60000 f9), (a10, zI K 16 f10), (a11, zI K 210000 f11), (a12, zI K 210000 f12), (a13, zI K 60000 f13), (a14, zI K 60000 f14), (a15, zI K 60000 f15), (a16, zI K 60000 f16), (a17, zI K 60000 f17), (a18, zI K 60000 f18), (a0, zO 10 83 gg4)] := hD
  refine lv_aload_n hx hb dX12_plainly_19 rfl (lv_at hl 0 rfl) ?_
  refine lv_iconst (v := 0) hx hb dX12_plainly_20 (by decide) ?_
  refine z_put hx hb hg hown hK hP hD hS i_X12 rfl tyX12_ok nmX12 18 rfl 60 (by decide) mt1340 rfl rfl rfl dX12_plainly_21 (fun gg6 H locs y7 hP hD hS => ?_)
  have hP : va_P K.1 classes [(a1, zI K 10 f1), (a2, zI K 1290 f2), (a3, zI K 1290 f3), (a4, zI K 1290 f4), (a5, zI K 900 f5), (a6, zI K 900 f6), (a7, zI K 900 f7), (a8, zI K 900 f8), (a9, zI K 60000 f9), (a10, zI K 16 f10), (a11, zI K 210000 f11), (a12, zI K 210000 f12), (a13, zI K 60000 f13), (a14, zI K 60000 f14), (a15, zI K 60000 f15), (a16, zI K 60000 f16), (a17, zI K 60000 f17), (a18, zI K 60000 f18), (a0, zO 10 83 gg6)] H := hP
  have hD : va_D A [(a1, zI K 10 f1), (a2, zI K 1290 f2), (a3, zI K 1290 f3), (a4, zI K 1290 f4), (a5, zI K 900 f5), (a6, zI K 900 f6), (a7, zI K 900 f7), (a8, zI K 900 f8), (a9, zI K 60000 f9), (a10, zI K 16 f10), (a11, zI K 210000 f11), (a12, zI K 210000 f12), (a13, zI K 60000 f13), (a14, zI K 60000 f14), (a15, zI K 60000 f15), (a16, zI K 60000 f16), (a17, zI K 60000 f17), (a18, zI K 60000 f18), (a0, zO 10 83 gg6)] := hD
  refine lv_aload_n hx hb dX12_plainly_24 rfl (lv_at hl 0 rfl) ?_
  refine lv_iload_n hx hb dX12_plainly_25 rfl (lv_at hl 1 rfl) ?_
  refine lv_iload_n hx hb dX12_plainly_26 rfl (lv_at hl 2 rfl) ?_
  refine lv_iload_n hx hb dX12_plainly_27 rfl (lv_at hl 3 rfl) ?_
  refine lv_iload hx hb dX12_plainly_28 (lv_at hl 4 rfl) ?_
  refine lv_iload hx hb dX12_plainly_30 (lv_at hl 5 rfl) ?_
  refine z_calli [(a0, zO 10 83 gg6), (a1, zI K 10 f1), (a2, zI K 1290 f2), (a3, zI K 1290 f3), (a4, zI K 1290 f4), (a5, zI K 900 f5), (a6, zI K 900 f6), (a7, zI K 900 f7), (a8, zI K 900 f8), (a9, zI K 60000 f9), (a10, zI K 16 f10), (a11, zI K 210000 f11), (a12, zI K 210000 f12), (a13, zI K 60000 f13), (a14, zI K 60000 f14), (a15, zI K 60000 f15), (a16, zI K 60000 f16), (a17, zI K 60000 f17), (a18, zI K 60000 f18)] [] [18, 0, 1, 2, 3, 4, 5, 6, 7, 8, 9, 10, 11, 12, 13, 14, 15, 16, 17] [] hP hD hS hA rfl rfl (by decide) (by decide) (by decide +kernel) 0 0 rfl rfl (fun hPc hDc hF => z_runV (As := [.int (nI j0), .int 2, .int x1, .int x2, .int 0]) (rest := []) ⟨hx, hb, hml, hown, hg⟩ (cX12_begins_12 l K H.size a0 a1 a2 a3 a4 a5 a6 a7 a8 a9 a10 a11 a12 a13 a14 a15 a16 a17 a18 gg6 f1 f2 f3 f4 f5 f6 f7 f8 f9 f10 f11 f12 f13 f14 f15 f16 f17 f18 j0 hj0 x1 x2 (zu_of y7 (zu_ne (by decide) (zu_of y5 (zu_ne (by decide) (zu_ne (by decide) e0))))) (zu_of y7 (zu_ne (by decide) (zu_of y5 (zu_ne (by decide) (zu_ne (by decide) e1))))) (zu_of y7 (zu_ne (by decide) (zu_of y5 (zu_ne (by decide) (zu_ne (by decide) e2))))) (zu_of y7 (zu_ne (by decide) (zu_of y5 (zu_ne (by decide) (zu_ne (by decide) e3))))) (zu_of y7 (zu_ne (by decide) (zu_of y5 (zu_ne (by decide) (zu_ne (by decide) e4))))) (zu_of y7 zu_eq) (zu_of y7 (zu_ne (by decide) (zu_of y5 (zu_ne (by decide) (zu_ne (by decide) e5))))) (zu_of y7 (zu_ne (by decide) (zu_of y5 (zu_ne (by decide) (zu_ne (by decide) e6))))) (zu_of y7 (zu_ne (by decide) (zu_of y5 (zu_ne (by decide) (zu_ne (by decide) e7))))) (zu_of y7 (zu_ne (by decide) (zu_of y5 (zu_ne (by decide) (zu_ne (by decide) e8))))) (zu_of y7 (zu_ne (by decide) (zu_of y5 (zu_ne (by decide) (zu_ne (by decide) e9))))) e10 (zu_of y7 (zu_ne (by decide) (zu_of y5 (zu_ne (by decide) (zu_ne (by decide) e11))))) e12 (zu_of y7 (zu_ne (by decide) (zu_of y5 (zu_ne (by decide) (zu_ne (by decide) e13))))) (zu_of y7 (zu_ne (by decide) (zu_of y5 (zu_ne (by decide) (zu_ne (by decide) e14))))) (zu_of y7 (zu_ne (by decide) (zu_of y5 (zu_ne (by decide) (zu_ne (by decide) e15))))) (zu_of y7 (zu_ne (by decide) (zu_of y5 (zu_ne (by decide) (zu_ne (by decide) e16))))) (zu_of y7 (zu_ne (by decide) (zu_of y5 (zu_ne (by decide) (zu_ne (by decide) e17))))) (zu_of y7 (zu_ne (by decide) (zu_of y5 (zu_ne (by decide) (zu_ne (by decide) e18))))) e19 (zu_of y7 (zu_ne (by decide) (zu_of y5 (zu_ne (by decide) (zu_ne (by decide) e20))))) (zu_of y7 (zu_ne (by decide) (zu_of y5 (zu_ne (by decide) (zu_ne (by decide) e21))))) (zu_of y7 (zu_ne (by decide) (zu_of y5 (zu_ne (by decide) (zu_ne (by decide) e22))))) e23 (zu_of y7 (zu_ne (by decide) (zu_of y5 (zu_ne (by decide) (zu_ne (by decide) e24))))) (zu_of y7 (zu_ne (by decide) (zu_of y5 (zu_ne (by decide) (zu_ne (by decide) e25))))) e26 e27 e28 e29 e30 e31 e32 e33 e34 e35 e36 e37 e38 e39 e40 e41 e42 e43 e44 e45 e46 e47 e48 e49 e50 e51 e52 e53 e54 e55 e56 e57 e58 e59 e60 e61 e62 e63 e64 e65 e66 e67 e68 e69 e70 e71) kV_RX12_496 hd_X12_begins rfl rfl ⟨(Nat.le_of_ble_eq_true rfl), (Nat.le_of_ble_eq_true rfl)⟩ hK hS hZ hPc hDc hF 0 rfl rfl rfl hl.1 rfl (Nat.le_of_ble_eq_true rfl) dX12_plainly_32 ⟨(Nat.le_of_ble_eq_true rfl), (Nat.le_of_ble_eq_true rfl)⟩) (fun r10 u8 H locs w9 hP hD hS => ?_)
  subst w9
  have hP : va_P K.1 classes [(a0, zO 10 83 (va_up (va_up (va_up (va_up (va_up (va_up (va_up (va_up (va_up (va_up (va_up (va_up (va_up (va_up (va_up (va_up (va_up (va_up (va_up (va_up (va_up (va_up (va_up (va_up (va_up (va_up (va_up (va_up (va_up (va_up (va_up (va_up (va_up (va_up (va_up (va_up (va_up (va_up (va_up (va_up (va_up (va_up (va_up (va_up (va_up (va_up (va_up (va_up (va_up (va_up (va_up (va_up (va_up (va_up (va_up (va_up (va_up (va_up (va_up (va_up (va_up (va_up (va_up gg6 79 (.int 0)) 55 (.int 0)) 58 (.int 0)) 59 (.int 600)) 72 (.int 0)) 77 (.int 0)) 62 (.int 1280)) 63 (.int (-1))) 64 (.int 0)) 65 (.int 0)) 61 (.int (-1))) 58 (.int 1)) 72 (.int 1)) 62 (.int 1281)) 63 (.int (-1))) 64 (.int 0)) 65 (.int 0)) 58 (.int 2)) 72 (.int 2)) 62 (.int 1282)) 63 (.int (-1))) 64 (.int 0)) 65 (.int 0)) 58 (.int 3)) 61 (.int 5)) 72 (.int 1)) 72 (.int 0)) 54 (.int 0)) 54 (.int 1)) 54 (.int 2)) 54 (.int 3)) 54 (.int 4)) 54 (.int 5)) 54 (.int 6)) 54 (.int 7)) 54 (.int 8)) 54 (.int 9)) 54 (.int 10)) 54 (.int 11)) 54 (.int 12)) 54 (.int 13)) 54 (.int 14)) 54 (.int 15)) 54 (.int 16)) 54 (.int 15)) 54 (.int 14)) 54 (.int 13)) 54 (.int 12)) 54 (.int 11)) 54 (.int 10)) 54 (.int 9)) 54 (.int 8)) 54 (.int 7)) 54 (.int 6)) 54 (.int 5)) 54 (.int 4)) 54 (.int 3)) 54 (.int 2)) 54 (.int 1)) 54 (.int 0)) 32 (.int 16)) 40 (.int 0)) 46 (.int 0))), (a1, zI K 10 (va_up (va_up (va_up (va_up (va_up (va_up (va_up (va_up (va_up (va_up (va_up (va_up (va_up (va_up f1 0 0) 1 0) 2 0) 3 0) 4 0) 5 0) 6 0) 7 0) 8 0) 9 0) 6 1) 6 2) 6 3) 0 3)), (a2, zI K 1290 (va_up (va_up (va_up (va_up (va_up f2 1280 4) 1281 4) 1282 2) 1283 0) 1284 0)), (a3, zI K 1290 (va_up (va_up (va_up f3 1282 (nI j0)) 1283 x1) 1284 x2)), (a4, zI K 1290 (va_up (va_up (va_up (va_up (va_up f4 1282 1283) 1283 1284) 1281 1284) 1284 1285) 1280 1285)), (a5, zI K 900 (va_up (va_up f5 0 4) 1 4)), (a6, zI K 900 (va_up (va_up f6 0 1280) 1 1281)), (a7, zI K 900 (va_up (va_up f7 0 (-1)) 1 (-1))), (a8, zI K 900 (va_up (va_up f8 0 0) 1 0)), (a9, zI K 60000 (va_up (va_up (va_up (va_up (va_up (va_up (va_up (va_up (va_up (va_up (va_up (va_up (va_up (va_up (va_up (va_up f9 0 0) 1 0) 2 0) 3 0) 4 0) 5 0) 6 0) 7 0) 8 0) 9 0) 10 0) 11 0) 12 0) 13 0) 14 0) 15 0)), (a10, zI K 16 f10), (a11, zI K 210000 (va_up (va_up (va_up (va_up (va_up (va_up (va_up (va_up (va_up (va_up (va_up (va_up (va_up (va_up (va_up (va_up (va_up (va_up (va_up (va_up (va_up (va_up (va_up (va_up (va_up (va_up (va_up (va_up (va_up (va_up (va_up (va_up (va_up (va_up (va_up (va_up (va_up (va_up (va_up (va_up (va_up (va_up (va_up (va_up (va_up (va_up (va_up (va_up f11 0 (-1)) 1 (-1)) 2 (-1)) 3 (-1)) 4 (-1)) 5 (-1)) 6 (-1)) 7 (-1)) 8 (-1)) 9 (-1)) 10 (-1)) 11 (-1)) 12 (-1)) 13 (-1)) 14 (-1)) 15 (-1)) 0 0) 1 0) 2 0) 3 0) 4 0) 5 0) 6 0) 7 0) 8 0) 9 0) 10 0) 11 0) 12 0) 13 0) 14 0) 15 0) 0 0) 1 1) 2 2) 3 3) 4 4) 5 5) 6 6) 7 7) 8 8) 9 9) 10 10) 11 11) 12 12) 13 13) 14 14) 15 15)), (a12, zI K 210000 (va_up (va_up (va_up (va_up (va_up (va_up (va_up (va_up (va_up (va_up (va_up (va_up (va_up (va_up (va_up (va_up f12 0 0) 1 1) 2 2) 3 3) 4 4) 5 5) 6 6) 7 7) 8 8) 9 9) 10 10) 11 11) 12 12) 13 13) 14 14) 15 15)), (a13, zI K 60000 (va_up (va_up (va_up (va_up (va_up (va_up (va_up (va_up (va_up (va_up (va_up (va_up (va_up (va_up (va_up (va_up f13 0 0) 1 0) 2 0) 3 0) 4 0) 5 0) 6 0) 7 0) 8 0) 9 0) 10 0) 11 0) 12 0) 13 0) 14 0) 15 0)), (a14, zI K 60000 (va_up (va_up (va_up (va_up (va_up (va_up (va_up (va_up (va_up (va_up (va_up (va_up (va_up (va_up (va_up (va_up f14 0 0) 1 0) 2 0) 3 0) 4 0) 5 0) 6 0) 7 0) 8 0) 9 0) 10 0) 11 0) 12 0) 13 0) 14 0) 15 0)), (a15, zI K 60000 (va_up (va_up (va_up (va_up (va_up (va_up (va_up (va_up (va_up (va_up (va_up (va_up (va_up (va_up (va_up (va_up f15 0 0) 1 0) 2 0) 3 0) 4 0) 5 0) 6 0) 7 0) 8 0) 9 0) 10 0) 11 0) 12 0) 13 0) 14 0) 15 0)), (a16, zI K 60000 (va_up (va_up (va_up (va_up (va_up (va_up (va_up (va_up (va_up (va_up (va_up (va_up (va_up (va_up (va_up (va_up f16 0 0) 1 0) 2 0) 3 0) 4 0) 5 0) 6 0) 7 0) 8 0) 9 0) 10 0) 11 0) 12 0) 13 0) 14 0) 15 0)), (a17, zI K 60000 (va_up (va_up (va_up (va_up (va_up (va_up (va_up (va_up (va_up (va_up (va_up (va_up (va_up (va_up (va_up (va_up f17 0 (-1)) 1 (-1)) 2 (-1)) 3 (-1)) 4 (-1)) 5 (-1)) 6 (-1)) 7 (-1)) 8 (-1)) 9 (-1)) 10 (-1)) 11 (-1)) 12 (-1)) 13 (-1)) 14 (-1)) 15 (-1))), (a18, zI K 60000 (va_up (va_up (va_up (va_up (va_up (va_up (va_up (va_up (va_up (va_up (va_up (va_up (va_up (va_up (va_up (va_up f18 0 0) 1 0) 2 0) 3 0) 4 0) 5 0) 6 0) 7 0) 8 0) 9 0) 10 0) 11 0) 12 0) 13 0) 14 0) 15 0))] H := hP
  have hD : va_D A [(a0, zO 10 83 (va_up (va_up (va_up (va_up (va_up (va_up (va_up (va_up (va_up (va_up (va_up (va_up (va_up (va_up (va_up (va_up (va_up (va_up (va_up (va_up (va_up (va_up (va_up (va_up (va_up (va_up (va_up (va_up (va_up (va_up (va_up (va_up (va_up (va_up (va_up (va_up (va_up (va_up (va_up (va_up (va_up (va_up (va_up (va_up (va_up (va_up (va_up (va_up (va_up (va_up (va_up (va_up (va_up (va_up (va_up (va_up (va_up (va_up (va_up (va_up (va_up (va_up (va_up gg6 79 (.int 0)) 55 (.int 0)) 58 (.int 0)) 59 (.int 600)) 72 (.int 0)) 77 (.int 0)) 62 (.int 1280)) 63 (.int (-1))) 64 (.int 0)) 65 (.int 0)) 61 (.int (-1))) 58 (.int 1)) 72 (.int 1)) 62 (.int 1281)) 63 (.int (-1))) 64 (.int 0)) 65 (.int 0)) 58 (.int 2)) 72 (.int 2)) 62 (.int 1282)) 63 (.int (-1))) 64 (.int 0)) 65 (.int 0)) 58 (.int 3)) 61 (.int 5)) 72 (.int 1)) 72 (.int 0)) 54 (.int 0)) 54 (.int 1)) 54 (.int 2)) 54 (.int 3)) 54 (.int 4)) 54 (.int 5)) 54 (.int 6)) 54 (.int 7)) 54 (.int 8)) 54 (.int 9)) 54 (.int 10)) 54 (.int 11)) 54 (.int 12)) 54 (.int 13)) 54 (.int 14)) 54 (.int 15)) 54 (.int 16)) 54 (.int 15)) 54 (.int 14)) 54 (.int 13)) 54 (.int 12)) 54 (.int 11)) 54 (.int 10)) 54 (.int 9)) 54 (.int 8)) 54 (.int 7)) 54 (.int 6)) 54 (.int 5)) 54 (.int 4)) 54 (.int 3)) 54 (.int 2)) 54 (.int 1)) 54 (.int 0)) 32 (.int 16)) 40 (.int 0)) 46 (.int 0))), (a1, zI K 10 (va_up (va_up (va_up (va_up (va_up (va_up (va_up (va_up (va_up (va_up (va_up (va_up (va_up (va_up f1 0 0) 1 0) 2 0) 3 0) 4 0) 5 0) 6 0) 7 0) 8 0) 9 0) 6 1) 6 2) 6 3) 0 3)), (a2, zI K 1290 (va_up (va_up (va_up (va_up (va_up f2 1280 4) 1281 4) 1282 2) 1283 0) 1284 0)), (a3, zI K 1290 (va_up (va_up (va_up f3 1282 (nI j0)) 1283 x1) 1284 x2)), (a4, zI K 1290 (va_up (va_up (va_up (va_up (va_up f4 1282 1283) 1283 1284) 1281 1284) 1284 1285) 1280 1285)), (a5, zI K 900 (va_up (va_up f5 0 4) 1 4)), (a6, zI K 900 (va_up (va_up f6 0 1280) 1 1281)), (a7, zI K 900 (va_up (va_up f7 0 (-1)) 1 (-1))), (a8, zI K 900 (va_up (va_up f8 0 0) 1 0)), (a9, zI K 60000 (va_up (va_up (va_up (va_up (va_up (va_up (va_up (va_up (va_up (va_up (va_up (va_up (va_up (va_up (va_up (va_up f9 0 0) 1 0) 2 0) 3 0) 4 0) 5 0) 6 0) 7 0) 8 0) 9 0) 10 0) 11 0) 12 0) 13 0) 14 0) 15 0)), (a10, zI K 16 f10), (a11, zI K 210000 (va_up (va_up (va_up (va_up (va_up (va_up (va_up (va_up (va_up (va_up (va_up (va_up (va_up (va_up (va_up (va_up (va_up (va_up (va_up (va_up (va_up (va_up (va_up (va_up (va_up (va_up (va_up (va_up (va_up (va_up (va_up (va_up (va_up (va_up (va_up (va_up (va_up (va_up (va_up (va_up (va_up (va_up (va_up (va_up (va_up (va_up (va_up (va_up f11 0 (-1)) 1 (-1)) 2 (-1)) 3 (-1)) 4 (-1)) 5 (-1)) 6 (-1)) 7 (-1)) 8 (-1)) 9 (-1)) 10 (-1)) 11 (-1)) 12 (-1)) 13 (-1)) 14 (-1)) 15 (-1)) 0 0) 1 0) 2 0) 3 0) 4 0) 5 0) 6 0) 7 0) 8 0) 9 0) 10 0) 11 0) 12 0) 13 0) 14 0) 15 0) 0 0) 1 1) 2 2) 3 3) 4 4) 5 5) 6 6) 7 7) 8 8) 9 9) 10 10) 11 11) 12 12) 13 13) 14 14) 15 15)), (a12, zI K 210000 (va_up (va_up (va_up (va_up (va_up (va_up (va_up (va_up (va_up (va_up (va_up (va_up (va_up (va_up (va_up (va_up f12 0 0) 1 1) 2 2) 3 3) 4 4) 5 5) 6 6) 7 7) 8 8) 9 9) 10 10) 11 11) 12 12) 13 13) 14 14) 15 15)), (a13, zI K 60000 (va_up (va_up (va_up (va_up (va_up (va_up (va_up (va_up (va_up (va_up (va_up (va_up (va_up (va_up (va_up (va_up f13 0 0) 1 0) 2 0) 3 0) 4 0) 5 0) 6 0) 7 0) 8 0) 9 0) 10 0) 11 0) 12 0) 13 0) 14 0) 15 0)), (a14, zI K 60000 (va_up (va_up (va_up (va_up (va_up (va_up (va_up (va_up (va_up (va_up (va_up (va_up (va_up (va_up (va_up (va_up f14 0 0) 1 0) 2 0) 3 0) 4 0) 5 0) 6 0) 7 0) 8 0) 9 0) 10 0) 11 0) 12 0) 13 0) 14 0) 15 0)), (a15, zI K 60000 (va_up (va_up (va_up (va_up (va_up (va_up (va_up (va_up (va_up (va_up (va_up (va_up (va_up (va_up (va_up (va_up f15 0 0) 1 0) 2 0) 3 0) 4 0) 5 0) 6 0) 7 0) 8 0) 9 0) 10 0) 11 0) 12 0) 13 0) 14 0) 15 0)), (a16, zI K 60000 (va_up (va_up (va_up (va_up (va_up (va_up (va_up (va_up (va_up (va_up (va_up (va_up (va_up (va_up (va_up (va_up f16 0 0) 1 0) 2 0) 3 0) 4 0) 5 0) 6 0) 7 0) 8 0) 9 0) 10 0) 11 0) 12 0) 13 0) 14 0) 15 0)), (a17, zI K 60000 (va_up (va_up (va_up (va_up (va_up (va_up (va_up (va_up (va_up (va_up (va_up (va_up (va_up (va_up (va_up (va_up f17 0 (-1)) 1 (-1)) 2 (-1)) 3 (-1)) 4 (-1)) 5 (-1)) 6 (-1)) 7 (-1)) 8 (-1)) 9 (-1)) 10 (-1)) 11 (-1)) 12 (-1)) 13 (-1)) 14 (-1)) 15 (-1))), (a18, zI K 60000 (va_up (va_up (va_up (va_up (va_up (va_up (va_up (va_up (va_up (va_up (va_up (va_up (va_up (va_up (va_up (va_up f18 0 0) 1 0) 2 0) 3 0) 4 0) 5 0) 6 0) 7 0) 8 0) 9 0) 10 0) 11 0) 12 0) 13 0) 14 0) 15 0))] := hD
  obtain ⟨gg11, y12⟩ : ∃ z, z = ((va_up (va_up (va_up (va_up (va_up (va_up (va_up (va_up (va_up (va_up (va_up (va_up (va_up (va_up (va_up (va_up (va_up (va_up (va_up (va_up (va_up (va_up (va_up (va_up (va_up (va_up (va_up (va_up (va_up (va_up (va_up (va_up (va_up (va_up (va_up (va_up (va_up (va_up (va_up (va_up (va_up (va_up (va_up (va_up (va_up (va_up (va_up (va_up (va_up (va_up (va_up (va_up (va_up (va_up (va_up (va_up (va_up (va_up (va_up (va_up (va_up (va_up (va_up gg6 79 (.int 0)) 55 (.int 0)) 58 (.int 0)) 59 (.int 600)) 72 (.int 0)) 77 (.int 0)) 62 (.int 1280)) 63 (.int (-1))) 64 (.int 0)) 65 (.int 0)) 61 (.int (-1))) 58 (.int 1)) 72 (.int 1)) 62 (.int 1281)) 63 (.int (-1))) 64 (.int 0)) 65 (.int 0)) 58 (.int 2)) 72 (.int 2)) 62 (.int 1282)) 63 (.int (-1))) 64 (.int 0)) 65 (.int 0)) 58 (.int 3)) 61 (.int 5)) 72 (.int 1)) 72 (.int 0)) 54 (.int 0)) 54 (.int 1)) 54 (.int 2)) 54 (.int 3)) 54 (.int 4)) 54 (.int 5)) 54 (.int 6)) 54 (.int 7)) 54 (.int 8)) 54 (.int 9)) 54 (.int 10)) 54 (.int 11)) 54 (.int 12)) 54 (.int 13)) 54 (.int 14)) 54 (.int 15)) 54 (.int 16)) 54 (.int 15)) 54 (.int 14)) 54 (.int 13)) 54 (.int 12)) 54 (.int 11)) 54 (.int 10)) 54 (.int 9)) 54 (.int 8)) 54 (.int 7)) 54 (.int 6)) 54 (.int 5)) 54 (.int 4)) 54 (.int 3)) 54 (.int 2)) 54 (.int 1)) 54 (.int 0)) 32 (.int 16)) 40 (.int 0)) 46 (.int 0)) : Nat → Value) := ⟨_, rfl⟩
  rw [← y12] at hP hD
  obtain ⟨ff13, y14⟩ : ∃ z, z = ((va_up (va_up (va_up (va_up (va_up (va_up (va_up (va_up (va_up (va_up (va_up (va_up (va_up (va_up f1 0 0) 1 0) 2 0) 3 0) 4 0) 5 0) 6 0) 7 0) 8 0) 9 0) 6 1) 6 2) 6 3) 0 3) : Nat → Int32) := ⟨_, rfl⟩
  rw [← y14] at hP hD
  obtain ⟨ff15, y16⟩ : ∃ z, z = ((va_up (va_up (va_up (va_up (va_up f2 1280 4) 1281 4) 1282 2) 1283 0) 1284 0) : Nat → Int32) := ⟨_, rfl⟩
  rw [← y16] at hP hD
  obtain ⟨ff17, y18⟩ : ∃ z, z = ((va_up (va_up (va_up f3 1282 (nI j0)) 1283 x1) 1284 x2) : Nat → Int32) := ⟨_, rfl⟩
  rw [← y18] at hP hD
  obtain ⟨ff19, y20⟩ : ∃ z, z = ((va_up (va_up (va_up (va_up (va_up f4 1282 1283) 1283 1284) 1281 1284) 1284 1285) 1280 1285) : Nat → Int32) := ⟨_, rfl⟩
  rw [← y20] at hP hD
  obtain ⟨ff21, y22⟩ : ∃ z, z = ((va_up (va_up f5 0 4) 1 4) : Nat → Int32) := ⟨_, rfl⟩
  rw [← y22] at hP hD
  obtain ⟨ff23, y24⟩ : ∃ z, z = ((va_up (va_up f6 0 1280) 1 1281) : Nat → Int32) := ⟨_, rfl⟩
  rw [← y24] at hP hD
  obtain ⟨ff25, y26⟩ : ∃ z, z = ((va_up (va_up f7 0 (-1)) 1 (-1)) : Nat → Int32) := ⟨_, rfl⟩
  rw [← y26] at hP hD
  obtain ⟨ff27, y28⟩ : ∃ z, z = ((va_up (va_up f8 0 0) 1 0) : Nat → Int32) := ⟨_, rfl⟩
  rw [← y28] at hP hD
  obtain ⟨ff29, y30⟩ : ∃ z, z = ((va_up (va_up (va_up (va_up (va_up (va_up (va_up (va_up (va_up (va_up (va_up (va_up (va_up (va_up (va_up (va_up f9 0 0) 1 0) 2 0) 3 0) 4 0) 5 0) 6 0) 7 0) 8 0) 9 0) 10 0) 11 0) 12 0) 13 0) 14 0) 15 0) : Nat → Int32) := ⟨_, rfl⟩
  rw [← y30] at hP hD
  obtain ⟨ff31, y32⟩ : ∃ z, z = ((va_up (va_up (va_up (va_up (va_up (va_up (va_up (va_up (va_up (va_up (va_up (va_up (va_up (va_up (va_up (va_up (va_up (va_up (va_up (va_up (va_up (va_up (va_up (va_up (va_up (va_up (va_up (va_up (va_up (va_up (va_up (va_up (va_up (va_up (va_up (va_up (va_up (va_up (va_up (va_up (va_up (va_up (va_up (va_up (va_up (va_up (va_up (va_up f11 0 (-1)) 1 (-1)) 2 (-1)) 3 (-1)) 4 (-1)) 5 (-1)) 6 (-1)) 7 (-1)) 8 (-1)) 9 (-1)) 10 (-1)) 11 (-1)) 12 (-1)) 13 (-1)) 14 (-1)) 15 (-1)) 0 0) 1 0) 2 0) 3 0) 4 0) 5 0) 6 0) 7 0) 8 0) 9 0) 10 0) 11 0) 12 0) 13 0) 14 0) 15 0) 0 0) 1 1) 2 2) 3 3) 4 4) 5 5) 6 6) 7 7) 8 8) 9 9) 10 10) 11 11) 12 12) 13 13) 14 14) 15 15) : Nat → Int32) := ⟨_, rfl⟩
  rw [← y32] at hP hD
  obtain ⟨ff33, y34⟩ : ∃ z, z = ((va_up (va_up (va_up (va_up (va_up (va_up (va_up (va_up (va_up (va_up (va_up (va_up (va_up (va_up (va_up (va_up f12 0 0) 1 1) 2 2) 3 3) 4 4) 5 5) 6 6) 7 7) 8 8) 9 9) 10 10) 11 11) 12 12) 13 13) 14 14) 15 15) : Nat → Int32) := ⟨_, rfl⟩
  rw [← y34] at hP hD
  obtain ⟨ff35, y36⟩ : ∃ z, z = ((va_up (va_up (va_up (va_up (va_up (va_up (va_up (va_up (va_up (va_up (va_up (va_up (va_up (va_up (va_up (va_up f13 0 0) 1 0) 2 0) 3 0) 4 0) 5 0) 6 0) 7 0) 8 0) 9 0) 10 0) 11 0) 12 0) 13 0) 14 0) 15 0) : Nat → Int32) := ⟨_, rfl⟩
  rw [← y36] at hP hD
  obtain ⟨ff37, y38⟩ : ∃ z, z = ((va_up (va_up (va_up (va_up (va_up (va_up (va_up (va_up (va_up (va_up (va_up (va_up (va_up (va_up (va_up (va_up f14 0 0) 1 0) 2 0) 3 0) 4 0) 5 0) 6 0) 7 0) 8 0) 9 0) 10 0) 11 0) 12 0) 13 0) 14 0) 15 0) : Nat → Int32) := ⟨_, rfl⟩
  rw [← y38] at hP hD
  obtain ⟨ff39, y40⟩ : ∃ z, z = ((va_up (va_up (va_up (va_up (va_up (va_up (va_up (va_up (va_up (va_up (va_up (va_up (va_up (va_up (va_up (va_up f15 0 0) 1 0) 2 0) 3 0) 4 0) 5 0) 6 0) 7 0) 8 0) 9 0) 10 0) 11 0) 12 0) 13 0) 14 0) 15 0) : Nat → Int32) := ⟨_, rfl⟩
  rw [← y40] at hP hD
  obtain ⟨ff41, y42⟩ : ∃ z, z = ((va_up (va_up (va_up (va_up (va_up (va_up (va_up (va_up (va_up (va_up (va_up (va_up (va_up (va_up (va_up (va_up f16 0 0) 1 0) 2 0) 3 0) 4 0) 5 0) 6 0) 7 0) 8 0) 9 0) 10 0) 11 0) 12 0) 13 0) 14 0) 15 0) : Nat → Int32) := ⟨_, rfl⟩
  rw [← y42] at hP hD
  obtain ⟨ff43, y44⟩ : ∃ z, z = ((va_up (va_up (va_up (va_up (va_up (va_up (va_up (va_up (va_up (va_up (va_up (va_up (va_up (va_up (va_up (va_up f17 0 (-1)) 1 (-1)) 2 (-1)) 3 (-1)) 4 (-1)) 5 (-1)) 6 (-1)) 7 (-1)) 8 (-1)) 9 (-1)) 10 (-1)) 11 (-1)) 12 (-1)) 13 (-1)) 14 (-1)) 15 (-1)) : Nat → Int32) := ⟨_, rfl⟩
  rw [← y44] at hP hD
  obtain ⟨ff45, y46⟩ : ∃ z, z = ((va_up (va_up (va_up (va_up (va_up (va_up (va_up (va_up (va_up (va_up (va_up (va_up (va_up (va_up (va_up (va_up f18 0 0) 1 0) 2 0) 3 0) 4 0) 5 0) 6 0) 7 0) 8 0) 9 0) 10 0) 11 0) 12 0) 13 0) 14 0) 15 0) : Nat → Int32) := ⟨_, rfl⟩
  rw [← y46] at hP hD
  subst y46
  subst y44
  subst y42
  subst y40
  subst y38
  subst y36
  subst y34
  subst y32
  subst y30
  subst y28
  subst y26
  subst y24
  subst y22
  subst y20
  subst y18
  subst y16
  subst y14
  subst y12
  subst y7
  subst y5
  have hP9 : va_P K.1 classes [(a0, zO 10 83 (va_up (va_up (va_up (va_up (va_up (va_up (va_up (va_up (va_up (va_up (va_up (va_up (va_up (va_up (va_up (va_up (va_up (va_up (va_up (va_up (va_up (va_up (va_up (va_up (va_up (va_up (va_up (va_up (va_up (va_up (va_up (va_up (va_up (va_up (va_up (va_up (va_up (va_up (va_up (va_up (va_up (va_up (va_up (va_up (va_up (va_up (va_up (va_up (va_up (va_up (va_up (va_up (va_up (va_up (va_up (va_up (va_up (va_up (va_up (va_up (va_up (va_up (va_up (va_up (va_up (va_up g0 81 (.int 0)) 56 (.int 1)) 60 (.int 0)) 79 (.int 0)) 55 (.int 0)) 58 (.int 0)) 59 (.int 600)) 72 (.int 0)) 77 (.int 0)) 62 (.int 1280)) 63 (.int (-1))) 64 (.int 0)) 65 (.int 0)) 61 (.int (-1))) 58 (.int 1)) 72 (.int 1)) 62 (.int 1281)) 63 (.int (-1))) 64 (.int 0)) 65 (.int 0)) 58 (.int 2)) 72 (.int 2)) 62 (.int 1282)) 63 (.int (-1))) 64 (.int 0)) 65 (.int 0)) 58 (.int 3)) 61 (.int 5)) 72 (.int 1)) 72 (.int 0)) 54 (.int 0)) 54 (.int 1)) 54 (.int 2)) 54 (.int 3)) 54 (.int 4)) 54 (.int 5)) 54 (.int 6)) 54 (.int 7)) 54 (.int 8)) 54 (.int 9)) 54 (.int 10)) 54 (.int 11)) 54 (.int 12)) 54 (.int 13)) 54 (.int 14)) 54 (.int 15)) 54 (.int 16)) 54 (.int 15)) 54 (.int 14)) 54 (.int 13)) 54 (.int 12)) 54 (.int 11)) 54 (.int 10)) 54 (.int 9)) 54 (.int 8)) 54 (.int 7)) 54 (.int 6)) 54 (.int 5)) 54 (.int 4)) 54 (.int 3)) 54 (.int 2)) 54 (.int 1)) 54 (.int 0)) 32 (.int 16)) 40 (.int 0)) 46 (.int 0)))] H := hP.sub [0] rfl
  have hD9 : va_D A [(a0, zO 10 83 (va_up (va_up (va_up (va_up (va_up (va_up (va_up (va_up (va_up (va_up (va_up (va_up (va_up (va_up (va_up (va_up (va_up (va_up (va_up (va_up (va_up (va_up (va_up (va_up (va_up (va_up (va_up (va_up (va_up (va_up (va_up (va_up (va_up (va_up (va_up (va_up (va_up (va_up (va_up (va_up (va_up (va_up (va_up (va_up (va_up (va_up (va_up (va_up (va_up (va_up (va_up (va_up (va_up (va_up (va_up (va_up (va_up (va_up (va_up (va_up (va_up (va_up (va_up (va_up (va_up (va_up g0 81 (.int 0)) 56 (.int 1)) 60 (.int 0)) 79 (.int 0)) 55 (.int 0)) 58 (.int 0)) 59 (.int 600)) 72 (.int 0)) 77 (.int 0)) 62 (.int 1280)) 63 (.int (-1))) 64 (.int 0)) 65 (.int 0)) 61 (.int (-1))) 58 (.int 1)) 72 (.int 1)) 62 (.int 1281)) 63 (.int (-1))) 64 (.int 0)) 65 (.int 0)) 58 (.int 2)) 72 (.int 2)) 62 (.int 1282)) 63 (.int (-1))) 64 (.int 0)) 65 (.int 0)) 58 (.int 3)) 61 (.int 5)) 72 (.int 1)) 72 (.int 0)) 54 (.int 0)) 54 (.int 1)) 54 (.int 2)) 54 (.int 3)) 54 (.int 4)) 54 (.int 5)) 54 (.int 6)) 54 (.int 7)) 54 (.int 8)) 54 (.int 9)) 54 (.int 10)) 54 (.int 11)) 54 (.int 12)) 54 (.int 13)) 54 (.int 14)) 54 (.int 15)) 54 (.int 16)) 54 (.int 15)) 54 (.int 14)) 54 (.int 13)) 54 (.int 12)) 54 (.int 11)) 54 (.int 10)) 54 (.int 9)) 54 (.int 8)) 54 (.int 7)) 54 (.int 6)) 54 (.int 5)) 54 (.int 4)) 54 (.int 3)) 54 (.int 2)) 54 (.int 1)) 54 (.int 0)) 32 (.int 16)) 40 (.int 0)) 46 (.int 0)))] := hD.sub [0] (by decide) rfl
  exact z_iret hx hb hr (fun _ => 0) rfl hP9 hD9 hS (Nat.le_of_ble_eq_true rfl) (Nat.le_of_ble_eq_true rfl) hlocks dX12_plainly_35
set_option maxHeartbeats 4000000 in
set_option maxRecDepth 100000 in
theorem cX11_plainly_6 (l : Launch) (hl9 : l.stackTraces = false) (K : zK) (sz : Nat) (a0 : Nat) (g0 : Nat → Value) (j0 : Nat) (hj0 : j0 < 8) (x1 : Int32) (x2 : Int32) (x3 : Int32) (e0 : ¬ x1 < (0 : Int32)) (e1 : ¬ x1 < (3 : Int32)) : vx_Met l yX11_plainly (Cond.code yX11_plainly cX11_plainly 8 (some .int) :: WG) { frames := 8, cells := 1, slots := 6, locals := 127 } (zPre K [(a0, zO 9 9 g0)] sz [.ref a0, .int (nI j0), .int x1, .int x2, .int x3, .int 0]) (va_Qv (fun _ : Unit => False) (fun _ _ => True) (va_A [(a0, zO 9 9 g0)] sz)) (zX (va_A [(a0, zO 9 9 g0)] sz) zIA) 1 6 (va_A [(a0, zO 9 9 g0)] sz) := by
  refine z_xmet (Qc := fun A => va_Qv (fun _ : Unit => False) (fun _ _ => True) A) (XC := fun A => zX A zIA) (by decide +kernel) (Nat.le_of_ble_eq_true rfl) ?_
  intro p e s m args below meth c A ls H hx hb hr hg hown hlocks hml hno hK hP hD hA hS hZ hl
  have hown : s.vm.findClass RX11 = some m.cls := hown
  have hl : lv_has ls 8 [(0, .ref a0), (1, .int (nI j0)), (2, .int x1), (3, .int x2), (4, .int x3), (5, .int 0)] := hl
  refine lv_aload_n hx hb dX11_plainly_0 rfl (lv_at hl 0 rfl) ?_
  refine lv_iload_n hx hb dX11_plainly_1 rfl (lv_at hl 1 rfl) ?_
  refine lv_iload_n hx hb dX11_plainly_2 rfl (lv_at hl 2 rfl) ?_
  refine lv_iload hx hb dX11_plainly_3 (lv_at hl 5 rfl) ?_
  refine z_xcall (EX := zIA) [(a0, zO 9 9 g0)] [0] hP hD hS hA rfl (by decide) 1 6 rfl rfl (fun hPc hDc hF => z_xrunV (As := [.int (nI j0), .int x1, .int 0]) (rest := []) ⟨hx, hb, hml, hown, hg⟩ (cX11_programToRun_8 l hl9 K H.size a0 g0 j0 hj0 x1 e0 e1) kV_RX11_130 hd_X11_programToRun rfl rfl ⟨(Nat.le_of_ble_eq_true rfl), (Nat.le_of_ble_eq_true rfl)⟩ hK hS hZ hPc hDc hF 0 rfl rfl rfl hl.1 rfl (Nat.le_of_ble_eq_true rfl) dX11_plainly_5 ⟨(Nat.le_of_ble_eq_true rfl), (Nat.le_of_ble_eq_true rfl)⟩) (fun ce q9 H locs hS hce hcv hcl => ?_)
  exact z_xout hno hlocks hS hce hcv hcl (Nat.le_of_ble_eq_true rfl) (Nat.le_of_ble_eq_true rfl)
set_option maxHeartbeats 4000000 in
set_option maxRecDepth 100000 in
theorem cL_plainly_6 (l : Launch) (hl9 : l.stackTraces = false) (K : zK) (sz : Nat) (a0 : Nat) (a1 : Nat) (g0 : Nat → Value) (j0 : Nat) (hj0 : j0 < 8) (x1 : Int32) (x2 : Int32) (x3 : Int32) (e0 : ¬ x1 < (0 : Int32)) (e1 : ¬ x1 < (3 : Int32)) : vx_Met l yL_plainly (Cond.codeWith yL_plainly cL_plainly 8 (some .int) [(0, 16, 19, 18), (0, 16, 23, 13)] :: WG) { frames := 9, cells := 1, slots := 6, locals := 154 } (zPre K [(a0, zO 9 9 g0)] sz [.ref a0, .int (nI j0), .int x1, .int x2, .int x3, .int 0, .ref a1]) (va_Qi (fun (r : Int32) (_ : Nat → Nat) => r = 1) (zB K (va_A [(a0, zO 9 9 g0)] sz) (fun u : Nat → Nat => [])) (va_A [(a0, zO 9 9 g0)] sz)) (vx_X (fun _ : Unit => False) (fun _ _ _ => True) (va_A [(a0, zO 9 9 g0)] sz)) 1 6 (va_A [(a0, zO 9 9 g0)] sz) := by
  refine z_hmet (Qc := fun A => (va_Qi (fun (r : Int32) (_ : Nat → Nat) => r = 1) (zB K A (fun u : Nat → Nat => [])) A)) (XC := fun A => vx_X (fun _ : Unit => False) (fun _ _ _ => True) A) (by decide +kernel) (Nat.le_of_ble_eq_true rfl) ?_
  intro p e s m args below meth c A ls H hx hb hr hg hown hlocks hml hTab hK hP hD hA hS hZ hl
  have hown : s.vm.findClass RL = some m.cls := hown
  have hl : lv_has ls 8 [(0, .ref a0), (1, .int (nI j0)), (2, .int x1), (3, .int x2), (4, .int x3), (5, .int 0), (6, .ref a1)] := hl
  refine lv_aload hx hb dL_plainly_0 (lv_at hl 6 rfl) ?_
  refine lv_iconst (v := 0) hx hb dL_plainly_2 (by decide) ?_
  refine lv_aload_n hx hb dL_plainly_3 rfl (lv_at hl 0 rfl) ?_
  refine lv_iload_n hx hb dL_plainly_4 rfl (lv_at hl 1 rfl) ?_
  refine lv_iload_n hx hb dL_plainly_5 rfl (lv_at hl 2 rfl) ?_
  refine lv_iload_n hx hb dL_plainly_6 rfl (lv_at hl 3 rfl) ?_
  refine lv_iload hx hb dL_plainly_7 (lv_at hl 4 rfl) ?_
  refine lv_iload hx hb dL_plainly_9 (lv_at hl 5 rfl) ?_
  refine z_xcall (EX := zIA) [(a0, zO 9 9 g0)] [0] hP hD hS hA rfl (by decide) 1 6 rfl rfl (fun hPc hDc hF => z_xrunV (As := [.int (nI j0), .int x1, .int x2, .int x3, .int 0]) (rest := [.int 0, .ref a1]) ⟨hx, hb, hml, hown, hg⟩ (cX11_plainly_6 l hl9 K H.size a0 g0 j0 hj0 x1 x2 x3 e0 e1) kV_RL_77 hd_X11_plainly rfl rfl ⟨(Nat.le_of_ble_eq_true rfl), (Nat.le_of_ble_eq_true rfl)⟩ hK hS hZ hPc hDc hF 0 rfl rfl rfl hl.1 rfl (Nat.le_of_ble_eq_true rfl) dL_plainly_11 ⟨(Nat.le_of_ble_eq_true rfl), (Nat.le_of_ble_eq_true rfl)⟩) (fun ce q9 H locs hS hce hcv hcl => ?_)
  refine vx_catch (own := RL) (name := zIA) (E := zIA) hown [] ⟨0, 16, 19, 18⟩ [⟨0, 16, 23, 13⟩] (by rw [hTab]; rfl) (fun z hz => nomatch hz) (by decide) (by decide) (hg _ mt491) (va_Nw.use rfl hZ.1.1.2.1) hce hcv hcl ?_
  have hP : va_P K.1 classes [] H := z_P0
  have hD : va_D A [] := z_D0
  refine lv_astore (lv' := [(7, .ref q9), (0, .ref a0), (1, .int (nI j0)), (2, .int x1), (3, .int x2), (4, .int x3), (5, .int 0), (6, .ref a1)]) hx hb dL_plainly_19 hl (by decide) rfl (fun ls hl => ?_)
  refine lv_iconst (v := 1) hx hb dL_plainly_21 (by decide) ?_
  have hP9 : va_P K.1 classes [] H := hP.sub [] rfl
  have hD9 : va_D A [] := hD.sub [] (by decide) rfl
  exact z_iret hx hb hr (fun _ => 0) rfl hP9 hD9 hS (Nat.le_of_ble_eq_true rfl) (Nat.le_of_ble_eq_true rfl) hlocks dL_plainly_22
set_option maxHeartbeats 4000000 in
set_option maxRecDepth 100000 in
theorem cX12_plainly_6 (l : Launch) (K : zK) (sz : Nat) (a0 : Nat) (g0 : Nat → Value) (j0 : Nat) (hj0 : j0 < 8) (x1 : Int32) (x2 : Int32) (x3 : Int32) (e0 : ¬ x1 < (0 : Int32)) (e1 : (2 : Int32) < x1) : Met l yX12_plainly (Cond.code yX12_plainly cX12_plainly 6 (some .int) :: WG) { frames := 3, cells := 0, slots := 0, locals := 66 } (zPre K [(a0, zO 10 83 g0)] sz [.ref a0, .int (nI j0), .int x1, .int x2, .int x3, .int 0]) (va_Qi (fun (r : Int32) (_ : Nat → Nat) => r = 0) (zB K (va_A [(a0, zO 10 83 g0)] sz) (fun u : Nat → Nat => [(a0, zO 10 83 (va_up g0 81 (.int 1)))])) (va_A [(a0, zO 10 83 g0)] sz)) 0 0 (va_A [(a0, zO 10 83 g0)] sz) := by
  refine z_met (Qc := fun A => (va_Qi (fun (r : Int32) (_ : Nat → Nat) => r = 0) (zB K A (fun u : Nat → Nat => [(a0, zO 10 83 (va_up g0 81 (.int 1)))])) A)) (by decide +kernel) (Nat.le_of_ble_eq_true rfl) ?_
  intro p e s m args below meth c A ls H hx hb hr hg hown hlocks hml hin hK hP hD hA hS hZ hl
  have hown : s.vm.findClass RX12 = some m.cls := hown
  have hl : lv_has ls 6 [(0, .ref a0), (1, .int (nI j0)), (2, .int x1), (3, .int x2), (4, .int x3), (5, .int 0)] := hl
  refine lv_aload_n hx hb dX12_plainly_0 rfl (lv_at hl 0 rfl) ?_
  refine lv_iload_n hx hb dX12_plainly_1 rfl (lv_at hl 1 rfl) ?_
  refine lv_iload_n hx hb dX12_plainly_2 rfl (lv_at hl 2 rfl) ?_
  refine lv_iconst (v := 1) hx hb dX12_plainly_3 (by decide) ?_
  refine lv_iload hx hb dX12_plainly_4 (lv_at hl 5 rfl) ?_
  refine z_calli [(a0, zO 10 83 g0)] [] [0] [] hP hD hS hA rfl rfl (by decide) (by decide) (by decide +kernel) 0 0 rfl rfl (fun hPc hDc hF => z_runV (As := [.int (nI j0), .int x1, .int 1, .int 0]) (rest := []) ⟨hx, hb, hml, hown, hg⟩ (cX12_mayRun_13 l K H.size a0 g0 j0 hj0 x1 e0 e1) kV_RX12_492 hd_X12_mayRun rfl rfl ⟨(Nat.le_of_ble_eq_true rfl), (Nat.le_of_ble_eq_true rfl)⟩ hK hS hZ hPc hDc hF 0 rfl rfl rfl hl.1 rfl (Nat.le_of_ble_eq_true rfl) dX12_plainly_6 ⟨(Nat.le_of_ble_eq_true rfl), (Nat.le_of_ble_eq_true rfl)⟩) (fun r3 u1 H locs w2 hP hD hS => ?_)
  subst w2
  have hP : va_P K.1 classes [(a0, zO 10 83 (va_up g0 81 (.int 1)))] H := hP
  have hD : va_D A [(a0, zO 10 83 (va_up g0 81 (.int 1)))] := hD
  refine lv_if_ne (tgt := 14) hx hb dX12_plainly_9 (by decide) (fun c => absurd (by decide) c) (fun _ => ?_)
  refine lv_iconst (v := 0) hx hb dX12_plainly_12 (by decide) ?_
  have hP9 : va_P K.1 classes [(a0, zO 10 83 (va_up g0 81 (.int 1)))] H := hP.sub [0] rfl
  have hD9 : va_D A [(a0, zO 10 83 (va_up g0 81 (.int 1)))] := hD.sub [0] (by decide) rfl
  exact z_iret hx hb hr (fun _ => 0) rfl hP9 hD9 hS (Nat.le_of_ble_eq_true rfl) (Nat.le_of_ble_eq_true rfl) hlocks dX12_plainly_13
set_option maxHeartbeats 4000000 in
set_option maxRecDepth 100000 in
theorem cX11_plainly_7 (l : Launch) (hl9 : l.stackTraces = false) (K : zK) (sz : Nat) (a0 : Nat) (g0 : Nat → Value) (x0 : Int32) (x1 : Int32) (x2 : Int32) (x3 : Int32) (e0 : ¬ x0 < (0 : Int32)) (e1 : ¬ x0 < (8 : Int32)) : vx_Met l yX11_plainly (Cond.code yX11_plainly cX11_plainly 8 (some .int) :: WG) { frames := 8, cells := 1, slots := 6, locals := 127 } (zPre K [(a0, zO 9 9 g0)] sz [.ref a0, .int x0, .int x1, .int x2, .int x3, .int 0]) (va_Qv (fun _ : Unit => False) (fun _ _ => True) (va_A [(a0, zO 9 9 g0)] sz)) (zX (va_A [(a0, zO 9 9 g0)] sz) zIA) 1 6 (va_A [(a0, zO 9 9 g0)] sz) := by
  refine z_xmet (Qc := fun A => va_Qv (fun _ : Unit => False) (fun _ _ => True) A) (XC := fun A => zX A zIA) (by decide +kernel) (Nat.le_of_ble_eq_true rfl) ?_
  intro p e s m args below meth c A ls H hx hb hr hg hown hlocks hml hno hK hP hD hA hS hZ hl
  have hown : s.vm.findClass RX11 = some m.cls := hown
  have hl : lv_has ls 8 [(0, .ref a0), (1, .int x0), (2, .int x1), (3, .int x2), (4, .int x3), (5, .int 0)] := hl
  refine lv_aload_n hx hb dX11_plainly_0 rfl (lv_at hl 0 rfl) ?_
  refine lv_iload_n hx hb dX11_plainly_1 rfl (lv_at hl 1 rfl) ?_
  refine lv_iload_n hx hb dX11_plainly_2 rfl (lv_at hl 2 rfl) ?_
  refine lv_iload hx hb dX11_plainly_3 (lv_at hl 5 rfl) ?_
  refine z_xcall (EX := zIA) [(a0, zO 9 9 g0)] [0] hP hD hS hA rfl (by decide) 1 6 rfl rfl (fun hPc hDc hF => z_xrunV (As := [.int x0, .int x1, .int 0]) (rest := []) ⟨hx, hb, hml, hown, hg⟩ (cX11_programToRun_9 l hl9 K H.size a0 g0 x0 x1 e0 e1) kV_RX11_130 hd_X11_programToRun rfl rfl ⟨(Nat.le_of_ble_eq_true rfl), (Nat.le_of_ble_eq_true rfl)⟩ hK hS hZ hPc hDc hF 0 rfl rfl rfl hl.1 rfl (Nat.le_of_ble_eq_true rfl) dX11_plainly_5 ⟨(Nat.le_of_ble_eq_true rfl), (Nat.le_of_ble_eq_true rfl)⟩) (fun ce q9 H locs hS hce hcv hcl => ?_)
  exact z_xout hno hlocks hS hce hcv hcl (Nat.le_of_ble_eq_true rfl) (Nat.le_of_ble_eq_true rfl)
set_option maxHeartbeats 4000000 in
set_option maxRecDepth 100000 in
theorem cL_plainly_7 (l : Launch) (hl9 : l.stackTraces = false) (K : zK) (sz : Nat) (a0 : Nat) (a1 : Nat) (g0 : Nat → Value) (x0 : Int32) (x1 : Int32) (x2 : Int32) (x3 : Int32) (e0 : ¬ x0 < (0 : Int32)) (e1 : ¬ x0 < (8 : Int32)) : vx_Met l yL_plainly (Cond.codeWith yL_plainly cL_plainly 8 (some .int) [(0, 16, 19, 18), (0, 16, 23, 13)] :: WG) { frames := 9, cells := 1, slots := 6, locals := 154 } (zPre K [(a0, zO 9 9 g0)] sz [.ref a0, .int x0, .int x1, .int x2, .int x3, .int 0, .ref a1]) (va_Qi (fun (r : Int32) (_ : Nat → Nat) => r = 1) (zB K (va_A [(a0, zO 9 9 g0)] sz) (fun u : Nat → Nat => [])) (va_A [(a0, zO 9 9 g0)] sz)) (vx_X (fun _ : Unit => False) (fun _ _ _ => True) (va_A [(a0, zO 9 9 g0)] sz)) 1 6 (va_A [(a0, zO 9 9 g0)] sz) := by
  refine z_hmet (Qc := fun A => (va_Qi (fun (r : Int32) (_ : Nat → Nat) => r = 1) (zB K A (fun u : Nat → Nat => [])) A)) (XC := fun A => vx_X (fun _ : Unit => False) (fun _ _ _ => True) A) (by decide +kernel) (Nat.le_of_ble_eq_true rfl) ?_
  intro p e s m args below meth c A ls H hx hb hr hg hown hlocks hml hTab hK hP hD hA hS hZ hl
  have hown : s.vm.findClass RL = some m.cls := hown
  have hl : lv_has ls 8 [(0, .ref a0), (1, .int x0), (2, .int x1), (3, .int x2), (4, .int x3), (5, .int 0), (6, .ref a1)] := hl
  refine lv_aload hx hb dL_plainly_0 (lv_at hl 6 rfl) ?_
  refine lv_iconst (v := 0) hx hb dL_plainly_2 (by decide) ?_
  refine lv_aload_n hx hb dL_plainly_3 rfl (lv_at hl 0 rfl) ?_
  refine lv_iload_n hx hb dL_plainly_4 rfl (lv_at hl 1 rfl) ?_
  refine lv_iload_n hx hb dL_plainly_5 rfl (lv_at hl 2 rfl) ?_
  refine lv_iload_n hx hb dL_plainly_6 rfl (lv_at hl 3 rfl) ?_
  refine lv_iload hx hb dL_plainly_7 (lv_at hl 4 rfl) ?_
  refine lv_iload hx hb dL_plainly_9 (lv_at hl 5 rfl) ?_
  refine z_xcall (EX := zIA) [(a0, zO 9 9 g0)] [0] hP hD hS hA rfl (by decide) 1 6 rfl rfl (fun hPc hDc hF => z_xrunV (As := [.int x0, .int x1, .int x2, .int x3, .int 0]) (rest := [.int 0, .ref a1]) ⟨hx, hb, hml, hown, hg⟩ (cX11_plainly_7 l hl9 K H.size a0 g0 x0 x1 x2 x3 e0 e1) kV_RL_77 hd_X11_plainly rfl rfl ⟨(Nat.le_of_ble_eq_true rfl), (Nat.le_of_ble_eq_true rfl)⟩ hK hS hZ hPc hDc hF 0 rfl rfl rfl hl.1 rfl (Nat.le_of_ble_eq_true rfl) dL_plainly_11 ⟨(Nat.le_of_ble_eq_true rfl), (Nat.le_of_ble_eq_true rfl)⟩) (fun ce q9 H locs hS hce hcv hcl => ?_)
  refine vx_catch (own := RL) (name := zIA) (E := zIA) hown [] ⟨0, 16, 19, 18⟩ [⟨0, 16, 23, 13⟩] (by rw [hTab]; rfl) (fun z hz => nomatch hz) (by decide) (by decide) (hg _ mt491) (va_Nw.use rfl hZ.1.1.2.1) hce hcv hcl ?_
  have hP : va_P K.1 classes [] H := z_P0
  have hD : va_D A [] := z_D0
  refine lv_astore (lv' := [(7, .ref q9), (0, .ref a0), (1, .int x0), (2, .int x1), (3, .int x2), (4, .int x3), (5, .int 0), (6, .ref a1)]) hx hb dL_plainly_19 hl (by decide) rfl (fun ls hl => ?_)
  refine lv_iconst (v := 1) hx hb dL_plainly_21 (by decide) ?_
  have hP9 : va_P K.1 classes [] H := hP.sub [] rfl
  have hD9 : va_D A [] := hD.sub [] (by decide) rfl
  exact z_iret hx hb hr (fun _ => 0) rfl hP9 hD9 hS (Nat.le_of_ble_eq_true rfl) (Nat.le_of_ble_eq_true rfl) hlocks dL_plainly_22
set_option maxHeartbeats 4000000 in
set_option maxRecDepth 100000 in
theorem cX12_plainly_7 (l : Launch) (K : zK) (sz : Nat) (a0 : Nat) (g0 : Nat → Value) (x0 : Int32) (x1 : Int32) (x2 : Int32) (x3 : Int32) (e0 : ¬ x0 < (0 : Int32)) (e1 : (7 : Int32) < x0) : Met l yX12_plainly (Cond.code yX12_plainly cX12_plainly 6 (some .int) :: WG) { frames := 3, cells := 0, slots := 0, locals := 66 } (zPre K [(a0, zO 10 83 g0)] sz [.ref a0, .int x0, .int x1, .int x2, .int x3, .int 0]) (va_Qi (fun (r : Int32) (_ : Nat → Nat) => r = 0) (zB K (va_A [(a0, zO 10 83 g0)] sz) (fun u : Nat → Nat => [(a0, zO 10 83 (va_up g0 81 (.int 1)))])) (va_A [(a0, zO 10 83 g0)] sz)) 0 0 (va_A [(a0, zO 10 83 g0)] sz) := by
  refine z_met (Qc := fun A => (va_Qi (fun (r : Int32) (_ : Nat → Nat) => r = 0) (zB K A (fun u : Nat → Nat => [(a0, zO 10 83 (va_up g0 81 (.int 1)))])) A)) (by decide +kernel) (Nat.le_of_ble_eq_true rfl) ?_
  intro p e s m args below meth c A ls H hx hb hr hg hown hlocks hml hin hK hP hD hA hS hZ hl
  have hown : s.vm.findClass RX12 = some m.cls := hown
  have hl : lv_has ls 6 [(0, .ref a0), (1, .int x0), (2, .int x1), (3, .int x2), (4, .int x3), (5, .int 0)] := hl
  refine lv_aload_n hx hb dX12_plainly_0 rfl (lv_at hl 0 rfl) ?_
  refine lv_iload_n hx hb dX12_plainly_1 rfl (lv_at hl 1 rfl) ?_
  refine lv_iload_n hx hb dX12_plainly_2 rfl (lv_at hl 2 rfl) ?_
  refine lv_iconst (v := 1) hx hb dX12_plainly_3 (by decide) ?_
  refine lv_iload hx hb dX12_plainly_4 (lv_at hl 5 rfl) ?_
  refine z_calli [(a0, zO 10 83 g0)] [] [0] [] hP hD hS hA rfl rfl (by decide) (by decide) (by decide +kernel) 0 0 rfl rfl (fun hPc hDc hF => z_runV (As := [.int x0, .int x1, .int 1, .int 0]) (rest := []) ⟨hx, hb, hml, hown, hg⟩ (cX12_mayRun_14 l K H.size a0 g0 x0 x1 e0 e1) kV_RX12_492 hd_X12_mayRun rfl rfl ⟨(Nat.le_of_ble_eq_true rfl), (Nat.le_of_ble_eq_true rfl)⟩ hK hS hZ hPc hDc hF 0 rfl rfl rfl hl.1 rfl (Nat.le_of_ble_eq_true rfl) dX12_plainly_6 ⟨(Nat.le_of_ble_eq_true rfl), (Nat.le_of_ble_eq_true rfl)⟩) (fun r3 u1 H locs w2 hP hD hS => ?_)
  subst w2
  have hP : va_P K.1 classes [(a0, zO 10 83 (va_up g0 81 (.int 1)))] H := hP
  have hD : va_D A [(a0, zO 10 83 (va_up g0 81 (.int 1)))] := hD
  refine lv_if_ne (tgt := 14) hx hb dX12_plainly_9 (by decide) (fun c => absurd (by decide) c) (fun _ => ?_)
  refine lv_iconst (v := 0) hx hb dX12_plainly_12 (by decide) ?_
  have hP9 : va_P K.1 classes [(a0, zO 10 83 (va_up g0 81 (.int 1)))] H := hP.sub [0] rfl
  have hD9 : va_D A [(a0, zO 10 83 (va_up g0 81 (.int 1)))] := hD.sub [0] (by decide) rfl
  exact z_iret hx hb hr (fun _ => 0) rfl hP9 hD9 hS (Nat.le_of_ble_eq_true rfl) (Nat.le_of_ble_eq_true rfl) hlocks dX12_plainly_13
set_option maxHeartbeats 4000000 in
set_option maxRecDepth 100000 in
theorem cX11_plainly_8 (l : Launch) (hl9 : l.stackTraces = false) (K : zK) (sz : Nat) (a0 : Nat) (g0 : Nat → Value) (x0 : Int32) (x1 : Int32) (x2 : Int32) (x3 : Int32) (e0 : x0 < (0 : Int32)) : vx_Met l yX11_plainly (Cond.code yX11_plainly cX11_plainly 8 (some .int) :: WG) { frames := 8, cells := 1, slots := 6, locals := 127 } (zPre K [(a0, zO 9 9 g0)] sz [.ref a0, .int x0, .int x1, .int x2, .int x3, .int 1]) (va_Qv (fun _ : Unit => False) (fun _ _ => True) (va_A [(a0, zO 9 9 g0)] sz)) (zX (va_A [(a0, zO 9 9 g0)] sz) zIA) 1 6 (va_A [(a0, zO 9 9 g0)] sz) := by
  refine z_xmet (Qc := fun A => va_Qv (fun _ : Unit => False) (fun _ _ => True) A) (XC := fun A => zX A zIA) (by decide +kernel) (Nat.le_of_ble_eq_true rfl) ?_
  intro p e s m args below meth c A ls H hx hb hr hg hown hlocks hml hno hK hP hD hA hS hZ hl
  have hown : s.vm.findClass RX11 = some m.cls := hown
  have hl : lv_has ls 8 [(0, .ref a0), (1, .int x0), (2, .int x1), (3, .int x2), (4, .int x3), (5, .int 1)] := hl
  refine lv_aload_n hx hb dX11_plainly_0 rfl (lv_at hl 0 rfl) ?_
  refine lv_iload_n hx hb dX11_plainly_1 rfl (lv_at hl 1 rfl) ?_
  refine lv_iload_n hx hb dX11_plainly_2 rfl (lv_at hl 2 rfl) ?_
  refine lv_iload hx hb dX11_plainly_3 (lv_at hl 5 rfl) ?_
  refine z_xcall (EX := zIA) [(a0, zO 9 9 g0)] [0] hP hD hS hA rfl (by decide) 1 6 rfl rfl (fun hPc hDc hF => z_xrunV (As := [.int x0, .int x1, .int 1]) (rest := []) ⟨hx, hb, hml, hown, hg⟩ (cX11_programToRun_10 l hl9 K H.size a0 g0 x0 x1 e0) kV_RX11_130 hd_X11_programToRun rfl rfl ⟨(Nat.le_of_ble_eq_true rfl), (Nat.le_of_ble_eq_true rfl)⟩ hK hS hZ hPc hDc hF 0 rfl rfl rfl hl.1 rfl (Nat.le_of_ble_eq_true rfl) dX11_plainly_5 ⟨(Nat.le_of_ble_eq_true rfl), (Nat.le_of_ble_eq_true rfl)⟩) (fun ce q9 H locs hS hce hcv hcl => ?_)
  exact z_xout hno hlocks hS hce hcv hcl (Nat.le_of_ble_eq_true rfl) (Nat.le_of_ble_eq_true rfl)
set_option maxHeartbeats 4000000 in
set_option maxRecDepth 100000 in
theorem cL_plainly_8 (l : Launch) (hl9 : l.stackTraces = false) (K : zK) (sz : Nat) (a0 : Nat) (a1 : Nat) (g0 : Nat → Value) (x0 : Int32) (x1 : Int32) (x2 : Int32) (x3 : Int32) (e0 : x0 < (0 : Int32)) : vx_Met l yL_plainly (Cond.codeWith yL_plainly cL_plainly 8 (some .int) [(0, 16, 19, 18), (0, 16, 23, 13)] :: WG) { frames := 9, cells := 1, slots := 6, locals := 154 } (zPre K [(a0, zO 9 9 g0)] sz [.ref a0, .int x0, .int x1, .int x2, .int x3, .int 1, .ref a1]) (va_Qi (fun (r : Int32) (_ : Nat → Nat) => r = 1) (zB K (va_A [(a0, zO 9 9 g0)] sz) (fun u : Nat → Nat => [])) (va_A [(a0, zO 9 9 g0)] sz)) (vx_X (fun _ : Unit => False) (fun _ _ _ => True) (va_A [(a0, zO 9 9 g0)] sz)) 1 6 (va_A [(a0, zO 9 9 g0)] sz) := by
  refine z_hmet (Qc := fun A => (va_Qi (fun (r : Int32) (_ : Nat → Nat) => r = 1) (zB K A (fun u : Nat → Nat => [])) A)) (XC := fun A => vx_X (fun _ : Unit => False) (fun _ _ _ => True) A) (by decide +kernel) (Nat.le_of_ble_eq_true rfl) ?_
  intro p e s m args below meth c A ls H hx hb hr hg hown hlocks hml hTab hK hP hD hA hS hZ hl
  have hown : s.vm.findClass RL = some m.cls := hown
  have hl : lv_has ls 8 [(0, .ref a0), (1, .int x0), (2, .int x1), (3, .int x2), (4, .int x3), (5, .int 1), (6, .ref a1)] := hl
  refine lv_aload hx hb dL_plainly_0 (lv_at hl 6 rfl) ?_
  refine lv_iconst (v := 0) hx hb dL_plainly_2 (by decide) ?_
  refine lv_aload_n hx hb dL_plainly_3 rfl (lv_at hl 0 rfl) ?_
  refine lv_iload_n hx hb dL_plainly_4 rfl (lv_at hl 1 rfl) ?_
  refine lv_iload_n hx hb dL_plainly_5 rfl (lv_at hl 2 rfl) ?_
  refine lv_iload_n hx hb dL_plainly_6 rfl (lv_at hl 3 rfl) ?_
  refine lv_iload hx hb dL_plainly_7 (lv_at hl 4 rfl) ?_
  refine lv_iload hx hb dL_plainly_9 (lv_at hl 5 rfl) ?_
  refine z_xcall (EX := zIA) [(a0, zO 9 9 g0)] [0] hP hD hS hA rfl (by decide) 1 6 rfl rfl (fun hPc hDc hF => z_xrunV (As := [.int x0, .int x1, .int x2, .int x3, .int 1]) (rest := [.int 0, .ref a1]) ⟨hx, hb, hml, hown, hg⟩ (cX11_plainly_8 l hl9 K H.size a0 g0 x0 x1 x2 x3 e0) kV_RL_77 hd_X11_plainly rfl rfl ⟨(Nat.le_of_ble_eq_true rfl), (Nat.le_of_ble_eq_true rfl)⟩ hK hS hZ hPc hDc hF 0 rfl rfl rfl hl.1 rfl (Nat.le_of_ble_eq_true rfl) dL_plainly_11 ⟨(Nat.le_of_ble_eq_true rfl), (Nat.le_of_ble_eq_true rfl)⟩) (fun ce q9 H locs hS hce hcv hcl => ?_)
  refine vx_catch (own := RL) (name := zIA) (E := zIA) hown [] ⟨0, 16, 19, 18⟩ [⟨0, 16, 23, 13⟩] (by rw [hTab]; rfl) (fun z hz => nomatch hz) (by decide) (by decide) (hg _ mt491) (va_Nw.use rfl hZ.1.1.2.1) hce hcv hcl ?_
  have hP : va_P K.1 classes [] H := z_P0
  have hD : va_D A [] := z_D0
  refine lv_astore (lv' := [(7, .ref q9), (0, .ref a0), (1, .int x0), (2, .int x1), (3, .int x2), (4, .int x3), (5, .int 1), (6, .ref a1)]) hx hb dL_plainly_19 hl (by decide) rfl (fun ls hl => ?_)
  refine lv_iconst (v := 1) hx hb dL_plainly_21 (by decide) ?_
  have hP9 : va_P K.1 classes [] H := hP.sub [] rfl
  have hD9 : va_D A [] := hD.sub [] (by decide) rfl
  exact z_iret hx hb hr (fun _ => 0) rfl hP9 hD9 hS (Nat.le_of_ble_eq_true rfl) (Nat.le_of_ble_eq_true rfl) hlocks dL_plainly_22
set_option maxHeartbeats 4000000 in
set_option maxRecDepth 100000 in
theorem cX12_plainly_8 (l : Launch) (K : zK) (sz : Nat) (a0 : Nat) (g0 : Nat → Value) (x0 : Int32) (x1 : Int32) (x2 : Int32) (x3 : Int32) (e0 : x0 < (0 : Int32)) : Met l yX12_plainly (Cond.code yX12_plainly cX12_plainly 6 (some .int) :: WG) { frames := 3, cells := 0, slots := 0, locals := 66 } (zPre K [(a0, zO 10 83 g0)] sz [.ref a0, .int x0, .int x1, .int x2, .int x3, .int 1]) (va_Qi (fun (r : Int32) (_ : Nat → Nat) => r = 0) (zB K (va_A [(a0, zO 10 83 g0)] sz) (fun u : Nat → Nat => [(a0, zO 10 83 (va_up g0 81 (.int 1)))])) (va_A [(a0, zO 10 83 g0)] sz)) 0 0 (va_A [(a0, zO 10 83 g0)] sz) := by
  refine z_met (Qc := fun A => (va_Qi (fun (r : Int32) (_ : Nat → Nat) => r = 0) (zB K A (fun u : Nat → Nat => [(a0, zO 10 83 (va_up g0 81 (.int 1)))])) A)) (by decide +kernel) (Nat.le_of_ble_eq_true rfl) ?_
  intro p e s m args below meth c A ls H hx hb hr hg hown hlocks hml hin hK hP hD hA hS hZ hl
  have hown : s.vm.findClass RX12 = some m.cls := hown
  have hl : lv_has ls 6 [(0, .ref a0), (1, .int x0), (2, .int x1), (3, .int x2), (4, .int x3), (5, .int 1)] := hl
  refine lv_aload_n hx hb dX12_plainly_0 rfl (lv_at hl 0 rfl) ?_
  refine lv_iload_n hx hb dX12_plainly_1 rfl (lv_at hl 1 rfl) ?_
  refine lv_iload_n hx hb dX12_plainly_2 rfl (lv_at hl 2 rfl) ?_
  refine lv_iconst (v := 1) hx hb dX12_plainly_3 (by decide) ?_
  refine lv_iload hx hb dX12_plainly_4 (lv_at hl 5 rfl) ?_
  refine z_calli [(a0, zO 10 83 g0)] [] [0] [] hP hD hS hA rfl rfl (by decide) (by decide) (by decide +kernel) 0 0 rfl rfl (fun hPc hDc hF => z_runV (As := [.int x0, .int x1, .int 1, .int 1]) (rest := []) ⟨hx, hb, hml, hown, hg⟩ (cX12_mayRun_20 l K H.size a0 g0 x0 x1 e0) kV_RX12_492 hd_X12_mayRun rfl rfl ⟨(Nat.le_of_ble_eq_true rfl), (Nat.le_of_ble_eq_true rfl)⟩ hK hS hZ hPc hDc hF 0 rfl rfl rfl hl.1 rfl (Nat.le_of_ble_eq_true rfl) dX12_plainly_6 ⟨(Nat.le_of_ble_eq_true rfl), (Nat.le_of_ble_eq_true rfl)⟩) (fun r3 u1 H locs w2 hP hD hS => ?_)
  subst w2
  have hP : va_P K.1 classes [(a0, zO 10 83 (va_up g0 81 (.int 1)))] H := hP
  have hD : va_D A [(a0, zO 10 83 (va_up g0 81 (.int 1)))] := hD
  refine lv_if_ne (tgt := 14) hx hb dX12_plainly_9 (by decide) (fun c => absurd (by decide) c) (fun _ => ?_)
  refine lv_iconst (v := 0) hx hb dX12_plainly_12 (by decide) ?_
  have hP9 : va_P K.1 classes [(a0, zO 10 83 (va_up g0 81 (.int 1)))] H := hP.sub [0] rfl
  have hD9 : va_D A [(a0, zO 10 83 (va_up g0 81 (.int 1)))] := hD.sub [0] (by decide) rfl
  exact z_iret hx hb hr (fun _ => 0) rfl hP9 hD9 hS (Nat.le_of_ble_eq_true rfl) (Nat.le_of_ble_eq_true rfl) hlocks dX12_plainly_13
set_option maxHeartbeats 4000000 in
set_option maxRecDepth 100000 in
theorem cX11_plainly_9 (l : Launch) (hl9 : l.stackTraces = false) (K : zK) (sz : Nat) (a0 : Nat) (g0 : Nat → Value) (j0 : Nat) (hj0 : j0 < 8) (x1 : Int32) (x2 : Int32) (x3 : Int32) (e0 : x1 < (0 : Int32)) : vx_Met l yX11_plainly (Cond.code yX11_plainly cX11_plainly 8 (some .int) :: WG) { frames := 8, cells := 1, slots := 6, locals := 127 } (zPre K [(a0, zO 9 9 g0)] sz [.ref a0, .int (nI j0), .int x1, .int x2, .int x3, .int 1]) (va_Qv (fun _ : Unit => False) (fun _ _ => True) (va_A [(a0, zO 9 9 g0)] sz)) (zX (va_A [(a0, zO 9 9 g0)] sz) zIA) 1 6 (va_A [(a0, zO 9 9 g0)] sz) := by
  refine z_xmet (Qc := fun A => va_Qv (fun _ : Unit => False) (fun _ _ => True) A) (XC := fun A => zX A zIA) (by decide +kernel) (Nat.le_of_ble_eq_true rfl) ?_
  intro p e s m args below meth c A ls H hx hb hr hg hown hlocks hml hno hK hP hD hA hS hZ hl
  have hown : s.vm.findClass RX11 = some m.cls := hown
  have hl : lv_has ls 8 [(0, .ref a0), (1, .int (nI j0)), (2, .int x1), (3, .int x2), (4, .int x3), (5, .int 1)] := hl
  refine lv_aload_n hx hb dX11_plainly_0 rfl (lv_at hl 0 rfl) ?_
  refine lv_iload_n hx hb dX11_plainly_1 rfl (lv_at hl 1 rfl) ?_
  refine lv_iload_n hx hb dX11_plainly_2 rfl (lv_at hl 2 rfl) ?_
  refine lv_iload hx hb dX11_plainly_3 (lv_at hl 5 rfl) ?_
  refine z_xcall (EX := zIA) [(a0, zO 9 9 g0)] [0] hP hD hS hA rfl (by decide) 1 6 rfl rfl (fun hPc hDc hF => z_xrunV (As := [.int (nI j0), .int x1, .int 1]) (rest := []) ⟨hx, hb, hml, hown, hg⟩ (cX11_programToRun_11 l hl9 K H.size a0 g0 j0 hj0 x1 e0) kV_RX11_130 hd_X11_programToRun rfl rfl ⟨(Nat.le_of_ble_eq_true rfl), (Nat.le_of_ble_eq_true rfl)⟩ hK hS hZ hPc hDc hF 0 rfl rfl rfl hl.1 rfl (Nat.le_of_ble_eq_true rfl) dX11_plainly_5 ⟨(Nat.le_of_ble_eq_true rfl), (Nat.le_of_ble_eq_true rfl)⟩) (fun ce q9 H locs hS hce hcv hcl => ?_)
  exact z_xout hno hlocks hS hce hcv hcl (Nat.le_of_ble_eq_true rfl) (Nat.le_of_ble_eq_true rfl)
set_option maxHeartbeats 4000000 in
set_option maxRecDepth 100000 in
theorem cL_plainly_9 (l : Launch) (hl9 : l.stackTraces = false) (K : zK) (sz : Nat) (a0 : Nat) (a1 : Nat) (g0 : Nat → Value) (j0 : Nat) (hj0 : j0 < 8) (x1 : Int32) (x2 : Int32) (x3 : Int32) (e0 : x1 < (0 : Int32)) : vx_Met l yL_plainly (Cond.codeWith yL_plainly cL_plainly 8 (some .int) [(0, 16, 19, 18), (0, 16, 23, 13)] :: WG) { frames := 9, cells := 1, slots := 6, locals := 154 } (zPre K [(a0, zO 9 9 g0)] sz [.ref a0, .int (nI j0), .int x1, .int x2, .int x3, .int 1, .ref a1]) (va_Qi (fun (r : Int32) (_ : Nat → Nat) => r = 1) (zB K (va_A [(a0, zO 9 9 g0)] sz) (fun u : Nat → Nat => [])) (va_A [(a0, zO 9 9 g0)] sz)) (vx_X (fun _ : Unit => False) (fun _ _ _ => True) (va_A [(a0, zO 9 9 g0)] sz)) 1 6 (va_A [(a0, zO 9 9 g0)] sz) := by
  refine z_hmet (Qc := fun A => (va_Qi (fun (r : Int32) (_ : Nat → Nat) => r = 1) (zB K A (fun u : Nat → Nat => [])) A)) (XC := fun A => vx_X (fun _ : Unit => False) (fun _ _ _ => True) A) (by decide +kernel) (Nat.le_of_ble_eq_true rfl) ?_
  intro p e s m args below meth c A ls H hx hb hr hg hown hlocks hml hTab hK hP hD hA hS hZ hl
  have hown : s.vm.findClass RL = some m.cls := hown
  have hl : lv_has ls 8 [(0, .ref a0), (1, .int (nI j0)), (2, .int x1), (3, .int x2), (4, .int x3), (5, .int 1), (6, .ref a1)] := hl
  refine lv_aload hx hb dL_plainly_0 (lv_at hl 6 rfl) ?_
  refine lv_iconst (v := 0) hx hb dL_plainly_2 (by decide) ?_
  refine lv_aload_n hx hb dL_plainly_3 rfl (lv_at hl 0 rfl) ?_
  refine lv_iload_n hx hb dL_plainly_4 rfl (lv_at hl 1 rfl) ?_
  refine lv_iload_n hx hb dL_plainly_5 rfl (lv_at hl 2 rfl) ?_
  refine lv_iload_n hx hb dL_plainly_6 rfl (lv_at hl 3 rfl) ?_
  refine lv_iload hx hb dL_plainly_7 (lv_at hl 4 rfl) ?_
  refine lv_iload hx hb dL_plainly_9 (lv_at hl 5 rfl) ?_
  refine z_xcall (EX := zIA) [(a0, zO 9 9 g0)] [0] hP hD hS hA rfl (by decide) 1 6 rfl rfl (fun hPc hDc hF => z_xrunV (As := [.int (nI j0), .int x1, .int x2, .int x3, .int 1]) (rest := [.int 0, .ref a1]) ⟨hx, hb, hml, hown, hg⟩ (cX11_plainly_9 l hl9 K H.size a0 g0 j0 hj0 x1 x2 x3 e0) kV_RL_77 hd_X11_plainly rfl rfl ⟨(Nat.le_of_ble_eq_true rfl), (Nat.le_of_ble_eq_true rfl)⟩ hK hS hZ hPc hDc hF 0 rfl rfl rfl hl.1 rfl (Nat.le_of_ble_eq_true rfl) dL_plainly_11 ⟨(Nat.le_of_ble_eq_true rfl), (Nat.le_of_ble_eq_true rfl)⟩) (fun ce q9 H locs hS hce hcv hcl => ?_)
  refine vx_catch (own := RL) (name := zIA) (E := zIA) hown [] ⟨0, 16, 19, 18⟩ [⟨0, 16, 23, 13⟩] (by rw [hTab]; rfl) (fun z hz => nomatch hz) (by decide) (by decide) (hg _ mt491) (va_Nw.use rfl hZ.1.1.2.1) hce hcv hcl ?_
  have hP : va_P K.1 classes [] H := z_P0
  have hD : va_D A [] := z_D0
  refine lv_astore (lv' := [(7, .ref q9), (0, .ref a0), (1, .int (nI j0)), (2, .int x1), (3, .int x2), (4, .int x3), (5, .int 1), (6, .ref a1)]) hx hb dL_plainly_19 hl (by decide) rfl (fun ls hl => ?_)
  refine lv_iconst (v := 1) hx hb dL_plainly_21 (by decide) ?_
  have hP9 : va_P K.1 classes [] H := hP.sub [] rfl
  have hD9 : va_D A [] := hD.sub [] (by decide) rfl
  exact z_iret hx hb hr (fun _ => 0) rfl hP9 hD9 hS (Nat.le_of_ble_eq_true rfl) (Nat.le_of_ble_eq_true rfl) hlocks dL_plainly_22
set_option maxHeartbeats 4000000 in
set_option maxRecDepth 100000 in
theorem cX12_plainly_9 (l : Launch) (K : zK) (sz : Nat) (a0 : Nat) (g0 : Nat → Value) (j0 : Nat) (hj0 : j0 < 8) (x1 : Int32) (x2 : Int32) (x3 : Int32) (e0 : x1 < (0 : Int32)) : Met l yX12_plainly (Cond.code yX12_plainly cX12_plainly 6 (some .int) :: WG) { frames := 3, cells := 0, slots := 0, locals := 66 } (zPre K [(a0, zO 10 83 g0)] sz [.ref a0, .int (nI j0), .int x1, .int x2, .int x3, .int 1]) (va_Qi (fun (r : Int32) (_ : Nat → Nat) => r = 0) (zB K (va_A [(a0, zO 10 83 g0)] sz) (fun u : Nat → Nat => [(a0, zO 10 83 (va_up g0 81 (.int 1)))])) (va_A [(a0, zO 10 83 g0)] sz)) 0 0 (va_A [(a0, zO 10 83 g0)] sz) := by
  refine z_met (Qc := fun A => (va_Qi (fun (r : Int32) (_ : Nat → Nat) => r = 0) (zB K A (fun u : Nat → Nat => [(a0, zO 10 83 (va_up g0 81 (.int 1)))])) A)) (by decide +kernel) (Nat.le_of_ble_eq_true rfl) ?_
  intro p e s m args below meth c A ls H hx hb hr hg hown hlocks hml hin hK hP hD hA hS hZ hl
  have hown : s.vm.findClass RX12 = some m.cls := hown
  have hl : lv_has ls 6 [(0, .ref a0), (1, .int (nI j0)), (2, .int x1), (3, .int x2), (4, .int x3), (5, .int 1)] := hl
  refine lv_aload_n hx hb dX12_plainly_0 rfl (lv_at hl 0 rfl) ?_
  refine lv_iload_n hx hb dX12_plainly_1 rfl (lv_at hl 1 rfl) ?_
  refine lv_iload_n hx hb dX12_plainly_2 rfl (lv_at hl 2 rfl) ?_
  refine lv_iconst (v := 1) hx hb dX12_plainly_3 (by decide) ?_
  refine lv_iload hx hb dX12_plainly_4 (lv_at hl 5 rfl) ?_
  refine z_calli [(a0, zO 10 83 g0)] [] [0] [] hP hD hS hA rfl rfl (by decide) (by decide) (by decide +kernel) 0 0 rfl rfl (fun hPc hDc hF => z_runV (As := [.int (nI j0), .int x1, .int 1, .int 1]) (rest := []) ⟨hx, hb, hml, hown, hg⟩ (cX12_mayRun_21 l K H.size a0 g0 j0 hj0 x1 e0) kV_RX12_492 hd_X12_mayRun rfl rfl ⟨(Nat.le_of_ble_eq_true rfl), (Nat.le_of_ble_eq_true rfl)⟩ hK hS hZ hPc hDc hF 0 rfl rfl rfl hl.1 rfl (Nat.le_of_ble_eq_true rfl) dX12_plainly_6 ⟨(Nat.le_of_ble_eq_true rfl), (Nat.le_of_ble_eq_true rfl)⟩) (fun r3 u1 H locs w2 hP hD hS => ?_)
  subst w2
  have hP : va_P K.1 classes [(a0, zO 10 83 (va_up g0 81 (.int 1)))] H := hP
  have hD : va_D A [(a0, zO 10 83 (va_up g0 81 (.int 1)))] := hD
  refine lv_if_ne (tgt := 14) hx hb dX12_plainly_9 (by decide) (fun c => absurd (by decide) c) (fun _ => ?_)
  refine lv_iconst (v := 0) hx hb dX12_plainly_12 (by decide) ?_
  have hP9 : va_P K.1 classes [(a0, zO 10 83 (va_up g0 81 (.int 1)))] H := hP.sub [0] rfl
  have hD9 : va_D A [(a0, zO 10 83 (va_up g0 81 (.int 1)))] := hD.sub [0] (by decide) rfl
  exact z_iret hx hb hr (fun _ => 0) rfl hP9 hD9 hS (Nat.le_of_ble_eq_true rfl) (Nat.le_of_ble_eq_true rfl) hlocks dX12_plainly_13
set_option maxHeartbeats 4000000 in
set_option maxRecDepth 100000 in
theorem cX11_plainly_10 (l : Launch) (hl9 : l.stackTraces = false) (K : zK) (sz : Nat) (a0 : Nat) (g0 : Nat → Value) (j0 : Nat) (hj0 : j0 < 8) (j1 : Nat) (hj1 : j1 < 3) (x2 : Int32) (x3 : Int32) (e0 : g0 8 = (.int 0)) : vx_Met l yX11_plainly (Cond.code yX11_plainly cX11_plainly 8 (some .int) :: WG) { frames := 8, cells := 1, slots := 6, locals := 126 } (zPre K [(a0, zO 9 9 g0)] sz [.ref a0, .int (nI j0), .int (nI j1), .int x2, .int x3, .int 1]) (va_Qv (fun _ : Unit => False) (fun _ _ => True) (va_A [(a0, zO 9 9 g0)] sz)) (zX (va_A [(a0, zO 9 9 g0)] sz) zIS) 1 6 (va_A [(a0, zO 9 9 g0)] sz) := by
  refine z_xmet (Qc := fun A => va_Qv (fun _ : Unit => False) (fun _ _ => True) A) (XC := fun A => zX A zIS) (by decide +kernel) (Nat.le_of_ble_eq_true rfl) ?_
  intro p e s m args below meth c A ls H hx hb hr hg hown hlocks hml hno hK hP hD hA hS hZ hl
  have hown : s.vm.findClass RX11 = some m.cls := hown
  have hl : lv_has ls 8 [(0, .ref a0), (1, .int (nI j0)), (2, .int (nI j1)), (3, .int x2), (4, .int x3), (5, .int 1)] := hl
  refine lv_aload_n hx hb dX11_plainly_0 rfl (lv_at hl 0 rfl) ?_
  refine lv_iload_n hx hb dX11_plainly_1 rfl (lv_at hl 1 rfl) ?_
  refine lv_iload_n hx hb dX11_plainly_2 rfl (lv_at hl 2 rfl) ?_
  refine lv_iload hx hb dX11_plainly_3 (lv_at hl 5 rfl) ?_
  refine z_xcall (EX := zIS) [(a0, zO 9 9 g0)] [0] hP hD hS hA rfl (by decide) 1 6 rfl rfl (fun hPc hDc hF => z_xrunV (As := [.int (nI j0), .int (nI j1), .int 1]) (rest := []) ⟨hx, hb, hml, hown, hg⟩ (cX11_programToRun_12 l hl9 K H.size a0 g0 j0 hj0 j1 hj1 e0) kV_RX11_130 hd_X11_programToRun rfl rfl ⟨(Nat.le_of_ble_eq_true rfl), (Nat.le_of_ble_eq_true rfl)⟩ hK hS hZ hPc hDc hF 0 rfl rfl rfl hl.1 rfl (Nat.le_of_ble_eq_true rfl) dX11_plainly_5 ⟨(Nat.le_of_ble_eq_true rfl), (Nat.le_of_ble_eq_true rfl)⟩) (fun ce q9 H locs hS hce hcv hcl => ?_)
  exact z_xout hno hlocks hS hce hcv hcl (Nat.le_of_ble_eq_true rfl) (Nat.le_of_ble_eq_true rfl)
set_option maxHeartbeats 4000000 in
set_option maxRecDepth 100000 in
theorem cL_plainly_10 (l : Launch) (hl9 : l.stackTraces = false) (K : zK) (sz : Nat) (a0 : Nat) (a1 : Nat) (g0 : Nat → Value) (j0 : Nat) (hj0 : j0 < 8) (j1 : Nat) (hj1 : j1 < 3) (x2 : Int32) (x3 : Int32) (e0 : g0 8 = (.int 0)) : vx_Met l yL_plainly (Cond.codeWith yL_plainly cL_plainly 8 (some .int) [(0, 16, 19, 18), (0, 16, 23, 13)] :: WG) { frames := 9, cells := 1, slots := 6, locals := 153 } (zPre K [(a0, zO 9 9 g0)] sz [.ref a0, .int (nI j0), .int (nI j1), .int x2, .int x3, .int 1, .ref a1]) (va_Qi (fun (r : Int32) (_ : Nat → Nat) => r = 2) (zB K (va_A [(a0, zO 9 9 g0)] sz) (fun u : Nat → Nat => [])) (va_A [(a0, zO 9 9 g0)] sz)) (vx_X (fun _ : Unit => False) (fun _ _ _ => True) (va_A [(a0, zO 9 9 g0)] sz)) 1 6 (va_A [(a0, zO 9 9 g0)] sz) := by
  refine z_hmet (Qc := fun A => (va_Qi (fun (r : Int32) (_ : Nat → Nat) => r = 2) (zB K A (fun u : Nat → Nat => [])) A)) (XC := fun A => vx_X (fun _ : Unit => False) (fun _ _ _ => True) A) (by decide +kernel) (Nat.le_of_ble_eq_true rfl) ?_
  intro p e s m args below meth c A ls H hx hb hr hg hown hlocks hml hTab hK hP hD hA hS hZ hl
  have hown : s.vm.findClass RL = some m.cls := hown
  have hl : lv_has ls 8 [(0, .ref a0), (1, .int (nI j0)), (2, .int (nI j1)), (3, .int x2), (4, .int x3), (5, .int 1), (6, .ref a1)] := hl
  refine lv_aload hx hb dL_plainly_0 (lv_at hl 6 rfl) ?_
  refine lv_iconst (v := 0) hx hb dL_plainly_2 (by decide) ?_
  refine lv_aload_n hx hb dL_plainly_3 rfl (lv_at hl 0 rfl) ?_
  refine lv_iload_n hx hb dL_plainly_4 rfl (lv_at hl 1 rfl) ?_
  refine lv_iload_n hx hb dL_plainly_5 rfl (lv_at hl 2 rfl) ?_
  refine lv_iload_n hx hb dL_plainly_6 rfl (lv_at hl 3 rfl) ?_
  refine lv_iload hx hb dL_plainly_7 (lv_at hl 4 rfl) ?_
  refine lv_iload hx hb dL_plainly_9 (lv_at hl 5 rfl) ?_
  refine z_xcall (EX := zIS) [(a0, zO 9 9 g0)] [0] hP hD hS hA rfl (by decide) 1 6 rfl rfl (fun hPc hDc hF => z_xrunV (As := [.int (nI j0), .int (nI j1), .int x2, .int x3, .int 1]) (rest := [.int 0, .ref a1]) ⟨hx, hb, hml, hown, hg⟩ (cX11_plainly_10 l hl9 K H.size a0 g0 j0 hj0 j1 hj1 x2 x3 e0) kV_RL_77 hd_X11_plainly rfl rfl ⟨(Nat.le_of_ble_eq_true rfl), (Nat.le_of_ble_eq_true rfl)⟩ hK hS hZ hPc hDc hF 0 rfl rfl rfl hl.1 rfl (Nat.le_of_ble_eq_true rfl) dL_plainly_11 ⟨(Nat.le_of_ble_eq_true rfl), (Nat.le_of_ble_eq_true rfl)⟩) (fun ce q9 H locs hS hce hcv hcl => ?_)
  refine vx_catch (own := RL) (name := zIS) (E := zIS) hown [⟨0, 16, 19, 18⟩] ⟨0, 16, 23, 13⟩ [] (by rw [hTab]; rfl) (zP1 (Or.inr ⟨by decide, zIA, hg _ mt491, hZ.1.2.1.2.2.1⟩) zP0) (by decide) (by decide) (hg _ mt393) (va_Nw.use rfl hZ.1.1.2.2.1) hce hcv hcl ?_
  have hP : va_P K.1 classes [] H := z_P0
  have hD : va_D A [] := z_D0
  refine lv_astore (lv' := [(7, .ref q9), (0, .ref a0), (1, .int (nI j0)), (2, .int (nI j1)), (3, .int x2), (4, .int x3), (5, .int 1), (6, .ref a1)]) hx hb dL_plainly_23 hl (by decide) rfl (fun ls hl => ?_)
  refine lv_iconst (v := 2) hx hb dL_plainly_25 (by decide) ?_
  have hP9 : va_P K.1 classes [] H := hP.sub [] rfl
  have hD9 : va_D A [] := hD.sub [] (by decide) rfl
  exact z_iret hx hb hr (fun _ => 0) rfl hP9 hD9 hS (Nat.le_of_ble_eq_true rfl) (Nat.le_of_ble_eq_true rfl) hlocks dL_plainly_26
set_option maxHeartbeats 4000000 in
set_option maxRecDepth 100000 in
theorem cX12_plainly_10 (l : Launch) (K : zK) (sz : Nat) (a0 : Nat) (g0 : Nat → Value) (j0 : Nat) (hj0 : j0 < 8) (j1 : Nat) (hj1 : j1 < 3) (x2 : Int32) (x3 : Int32) (e0 : g0 15 = (.int 0)) : Met l yX12_plainly (Cond.code yX12_plainly cX12_plainly 6 (some .int) :: WG) { frames := 3, cells := 0, slots := 0, locals := 66 } (zPre K [(a0, zO 10 83 g0)] sz [.ref a0, .int (nI j0), .int (nI j1), .int x2, .int x3, .int 1]) (va_Qi (fun (r : Int32) (_ : Nat → Nat) => r = 0) (zB K (va_A [(a0, zO 10 83 g0)] sz) (fun u : Nat → Nat => [(a0, zO 10 83 (va_up g0 81 (.int 2)))])) (va_A [(a0, zO 10 83 g0)] sz)) 0 0 (va_A [(a0, zO 10 83 g0)] sz) := by
  refine z_met (Qc := fun A => (va_Qi (fun (r : Int32) (_ : Nat → Nat) => r = 0) (zB K A (fun u : Nat → Nat => [(a0, zO 10 83 (va_up g0 81 (.int 2)))])) A)) (by decide +kernel) (Nat.le_of_ble_eq_true rfl) ?_
  intro p e s m args below meth c A ls H hx hb hr hg hown hlocks hml hin hK hP hD hA hS hZ hl
  have hown : s.vm.findClass RX12 = some m.cls := hown
  have hl : lv_has ls 6 [(0, .ref a0), (1, .int (nI j0)), (2, .int (nI j1)), (3, .int x2), (4, .int x3), (5, .int 1)] := hl
  refine lv_aload_n hx hb dX12_plainly_0 rfl (lv_at hl 0 rfl) ?_
  refine lv_iload_n hx hb dX12_plainly_1 rfl (lv_at hl 1 rfl) ?_
  refine lv_iload_n hx hb dX12_plainly_2 rfl (lv_at hl 2 rfl) ?_
  refine lv_iconst (v := 1) hx hb dX12_plainly_3 (by decide) ?_
  refine lv_iload hx hb dX12_plainly_4 (lv_at hl 5 rfl) ?_
  refine z_calli [(a0, zO 10 83 g0)] [] [0] [] hP hD hS hA rfl rfl (by decide) (by decide) (by decide +kernel) 0 0 rfl rfl (fun hPc hDc hF => z_runV (As := [.int (nI j0), .int (nI j1), .int 1, .int 1]) (rest := []) ⟨hx, hb, hml, hown, hg⟩ (cX12_mayRun_22 l K H.size a0 g0 j0 hj0 j1 hj1 e0) kV_RX12_492 hd_X12_mayRun rfl rfl ⟨(Nat.le_of_ble_eq_true rfl), (Nat.le_of_ble_eq_true rfl)⟩ hK hS hZ hPc hDc hF 0 rfl rfl rfl hl.1 rfl (Nat.le_of_ble_eq_true rfl) dX12_plainly_6 ⟨(Nat.le_of_ble_eq_true rfl), (Nat.le_of_ble_eq_true rfl)⟩) (fun r3 u1 H locs w2 hP hD hS => ?_)
  subst w2
  have hP : va_P K.1 classes [(a0, zO 10 83 (va_up g0 81 (.int 2)))] H := hP
  have hD : va_D A [(a0, zO 10 83 (va_up g0 81 (.int 2)))] := hD
  refine lv_if_ne (tgt := 14) hx hb dX12_plainly_9 (by decide) (fun c => absurd (by decide) c) (fun _ => ?_)
  refine lv_iconst (v := 0) hx hb dX12_plainly_12 (by decide) ?_
  have hP9 : va_P K.1 classes [(a0, zO 10 83 (va_up g0 81 (.int 2)))] H := hP.sub [0] rfl
  have hD9 : va_D A [(a0, zO 10 83 (va_up g0 81 (.int 2)))] := hD.sub [0] (by decide) rfl
  exact z_iret hx hb hr (fun _ => 0) rfl hP9 hD9 hS (Nat.le_of_ble_eq_true rfl) (Nat.le_of_ble_eq_true rfl) hlocks dX12_plainly_13
set_option maxHeartbeats 4000000 in
set_option maxRecDepth 100000 in
theorem cX11_plainly_11 (l : Launch) (hl9 : l.stackTraces = false) (K : zK) (sz : Nat) (a0 : Nat) (g0 : Nat → Value) (j0 : Nat) (hj0 : j0 < 8) (x1 : Int32) (x2 : Int32) (x3 : Int32) (e0 : ¬ x1 < (0 : Int32)) (e1 : ¬ x1 < (3 : Int32)) : vx_Met l yX11_plainly (Cond.code yX11_plainly cX11_plainly 8 (some .int) :: WG) { frames := 8, cells := 1, slots := 6, locals := 127 } (zPre K [(a0, zO 9 9 g0)] sz [.ref a0, .int (nI j0), .int x1, .int x2, .int x3, .int 1]) (va_Qv (fun _ : Unit => False) (fun _ _ => True) (va_A [(a0, zO 9 9 g0)] sz)) (zX (va_A [(a0, zO 9 9 g0)] sz) zIA) 1 6 (va_A [(a0, zO 9 9 g0)] sz) := by
  refine z_xmet (Qc := fun A => va_Qv (fun _ : Unit => False) (fun _ _ => True) A) (XC := fun A => zX A zIA) (by decide +kernel) (Nat.le_of_ble_eq_true rfl) ?_
  intro p e s m args below meth c A ls H hx hb hr hg hown hlocks hml hno hK hP hD hA hS hZ hl
  have hown : s.vm.findClass RX11 = some m.cls := hown
  have hl : lv_has ls 8 [(0, .ref a0), (1, .int (nI j0)), (2, .int x1), (3, .int x2), (4, .int x3), (5, .int 1)] := hl
  refine lv_aload_n hx hb dX11_plainly_0 rfl (lv_at hl 0 rfl) ?_
  refine lv_iload_n hx hb dX11_plainly_1 rfl (lv_at hl 1 rfl) ?_
  refine lv_iload_n hx hb dX11_plainly_2 rfl (lv_at hl 2 rfl) ?_
  refine lv_iload hx hb dX11_plainly_3 (lv_at hl 5 rfl) ?_
  refine z_xcall (EX := zIA) [(a0, zO 9 9 g0)] [0] hP hD hS hA rfl (by decide) 1 6 rfl rfl (fun hPc hDc hF => z_xrunV (As := [.int (nI j0), .int x1, .int 1]) (rest := []) ⟨hx, hb, hml, hown, hg⟩ (cX11_programToRun_13 l hl9 K H.size a0 g0 j0 hj0 x1 e0 e1) kV_RX11_130 hd_X11_programToRun rfl rfl ⟨(Nat.le_of_ble_eq_true rfl), (Nat.le_of_ble_eq_true rfl)⟩ hK hS hZ hPc hDc hF 0 rfl rfl rfl hl.1 rfl (Nat.le_of_ble_eq_true rfl) dX11_plainly_5 ⟨(Nat.le_of_ble_eq_true rfl), (Nat.le_of_ble_eq_true rfl)⟩) (fun ce q9 H locs hS hce hcv hcl => ?_)
  exact z_xout hno hlocks hS hce hcv hcl (Nat.le_of_ble_eq_true rfl) (Nat.le_of_ble_eq_true rfl)
set_option maxHeartbeats 4000000 in
set_option maxRecDepth 100000 in
theorem cL_plainly_11 (l : Launch) (hl9 : l.stackTraces = false) (K : zK) (sz : Nat) (a0 : Nat) (a1 : Nat) (g0 : Nat → Value) (j0 : Nat) (hj0 : j0 < 8) (x1 : Int32) (x2 : Int32) (x3 : Int32) (e0 : ¬ x1 < (0 : Int32)) (e1 : ¬ x1 < (3 : Int32)) : vx_Met l yL_plainly (Cond.codeWith yL_plainly cL_plainly 8 (some .int) [(0, 16, 19, 18), (0, 16, 23, 13)] :: WG) { frames := 9, cells := 1, slots := 6, locals := 154 } (zPre K [(a0, zO 9 9 g0)] sz [.ref a0, .int (nI j0), .int x1, .int x2, .int x3, .int 1, .ref a1]) (va_Qi (fun (r : Int32) (_ : Nat → Nat) => r = 1) (zB K (va_A [(a0, zO 9 9 g0)] sz) (fun u : Nat → Nat => [])) (va_A [(a0, zO 9 9 g0)] sz)) (vx_X (fun _ : Unit => False) (fun _ _ _ => True) (va_A [(a0, zO 9 9 g0)] sz)) 1 6 (va_A [(a0, zO 9 9 g0)] sz) := by
  refine z_hmet (Qc := fun A => (va_Qi (fun (r : Int32) (_ : Nat → Nat) => r = 1) (zB K A (fun u : Nat → Nat => [])) A)) (XC := fun A => vx_X (fun _ : Unit => False) (fun _ _ _ => True) A) (by decide +kernel) (Nat.le_of_ble_eq_true rfl) ?_
  intro p e s m args below meth c A ls H hx hb hr hg hown hlocks hml hTab hK hP hD hA hS hZ hl
  have hown : s.vm.findClass RL = some m.cls := hown
  have hl : lv_has ls 8 [(0, .ref a0), (1, .int (nI j0)), (2, .int x1), (3, .int x2), (4, .int x3), (5, .int 1), (6, .ref a1)] := hl
  refine lv_aload hx hb dL_plainly_0 (lv_at hl 6 rfl) ?_
  refine lv_iconst (v := 0) hx hb dL_plainly_2 (by decide) ?_
  refine lv_aload_n hx hb dL_plainly_3 rfl (lv_at hl 0 rfl) ?_
  refine lv_iload_n hx hb dL_plainly_4 rfl (lv_at hl 1 rfl) ?_
  refine lv_iload_n hx hb dL_plainly_5 rfl (lv_at hl 2 rfl) ?_
  refine lv_iload_n hx hb dL_plainly_6 rfl (lv_at hl 3 rfl) ?_
  refine lv_iload hx hb dL_plainly_7 (lv_at hl 4 rfl) ?_
  refine lv_iload hx hb dL_plainly_9 (lv_at hl 5 rfl) ?_
  refine z_xcall (EX := zIA) [(a0, zO 9 9 g0)] [0] hP hD hS hA rfl (by decide) 1 6 rfl rfl (fun hPc hDc hF => z_xrunV (As := [.int (nI j0), .int x1, .int x2, .int x3, .int 1]) (rest := [.int 0, .ref a1]) ⟨hx, hb, hml, hown, hg⟩ (cX11_plainly_11 l hl9 K H.size a0 g0 j0 hj0 x1 x2 x3 e0 e1) kV_RL_77 hd_X11_plainly rfl rfl ⟨(Nat.le_of_ble_eq_true rfl), (Nat.le_of_ble_eq_true rfl)⟩ hK hS hZ hPc hDc hF 0 rfl rfl rfl hl.1 rfl (Nat.le_of_ble_eq_true rfl) dL_plainly_11 ⟨(Nat.le_of_ble_eq_true rfl), (Nat.le_of_ble_eq_true rfl)⟩) (fun ce q9 H locs hS hce hcv hcl => ?_)
  refine vx_catch (own := RL) (name := zIA) (E := zIA) hown [] ⟨0, 16, 19, 18⟩ [⟨0, 16, 23, 13⟩] (by rw [hTab]; rfl) (fun z hz => nomatch hz) (by decide) (by decide) (hg _ mt491) (va_Nw.use rfl hZ.1.1.2.1) hce hcv hcl ?_
  have hP : va_P K.1 classes [] H := z_P0
  have hD : va_D A [] := z_D0
  refine lv_astore (lv' := [(7, .ref q9), (0, .ref a0), (1, .int (nI j0)), (2, .int x1), (3, .int x2), (4, .int x3), (5, .int 1), (6, .ref a1)]) hx hb dL_plainly_19 hl (by decide) rfl (fun ls hl => ?_)
  refine lv_iconst (v := 1) hx hb dL_plainly_21 (by decide) ?_
  have hP9 : va_P K.1 classes [] H := hP.sub [] rfl
  have hD9 : va_D A [] := hD.sub [] (by decide) rfl
  exact z_iret hx hb hr (fun _ => 0) rfl hP9 hD9 hS (Nat.le_of_ble_eq_true rfl) (Nat.le_of_ble_eq_true rfl) hlocks dL_plainly_22
set_option maxHeartbeats 4000000 in
set_option maxRecDepth 100000 in
theorem cX12_plainly_11 (l : Launch) (K : zK) (sz : Nat) (a0 : Nat) (g0 : Nat → Value) (j0 : Nat) (hj0 : j0 < 8) (x1 : Int32) (x2 : Int32) (x3 : Int32) (e0 : ¬ x1 < (0 : Int32)) (e1 : (2 : Int32) < x1) : Met l yX12_plainly (Cond.code yX12_plainly cX12_plainly 6 (some .int) :: WG) { frames := 3, cells := 0, slots := 0, locals := 66 } (zPre K [(a0, zO 10 83 g0)] sz [.ref a0, .int (nI j0), .int x1, .int x2, .int x3, .int 1]) (va_Qi (fun (r : Int32) (_ : Nat → Nat) => r = 0) (zB K (va_A [(a0, zO 10 83 g0)] sz) (fun u : Nat → Nat => [(a0, zO 10 83 (va_up g0 81 (.int 1)))])) (va_A [(a0, zO 10 83 g0)] sz)) 0 0 (va_A [(a0, zO 10 83 g0)] sz) := by
  refine z_met (Qc := fun A => (va_Qi (fun (r : Int32) (_ : Nat → Nat) => r = 0) (zB K A (fun u : Nat → Nat => [(a0, zO 10 83 (va_up g0 81 (.int 1)))])) A)) (by decide +kernel) (Nat.le_of_ble_eq_true rfl) ?_
  intro p e s m args below meth c A ls H hx hb hr hg hown hlocks hml hin hK hP hD hA hS hZ hl
  have hown : s.vm.findClass RX12 = some m.cls := hown
  have hl : lv_has ls 6 [(0, .ref a0), (1, .int (nI j0)), (2, .int x1), (3, .int x2), (4, .int x3), (5, .int 1)] := hl
  refine lv_aload_n hx hb dX12_plainly_0 rfl (lv_at hl 0 rfl) ?_
  refine lv_iload_n hx hb dX12_plainly_1 rfl (lv_at hl 1 rfl) ?_
  refine lv_iload_n hx hb dX12_plainly_2 rfl (lv_at hl 2 rfl) ?_
  refine lv_iconst (v := 1) hx hb dX12_plainly_3 (by decide) ?_
  refine lv_iload hx hb dX12_plainly_4 (lv_at hl 5 rfl) ?_
  refine z_calli [(a0, zO 10 83 g0)] [] [0] [] hP hD hS hA rfl rfl (by decide) (by decide) (by decide +kernel) 0 0 rfl rfl (fun hPc hDc hF => z_runV (As := [.int (nI j0), .int x1, .int 1, .int 1]) (rest := []) ⟨hx, hb, hml, hown, hg⟩ (cX12_mayRun_23 l K H.size a0 g0 j0 hj0 x1 e0 e1) kV_RX12_492 hd_X12_mayRun rfl rfl ⟨(Nat.le_of_ble_eq_true rfl), (Nat.le_of_ble_eq_true rfl)⟩ hK hS hZ hPc hDc hF 0 rfl rfl rfl hl.1 rfl (Nat.le_of_ble_eq_true rfl) dX12_plainly_6 ⟨(Nat.le_of_ble_eq_true rfl), (Nat.le_of_ble_eq_true rfl)⟩) (fun r3 u1 H locs w2 hP hD hS => ?_)
  subst w2
  have hP : va_P K.1 classes [(a0, zO 10 83 (va_up g0 81 (.int 1)))] H := hP
  have hD : va_D A [(a0, zO 10 83 (va_up g0 81 (.int 1)))] := hD
  refine lv_if_ne (tgt := 14) hx hb dX12_plainly_9 (by decide) (fun c => absurd (by decide) c) (fun _ => ?_)
  refine lv_iconst (v := 0) hx hb dX12_plainly_12 (by decide) ?_
  have hP9 : va_P K.1 classes [(a0, zO 10 83 (va_up g0 81 (.int 1)))] H := hP.sub [0] rfl
  have hD9 : va_D A [(a0, zO 10 83 (va_up g0 81 (.int 1)))] := hD.sub [0] (by decide) rfl
  exact z_iret hx hb hr (fun _ => 0) rfl hP9 hD9 hS (Nat.le_of_ble_eq_true rfl) (Nat.le_of_ble_eq_true rfl) hlocks dX12_plainly_13
set_option maxHeartbeats 4000000 in
set_option maxRecDepth 100000 in
theorem cX11_plainly_12 (l : Launch) (hl9 : l.stackTraces = false) (K : zK) (sz : Nat) (a0 : Nat) (g0 : Nat → Value) (x0 : Int32) (x1 : Int32) (x2 : Int32) (x3 : Int32) (e0 : ¬ x0 < (0 : Int32)) (e1 : ¬ x0 < (8 : Int32)) : vx_Met l yX11_plainly (Cond.code yX11_plainly cX11_plainly 8 (some .int) :: WG) { frames := 8, cells := 1, slots := 6, locals := 127 } (zPre K [(a0, zO 9 9 g0)] sz [.ref a0, .int x0, .int x1, .int x2, .int x3, .int 1]) (va_Qv (fun _ : Unit => False) (fun _ _ => True) (va_A [(a0, zO 9 9 g0)] sz)) (zX (va_A [(a0, zO 9 9 g0)] sz) zIA) 1 6 (va_A [(a0, zO 9 9 g0)] sz) := by
  refine z_xmet (Qc := fun A => va_Qv (fun _ : Unit => False) (fun _ _ => True) A) (XC := fun A => zX A zIA) (by decide +kernel) (Nat.le_of_ble_eq_true rfl) ?_
  intro p e s m args below meth c A ls H hx hb hr hg hown hlocks hml hno hK hP hD hA hS hZ hl
  have hown : s.vm.findClass RX11 = some m.cls := hown
  have hl : lv_has ls 8 [(0, .ref a0), (1, .int x0), (2, .int x1), (3, .int x2), (4, .int x3), (5, .int 1)] := hl
  refine lv_aload_n hx hb dX11_plainly_0 rfl (lv_at hl 0 rfl) ?_
  refine lv_iload_n hx hb dX11_plainly_1 rfl (lv_at hl 1 rfl) ?_
  refine lv_iload_n hx hb dX11_plainly_2 rfl (lv_at hl 2 rfl) ?_
  refine lv_iload hx hb dX11_plainly_3 (lv_at hl 5 rfl) ?_
  refine z_xcall (EX := zIA) [(a0, zO 9 9 g0)] [0] hP hD hS hA rfl (by decide) 1 6 rfl rfl (fun hPc hDc hF => z_xrunV (As := [.int x0, .int x1, .int 1]) (rest := []) ⟨hx, hb, hml, hown, hg⟩ (cX11_programToRun_14 l hl9 K H.size a0 g0 x0 x1 e0 e1) kV_RX11_130 hd_X11_programToRun rfl rfl ⟨(Nat.le_of_ble_eq_true rfl), (Nat.le_of_ble_eq_true rfl)⟩ hK hS hZ hPc hDc hF 0 rfl rfl rfl hl.1 rfl (Nat.le_of_ble_eq_true rfl) dX11_plainly_5 ⟨(Nat.le_of_ble_eq_true rfl), (Nat.le_of_ble_eq_true rfl)⟩) (fun ce q9 H locs hS hce hcv hcl => ?_)
  exact z_xout hno hlocks hS hce hcv hcl (Nat.le_of_ble_eq_true rfl) (Nat.le_of_ble_eq_true rfl)
set_option maxHeartbeats 4000000 in
set_option maxRecDepth 100000 in
theorem cL_plainly_12 (l : Launch) (hl9 : l.stackTraces = false) (K : zK) (sz : Nat) (a0 : Nat) (a1 : Nat) (g0 : Nat → Value) (x0 : Int32) (x1 : Int32) (x2 : Int32) (x3 : Int32) (e0 : ¬ x0 < (0 : Int32)) (e1 : ¬ x0 < (8 : Int32)) : vx_Met l yL_plainly (Cond.codeWith yL_plainly cL_plainly 8 (some .int) [(0, 16, 19, 18), (0, 16, 23, 13)] :: WG) { frames := 9, cells := 1, slots := 6, locals := 154 } (zPre K [(a0, zO 9 9 g0)] sz [.ref a0, .int x0, .int x1, .int x2, .int x3, .int 1, .ref a1]) (va_Qi (fun (r : Int32) (_ : Nat → Nat) => r = 1) (zB K (va_A [(a0, zO 9 9 g0)] sz) (fun u : Nat → Nat => [])) (va_A [(a0, zO 9 9 g0)] sz)) (vx_X (fun _ : Unit => False) (fun _ _ _ => True) (va_A [(a0, zO 9 9 g0)] sz)) 1 6 (va_A [(a0, zO 9 9 g0)] sz) := by
  refine z_hmet (Qc := fun A => (va_Qi (fun (r : Int32) (_ : Nat → Nat) => r = 1) (zB K A (fun u : Nat → Nat => [])) A)) (XC := fun A => vx_X (fun _ : Unit => False) (fun _ _ _ => True) A) (by decide +kernel) (Nat.le_of_ble_eq_true rfl) ?_
  intro p e s m args below meth c A ls H hx hb hr hg hown hlocks hml hTab hK hP hD hA hS hZ hl
  have hown : s.vm.findClass RL = some m.cls := hown
  have hl : lv_has ls 8 [(0, .ref a0), (1, .int x0), (2, .int x1), (3, .int x2), (4, .int x3), (5, .int 1), (6, .ref a1)] := hl
  refine lv_aload hx hb dL_plainly_0 (lv_at hl 6 rfl) ?_
  refine lv_iconst (v := 0) hx hb dL_plainly_2 (by decide) ?_
  refine lv_aload_n hx hb dL_plainly_3 rfl (lv_at hl 0 rfl) ?_
  refine lv_iload_n hx hb dL_plainly_4 rfl (lv_at hl 1 rfl) ?_
  refine lv_iload_n hx hb dL_plainly_5 rfl (lv_at hl 2 rfl) ?_
  refine lv_iload_n hx hb dL_plainly_6 rfl (lv_at hl 3 rfl) ?_
  refine lv_iload hx hb dL_plainly_7 (lv_at hl 4 rfl) ?_
  refine lv_iload hx hb dL_plainly_9 (lv_at hl 5 rfl) ?_
  refine z_xcall (EX := zIA) [(a0, zO 9 9 g0)] [0] hP hD hS hA rfl (by decide) 1 6 rfl rfl (fun hPc hDc hF => z_xrunV (As := [.int x0, .int x1, .int x2, .int x3, .int 1]) (rest := [.int 0, .ref a1]) ⟨hx, hb, hml, hown, hg⟩ (cX11_plainly_12 l hl9 K H.size a0 g0 x0 x1 x2 x3 e0 e1) kV_RL_77 hd_X11_plainly rfl rfl ⟨(Nat.le_of_ble_eq_true rfl), (Nat.le_of_ble_eq_true rfl)⟩ hK hS hZ hPc hDc hF 0 rfl rfl rfl hl.1 rfl (Nat.le_of_ble_eq_true rfl) dL_plainly_11 ⟨(Nat.le_of_ble_eq_true rfl), (Nat.le_of_ble_eq_true rfl)⟩) (fun ce q9 H locs hS hce hcv hcl => ?_)
  refine vx_catch (own := RL) (name := zIA) (E := zIA) hown [] ⟨0, 16, 19, 18⟩ [⟨0, 16, 23, 13⟩] (by rw [hTab]; rfl) (fun z hz => nomatch hz) (by decide) (by decide) (hg _ mt491) (va_Nw.use rfl hZ.1.1.2.1) hce hcv hcl ?_
  have hP : va_P K.1 classes [] H := z_P0
  have hD : va_D A [] := z_D0
  refine lv_astore (lv' := [(7, .ref q9), (0, .ref a0), (1, .int x0), (2, .int x1), (3, .int x2), (4, .int x3), (5, .int 1), (6, .ref a1)]) hx hb dL_plainly_19 hl (by decide) rfl (fun ls hl => ?_)
  refine lv_iconst (v := 1) hx hb dL_plainly_21 (by decide) ?_
  have hP9 : va_P K.1 classes [] H := hP.sub [] rfl
  have hD9 : va_D A [] := hD.sub [] (by decide) rfl
  exact z_iret hx hb hr (fun _ => 0) rfl hP9 hD9 hS (Nat.le_of_ble_eq_true rfl) (Nat.le_of_ble_eq_true rfl) hlocks dL_plainly_22
set_option maxHeartbeats 4000000 in
set_option maxRecDepth 100000 in
theorem cX12_plainly_12 (l : Launch) (K : zK) (sz : Nat) (a0 : Nat) (g0 : Nat → Value) (x0 : Int32) (x1 : Int32) (x2 : Int32) (x3 : Int32) (e0 : ¬ x0 < (0 : Int32)) (e1 : (7 : Int32) < x0) : Met l yX12_plainly (Cond.code yX12_plainly cX12_plainly 6 (some .int) :: WG) { frames := 3, cells := 0, slots := 0, locals := 66 } (zPre K [(a0, zO 10 83 g0)] sz [.ref a0, .int x0, .int x1, .int x2, .int x3, .int 1]) (va_Qi (fun (r : Int32) (_ : Nat → Nat) => r = 0) (zB K (va_A [(a0, zO 10 83 g0)] sz) (fun u : Nat → Nat => [(a0, zO 10 83 (va_up g0 81 (.int 1)))])) (va_A [(a0, zO 10 83 g0)] sz)) 0 0 (va_A [(a0, zO 10 83 g0)] sz) := by
  refine z_met (Qc := fun A => (va_Qi (fun (r : Int32) (_ : Nat → Nat) => r = 0) (zB K A (fun u : Nat → Nat => [(a0, zO 10 83 (va_up g0 81 (.int 1)))])) A)) (by decide +kernel) (Nat.le_of_ble_eq_true rfl) ?_
  intro p e s m args below meth c A ls H hx hb hr hg hown hlocks hml hin hK hP hD hA hS hZ hl
  have hown : s.vm.findClass RX12 = some m.cls := hown
  have hl : lv_has ls 6 [(0, .ref a0), (1, .int x0), (2, .int x1), (3, .int x2), (4, .int x3), (5, .int 1)] := hl
  refine lv_aload_n hx hb dX12_plainly_0 rfl (lv_at hl 0 rfl) ?_
  refine lv_iload_n hx hb dX12_plainly_1 rfl (lv_at hl 1 rfl) ?_
  refine lv_iload_n hx hb dX12_plainly_2 rfl (lv_at hl 2 rfl) ?_
  refine lv_iconst (v := 1) hx hb dX12_plainly_3 (by decide) ?_
  refine lv_iload hx hb dX12_plainly_4 (lv_at hl 5 rfl) ?_
  refine z_calli [(a0, zO 10 83 g0)] [] [0] [] hP hD hS hA rfl rfl (by decide) (by decide) (by decide +kernel) 0 0 rfl rfl (fun hPc hDc hF => z_runV (As := [.int x0, .int x1, .int 1, .int 1]) (rest := []) ⟨hx, hb, hml, hown, hg⟩ (cX12_mayRun_24 l K H.size a0 g0 x0 x1 e0 e1) kV_RX12_492 hd_X12_mayRun rfl rfl ⟨(Nat.le_of_ble_eq_true rfl), (Nat.le_of_ble_eq_true rfl)⟩ hK hS hZ hPc hDc hF 0 rfl rfl rfl hl.1 rfl (Nat.le_of_ble_eq_true rfl) dX12_plainly_6 ⟨(Nat.le_of_ble_eq_true rfl), (Nat.le_of_ble_eq_true rfl)⟩) (fun r3 u1 H locs w2 hP hD hS => ?_)
  subst w2
  have hP : va_P K.1 classes [(a0, zO 10 83 (va_up g0 81 (.int 1)))] H := hP
  have hD : va_D A [(a0, zO 10 83 (va_up g0 81 (.int 1)))] := hD
  refine lv_if_ne (tgt := 14) hx hb dX12_plainly_9 (by decide) (fun c => absurd (by decide) c) (fun _ => ?_)
  refine lv_iconst (v := 0) hx hb dX12_plainly_12 (by decide) ?_
  have hP9 : va_P K.1 classes [(a0, zO 10 83 (va_up g0 81 (.int 1)))] H := hP.sub [0] rfl
  have hD9 : va_D A [(a0, zO 10 83 (va_up g0 81 (.int 1)))] := hD.sub [0] (by decide) rfl
  exact z_iret hx hb hr (fun _ => 0) rfl hP9 hD9 hS (Nat.le_of_ble_eq_true rfl) (Nat.le_of_ble_eq_true rfl) hlocks dX12_plainly_13
set_option maxHeartbeats 4000000 in
set_option maxRecDepth 100000 in
theorem cX1_answer_1 (l : Launch) (K : zK) (sz : Nat) (a0 : Nat) (g0 : Nat → Value) (e0 : g0 17 = (.int 0)) : Met l yX1_answer (Cond.code yX1_answer cX1_answer 1 (some .int) :: WG) { frames := 0, cells := 0, slots := 0, locals := 0 } (zPre K [(a0, zO 1 18 g0)] sz [.ref a0]) (va_Qi (fun (r : Int32) (_ : Nat → Nat) => r = 0) (zB K (va_A [(a0, zO 1 18 g0)] sz) (fun u : Nat → Nat => [(a0, zO 1 18 g0)])) (va_A [(a0, zO 1 18 g0)] sz)) 0 0 (va_A [(a0, zO 1 18 g0)] sz) := by
  refine z_met (Qc := fun A => (va_Qi (fun (r : Int32) (_ : Nat → Nat) => r = 0) (zB K A (fun u : Nat → Nat => [(a0, zO 1 18 g0)])) A)) (by decide +kernel) (Nat.le_of_ble_eq_true rfl) ?_
  intro p e s m args below meth c A ls H hx hb hr hg hown hlocks hml hin hK hP hD hA hS hZ hl
  have hown : s.vm.findClass RX1 = some m.cls := hown
  have hl : lv_has ls 1 [(0, .ref a0)] := hl
  refine lv_aload_n hx hb dX1_answer_0 rfl (lv_at hl 0 rfl) ?_
  refine z_get (v := .int 0) hx hb hg hown hK hP i_X1 rfl 0 rfl 17 (by decide) mt266 e0 dX1_answer_1 ?_
  have hP9 : va_P K.1 classes [(a0, zO 1 18 g0)] H := hP.sub [0] rfl
  have hD9 : va_D A [(a0, zO 1 18 g0)] := hD.sub [0] (by decide) rfl
  exact z_iret hx hb hr (fun _ => 0) rfl hP9 hD9 hS (Nat.le_of_ble_eq_true rfl) (Nat.le_of_ble_eq_true rfl) hlocks dX1_answer_4
set_option maxHeartbeats 4000000 in
set_option maxRecDepth 100000 in
theorem cX11_value_1 (l : Launch) (K : zK) (sz : Nat) (a0 : Nat) (a1 : Nat) (g0 : Nat → Value) (g1 : Nat → Value) (e0 : g0 7 = (.ref a1)) (e1 : g1 17 = (.int 0)) : Met l yX11_value (Cond.code yX11_value cX11_value 1 (some .int) :: WG) { frames := 1, cells := 0, slots := 0, locals := 20 } (zPre K [(a0, zO 9 9 g0), (a1, zO 1 18 g1)] sz [.ref a0]) (va_Qi (fun (r : Int32) (_ : Nat → Nat) => r = 0) (zB K (va_A [(a0, zO 9 9 g0), (a1, zO 1 18 g1)] sz) (fun u : Nat → Nat => [])) (va_A [(a0, zO 9 9 g0), (a1, zO 1 18 g1)] sz)) 0 0 (va_A [(a0, zO 9 9 g0), (a1, zO 1 18 g1)] sz) := by
  refine z_met (Qc := fun A => (va_Qi (fun (r : Int32) (_ : Nat → Nat) => r = 0) (zB K A (fun u : Nat → Nat => [])) A)) (by decide +kernel) (Nat.le_of_ble_eq_true rfl) ?_
  intro p e s m args below meth c A ls H hx hb hr hg hown hlocks hml hin hK hP hD hA hS hZ hl
  have hown : s.vm.findClass RX11 = some m.cls := hown
  have hl : lv_has ls 1 [(0, .ref a0)] := hl
  refine lv_aload_n hx hb dX11_value_0 rfl (lv_at hl 0 rfl) ?_
  refine z_get (v := .ref a1) hx hb hg hown hK hP i_X11 rfl 0 rfl 7 (by decide) mt311 e0 dX11_value_1 ?_
  refine z_calli [(a1, zO 1 18 g1)] [(a0, zO 9 9 g0)] [1] [0] hP hD hS hA rfl rfl (by decide) (by decide) (by decide +kernel) 0 0 rfl rfl (fun hPc hDc hF => z_runV (As := []) (rest := []) ⟨hx, hb, hml, hown, hg⟩ (cX1_answer_1 l K H.size a1 g1 e1) kV_RX11_142 hd_X1_answer rfl rfl ⟨(Nat.le_of_ble_eq_true rfl), (Nat.le_of_ble_eq_true rfl)⟩ hK hS hZ hPc hDc hF 0 rfl rfl rfl hl.1 rfl (Nat.le_of_ble_eq_true rfl) dX11_value_4 ⟨(Nat.le_of_ble_eq_true rfl), (Nat.le_of_ble_eq_true rfl)⟩) (fun r3 u1 H locs w2 hP hD hS => ?_)
  subst w2
  have hP : va_P K.1 classes [(a0, zO 9 9 g0), (a1, zO 1 18 g1)] H := hP
  have hD : va_D A [(a0, zO 9 9 g0), (a1, zO 1 18 g1)] := hD
  have hP9 : va_P K.1 classes [] H := hP.sub [] rfl
  have hD9 : va_D A [] := hD.sub [] (by decide) rfl
  exact z_iret hx hb hr (fun _ => 0) rfl hP9 hD9 hS (Nat.le_of_ble_eq_true rfl) (Nat.le_of_ble_eq_true rfl) hlocks dX11_value_7
set_option maxHeartbeats 4000000 in
set_option maxRecDepth 100000 in
theorem cX12_value_1 (l : Launch) (K : zK) (sz : Nat) (a0 : Nat) (g0 : Nat → Value) (e0 : g0 79 = (.int 0)) : Met l yX12_value (Cond.code yX12_value cX12_value 1 (some .int) :: WG) { frames := 0, cells := 0, slots := 0, locals := 0 } (zPre K [(a0, zO 10 83 g0)] sz [.ref a0]) (va_Qi (fun (r : Int32) (_ : Nat → Nat) => r = 0) (zB K (va_A [(a0, zO 10 83 g0)] sz) (fun u : Nat → Nat => [(a0, zO 10 83 (va_up g0 81 (.int 0)))])) (va_A [(a0, zO 10 83 g0)] sz)) 0 0 (va_A [(a0, zO 10 83 g0)] sz) := by
  refine z_met (Qc := fun A => (va_Qi (fun (r : Int32) (_ : Nat → Nat) => r = 0) (zB K A (fun u : Nat → Nat => [(a0, zO 10 83 (va_up g0 81 (.int 0)))])) A)) (by decide +kernel) (Nat.le_of_ble_eq_true rfl) ?_
  intro p e s m args below meth c A ls H hx hb hr hg hown hlocks hml hin hK hP hD hA hS hZ hl
  have hown : s.vm.findClass RX12 = some m.cls := hown
  have hl : lv_has ls 1 [(0, .ref a0)] := hl
  refine lv_aload_n hx hb dX12_value_0 rfl (lv_at hl 0 rfl) ?_
  refine lv_iconst (v := 0) hx hb dX12_value_1 (by decide) ?_
  refine z_put hx hb hg hown hK hP hD hS i_X12 rfl tyX12_ok nmX12 0 rfl 81 (by decide) mt1361 rfl rfl rfl dX12_value_2 (fun gg1 H locs y2 hP hD hS => ?_)
  have hP : va_P K.1 classes [(a0, zO 10 83 gg1)] H := hP
  have hD : va_D A [(a0, zO 10 83 gg1)] := hD
  refine lv_aload_n hx hb dX12_value_5 rfl (lv_at hl 0 rfl) ?_
  refine z_get (v := .int 0) hx hb hg hown hK hP i_X12 rfl 0 rfl 79 (by decide) mt1359 (zu_of y2 (zu_ne (by decide) e0)) dX12_value_6 ?_
  subst y2
  have hP9 : va_P K.1 classes [(a0, zO 10 83 (va_up g0 81 (.int 0)))] H := hP.sub [0] rfl
  have hD9 : va_D A [(a0, zO 10 83 (va_up g0 81 (.int 0)))] := hD.sub [0] (by decide) rfl
  exact z_iret hx hb hr (fun _ => 0) rfl hP9 hD9 hS (Nat.le_of_ble_eq_true rfl) (Nat.le_of_ble_eq_true rfl) hlocks dX12_value_9
set_option maxHeartbeats 4000000 in
set_option maxRecDepth 100000 in
theorem cX11_checkRange_26 (l : Launch) (hl9 : l.stackTraces = false) (K : zK) (sz : Nat) (a0 : Nat) (g0 : Nat → Value) (x0 : Int32) (e0 : x0 < (0 : Int32)) : vx_Met l yX11_checkRange (Cond.code yX11_checkRange cX11_checkRange 3 none :: WG) { frames := 6, cells := 1, slots := 6, locals := 82 } (zPre K [(a0, zO 9 9 g0)] sz [.ref a0, .int x0, .int 10]) (va_Qv (fun _ : Unit => False) (fun _ _ => True) (va_A [(a0, zO 9 9 g0)] sz)) (zX (va_A [(a0, zO 9 9 g0)] sz) zIA) 1 6 (va_A [(a0, zO 9 9 g0)] sz) := by
  refine z_xmet (Qc := fun A => va_Qv (fun _ : Unit => False) (fun _ _ => True) A) (XC := fun A => zX A zIA) (by decide +kernel) (Nat.le_of_ble_eq_true rfl) ?_
  intro p e s m args below meth c A ls H hx hb hr hg hown hlocks hml hno hK hP hD hA hS hZ hl
  have hown : s.vm.findClass RX11 = some m.cls := hown
  have hl : lv_has ls 3 [(0, .ref a0), (1, .int x0), (2, .int 10)] := hl
  refine lv_iload_n hx hb dX11_checkRange_0 rfl (lv_at hl 1 rfl) ?_
  refine lv_if_lt (tgt := 9) hx hb dX11_checkRange_1 (by decide) (fun _ => ?_) (fun c => absurd e0 c)
  exact z_throw (ik := 82) (is := 183) (ic := 86) hx hb hl9 hg hown (by decide +kernel) mt500 mt16 hZ.1.2.2.1 (at_zIA hg hZ) ok_zIA hZ hS hl.1 hml dX11_checkRange_9 dX11_checkRange_12 dX11_checkRange_13 dX11_checkRange_15 dX11_checkRange_18 hno hlocks (Nat.le_of_ble_eq_true rfl) (Nat.le_of_ble_eq_true rfl) (Nat.le_of_ble_eq_true rfl) (Nat.le_of_ble_eq_true rfl) (Nat.le_of_ble_eq_true rfl) (Nat.le_of_ble_eq_true rfl)
set_option maxHeartbeats 4000000 in
set_option maxRecDepth 100000 in
theorem cX11_count_1 (l : Launch) (hl9 : l.stackTraces = false) (K : zK) (sz : Nat) (a0 : Nat) (g0 : Nat → Value) (x0 : Int32) (e0 : x0 < (0 : Int32)) : vx_Met l yX11_count (Cond.code yX11_count cX11_count 2 (some .int) :: WG) { frames := 7, cells := 1, slots := 6, locals := 104 } (zPre K [(a0, zO 9 9 g0)] sz [.ref a0, .int x0]) (va_Qv (fun _ : Unit => False) (fun _ _ => True) (va_A [(a0, zO 9 9 g0)] sz)) (zX (va_A [(a0, zO 9 9 g0)] sz) zIA) 1 6 (va_A [(a0, zO 9 9 g0)] sz) := by
  refine z_xmet (Qc := fun A => va_Qv (fun _ : Unit => False) (fun _ _ => True) A) (XC := fun A => zX A zIA) (by decide +kernel) (Nat.le_of_ble_eq_true rfl) ?_
  intro p e s m args below meth c A ls H hx hb hr hg hown hlocks hml hno hK hP hD hA hS hZ hl
  have hown : s.vm.findClass RX11 = some m.cls := hown
  have hl : lv_has ls 2 [(0, .ref a0), (1, .int x0)] := hl
  refine lv_aload_n hx hb dX11_count_0 rfl (lv_at hl 0 rfl) ?_
  refine lv_iload_n hx hb dX11_count_1 rfl (lv_at hl 1 rfl) ?_
  refine lv_bipush (v := 10) hx hb dX11_count_2 (by decide) ?_
  refine z_xcall (EX := zIA) [(a0, zO 9 9 g0)] [0] hP hD hS hA rfl (by decide) 1 6 rfl rfl (fun hPc hDc hF => z_xrunV (As := [.int x0, .int 10]) (rest := []) ⟨hx, hb, hml, hown, hg⟩ (cX11_checkRange_26 l hl9 K H.size a0 g0 x0 e0) kV_RX11_72 hd_X11_checkRange rfl rfl ⟨(Nat.le_of_ble_eq_true rfl), (Nat.le_of_ble_eq_true rfl)⟩ hK hS hZ hPc hDc hF 0 rfl rfl rfl hl.1 rfl (Nat.le_of_ble_eq_true rfl) dX11_count_4 ⟨(Nat.le_of_ble_eq_true rfl), (Nat.le_of_ble_eq_true rfl)⟩) (fun ce q9 H locs hS hce hcv hcl => ?_)
  exact z_xout hno hlocks hS hce hcv hcl (Nat.le_of_ble_eq_true rfl) (Nat.le_of_ble_eq_true rfl)
set_option maxHeartbeats 4000000 in
set_option maxRecDepth 100000 in
theorem cL_count_1 (l : Launch) (hl9 : l.stackTraces = false) (K : zK) (sz : Nat) (a0 : Nat) (a1 : Nat) (g0 : Nat → Value) (x0 : Int32) (e0 : x0 < (0 : Int32)) : vx_Met l yL_count (Cond.codeWith yL_count cL_count 4 (some .int) [(0, 9, 12, 18)] :: WG) { frames := 8, cells := 1, slots := 6, locals := 125 } (zPre K [(a0, zO 9 9 g0)] sz [.ref a0, .int x0, .ref a1]) (va_Qi (fun (r : Int32) (_ : Nat → Nat) => r = 1) (zB K (va_A [(a0, zO 9 9 g0)] sz) (fun u : Nat → Nat => [])) (va_A [(a0, zO 9 9 g0)] sz)) (vx_X (fun _ : Unit => False) (fun _ _ _ => True) (va_A [(a0, zO 9 9 g0)] sz)) 1 6 (va_A [(a0, zO 9 9 g0)] sz) := by
  refine z_hmet (Qc := fun A => (va_Qi (fun (r : Int32) (_ : Nat → Nat) => r = 1) (zB K A (fun u : Nat → Nat => [])) A)) (XC := fun A => vx_X (fun _ : Unit => False) (fun _ _ _ => True) A) (by decide +kernel) (Nat.le_of_ble_eq_true rfl) ?_
  intro p e s m args below meth c A ls H hx hb hr hg hown hlocks hml hTab hK hP hD hA hS hZ hl
  have hown : s.vm.findClass RL = some m.cls := hown
  have hl : lv_has ls 4 [(0, .ref a0), (1, .int x0), (2, .ref a1)] := hl
  refine lv_aload_n hx hb dL_count_0 rfl (lv_at hl 2 rfl) ?_
  refine lv_iconst (v := 0) hx hb dL_count_1 (by decide) ?_
  refine lv_aload_n hx hb dL_count_2 rfl (lv_at hl 0 rfl) ?_
  refine lv_iload_n hx hb dL_count_3 rfl (lv_at hl 1 rfl) ?_
  refine z_xcall (EX := zIA) [(a0, zO 9 9 g0)] [0] hP hD hS hA rfl (by decide) 1 6 rfl rfl (fun hPc hDc hF => z_xrunV (As := [.int x0]) (rest := [.int 0, .ref a1]) ⟨hx, hb, hml, hown, hg⟩ (cX11_count_1 l hl9 K H.size a0 g0 x0 e0) kV_RL_81 hd_X11_count rfl rfl ⟨(Nat.le_of_ble_eq_true rfl), (Nat.le_of_ble_eq_true rfl)⟩ hK hS hZ hPc hDc hF 0 rfl rfl rfl hl.1 rfl (Nat.le_of_ble_eq_true rfl) dL_count_4 ⟨(Nat.le_of_ble_eq_true rfl), (Nat.le_of_ble_eq_true rfl)⟩) (fun ce q9 H locs hS hce hcv hcl => ?_)
  refine vx_catch (own := RL) (name := zIA) (E := zIA) hown [] ⟨0, 9, 12, 18⟩ [] (by rw [hTab]; rfl) (fun z hz => nomatch hz) (by decide) (by decide) (hg _ mt491) (va_Nw.use rfl hZ.1.1.2.1) hce hcv hcl ?_
  have hP : va_P K.1 classes [] H := z_P0
  have hD : va_D A [] := z_D0
  refine lv_astore_n (lv' := [(3, .ref q9), (0, .ref a0), (1, .int x0), (2, .ref a1)]) hx hb dL_count_12 rfl hl (by decide) rfl (fun ls hl => ?_)
  refine lv_iconst (v := 1) hx hb dL_count_13 (by decide) ?_
  have hP9 : va_P K.1 classes [] H := hP.sub [] rfl
  have hD9 : va_D A [] := hD.sub [] (by decide) rfl
  exact z_iret hx hb hr (fun _ => 0) rfl hP9 hD9 hS (Nat.le_of_ble_eq_true rfl) (Nat.le_of_ble_eq_true rfl) hlocks dL_count_14
set_option maxHeartbeats 4000000 in
set_option maxRecDepth 100000 in
theorem cX12_isIn_31 (l : Launch) (K : zK) (sz : Nat) (x0 : Int32) (e0 : x0 < (0 : Int32)) : Met l yX12_isIn (Cond.code yX12_isIn cX12_isIn 3 (some .boolean) :: WG) { frames := 0, cells := 0, slots := 0, locals := 0 } (zPre K [] sz [.int x0, .int 0, .int 9]) (va_Qi (fun (r : Int32) (_ : Nat → Nat) => r = 0) (zB K (va_A [] sz) (fun u : Nat → Nat => [])) (va_A [] sz)) 0 0 (va_A [] sz) := by
  refine z_met (Qc := fun A => (va_Qi (fun (r : Int32) (_ : Nat → Nat) => r = 0) (zB K A (fun u : Nat → Nat => [])) A)) (by decide +kernel) (Nat.le_of_ble_eq_true rfl) ?_
  intro p e s m args below meth c A ls H hx hb hr hg hown hlocks hml hin hK hP hD hA hS hZ hl
  have hown : s.vm.findClass RX12 = some m.cls := hown
  have hl : lv_has ls 3 [(0, .int x0), (1, .int 0), (2, .int 9)] := hl
  refine lv_iload_n hx hb dX12_isIn_0 rfl (lv_at hl 0 rfl) ?_
  refine lv_iload_n hx hb dX12_isIn_1 rfl (lv_at hl 1 rfl) ?_
  refine lv_icmp_lt (tgt := 14) hx hb dX12_isIn_2 (by decide) (fun _ => ?_) (fun c => absurd e0 c)
  refine lv_iconst (v := 0) hx hb dX12_isIn_14 (by decide) ?_
  have hP9 : va_P K.1 classes [] H := hP.sub [] rfl
  have hD9 : va_D A [] := hD.sub [] (by decide) rfl
  exact z_zret hx hb hr rfl (fun _ => 0) rfl hP9 hD9 hS (Nat.le_of_ble_eq_true rfl) (Nat.le_of_ble_eq_true rfl) hlocks dX12_isIn_15
set_option maxHeartbeats 4000000 in
set_option maxRecDepth 100000 in
theorem cX12_count_1 (l : Launch) (K : zK) (sz : Nat) (a0 : Nat) (g0 : Nat → Value) (x0 : Int32) (e0 : x0 < (0 : Int32)) : Met l yX12_count (Cond.code yX12_count cX12_count 2 (some .int) :: WG) { frames := 1, cells := 0, slots := 0, locals := 22 } (zPre K [(a0, zO 10 83 g0)] sz [.ref a0, .int x0]) (va_Qi (fun (r : Int32) (_ : Nat → Nat) => r = 0) (zB K (va_A [(a0, zO 10 83 g0)] sz) (fun u : Nat → Nat => [(a0, zO 10 83 (va_up g0 81 (.int 1)))])) (va_A [(a0, zO 10 83 g0)] sz)) 0 0 (va_A [(a0, zO 10 83 g0)] sz) := by
  refine z_met (Qc := fun A => (va_Qi (fun (r : Int32) (_ : Nat → Nat) => r = 0) (zB K A (fun u : Nat → Nat => [(a0, zO 10 83 (va_up g0 81 (.int 1)))])) A)) (by decide +kernel) (Nat.le_of_ble_eq_true rfl) ?_
  intro p e s m args below meth c A ls H hx hb hr hg hown hlocks hml hin hK hP hD hA hS hZ hl
  have hown : s.vm.findClass RX12 = some m.cls := hown
  have hl : lv_has ls 2 [(0, .ref a0), (1, .int x0)] := hl
  refine lv_aload_n hx hb dX12_count_0 rfl (lv_at hl 0 rfl) ?_
  refine lv_iload_n hx hb dX12_count_1 rfl (lv_at hl 1 rfl) ?_
  refine lv_iconst (v := 0) hx hb dX12_count_2 (by decide) ?_
  refine lv_bipush (v := 9) hx hb dX12_count_3 (by decide) ?_
  refine z_calli [] [(a0, zO 10 83 g0)] [] [0] hP hD hS hA rfl rfl (by decide) (by decide) (by decide +kernel) 0 0 rfl rfl (fun hPc hDc hF => z_runS (As := [.int x0, .int 0, .int 9]) (rest := [.ref a0]) ⟨hx, hb, hml, hown, hg⟩ (cX12_isIn_31 l K H.size x0 e0) kS_RX12_175 hd_X12_isIn rfl rfl ⟨(Nat.le_of_ble_eq_true rfl), (Nat.le_of_ble_eq_true rfl)⟩ hK hS hZ hPc hDc hF rfl hl.1 rfl (Nat.le_of_ble_eq_true rfl) dX12_count_5 ⟨(Nat.le_of_ble_eq_true rfl), (Nat.le_of_ble_eq_true rfl)⟩) (fun r3 u1 H locs w2 hP hD hS => ?_)
  subst w2
  have hP : va_P K.1 classes [(a0, zO 10 83 g0)] H := hP
  have hD : va_D A [(a0, zO 10 83 g0)] := hD
  refine lv_if_eq (tgt := 15) hx hb dX12_count_8 (by decide) (fun _ => ?_) (fun c => absurd (by decide) c)
  refine lv_iconst (v := 1) hx hb dX12_count_15 (by decide) ?_
  refine z_calli [(a0, zO 10 83 g0)] [] [0] [] hP hD hS hA rfl rfl (by decide) (by decide) (by decide +kernel) 0 0 rfl rfl (fun hPc hDc hF => z_runV (As := [.int 1]) (rest := []) ⟨hx, hb, hml, hown, hg⟩ (cX12_can_2 l K H.size a0 g0) kV_RX12_182 hd_X12_can rfl rfl ⟨(Nat.le_of_ble_eq_true rfl), (Nat.le_of_ble_eq_true rfl)⟩ hK hS hZ hPc hDc hF 0 rfl rfl rfl hl.1 rfl (Nat.le_of_ble_eq_true rfl) dX12_count_16 ⟨(Nat.le_of_ble_eq_true rfl), (Nat.le_of_ble_eq_true rfl)⟩) (fun r6 u4 H locs w5 hP hD hS => ?_)
  subst w5
  have hP : va_P K.1 classes [(a0, zO 10 83 (va_up g0 81 (.int 1)))] H := hP
  have hD : va_D A [(a0, zO 10 83 (va_up g0 81 (.int 1)))] := hD
  refine lv_if_eq (tgt := 31) hx hb dX12_count_19 (by decide) (fun _ => ?_) (fun c => absurd (by decide) c)
  refine lv_iconst (v := 0) hx hb dX12_count_31 (by decide) ?_
  have hP9 : va_P K.1 classes [(a0, zO 10 83 (va_up g0 81 (.int 1)))] H := hP.sub [0] rfl
  have hD9 : va_D A [(a0, zO 10 83 (va_up g0 81 (.int 1)))] := hD.sub [0] (by decide) rfl
  exact z_iret hx hb hr (fun _ => 0) rfl hP9 hD9 hS (Nat.le_of_ble_eq_true rfl) (Nat.le_of_ble_eq_true rfl) hlocks dX12_count_32
set_option maxHeartbeats 4000000 in
set_option maxRecDepth 100000 in
theorem cX11_checkRange_27 (l : Launch) (K : zK) (sz : Nat) (a0 : Nat) (g0 : Nat → Value) (j0 : Nat) (hj0 : j0 < 10) : Met l yX11_checkRange (Cond.code yX11_checkRange cX11_checkRange 3 none :: WG) { frames := 0, cells := 0, slots := 0, locals := 0 } (zPre K [(a0, zO 9 9 g0)] sz [.ref a0, .int (nI j0), .int 10]) (va_Qv (fun _ : Nat → Nat => True) (zB K (va_A [(a0, zO 9 9 g0)] sz) (fun u : Nat → Nat => [(a0, zO 9 9 g0)])) (va_A [(a0, zO 9 9 g0)] sz)) 0 0 (va_A [(a0, zO 9 9 g0)] sz) := by
  refine z_met (Qc := fun A => (va_Qv (fun _ : Nat → Nat => True) (zB K A (fun u : Nat → Nat => [(a0, zO 9 9 g0)])) A)) (by decide +kernel) (Nat.le_of_ble_eq_true rfl) ?_
  intro p e s m args below meth c A ls H hx hb hr hg hown hlocks hml hin hK hP hD hA hS hZ hl
  have hown : s.vm.findClass RX11 = some m.cls := hown
  have hl : lv_has ls 3 [(0, .ref a0), (1, .int (nI j0)), (2, .int 10)] := hl
  refine lv_iload_n hx hb dX11_checkRange_0 rfl (lv_at hl 1 rfl) ?_
  refine lv_if_lt (tgt := 9) hx hb dX11_checkRange_1 (by decide) (fun c => absurd c ((by decide : ∀ j, j < 10 → ¬ ((nI j) < (0 : Int32))) j0 hj0)) (fun _ => ?_)
  refine lv_iload_n hx hb dX11_checkRange_4 rfl (lv_at hl 1 rfl) ?_
  refine lv_iload_n hx hb dX11_checkRange_5 rfl (lv_at hl 2 rfl) ?_
  refine lv_icmp_lt (tgt := 19) hx hb dX11_checkRange_6 (by decide) (fun _ => ?_) (fun c => absurd ((by decide : ∀ j, j < 10 → ((nI j) < (10 : Int32))) j0 hj0) c)
  have hP9 : va_P K.1 classes [(a0, zO 9 9 g0)] H := hP.sub [0] rfl
  have hD9 : va_D A [(a0, zO 9 9 g0)] := hD.sub [0] (by decide) rfl
  exact z_vret hx hb hr (fun _ => 0) trivial hP9 hD9 hS (Nat.le_of_ble_eq_true rfl) (Nat.le_of_ble_eq_true rfl) hlocks dX11_checkRange_19
set_option maxHeartbeats 4000000 in
set_option maxRecDepth 100000 in
theorem cX1_counted_1 (l : Launch) (K : zK) (sz : Nat) (a0 : Nat) (a1 : Nat) (g0 : Nat → Value) (f1 : Nat → Int32) (j0 : Nat) (hj0 : j0 < 10) (e0 : g0 2 = (.ref a1)) (e1 : ∀ j : Nat, f1 j = 0) : Met l yX1_counted (Cond.code yX1_counted cX1_counted 2 (some .int) :: WG) { frames := 0, cells := 0, slots := 0, locals := 0 } (zPre K [(a0, zO 1 18 g0), (a1, zI K 10 f1)] sz [.ref a0, .int (nI j0)]) (va_Qi (fun (r : Int32) (_ : Nat → Nat) => r = 0) (zB K (va_A [(a0, zO 1 18 g0), (a1, zI K 10 f1)] sz) (fun u : Nat → Nat => [(a0, zO 1 18 g0), (a1, zI K 10 f1)])) (va_A [(a0, zO 1 18 g0), (a1, zI K 10 f1)] sz)) 0 0 (va_A [(a0, zO 1 18 g0), (a1, zI K 10 f1)] sz) := by
  refine z_met (Qc := fun A => (va_Qi (fun (r : Int32) (_ : Nat → Nat) => r = 0) (zB K A (fun u : Nat → Nat => [(a0, zO 1 18 g0), (a1, zI K 10 f1)])) A)) (by decide +kernel) (Nat.le_of_ble_eq_true rfl) ?_
  intro p e s m args below meth c A ls H hx hb hr hg hown hlocks hml hin hK hP hD hA hS hZ hl
  have hown : s.vm.findClass RX1 = some m.cls := hown
  have hl : lv_has ls 2 [(0, .ref a0), (1, .int (nI j0))] := hl
  refine lv_iload_n hx hb dX1_counted_0 rfl (lv_at hl 1 rfl) ?_
  refine lv_if_lt (tgt := 19) hx hb dX1_counted_1 (by decide) (fun c => absurd c ((by decide : ∀ j, j < 10 → ¬ ((nI j) < (0 : Int32))) j0 hj0)) (fun _ => ?_)
  refine lv_iload_n hx hb dX1_counted_4 rfl (lv_at hl 1 rfl) ?_
  refine lv_bipush (v := 10) hx hb dX1_counted_5 (by decide) ?_
  refine lv_icmp_ge (tgt := 19) hx hb dX1_counted_7 (by decide) (fun c => absurd c ((by decide : ∀ j, j < 10 → ¬ ((10 : Int32) ≤ (nI j))) j0 hj0)) (fun _ => ?_)
  refine lv_aload_n hx hb dX1_counted_10 rfl (lv_at hl 0 rfl) ?_
  refine z_get (v := .ref a1) hx hb hg hown hK hP i_X1 rfl 0 rfl 2 (by decide) mt251 e0 dX1_counted_11 ?_
  refine lv_iload_n hx hb dX1_counted_14 rfl (lv_at hl 1 rfl) ?_
  refine z_iald (v := 0) (j := j0) hx hb hK hP 1 rfl rfl (Nat.lt_of_lt_of_le hj0 (Nat.le_of_ble_eq_true rfl)) (Nat.le_of_ble_eq_true rfl) (e1 j0) dX1_counted_15 ?_
  refine lv_goto (tgt := 20) hx hb dX1_counted_16 (by decide) ?_
  have hP9 : va_P K.1 classes [(a0, zO 1 18 g0), (a1, zI K 10 f1)] H := hP.sub [0, 1] rfl
  have hD9 : va_D A [(a0, zO 1 18 g0), (a1, zI K 10 f1)] := hD.sub [0, 1] (by decide) rfl
  exact z_iret hx hb hr (fun _ => 0) rfl hP9 hD9 hS (Nat.le_of_ble_eq_true rfl) (Nat.le_of_ble_eq_true rfl) hlocks dX1_counted_20
set_option maxHeartbeats 4000000 in
set_option maxRecDepth 100000 in
theorem cX11_count_2 (l : Launch) (K : zK) (sz : Nat) (a0 : Nat) (a1 : Nat) (a2 : Nat) (g0 : Nat → Value) (g1 : Nat → Value) (f2 : Nat → Int32) (j0 : Nat) (hj0 : j0 < 10) (e0 : g0 7 = (.ref a1)) (e1 : g1 2 = (.ref a2)) (e2 : ∀ j : Nat, f2 j = 0) : Met l yX11_count (Cond.code yX11_count cX11_count 2 (some .int) :: WG) { frames := 1, cells := 0, slots := 0, locals := 22 } (zPre K [(a0, zO 9 9 g0), (a1, zO 1 18 g1), (a2, zI K 10 f2)] sz [.ref a0, .int (nI j0)]) (va_Qi (fun (r : Int32) (_ : Nat → Nat) => r = 0) (zB K (va_A [(a0, zO 9 9 g0), (a1, zO 1 18 g1), (a2, zI K 10 f2)] sz) (fun u : Nat → Nat => [])) (va_A [(a0, zO 9 9 g0), (a1, zO 1 18 g1), (a2, zI K 10 f2)] sz)) 0 0 (va_A [(a0, zO 9 9 g0), (a1, zO 1 18 g1), (a2, zI K 10 f2)] sz) := by
  refine z_met (Qc := fun A => (va_Qi (fun (r : Int32) (_ : Nat → Nat) => r = 0) (zB K A (fun u : Nat → Nat => [])) A)) (by decide +kernel) (Nat.le_of_ble_eq_true rfl) ?_
  intro p e s m args below meth c A ls H hx hb hr hg hown hlocks hml hin hK hP hD hA hS hZ hl
  have hown : s.vm.findClass RX11 = some m.cls := hown
  have hl : lv_has ls 2 [(0, .ref a0), (1, .int (nI j0))] := hl
  refine lv_aload_n hx hb dX11_count_0 rfl (lv_at hl 0 rfl) ?_
  refine lv_iload_n hx hb dX11_count_1 rfl (lv_at hl 1 rfl) ?_
  refine lv_bipush (v := 10) hx hb dX11_count_2 (by decide) ?_
  refine z_callv [(a0, zO 9 9 g0)] [(a1, zO 1 18 g1), (a2, zI K 10 f2)] [0] [1, 2] hP hD hS hA rfl rfl (by decide) (by decide) (by decide +kernel) 0 0 rfl rfl (fun hPc hDc hF => z_runV (As := [.int (nI j0), .int 10]) (rest := []) ⟨hx, hb, hml, hown, hg⟩ (cX11_checkRange_27 l K H.size a0 g0 j0 hj0) kV_RX11_72 hd_X11_checkRange rfl rfl ⟨(Nat.le_of_ble_eq_true rfl), (Nat.le_of_ble_eq_true rfl)⟩ hK hS hZ hPc hDc hF 0 rfl rfl rfl hl.1 rfl (Nat.le_of_ble_eq_true rfl) dX11_count_4 ⟨(Nat.le_of_ble_eq_true rfl), (Nat.le_of_ble_eq_true rfl)⟩) (fun u1 H locs w2 hP hD hS => ?_)
  have hP : va_P K.1 classes [(a1, zO 1 18 g1), (a2, zI K 10 f2), (a0, zO 9 9 g0)] H := hP
  have hD : va_D A [(a1, zO 1 18 g1), (a2, zI K 10 f2), (a0, zO 9 9 g0)] := hD
  refine lv_aload_n hx hb dX11_count_7 rfl (lv_at hl 0 rfl) ?_
  refine z_get (v := .ref a1) hx hb hg hown hK hP i_X11 rfl 2 rfl 7 (by decide) mt311 e0 dX11_count_8 ?_
  refine lv_iload_n hx hb dX11_count_11 rfl (lv_at hl 1 rfl) ?_
  refine z_calli [(a1, zO 1 18 g1), (a2, zI K 10 f2)] [(a0, zO 9 9 g0)] [0, 1] [2] hP hD hS hA rfl rfl (by decide) (by decide) (by decide +kernel) 0 0 rfl rfl (fun hPc hDc hF => z_runV (As := [.int (nI j0)]) (rest := []) ⟨hx, hb, hml, hown, hg⟩ (cX1_counted_1 l K H.size a1 a2 g1 f2 j0 hj0 e1 e2) kV_RX11_145 hd_X1_counted rfl rfl ⟨(Nat.le_of_ble_eq_true rfl), (Nat.le_of_ble_eq_true rfl)⟩ hK hS hZ hPc hDc hF 0 rfl rfl rfl hl.1 rfl (Nat.le_of_ble_eq_true rfl) dX11_count_12 ⟨(Nat.le_of_ble_eq_true rfl), (Nat.le_of_ble_eq_true rfl)⟩) (fun r6 u4 H locs w5 hP hD hS => ?_)
  subst w5
  have hP : va_P K.1 classes [(a0, zO 9 9 g0), (a1, zO 1 18 g1), (a2, zI K 10 f2)] H := hP
  have hD : va_D A [(a0, zO 9 9 g0), (a1, zO 1 18 g1), (a2, zI K 10 f2)] := hD
  have hP9 : va_P K.1 classes [] H := hP.sub [] rfl
  have hD9 : va_D A [] := hD.sub [] (by decide) rfl
  exact z_iret hx hb hr (fun _ => 0) rfl hP9 hD9 hS (Nat.le_of_ble_eq_true rfl) (Nat.le_of_ble_eq_true rfl) hlocks dX11_count_15
set_option maxHeartbeats 4000000 in
set_option maxRecDepth 100000 in
theorem cL_count_2 (l : Launch) (hl9 : l.stackTraces = false) (K : zK) (sz : Nat) (a0 : Nat) (a1 : Nat) (a2 : Nat) (a3 : Nat) (g0 : Nat → Value) (g2 : Nat → Value) (f3 : Nat → Int32) (f1 : Nat → Int64) (j0 : Nat) (hj0 : j0 < 10) (e0 : g0 7 = (.ref a2)) (e1 : g2 2 = (.ref a3)) (e2 : ∀ j : Nat, f3 j = 0) : vx_Met l yL_count (Cond.codeWith yL_count cL_count 4 (some .int) [(0, 9, 12, 18)] :: WG) { frames := 2, cells := 0, slots := 0, locals := 43 } (zPre K [(a0, zO 9 9 g0), (a2, zO 1 18 g2), (a3, zI K 10 f3), (a1, zJ K 1 f1)] sz [.ref a0, .int (nI j0), .ref a1]) (va_Qi (fun (r : Int32) (_ : Nat → Nat) => r = 0) (zB K (va_A [(a0, zO 9 9 g0), (a2, zO 1 18 g2), (a3, zI K 10 f3), (a1, zJ K 1 f1)] sz) (fun u : Nat → Nat => [(a1, zJ K 1 (va_up f1 0 0))])) (va_A [(a0, zO 9 9 g0), (a2, zO 1 18 g2), (a3, zI K 10 f3), (a1, zJ K 1 f1)] sz)) (vx_X (fun _ : Unit => False) (fun _ _ _ => True) (va_A [(a0, zO 9 9 g0), (a2, zO 1 18 g2), (a3, zI K 10 f3), (a1, zJ K 1 f1)] sz)) 0 0 (va_A [(a0, zO 9 9 g0), (a2, zO 1 18 g2), (a3, zI K 10 f3), (a1, zJ K 1 f1)] sz) := by
  refine z_hmet (Qc := fun A => (va_Qi (fun (r : Int32) (_ : Nat → Nat) => r = 0) (zB K A (fun u : Nat → Nat => [(a1, zJ K 1 (va_up f1 0 0))])) A)) (XC := fun A => vx_X (fun _ : Unit => False) (fun _ _ _ => True) A) (by decide +kernel) (Nat.le_of_ble_eq_true rfl) ?_
  intro p e s m args below meth c A ls H hx hb hr hg hown hlocks hml hTab hK hP hD hA hS hZ hl
  have hown : s.vm.findClass RL = some m.cls := hown
  have hl : lv_has ls 4 [(0, .ref a0), (1, .int (nI j0)), (2, .ref a1)] := hl
  refine lv_aload_n hx hb dL_count_0 rfl (lv_at hl 2 rfl) ?_
  refine lv_iconst (v := 0) hx hb dL_count_1 (by decide) ?_
  refine lv_aload_n hx hb dL_count_2 rfl (lv_at hl 0 rfl) ?_
  refine lv_iload_n hx hb dL_count_3 rfl (lv_at hl 1 rfl) ?_
  refine z_calli [(a0, zO 9 9 g0), (a2, zO 1 18 g2), (a3, zI K 10 f3)] [(a1, zJ K 1 f1)] [0, 1, 2] [3] hP hD hS hA rfl rfl (by decide) (by decide) (by decide +kernel) 0 0 rfl rfl (fun hPc hDc hF => z_runV (As := [.int (nI j0)]) (rest := [.int 0, .ref a1]) ⟨hx, hb, hml, hown, hg⟩ (cX11_count_2 l K H.size a0 a2 a3 g0 g2 f3 j0 hj0 e0 e1 e2) kV_RL_81 hd_X11_count rfl rfl ⟨(Nat.le_of_ble_eq_true rfl), (Nat.le_of_ble_eq_true rfl)⟩ hK hS hZ hPc hDc hF 0 rfl rfl rfl hl.1 rfl (Nat.le_of_ble_eq_true rfl) dL_count_4 ⟨(Nat.le_of_ble_eq_true rfl), (Nat.le_of_ble_eq_true rfl)⟩) (fun r3 u1 H locs w2 hP hD hS => ?_)
  subst w2
  have hP : va_P K.1 classes [(a1, zJ K 1 f1)] H := hP
  have hD : va_D A [(a1, zJ K 1 f1)] := hD
  refine lv_i2l hx hb dL_count_7 rfl ?_
  refine z_cstl (v := 0) (by decide +kernel) ?_
  refine z_last (j := 0) hx hb hK hP hD hS 0 rfl rfl (Nat.le_of_ble_eq_true rfl) (Nat.le_of_ble_eq_true rfl) dL_count_8 (fun ff4 H locs y5 hP hD hS => ?_)
  have hP : va_P K.1 classes [(a1, zJ K 1 ff4)] H := hP
  have hD : va_D A [(a1, zJ K 1 ff4)] := hD
  refine lv_goto (tgt := 15) hx hb dL_count_9 (by decide) ?_
  refine lv_iconst (v := 0) hx hb dL_count_15 (by decide) ?_
  subst y5
  have hP9 : va_P K.1 classes [(a1, zJ K 1 (va_up f1 0 0))] H := hP.sub [0] rfl
  have hD9 : va_D A [(a1, zJ K 1 (va_up f1 0 0))] := hD.sub [0] (by decide) rfl
  exact z_iret hx hb hr (fun _ => 0) rfl hP9 hD9 hS (Nat.le_of_ble_eq_true rfl) (Nat.le_of_ble_eq_true rfl) hlocks dL_count_16
set_option maxHeartbeats 4000000 in
set_option maxRecDepth 100000 in
theorem cX12_isIn_32 (l : Launch) (K : zK) (sz : Nat) (j0 : Nat) (hj0 : j0 < 10) : Met l yX12_isIn (Cond.code yX12_isIn cX12_isIn 3 (some .boolean) :: WG) { frames := 0, cells := 0, slots := 0, locals := 0 } (zPre K [] sz [.int (nI j0), .int 0, .int 9]) (va_Qi (fun (r : Int32) (_ : Nat → Nat) => r = 1) (zB K (va_A [] sz) (fun u : Nat → Nat => [])) (va_A [] sz)) 0 0 (va_A [] sz) := by
  refine z_met (Qc := fun A => (va_Qi (fun (r : Int32) (_ : Nat → Nat) => r = 1) (zB K A (fun u : Nat → Nat => [])) A)) (by decide +kernel) (Nat.le_of_ble_eq_true rfl) ?_
  intro p e s m args below meth c A ls H hx hb hr hg hown hlocks hml hin hK hP hD hA hS hZ hl
  have hown : s.vm.findClass RX12 = some m.cls := hown
  have hl : lv_has ls 3 [(0, .int (nI j0)), (1, .int 0), (2, .int 9)] := hl
  refine lv_iload_n hx hb dX12_isIn_0 rfl (lv_at hl 0 rfl) ?_
  refine lv_iload_n hx hb dX12_isIn_1 rfl (lv_at hl 1 rfl) ?_
  refine lv_icmp_lt (tgt := 14) hx hb dX12_isIn_2 (by decide) (fun c => absurd c ((by decide : ∀ j, j < 10 → ¬ ((nI j) < (0 : Int32))) j0 hj0)) (fun _ => ?_)
  refine lv_iload_n hx hb dX12_isIn_5 rfl (lv_at hl 0 rfl) ?_
  refine lv_iload_n hx hb dX12_isIn_6 rfl (lv_at hl 2 rfl) ?_
  refine lv_icmp_gt (tgt := 14) hx hb dX12_isIn_7 (by decide) (fun c => absurd c ((by decide : ∀ j, j < 10 → ¬ ((9 : Int32) < (nI j))) j0 hj0)) (fun _ => ?_)
  refine lv_iconst (v := 1) hx hb dX12_isIn_10 (by decide) ?_
  refine lv_goto (tgt := 15) hx hb dX12_isIn_11 (by decide) ?_
  have hP9 : va_P K.1 classes [] H := hP.sub [] rfl
  have hD9 : va_D A [] := hD.sub [] (by decide) rfl
  exact z_zret hx hb hr rfl (fun _ => 0) rfl hP9 hD9 hS (Nat.le_of_ble_eq_true rfl) (Nat.le_of_ble_eq_true rfl) hlocks dX12_isIn_15
set_option maxHeartbeats 4000000 in
set_option maxRecDepth 100000 in
theorem cX12_count_2 (l : Launch) (K : zK) (sz : Nat) (a0 : Nat) (a1 : Nat) (g0 : Nat → Value) (f1 : Nat → Int32) (j0 : Nat) (hj0 : j0 < 10) (e0 : g0 80 = (.ref a1)) (e1 : ∀ j : Nat, f1 j = 0) : Met l yX12_count (Cond.code yX12_count cX12_count 2 (some .int) :: WG) { frames := 1, cells := 0, slots := 0, locals := 22 } (zPre K [(a0, zO 10 83 g0), (a1, zI K 10 f1)] sz [.ref a0, .int (nI j0)]) (va_Qi (fun (r : Int32) (_ : Nat → Nat) => r = 0) (zB K (va_A [(a0, zO 10 83 g0), (a1, zI K 10 f1)] sz) (fun u : Nat → Nat => [(a0, zO 10 83 (va_up g0 81 (.int 0)))])) (va_A [(a0, zO 10 83 g0), (a1, zI K 10 f1)] sz)) 0 0 (va_A [(a0, zO 10 83 g0), (a1, zI K 10 f1)] sz) := by
  refine z_met (Qc := fun A => (va_Qi (fun (r : Int32) (_ : Nat → Nat) => r = 0) (zB K A (fun u : Nat → Nat => [(a0, zO 10 83 (va_up g0 81 (.int 0)))])) A)) (by decide +kernel) (Nat.le_of_ble_eq_true rfl) ?_
  intro p e s m args below meth c A ls H hx hb hr hg hown hlocks hml hin hK hP hD hA hS hZ hl
  have hown : s.vm.findClass RX12 = some m.cls := hown
  have hl : lv_has ls 2 [(0, .ref a0), (1, .int (nI j0))] := hl
  refine lv_aload_n hx hb dX12_count_0 rfl (lv_at hl 0 rfl) ?_
  refine lv_iload_n hx hb dX12_count_1 rfl (lv_at hl 1 rfl) ?_
  refine lv_iconst (v := 0) hx hb dX12_count_2 (by decide) ?_
  refine lv_bipush (v := 9) hx hb dX12_count_3 (by decide) ?_
  refine z_calli [] [(a0, zO 10 83 g0), (a1, zI K 10 f1)] [] [0, 1] hP hD hS hA rfl rfl (by decide) (by decide) (by decide +kernel) 0 0 rfl rfl (fun hPc hDc hF => z_runS (As := [.int (nI j0), .int 0, .int 9]) (rest := [.ref a0]) ⟨hx, hb, hml, hown, hg⟩ (cX12_isIn_32 l K H.size j0 hj0) kS_RX12_175 hd_X12_isIn rfl rfl ⟨(Nat.le_of_ble_eq_true rfl), (Nat.le_of_ble_eq_true rfl)⟩ hK hS hZ hPc hDc hF rfl hl.1 rfl (Nat.le_of_ble_eq_true rfl) dX12_count_5 ⟨(Nat.le_of_ble_eq_true rfl), (Nat.le_of_ble_eq_true rfl)⟩) (fun r3 u1 H locs w2 hP hD hS => ?_)
  subst w2
  have hP : va_P K.1 classes [(a0, zO 10 83 g0), (a1, zI K 10 f1)] H := hP
  have hD : va_D A [(a0, zO 10 83 g0), (a1, zI K 10 f1)] := hD
  refine lv_if_eq (tgt := 15) hx hb dX12_count_8 (by decide) (fun c => absurd c (by decide)) (fun _ => ?_)
  refine lv_iconst (v := 0) hx hb dX12_count_11 (by decide) ?_
  refine lv_goto (tgt := 16) hx hb dX12_count_12 (by decide) ?_
  refine z_calli [(a0, zO 10 83 g0)] [(a1, zI K 10 f1)] [0] [1] hP hD hS hA rfl rfl (by decide) (by decide) (by decide +kernel) 0 0 rfl rfl (fun hPc hDc hF => z_runV (As := [.int 0]) (rest := []) ⟨hx, hb, hml, hown, hg⟩ (cX12_can_1 l K H.size a0 g0) kV_RX12_182 hd_X12_can rfl rfl ⟨(Nat.le_of_ble_eq_true rfl), (Nat.le_of_ble_eq_true rfl)⟩ hK hS hZ hPc hDc hF 0 rfl rfl rfl hl.1 rfl (Nat.le_of_ble_eq_true rfl) dX12_count_16 ⟨(Nat.le_of_ble_eq_true rfl), (Nat.le_of_ble_eq_true rfl)⟩) (fun r6 u4 H locs w5 hP hD hS => ?_)
  subst w5
  have hP : va_P K.1 classes [(a1, zI K 10 f1), (a0, zO 10 83 (va_up g0 81 (.int 0)))] H := hP
  have hD : va_D A [(a1, zI K 10 f1), (a0, zO 10 83 (va_up g0 81 (.int 0)))] := hD
  refine lv_if_eq (tgt := 31) hx hb dX12_count_19 (by decide) (fun c => absurd c (by decide)) (fun _ => ?_)
  refine lv_aload_n hx hb dX12_count_22 rfl (lv_at hl 0 rfl) ?_
  refine z_get (v := .ref a1) hx hb hg hown hK hP i_X12 rfl 1 rfl 80 (by decide) mt1360 (zu_ne (by decide) e0) dX12_count_23 ?_
  refine lv_iload_n hx hb dX12_count_26 rfl (lv_at hl 1 rfl) ?_
  refine z_iald (v := 0) (j := j0) hx hb hK hP 0 rfl rfl (Nat.lt_of_lt_of_le hj0 (Nat.le_of_ble_eq_true rfl)) (Nat.le_of_ble_eq_true rfl) (e1 j0) dX12_count_27 ?_
  refine lv_goto (tgt := 32) hx hb dX12_count_28 (by decide) ?_
  have hP9 : va_P K.1 classes [(a0, zO 10 83 (va_up g0 81 (.int 0)))] H := hP.sub [1] rfl
  have hD9 : va_D A [(a0, zO 10 83 (va_up g0 81 (.int 0)))] := hD.sub [1] (by decide) rfl
  exact z_iret hx hb hr (fun _ => 0) rfl hP9 hD9 hS (Nat.le_of_ble_eq_true rfl) (Nat.le_of_ble_eq_true rfl) hlocks dX12_count_32
set_option maxHeartbeats 4000000 in
set_option maxRecDepth 100000 in
theorem cX11_checkRange_28 (l : Launch) (hl9 : l.stackTraces = false) (K : zK) (sz : Nat) (a0 : Nat) (g0 : Nat → Value) (x0 : Int32) (e0 : ¬ x0 < (0 : Int32)) (e1 : ¬ x0 < (10 : Int32)) : vx_Met l yX11_checkRange (Cond.code yX11_checkRange cX11_checkRange 3 none :: WG) { frames := 6, cells := 1, slots := 6, locals := 82 } (zPre K [(a0, zO 9 9 g0)] sz [.ref a0, .int x0, .int 10]) (va_Qv (fun _ : Unit => False) (fun _ _ => True) (va_A [(a0, zO 9 9 g0)] sz)) (zX (va_A [(a0, zO 9 9 g0)] sz) zIA) 1 6 (va_A [(a0, zO 9 9 g0)] sz) := by
  refine z_xmet (Qc := fun A => va_Qv (fun _ : Unit => False) (fun _ _ => True) A) (XC := fun A => zX A zIA) (by decide +kernel) (Nat.le_of_ble_eq_true rfl) ?_
  intro p e s m args below meth c A ls H hx hb hr hg hown hlocks hml hno hK hP hD hA hS hZ hl
  have hown : s.vm.findClass RX11 = some m.cls := hown
  have hl : lv_has ls 3 [(0, .ref a0), (1, .int x0), (2, .int 10)] := hl
  refine lv_iload_n hx hb dX11_checkRange_0 rfl (lv_at hl 1 rfl) ?_
  refine lv_if_lt (tgt := 9) hx hb dX11_checkRange_1 (by decide) (fun c => absurd c e0) (fun _ => ?_)
  refine lv_iload_n hx hb dX11_checkRange_4 rfl (lv_at hl 1 rfl) ?_
  refine lv_iload_n hx hb dX11_checkRange_5 rfl (lv_at hl 2 rfl) ?_
  refine lv_icmp_lt (tgt := 19) hx hb dX11_checkRange_6 (by decide) (fun c => absurd c e1) (fun _ => ?_)
  exact z_throw (ik := 82) (is := 183) (ic := 86) hx hb hl9 hg hown (by decide +kernel) mt500 mt16 hZ.1.2.2.1 (at_zIA hg hZ) ok_zIA hZ hS hl.1 hml dX11_checkRange_9 dX11_checkRange_12 dX11_checkRange_13 dX11_checkRange_15 dX11_checkRange_18 hno hlocks (Nat.le_of_ble_eq_true rfl) (Nat.le_of_ble_eq_true rfl) (Nat.le_of_ble_eq_true rfl) (Nat.le_of_ble_eq_true rfl) (Nat.le_of_ble_eq_true rfl) (Nat.le_of_ble_eq_true rfl)
set_option maxHeartbeats 4000000 in
set_option maxRecDepth 100000 in
theorem cX11_count_3 (l : Launch) (hl9 : l.stackTraces = false) (K : zK) (sz : Nat) (a0 : Nat) (g0 : Nat → Value) (x0 : Int32) (e0 : ¬ x0 < (0 : Int32)) (e1 : ¬ x0 < (10 : Int32)) : vx_Met l yX11_count (Cond.code yX11_count cX11_count 2 (some .int) :: WG) { frames := 7, cells := 1, slots := 6, locals := 104 } (zPre K [(a0, zO 9 9 g0)] sz [.ref a0, .int x0]) (va_Qv (fun _ : Unit => False) (fun _ _ => True) (va_A [(a0, zO 9 9 g0)] sz)) (zX (va_A [(a0, zO 9 9 g0)] sz) zIA) 1 6 (va_A [(a0, zO 9 9 g0)] sz) := by
  refine z_xmet (Qc := fun A => va_Qv (fun _ : Unit => False) (fun _ _ => True) A) (XC := fun A => zX A zIA) (by decide +kernel) (Nat.le_of_ble_eq_true rfl) ?_
  intro p e s m args below meth c A ls H hx hb hr hg hown hlocks hml hno hK hP hD hA hS hZ hl
  have hown : s.vm.findClass RX11 = some m.cls := hown
  have hl : lv_has ls 2 [(0, .ref a0), (1, .int x0)] := hl
  refine lv_aload_n hx hb dX11_count_0 rfl (lv_at hl 0 rfl) ?_
  refine lv_iload_n hx hb dX11_count_1 rfl (lv_at hl 1 rfl) ?_
  refine lv_bipush (v := 10) hx hb dX11_count_2 (by decide) ?_
  refine z_xcall (EX := zIA) [(a0, zO 9 9 g0)] [0] hP hD hS hA rfl (by decide) 1 6 rfl rfl (fun hPc hDc hF => z_xrunV (As := [.int x0, .int 10]) (rest := []) ⟨hx, hb, hml, hown, hg⟩ (cX11_checkRange_28 l hl9 K H.size a0 g0 x0 e0 e1) kV_RX11_72 hd_X11_checkRange rfl rfl ⟨(Nat.le_of_ble_eq_true rfl), (Nat.le_of_ble_eq_true rfl)⟩ hK hS hZ hPc hDc hF 0 rfl rfl rfl hl.1 rfl (Nat.le_of_ble_eq_true rfl) dX11_count_4 ⟨(Nat.le_of_ble_eq_true rfl), (Nat.le_of_ble_eq_true rfl)⟩) (fun ce q9 H locs hS hce hcv hcl => ?_)
  exact z_xout hno hlocks hS hce hcv hcl (Nat.le_of_ble_eq_true rfl) (Nat.le_of_ble_eq_true rfl)
set_option maxHeartbeats 4000000 in
set_option maxRecDepth 100000 in
theorem cL_count_3 (l : Launch) (hl9 : l.stackTraces = false) (K : zK) (sz : Nat) (a0 : Nat) (a1 : Nat) (g0 : Nat → Value) (x0 : Int32) (e0 : ¬ x0 < (0 : Int32)) (e1 : ¬ x0 < (10 : Int32)) : vx_Met l yL_count (Cond.codeWith yL_count cL_count 4 (some .int) [(0, 9, 12, 18)] :: WG) { frames := 8, cells := 1, slots := 6, locals := 125 } (zPre K [(a0, zO 9 9 g0)] sz [.ref a0, .int x0, .ref a1]) (va_Qi (fun (r : Int32) (_ : Nat → Nat) => r = 1) (zB K (va_A [(a0, zO 9 9 g0)] sz) (fun u : Nat → Nat => [])) (va_A [(a0, zO 9 9 g0)] sz)) (vx_X (fun _ : Unit => False) (fun _ _ _ => True) (va_A [(a0, zO 9 9 g0)] sz)) 1 6 (va_A [(a0, zO 9 9 g0)] sz) := by
  refine z_hmet (Qc := fun A => (va_Qi (fun (r : Int32) (_ : Nat → Nat) => r = 1) (zB K A (fun u : Nat → Nat => [])) A)) (XC := fun A => vx_X (fun _ : Unit => False) (fun _ _ _ => True) A) (by decide +kernel) (Nat.le_of_ble_eq_true rfl) ?_
  intro p e s m args below meth c A ls H hx hb hr hg hown hlocks hml hTab hK hP hD hA hS hZ hl
  have hown : s.vm.findClass RL = some m.cls := hown
  have hl : lv_has ls 4 [(0, .ref a0), (1, .int x0), (2, .ref a1)] := hl
  refine lv_aload_n hx hb dL_count_0 rfl (lv_at hl 2 rfl) ?_
  refine lv_iconst (v := 0) hx hb dL_count_1 (by decide) ?_
  refine lv_aload_n hx hb dL_count_2 rfl (lv_at hl 0 rfl) ?_
  refine lv_iload_n hx hb dL_count_3 rfl (lv_at hl 1 rfl) ?_
  refine z_xcall (EX := zIA) [(a0, zO 9 9 g0)] [0] hP hD hS hA rfl (by decide) 1 6 rfl rfl (fun hPc hDc hF => z_xrunV (As := [.int x0]) (rest := [.int 0, .ref a1]) ⟨hx, hb, hml, hown, hg⟩ (cX11_count_3 l hl9 K H.size a0 g0 x0 e0 e1) kV_RL_81 hd_X11_count rfl rfl ⟨(Nat.le_of_ble_eq_true rfl), (Nat.le_of_ble_eq_true rfl)⟩ hK hS hZ hPc hDc hF 0 rfl rfl rfl hl.1 rfl (Nat.le_of_ble_eq_true rfl) dL_count_4 ⟨(Nat.le_of_ble_eq_true rfl), (Nat.le_of_ble_eq_true rfl)⟩) (fun ce q9 H locs hS hce hcv hcl => ?_)
  refine vx_catch (own := RL) (name := zIA) (E := zIA) hown [] ⟨0, 9, 12, 18⟩ [] (by rw [hTab]; rfl) (fun z hz => nomatch hz) (by decide) (by decide) (hg _ mt491) (va_Nw.use rfl hZ.1.1.2.1) hce hcv hcl ?_
  have hP : va_P K.1 classes [] H := z_P0
  have hD : va_D A [] := z_D0
  refine lv_astore_n (lv' := [(3, .ref q9), (0, .ref a0), (1, .int x0), (2, .ref a1)]) hx hb dL_count_12 rfl hl (by decide) rfl (fun ls hl => ?_)
  refine lv_iconst (v := 1) hx hb dL_count_13 (by decide) ?_
  have hP9 : va_P K.1 classes [] H := hP.sub [] rfl
  have hD9 : va_D A [] := hD.sub [] (by decide) rfl
  exact z_iret hx hb hr (fun _ => 0) rfl hP9 hD9 hS (Nat.le_of_ble_eq_true rfl) (Nat.le_of_ble_eq_true rfl) hlocks dL_count_14
set_option maxHeartbeats 4000000 in
set_option maxRecDepth 100000 in
theorem cX12_isIn_33 (l : Launch) (K : zK) (sz : Nat) (x0 : Int32) (e0 : ¬ x0 < (0 : Int32)) (e1 : (9 : Int32) < x0) : Met l yX12_isIn (Cond.code yX12_isIn cX12_isIn 3 (some .boolean) :: WG) { frames := 0, cells := 0, slots := 0, locals := 0 } (zPre K [] sz [.int x0, .int 0, .int 9]) (va_Qi (fun (r : Int32) (_ : Nat → Nat) => r = 0) (zB K (va_A [] sz) (fun u : Nat → Nat => [])) (va_A [] sz)) 0 0 (va_A [] sz) := by
  refine z_met (Qc := fun A => (va_Qi (fun (r : Int32) (_ : Nat → Nat) => r = 0) (zB K A (fun u : Nat → Nat => [])) A)) (by decide +kernel) (Nat.le_of_ble_eq_true rfl) ?_
  intro p e s m args below meth c A ls H hx hb hr hg hown hlocks hml hin hK hP hD hA hS hZ hl
  have hown : s.vm.findClass RX12 = some m.cls := hown
  have hl : lv_has ls 3 [(0, .int x0), (1, .int 0), (2, .int 9)] := hl
  refine lv_iload_n hx hb dX12_isIn_0 rfl (lv_at hl 0 rfl) ?_
  refine lv_iload_n hx hb dX12_isIn_1 rfl (lv_at hl 1 rfl) ?_
  refine lv_icmp_lt (tgt := 14) hx hb dX12_isIn_2 (by decide) (fun c => absurd c e0) (fun _ => ?_)
  refine lv_iload_n hx hb dX12_isIn_5 rfl (lv_at hl 0 rfl) ?_
  refine lv_iload_n hx hb dX12_isIn_6 rfl (lv_at hl 2 rfl) ?_
  refine lv_icmp_gt (tgt := 14) hx hb dX12_isIn_7 (by decide) (fun _ => ?_) (fun c => absurd e1 c)
  refine lv_iconst (v := 0) hx hb dX12_isIn_14 (by decide) ?_
  have hP9 : va_P K.1 classes [] H := hP.sub [] rfl
  have hD9 : va_D A [] := hD.sub [] (by decide) rfl
  exact z_zret hx hb hr rfl (fun _ => 0) rfl hP9 hD9 hS (Nat.le_of_ble_eq_true rfl) (Nat.le_of_ble_eq_true rfl) hlocks dX12_isIn_15
set_option maxHeartbeats 4000000 in
set_option maxRecDepth 100000 in
theorem cX12_count_3 (l : Launch) (K : zK) (sz : Nat) (a0 : Nat) (g0 : Nat → Value) (x0 : Int32) (e0 : ¬ x0 < (0 : Int32)) (e1 : (9 : Int32) < x0) : Met l yX12_count (Cond.code yX12_count cX12_count 2 (some .int) :: WG) { frames := 1, cells := 0, slots := 0, locals := 22 } (zPre K [(a0, zO 10 83 g0)] sz [.ref a0, .int x0]) (va_Qi (fun (r : Int32) (_ : Nat → Nat) => r = 0) (zB K (va_A [(a0, zO 10 83 g0)] sz) (fun u : Nat → Nat => [(a0, zO 10 83 (va_up g0 81 (.int 1)))])) (va_A [(a0, zO 10 83 g0)] sz)) 0 0 (va_A [(a0, zO 10 83 g0)] sz) := by
  refine z_met (Qc := fun A => (va_Qi (fun (r : Int32) (_ : Nat → Nat) => r = 0) (zB K A (fun u : Nat → Nat => [(a0, zO 10 83 (va_up g0 81 (.int 1)))])) A)) (by decide +kernel) (Nat.le_of_ble_eq_true rfl) ?_
  intro p e s m args below meth c A ls H hx hb hr hg hown hlocks hml hin hK hP hD hA hS hZ hl
  have hown : s.vm.findClass RX12 = some m.cls := hown
  have hl : lv_has ls 2 [(0, .ref a0), (1, .int x0)] := hl
  refine lv_aload_n hx hb dX12_count_0 rfl (lv_at hl 0 rfl) ?_
  refine lv_iload_n hx hb dX12_count_1 rfl (lv_at hl 1 rfl) ?_
  refine lv_iconst (v := 0) hx hb dX12_count_2 (by decide) ?_
  refine lv_bipush (v := 9) hx hb dX12_count_3 (by decide) ?_
  refine z_calli [] [(a0, zO 10 83 g0)] [] [0] hP hD hS hA rfl rfl (by decide) (by decide) (by decide +kernel) 0 0 rfl rfl (fun hPc hDc hF => z_runS (As := [.int x0, .int 0, .int 9]) (rest := [.ref a0]) ⟨hx, hb, hml, hown, hg⟩ (cX12_isIn_33 l K H.size x0 e0 e1) kS_RX12_175 hd_X12_isIn rfl rfl ⟨(Nat.le_of_ble_eq_true rfl), (Nat.le_of_ble_eq_true rfl)⟩ hK hS hZ hPc hDc hF rfl hl.1 rfl (Nat.le_of_ble_eq_true rfl) dX12_count_5 ⟨(Nat.le_of_ble_eq_true rfl), (Nat.le_of_ble_eq_true rfl)⟩) (fun r3 u1 H locs w2 hP hD hS => ?_)
  subst w2
  have hP : va_P K.1 classes [(a0, zO 10 83 g0)] H := hP
  have hD : va_D A [(a0, zO 10 83 g0)] := hD
  refine lv_if_eq (tgt := 15) hx hb dX12_count_8 (by decide) (fun _ => ?_) (fun c => absurd (by decide) c)
  refine lv_iconst (v := 1) hx hb dX12_count_15 (by decide) ?_
  refine z_calli [(a0, zO 10 83 g0)] [] [0] [] hP hD hS hA rfl rfl (by decide) (by decide) (by decide +kernel) 0 0 rfl rfl (fun hPc hDc hF => z_runV (As := [.int 1]) (rest := []) ⟨hx, hb, hml, hown, hg⟩ (cX12_can_2 l K H.size a0 g0) kV_RX12_182 hd_X12_can rfl rfl ⟨(Nat.le_of_ble_eq_true rfl), (Nat.le_of_ble_eq_true rfl)⟩ hK hS hZ hPc hDc hF 0 rfl rfl rfl hl.1 rfl (Nat.le_of_ble_eq_true rfl) dX12_count_16 ⟨(Nat.le_of_ble_eq_true rfl), (Nat.le_of_ble_eq_true rfl)⟩) (fun r6 u4 H locs w5 hP hD hS => ?_)
  subst w5
  have hP : va_P K.1 classes [(a0, zO 10 83 (va_up g0 81 (.int 1)))] H := hP
  have hD : va_D A [(a0, zO 10 83 (va_up g0 81 (.int 1)))] := hD
  refine lv_if_eq (tgt := 31) hx hb dX12_count_19 (by decide) (fun _ => ?_) (fun c => absurd (by decide) c)
  refine lv_iconst (v := 0) hx hb dX12_count_31 (by decide) ?_
  have hP9 : va_P K.1 classes [(a0, zO 10 83 (va_up g0 81 (.int 1)))] H := hP.sub [0] rfl
  have hD9 : va_D A [(a0, zO 10 83 (va_up g0 81 (.int 1)))] := hD.sub [0] (by decide) rfl
  exact z_iret hx hb hr (fun _ => 0) rfl hP9 hD9 hS (Nat.le_of_ble_eq_true rfl) (Nat.le_of_ble_eq_true rfl) hlocks dX12_count_32
set_option maxHeartbeats 4000000 in
set_option maxRecDepth 100000 in
theorem cX11_size_1 (l : Launch) (hl9 : l.stackTraces = false) (K : zK) (sz : Nat) (a0 : Nat) (g0 : Nat → Value) (x0 : Int32) (e0 : x0 < (0 : Int32)) : vx_Met l yX11_size (Cond.code yX11_size cX11_size 3 (some .int) :: WG) { frames := 7, cells := 1, slots := 6, locals := 104 } (zPre K [(a0, zO 9 9 g0)] sz [.ref a0, .int x0, .int 0]) (va_Qv (fun _ : Unit => False) (fun _ _ => True) (va_A [(a0, zO 9 9 g0)] sz)) (zX (va_A [(a0, zO 9 9 g0)] sz) zIA) 1 6 (va_A [(a0, zO 9 9 g0)] sz) := by
  refine z_xmet (Qc := fun A => va_Qv (fun _ : Unit => False) (fun _ _ => True) A) (XC := fun A => zX A zIA) (by decide +kernel) (Nat.le_of_ble_eq_true rfl) ?_
  intro p e s m args below meth c A ls H hx hb hr hg hown hlocks hml hno hK hP hD hA hS hZ hl
  have hown : s.vm.findClass RX11 = some m.cls := hown
  have hl : lv_has ls 3 [(0, .ref a0), (1, .int x0), (2, .int 0)] := hl
  refine lv_aload_n hx hb dX11_size_0 rfl (lv_at hl 0 rfl) ?_
  refine lv_iload_n hx hb dX11_size_1 rfl (lv_at hl 1 rfl) ?_
  refine lv_bipush (v := 8) hx hb dX11_size_2 (by decide) ?_
  refine z_xcall (EX := zIA) [(a0, zO 9 9 g0)] [0] hP hD hS hA rfl (by decide) 1 6 rfl rfl (fun hPc hDc hF => z_xrunV (As := [.int x0, .int 8]) (rest := []) ⟨hx, hb, hml, hown, hg⟩ (cX11_checkRange_4 l hl9 K H.size a0 g0 x0 e0) kV_RX11_72 hd_X11_checkRange rfl rfl ⟨(Nat.le_of_ble_eq_true rfl), (Nat.le_of_ble_eq_true rfl)⟩ hK hS hZ hPc hDc hF 0 rfl rfl rfl hl.1 rfl (Nat.le_of_ble_eq_true rfl) dX11_size_4 ⟨(Nat.le_of_ble_eq_true rfl), (Nat.le_of_ble_eq_true rfl)⟩) (fun ce q9 H locs hS hce hcv hcl => ?_)
  exact z_xout hno hlocks hS hce hcv hcl (Nat.le_of_ble_eq_true rfl) (Nat.le_of_ble_eq_true rfl)
set_option maxHeartbeats 4000000 in
set_option maxRecDepth 100000 in
theorem cL_size_1 (l : Launch) (hl9 : l.stackTraces = false) (K : zK) (sz : Nat) (a0 : Nat) (a1 : Nat) (g0 : Nat → Value) (x0 : Int32) (e0 : x0 < (0 : Int32)) : vx_Met l yL_size (Cond.codeWith yL_size cL_size 5 (some .int) [(0, 10, 13, 18), (0, 10, 17, 13)] :: WG) { frames := 8, cells := 1, slots := 6, locals := 126 } (zPre K [(a0, zO 9 9 g0)] sz [.ref a0, .int x0, .int 0, .ref a1]) (va_Qi (fun (r : Int32) (_ : Nat → Nat) => r = 1) (zB K (va_A [(a0, zO 9 9 g0)] sz) (fun u : Nat → Nat => [])) (va_A [(a0, zO 9 9 g0)] sz)) (vx_X (fun _ : Unit => False) (fun _ _ _ => True) (va_A [(a0, zO 9 9 g0)] sz)) 1 6 (va_A [(a0, zO 9 9 g0)] sz) := by
  refine z_hmet (Qc := fun A => (va_Qi (fun (r : Int32) (_ : Nat → Nat) => r = 1) (zB K A (fun u : Nat → Nat => [])) A)) (XC := fun A => vx_X (fun _ : Unit => False) (fun _ _ _ => True) A) (by decide +kernel) (Nat.le_of_ble_eq_true rfl) ?_
  intro p e s m args below meth c A ls H hx hb hr hg hown hlocks hml hTab hK hP hD hA hS hZ hl
  have hown : s.vm.findClass RL = some m.cls := hown
  have hl : lv_has ls 5 [(0, .ref a0), (1, .int x0), (2, .int 0), (3, .ref a1)] := hl
  refine lv_aload_n hx hb dL_size_0 rfl (lv_at hl 3 rfl) ?_
  refine lv_iconst (v := 0) hx hb dL_size_1 (by decide) ?_
  refine lv_aload_n hx hb dL_size_2 rfl (lv_at hl 0 rfl) ?_
  refine lv_iload_n hx hb dL_size_3 rfl (lv_at hl 1 rfl) ?_
  refine lv_iload_n hx hb dL_size_4 rfl (lv_at hl 2 rfl) ?_
  refine z_xcall (EX := zIA) [(a0, zO 9 9 g0)] [0] hP hD hS hA rfl (by decide) 1 6 rfl rfl (fun hPc hDc hF => z_xrunV (As := [.int x0, .int 0]) (rest := [.int 0, .ref a1]) ⟨hx, hb, hml, hown, hg⟩ (cX11_size_1 l hl9 K H.size a0 g0 x0 e0) kV_RL_87 hd_X11_size rfl rfl ⟨(Nat.le_of_ble_eq_true rfl), (Nat.le_of_ble_eq_true rfl)⟩ hK hS hZ hPc hDc hF 0 rfl rfl rfl hl.1 rfl (Nat.le_of_ble_eq_true rfl) dL_size_5 ⟨(Nat.le_of_ble_eq_true rfl), (Nat.le_of_ble_eq_true rfl)⟩) (fun ce q9 H locs hS hce hcv hcl => ?_)
  refine vx_catch (own := RL) (name := zIA) (E := zIA) hown [] ⟨0, 10, 13, 18⟩ [⟨0, 10, 17, 13⟩] (by rw [hTab]; rfl) (fun z hz => nomatch hz) (by decide) (by decide) (hg _ mt491) (va_Nw.use rfl hZ.1.1.2.1) hce hcv hcl ?_
  have hP : va_P K.1 classes [] H := z_P0
  have hD : va_D A [] := z_D0
  refine lv_astore (lv' := [(4, .ref q9), (0, .ref a0), (1, .int x0), (2, .int 0), (3, .ref a1)]) hx hb dL_size_13 hl (by decide) rfl (fun ls hl => ?_)
  refine lv_iconst (v := 1) hx hb dL_size_15 (by decide) ?_
  have hP9 : va_P K.1 classes [] H := hP.sub [] rfl
  have hD9 : va_D A [] := hD.sub [] (by decide) rfl
  exact z_iret hx hb hr (fun _ => 0) rfl hP9 hD9 hS (Nat.le_of_ble_eq_true rfl) (Nat.le_of_ble_eq_true rfl) hlocks dL_size_16
set_option maxHeartbeats 4000000 in
set_option maxRecDepth 100000 in
theorem cX12_size_1 (l : Launch) (K : zK) (sz : Nat) (a0 : Nat) (g0 : Nat → Value) (x0 : Int32) (e0 : x0 < (0 : Int32)) : Met l yX12_size (Cond.code yX12_size cX12_size 3 (some .int) :: WG) { frames := 2, cells := 0, slots := 0, locals := 42 } (zPre K [(a0, zO 10 83 g0)] sz [.ref a0, .int x0, .int 0]) (va_Qi (fun (r : Int32) (_ : Nat → Nat) => r = 0) (zB K (va_A [(a0, zO 10 83 g0)] sz) (fun u : Nat → Nat => [(a0, zO 10 83 (va_up g0 81 (.int 1)))])) (va_A [(a0, zO 10 83 g0)] sz)) 0 0 (va_A [(a0, zO 10 83 g0)] sz) := by
  refine z_met (Qc := fun A => (va_Qi (fun (r : Int32) (_ : Nat → Nat) => r = 0) (zB K A (fun u : Nat → Nat => [(a0, zO 10 83 (va_up g0 81 (.int 1)))])) A)) (by decide +kernel) (Nat.le_of_ble_eq_true rfl) ?_
  intro p e s m args below meth c A ls H hx hb hr hg hown hlocks hml hin hK hP hD hA hS hZ hl
  have hown : s.vm.findClass RX12 = some m.cls := hown
  have hl : lv_has ls 3 [(0, .ref a0), (1, .int x0), (2, .int 0)] := hl
  refine lv_aload_n hx hb dX12_size_0 rfl (lv_at hl 0 rfl) ?_
  refine lv_iload_n hx hb dX12_size_1 rfl (lv_at hl 1 rfl) ?_
  refine z_calli [] [(a0, zO 10 83 g0)] [] [0] hP hD hS hA rfl rfl (by decide) (by decide) (by decide +kernel) 0 0 rfl rfl (fun hPc hDc hF => z_runS (As := [.int x0]) (rest := [.ref a0]) ⟨hx, hb, hml, hown, hg⟩ (cX12_isGlobal_1 l K H.size x0 e0) kS_RX12_197 hd_X12_isGlobal rfl rfl ⟨(Nat.le_of_ble_eq_true rfl), (Nat.le_of_ble_eq_true rfl)⟩ hK hS hZ hPc hDc hF rfl hl.1 rfl (Nat.le_of_ble_eq_true rfl) dX12_size_2 ⟨(Nat.le_of_ble_eq_true rfl), (Nat.le_of_ble_eq_true rfl)⟩) (fun r3 u1 H locs w2 hP hD hS => ?_)
  subst w2
  have hP : va_P K.1 classes [(a0, zO 10 83 g0)] H := hP
  have hD : va_D A [(a0, zO 10 83 g0)] := hD
  refine lv_if_ne (tgt := 12) hx hb dX12_size_5 (by decide) (fun c => absurd (by decide) c) (fun _ => ?_)
  refine lv_iconst (v := 1) hx hb dX12_size_8 (by decide) ?_
  refine lv_goto (tgt := 28) hx hb dX12_size_9 (by decide) ?_
  refine z_calli [(a0, zO 10 83 g0)] [] [0] [] hP hD hS hA rfl rfl (by decide) (by decide) (by decide +kernel) 0 0 rfl rfl (fun hPc hDc hF => z_runV (As := [.int 1]) (rest := []) ⟨hx, hb, hml, hown, hg⟩ (cX12_can_2 l K H.size a0 g0) kV_RX12_182 hd_X12_can rfl rfl ⟨(Nat.le_of_ble_eq_true rfl), (Nat.le_of_ble_eq_true rfl)⟩ hK hS hZ hPc hDc hF 0 rfl rfl rfl hl.1 rfl (Nat.le_of_ble_eq_true rfl) dX12_size_28 ⟨(Nat.le_of_ble_eq_true rfl), (Nat.le_of_ble_eq_true rfl)⟩) (fun r6 u4 H locs w5 hP hD hS => ?_)
  subst w5
  have hP : va_P K.1 classes [(a0, zO 10 83 (va_up g0 81 (.int 1)))] H := hP
  have hD : va_D A [(a0, zO 10 83 (va_up g0 81 (.int 1)))] := hD
  refine lv_if_ne (tgt := 36) hx hb dX12_size_31 (by decide) (fun c => absurd (by decide) c) (fun _ => ?_)
  refine lv_iconst (v := 0) hx hb dX12_size_34 (by decide) ?_
  have hP9 : va_P K.1 classes [(a0, zO 10 83 (va_up g0 81 (.int 1)))] H := hP.sub [0] rfl
  have hD9 : va_D A [(a0, zO 10 83 (va_up g0 81 (.int 1)))] := hD.sub [0] (by decide) rfl
  exact z_iret hx hb hr (fun _ => 0) rfl hP9 hD9 hS (Nat.le_of_ble_eq_true rfl) (Nat.le_of_ble_eq_true rfl) hlocks dX12_size_35
set_option maxHeartbeats 4000000 in
set_option maxRecDepth 100000 in
theorem cX11_size_2 (l : Launch) (K : zK) (sz : Nat) (a0 : Nat) (a1 : Nat) (a2 : Nat) (g0 : Nat → Value) (g1 : Nat → Value) (f2 : Nat → Int32) (j0 : Nat) (hj0 : j0 < 8) (e0 : g0 3 = (.ref a1)) (e1 : g1 1 = (.ref a2)) (e2 : ∀ j : Nat, f2 j = 0) : Met l yX11_size (Cond.code yX11_size cX11_size 3 (some .int) :: WG) { frames := 1, cells := 0, slots := 0, locals := 22 } (zPre K [(a0, zO 9 9 g0), (a1, zO 4 6 g1), (a2, zI K 8 f2)] sz [.ref a0, .int (nI j0), .int 0]) (va_Qi (fun (r : Int32) (_ : Nat → Nat) => r = 0) (zB K (va_A [(a0, zO 9 9 g0), (a1, zO 4 6 g1), (a2, zI K 8 f2)] sz) (fun u : Nat → Nat => [])) (va_A [(a0, zO 9 9 g0), (a1, zO 4 6 g1), (a2, zI K 8 f2)] sz)) 0 0 (va_A [(a0, zO 9 9 g0), (a1, zO 4 6 g1), (a2, zI K 8 f2)] sz) := by
  refine z_met (Qc := fun A => (va_Qi (fun (r : Int32) (_ : Nat → Nat) => r = 0) (zB K A (fun u : Nat → Nat => [])) A)) (by decide +kernel) (Nat.le_of_ble_eq_true rfl) ?_
  intro p e s m args below meth c A ls H hx hb hr hg hown hlocks hml hin hK hP hD hA hS hZ hl
  have hown : s.vm.findClass RX11 = some m.cls := hown
  have hl : lv_has ls 3 [(0, .ref a0), (1, .int (nI j0)), (2, .int 0)] := hl
  refine lv_aload_n hx hb dX11_size_0 rfl (lv_at hl 0 rfl) ?_
  refine lv_iload_n hx hb dX11_size_1 rfl (lv_at hl 1 rfl) ?_
  refine lv_bipush (v := 8) hx hb dX11_size_2 (by decide) ?_
  refine z_callv [(a0, zO 9 9 g0)] [(a1, zO 4 6 g1), (a2, zI K 8 f2)] [0] [1, 2] hP hD hS hA rfl rfl (by decide) (by decide) (by decide +kernel) 0 0 rfl rfl (fun hPc hDc hF => z_runV (As := [.int (nI j0), .int 8]) (rest := []) ⟨hx, hb, hml, hown, hg⟩ (cX11_checkRange_5 l K H.size a0 g0 j0 hj0) kV_RX11_72 hd_X11_checkRange rfl rfl ⟨(Nat.le_of_ble_eq_true rfl), (Nat.le_of_ble_eq_true rfl)⟩ hK hS hZ hPc hDc hF 0 rfl rfl rfl hl.1 rfl (Nat.le_of_ble_eq_true rfl) dX11_size_4 ⟨(Nat.le_of_ble_eq_true rfl), (Nat.le_of_ble_eq_true rfl)⟩) (fun u1 H locs w2 hP hD hS => ?_)
  have hP : va_P K.1 classes [(a1, zO 4 6 g1), (a2, zI K 8 f2), (a0, zO 9 9 g0)] H := hP
  have hD : va_D A [(a1, zO 4 6 g1), (a2, zI K 8 f2), (a0, zO 9 9 g0)] := hD
  refine lv_aload_n hx hb dX11_size_7 rfl (lv_at hl 0 rfl) ?_
  refine lv_iload_n hx hb dX11_size_8 rfl (lv_at hl 2 rfl) ?_
  refine z_callr [(a0, zO 9 9 g0)] [(a1, zO 4 6 g1), (a2, zI K 8 f2)] [2] [0, 1] hP hD hS hA rfl rfl (by decide) (by decide) (by decide +kernel) 0 0 rfl rfl (fun hPc hDc hF => z_runV (As := [.int 0]) (rest := []) ⟨hx, hb, hml, hown, hg⟩ (cX11_programOf_1 l K H.size a0 a1 g0 e0) kV_RX11_157 hd_X11_programOf rfl rfl ⟨(Nat.le_of_ble_eq_true rfl), (Nat.le_of_ble_eq_true rfl)⟩ hK hS hZ hPc hDc hF 0 rfl rfl rfl hl.1 rfl (Nat.le_of_ble_eq_true rfl) dX11_size_9 ⟨(Nat.le_of_ble_eq_true rfl), (Nat.le_of_ble_eq_true rfl)⟩) (fun u4 H locs w5 hP hD hS => ?_)
  have hP : va_P K.1 classes [(a1, zO 4 6 g1), (a2, zI K 8 f2), (a0, zO 9 9 g0)] H := hP
  have hD : va_D A [(a1, zO 4 6 g1), (a2, zI K 8 f2), (a0, zO 9 9 g0)] := hD
  refine W.eq (g2 := F0 m 12 ls [.ref a1]) rfl ?_
  refine lv_iload_n hx hb dX11_size_12 rfl (lv_at hl 1 rfl) ?_
  refine z_calli [(a1, zO 4 6 g1), (a2, zI K 8 f2)] [(a0, zO 9 9 g0)] [0, 1] [2] hP hD hS hA rfl rfl (by decide) (by decide) (by decide +kernel) 0 0 rfl rfl (fun hPc hDc hF => z_runV (As := [.int (nI j0)]) (rest := []) ⟨hx, hb, hml, hown, hg⟩ (cX5_sizeOf_1 l K H.size a1 a2 g1 f2 j0 hj0 e1 e2) kV_RX11_103 hd_X5_sizeOf rfl rfl ⟨(Nat.le_of_ble_eq_true rfl), (Nat.le_of_ble_eq_true rfl)⟩ hK hS hZ hPc hDc hF 0 rfl rfl rfl hl.1 rfl (Nat.le_of_ble_eq_true rfl) dX11_size_13 ⟨(Nat.le_of_ble_eq_true rfl), (Nat.le_of_ble_eq_true rfl)⟩) (fun r9 u7 H locs w8 hP hD hS => ?_)
  subst w8
  have hP : va_P K.1 classes [(a0, zO 9 9 g0), (a1, zO 4 6 g1), (a2, zI K 8 f2)] H := hP
  have hD : va_D A [(a0, zO 9 9 g0), (a1, zO 4 6 g1), (a2, zI K 8 f2)] := hD
  have hP9 : va_P K.1 classes [] H := hP.sub [] rfl
  have hD9 : va_D A [] := hD.sub [] (by decide) rfl
  exact z_iret hx hb hr (fun _ => 0) rfl hP9 hD9 hS (Nat.le_of_ble_eq_true rfl) (Nat.le_of_ble_eq_true rfl) hlocks dX11_size_16
set_option maxHeartbeats 4000000 in
set_option maxRecDepth 100000 in
theorem cL_size_2 (l : Launch) (hl9 : l.stackTraces = false) (K : zK) (sz : Nat) (a0 : Nat) (a1 : Nat) (a2 : Nat) (a3 : Nat) (g0 : Nat → Value) (g2 : Nat → Value) (f3 : Nat → Int32) (f1 : Nat → Int64) (j0 : Nat) (hj0 : j0 < 8) (e0 : g0 3 = (.ref a2)) (e1 : g2 1 = (.ref a3)) (e2 : ∀ j : Nat, f3 j = 0) : vx_Met l yL_size (Cond.codeWith yL_size cL_size 5 (some .int) [(0, 10, 13, 18), (0, 10, 17, 13)] :: WG) { frames := 2, cells := 0, slots := 0, locals := 44 } (zPre K [(a0, zO 9 9 g0), (a2, zO 4 6 g2), (a3, zI K 8 f3), (a1, zJ K 1 f1)] sz [.ref a0, .int (nI j0), .int 0, .ref a1]) (va_Qi (fun (r : Int32) (_ : Nat → Nat) => r = 0) (zB K (va_A [(a0, zO 9 9 g0), (a2, zO 4 6 g2), (a3, zI K 8 f3), (a1, zJ K 1 f1)] sz) (fun u : Nat → Nat => [(a1, zJ K 1 (va_up f1 0 0))])) (va_A [(a0, zO 9 9 g0), (a2, zO 4 6 g2), (a3, zI K 8 f3), (a1, zJ K 1 f1)] sz)) (vx_X (fun _ : Unit => False) (fun _ _ _ => True) (va_A [(a0, zO 9 9 g0), (a2, zO 4 6 g2), (a3, zI K 8 f3), (a1, zJ K 1 f1)] sz)) 0 0 (va_A [(a0, zO 9 9 g0), (a2, zO 4 6 g2), (a3, zI K 8 f3), (a1, zJ K 1 f1)] sz) := by
  refine z_hmet (Qc := fun A => (va_Qi (fun (r : Int32) (_ : Nat → Nat) => r = 0) (zB K A (fun u : Nat → Nat => [(a1, zJ K 1 (va_up f1 0 0))])) A)) (XC := fun A => vx_X (fun _ : Unit => False) (fun _ _ _ => True) A) (by decide +kernel) (Nat.le_of_ble_eq_true rfl) ?_
  intro p e s m args below meth c A ls H hx hb hr hg hown hlocks hml hTab hK hP hD hA hS hZ hl
  have hown : s.vm.findClass RL = some m.cls := hown
  have hl : lv_has ls 5 [(0, .ref a0), (1, .int (nI j0)), (2, .int 0), (3, .ref a1)] := hl
  refine lv_aload_n hx hb dL_size_0 rfl (lv_at hl 3 rfl) ?_
  refine lv_iconst (v := 0) hx hb dL_size_1 (by decide) ?_
  refine lv_aload_n hx hb dL_size_2 rfl (lv_at hl 0 rfl) ?_
  refine lv_iload_n hx hb dL_size_3 rfl (lv_at hl 1 rfl) ?_
  refine lv_iload_n hx hb dL_size_4 rfl (lv_at hl 2 rfl) ?_
  refine z_calli [(a0, zO 9 9 g0), (a2, zO 4 6 g2), (a3, zI K 8 f3)] [(a1, zJ K 1 f1)] [0, 1, 2] [3] hP hD hS hA rfl rfl (by decide) (by decide) (by decide +kernel) 0 0 rfl rfl (fun hPc hDc hF => z_runV (As := [.int (nI j0), .int 0]) (rest := [.int 0, .ref a1]) ⟨hx, hb, hml, hown, hg⟩ (cX11_size_2 l K H.size a0 a2 a3 g0 g2 f3 j0 hj0 e0 e1 e2) kV_RL_87 hd_X11_size rfl rfl ⟨(Nat.le_of_ble_eq_true rfl), (Nat.le_of_ble_eq_true rfl)⟩ hK hS hZ hPc hDc hF 0 rfl rfl rfl hl.1 rfl (Nat.le_of_ble_eq_true rfl) dL_size_5 ⟨(Nat.le_of_ble_eq_true rfl), (Nat.le_of_ble_eq_true rfl)⟩) (fun r3 u1 H locs w2 hP hD hS => ?_)
  subst w2
  have hP : va_P K.1 classes [(a1, zJ K 1 f1)] H := hP
  have hD : va_D A [(a1, zJ K 1 f1)] := hD
  refine lv_i2l hx hb dL_size_8 rfl ?_
  refine z_cstl (v := 0) (by decide +kernel) ?_
  refine z_last (j := 0) hx hb hK hP hD hS 0 rfl rfl (Nat.le_of_ble_eq_true rfl) (Nat.le_of_ble_eq_true rfl) dL_size_9 (fun ff4 H locs y5 hP hD hS => ?_)
  have hP : va_P K.1 classes [(a1, zJ K 1 ff4)] H := hP
  have hD : va_D A [(a1, zJ K 1 ff4)] := hD
  refine lv_goto (tgt := 21) hx hb dL_size_10 (by decide) ?_
  refine lv_iconst (v := 0) hx hb dL_size_21 (by decide) ?_
  subst y5
  have hP9 : va_P K.1 classes [(a1, zJ K 1 (va_up f1 0 0))] H := hP.sub [0] rfl
  have hD9 : va_D A [(a1, zJ K 1 (va_up f1 0 0))] := hD.sub [0] (by decide) rfl
  exact z_iret hx hb hr (fun _ => 0) rfl hP9 hD9 hS (Nat.le_of_ble_eq_true rfl) (Nat.le_of_ble_eq_true rfl) hlocks dL_size_22
set_option maxHeartbeats 4000000 in
set_option maxRecDepth 100000 in
theorem cX12_size_2 (l : Launch) (K : zK) (sz : Nat) (a0 : Nat) (a1 : Nat) (g0 : Nat → Value) (f1 : Nat → Int32) (j0 : Nat) (hj0 : j0 < 8) (e0 : g0 14 = (.ref a1)) (e1 : ∀ j : Nat, f1 j = 0) : Met l yX12_size (Cond.code yX12_size cX12_size 3 (some .int) :: WG) { frames := 2, cells := 0, slots := 0, locals := 42 } (zPre K [(a0, zO 10 83 g0), (a1, zI K 16 f1)] sz [.ref a0, .int (nI j0), .int 0]) (va_Qi (fun (r : Int32) (_ : Nat → Nat) => r = 0) (zB K (va_A [(a0, zO 10 83 g0), (a1, zI K 16 f1)] sz) (fun u : Nat → Nat => [(a0, zO 10 83 (va_up g0 81 (.int 0)))])) (va_A [(a0, zO 10 83 g0), (a1, zI K 16 f1)] sz)) 0 0 (va_A [(a0, zO 10 83 g0), (a1, zI K 16 f1)] sz) := by
  refine z_met (Qc := fun A => (va_Qi (fun (r : Int32) (_ : Nat → Nat) => r = 0) (zB K A (fun u : Nat → Nat => [(a0, zO 10 83 (va_up g0 81 (.int 0)))])) A)) (by decide +kernel) (Nat.le_of_ble_eq_true rfl) ?_
  intro p e s m args below meth c A ls H hx hb hr hg hown hlocks hml hin hK hP hD hA hS hZ hl
  have hown : s.vm.findClass RX12 = some m.cls := hown
  have hl : lv_has ls 3 [(0, .ref a0), (1, .int (nI j0)), (2, .int 0)] := hl
  refine lv_aload_n hx hb dX12_size_0 rfl (lv_at hl 0 rfl) ?_
  refine lv_iload_n hx hb dX12_size_1 rfl (lv_at hl 1 rfl) ?_
  refine z_calli [] [(a0, zO 10 83 g0), (a1, zI K 16 f1)] [] [0, 1] hP hD hS hA rfl rfl (by decide) (by decide) (by decide +kernel) 0 0 rfl rfl (fun hPc hDc hF => z_runS (As := [.int (nI j0)]) (rest := [.ref a0]) ⟨hx, hb, hml, hown, hg⟩ (cX12_isGlobal_2 l K H.size j0 hj0) kS_RX12_197 hd_X12_isGlobal rfl rfl ⟨(Nat.le_of_ble_eq_true rfl), (Nat.le_of_ble_eq_true rfl)⟩ hK hS hZ hPc hDc hF rfl hl.1 rfl (Nat.le_of_ble_eq_true rfl) dX12_size_2 ⟨(Nat.le_of_ble_eq_true rfl), (Nat.le_of_ble_eq_true rfl)⟩) (fun r3 u1 H locs w2 hP hD hS => ?_)
  subst w2
  have hP : va_P K.1 classes [(a0, zO 10 83 g0), (a1, zI K 16 f1)] H := hP
  have hD : va_D A [(a0, zO 10 83 g0), (a1, zI K 16 f1)] := hD
  refine lv_if_ne (tgt := 12) hx hb dX12_size_5 (by decide) (fun _ => ?_) (fun c => absurd c (by decide))
  refine lv_iload_n hx hb dX12_size_12 rfl (lv_at hl 2 rfl) ?_
  refine lv_if_eq (tgt := 27) hx hb dX12_size_13 (by decide) (fun _ => ?_) (fun c => absurd (by decide) c)
  refine lv_iconst (v := 0) hx hb dX12_size_27 (by decide) ?_
  refine z_calli [(a0, zO 10 83 g0)] [(a1, zI K 16 f1)] [0] [1] hP hD hS hA rfl rfl (by decide) (by decide) (by decide +kernel) 0 0 rfl rfl (fun hPc hDc hF => z_runV (As := [.int 0]) (rest := []) ⟨hx, hb, hml, hown, hg⟩ (cX12_can_1 l K H.size a0 g0) kV_RX12_182 hd_X12_can rfl rfl ⟨(Nat.le_of_ble_eq_true rfl), (Nat.le_of_ble_eq_true rfl)⟩ hK hS hZ hPc hDc hF 0 rfl rfl rfl hl.1 rfl (Nat.le_of_ble_eq_true rfl) dX12_size_28 ⟨(Nat.le_of_ble_eq_true rfl), (Nat.le_of_ble_eq_true rfl)⟩) (fun r6 u4 H locs w5 hP hD hS => ?_)
  subst w5
  have hP : va_P K.1 classes [(a1, zI K 16 f1), (a0, zO 10 83 (va_up g0 81 (.int 0)))] H := hP
  have hD : va_D A [(a1, zI K 16 f1), (a0, zO 10 83 (va_up g0 81 (.int 0)))] := hD
  refine lv_if_ne (tgt := 36) hx hb dX12_size_31 (by decide) (fun _ => ?_) (fun c => absurd c (by decide))
  refine lv_aload_n hx hb dX12_size_36 rfl (lv_at hl 0 rfl) ?_
  refine z_get (v := .ref a1) hx hb hg hown hK hP i_X12 rfl 1 rfl 14 (by decide) mt1294 (zu_ne (by decide) e0) dX12_size_37 ?_
  refine lv_iload_n hx hb dX12_size_40 rfl (lv_at hl 2 rfl) ?_
  refine lv_if_eq (tgt := 51) hx hb dX12_size_41 (by decide) (fun _ => ?_) (fun c => absurd (by decide) c)
  refine lv_iload_n hx hb dX12_size_51 rfl (lv_at hl 1 rfl) ?_
  refine z_iald (v := 0) (j := j0) hx hb hK hP 0 rfl rfl (Nat.lt_of_lt_of_le hj0 (Nat.le_of_ble_eq_true rfl)) (Nat.le_of_ble_eq_true rfl) (e1 j0) dX12_size_52 ?_
  have hP9 : va_P K.1 classes [(a0, zO 10 83 (va_up g0 81 (.int 0)))] H := hP.sub [1] rfl
  have hD9 : va_D A [(a0, zO 10 83 (va_up g0 81 (.int 0)))] := hD.sub [1] (by decide) rfl
  exact z_iret hx hb hr (fun _ => 0) rfl hP9 hD9 hS (Nat.le_of_ble_eq_true rfl) (Nat.le_of_ble_eq_true rfl) hlocks dX12_size_53
set_option maxHeartbeats 4000000 in
set_option maxRecDepth 100000 in
theorem cX11_size_3 (l : Launch) (hl9 : l.stackTraces = false) (K : zK) (sz : Nat) (a0 : Nat) (g0 : Nat → Value) (x0 : Int32) (e0 : ¬ x0 < (0 : Int32)) (e1 : ¬ x0 < (8 : Int32)) : vx_Met l yX11_size (Cond.code yX11_size cX11_size 3 (some .int) :: WG) { frames := 7, cells := 1, slots := 6, locals := 104 } (zPre K [(a0, zO 9 9 g0)] sz [.ref a0, .int x0, .int 0]) (va_Qv (fun _ : Unit => False) (fun _ _ => True) (va_A [(a0, zO 9 9 g0)] sz)) (zX (va_A [(a0, zO 9 9 g0)] sz) zIA) 1 6 (va_A [(a0, zO 9 9 g0)] sz) := by
  refine z_xmet (Qc := fun A => va_Qv (fun _ : Unit => False) (fun _ _ => True) A) (XC := fun A => zX A zIA) (by decide +kernel) (Nat.le_of_ble_eq_true rfl) ?_
  intro p e s m args below meth c A ls H hx hb hr hg hown hlocks hml hno hK hP hD hA hS hZ hl
  have hown : s.vm.findClass RX11 = some m.cls := hown
  have hl : lv_has ls 3 [(0, .ref a0), (1, .int x0), (2, .int 0)] := hl
  refine lv_aload_n hx hb dX11_size_0 rfl (lv_at hl 0 rfl) ?_
  refine lv_iload_n hx hb dX11_size_1 rfl (lv_at hl 1 rfl) ?_
  refine lv_bipush (v := 8) hx hb dX11_size_2 (by decide) ?_
  refine z_xcall (EX := zIA) [(a0, zO 9 9 g0)] [0] hP hD hS hA rfl (by decide) 1 6 rfl rfl (fun hPc hDc hF => z_xrunV (As := [.int x0, .int 8]) (rest := []) ⟨hx, hb, hml, hown, hg⟩ (cX11_checkRange_6 l hl9 K H.size a0 g0 x0 e0 e1) kV_RX11_72 hd_X11_checkRange rfl rfl ⟨(Nat.le_of_ble_eq_true rfl), (Nat.le_of_ble_eq_true rfl)⟩ hK hS hZ hPc hDc hF 0 rfl rfl rfl hl.1 rfl (Nat.le_of_ble_eq_true rfl) dX11_size_4 ⟨(Nat.le_of_ble_eq_true rfl), (Nat.le_of_ble_eq_true rfl)⟩) (fun ce q9 H locs hS hce hcv hcl => ?_)
  exact z_xout hno hlocks hS hce hcv hcl (Nat.le_of_ble_eq_true rfl) (Nat.le_of_ble_eq_true rfl)
set_option maxHeartbeats 4000000 in
set_option maxRecDepth 100000 in
theorem cL_size_3 (l : Launch) (hl9 : l.stackTraces = false) (K : zK) (sz : Nat) (a0 : Nat) (a1 : Nat) (g0 : Nat → Value) (x0 : Int32) (e0 : ¬ x0 < (0 : Int32)) (e1 : ¬ x0 < (8 : Int32)) : vx_Met l yL_size (Cond.codeWith yL_size cL_size 5 (some .int) [(0, 10, 13, 18), (0, 10, 17, 13)] :: WG) { frames := 8, cells := 1, slots := 6, locals := 126 } (zPre K [(a0, zO 9 9 g0)] sz [.ref a0, .int x0, .int 0, .ref a1]) (va_Qi (fun (r : Int32) (_ : Nat → Nat) => r = 1) (zB K (va_A [(a0, zO 9 9 g0)] sz) (fun u : Nat → Nat => [])) (va_A [(a0, zO 9 9 g0)] sz)) (vx_X (fun _ : Unit => False) (fun _ _ _ => True) (va_A [(a0, zO 9 9 g0)] sz)) 1 6 (va_A [(a0, zO 9 9 g0)] sz) := by
  refine z_hmet (Qc := fun A => (va_Qi (fun (r : Int32) (_ : Nat → Nat) => r = 1) (zB K A (fun u : Nat → Nat => [])) A)) (XC := fun A => vx_X (fun _ : Unit => False) (fun _ _ _ => True) A) (by decide +kernel) (Nat.le_of_ble_eq_true rfl) ?_
  intro p e s m args below meth c A ls H hx hb hr hg hown hlocks hml hTab hK hP hD hA hS hZ hl
  have hown : s.vm.findClass RL = some m.cls := hown
  have hl : lv_has ls 5 [(0, .ref a0), (1, .int x0), (2, .int 0), (3, .ref a1)] := hl
  refine lv_aload_n hx hb dL_size_0 rfl (lv_at hl 3 rfl) ?_
  refine lv_iconst (v := 0) hx hb dL_size_1 (by decide) ?_
  refine lv_aload_n hx hb dL_size_2 rfl (lv_at hl 0 rfl) ?_
  refine lv_iload_n hx hb dL_size_3 rfl (lv_at hl 1 rfl) ?_
  refine lv_iload_n hx hb dL_size_4 rfl (lv_at hl 2 rfl) ?_
  refine z_xcall (EX := zIA) [(a0, zO 9 9 g0)] [0] hP hD hS hA rfl (by decide) 1 6 rfl rfl (fun hPc hDc hF => z_xrunV (As := [.int x0, .int 0]) (rest := [.int 0, .ref a1]) ⟨hx, hb, hml, hown, hg⟩ (cX11_size_3 l hl9 K H.size a0 g0 x0 e0 e1) kV_RL_87 hd_X11_size rfl rfl ⟨(Nat.le_of_ble_eq_true rfl), (Nat.le_of_ble_eq_true rfl)⟩ hK hS hZ hPc hDc hF 0 rfl rfl rfl hl.1 rfl (Nat.le_of_ble_eq_true rfl) dL_size_5 ⟨(Nat.le_of_ble_eq_true rfl), (Nat.le_of_ble_eq_true rfl)⟩) (fun ce q9 H locs hS hce hcv hcl => ?_)
  refine vx_catch (own := RL) (name := zIA) (E := zIA) hown [] ⟨0, 10, 13, 18⟩ [⟨0, 10, 17, 13⟩] (by rw [hTab]; rfl) (fun z hz => nomatch hz) (by decide) (by decide) (hg _ mt491) (va_Nw.use rfl hZ.1.1.2.1) hce hcv hcl ?_
  have hP : va_P K.1 classes [] H := z_P0
  have hD : va_D A [] := z_D0
  refine lv_astore (lv' := [(4, .ref q9), (0, .ref a0), (1, .int x0), (2, .int 0), (3, .ref a1)]) hx hb dL_size_13 hl (by decide) rfl (fun ls hl => ?_)
  refine lv_iconst (v := 1) hx hb dL_size_15 (by decide) ?_
  have hP9 : va_P K.1 classes [] H := hP.sub [] rfl
  have hD9 : va_D A [] := hD.sub [] (by decide) rfl
  exact z_iret hx hb hr (fun _ => 0) rfl hP9 hD9 hS (Nat.le_of_ble_eq_true rfl) (Nat.le_of_ble_eq_true rfl) hlocks dL_size_16
set_option maxHeartbeats 4000000 in
set_option maxRecDepth 100000 in
theorem cX12_size_3 (l : Launch) (K : zK) (sz : Nat) (a0 : Nat) (g0 : Nat → Value) (x0 : Int32) (e0 : ¬ x0 < (0 : Int32)) (e1 : (7 : Int32) < x0) : Met l yX12_size (Cond.code yX12_size cX12_size 3 (some .int) :: WG) { frames := 2, cells := 0, slots := 0, locals := 42 } (zPre K [(a0, zO 10 83 g0)] sz [.ref a0, .int x0, .int 0]) (va_Qi (fun (r : Int32) (_ : Nat → Nat) => r = 0) (zB K (va_A [(a0, zO 10 83 g0)] sz) (fun u : Nat → Nat => [(a0, zO 10 83 (va_up g0 81 (.int 1)))])) (va_A [(a0, zO 10 83 g0)] sz)) 0 0 (va_A [(a0, zO 10 83 g0)] sz) := by
  refine z_met (Qc := fun A => (va_Qi (fun (r : Int32) (_ : Nat → Nat) => r = 0) (zB K A (fun u : Nat → Nat => [(a0, zO 10 83 (va_up g0 81 (.int 1)))])) A)) (by decide +kernel) (Nat.le_of_ble_eq_true rfl) ?_
  intro p e s m args below meth c A ls H hx hb hr hg hown hlocks hml hin hK hP hD hA hS hZ hl
  have hown : s.vm.findClass RX12 = some m.cls := hown
  have hl : lv_has ls 3 [(0, .ref a0), (1, .int x0), (2, .int 0)] := hl
  refine lv_aload_n hx hb dX12_size_0 rfl (lv_at hl 0 rfl) ?_
  refine lv_iload_n hx hb dX12_size_1 rfl (lv_at hl 1 rfl) ?_
  refine z_calli [] [(a0, zO 10 83 g0)] [] [0] hP hD hS hA rfl rfl (by decide) (by decide) (by decide +kernel) 0 0 rfl rfl (fun hPc hDc hF => z_runS (As := [.int x0]) (rest := [.ref a0]) ⟨hx, hb, hml, hown, hg⟩ (cX12_isGlobal_3 l K H.size x0 e0 e1) kS_RX12_197 hd_X12_isGlobal rfl rfl ⟨(Nat.le_of_ble_eq_true rfl), (Nat.le_of_ble_eq_true rfl)⟩ hK hS hZ hPc hDc hF rfl hl.1 rfl (Nat.le_of_ble_eq_true rfl) dX12_size_2 ⟨(Nat.le_of_ble_eq_true rfl), (Nat.le_of_ble_eq_true rfl)⟩) (fun r3 u1 H locs w2 hP hD hS => ?_)
  subst w2
  have hP : va_P K.1 classes [(a0, zO 10 83 g0)] H := hP
  have hD : va_D A [(a0, zO 10 83 g0)] := hD
  refine lv_if_ne (tgt := 12) hx hb dX12_size_5 (by decide) (fun c => absurd (by decide) c) (fun _ => ?_)
  refine lv_iconst (v := 1) hx hb dX12_size_8 (by decide) ?_
  refine lv_goto (tgt := 28) hx hb dX12_size_9 (by decide) ?_
  refine z_calli [(a0, zO 10 83 g0)] [] [0] [] hP hD hS hA rfl rfl (by decide) (by decide) (by decide +kernel) 0 0 rfl rfl (fun hPc hDc hF => z_runV (As := [.int 1]) (rest := []) ⟨hx, hb, hml, hown, hg⟩ (cX12_can_2 l K H.size a0 g0) kV_RX12_182 hd_X12_can rfl rfl ⟨(Nat.le_of_ble_eq_true rfl), (Nat.le_of_ble_eq_true rfl)⟩ hK hS hZ hPc hDc hF 0 rfl rfl rfl hl.1 rfl (Nat.le_of_ble_eq_true rfl) dX12_size_28 ⟨(Nat.le_of_ble_eq_true rfl), (Nat.le_of_ble_eq_true rfl)⟩) (fun r6 u4 H locs w5 hP hD hS => ?_)
  subst w5
  have hP : va_P K.1 classes [(a0, zO 10 83 (va_up g0 81 (.int 1)))] H := hP
  have hD : va_D A [(a0, zO 10 83 (va_up g0 81 (.int 1)))] := hD
  refine lv_if_ne (tgt := 36) hx hb dX12_size_31 (by decide) (fun c => absurd (by decide) c) (fun _ => ?_)
  refine lv_iconst (v := 0) hx hb dX12_size_34 (by decide) ?_
  have hP9 : va_P K.1 classes [(a0, zO 10 83 (va_up g0 81 (.int 1)))] H := hP.sub [0] rfl
  have hD9 : va_D A [(a0, zO 10 83 (va_up g0 81 (.int 1)))] := hD.sub [0] (by decide) rfl
  exact z_iret hx hb hr (fun _ => 0) rfl hP9 hD9 hS (Nat.le_of_ble_eq_true rfl) (Nat.le_of_ble_eq_true rfl) hlocks dX12_size_35
set_option maxHeartbeats 4000000 in
set_option maxRecDepth 100000 in
theorem cX11_size_4 (l : Launch) (hl9 : l.stackTraces = false) (K : zK) (sz : Nat) (a0 : Nat) (g0 : Nat → Value) (x0 : Int32) (e0 : x0 < (0 : Int32)) : vx_Met l yX11_size (Cond.code yX11_size cX11_size 3 (some .int) :: WG) { frames := 7, cells := 1, slots := 6, locals := 104 } (zPre K [(a0, zO 9 9 g0)] sz [.ref a0, .int x0, .int 1]) (va_Qv (fun _ : Unit => False) (fun _ _ => True) (va_A [(a0, zO 9 9 g0)] sz)) (zX (va_A [(a0, zO 9 9 g0)] sz) zIA) 1 6 (va_A [(a0, zO 9 9 g0)] sz) := by
  refine z_xmet (Qc := fun A => va_Qv (fun _ : Unit => False) (fun _ _ => True) A) (XC := fun A => zX A zIA) (by decide +kernel) (Nat.le_of_ble_eq_true rfl) ?_
  intro p e s m args below meth c A ls H hx hb hr hg hown hlocks hml hno hK hP hD hA hS hZ hl
  have hown : s.vm.findClass RX11 = some m.cls := hown
  have hl : lv_has ls 3 [(0, .ref a0), (1, .int x0), (2, .int 1)] := hl
  refine lv_aload_n hx hb dX11_size_0 rfl (lv_at hl 0 rfl) ?_
  refine lv_iload_n hx hb dX11_size_1 rfl (lv_at hl 1 rfl) ?_
  refine lv_bipush (v := 8) hx hb dX11_size_2 (by decide) ?_
  refine z_xcall (EX := zIA) [(a0, zO 9 9 g0)] [0] hP hD hS hA rfl (by decide) 1 6 rfl rfl (fun hPc hDc hF => z_xrunV (As := [.int x0, .int 8]) (rest := []) ⟨hx, hb, hml, hown, hg⟩ (cX11_checkRange_4 l hl9 K H.size a0 g0 x0 e0) kV_RX11_72 hd_X11_checkRange rfl rfl ⟨(Nat.le_of_ble_eq_true rfl), (Nat.le_of_ble_eq_true rfl)⟩ hK hS hZ hPc hDc hF 0 rfl rfl rfl hl.1 rfl (Nat.le_of_ble_eq_true rfl) dX11_size_4 ⟨(Nat.le_of_ble_eq_true rfl), (Nat.le_of_ble_eq_true rfl)⟩) (fun ce q9 H locs hS hce hcv hcl => ?_)
  exact z_xout hno hlocks hS hce hcv hcl (Nat.le_of_ble_eq_true rfl) (Nat.le_of_ble_eq_true rfl)
set_option maxHeartbeats 4000000 in
set_option maxRecDepth 100000 in
theorem cL_size_4 (l : Launch) (hl9 : l.stackTraces = false) (K : zK) (sz : Nat) (a0 : Nat) (a1 : Nat) (g0 : Nat → Value) (x0 : Int32) (e0 : x0 < (0 : Int32)) : vx_Met l yL_size (Cond.codeWith yL_size cL_size 5 (some .int) [(0, 10, 13, 18), (0, 10, 17, 13)] :: WG) { frames := 8, cells := 1, slots := 6, locals := 126 } (zPre K [(a0, zO 9 9 g0)] sz [.ref a0, .int x0, .int 1, .ref a1]) (va_Qi (fun (r : Int32) (_ : Nat → Nat) => r = 1) (zB K (va_A [(a0, zO 9 9 g0)] sz) (fun u : Nat → Nat => [])) (va_A [(a0, zO 9 9 g0)] sz)) (vx_X (fun _ : Unit => False) (fun _ _ _ => True) (va_A [(a0, zO 9 9 g0)] sz)) 1 6 (va_A [(a0, zO 9 9 g0)] sz) := by
  refine z_hmet (Qc := fun A => (va_Qi (fun (r : Int32) (_ : Nat → Nat) => r = 1) (zB K A (fun u : Nat → Nat => [])) A)) (XC := fun A => vx_X (fun _ : Unit => False) (fun _ _ _ => True) A) (by decide +kernel) (Nat.le_of_ble_eq_true rfl) ?_
  intro p e s m args below meth c A ls H hx hb hr hg hown hlocks hml hTab hK hP hD hA hS hZ hl
  have hown : s.vm.findClass RL = some m.cls := hown
  have hl : lv_has ls 5 [(0, .ref a0), (1, .int x0), (2, .int 1), (3, .ref a1)] := hl
  refine lv_aload_n hx hb dL_size_0 rfl (lv_at hl 3 rfl) ?_
  refine lv_iconst (v := 0) hx hb dL_size_1 (by decide) ?_
  refine lv_aload_n hx hb dL_size_2 rfl (lv_at hl 0 rfl) ?_
  refine lv_iload_n hx hb dL_size_3 rfl (lv_at hl 1 rfl) ?_
  refine lv_iload_n hx hb dL_size_4 rfl (lv_at hl 2 rfl) ?_
  refine z_xcall (EX := zIA) [(a0, zO 9 9 g0)] [0] hP hD hS hA rfl (by decide) 1 6 rfl rfl (fun hPc hDc hF => z_xrunV (As := [.int x0, .int 1]) (rest := [.int 0, .ref a1]) ⟨hx, hb, hml, hown, hg⟩ (cX11_size_4 l hl9 K H.size a0 g0 x0 e0) kV_RL_87 hd_X11_size rfl rfl ⟨(Nat.le_of_ble_eq_true rfl), (Nat.le_of_ble_eq_true rfl)⟩ hK hS hZ hPc hDc hF 0 rfl rfl rfl hl.1 rfl (Nat.le_of_ble_eq_true rfl) dL_size_5 ⟨(Nat.le_of_ble_eq_true rfl), (Nat.le_of_ble_eq_true rfl)⟩) (fun ce q9 H locs hS hce hcv hcl => ?_)
  refine vx_catch (own := RL) (name := zIA) (E := zIA) hown [] ⟨0, 10, 13, 18⟩ [⟨0, 10, 17, 13⟩] (by rw [hTab]; rfl) (fun z hz => nomatch hz) (by decide) (by decide) (hg _ mt491) (va_Nw.use rfl hZ.1.1.2.1) hce hcv hcl ?_
  have hP : va_P K.1 classes [] H := z_P0
  have hD : va_D A [] := z_D0
  refine lv_astore (lv' := [(4, .ref q9), (0, .ref a0), (1, .int x0), (2, .int 1), (3, .ref a1)]) hx hb dL_size_13 hl (by decide) rfl (fun ls hl => ?_)
  refine lv_iconst (v := 1) hx hb dL_size_15 (by decide) ?_
  have hP9 : va_P K.1 classes [] H := hP.sub [] rfl
  have hD9 : va_D A [] := hD.sub [] (by decide) rfl
  exact z_iret hx hb hr (fun _ => 0) rfl hP9 hD9 hS (Nat.le_of_ble_eq_true rfl) (Nat.le_of_ble_eq_true rfl) hlocks dL_size_16
set_option maxHeartbeats 4000000 in
set_option maxRecDepth 100000 in
theorem cX12_size_4 (l : Launch) (K : zK) (sz : Nat) (a0 : Nat) (g0 : Nat → Value) (x0 : Int32) (e0 : x0 < (0 : Int32)) : Met l yX12_size (Cond.code yX12_size cX12_size 3 (some .int) :: WG) { frames := 2, cells := 0, slots := 0, locals := 42 } (zPre K [(a0, zO 10 83 g0)] sz [.ref a0, .int x0, .int 1]) (va_Qi (fun (r : Int32) (_ : Nat → Nat) => r = 0) (zB K (va_A [(a0, zO 10 83 g0)] sz) (fun u : Nat → Nat => [(a0, zO 10 83 (va_up g0 81 (.int 1)))])) (va_A [(a0, zO 10 83 g0)] sz)) 0 0 (va_A [(a0, zO 10 83 g0)] sz) := by
  refine z_met (Qc := fun A => (va_Qi (fun (r : Int32) (_ : Nat → Nat) => r = 0) (zB K A (fun u : Nat → Nat => [(a0, zO 10 83 (va_up g0 81 (.int 1)))])) A)) (by decide +kernel) (Nat.le_of_ble_eq_true rfl) ?_
  intro p e s m args below meth c A ls H hx hb hr hg hown hlocks hml hin hK hP hD hA hS hZ hl
  have hown : s.vm.findClass RX12 = some m.cls := hown
  have hl : lv_has ls 3 [(0, .ref a0), (1, .int x0), (2, .int 1)] := hl
  refine lv_aload_n hx hb dX12_size_0 rfl (lv_at hl 0 rfl) ?_
  refine lv_iload_n hx hb dX12_size_1 rfl (lv_at hl 1 rfl) ?_
  refine z_calli [] [(a0, zO 10 83 g0)] [] [0] hP hD hS hA rfl rfl (by decide) (by decide) (by decide +kernel) 0 0 rfl rfl (fun hPc hDc hF => z_runS (As := [.int x0]) (rest := [.ref a0]) ⟨hx, hb, hml, hown, hg⟩ (cX12_isGlobal_1 l K H.size x0 e0) kS_RX12_197 hd_X12_isGlobal rfl rfl ⟨(Nat.le_of_ble_eq_true rfl), (Nat.le_of_ble_eq_true rfl)⟩ hK hS hZ hPc hDc hF rfl hl.1 rfl (Nat.le_of_ble_eq_true rfl) dX12_size_2 ⟨(Nat.le_of_ble_eq_true rfl), (Nat.le_of_ble_eq_true rfl)⟩) (fun r3 u1 H locs w2 hP hD hS => ?_)
  subst w2
  have hP : va_P K.1 classes [(a0, zO 10 83 g0)] H := hP
  have hD : va_D A [(a0, zO 10 83 g0)] := hD
  refine lv_if_ne (tgt := 12) hx hb dX12_size_5 (by decide) (fun c => absurd (by decide) c) (fun _ => ?_)
  refine lv_iconst (v := 1) hx hb dX12_size_8 (by decide) ?_
  refine lv_goto (tgt := 28) hx hb dX12_size_9 (by decide) ?_
  refine z_calli [(a0, zO 10 83 g0)] [] [0] [] hP hD hS hA rfl rfl (by decide) (by decide) (by decide +kernel) 0 0 rfl rfl (fun hPc hDc hF => z_runV (As := [.int 1]) (rest := []) ⟨hx, hb, hml, hown, hg⟩ (cX12_can_2 l K H.size a0 g0) kV_RX12_182 hd_X12_can rfl rfl ⟨(Nat.le_of_ble_eq_true rfl), (Nat.le_of_ble_eq_true rfl)⟩ hK hS hZ hPc hDc hF 0 rfl rfl rfl hl.1 rfl (Nat.le_of_ble_eq_true rfl) dX12_size_28 ⟨(Nat.le_of_ble_eq_true rfl), (Nat.le_of_ble_eq_true rfl)⟩) (fun r6 u4 H locs w5 hP hD hS => ?_)
  subst w5
  have hP : va_P K.1 classes [(a0, zO 10 83 (va_up g0 81 (.int 1)))] H := hP
  have hD : va_D A [(a0, zO 10 83 (va_up g0 81 (.int 1)))] := hD
  refine lv_if_ne (tgt := 36) hx hb dX12_size_31 (by decide) (fun c => absurd (by decide) c) (fun _ => ?_)
  refine lv_iconst (v := 0) hx hb dX12_size_34 (by decide) ?_
  have hP9 : va_P K.1 classes [(a0, zO 10 83 (va_up g0 81 (.int 1)))] H := hP.sub [0] rfl
  have hD9 : va_D A [(a0, zO 10 83 (va_up g0 81 (.int 1)))] := hD.sub [0] (by decide) rfl
  exact z_iret hx hb hr (fun _ => 0) rfl hP9 hD9 hS (Nat.le_of_ble_eq_true rfl) (Nat.le_of_ble_eq_true rfl) hlocks dX12_size_35
set_option maxHeartbeats 4000000 in
set_option maxRecDepth 100000 in
theorem cX11_size_5 (l : Launch) (hl9 : l.stackTraces = false) (K : zK) (sz : Nat) (a0 : Nat) (g0 : Nat → Value) (j0 : Nat) (hj0 : j0 < 8) (e0 : g0 8 = (.int 0)) : vx_Met l yX11_size (Cond.code yX11_size cX11_size 3 (some .int) :: WG) { frames := 7, cells := 1, slots := 6, locals := 103 } (zPre K [(a0, zO 9 9 g0)] sz [.ref a0, .int (nI j0), .int 1]) (va_Qv (fun _ : Unit => False) (fun _ _ => True) (va_A [(a0, zO 9 9 g0)] sz)) (zX (va_A [(a0, zO 9 9 g0)] sz) zIS) 1 6 (va_A [(a0, zO 9 9 g0)] sz) := by
  refine z_xmet (Qc := fun A => va_Qv (fun _ : Unit => False) (fun _ _ => True) A) (XC := fun A => zX A zIS) (by decide +kernel) (Nat.le_of_ble_eq_true rfl) ?_
  intro p e s m args below meth c A ls H hx hb hr hg hown hlocks hml hno hK hP hD hA hS hZ hl
  have hown : s.vm.findClass RX11 = some m.cls := hown
  have hl : lv_has ls 3 [(0, .ref a0), (1, .int (nI j0)), (2, .int 1)] := hl
  refine lv_aload_n hx hb dX11_size_0 rfl (lv_at hl 0 rfl) ?_
  refine lv_iload_n hx hb dX11_size_1 rfl (lv_at hl 1 rfl) ?_
  refine lv_bipush (v := 8) hx hb dX11_size_2 (by decide) ?_
  refine z_callv [(a0, zO 9 9 g0)] [] [0] [] hP hD hS hA rfl rfl (by decide) (by decide) (by decide +kernel) 0 0 rfl rfl (fun hPc hDc hF => z_runV (As := [.int (nI j0), .int 8]) (rest := []) ⟨hx, hb, hml, hown, hg⟩ (cX11_checkRange_5 l K H.size a0 g0 j0 hj0) kV_RX11_72 hd_X11_checkRange rfl rfl ⟨(Nat.le_of_ble_eq_true rfl), (Nat.le_of_ble_eq_true rfl)⟩ hK hS hZ hPc hDc hF 0 rfl rfl rfl hl.1 rfl (Nat.le_of_ble_eq_true rfl) dX11_size_4 ⟨(Nat.le_of_ble_eq_true rfl), (Nat.le_of_ble_eq_true rfl)⟩) (fun u1 H locs w2 hP hD hS => ?_)
  have hP : va_P K.1 classes [(a0, zO 9 9 g0)] H := hP
  have hD : va_D A [(a0, zO 9 9 g0)] := hD
  refine lv_aload_n hx hb dX11_size_7 rfl (lv_at hl 0 rfl) ?_
  refine lv_iload_n hx hb dX11_size_8 rfl (lv_at hl 2 rfl) ?_
  refine z_xcall (EX := zIS) [(a0, zO 9 9 g0)] [0] hP hD hS hA rfl (by decide) 1 6 rfl rfl (fun hPc hDc hF => z_xrunV (As := [.int 1]) (rest := []) ⟨hx, hb, hml, hown, hg⟩ (cX11_programOf_2 l hl9 K H.size a0 g0 e0) kV_RX11_157 hd_X11_programOf rfl rfl ⟨(Nat.le_of_ble_eq_true rfl), (Nat.le_of_ble_eq_true rfl)⟩ hK hS hZ hPc hDc hF 0 rfl rfl rfl hl.1 rfl (Nat.le_of_ble_eq_true rfl) dX11_size_9 ⟨(Nat.le_of_ble_eq_true rfl), (Nat.le_of_ble_eq_true rfl)⟩) (fun ce q9 H locs hS hce hcv hcl => ?_)
  exact z_xout hno hlocks hS hce hcv hcl (Nat.le_of_ble_eq_true rfl) (Nat.le_of_ble_eq_true rfl)
set_option maxHeartbeats 4000000 in
set_option maxRecDepth 100000 in
theorem cL_size_5 (l : Launch) (hl9 : l.stackTraces = false) (K : zK) (sz : Nat) (a0 : Nat) (a1 : Nat) (g0 : Nat → Value) (j0 : Nat) (hj0 : j0 < 8) (e0 : g0 8 = (.int 0)) : vx_Met l yL_size (Cond.codeWith yL_size cL_size 5 (some .int) [(0, 10, 13, 18), (0, 10, 17, 13)] :: WG) { frames := 8, cells := 1, slots := 6, locals := 125 } (zPre K [(a0, zO 9 9 g0)] sz [.ref a0, .int (nI j0), .int 1, .ref a1]) (va_Qi (fun (r : Int32) (_ : Nat → Nat) => r = 2) (zB K (va_A [(a0, zO 9 9 g0)] sz) (fun u : Nat → Nat => [])) (va_A [(a0, zO 9 9 g0)] sz)) (vx_X (fun _ : Unit => False) (fun _ _ _ => True) (va_A [(a0, zO 9 9 g0)] sz)) 1 6 (va_A [(a0, zO 9 9 g0)] sz) := by
  refine z_hmet (Qc := fun A => (va_Qi (fun (r : Int32) (_ : Nat → Nat) => r = 2) (zB K A (fun u : Nat → Nat => [])) A)) (XC := fun A => vx_X (fun _ : Unit => False) (fun _ _ _ => True) A) (by decide +kernel) (Nat.le_of_ble_eq_true rfl) ?_
  intro p e s m args below meth c A ls H hx hb hr hg hown hlocks hml hTab hK hP hD hA hS hZ hl
  have hown : s.vm.findClass RL = some m.cls := hown
  have hl : lv_has ls 5 [(0, .ref a0), (1, .int (nI j0)), (2, .int 1), (3, .ref a1)] := hl
  refine lv_aload_n hx hb dL_size_0 rfl (lv_at hl 3 rfl) ?_
  refine lv_iconst (v := 0) hx hb dL_size_1 (by decide) ?_
  refine lv_aload_n hx hb dL_size_2 rfl (lv_at hl 0 rfl) ?_
  refine lv_iload_n hx hb dL_size_3 rfl (lv_at hl 1 rfl) ?_
  refine lv_iload_n hx hb dL_size_4 rfl (lv_at hl 2 rfl) ?_
  refine z_xcall (EX := zIS) [(a0, zO 9 9 g0)] [0] hP hD hS hA rfl (by decide) 1 6 rfl rfl (fun hPc hDc hF => z_xrunV (As := [.int (nI j0), .int 1]) (rest := [.int 0, .ref a1]) ⟨hx, hb, hml, hown, hg⟩ (cX11_size_5 l hl9 K H.size a0 g0 j0 hj0 e0) kV_RL_87 hd_X11_size rfl rfl ⟨(Nat.le_of_ble_eq_true rfl), (Nat.le_of_ble_eq_true rfl)⟩ hK hS hZ hPc hDc hF 0 rfl rfl rfl hl.1 rfl (Nat.le_of_ble_eq_true rfl) dL_size_5 ⟨(Nat.le_of_ble_eq_true rfl), (Nat.le_of_ble_eq_true rfl)⟩) (fun ce q9 H locs hS hce hcv hcl => ?_)
  refine vx_catch (own := RL) (name := zIS) (E := zIS) hown [⟨0, 10, 13, 18⟩] ⟨0, 10, 17, 13⟩ [] (by rw [hTab]; rfl) (zP1 (Or.inr ⟨by decide, zIA, hg _ mt491, hZ.1.2.1.2.2.1⟩) zP0) (by decide) (by decide) (hg _ mt393) (va_Nw.use rfl hZ.1.1.2.2.1) hce hcv hcl ?_
  have hP : va_P K.1 classes [] H := z_P0
  have hD : va_D A [] := z_D0
  refine lv_astore (lv' := [(4, .ref q9), (0, .ref a0), (1, .int (nI j0)), (2, .int 1), (3, .ref a1)]) hx hb dL_size_17 hl (by decide) rfl (fun ls hl => ?_)
  refine lv_iconst (v := 2) hx hb dL_size_19 (by decide) ?_
  have hP9 : va_P K.1 classes [] H := hP.sub [] rfl
  have hD9 : va_D A [] := hD.sub [] (by decide) rfl
  exact z_iret hx hb hr (fun _ => 0) rfl hP9 hD9 hS (Nat.le_of_ble_eq_true rfl) (Nat.le_of_ble_eq_true rfl) hlocks dL_size_20
set_option maxHeartbeats 4000000 in
set_option maxRecDepth 100000 in
theorem cX12_size_5 (l : Launch) (K : zK) (sz : Nat) (a0 : Nat) (g0 : Nat → Value) (j0 : Nat) (hj0 : j0 < 8) (e0 : g0 15 = (.int 0)) : Met l yX12_size (Cond.code yX12_size cX12_size 3 (some .int) :: WG) { frames := 2, cells := 0, slots := 0, locals := 42 } (zPre K [(a0, zO 10 83 g0)] sz [.ref a0, .int (nI j0), .int 1]) (va_Qi (fun (r : Int32) (_ : Nat → Nat) => r = 0) (zB K (va_A [(a0, zO 10 83 g0)] sz) (fun u : Nat → Nat => [(a0, zO 10 83 (va_up g0 81 (.int 2)))])) (va_A [(a0, zO 10 83 g0)] sz)) 0 0 (va_A [(a0, zO 10 83 g0)] sz) := by
  refine z_met (Qc := fun A => (va_Qi (fun (r : Int32) (_ : Nat → Nat) => r = 0) (zB K A (fun u : Nat → Nat => [(a0, zO 10 83 (va_up g0 81 (.int 2)))])) A)) (by decide +kernel) (Nat.le_of_ble_eq_true rfl) ?_
  intro p e s m args below meth c A ls H hx hb hr hg hown hlocks hml hin hK hP hD hA hS hZ hl
  have hown : s.vm.findClass RX12 = some m.cls := hown
  have hl : lv_has ls 3 [(0, .ref a0), (1, .int (nI j0)), (2, .int 1)] := hl
  refine lv_aload_n hx hb dX12_size_0 rfl (lv_at hl 0 rfl) ?_
  refine lv_iload_n hx hb dX12_size_1 rfl (lv_at hl 1 rfl) ?_
  refine z_calli [] [(a0, zO 10 83 g0)] [] [0] hP hD hS hA rfl rfl (by decide) (by decide) (by decide +kernel) 0 0 rfl rfl (fun hPc hDc hF => z_runS (As := [.int (nI j0)]) (rest := [.ref a0]) ⟨hx, hb, hml, hown, hg⟩ (cX12_isGlobal_2 l K H.size j0 hj0) kS_RX12_197 hd_X12_isGlobal rfl rfl ⟨(Nat.le_of_ble_eq_true rfl), (Nat.le_of_ble_eq_true rfl)⟩ hK hS hZ hPc hDc hF rfl hl.1 rfl (Nat.le_of_ble_eq_true rfl) dX12_size_2 ⟨(Nat.le_of_ble_eq_true rfl), (Nat.le_of_ble_eq_true rfl)⟩) (fun r3 u1 H locs w2 hP hD hS => ?_)
  subst w2
  have hP : va_P K.1 classes [(a0, zO 10 83 g0)] H := hP
  have hD : va_D A [(a0, zO 10 83 g0)] := hD
  refine lv_if_ne (tgt := 12) hx hb dX12_size_5 (by decide) (fun _ => ?_) (fun c => absurd c (by decide))
  refine lv_iload_n hx hb dX12_size_12 rfl (lv_at hl 2 rfl) ?_
  refine lv_if_eq (tgt := 27) hx hb dX12_size_13 (by decide) (fun c => absurd c (by decide)) (fun _ => ?_)
  refine lv_aload_n hx hb dX12_size_16 rfl (lv_at hl 0 rfl) ?_
  refine z_get (v := .int 0) hx hb hg hown hK hP i_X12 rfl 0 rfl 15 (by decide) mt1295 e0 dX12_size_17 ?_
  refine lv_if_ne (tgt := 27) hx hb dX12_size_20 (by decide) (fun c => absurd (by decide) c) (fun _ => ?_)
  refine lv_iconst (v := 2) hx hb dX12_size_23 (by decide) ?_
  refine lv_goto (tgt := 28) hx hb dX12_size_24 (by decide) ?_
  refine z_calli [(a0, zO 10 83 g0)] [] [0] [] hP hD hS hA rfl rfl (by decide) (by decide) (by decide +kernel) 0 0 rfl rfl (fun hPc hDc hF => z_runV (As := [.int 2]) (rest := []) ⟨hx, hb, hml, hown, hg⟩ (cX12_can_3 l K H.size a0 g0) kV_RX12_182 hd_X12_can rfl rfl ⟨(Nat.le_of_ble_eq_true rfl), (Nat.le_of_ble_eq_true rfl)⟩ hK hS hZ hPc hDc hF 0 rfl rfl rfl hl.1 rfl (Nat.le_of_ble_eq_true rfl) dX12_size_28 ⟨(Nat.le_of_ble_eq_true rfl), (Nat.le_of_ble_eq_true rfl)⟩) (fun r6 u4 H locs w5 hP hD hS => ?_)
  subst w5
  have hP : va_P K.1 classes [(a0, zO 10 83 (va_up g0 81 (.int 2)))] H := hP
  have hD : va_D A [(a0, zO 10 83 (va_up g0 81 (.int 2)))] := hD
  refine lv_if_ne (tgt := 36) hx hb dX12_size_31 (by decide) (fun c => absurd (by decide) c) (fun _ => ?_)
  refine lv_iconst (v := 0) hx hb dX12_size_34 (by decide) ?_
  have hP9 : va_P K.1 classes [(a0, zO 10 83 (va_up g0 81 (.int 2)))] H := hP.sub [0] rfl
  have hD9 : va_D A [(a0, zO 10 83 (va_up g0 81 (.int 2)))] := hD.sub [0] (by decide) rfl
  exact z_iret hx hb hr (fun _ => 0) rfl hP9 hD9 hS (Nat.le_of_ble_eq_true rfl) (Nat.le_of_ble_eq_true rfl) hlocks dX12_size_35
set_option maxHeartbeats 4000000 in
set_option maxRecDepth 100000 in
theorem cX11_size_6 (l : Launch) (hl9 : l.stackTraces = false) (K : zK) (sz : Nat) (a0 : Nat) (g0 : Nat → Value) (x0 : Int32) (e0 : ¬ x0 < (0 : Int32)) (e1 : ¬ x0 < (8 : Int32)) : vx_Met l yX11_size (Cond.code yX11_size cX11_size 3 (some .int) :: WG) { frames := 7, cells := 1, slots := 6, locals := 104 } (zPre K [(a0, zO 9 9 g0)] sz [.ref a0, .int x0, .int 1]) (va_Qv (fun _ : Unit => False) (fun _ _ => True) (va_A [(a0, zO 9 9 g0)] sz)) (zX (va_A [(a0, zO 9 9 g0)] sz) zIA) 1 6 (va_A [(a0, zO 9 9 g0)] sz) := by
  refine z_xmet (Qc := fun A => va_Qv (fun _ : Unit => False) (fun _ _ => True) A) (XC := fun A => zX A zIA) (by decide +kernel) (Nat.le_of_ble_eq_true rfl) ?_
  intro p e s m args below meth c A ls H hx hb hr hg hown hlocks hml hno hK hP hD hA hS hZ hl
  have hown : s.vm.findClass RX11 = some m.cls := hown
  have hl : lv_has ls 3 [(0, .ref a0), (1, .int x0), (2, .int 1)] := hl
  refine lv_aload_n hx hb dX11_size_0 rfl (lv_at hl 0 rfl) ?_
  refine lv_iload_n hx hb dX11_size_1 rfl (lv_at hl 1 rfl) ?_
  refine lv_bipush (v := 8) hx hb dX11_size_2 (by decide) ?_
  refine z_xcall (EX := zIA) [(a0, zO 9 9 g0)] [0] hP hD hS hA rfl (by decide) 1 6 rfl rfl (fun hPc hDc hF => z_xrunV (As := [.int x0, .int 8]) (rest := []) ⟨hx, hb, hml, hown, hg⟩ (cX11_checkRange_6 l hl9 K H.size a0 g0 x0 e0 e1) kV_RX11_72 hd_X11_checkRange rfl rfl ⟨(Nat.le_of_ble_eq_true rfl), (Nat.le_of_ble_eq_true rfl)⟩ hK hS hZ hPc hDc hF 0 rfl rfl rfl hl.1 rfl (Nat.le_of_ble_eq_true rfl) dX11_size_4 ⟨(Nat.le_of_ble_eq_true rfl), (Nat.le_of_ble_eq_true rfl)⟩) (fun ce q9 H locs hS hce hcv hcl => ?_)
  exact z_xout hno hlocks hS hce hcv hcl (Nat.le_of_ble_eq_true rfl) (Nat.le_of_ble_eq_true rfl)
set_option maxHeartbeats 4000000 in
set_option maxRecDepth 100000 in
theorem cL_size_6 (l : Launch) (hl9 : l.stackTraces = false) (K : zK) (sz : Nat) (a0 : Nat) (a1 : Nat) (g0 : Nat → Value) (x0 : Int32) (e0 : ¬ x0 < (0 : Int32)) (e1 : ¬ x0 < (8 : Int32)) : vx_Met l yL_size (Cond.codeWith yL_size cL_size 5 (some .int) [(0, 10, 13, 18), (0, 10, 17, 13)] :: WG) { frames := 8, cells := 1, slots := 6, locals := 126 } (zPre K [(a0, zO 9 9 g0)] sz [.ref a0, .int x0, .int 1, .ref a1]) (va_Qi (fun (r : Int32) (_ : Nat → Nat) => r = 1) (zB K (va_A [(a0, zO 9 9 g0)] sz) (fun u : Nat → Nat => [])) (va_A [(a0, zO 9 9 g0)] sz)) (vx_X (fun _ : Unit => False) (fun _ _ _ => True) (va_A [(a0, zO 9 9 g0)] sz)) 1 6 (va_A [(a0, zO 9 9 g0)] sz) := by
  refine z_hmet (Qc := fun A => (va_Qi (fun (r : Int32) (_ : Nat → Nat) => r = 1) (zB K A (fun u : Nat → Nat => [])) A)) (XC := fun A => vx_X (fun _ : Unit => False) (fun _ _ _ => True) A) (by decide +kernel) (Nat.le_of_ble_eq_true rfl) ?_
  intro p e s m args below meth c A ls H hx hb hr hg hown hlocks hml hTab hK hP hD hA hS hZ hl
  have hown : s.vm.findClass RL = some m.cls := hown
  have hl : lv_has ls 5 [(0, .ref a0), (1, .int x0), (2, .int 1), (3, .ref a1)] := hl
  refine lv_aload_n hx hb dL_size_0 rfl (lv_at hl 3 rfl) ?_
  refine lv_iconst (v := 0) hx hb dL_size_1 (by decide) ?_
  refine lv_aload_n hx hb dL_size_2 rfl (lv_at hl 0 rfl) ?_
  refine lv_iload_n hx hb dL_size_3 rfl (lv_at hl 1 rfl) ?_
  refine lv_iload_n hx hb dL_size_4 rfl (lv_at hl 2 rfl) ?_
  refine z_xcall (EX := zIA) [(a0, zO 9 9 g0)] [0] hP hD hS hA rfl (by decide) 1 6 rfl rfl (fun hPc hDc hF => z_xrunV (As := [.int x0, .int 1]) (rest := [.int 0, .ref a1]) ⟨hx, hb, hml, hown, hg⟩ (cX11_size_6 l hl9 K H.size a0 g0 x0 e0 e1) kV_RL_87 hd_X11_size rfl rfl ⟨(Nat.le_of_ble_eq_true rfl), (Nat.le_of_ble_eq_true rfl)⟩ hK hS hZ hPc hDc hF 0 rfl rfl rfl hl.1 rfl (Nat.le_of_ble_eq_true rfl) dL_size_5 ⟨(Nat.le_of_ble_eq_true rfl), (Nat.le_of_ble_eq_true rfl)⟩) (fun ce q9 H locs hS hce hcv hcl => ?_)
  refine vx_catch (own := RL) (name := zIA) (E := zIA) hown [] ⟨0, 10, 13, 18⟩ [⟨0, 10, 17, 13⟩] (by rw [hTab]; rfl) (fun z hz => nomatch hz) (by decide) (by decide) (hg _ mt491) (va_Nw.use rfl hZ.1.1.2.1) hce hcv hcl ?_
  have hP : va_P K.1 classes [] H := z_P0
  have hD : va_D A [] := z_D0
  refine lv_astore (lv' := [(4, .ref q9), (0, .ref a0), (1, .int x0), (2, .int 1), (3, .ref a1)]) hx hb dL_size_13 hl (by decide) rfl (fun ls hl => ?_)
  refine lv_iconst (v := 1) hx hb dL_size_15 (by decide) ?_
  have hP9 : va_P K.1 classes [] H := hP.sub [] rfl
  have hD9 : va_D A [] := hD.sub [] (by decide) rfl
  exact z_iret hx hb hr (fun _ => 0) rfl hP9 hD9 hS (Nat.le_of_ble_eq_true rfl) (Nat.le_of_ble_eq_true rfl) hlocks dL_size_16
set_option maxHeartbeats 4000000 in
set_option maxRecDepth 100000 in
theorem cX12_size_6 (l : Launch) (K : zK) (sz : Nat) (a0 : Nat) (g0 : Nat → Value) (x0 : Int32) (e0 : ¬ x0 < (0 : Int32)) (e1 : (7 : Int32) < x0) : Met l yX12_size (Cond.code yX12_size cX12_size 3 (some .int) :: WG) { frames := 2, cells := 0, slots := 0, locals := 42 } (zPre K [(a0, zO 10 83 g0)] sz [.ref a0, .int x0, .int 1]) (va_Qi (fun (r : Int32) (_ : Nat → Nat) => r = 0) (zB K (va_A [(a0, zO 10 83 g0)] sz) (fun u : Nat → Nat => [(a0, zO 10 83 (va_up g0 81 (.int 1)))])) (va_A [(a0, zO 10 83 g0)] sz)) 0 0 (va_A [(a0, zO 10 83 g0)] sz) := by
  refine z_met (Qc := fun A => (va_Qi (fun (r : Int32) (_ : Nat → Nat) => r = 0) (zB K A (fun u : Nat → Nat => [(a0, zO 10 83 (va_up g0 81 (.int 1)))])) A)) (by decide +kernel) (Nat.le_of_ble_eq_true rfl) ?_
  intro p e s m args below meth c A ls H hx hb hr hg hown hlocks hml hin hK hP hD hA hS hZ hl
  have hown : s.vm.findClass RX12 = some m.cls := hown
  have hl : lv_has ls 3 [(0, .ref a0), (1, .int x0), (2, .int 1)] := hl
  refine lv_aload_n hx hb dX12_size_0 rfl (lv_at hl 0 rfl) ?_
  refine lv_iload_n hx hb dX12_size_1 rfl (lv_at hl 1 rfl) ?_
  refine z_calli [] [(a0, zO 10 83 g0)] [] [0] hP hD hS hA rfl rfl (by decide) (by decide) (by decide +kernel) 0 0 rfl rfl (fun hPc hDc hF => z_runS (As := [.int x0]) (rest := [.ref a0]) ⟨hx, hb, hml, hown, hg⟩ (cX12_isGlobal_3 l K H.size x0 e0 e1) kS_RX12_197 hd_X12_isGlobal rfl rfl ⟨(Nat.le_of_ble_eq_true rfl), (Nat.le_of_ble_eq_true rfl)⟩ hK hS hZ hPc hDc hF rfl hl.1 rfl (Nat.le_of_ble_eq_true rfl) dX12_size_2 ⟨(Nat.le_of_ble_eq_true rfl), (Nat.le_of_ble_eq_true rfl)⟩) (fun r3 u1 H locs w2 hP hD hS => ?_)
  subst w2
  have hP : va_P K.1 classes [(a0, zO 10 83 g0)] H := hP
  have hD : va_D A [(a0, zO 10 83 g0)] := hD
  refine lv_if_ne (tgt := 12) hx hb dX12_size_5 (by decide) (fun c => absurd (by decide) c) (fun _ => ?_)
  refine lv_iconst (v := 1) hx hb dX12_size_8 (by decide) ?_
  refine lv_goto (tgt := 28) hx hb dX12_size_9 (by decide) ?_
  refine z_calli [(a0, zO 10 83 g0)] [] [0] [] hP hD hS hA rfl rfl (by decide) (by decide) (by decide +kernel) 0 0 rfl rfl (fun hPc hDc hF => z_runV (As := [.int 1]) (rest := []) ⟨hx, hb, hml, hown, hg⟩ (cX12_can_2 l K H.size a0 g0) kV_RX12_182 hd_X12_can rfl rfl ⟨(Nat.le_of_ble_eq_true rfl), (Nat.le_of_ble_eq_true rfl)⟩ hK hS hZ hPc hDc hF 0 rfl rfl rfl hl.1 rfl (Nat.le_of_ble_eq_true rfl) dX12_size_28 ⟨(Nat.le_of_ble_eq_true rfl), (Nat.le_of_ble_eq_true rfl)⟩) (fun r6 u4 H locs w5 hP hD hS => ?_)
  subst w5
  have hP : va_P K.1 classes [(a0, zO 10 83 (va_up g0 81 (.int 1)))] H := hP
  have hD : va_D A [(a0, zO 10 83 (va_up g0 81 (.int 1)))] := hD
  refine lv_if_ne (tgt := 36) hx hb dX12_size_31 (by decide) (fun c => absurd (by decide) c) (fun _ => ?_)
  refine lv_iconst (v := 0) hx hb dX12_size_34 (by decide) ?_
  have hP9 : va_P K.1 classes [(a0, zO 10 83 (va_up g0 81 (.int 1)))] H := hP.sub [0] rfl
  have hD9 : va_D A [(a0, zO 10 83 (va_up g0 81 (.int 1)))] := hD.sub [0] (by decide) rfl
  exact z_iret hx hb hr (fun _ => 0) rfl hP9 hD9 hS (Nat.le_of_ble_eq_true rfl) (Nat.le_of_ble_eq_true rfl) hlocks dX12_size_35
set_option maxHeartbeats 4000000 in
set_option maxRecDepth 100000 in
theorem cX11_node_1 (l : Launch) (hl9 : l.stackTraces = false) (K : zK) (sz : Nat) (a0 : Nat) (g0 : Nat → Value) (x0 : Int32) (x1 : Int32) (x2 : Int32) (e0 : x0 < (0 : Int32)) : vx_Met l yX11_node (Cond.code yX11_node cX11_node 5 (some .int) :: WG) { frames := 7, cells := 1, slots := 6, locals := 104 } (zPre K [(a0, zO 9 9 g0)] sz [.ref a0, .int x0, .int x1, .int x2]) (va_Qv (fun _ : Unit => False) (fun _ _ => True) (va_A [(a0, zO 9 9 g0)] sz)) (zX (va_A [(a0, zO 9 9 g0)] sz) zIA) 1 6 (va_A [(a0, zO 9 9 g0)] sz) := by
  refine z_xmet (Qc := fun A => va_Qv (fun _ : Unit => False) (fun _ _ => True) A) (XC := fun A => zX A zIA) (by decide +kernel) (Nat.le_of_ble_eq_true rfl) ?_
  intro p e s m args below meth c A ls H hx hb hr hg hown hlocks hml hno hK hP hD hA hS hZ hl
  have hown : s.vm.findClass RX11 = some m.cls := hown
  have hl : lv_has ls 5 [(0, .ref a0), (1, .int x0), (2, .int x1), (3, .int x2)] := hl
  refine lv_aload_n hx hb dX11_node_0 rfl (lv_at hl 0 rfl) ?_
  refine lv_iload_n hx hb dX11_node_1 rfl (lv_at hl 1 rfl) ?_
  refine lv_bipush (v := 8) hx hb dX11_node_2 (by decide) ?_
  refine z_xcall (EX := zIA) [(a0, zO 9 9 g0)] [0] hP hD hS hA rfl (by decide) 1 6 rfl rfl (fun hPc hDc hF => z_xrunV (As := [.int x0, .int 8]) (rest := []) ⟨hx, hb, hml, hown, hg⟩ (cX11_checkRange_4 l hl9 K H.size a0 g0 x0 e0) kV_RX11_72 hd_X11_checkRange rfl rfl ⟨(Nat.le_of_ble_eq_true rfl), (Nat.le_of_ble_eq_true rfl)⟩ hK hS hZ hPc hDc hF 0 rfl rfl rfl hl.1 rfl (Nat.le_of_ble_eq_true rfl) dX11_node_4 ⟨(Nat.le_of_ble_eq_true rfl), (Nat.le_of_ble_eq_true rfl)⟩) (fun ce q9 H locs hS hce hcv hcl => ?_)
  exact z_xout hno hlocks hS hce hcv hcl (Nat.le_of_ble_eq_true rfl) (Nat.le_of_ble_eq_true rfl)
set_option maxHeartbeats 4000000 in
set_option maxRecDepth 100000 in
theorem cL_node_1 (l : Launch) (hl9 : l.stackTraces = false) (K : zK) (sz : Nat) (a0 : Nat) (a1 : Nat) (g0 : Nat → Value) (x0 : Int32) (x1 : Int32) (x2 : Int32) (e0 : x0 < (0 : Int32)) : vx_Met l yL_node (Cond.codeWith yL_node cL_node 6 (some .int) [(0, 12, 15, 27), (0, 12, 19, 18)] :: WG) { frames := 8, cells := 1, slots := 6, locals := 128 } (zPre K [(a0, zO 9 9 g0)] sz [.ref a0, .int x0, .int x1, .int x2, .ref a1]) (va_Qi (fun (r : Int32) (_ : Nat → Nat) => r = 2) (zB K (va_A [(a0, zO 9 9 g0)] sz) (fun u : Nat → Nat => [])) (va_A [(a0, zO 9 9 g0)] sz)) (vx_X (fun _ : Unit => False) (fun _ _ _ => True) (va_A [(a0, zO 9 9 g0)] sz)) 1 6 (va_A [(a0, zO 9 9 g0)] sz) := by
  refine z_hmet (Qc := fun A => (va_Qi (fun (r : Int32) (_ : Nat → Nat) => r = 2) (zB K A (fun u : Nat → Nat => [])) A)) (XC := fun A => vx_X (fun _ : Unit => False) (fun _ _ _ => True) A) (by decide +kernel) (Nat.le_of_ble_eq_true rfl) ?_
  intro p e s m args below meth c A ls H hx hb hr hg hown hlocks hml hTab hK hP hD hA hS hZ hl
  have hown : s.vm.findClass RL = some m.cls := hown
  have hl : lv_has ls 6 [(0, .ref a0), (1, .int x0), (2, .int x1), (3, .int x2), (4, .ref a1)] := hl
  refine lv_aload hx hb dL_node_0 (lv_at hl 4 rfl) ?_
  refine lv_iconst (v := 0) hx hb dL_node_2 (by decide) ?_
  refine lv_aload_n hx hb dL_node_3 rfl (lv_at hl 0 rfl) ?_
  refine lv_iload_n hx hb dL_node_4 rfl (lv_at hl 1 rfl) ?_
  refine lv_iload_n hx hb dL_node_5 rfl (lv_at hl 2 rfl) ?_
  refine lv_iload_n hx hb dL_node_6 rfl (lv_at hl 3 rfl) ?_
  refine z_xcall (EX := zIA) [(a0, zO 9 9 g0)] [0] hP hD hS hA rfl (by decide) 1 6 rfl rfl (fun hPc hDc hF => z_xrunV (As := [.int x0, .int x1, .int x2]) (rest := [.int 0, .ref a1]) ⟨hx, hb, hml, hown, hg⟩ (cX11_node_1 l hl9 K H.size a0 g0 x0 x1 x2 e0) kV_RL_91 hd_X11_node rfl rfl ⟨(Nat.le_of_ble_eq_true rfl), (Nat.le_of_ble_eq_true rfl)⟩ hK hS hZ hPc hDc hF 0 rfl rfl rfl hl.1 rfl (Nat.le_of_ble_eq_true rfl) dL_node_7 ⟨(Nat.le_of_ble_eq_true rfl), (Nat.le_of_ble_eq_true rfl)⟩) (fun ce q9 H locs hS hce hcv hcl => ?_)
  refine vx_catch (own := RL) (name := zIA) (E := zIA) hown [⟨0, 12, 15, 27⟩] ⟨0, 12, 19, 18⟩ [] (by rw [hTab]; rfl) (zP1 (Or.inr ⟨by decide, zIB, hg _ mt526, hZ.1.2.1.1⟩) zP0) (by decide) (by decide) (hg _ mt491) (va_Nw.use rfl hZ.1.1.2.1) hce hcv hcl ?_
  have hP : va_P K.1 classes [] H := z_P0
  have hD : va_D A [] := z_D0
  refine lv_astore (lv' := [(5, .ref q9), (0, .ref a0), (1, .int x0), (2, .int x1), (3, .int x2), (4, .ref a1)]) hx hb dL_node_19 hl (by decide) rfl (fun ls hl => ?_)
  refine lv_iconst (v := 2) hx hb dL_node_21 (by decide) ?_
  have hP9 : va_P K.1 classes [] H := hP.sub [] rfl
  have hD9 : va_D A [] := hD.sub [] (by decide) rfl
  exact z_iret hx hb hr (fun _ => 0) rfl hP9 hD9 hS (Nat.le_of_ble_eq_true rfl) (Nat.le_of_ble_eq_true rfl) hlocks dL_node_22
set_option maxHeartbeats 4000000 in
set_option maxRecDepth 100000 in
theorem cX12_node_1 (l : Launch) (K : zK) (sz : Nat) (a0 : Nat) (g0 : Nat → Value) (x0 : Int32) (x1 : Int32) (x2 : Int32) (e0 : x0 < (0 : Int32)) : Met l yX12_node (Cond.code yX12_node cX12_node 7 (some .int) :: WG) { frames := 2, cells := 0, slots := 0, locals := 42 } (zPre K [(a0, zO 10 83 g0)] sz [.ref a0, .int x0, .int x1, .int x2]) (va_Qi (fun (r : Int32) (_ : Nat → Nat) => r = 0) (zB K (va_A [(a0, zO 10 83 g0)] sz) (fun u : Nat → Nat => [(a0, zO 10 83 (va_up g0 81 (.int 2)))])) (va_A [(a0, zO 10 83 g0)] sz)) 0 0 (va_A [(a0, zO 10 83 g0)] sz) := by
  refine z_met (Qc := fun A => (va_Qi (fun (r : Int32) (_ : Nat → Nat) => r = 0) (zB K A (fun u : Nat → Nat => [(a0, zO 10 83 (va_up g0 81 (.int 2)))])) A)) (by decide +kernel) (Nat.le_of_ble_eq_true rfl) ?_
  intro p e s m args below meth c A ls H hx hb hr hg hown hlocks hml hin hK hP hD hA hS hZ hl
  have hown : s.vm.findClass RX12 = some m.cls := hown
  have hl : lv_has ls 7 [(0, .ref a0), (1, .int x0), (2, .int x1), (3, .int x2)] := hl
  refine lv_iload_n hx hb dX12_node_0 rfl (lv_at hl 1 rfl) ?_
  refine z_calli [] [(a0, zO 10 83 g0)] [] [0] hP hD hS hA rfl rfl (by decide) (by decide) (by decide +kernel) 0 0 rfl rfl (fun hPc hDc hF => z_runS (As := [.int x0]) (rest := []) ⟨hx, hb, hml, hown, hg⟩ (cX12_isGlobal_1 l K H.size x0 e0) kS_RX12_197 hd_X12_isGlobal rfl rfl ⟨(Nat.le_of_ble_eq_true rfl), (Nat.le_of_ble_eq_true rfl)⟩ hK hS hZ hPc hDc hF rfl hl.1 rfl (Nat.le_of_ble_eq_true rfl) dX12_node_1 ⟨(Nat.le_of_ble_eq_true rfl), (Nat.le_of_ble_eq_true rfl)⟩) (fun r3 u1 H locs w2 hP hD hS => ?_)
  subst w2
  have hP : va_P K.1 classes [(a0, zO 10 83 g0)] H := hP
  have hD : va_D A [(a0, zO 10 83 g0)] := hD
  refine lv_istore (lv' := [(4, .int 0), (0, .ref a0), (1, .int x0), (2, .int x1), (3, .int x2)]) hx hb dX12_node_4 hl (by decide) rfl (fun ls hl => ?_)
  refine lv_iload hx hb dX12_node_6 (lv_at hl 0 rfl) ?_
  refine lv_if_eq (tgt := 31) hx hb dX12_node_8 (by decide) (fun _ => ?_) (fun c => absurd (by decide) c)
  refine lv_iconst (v := 0) hx hb dX12_node_31 (by decide) ?_
  refine lv_istore (lv' := [(5, .int 0), (4, .int 0), (0, .ref a0), (1, .int x0), (2, .int x1), (3, .int x2)]) hx hb dX12_node_32 hl (by decide) rfl (fun ls hl => ?_)
  refine lv_aload_n hx hb dX12_node_34 rfl (lv_at hl 2 rfl) ?_
  refine lv_iload hx hb dX12_node_35 (lv_at hl 1 rfl) ?_
  refine lv_if_ne (tgt := 44) hx hb dX12_node_37 (by decide) (fun c => absurd (by decide) c) (fun _ => ?_)
  refine lv_iconst (v := 2) hx hb dX12_node_40 (by decide) ?_
  refine lv_goto (tgt := 67) hx hb dX12_node_41 (by decide) ?_
  refine z_calli [(a0, zO 10 83 g0)] [] [0] [] hP hD hS hA rfl rfl (by decide) (by decide) (by decide +kernel) 0 0 rfl rfl (fun hPc hDc hF => z_runV (As := [.int 2]) (rest := []) ⟨hx, hb, hml, hown, hg⟩ (cX12_can_3 l K H.size a0 g0) kV_RX12_182 hd_X12_can rfl rfl ⟨(Nat.le_of_ble_eq_true rfl), (Nat.le_of_ble_eq_true rfl)⟩ hK hS hZ hPc hDc hF 0 rfl rfl rfl hl.1 rfl (Nat.le_of_ble_eq_true rfl) dX12_node_67 ⟨(Nat.le_of_ble_eq_true rfl), (Nat.le_of_ble_eq_true rfl)⟩) (fun r6 u4 H locs w5 hP hD hS => ?_)
  subst w5
  have hP : va_P K.1 classes [(a0, zO 10 83 (va_up g0 81 (.int 2)))] H := hP
  have hD : va_D A [(a0, zO 10 83 (va_up g0 81 (.int 2)))] := hD
  refine lv_if_ne (tgt := 75) hx hb dX12_node_70 (by decide) (fun c => absurd (by decide) c) (fun _ => ?_)
  refine lv_iconst (v := 0) hx hb dX12_node_73 (by decide) ?_
  have hP9 : va_P K.1 classes [(a0, zO 10 83 (va_up g0 81 (.int 2)))] H := hP.sub [0] rfl
  have hD9 : va_D A [(a0, zO 10 83 (va_up g0 81 (.int 2)))] := hD.sub [0] (by decide) rfl
  exact z_iret hx hb hr (fun _ => 0) rfl hP9 hD9 hS (Nat.le_of_ble_eq_true rfl) (Nat.le_of_ble_eq_true rfl) hlocks dX12_node_74
set_option maxHeartbeats 4000000 in
set_option maxRecDepth 100000 in
theorem cX11_node_2 (l : Launch) (hl9 : l.stackTraces = false) (K : zK) (sz : Nat) (a0 : Nat) (g0 : Nat → Value) (j0 : Nat) (hj0 : j0 < 8) (x1 : Int32) (x2 : Int32) (e0 : x1 < (0 : Int32)) : vx_Met l yX11_node (Cond.code yX11_node cX11_node 5 (some .int) :: WG) { frames := 6, cells := 1, slots := 6, locals := 82 } (zPre K [(a0, zO 9 9 g0)] sz [.ref a0, .int (nI j0), .int x1, .int x2]) (va_Qv (fun _ : Unit => False) (fun _ _ => True) (va_A [(a0, zO 9 9 g0)] sz)) (zX (va_A [(a0, zO 9 9 g0)] sz) zIB) 1 6 (va_A [(a0, zO 9 9 g0)] sz) := by
  refine z_xmet (Qc := fun A => va_Qv (fun _ : Unit => False) (fun _ _ => True) A) (XC := fun A => zX A zIB) (by decide +kernel) (Nat.le_of_ble_eq_true rfl) ?_
  intro p e s m args below meth c A ls H hx hb hr hg hown hlocks hml hno hK hP hD hA hS hZ hl
  have hown : s.vm.findClass RX11 = some m.cls := hown
  have hl : lv_has ls 5 [(0, .ref a0), (1, .int (nI j0)), (2, .int x1), (3, .int x2)] := hl
  refine lv_aload_n hx hb dX11_node_0 rfl (lv_at hl 0 rfl) ?_
  refine lv_iload_n hx hb dX11_node_1 rfl (lv_at hl 1 rfl) ?_
  refine lv_bipush (v := 8) hx hb dX11_node_2 (by decide) ?_
  refine z_callv [(a0, zO 9 9 g0)] [] [0] [] hP hD hS hA rfl rfl (by decide) (by decide) (by decide +kernel) 0 0 rfl rfl (fun hPc hDc hF => z_runV (As := [.int (nI j0), .int 8]) (rest := []) ⟨hx, hb, hml, hown, hg⟩ (cX11_checkRange_5 l K H.size a0 g0 j0 hj0) kV_RX11_72 hd_X11_checkRange rfl rfl ⟨(Nat.le_of_ble_eq_true rfl), (Nat.le_of_ble_eq_true rfl)⟩ hK hS hZ hPc hDc hF 0 rfl rfl rfl hl.1 rfl (Nat.le_of_ble_eq_true rfl) dX11_node_4 ⟨(Nat.le_of_ble_eq_true rfl), (Nat.le_of_ble_eq_true rfl)⟩) (fun u1 H locs w2 hP hD hS => ?_)
  have hP : va_P K.1 classes [(a0, zO 9 9 g0)] H := hP
  have hD : va_D A [(a0, zO 9 9 g0)] := hD
  refine lv_iload_n hx hb dX11_node_7 rfl (lv_at hl 2 rfl) ?_
  refine lv_if_lt (tgt := 23) hx hb dX11_node_8 (by decide) (fun _ => ?_) (fun c => absurd e0 c)
  exact z_throw (ik := 161) (is := 163) (ic := 165) hx hb hl9 hg hown (by decide +kernel) mt536 mt17 hZ.1.2.2.2.2.2.2.2 (at_zIB hg hZ) ok_zIB hZ hS hl.1 hml dX11_node_23 dX11_node_26 dX11_node_27 dX11_node_29 dX11_node_32 hno hlocks (Nat.le_of_ble_eq_true rfl) (Nat.le_of_ble_eq_true rfl) (Nat.le_of_ble_eq_true rfl) (Nat.le_of_ble_eq_true rfl) (Nat.le_of_ble_eq_true rfl) (Nat.le_of_ble_eq_true rfl)
set_option maxHeartbeats 4000000 in
set_option maxRecDepth 100000 in
theorem cL_node_2 (l : Launch) (hl9 : l.stackTraces = false) (K : zK) (sz : Nat) (a0 : Nat) (a1 : Nat) (g0 : Nat → Value) (j0 : Nat) (hj0 : j0 < 8) (x1 : Int32) (x2 : Int32) (e0 : x1 < (0 : Int32)) : vx_Met l yL_node (Cond.codeWith yL_node cL_node 6 (some .int) [(0, 12, 15, 27), (0, 12, 19, 18)] :: WG) { frames := 7, cells := 1, slots := 6, locals := 106 } (zPre K [(a0, zO 9 9 g0)] sz [.ref a0, .int (nI j0), .int x1, .int x2, .ref a1]) (va_Qi (fun (r : Int32) (_ : Nat → Nat) => r = 1) (zB K (va_A [(a0, zO 9 9 g0)] sz) (fun u : Nat → Nat => [])) (va_A [(a0, zO 9 9 g0)] sz)) (vx_X (fun _ : Unit => False) (fun _ _ _ => True) (va_A [(a0, zO 9 9 g0)] sz)) 1 6 (va_A [(a0, zO 9 9 g0)] sz) := by
  refine z_hmet (Qc := fun A => (va_Qi (fun (r : Int32) (_ : Nat → Nat) => r = 1) (zB K A (fun u : Nat → Nat => [])) A)) (XC := fun A => vx_X (fun _ : Unit => False) (fun _ _ _ => True) A) (by decide +kernel) (Nat.le_of_ble_eq_true rfl) ?_
  intro p e s m args below meth c A ls H hx hb hr hg hown hlocks hml hTab hK hP hD hA hS hZ hl
  have hown : s.vm.findClass RL = some m.cls := hown
  have hl : lv_has ls 6 [(0, .ref a0), (1, .int (nI j0)), (2, .int x1), (3, .int x2), (4, .ref a1)] := hl
  refine lv_aload hx hb dL_node_0 (lv_at hl 4 rfl) ?_
  refine lv_iconst (v := 0) hx hb dL_node_2 (by decide) ?_
  refine lv_aload_n hx hb dL_node_3 rfl (lv_at hl 0 rfl) ?_
  refine lv_iload_n hx hb dL_node_4 rfl (lv_at hl 1 rfl) ?_
  refine lv_iload_n hx hb dL_node_5 rfl (lv_at hl 2 rfl) ?_
  refine lv_iload_n hx hb dL_node_6 rfl (lv_at hl 3 rfl) ?_
  refine z_xcall (EX := zIB) [(a0, zO 9 9 g0)] [0] hP hD hS hA rfl (by decide) 1 6 rfl rfl (fun hPc hDc hF => z_xrunV (As := [.int (nI j0), .int x1, .int x2]) (rest := [.int 0, .ref a1]) ⟨hx, hb, hml, hown, hg⟩ (cX11_node_2 l hl9 K H.size a0 g0 j0 hj0 x1 x2 e0) kV_RL_91 hd_X11_node rfl rfl ⟨(Nat.le_of_ble_eq_true rfl), (Nat.le_of_ble_eq_true rfl)⟩ hK hS hZ hPc hDc hF 0 rfl rfl rfl hl.1 rfl (Nat.le_of_ble_eq_true rfl) dL_node_7 ⟨(Nat.le_of_ble_eq_true rfl), (Nat.le_of_ble_eq_true rfl)⟩) (fun ce q9 H locs hS hce hcv hcl => ?_)
  refine vx_catch (own := RL) (name := zIB) (E := zIB) hown [] ⟨0, 12, 15, 27⟩ [⟨0, 12, 19, 18⟩] (by rw [hTab]; rfl) (fun z hz => nomatch hz) (by decide) (by decide) (hg _ mt526) (va_Nw.use rfl hZ.1.1.2.2.2.1) hce hcv hcl ?_
  have hP : va_P K.1 classes [] H := z_P0
  have hD : va_D A [] := z_D0
  refine lv_astore (lv' := [(5, .ref q9), (0, .ref a0), (1, .int (nI j0)), (2, .int x1), (3, .int x2), (4, .ref a1)]) hx hb dL_node_15 hl (by decide) rfl (fun ls hl => ?_)
  refine lv_iconst (v := 1) hx hb dL_node_17 (by decide) ?_
  have hP9 : va_P K.1 classes [] H := hP.sub [] rfl
  have hD9 : va_D A [] := hD.sub [] (by decide) rfl
  exact z_iret hx hb hr (fun _ => 0) rfl hP9 hD9 hS (Nat.le_of_ble_eq_true rfl) (Nat.le_of_ble_eq_true rfl) hlocks dL_node_18
set_option maxHeartbeats 4000000 in
set_option maxRecDepth 100000 in
theorem cX12_node_2 (l : Launch) (K : zK) (sz : Nat) (a0 : Nat) (a1 : Nat) (g0 : Nat → Value) (f1 : Nat → Int32) (j0 : Nat) (hj0 : j0 < 8) (x1 : Int32) (x2 : Int32) (e0 : g0 14 = (.ref a1)) (e1 : ∀ j : Nat, f1 j = 0) (e2 : x1 < (0 : Int32)) : Met l yX12_node (Cond.code yX12_node cX12_node 7 (some .int) :: WG) { frames := 2, cells := 0, slots := 0, locals := 42 } (zPre K [(a0, zO 10 83 g0), (a1, zI K 16 f1)] sz [.ref a0, .int (nI j0), .int x1, .int x2]) (va_Qi (fun (r : Int32) (_ : Nat → Nat) => r = 0) (zB K (va_A [(a0, zO 10 83 g0), (a1, zI K 16 f1)] sz) (fun u : Nat → Nat => [(a0, zO 10 83 (va_up g0 81 (.int 1)))])) (va_A [(a0, zO 10 83 g0), (a1, zI K 16 f1)] sz)) 0 0 (va_A [(a0, zO 10 83 g0), (a1, zI K 16 f1)] sz) := by
  refine z_met (Qc := fun A => (va_Qi (fun (r : Int32) (_ : Nat → Nat) => r = 0) (zB K A (fun u : Nat → Nat => [(a0, zO 10 83 (va_up g0 81 (.int 1)))])) A)) (by decide +kernel) (Nat.le_of_ble_eq_true rfl) ?_
  intro p e s m args below meth c A ls H hx hb hr hg hown hlocks hml hin hK hP hD hA hS hZ hl
  have hown : s.vm.findClass RX12 = some m.cls := hown
  have hl : lv_has ls 7 [(0, .ref a0), (1, .int (nI j0)), (2, .int x1), (3, .int x2)] := hl
  refine lv_iload_n hx hb dX12_node_0 rfl (lv_at hl 1 rfl) ?_
  refine z_calli [] [(a0, zO 10 83 g0), (a1, zI K 16 f1)] [] [0, 1] hP hD hS hA rfl rfl (by decide) (by decide) (by decide +kernel) 0 0 rfl rfl (fun hPc hDc hF => z_runS (As := [.int (nI j0)]) (rest := []) ⟨hx, hb, hml, hown, hg⟩ (cX12_isGlobal_2 l K H.size j0 hj0) kS_RX12_197 hd_X12_isGlobal rfl rfl ⟨(Nat.le_of_ble_eq_true rfl), (Nat.le_of_ble_eq_true rfl)⟩ hK hS hZ hPc hDc hF rfl hl.1 rfl (Nat.le_of_ble_eq_true rfl) dX12_node_1 ⟨(Nat.le_of_ble_eq_true rfl), (Nat.le_of_ble_eq_true rfl)⟩) (fun r3 u1 H locs w2 hP hD hS => ?_)
  subst w2
  have hP : va_P K.1 classes [(a0, zO 10 83 g0), (a1, zI K 16 f1)] H := hP
  have hD : va_D A [(a0, zO 10 83 g0), (a1, zI K 16 f1)] := hD
  refine lv_istore (lv' := [(4, .int 1), (0, .ref a0), (1, .int (nI j0)), (2, .int x1), (3, .int x2)]) hx hb dX12_node_4 hl (by decide) rfl (fun ls hl => ?_)
  refine lv_iload hx hb dX12_node_6 (lv_at hl 0 rfl) ?_
  refine lv_if_eq (tgt := 31) hx hb dX12_node_8 (by decide) (fun c => absurd c (by decide)) (fun _ => ?_)
  refine lv_iload_n hx hb dX12_node_11 rfl (lv_at hl 3 rfl) ?_
  refine lv_iconst (v := 0) hx hb dX12_node_12 (by decide) ?_
  refine lv_aload_n hx hb dX12_node_13 rfl (lv_at hl 1 rfl) ?_
  refine z_get (v := .ref a1) hx hb hg hown hK hP i_X12 rfl 0 rfl 14 (by decide) mt1294 e0 dX12_node_14 ?_
  refine lv_iload_n hx hb dX12_node_17 rfl (lv_at hl 2 rfl) ?_
  refine z_iald (v := 0) (j := j0) hx hb hK hP 1 rfl rfl (Nat.lt_of_lt_of_le hj0 (Nat.le_of_ble_eq_true rfl)) (Nat.le_of_ble_eq_true rfl) (e1 j0) dX12_node_18 ?_
  refine lv_iconst (v := 1) hx hb dX12_node_19 (by decide) ?_
  refine lv_isub hx hb dX12_node_20 ?_
  refine z_cst (v := (-1)) (by decide +kernel) ?_
  refine z_calli [] [(a0, zO 10 83 g0), (a1, zI K 16 f1)] [] [0, 1] hP hD hS hA rfl rfl (by decide) (by decide) (by decide +kernel) 0 0 rfl rfl (fun hPc hDc hF => z_runS (As := [.int x1, .int 0, .int (-1)]) (rest := []) ⟨hx, hb, hml, hown, hg⟩ (cX12_isIn_7 l K H.size x1 e2) kS_RX12_175 hd_X12_isIn rfl rfl ⟨(Nat.le_of_ble_eq_true rfl), (Nat.le_of_ble_eq_true rfl)⟩ hK hS hZ hPc hDc hF rfl hl.1 rfl (Nat.le_of_ble_eq_true rfl) dX12_node_21 ⟨(Nat.le_of_ble_eq_true rfl), (Nat.le_of_ble_eq_true rfl)⟩) (fun r6 u4 H locs w5 hP hD hS => ?_)
  subst w5
  have hP : va_P K.1 classes [(a0, zO 10 83 g0), (a1, zI K 16 f1)] H := hP
  have hD : va_D A [(a0, zO 10 83 g0), (a1, zI K 16 f1)] := hD
  refine lv_if_eq (tgt := 31) hx hb dX12_node_24 (by decide) (fun _ => ?_) (fun c => absurd (by decide) c)
  refine lv_iconst (v := 0) hx hb dX12_node_31 (by decide) ?_
  refine lv_istore (lv' := [(5, .int 0), (4, .int 1), (0, .ref a0), (1, .int (nI j0)), (2, .int x1), (3, .int x2)]) hx hb dX12_node_32 hl (by decide) rfl (fun ls hl => ?_)
  refine lv_aload_n hx hb dX12_node_34 rfl (lv_at hl 2 rfl) ?_
  refine lv_iload hx hb dX12_node_35 (lv_at hl 1 rfl) ?_
  refine lv_if_ne (tgt := 44) hx hb dX12_node_37 (by decide) (fun _ => ?_) (fun c => absurd c (by decide))
  refine lv_iload hx hb dX12_node_44 (lv_at hl 0 rfl) ?_
  refine lv_if_ne (tgt := 53) hx hb dX12_node_46 (by decide) (fun c => absurd (by decide) c) (fun _ => ?_)
  refine lv_iconst (v := 1) hx hb dX12_node_49 (by decide) ?_
  refine lv_goto (tgt := 67) hx hb dX12_node_50 (by decide) ?_
  refine z_calli [(a0, zO 10 83 g0)] [(a1, zI K 16 f1)] [0] [1] hP hD hS hA rfl rfl (by decide) (by decide) (by decide +kernel) 0 0 rfl rfl (fun hPc hDc hF => z_runV (As := [.int 1]) (rest := []) ⟨hx, hb, hml, hown, hg⟩ (cX12_can_2 l K H.size a0 g0) kV_RX12_182 hd_X12_can rfl rfl ⟨(Nat.le_of_ble_eq_true rfl), (Nat.le_of_ble_eq_true rfl)⟩ hK hS hZ hPc hDc hF 0 rfl rfl rfl hl.1 rfl (Nat.le_of_ble_eq_true rfl) dX12_node_67 ⟨(Nat.le_of_ble_eq_true rfl), (Nat.le_of_ble_eq_true rfl)⟩) (fun r9 u7 H locs w8 hP hD hS => ?_)
  subst w8
  have hP : va_P K.1 classes [(a1, zI K 16 f1), (a0, zO 10 83 (va_up g0 81 (.int 1)))] H := hP
  have hD : va_D A [(a1, zI K 16 f1), (a0, zO 10 83 (va_up g0 81 (.int 1)))] := hD
  refine lv_if_ne (tgt := 75) hx hb dX12_node_70 (by decide) (fun c => absurd (by decide) c) (fun _ => ?_)
  refine lv_iconst (v := 0) hx hb dX12_node_73 (by decide) ?_
  have hP9 : va_P K.1 classes [(a0, zO 10 83 (va_up g0 81 (.int 1)))] H := hP.sub [1] rfl
  have hD9 : va_D A [(a0, zO 10 83 (va_up g0 81 (.int 1)))] := hD.sub [1] (by decide) rfl
  exact z_iret hx hb hr (fun _ => 0) rfl hP9 hD9 hS (Nat.le_of_ble_eq_true rfl) (Nat.le_of_ble_eq_true rfl) hlocks dX12_node_74
set_option maxHeartbeats 4000000 in
set_option maxRecDepth 100000 in
theorem cX11_node_3 (l : Launch) (hl9 : l.stackTraces = false) (K : zK) (sz : Nat) (a0 : Nat) (a1 : Nat) (a2 : Nat) (g0 : Nat → Value) (g1 : Nat → Value) (f2 : Nat → Int32) (j0 : Nat) (hj0 : j0 < 8) (x1 : Int32) (x2 : Int32) (e0 : ¬ x1 < (0 : Int32)) (e1 : g0 3 = (.ref a1)) (e2 : g1 1 = (.ref a2)) (e3 : ∀ j : Nat, f2 j = 0) : vx_Met l yX11_node (Cond.code yX11_node cX11_node 5 (some .int) :: WG) { frames := 6, cells := 1, slots := 6, locals := 82 } (zPre K [(a0, zO 9 9 g0), (a1, zO 4 6 g1), (a2, zI K 8 f2)] sz [.ref a0, .int (nI j0), .int x1, .int x2]) (va_Qv (fun _ : Unit => False) (fun _ _ => True) (va_A [(a0, zO 9 9 g0), (a1, zO 4 6 g1), (a2, zI K 8 f2)] sz)) (zX (va_A [(a0, zO 9 9 g0), (a1, zO 4 6 g1), (a2, zI K 8 f2)] sz) zIB) 1 6 (va_A [(a0, zO 9 9 g0), (a1, zO 4 6 g1), (a2, zI K 8 f2)] sz) := by
  refine z_xmet (Qc := fun A => va_Qv (fun _ : Unit => False) (fun _ _ => True) A) (XC := fun A => zX A zIB) (by decide +kernel) (Nat.le_of_ble_eq_true rfl) ?_
  intro p e s m args below meth c A ls H hx hb hr hg hown hlocks hml hno hK hP hD hA hS hZ hl
  have hown : s.vm.findClass RX11 = some m.cls := hown
  have hl : lv_has ls 5 [(0, .ref a0), (1, .int (nI j0)), (2, .int x1), (3, .int x2)] := hl
  refine lv_aload_n hx hb dX11_node_0 rfl (lv_at hl 0 rfl) ?_
  refine lv_iload_n hx hb dX11_node_1 rfl (lv_at hl 1 rfl) ?_
  refine lv_bipush (v := 8) hx hb dX11_node_2 (by decide) ?_
  refine z_callv [(a0, zO 9 9 g0)] [(a1, zO 4 6 g1), (a2, zI K 8 f2)] [0] [1, 2] hP hD hS hA rfl rfl (by decide) (by decide) (by decide +kernel) 0 0 rfl rfl (fun hPc hDc hF => z_runV (As := [.int (nI j0), .int 8]) (rest := []) ⟨hx, hb, hml, hown, hg⟩ (cX11_checkRange_5 l K H.size a0 g0 j0 hj0) kV_RX11_72 hd_X11_checkRange rfl rfl ⟨(Nat.le_of_ble_eq_true rfl), (Nat.le_of_ble_eq_true rfl)⟩ hK hS hZ hPc hDc hF 0 rfl rfl rfl hl.1 rfl (Nat.le_of_ble_eq_true rfl) dX11_node_4 ⟨(Nat.le_of_ble_eq_true rfl), (Nat.le_of_ble_eq_true rfl)⟩) (fun u1 H locs w2 hP hD hS => ?_)
  have hP : va_P K.1 classes [(a1, zO 4 6 g1), (a2, zI K 8 f2), (a0, zO 9 9 g0)] H := hP
  have hD : va_D A [(a1, zO 4 6 g1), (a2, zI K 8 f2), (a0, zO 9 9 g0)] := hD
  refine lv_iload_n hx hb dX11_node_7 rfl (lv_at hl 2 rfl) ?_
  refine lv_if_lt (tgt := 23) hx hb dX11_node_8 (by decide) (fun c => absurd c e0) (fun _ => ?_)
  refine lv_iload_n hx hb dX11_node_11 rfl (lv_at hl 2 rfl) ?_
  refine lv_aload_n hx hb dX11_node_12 rfl (lv_at hl 0 rfl) ?_
  refine z_get (v := .ref a1) hx hb hg hown hK hP i_X11 rfl 2 rfl 3 (by decide) mt307 e1 dX11_node_13 ?_
  refine lv_iload_n hx hb dX11_node_16 rfl (lv_at hl 1 rfl) ?_
  refine z_calli [(a1, zO 4 6 g1), (a2, zI K 8 f2)] [(a0, zO 9 9 g0)] [0, 1] [2] hP hD hS hA rfl rfl (by decide) (by decide) (by decide +kernel) 0 0 rfl rfl (fun hPc hDc hF => z_runV (As := [.int (nI j0)]) (rest := [.int x1]) ⟨hx, hb, hml, hown, hg⟩ (cX5_sizeOf_1 l K H.size a1 a2 g1 f2 j0 hj0 e2 e3) kV_RX11_103 hd_X5_sizeOf rfl rfl ⟨(Nat.le_of_ble_eq_true rfl), (Nat.le_of_ble_eq_true rfl)⟩ hK hS hZ hPc hDc hF 0 rfl rfl rfl hl.1 rfl (Nat.le_of_ble_eq_true rfl) dX11_node_17 ⟨(Nat.le_of_ble_eq_true rfl), (Nat.le_of_ble_eq_true rfl)⟩) (fun r6 u4 H locs w5 hP hD hS => ?_)
  subst w5
  have hP : va_P K.1 classes [(a0, zO 9 9 g0), (a1, zO 4 6 g1), (a2, zI K 8 f2)] H := hP
  have hD : va_D A [(a0, zO 9 9 g0), (a1, zO 4 6 g1), (a2, zI K 8 f2)] := hD
  refine lv_icmp_lt (tgt := 33) hx hb dX11_node_20 (by decide) (fun c => absurd c e0) (fun _ => ?_)
  exact z_throw (ik := 161) (is := 163) (ic := 165) hx hb hl9 hg hown (by decide +kernel) mt536 mt17 hZ.1.2.2.2.2.2.2.2 (at_zIB hg hZ) ok_zIB hZ hS hl.1 hml dX11_node_23 dX11_node_26 dX11_node_27 dX11_node_29 dX11_node_32 hno hlocks (Nat.le_of_ble_eq_true rfl) (Nat.le_of_ble_eq_true rfl) (Nat.le_of_ble_eq_true rfl) (Nat.le_of_ble_eq_true rfl) (Nat.le_of_ble_eq_true rfl) (Nat.le_of_ble_eq_true rfl)
set_option maxHeartbeats 4000000 in
set_option maxRecDepth 100000 in
theorem cL_node_3 (l : Launch) (hl9 : l.stackTraces = false) (K : zK) (sz : Nat) (a0 : Nat) (a1 : Nat) (a2 : Nat) (a3 : Nat) (g0 : Nat → Value) (g2 : Nat → Value) (f3 : Nat → Int32) (j0 : Nat) (hj0 : j0 < 8) (x1 : Int32) (x2 : Int32) (e0 : ¬ x1 < (0 : Int32)) (e1 : g0 3 = (.ref a2)) (e2 : g2 1 = (.ref a3)) (e3 : ∀ j : Nat, f3 j = 0) : vx_Met l yL_node (Cond.codeWith yL_node cL_node 6 (some .int) [(0, 12, 15, 27), (0, 12, 19, 18)] :: WG) { frames := 7, cells := 1, slots := 6, locals := 106 } (zPre K [(a0, zO 9 9 g0), (a2, zO 4 6 g2), (a3, zI K 8 f3)] sz [.ref a0, .int (nI j0), .int x1, .int x2, .ref a1]) (va_Qi (fun (r : Int32) (_ : Nat → Nat) => r = 1) (zB K (va_A [(a0, zO 9 9 g0), (a2, zO 4 6 g2), (a3, zI K 8 f3)] sz) (fun u : Nat → Nat => [])) (va_A [(a0, zO 9 9 g0), (a2, zO 4 6 g2), (a3, zI K 8 f3)] sz)) (vx_X (fun _ : Unit => False) (fun _ _ _ => True) (va_A [(a0, zO 9 9 g0), (a2, zO 4 6 g2), (a3, zI K 8 f3)] sz)) 1 6 (va_A [(a0, zO 9 9 g0), (a2, zO 4 6 g2), (a3, zI K 8 f3)] sz) := by
  refine z_hmet (Qc := fun A => (va_Qi (fun (r : Int32) (_ : Nat → Nat) => r = 1) (zB K A (fun u : Nat → Nat => [])) A)) (XC := fun A => vx_X (fun _ : Unit => False) (fun _ _ _ => True) A) (by decide +kernel) (Nat.le_of_ble_eq_true rfl) ?_
  intro p e s m args below meth c A ls H hx hb hr hg hown hlocks hml hTab hK hP hD hA hS hZ hl
  have hown : s.vm.findClass RL = some m.cls := hown
  have hl : lv_has ls 6 [(0, .ref a0), (1, .int (nI j0)), (2, .int x1), (3, .int x2), (4, .ref a1)] := hl
  refine lv_aload hx hb dL_node_0 (lv_at hl 4 rfl) ?_
  refine lv_iconst (v := 0) hx hb dL_node_2 (by decide) ?_
  refine lv_aload_n hx hb dL_node_3 rfl (lv_at hl 0 rfl) ?_
  refine lv_iload_n hx hb dL_node_4 rfl (lv_at hl 1 rfl) ?_
  refine lv_iload_n hx hb dL_node_5 rfl (lv_at hl 2 rfl) ?_
  refine lv_iload_n hx hb dL_node_6 rfl (lv_at hl 3 rfl) ?_
  refine z_xcall (EX := zIB) [(a0, zO 9 9 g0), (a2, zO 4 6 g2), (a3, zI K 8 f3)] [0, 1, 2] hP hD hS hA rfl (by decide) 1 6 rfl rfl (fun hPc hDc hF => z_xrunV (As := [.int (nI j0), .int x1, .int x2]) (rest := [.int 0, .ref a1]) ⟨hx, hb, hml, hown, hg⟩ (cX11_node_3 l hl9 K H.size a0 a2 a3 g0 g2 f3 j0 hj0 x1 x2 e0 e1 e2 e3) kV_RL_91 hd_X11_node rfl rfl ⟨(Nat.le_of_ble_eq_true rfl), (Nat.le_of_ble_eq_true rfl)⟩ hK hS hZ hPc hDc hF 0 rfl rfl rfl hl.1 rfl (Nat.le_of_ble_eq_true rfl) dL_node_7 ⟨(Nat.le_of_ble_eq_true rfl), (Nat.le_of_ble_eq_true rfl)⟩) (fun ce q9 H locs hS hce hcv hcl => ?_)
  refine vx_catch (own := RL) (name := zIB) (E := zIB) hown [] ⟨0, 12, 15, 27⟩ [⟨0, 12, 19, 18⟩] (by rw [hTab]; rfl) (fun z hz => nomatch hz) (by decide) (by decide) (hg _ mt526) (va_Nw.use rfl hZ.1.1.2.2.2.1) hce hcv hcl ?_
  have hP : va_P K.1 classes [] H := z_P0
  have hD : va_D A [] := z_D0
  refine lv_astore (lv' := [(5, .ref q9), (0, .ref a0), (1, .int (nI j0)), (2, .int x1), (3, .int x2), (4, .ref a1)]) hx hb dL_node_15 hl (by decide) rfl (fun ls hl => ?_)
  refine lv_iconst (v := 1) hx hb dL_node_17 (by decide) ?_
  have hP9 : va_P K.1 classes [] H := hP.sub [] rfl
  have hD9 : va_D A [] := hD.sub [] (by decide) rfl
  exact z_iret hx hb hr (fun _ => 0) rfl hP9 hD9 hS (Nat.le_of_ble_eq_true rfl) (Nat.le_of_ble_eq_true rfl) hlocks dL_node_18
set_option maxHeartbeats 4000000 in
set_option maxRecDepth 100000 in
theorem cX12_node_3 (l : Launch) (K : zK) (sz : Nat) (a0 : Nat) (a1 : Nat) (g0 : Nat → Value) (f1 : Nat → Int32) (j0 : Nat) (hj0 : j0 < 8) (x1 : Int32) (x2 : Int32) (e0 : g0 14 = (.ref a1)) (e1 : ∀ j : Nat, f1 j = 0) (e2 : ¬ x1 < (0 : Int32)) (e3 : (-1 : Int32) < x1) : Met l yX12_node (Cond.code yX12_node cX12_node 7 (some .int) :: WG) { frames := 2, cells := 0, slots := 0, locals := 42 } (zPre K [(a0, zO 10 83 g0), (a1, zI K 16 f1)] sz [.ref a0, .int (nI j0), .int x1, .int x2]) (va_Qi (fun (r : Int32) (_ : Nat → Nat) => r = 0) (zB K (va_A [(a0, zO 10 83 g0), (a1, zI K 16 f1)] sz) (fun u : Nat → Nat => [(a0, zO 10 83 (va_up g0 81 (.int 1)))])) (va_A [(a0, zO 10 83 g0), (a1, zI K 16 f1)] sz)) 0 0 (va_A [(a0, zO 10 83 g0), (a1, zI K 16 f1)] sz) := by
  refine z_met (Qc := fun A => (va_Qi (fun (r : Int32) (_ : Nat → Nat) => r = 0) (zB K A (fun u : Nat → Nat => [(a0, zO 10 83 (va_up g0 81 (.int 1)))])) A)) (by decide +kernel) (Nat.le_of_ble_eq_true rfl) ?_
  intro p e s m args below meth c A ls H hx hb hr hg hown hlocks hml hin hK hP hD hA hS hZ hl
  have hown : s.vm.findClass RX12 = some m.cls := hown
  have hl : lv_has ls 7 [(0, .ref a0), (1, .int (nI j0)), (2, .int x1), (3, .int x2)] := hl
  refine lv_iload_n hx hb dX12_node_0 rfl (lv_at hl 1 rfl) ?_
  refine z_calli [] [(a0, zO 10 83 g0), (a1, zI K 16 f1)] [] [0, 1] hP hD hS hA rfl rfl (by decide) (by decide) (by decide +kernel) 0 0 rfl rfl (fun hPc hDc hF => z_runS (As := [.int (nI j0)]) (rest := []) ⟨hx, hb, hml, hown, hg⟩ (cX12_isGlobal_2 l K H.size j0 hj0) kS_RX12_197 hd_X12_isGlobal rfl rfl ⟨(Nat.le_of_ble_eq_true rfl), (Nat.le_of_ble_eq_true rfl)⟩ hK hS hZ hPc hDc hF rfl hl.1 rfl (Nat.le_of_ble_eq_true rfl) dX12_node_1 ⟨(Nat.le_of_ble_eq_true rfl), (Nat.le_of_ble_eq_true rfl)⟩) (fun r3 u1 H locs w2 hP hD hS => ?_)
  subst w2
  have hP : va_P K.1 classes [(a0, zO 10 83 g0), (a1, zI K 16 f1)] H := hP
  have hD : va_D A [(a0, zO 10 83 g0), (a1, zI K 16 f1)] := hD
  refine lv_istore (lv' := [(4, .int 1), (0, .ref a0), (1, .int (nI j0)), (2, .int x1), (3, .int x2)]) hx hb dX12_node_4 hl (by decide) rfl (fun ls hl => ?_)
  refine lv_iload hx hb dX12_node_6 (lv_at hl 0 rfl) ?_
  refine lv_if_eq (tgt := 31) hx hb dX12_node_8 (by decide) (fun c => absurd c (by decide)) (fun _ => ?_)
  refine lv_iload_n hx hb dX12_node_11 rfl (lv_at hl 3 rfl) ?_
  refine lv_iconst (v := 0) hx hb dX12_node_12 (by decide) ?_
  refine lv_aload_n hx hb dX12_node_13 rfl (lv_at hl 1 rfl) ?_
  refine z_get (v := .ref a1) hx hb hg hown hK hP i_X12 rfl 0 rfl 14 (by decide) mt1294 e0 dX12_node_14 ?_
  refine lv_iload_n hx hb dX12_node_17 rfl (lv_at hl 2 rfl) ?_
  refine z_iald (v := 0) (j := j0) hx hb hK hP 1 rfl rfl (Nat.lt_of_lt_of_le hj0 (Nat.le_of_ble_eq_true rfl)) (Nat.le_of_ble_eq_true rfl) (e1 j0) dX12_node_18 ?_
  refine lv_iconst (v := 1) hx hb dX12_node_19 (by decide) ?_
  refine lv_isub hx hb dX12_node_20 ?_
  refine z_cst (v := (-1)) (by decide +kernel) ?_
  refine z_calli [] [(a0, zO 10 83 g0), (a1, zI K 16 f1)] [] [0, 1] hP hD hS hA rfl rfl (by decide) (by decide) (by decide +kernel) 0 0 rfl rfl (fun hPc hDc hF => z_runS (As := [.int x1, .int 0, .int (-1)]) (rest := []) ⟨hx, hb, hml, hown, hg⟩ (cX12_isIn_8 l K H.size x1 e2 e3) kS_RX12_175 hd_X12_isIn rfl rfl ⟨(Nat.le_of_ble_eq_true rfl), (Nat.le_of_ble_eq_true rfl)⟩ hK hS hZ hPc hDc hF rfl hl.1 rfl (Nat.le_of_ble_eq_true rfl) dX12_node_21 ⟨(Nat.le_of_ble_eq_true rfl), (Nat.le_of_ble_eq_true rfl)⟩) (fun r6 u4 H locs w5 hP hD hS => ?_)
  subst w5
  have hP : va_P K.1 classes [(a0, zO 10 83 g0), (a1, zI K 16 f1)] H := hP
  have hD : va_D A [(a0, zO 10 83 g0), (a1, zI K 16 f1)] := hD
  refine lv_if_eq (tgt := 31) hx hb dX12_node_24 (by decide) (fun _ => ?_) (fun c => absurd (by decide) c)
  refine lv_iconst (v := 0) hx hb dX12_node_31 (by decide) ?_
  refine lv_istore (lv' := [(5, .int 0), (4, .int 1), (0, .ref a0), (1, .int (nI j0)), (2, .int x1), (3, .int x2)]) hx hb dX12_node_32 hl (by decide) rfl (fun ls hl => ?_)
  refine lv_aload_n hx hb dX12_node_34 rfl (lv_at hl 2 rfl) ?_
  refine lv_iload hx hb dX12_node_35 (lv_at hl 1 rfl) ?_
  refine lv_if_ne (tgt := 44) hx hb dX12_node_37 (by decide) (fun _ => ?_) (fun c => absurd c (by decide))
  refine lv_iload hx hb dX12_node_44 (lv_at hl 0 rfl) ?_
  refine lv_if_ne (tgt := 53) hx hb dX12_node_46 (by decide) (fun c => absurd (by decide) c) (fun _ => ?_)
  refine lv_iconst (v := 1) hx hb dX12_node_49 (by decide) ?_
  refine lv_goto (tgt := 67) hx hb dX12_node_50 (by decide) ?_
  refine z_calli [(a0, zO 10 83 g0)] [(a1, zI K 16 f1)] [0] [1] hP hD hS hA rfl rfl (by decide) (by decide) (by decide +kernel) 0 0 rfl rfl (fun hPc hDc hF => z_runV (As := [.int 1]) (rest := []) ⟨hx, hb, hml, hown, hg⟩ (cX12_can_2 l K H.size a0 g0) kV_RX12_182 hd_X12_can rfl rfl ⟨(Nat.le_of_ble_eq_true rfl), (Nat.le_of_ble_eq_true rfl)⟩ hK hS hZ hPc hDc hF 0 rfl rfl rfl hl.1 rfl (Nat.le_of_ble_eq_true rfl) dX12_node_67 ⟨(Nat.le_of_ble_eq_true rfl), (Nat.le_of_ble_eq_true rfl)⟩) (fun r9 u7 H locs w8 hP hD hS => ?_)
  subst w8
  have hP : va_P K.1 classes [(a1, zI K 16 f1), (a0, zO 10 83 (va_up g0 81 (.int 1)))] H := hP
  have hD : va_D A [(a1, zI K 16 f1), (a0, zO 10 83 (va_up g0 81 (.int 1)))] := hD
  refine lv_if_ne (tgt := 75) hx hb dX12_node_70 (by decide) (fun c => absurd (by decide) c) (fun _ => ?_)
  refine lv_iconst (v := 0) hx hb dX12_node_73 (by decide) ?_
  have hP9 : va_P K.1 classes [(a0, zO 10 83 (va_up g0 81 (.int 1)))] H := hP.sub [1] rfl
  have hD9 : va_D A [(a0, zO 10 83 (va_up g0 81 (.int 1)))] := hD.sub [1] (by decide) rfl
  exact z_iret hx hb hr (fun _ => 0) rfl hP9 hD9 hS (Nat.le_of_ble_eq_true rfl) (Nat.le_of_ble_eq_true rfl) hlocks dX12_node_74
set_option maxHeartbeats 4000000 in
set_option maxRecDepth 100000 in
theorem cX11_node_4 (l : Launch) (hl9 : l.stackTraces = false) (K : zK) (sz : Nat) (a0 : Nat) (g0 : Nat → Value) (x0 : Int32) (x1 : Int32) (x2 : Int32) (e0 : ¬ x0 < (0 : Int32)) (e1 : ¬ x0 < (8 : Int32)) : vx_Met l yX11_node (Cond.code yX11_node cX11_node 5 (some .int) :: WG) { frames := 7, cells := 1, slots := 6, locals := 104 } (zPre K [(a0, zO 9 9 g0)] sz [.ref a0, .int x0, .int x1, .int x2]) (va_Qv (fun _ : Unit => False) (fun _ _ => True) (va_A [(a0, zO 9 9 g0)] sz)) (zX (va_A [(a0, zO 9 9 g0)] sz) zIA) 1 6 (va_A [(a0, zO 9 9 g0)] sz) := by
  refine z_xmet (Qc := fun A => va_Qv (fun _ : Unit => False) (fun _ _ => True) A) (XC := fun A => zX A zIA) (by decide +kernel) (Nat.le_of_ble_eq_true rfl) ?_
  intro p e s m args below meth c A ls H hx hb hr hg hown hlocks hml hno hK hP hD hA hS hZ hl
  have hown : s.vm.findClass RX11 = some m.cls := hown
  have hl : lv_has ls 5 [(0, .ref a0), (1, .int x0), (2, .int x1), (3, .int x2)] := hl
  refine lv_aload_n hx hb dX11_node_0 rfl (lv_at hl 0 rfl) ?_
  refine lv_iload_n hx hb dX11_node_1 rfl (lv_at hl 1 rfl) ?_
  refine lv_bipush (v := 8) hx hb dX11_node_2 (by decide) ?_
  refine z_xcall (EX := zIA) [(a0, zO 9 9 g0)] [0] hP hD hS hA rfl (by decide) 1 6 rfl rfl (fun hPc hDc hF => z_xrunV (As := [.int x0, .int 8]) (rest := []) ⟨hx, hb, hml, hown, hg⟩ (cX11_checkRange_6 l hl9 K H.size a0 g0 x0 e0 e1) kV_RX11_72 hd_X11_checkRange rfl rfl ⟨(Nat.le_of_ble_eq_true rfl), (Nat.le_of_ble_eq_true rfl)⟩ hK hS hZ hPc hDc hF 0 rfl rfl rfl hl.1 rfl (Nat.le_of_ble_eq_true rfl) dX11_node_4 ⟨(Nat.le_of_ble_eq_true rfl), (Nat.le_of_ble_eq_true rfl)⟩) (fun ce q9 H locs hS hce hcv hcl => ?_)
  exact z_xout hno hlocks hS hce hcv hcl (Nat.le_of_ble_eq_true rfl) (Nat.le_of_ble_eq_true rfl)
set_option maxHeartbeats 4000000 in
set_option maxRecDepth 100000 in
theorem cL_node_4 (l : Launch) (hl9 : l.stackTraces = false) (K : zK) (sz : Nat) (a0 : Nat) (a1 : Nat) (g0 : Nat → Value) (x0 : Int32) (x1 : Int32) (x2 : Int32) (e0 : ¬ x0 < (0 : Int32)) (e1 : ¬ x0 < (8 : Int32)) : vx_Met l yL_node (Cond.codeWith yL_node cL_node 6 (some .int) [(0, 12, 15, 27), (0, 12, 19, 18)] :: WG) { frames := 8, cells := 1, slots := 6, locals := 128 } (zPre K [(a0, zO 9 9 g0)] sz [.ref a0, .int x0, .int x1, .int x2, .ref a1]) (va_Qi (fun (r : Int32) (_ : Nat → Nat) => r = 2) (zB K (va_A [(a0, zO 9 9 g0)] sz) (fun u : Nat → Nat => [])) (va_A [(a0, zO 9 9 g0)] sz)) (vx_X (fun _ : Unit => False) (fun _ _ _ => True) (va_A [(a0, zO 9 9 g0)] sz)) 1 6 (va_A [(a0, zO 9 9 g0)] sz) := by
  refine z_hmet (Qc := fun A => (va_Qi (fun (r : Int32) (_ : Nat → Nat) => r = 2) (zB K A (fun u : Nat → Nat => [])) A)) (XC := fun A => vx_X (fun _ : Unit => False) (fun _ _ _ => True) A) (by decide +kernel) (Nat.le_of_ble_eq_true rfl) ?_
  intro p e s m args below meth c A ls H hx hb hr hg hown hlocks hml hTab hK hP hD hA hS hZ hl
  have hown : s.vm.findClass RL = some m.cls := hown
  have hl : lv_has ls 6 [(0, .ref a0), (1, .int x0), (2, .int x1), (3, .int x2), (4, .ref a1)] := hl
  refine lv_aload hx hb dL_node_0 (lv_at hl 4 rfl) ?_
  refine lv_iconst (v := 0) hx hb dL_node_2 (by decide) ?_
  refine lv_aload_n hx hb dL_node_3 rfl (lv_at hl 0 rfl) ?_
  refine lv_iload_n hx hb dL_node_4 rfl (lv_at hl 1 rfl) ?_
  refine lv_iload_n hx hb dL_node_5 rfl (lv_at hl 2 rfl) ?_
  refine lv_iload_n hx hb dL_node_6 rfl (lv_at hl 3 rfl) ?_
  refine z_xcall (EX := zIA) [(a0, zO 9 9 g0)] [0] hP hD hS hA rfl (by decide) 1 6 rfl rfl (fun hPc hDc hF => z_xrunV (As := [.int x0, .int x1, .int x2]) (rest := [.int 0, .ref a1]) ⟨hx, hb, hml, hown, hg⟩ (cX11_node_4 l hl9 K H.size a0 g0 x0 x1 x2 e0 e1) kV_RL_91 hd_X11_node rfl rfl ⟨(Nat.le_of_ble_eq_true rfl), (Nat.le_of_ble_eq_true rfl)⟩ hK hS hZ hPc hDc hF 0 rfl rfl rfl hl.1 rfl (Nat.le_of_ble_eq_true rfl) dL_node_7 ⟨(Nat.le_of_ble_eq_true rfl), (Nat.le_of_ble_eq_true rfl)⟩) (fun ce q9 H locs hS hce hcv hcl => ?_)
  refine vx_catch (own := RL) (name := zIA) (E := zIA) hown [⟨0, 12, 15, 27⟩] ⟨0, 12, 19, 18⟩ [] (by rw [hTab]; rfl) (zP1 (Or.inr ⟨by decide, zIB, hg _ mt526, hZ.1.2.1.1⟩) zP0) (by decide) (by decide) (hg _ mt491) (va_Nw.use rfl hZ.1.1.2.1) hce hcv hcl ?_
  have hP : va_P K.1 classes [] H := z_P0
  have hD : va_D A [] := z_D0
  refine lv_astore (lv' := [(5, .ref q9), (0, .ref a0), (1, .int x0), (2, .int x1), (3, .int x2), (4, .ref a1)]) hx hb dL_node_19 hl (by decide) rfl (fun ls hl => ?_)
  refine lv_iconst (v := 2) hx hb dL_node_21 (by decide) ?_
  have hP9 : va_P K.1 classes [] H := hP.sub [] rfl
  have hD9 : va_D A [] := hD.sub [] (by decide) rfl
  exact z_iret hx hb hr (fun _ => 0) rfl hP9 hD9 hS (Nat.le_of_ble_eq_true rfl) (Nat.le_of_ble_eq_true rfl) hlocks dL_node_22
set_option maxHeartbeats 4000000 in
set_option maxRecDepth 100000 in
theorem cX12_node_4 (l : Launch) (K : zK) (sz : Nat) (a0 : Nat) (g0 : Nat → Value) (x0 : Int32) (x1 : Int32) (x2 : Int32) (e0 : ¬ x0 < (0 : Int32)) (e1 : (7 : Int32) < x0) : Met l yX12_node (Cond.code yX12_node cX12_node 7 (some .int) :: WG) { frames := 2, cells := 0, slots := 0, locals := 42 } (zPre K [(a0, zO 10 83 g0)] sz [.ref a0, .int x0, .int x1, .int x2]) (va_Qi (fun (r : Int32) (_ : Nat → Nat) => r = 0) (zB K (va_A [(a0, zO 10 83 g0)] sz) (fun u : Nat → Nat => [(a0, zO 10 83 (va_up g0 81 (.int 2)))])) (va_A [(a0, zO 10 83 g0)] sz)) 0 0 (va_A [(a0, zO 10 83 g0)] sz) := by
  refine z_met (Qc := fun A => (va_Qi (fun (r : Int32) (_ : Nat → Nat) => r = 0) (zB K A (fun u : Nat → Nat => [(a0, zO 10 83 (va_up g0 81 (.int 2)))])) A)) (by decide +kernel) (Nat.le_of_ble_eq_true rfl) ?_
  intro p e s m args below meth c A ls H hx hb hr hg hown hlocks hml hin hK hP hD hA hS hZ hl
  have hown : s.vm.findClass RX12 = some m.cls := hown
  have hl : lv_has ls 7 [(0, .ref a0), (1, .int x0), (2, .int x1), (3, .int x2)] := hl
  refine lv_iload_n hx hb dX12_node_0 rfl (lv_at hl 1 rfl) ?_
  refine z_calli [] [(a0, zO 10 83 g0)] [] [0] hP hD hS hA rfl rfl (by decide) (by decide) (by decide +kernel) 0 0 rfl rfl (fun hPc hDc hF => z_runS (As := [.int x0]) (rest := []) ⟨hx, hb, hml, hown, hg⟩ (cX12_isGlobal_3 l K H.size x0 e0 e1) kS_RX12_197 hd_X12_isGlobal rfl rfl ⟨(Nat.le_of_ble_eq_true rfl), (Nat.le_of_ble_eq_true rfl)⟩ hK hS hZ hPc hDc hF rfl hl.1 rfl (Nat.le_of_ble_eq_true rfl) dX12_node_1 ⟨(Nat.le_of_ble_eq_true rfl), (Nat.le_of_ble_eq_true rfl)⟩) (fun r3 u1 H locs w2 hP hD hS => ?_)
  subst w2
  have hP : va_P K.1 classes [(a0, zO 10 83 g0)] H := hP
  have hD : va_D A [(a0, zO 10 83 g0)] := hD
  refine lv_istore (lv' := [(4, .int 0), (0, .ref a0), (1, .int x0), (2, .int x1), (3, .int x2)]) hx hb dX12_node_4 hl (by decide) rfl (fun ls hl => ?_)
  refine lv_iload hx hb dX12_node_6 (lv_at hl 0 rfl) ?_
  refine lv_if_eq (tgt := 31) hx hb dX12_node_8 (by decide) (fun _ => ?_) (fun c => absurd (by decide) c)
  refine lv_iconst (v := 0) hx hb dX12_node_31 (by decide) ?_
  refine lv_istore (lv' := [(5, .int 0), (4, .int 0), (0, .ref a0), (1, .int x0), (2, .int x1), (3, .int x2)]) hx hb dX12_node_32 hl (by decide) rfl (fun ls hl => ?_)
  refine lv_aload_n hx hb dX12_node_34 rfl (lv_at hl 2 rfl) ?_
  refine lv_iload hx hb dX12_node_35 (lv_at hl 1 rfl) ?_
  refine lv_if_ne (tgt := 44) hx hb dX12_node_37 (by decide) (fun c => absurd (by decide) c) (fun _ => ?_)
  refine lv_iconst (v := 2) hx hb dX12_node_40 (by decide) ?_
  refine lv_goto (tgt := 67) hx hb dX12_node_41 (by decide) ?_
  refine z_calli [(a0, zO 10 83 g0)] [] [0] [] hP hD hS hA rfl rfl (by decide) (by decide) (by decide +kernel) 0 0 rfl rfl (fun hPc hDc hF => z_runV (As := [.int 2]) (rest := []) ⟨hx, hb, hml, hown, hg⟩ (cX12_can_3 l K H.size a0 g0) kV_RX12_182 hd_X12_can rfl rfl ⟨(Nat.le_of_ble_eq_true rfl), (Nat.le_of_ble_eq_true rfl)⟩ hK hS hZ hPc hDc hF 0 rfl rfl rfl hl.1 rfl (Nat.le_of_ble_eq_true rfl) dX12_node_67 ⟨(Nat.le_of_ble_eq_true rfl), (Nat.le_of_ble_eq_true rfl)⟩) (fun r6 u4 H locs w5 hP hD hS => ?_)
  subst w5
  have hP : va_P K.1 classes [(a0, zO 10 83 (va_up g0 81 (.int 2)))] H := hP
  have hD : va_D A [(a0, zO 10 83 (va_up g0 81 (.int 2)))] := hD
  refine lv_if_ne (tgt := 75) hx hb dX12_node_70 (by decide) (fun c => absurd (by decide) c) (fun _ => ?_)
  refine lv_iconst (v := 0) hx hb dX12_node_73 (by decide) ?_
  have hP9 : va_P K.1 classes [(a0, zO 10 83 (va_up g0 81 (.int 2)))] H := hP.sub [0] rfl
  have hD9 : va_D A [(a0, zO 10 83 (va_up g0 81 (.int 2)))] := hD.sub [0] (by decide) rfl
  exact z_iret hx hb hr (fun _ => 0) rfl hP9 hD9 hS (Nat.le_of_ble_eq_true rfl) (Nat.le_of_ble_eq_true rfl) hlocks dX12_node_74
